set_option maxHeartbeats 4000000 in
set_option maxRecDepth 100000 in
theorem c_X1_init {l : Launch} {D : va_G} {cy : Nat → ClassId} {L0 : List Nat} {C0 : Nat → Nat} {b0 : Nat} {I0 : hI} {J0 : hJ} {R0 : hR} {a0 a1 a2 a3 a4 : Nat} (kk : KK L0 C0 I0 R0 [17, 0, 2, 3, 4, 6, 8, 16, 18, 19, 20, 22, 24, 25, 26, 32, 33, 34, 35, 36, 37, 38, 39, 40, 41, 42, 43, 44, 45, 46, 47, 48, 49, 60]) (ma0 : a0 ∈ L0) (ka0 : C0 a0 = 17) (ria0 : I0 a0 = il []) (rra0 : R0 a0 = rl []) (ma1 : a1 ∈ L0) (ka1 : C0 a1 = 6) (ma2 : a2 ∈ L0) (ka2 : C0 a2 = 2) (ma3 : a3 ∈ L0) (ka3 : C0 a3 = 3) (ma4 : a4 ∈ L0) (ka4 : C0 a4 = 4) (z0 : Z0 L0 C0 I0 J0) (ow0 : Ow L0 C0 R0) : CA l yX1_init cX1_init 7 2 8 79 D cy L0 C0 b0 [.ref a0, .ref a1, .ref a2, .ref a3, .ref a4] (I0, J0, R0) (fun q => KK q.1 q.2.1 q.2.2.1 q.2.2.2.2 [0, 1, 2, 3, 4, 5, 6, 8, 16, 17, 18, 19, 20, 21, 22, 24, 25, 26, 32, 33, 34, 35, 36, 37, 38, 39, 40, 41, 42, 43, 44, 45, 46, 47, 48, 49, 50, 51, 52, 53, 54, 55, 59, 60] ∧ Old L0 C0 (I0, J0, R0) a0 q.1 q.2.1 q.2.2.1 q.2.2.2.1 q.2.2.2.2 ∧ q.2.1 a0 = 1 ∧ Z0 q.1 q.2.1 q.2.2.1 q.2.2.2.1 ∧ Ow q.1 q.2.1 q.2.2.2.2 ∧ (∃ kc a b : Nat, kc ∈ q.1 ∧ q.2.1 kc = 1 ∧ a ∈ q.1 ∧ q.2.1 a = 53 ∧ b ∈ q.1 ∧ q.2.1 b = 53 ∧ q.2.2.2.2 kc 8 = some a ∧ q.2.2.2.2 kc 9 = some b ∧ a ≠ b)) := by
  refine CA.mk (plainFor_of_name (by decide)) (Nat.le_of_ble_eq_true rfl) ?_
  intro p e s m args below meth c ls Q hF hin ret hH hl
  obtain ⟨hx, hb, -, hml, hown, hts, -⟩ := hF
  have hl : lv_has ls 7 [(0, .ref a0), (1, .ref a1), (2, .ref a2), (3, .ref a3), (4, .ref a4)] := hl
  have hH : Hp D cy L0 C0 b0 s s.heap I0 J0 R0 s.heap [] := hH
  have old : Old L0 C0 (I0, J0, R0) a0 L0 C0 I0 J0 R0 := Old.rf
  have hS0 := kk.2.2.2.1
  have kk0 := kk.2.1
  have al : AJ L0 C0 I0 [] := AJ.nil
  have al := al.con0 ma1 ka1 rfl
  have al := al.con0 ma2 ka2 rfl
  have al := al.con0 ma3 ka3 rfl
  have al := al.con0 ma4 ka4 rfl
  refine lv_aload_n hx hb dX1_init_0 rfl (lv_at hl 0 rfl) ?_
  refine W.objInit hx hb hown (hts _ km_X1_3) (hts _ ki_objectInit) (hts _ kc_objectInit) rfl (by rw [hml]; exact hl.1) rfl dX1_init_1 (Nat.le_of_ble_eq_true rfl) (Nat.le_of_ble_eq_true rfl) ?_
  refine W.eq (g2 := F0 m 4 ls []) rfl ?_
  refine lv_aload_n hx hb dX1_init_4 rfl (lv_at hl 0 rfl) ?_
  refine lv_iconst (v := 4) hx hb dX1_init_5 (by decide) ?_
  refine hNewP (k := 1) (r := 50) (N := 4) (atype := .long) (ty := .long) (a0 := (4, .inr (.inl (fun _ => 0)))) hx hb hts hH rfl kac_long rfl rfl rfl (eN_J rfl rfl) (by decide) (by decide) (by decide) (by decide) (by decide) dX1_init_6 (fun q1 L1 C1 I1 J1 R1 H g1 eI1 eJ1 eR1 hH => ?_)
  have nq1 : q1 ∉ L0 := fun h => g1.2.2 (old q1 h).1
  have rra0 : R1 a0 = rl [] := by rw [eR1, va_up_ne _ _ (g1.ne ma0)]; exact rra0
  have ria0 : I1 a0 = il [] := by rw [eI1, va_up_ne _ _ (g1.ne ma0)]; exact ria0
  have ka0 := g1.role ma0 ka0
  have ma0 := g1.mem ma0
  have mq1 := g1.new
  have kq1 := g1.at
  have al := al.new g1 eI1
  have z0 := z0.new g1 eI1 eJ1
  have ow0 := ow0.new g1 eR1
  have al := al.con0 mq1 kq1 rfl
  have kk := kk.new g1 eI1 eR1 zz_50 zr_50 (Or.inr rfl) (by decide)
  have old := old.new g1 eI1 eJ1 eR1
  refine pf_1_4 hx hb hts hown hH hin rfl ma0 ka0 rfl kf_X1_9 dX1_init_8 (fun R2 H locs eR2 hH => ?_)
  have rra0 : R2 a0 = rl [(4, q1)] := by rw [eR2]; exact rl_put rra0
  have kk : KK L1 C1 I1 R2 [50, 17, 0, 2, 3, 4, 6, 8, 16, 18, 19, 20, 22, 24, 25, 26, 32, 33, 34, 35, 36, 37, 38, 39, 40, 41, 42, 43, 44, 45, 46, 47, 48, 49, 60] := by rw [eR2]; exact kk.stR ka0 zr_17
  have old : Old L0 C0 (I0, J0, R0) a0 L1 C1 I1 J1 R2 := by rw [eR2]; exact old.stR (Or.inl rfl)
  have ow0 := ow0.stR ka0 rfl eR2
  refine lv_aload_n hx hb dX1_init_11 rfl (lv_at hl 0 rfl) ?_
  refine lv_bipush (v := 11) hx hb dX1_init_12 (by decide) ?_
  refine hNewQ (k := 3) (r := 59) (N := 11) (C0 := RX5) hx hb hts hown hH kcl_X1_15 hH.2.2.2.2.2.2.1.1 rfl (eN_M rfl rfl) (by decide) (by decide) (by decide) (by decide) (by decide) dX1_init_14 (fun q3 L3 C3 I3 J3 R3 H g3 eI3 eJ3 eR3 hH => ?_)
  have nq3 : q3 ∉ L0 := fun h => g3.2.2 (old q3 h).1
  have rra0 : R3 a0 = rl [(4, q1)] := by rw [eR3, va_up_ne _ _ (g3.ne ma0)]; exact rra0
  have ria0 : I3 a0 = il [] := by rw [eI3, va_up_ne _ _ (g3.ne ma0)]; exact ria0
  have ka0 := g3.role ma0 ka0
  have ma0 := g3.mem ma0
  have mq3 := g3.new
  have kq3 := g3.at
  have al := al.new g3 eI3
  have z0 := z0.new g3 eI3 eJ3
  have ow0 := ow0.new g3 eR3
  have rrq3 : R3 q3 = rl [] := by rw [eR3, va_up_self]; rfl
  have riq3 : I3 q3 = il [] := by rw [eI3, va_up_self]; rfl
  have kk := kk.new g3 eI3 eR3 zz_59 zr_59 (Or.inl rfl) (by decide)
  have old := old.new g3 eI3 eJ3 eR3
  refine pf_1_5 hx hb hts hown hH hin rfl ma0 ka0 rfl kf_X1_17 dX1_init_17 (fun R4 H locs eR4 hH => ?_)
  have rrq3 : R4 q3 = rl [] := by rw [eR4, u2_ne (ne_role kq3 ka0 (by decide))]; exact rrq3
  have rra0 : R4 a0 = rl [(5, q3), (4, q1)] := by rw [eR4]; exact rl_put rra0
  have kk : KK L3 C3 I3 R4 [59, 50, 17, 0, 2, 3, 4, 6, 8, 16, 18, 19, 20, 22, 24, 25, 26, 32, 33, 34, 35, 36, 37, 38, 39, 40, 41, 42, 43, 44, 45, 46, 47, 48, 49, 60] := by rw [eR4]; exact kk.stR ka0 zr_17
  have old : Old L0 C0 (I0, J0, R0) a0 L3 C3 I3 J3 R4 := by rw [eR4]; exact old.stR (Or.inl rfl)
  have ow0 := ow0.stR ka0 rfl eR4
  refine lv_aload_n hx hb dX1_init_20 rfl (lv_at hl 0 rfl) ?_
  refine lv_bipush (v := 40) hx hb dX1_init_21 (by decide) ?_
  refine hNewP (k := 0) (r := 52) (N := 40) (atype := .int) (ty := .int) (a0 := (40, .inl (fun _ => 0))) hx hb hts hH rfl kac_int rfl rfl rfl (eN_I rfl rfl) (by decide) (by decide) (by decide) (by decide) (by decide) dX1_init_23 (fun q5 L5 C5 I5 J5 R5 H g5 eI5 eJ5 eR5 hH => ?_)
  have nq5 : q5 ∉ L0 := fun h => g5.2.2 (old q5 h).1
  have rra0 : R5 a0 = rl [(5, q3), (4, q1)] := by rw [eR5, va_up_ne _ _ (g5.ne ma0)]; exact rra0
  have ria0 : I5 a0 = il [] := by rw [eI5, va_up_ne _ _ (g5.ne ma0)]; exact ria0
  have ka0 := g5.role ma0 ka0
  have ma0 := g5.mem ma0
  have rrq3 : R5 q3 = rl [] := by rw [eR5, va_up_ne _ _ (g5.ne mq3)]; exact rrq3
  have riq3 : I5 q3 = il [] := by rw [eI5, va_up_ne _ _ (g5.ne mq3)]; exact riq3
  have kq3 := g5.role mq3 kq3
  have mq3 := g5.mem mq3
  have mq5 := g5.new
  have kq5 := g5.at
  have al := al.new g5 eI5
  have z0 := z0.new g5 eI5 eJ5
  have ow0 := ow0.new g5 eR5
  have al := al.con0 mq5 kq5 rfl
  have kk := kk.new g5 eI5 eR5 zz_52 zr_52 (Or.inr rfl) (by decide)
  have old := old.new g5 eI5 eJ5 eR5
  refine pf_1_6 hx hb hts hown hH hin rfl ma0 ka0 rfl kf_X1_21 dX1_init_25 (fun R6 H locs eR6 hH => ?_)
  have rrq3 : R6 q3 = rl [] := by rw [eR6, u2_ne (ne_role kq3 ka0 (by decide))]; exact rrq3
  have rra0 : R6 a0 = rl [(6, q5), (5, q3), (4, q1)] := by rw [eR6]; exact rl_put rra0
  have kk : KK L5 C5 I5 R6 [52, 59, 50, 17, 0, 2, 3, 4, 6, 8, 16, 18, 19, 20, 22, 24, 25, 26, 32, 33, 34, 35, 36, 37, 38, 39, 40, 41, 42, 43, 44, 45, 46, 47, 48, 49, 60] := by rw [eR6]; exact kk.stR ka0 zr_17
  have old : Old L0 C0 (I0, J0, R0) a0 L5 C5 I5 J5 R6 := by rw [eR6]; exact old.stR (Or.inl rfl)
  have ow0 := ow0.stR ka0 rfl eR6
  refine lv_aload_n hx hb dX1_init_28 rfl (lv_at hl 0 rfl) ?_
  refine lv_iconst (v := 0) hx hb dX1_init_29 (by decide) ?_
  refine pf_1_7 hx hb hts hown hH ma0 ka0 rfl kf_X1_25 dX1_init_30 (fun I7 H locs eI7 hH => ?_)
  have riq3 : I7 q3 = il [] := by rw [eI7, u2_ne (ne_role kq3 ka0 (by decide))]; exact riq3
  have ria0 : I7 a0 = il [(7, 0)] := by rw [eI7]; exact il_put ria0
  have kk : KK L5 C5 I7 R6 [52, 59, 50, 17, 0, 2, 3, 4, 6, 8, 16, 18, 19, 20, 22, 24, 25, 26, 32, 33, 34, 35, 36, 37, 38, 39, 40, 41, 42, 43, 44, 45, 46, 47, 48, 49, 60] := by rw [eI7]; exact kk.stI ka0 ⟨by decide, by decide⟩
  have old : Old L0 C0 (I0, J0, R0) a0 L5 C5 I7 J5 R6 := by rw [eI7]; exact old.stI (Or.inl rfl)
  have al := al.stI ka0 rfl eI7
  have z0 := z0.stI ka0 rfl eI7
  refine lv_aload_n hx hb dX1_init_33 rfl (lv_at hl 0 rfl) ?_
  refine lv_iconst (v := 4) hx hb dX1_init_34 (by decide) ?_
  refine hNewP (k := 1) (r := 53) (N := 4) (atype := .long) (ty := .long) (a0 := (4, .inr (.inl (fun _ => 0)))) hx hb hts hH rfl kac_long rfl rfl rfl (eN_J rfl rfl) (by decide) (by decide) (by decide) (by decide) (by decide) dX1_init_35 (fun q8 L8 C8 I8 J8 R8 H g8 eI8 eJ8 eR8 hH => ?_)
  have nq8 : q8 ∉ L0 := fun h => g8.2.2 (old q8 h).1
  have rra0 : R8 a0 = rl [(6, q5), (5, q3), (4, q1)] := by rw [eR8, va_up_ne _ _ (g8.ne ma0)]; exact rra0
  have ria0 : I8 a0 = il [(7, 0)] := by rw [eI8, va_up_ne _ _ (g8.ne ma0)]; exact ria0
  have ka0 := g8.role ma0 ka0
  have ma0 := g8.mem ma0
  have rrq3 : R8 q3 = rl [] := by rw [eR8, va_up_ne _ _ (g8.ne mq3)]; exact rrq3
  have riq3 : I8 q3 = il [] := by rw [eI8, va_up_ne _ _ (g8.ne mq3)]; exact riq3
  have kq3 := g8.role mq3 kq3
  have mq3 := g8.mem mq3
  have mq8 := g8.new
  have kq8 := g8.at
  have al := al.new g8 eI8
  have z0 := z0.new g8 eI8 eJ8
  have ow0 := ow0.new g8 eR8
  have al := al.con0 mq8 kq8 rfl
  have kk := kk.new g8 eI8 eR8 zz_53 zr_53 (Or.inl rfl) (by decide)
  have old := old.new g8 eI8 eJ8 eR8
  refine pf_1_8 hx hb hts hown hH ma0 ka0 rfl kf_X1_29 dX1_init_37 (fun R9 H locs eR9 hH => ?_)
  have rrq3 : R9 q3 = rl [] := by rw [eR9, u2_ne (ne_role kq3 ka0 (by decide))]; exact rrq3
  have rra0 : R9 a0 = rl [(8, q8), (6, q5), (5, q3), (4, q1)] := by rw [eR9]; exact rl_put rra0
  have kk : KK L8 C8 I8 R9 [53, 52, 59, 50, 17, 0, 2, 3, 4, 6, 8, 16, 18, 19, 20, 22, 24, 25, 26, 32, 33, 34, 35, 36, 37, 38, 39, 40, 41, 42, 43, 44, 45, 46, 47, 48, 49, 60] := by rw [eR9]; exact kk.stR ka0 zr_17
  have old : Old L0 C0 (I0, J0, R0) a0 L8 C8 I8 J8 R9 := by rw [eR9]; exact old.stR (Or.inl rfl)
  have ow0 := ow0.stR ka0 rfl eR9
  refine lv_aload_n hx hb dX1_init_40 rfl (lv_at hl 0 rfl) ?_
  refine lv_iconst (v := 4) hx hb dX1_init_41 (by decide) ?_
  refine hNewP (k := 1) (r := 53) (N := 4) (atype := .long) (ty := .long) (a0 := (4, .inr (.inl (fun _ => 0)))) hx hb hts hH rfl kac_long rfl rfl rfl (eN_J rfl rfl) (by decide) (by decide) (by decide) (by decide) (by decide) dX1_init_42 (fun q10 L10 C10 I10 J10 R10 H g10 eI10 eJ10 eR10 hH => ?_)
  have mq8 : q8 ∈ L8 := (al.at (i := 0) rfl).1
  have kq8 : C8 q8 = 53 := (al.at (i := 0) rfl).2
  have nab := g10.ne mq8
  have nq10 : q10 ∉ L0 := fun h => g10.2.2 (old q10 h).1
  have rra0 : R10 a0 = rl [(8, q8), (6, q5), (5, q3), (4, q1)] := by rw [eR10, va_up_ne _ _ (g10.ne ma0)]; exact rra0
  have ria0 : I10 a0 = il [(7, 0)] := by rw [eI10, va_up_ne _ _ (g10.ne ma0)]; exact ria0
  have ka0 := g10.role ma0 ka0
  have ma0 := g10.mem ma0
  have rrq3 : R10 q3 = rl [] := by rw [eR10, va_up_ne _ _ (g10.ne mq3)]; exact rrq3
  have riq3 : I10 q3 = il [] := by rw [eI10, va_up_ne _ _ (g10.ne mq3)]; exact riq3
  have kq3 := g10.role mq3 kq3
  have mq3 := g10.mem mq3
  have mq10 := g10.new
  have kq10 := g10.at
  have al := al.new g10 eI10
  have z0 := z0.new g10 eI10 eJ10
  have ow0 := ow0.new g10 eR10
  have al := al.con0 mq10 kq10 rfl
  have kk := kk.new g10 eI10 eR10 zz_53 zr_53 (Or.inl rfl) (by decide)
  have old := old.new g10 eI10 eJ10 eR10
  refine pf_1_9 hx hb hts hown hH ma0 ka0 rfl kf_X1_32 dX1_init_44 (fun R11 H locs eR11 hH => ?_)
  have rrq3 : R11 q3 = rl [] := by rw [eR11, u2_ne (ne_role kq3 ka0 (by decide))]; exact rrq3
  have rra0 : R11 a0 = rl [(9, q10), (8, q8), (6, q5), (5, q3), (4, q1)] := by rw [eR11]; exact rl_put rra0
  have kk : KK L10 C10 I10 R11 [53, 53, 52, 59, 50, 17, 0, 2, 3, 4, 6, 8, 16, 18, 19, 20, 22, 24, 25, 26, 32, 33, 34, 35, 36, 37, 38, 39, 40, 41, 42, 43, 44, 45, 46, 47, 48, 49, 60] := by rw [eR11]; exact kk.stR ka0 zr_17
  have old : Old L0 C0 (I0, J0, R0) a0 L10 C10 I10 J10 R11 := by rw [eR11]; exact old.stR (Or.inl rfl)
  have ow0 := ow0.stR ka0 rfl eR11
  refine lv_aload_n hx hb dX1_init_47 rfl (lv_at hl 0 rfl) ?_
  refine lv_lconst (v := 0) hx hb dX1_init_48 (by decide) ?_
  refine pf_1_10 hx hb hts hown hH ma0 ka0 rfl kf_X1_35 dX1_init_49 (fun J12 H locs eJ12 hH => ?_)
  have old : Old L0 C0 (I0, J0, R0) a0 L10 C10 I10 J12 R11 := by rw [eJ12]; exact old.stJ (Or.inl rfl)
  have z0 := z0.stJ eJ12
  refine lv_aload_n hx hb dX1_init_52 rfl (lv_at hl 0 rfl) ?_
  refine lv_aload_n hx hb dX1_init_53 rfl (lv_at hl 1 rfl) ?_
  refine pf_1_0 hx hb hts hown hH hin rfl ma0 ka0 rfl kf_X1_39 dX1_init_54 (fun R13 H locs eR13 hH => ?_)
  have rrq3 : R13 q3 = rl [] := by rw [eR13, u2_ne (ne_role kq3 ka0 (by decide))]; exact rrq3
  have rra0 : R13 a0 = rl [(0, a1), (9, q10), (8, q8), (6, q5), (5, q3), (4, q1)] := by rw [eR13]; exact rl_put rra0
  have kk : KK L10 C10 I10 R13 [53, 53, 52, 59, 50, 17, 0, 2, 3, 4, 6, 8, 16, 18, 19, 20, 22, 24, 25, 26, 32, 33, 34, 35, 36, 37, 38, 39, 40, 41, 42, 43, 44, 45, 46, 47, 48, 49, 60] := by rw [eR13]; exact kk.stR ka0 zr_17
  have old : Old L0 C0 (I0, J0, R0) a0 L10 C10 I10 J12 R13 := by rw [eR13]; exact old.stR (Or.inl rfl)
  have ow0 := ow0.stR ka0 rfl eR13
  refine lv_aload_n hx hb dX1_init_57 rfl (lv_at hl 0 rfl) ?_
  refine lv_aload_n hx hb dX1_init_58 rfl (lv_at hl 2 rfl) ?_
  refine pf_1_1 hx hb hts hown hH hin rfl ma0 ka0 rfl kf_X1_43 dX1_init_59 (fun R14 H locs eR14 hH => ?_)
  have rrq3 : R14 q3 = rl [] := by rw [eR14, u2_ne (ne_role kq3 ka0 (by decide))]; exact rrq3
  have rra0 : R14 a0 = rl [(1, a2), (0, a1), (9, q10), (8, q8), (6, q5), (5, q3), (4, q1)] := by rw [eR14]; exact rl_put rra0
  have kk : KK L10 C10 I10 R14 [53, 53, 52, 59, 50, 17, 0, 2, 3, 4, 6, 8, 16, 18, 19, 20, 22, 24, 25, 26, 32, 33, 34, 35, 36, 37, 38, 39, 40, 41, 42, 43, 44, 45, 46, 47, 48, 49, 60] := by rw [eR14]; exact kk.stR ka0 zr_17
  have old : Old L0 C0 (I0, J0, R0) a0 L10 C10 I10 J12 R14 := by rw [eR14]; exact old.stR (Or.inl rfl)
  have ow0 := ow0.stR ka0 rfl eR14
  refine lv_aload_n hx hb dX1_init_62 rfl (lv_at hl 0 rfl) ?_
  refine lv_aload_n hx hb dX1_init_63 rfl (lv_at hl 3 rfl) ?_
  refine pf_1_2 hx hb hts hown hH hin rfl ma0 ka0 rfl kf_X1_47 dX1_init_64 (fun R15 H locs eR15 hH => ?_)
  have rrq3 : R15 q3 = rl [] := by rw [eR15, u2_ne (ne_role kq3 ka0 (by decide))]; exact rrq3
  have rra0 : R15 a0 = rl [(2, a3), (1, a2), (0, a1), (9, q10), (8, q8), (6, q5), (5, q3), (4, q1)] := by rw [eR15]; exact rl_put rra0
  have kk : KK L10 C10 I10 R15 [53, 53, 52, 59, 50, 17, 0, 2, 3, 4, 6, 8, 16, 18, 19, 20, 22, 24, 25, 26, 32, 33, 34, 35, 36, 37, 38, 39, 40, 41, 42, 43, 44, 45, 46, 47, 48, 49, 60] := by rw [eR15]; exact kk.stR ka0 zr_17
  have old : Old L0 C0 (I0, J0, R0) a0 L10 C10 I10 J12 R15 := by rw [eR15]; exact old.stR (Or.inl rfl)
  have ow0 := ow0.stR ka0 rfl eR15
  refine lv_aload_n hx hb dX1_init_67 rfl (lv_at hl 0 rfl) ?_
  refine lv_aload hx hb dX1_init_68 (lv_at hl 4 rfl) ?_
  refine pf_1_3 hx hb hts hown hH hin rfl ma0 ka0 rfl kf_X1_51 dX1_init_70 (fun R16 H locs eR16 hH => ?_)
  have rrq3 : R16 q3 = rl [] := by rw [eR16, u2_ne (ne_role kq3 ka0 (by decide))]; exact rrq3
  have rra0 : R16 a0 = rl [(3, a4), (2, a3), (1, a2), (0, a1), (9, q10), (8, q8), (6, q5), (5, q3), (4, q1)] := by rw [eR16]; exact rl_put rra0
  have kk : KK L10 C10 I10 R16 [53, 53, 52, 59, 50, 17, 0, 2, 3, 4, 6, 8, 16, 18, 19, 20, 22, 24, 25, 26, 32, 33, 34, 35, 36, 37, 38, 39, 40, 41, 42, 43, 44, 45, 46, 47, 48, 49, 60] := by rw [eR16]; exact kk.stR ka0 zr_17
  have old : Old L0 C0 (I0, J0, R0) a0 L10 C10 I10 J12 R16 := by rw [eR16]; exact old.stR (Or.inl rfl)
  have ow0 := ow0.stR ka0 rfl eR16
  refine hNew (ci := 5) (N := 8) hx hb hts hown hH inX5 tyX5_ok rfl (by decide) rfl df_5 kcl_X1_15 kinst_X5 kini_X5 (by decide) (by decide) dX1_init_73 (fun q17 L17 C17 I17 J17 R17 H g17 eI17 eJ17 eR17 hH => ?_)
  have nq17 : q17 ∉ L0 := fun h => g17.2.2 (old q17 h).1
  have rra0 : R17 a0 = rl [(3, a4), (2, a3), (1, a2), (0, a1), (9, q10), (8, q8), (6, q5), (5, q3), (4, q1)] := by rw [eR17, va_up_ne _ _ (g17.ne ma0)]; exact rra0
  have ria0 : I17 a0 = il [(7, 0)] := by rw [eI17, va_up_ne _ _ (g17.ne ma0)]; exact ria0
  have ka0 := g17.role ma0 ka0
  have ma0 := g17.mem ma0
  have rrq3 : R17 q3 = rl [] := by rw [eR17, va_up_ne _ _ (g17.ne mq3)]; exact rrq3
  have riq3 : I17 q3 = il [] := by rw [eI17, va_up_ne _ _ (g17.ne mq3)]; exact riq3
  have kq3 := g17.role mq3 kq3
  have mq3 := g17.mem mq3
  have mq17 := g17.new
  have kq17 := g17.at
  have al := al.new g17 eI17
  have z0 := z0.new g17 eI17 eJ17
  have ow0 := ow0.new g17 eR17
  have rrq17 : R17 q17 = rl [] := by rw [eR17, va_up_self]; rfl
  have riq17 : I17 q17 = il [] := by rw [eI17, va_up_self]; rfl
  have kk := kk.new g17 eI17 eR17 zz_21 zr_21 (Or.inl rfl) (by decide)
  have old := old.new g17 eI17 eJ17 eR17
  refine lv_dup hx hb dX1_init_76 rfl ?_
  refine afA (va_runIN (As := []) (rest := [.ref q17]) ⟨hx, hb, hml, hown, hts⟩ (c_X5_init kk mq17 kq17 riq17 rrq17 z0 ow0) ⟨va_cnB 0 hts (wG_code kc_yX5_init) rfl rfl rfl (hH.2.2.2.2.2.1 _ kn_X1_55) (hts _ kini_X5) ⟨by decide, by decide, by decide +kernel⟩ ⟨by decide, by decide⟩, rfl, hts _ ki_yX5_init⟩ (preS hH) rfl rfl hl.1 rfl (lv_room (Nat.le_of_ble_eq_true rfl)) dX1_init_77 ⟨by decide, by decide⟩) hH (fun L18 C18 I18 J18 R18 H locs hp hH => ?_)
  obtain ⟨kk, od18, kq18, z0, ow0, nw18⟩ := hp
  have ne18 : a0 ≠ q17 := ne_role ka0 kq17 (by decide)
  have rra0 : R18 a0 = rl [(3, a4), (2, a3), (1, a2), (0, a1), (9, q10), (8, q8), (6, q5), (5, q3), (4, q1)] := ((od18 a0 ma0).2 ne18).2.2.2.trans rra0
  have ria0 : I18 a0 = il [(7, 0)] := ((od18 a0 ma0).2 ne18).2.1.trans ria0
  have ka0 : C18 a0 = 17 := ((od18 a0 ma0).2 ne18).1.trans ka0
  have ma0 := (od18 a0 ma0).1
  have ne18 : q3 ≠ q17 := ne_role kq3 kq17 (by decide)
  have rrq3 : R18 q3 = rl [] := ((od18 q3 mq3).2 ne18).2.2.2.trans rrq3
  have riq3 : I18 q3 = il [] := ((od18 q3 mq3).2 ne18).2.1.trans riq3
  have kq3 : C18 q3 = 59 := ((od18 q3 mq3).2 ne18).1.trans kq3
  have mq3 := (od18 q3 mq3).1
  have al := al.old od18 kq17 rfl
  have kq17 : C18 q17 = 5 := kq18
  have mq17 := (od18 q17 mq17).1
  have old := old.ctor od18 nq17
  have al := al.con0 mq17 kq17 rfl
  have kk : KK L18 C18 I18 R18 [0, 2, 3, 4, 5, 6, 8, 16, 17, 18, 19, 20, 21, 22, 24, 25, 26, 32, 33, 34, 35, 36, 37, 38, 39, 40, 41, 42, 43, 44, 45, 46, 47, 48, 49, 50, 52, 53, 54, 55, 59, 60] := kk.wS rfl
  refine lv_astore (lv' := [(5, .ref q17), (0, .ref a0), (1, .ref a1), (2, .ref a2), (3, .ref a3), (4, .ref a4)]) hx hb dX1_init_80 hl (by decide) rfl (fun ls hl => ?_)
  refine lv_iconst (v := 0) hx hb dX1_init_82 (by decide) ?_
  refine lv_istore (lv' := [(6, .int 0), (5, .ref q17), (0, .ref a0), (1, .ref a1), (2, .ref a2), (3, .ref a3), (4, .ref a4)]) hx hb dX1_init_83 hl (by decide) rfl (fun ls hl => ?_)
  refine lv_iload hx hb dX1_init_85 (lv_at hl 0 rfl) ?_
  refine lv_bipush (v := 10) hx hb dX1_init_87 (by decide) ?_
  refine lv_icmp_gt (tgt := 107) hx hb dX1_init_89 (by decide) (fun q => absurd q (by decide)) (fun q => ?_)
  refine lv_aload_n hx hb dX1_init_92 rfl (lv_at hl 2 rfl) ?_
  refine gf_1_5 (b := q3) (by rw [rra0]; rfl) hx hb hts hown hH ma0 ka0 rfl kf_X1_17 dX1_init_93 ?_
  refine lv_iload hx hb dX1_init_96 (lv_at hl 0 rfl) ?_
  refine lv_aload hx hb dX1_init_98 (lv_at hl 1 rfl) ?_
  have mq17 : q17 ∈ L18 := (al.at (i := 0) rfl).1
  have kq17 : C18 q17 = 5 := (al.at (i := 0) rfl).2
  refine st_59 hx hb hH mq3 kq3 (Rg_in (Rg_c (x := 0) (a := 0) (b := 0) (by decide)) (by decide)) mq17 kq17 rfl dX1_init_100 (fun R19 H locs eR19 hH => ?_)
  have rra0 : R19 a0 = rl [(3, a4), (2, a3), (1, a2), (0, a1), (9, q10), (8, q8), (6, q5), (5, q3), (4, q1)] := by rw [eR19, u2_ne (ne_role ka0 kq3 (by decide))]; exact rra0
  have rrq3 : R19 q3 = rl [(0, q17)] := by rw [eR19]; exact rl_put rrq3
  have kk : KK L18 C18 I18 R19 [0, 2, 3, 4, 5, 6, 8, 16, 17, 18, 19, 20, 21, 22, 24, 25, 26, 32, 33, 34, 35, 36, 37, 38, 39, 40, 41, 42, 43, 44, 45, 46, 47, 48, 49, 50, 52, 53, 54, 55, 59, 60] := by rw [eR19]; exact kk.stR kq3 zr_59
  have old : Old L0 C0 (I0, J0, R0) a0 L18 C18 I18 J18 R19 := by rw [eR19]; exact old.stR (Or.inr nq3)
  have ow0 := ow0.stR kq3 rfl eR19
  refine lv_iinc (v := 1) (lv' := [(6, .int 1), (5, .ref q17), (0, .ref a0), (1, .ref a1), (2, .ref a2), (3, .ref a3), (4, .ref a4)]) hx hb dX1_init_101 hl (k := 0) rfl (by decide) (by decide) rfl (fun ls hl => ?_)
  refine lv_goto (tgt := 85) hx hb dX1_init_104 (by decide) ?_
  refine lv_iload hx hb dX1_init_85 (lv_at hl 0 rfl) ?_
  refine lv_bipush (v := 10) hx hb dX1_init_87 (by decide) ?_
  refine lv_icmp_gt (tgt := 107) hx hb dX1_init_89 (by decide) (fun q => absurd q (by decide)) (fun q => ?_)
  refine lv_aload_n hx hb dX1_init_92 rfl (lv_at hl 2 rfl) ?_
  refine gf_1_5 (b := q3) (by rw [rra0]; rfl) hx hb hts hown hH ma0 ka0 rfl kf_X1_17 dX1_init_93 ?_
  refine lv_iload hx hb dX1_init_96 (lv_at hl 0 rfl) ?_
  refine lv_aload hx hb dX1_init_98 (lv_at hl 1 rfl) ?_
  have mq17 : q17 ∈ L18 := (al.at (i := 0) rfl).1
  have kq17 : C18 q17 = 5 := (al.at (i := 0) rfl).2
  refine st_59 hx hb hH mq3 kq3 (Rg_in (Rg_c (x := 1) (a := 1) (b := 1) (by decide)) (by decide)) mq17 kq17 rfl dX1_init_100 (fun R20 H locs eR20 hH => ?_)
  have rra0 : R20 a0 = rl [(3, a4), (2, a3), (1, a2), (0, a1), (9, q10), (8, q8), (6, q5), (5, q3), (4, q1)] := by rw [eR20, u2_ne (ne_role ka0 kq3 (by decide))]; exact rra0
  have rrq3 : R20 q3 = rl [(1, q17), (0, q17)] := by rw [eR20]; exact rl_put rrq3
  have kk : KK L18 C18 I18 R20 [0, 2, 3, 4, 5, 6, 8, 16, 17, 18, 19, 20, 21, 22, 24, 25, 26, 32, 33, 34, 35, 36, 37, 38, 39, 40, 41, 42, 43, 44, 45, 46, 47, 48, 49, 50, 52, 53, 54, 55, 59, 60] := by rw [eR20]; exact kk.stR kq3 zr_59
  have old : Old L0 C0 (I0, J0, R0) a0 L18 C18 I18 J18 R20 := by rw [eR20]; exact old.stR (Or.inr nq3)
  have ow0 := ow0.stR kq3 rfl eR20
  refine lv_iinc (v := 2) (lv' := [(6, .int 2), (5, .ref q17), (0, .ref a0), (1, .ref a1), (2, .ref a2), (3, .ref a3), (4, .ref a4)]) hx hb dX1_init_101 hl (k := 0) rfl (by decide) (by decide) rfl (fun ls hl => ?_)
  refine lv_goto (tgt := 85) hx hb dX1_init_104 (by decide) ?_
  refine lv_iload hx hb dX1_init_85 (lv_at hl 0 rfl) ?_
  refine lv_bipush (v := 10) hx hb dX1_init_87 (by decide) ?_
  refine lv_icmp_gt (tgt := 107) hx hb dX1_init_89 (by decide) (fun q => absurd q (by decide)) (fun q => ?_)
  refine lv_aload_n hx hb dX1_init_92 rfl (lv_at hl 2 rfl) ?_
  refine gf_1_5 (b := q3) (by rw [rra0]; rfl) hx hb hts hown hH ma0 ka0 rfl kf_X1_17 dX1_init_93 ?_
  refine lv_iload hx hb dX1_init_96 (lv_at hl 0 rfl) ?_
  refine lv_aload hx hb dX1_init_98 (lv_at hl 1 rfl) ?_
  have mq17 : q17 ∈ L18 := (al.at (i := 0) rfl).1
  have kq17 : C18 q17 = 5 := (al.at (i := 0) rfl).2
  refine st_59 hx hb hH mq3 kq3 (Rg_in (Rg_c (x := 2) (a := 2) (b := 2) (by decide)) (by decide)) mq17 kq17 rfl dX1_init_100 (fun R21 H locs eR21 hH => ?_)
  have rra0 : R21 a0 = rl [(3, a4), (2, a3), (1, a2), (0, a1), (9, q10), (8, q8), (6, q5), (5, q3), (4, q1)] := by rw [eR21, u2_ne (ne_role ka0 kq3 (by decide))]; exact rra0
  have rrq3 : R21 q3 = rl [(2, q17), (1, q17), (0, q17)] := by rw [eR21]; exact rl_put rrq3
  have kk : KK L18 C18 I18 R21 [0, 2, 3, 4, 5, 6, 8, 16, 17, 18, 19, 20, 21, 22, 24, 25, 26, 32, 33, 34, 35, 36, 37, 38, 39, 40, 41, 42, 43, 44, 45, 46, 47, 48, 49, 50, 52, 53, 54, 55, 59, 60] := by rw [eR21]; exact kk.stR kq3 zr_59
  have old : Old L0 C0 (I0, J0, R0) a0 L18 C18 I18 J18 R21 := by rw [eR21]; exact old.stR (Or.inr nq3)
  have ow0 := ow0.stR kq3 rfl eR21
  refine lv_iinc (v := 3) (lv' := [(6, .int 3), (5, .ref q17), (0, .ref a0), (1, .ref a1), (2, .ref a2), (3, .ref a3), (4, .ref a4)]) hx hb dX1_init_101 hl (k := 0) rfl (by decide) (by decide) rfl (fun ls hl => ?_)
  refine lv_goto (tgt := 85) hx hb dX1_init_104 (by decide) ?_
  refine lv_iload hx hb dX1_init_85 (lv_at hl 0 rfl) ?_
  refine lv_bipush (v := 10) hx hb dX1_init_87 (by decide) ?_
  refine lv_icmp_gt (tgt := 107) hx hb dX1_init_89 (by decide) (fun q => absurd q (by decide)) (fun q => ?_)
  refine lv_aload_n hx hb dX1_init_92 rfl (lv_at hl 2 rfl) ?_
  refine gf_1_5 (b := q3) (by rw [rra0]; rfl) hx hb hts hown hH ma0 ka0 rfl kf_X1_17 dX1_init_93 ?_
  refine lv_iload hx hb dX1_init_96 (lv_at hl 0 rfl) ?_
  refine lv_aload hx hb dX1_init_98 (lv_at hl 1 rfl) ?_
  have mq17 : q17 ∈ L18 := (al.at (i := 0) rfl).1
  have kq17 : C18 q17 = 5 := (al.at (i := 0) rfl).2
  refine st_59 hx hb hH mq3 kq3 (Rg_in (Rg_c (x := 3) (a := 3) (b := 3) (by decide)) (by decide)) mq17 kq17 rfl dX1_init_100 (fun R22 H locs eR22 hH => ?_)
  have rra0 : R22 a0 = rl [(3, a4), (2, a3), (1, a2), (0, a1), (9, q10), (8, q8), (6, q5), (5, q3), (4, q1)] := by rw [eR22, u2_ne (ne_role ka0 kq3 (by decide))]; exact rra0
  have rrq3 : R22 q3 = rl [(3, q17), (2, q17), (1, q17), (0, q17)] := by rw [eR22]; exact rl_put rrq3
  have kk : KK L18 C18 I18 R22 [0, 2, 3, 4, 5, 6, 8, 16, 17, 18, 19, 20, 21, 22, 24, 25, 26, 32, 33, 34, 35, 36, 37, 38, 39, 40, 41, 42, 43, 44, 45, 46, 47, 48, 49, 50, 52, 53, 54, 55, 59, 60] := by rw [eR22]; exact kk.stR kq3 zr_59
  have old : Old L0 C0 (I0, J0, R0) a0 L18 C18 I18 J18 R22 := by rw [eR22]; exact old.stR (Or.inr nq3)
  have ow0 := ow0.stR kq3 rfl eR22
  refine lv_iinc (v := 4) (lv' := [(6, .int 4), (5, .ref q17), (0, .ref a0), (1, .ref a1), (2, .ref a2), (3, .ref a3), (4, .ref a4)]) hx hb dX1_init_101 hl (k := 0) rfl (by decide) (by decide) rfl (fun ls hl => ?_)
  refine lv_goto (tgt := 85) hx hb dX1_init_104 (by decide) ?_
  refine lv_iload hx hb dX1_init_85 (lv_at hl 0 rfl) ?_
  refine lv_bipush (v := 10) hx hb dX1_init_87 (by decide) ?_
  refine lv_icmp_gt (tgt := 107) hx hb dX1_init_89 (by decide) (fun q => absurd q (by decide)) (fun q => ?_)
  refine lv_aload_n hx hb dX1_init_92 rfl (lv_at hl 2 rfl) ?_
  refine gf_1_5 (b := q3) (by rw [rra0]; rfl) hx hb hts hown hH ma0 ka0 rfl kf_X1_17 dX1_init_93 ?_
  refine lv_iload hx hb dX1_init_96 (lv_at hl 0 rfl) ?_
  refine lv_aload hx hb dX1_init_98 (lv_at hl 1 rfl) ?_
  have mq17 : q17 ∈ L18 := (al.at (i := 0) rfl).1
  have kq17 : C18 q17 = 5 := (al.at (i := 0) rfl).2
  refine st_59 hx hb hH mq3 kq3 (Rg_in (Rg_c (x := 4) (a := 4) (b := 4) (by decide)) (by decide)) mq17 kq17 rfl dX1_init_100 (fun R23 H locs eR23 hH => ?_)
  have rra0 : R23 a0 = rl [(3, a4), (2, a3), (1, a2), (0, a1), (9, q10), (8, q8), (6, q5), (5, q3), (4, q1)] := by rw [eR23, u2_ne (ne_role ka0 kq3 (by decide))]; exact rra0
  have rrq3 : R23 q3 = rl [(4, q17), (3, q17), (2, q17), (1, q17), (0, q17)] := by rw [eR23]; exact rl_put rrq3
  have kk : KK L18 C18 I18 R23 [0, 2, 3, 4, 5, 6, 8, 16, 17, 18, 19, 20, 21, 22, 24, 25, 26, 32, 33, 34, 35, 36, 37, 38, 39, 40, 41, 42, 43, 44, 45, 46, 47, 48, 49, 50, 52, 53, 54, 55, 59, 60] := by rw [eR23]; exact kk.stR kq3 zr_59
  have old : Old L0 C0 (I0, J0, R0) a0 L18 C18 I18 J18 R23 := by rw [eR23]; exact old.stR (Or.inr nq3)
  have ow0 := ow0.stR kq3 rfl eR23
  refine lv_iinc (v := 5) (lv' := [(6, .int 5), (5, .ref q17), (0, .ref a0), (1, .ref a1), (2, .ref a2), (3, .ref a3), (4, .ref a4)]) hx hb dX1_init_101 hl (k := 0) rfl (by decide) (by decide) rfl (fun ls hl => ?_)
  refine lv_goto (tgt := 85) hx hb dX1_init_104 (by decide) ?_
  refine lv_iload hx hb dX1_init_85 (lv_at hl 0 rfl) ?_
  refine lv_bipush (v := 10) hx hb dX1_init_87 (by decide) ?_
  refine lv_icmp_gt (tgt := 107) hx hb dX1_init_89 (by decide) (fun q => absurd q (by decide)) (fun q => ?_)
  refine lv_aload_n hx hb dX1_init_92 rfl (lv_at hl 2 rfl) ?_
  refine gf_1_5 (b := q3) (by rw [rra0]; rfl) hx hb hts hown hH ma0 ka0 rfl kf_X1_17 dX1_init_93 ?_
  refine lv_iload hx hb dX1_init_96 (lv_at hl 0 rfl) ?_
  refine lv_aload hx hb dX1_init_98 (lv_at hl 1 rfl) ?_
  have mq17 : q17 ∈ L18 := (al.at (i := 0) rfl).1
  have kq17 : C18 q17 = 5 := (al.at (i := 0) rfl).2
  refine st_59 hx hb hH mq3 kq3 (Rg_in (Rg_c (x := 5) (a := 5) (b := 5) (by decide)) (by decide)) mq17 kq17 rfl dX1_init_100 (fun R24 H locs eR24 hH => ?_)
  have rra0 : R24 a0 = rl [(3, a4), (2, a3), (1, a2), (0, a1), (9, q10), (8, q8), (6, q5), (5, q3), (4, q1)] := by rw [eR24, u2_ne (ne_role ka0 kq3 (by decide))]; exact rra0
  have rrq3 : R24 q3 = rl [(5, q17), (4, q17), (3, q17), (2, q17), (1, q17), (0, q17)] := by rw [eR24]; exact rl_put rrq3
  have kk : KK L18 C18 I18 R24 [0, 2, 3, 4, 5, 6, 8, 16, 17, 18, 19, 20, 21, 22, 24, 25, 26, 32, 33, 34, 35, 36, 37, 38, 39, 40, 41, 42, 43, 44, 45, 46, 47, 48, 49, 50, 52, 53, 54, 55, 59, 60] := by rw [eR24]; exact kk.stR kq3 zr_59
  have old : Old L0 C0 (I0, J0, R0) a0 L18 C18 I18 J18 R24 := by rw [eR24]; exact old.stR (Or.inr nq3)
  have ow0 := ow0.stR kq3 rfl eR24
  refine lv_iinc (v := 6) (lv' := [(6, .int 6), (5, .ref q17), (0, .ref a0), (1, .ref a1), (2, .ref a2), (3, .ref a3), (4, .ref a4)]) hx hb dX1_init_101 hl (k := 0) rfl (by decide) (by decide) rfl (fun ls hl => ?_)
  refine lv_goto (tgt := 85) hx hb dX1_init_104 (by decide) ?_
  refine lv_iload hx hb dX1_init_85 (lv_at hl 0 rfl) ?_
  refine lv_bipush (v := 10) hx hb dX1_init_87 (by decide) ?_
  refine lv_icmp_gt (tgt := 107) hx hb dX1_init_89 (by decide) (fun q => absurd q (by decide)) (fun q => ?_)
  refine lv_aload_n hx hb dX1_init_92 rfl (lv_at hl 2 rfl) ?_
  refine gf_1_5 (b := q3) (by rw [rra0]; rfl) hx hb hts hown hH ma0 ka0 rfl kf_X1_17 dX1_init_93 ?_
  refine lv_iload hx hb dX1_init_96 (lv_at hl 0 rfl) ?_
  refine lv_aload hx hb dX1_init_98 (lv_at hl 1 rfl) ?_
  have mq17 : q17 ∈ L18 := (al.at (i := 0) rfl).1
  have kq17 : C18 q17 = 5 := (al.at (i := 0) rfl).2
  refine st_59 hx hb hH mq3 kq3 (Rg_in (Rg_c (x := 6) (a := 6) (b := 6) (by decide)) (by decide)) mq17 kq17 rfl dX1_init_100 (fun R25 H locs eR25 hH => ?_)
  have rra0 : R25 a0 = rl [(3, a4), (2, a3), (1, a2), (0, a1), (9, q10), (8, q8), (6, q5), (5, q3), (4, q1)] := by rw [eR25, u2_ne (ne_role ka0 kq3 (by decide))]; exact rra0
  have rrq3 : R25 q3 = rl [(6, q17), (5, q17), (4, q17), (3, q17), (2, q17), (1, q17), (0, q17)] := by rw [eR25]; exact rl_put rrq3
  have kk : KK L18 C18 I18 R25 [0, 2, 3, 4, 5, 6, 8, 16, 17, 18, 19, 20, 21, 22, 24, 25, 26, 32, 33, 34, 35, 36, 37, 38, 39, 40, 41, 42, 43, 44, 45, 46, 47, 48, 49, 50, 52, 53, 54, 55, 59, 60] := by rw [eR25]; exact kk.stR kq3 zr_59
  have old : Old L0 C0 (I0, J0, R0) a0 L18 C18 I18 J18 R25 := by rw [eR25]; exact old.stR (Or.inr nq3)
  have ow0 := ow0.stR kq3 rfl eR25
  refine lv_iinc (v := 7) (lv' := [(6, .int 7), (5, .ref q17), (0, .ref a0), (1, .ref a1), (2, .ref a2), (3, .ref a3), (4, .ref a4)]) hx hb dX1_init_101 hl (k := 0) rfl (by decide) (by decide) rfl (fun ls hl => ?_)
  refine lv_goto (tgt := 85) hx hb dX1_init_104 (by decide) ?_
  refine lv_iload hx hb dX1_init_85 (lv_at hl 0 rfl) ?_
  refine lv_bipush (v := 10) hx hb dX1_init_87 (by decide) ?_
  refine lv_icmp_gt (tgt := 107) hx hb dX1_init_89 (by decide) (fun q => absurd q (by decide)) (fun q => ?_)
  refine lv_aload_n hx hb dX1_init_92 rfl (lv_at hl 2 rfl) ?_
  refine gf_1_5 (b := q3) (by rw [rra0]; rfl) hx hb hts hown hH ma0 ka0 rfl kf_X1_17 dX1_init_93 ?_
  refine lv_iload hx hb dX1_init_96 (lv_at hl 0 rfl) ?_
  refine lv_aload hx hb dX1_init_98 (lv_at hl 1 rfl) ?_
  have mq17 : q17 ∈ L18 := (al.at (i := 0) rfl).1
  have kq17 : C18 q17 = 5 := (al.at (i := 0) rfl).2
  refine st_59 hx hb hH mq3 kq3 (Rg_in (Rg_c (x := 7) (a := 7) (b := 7) (by decide)) (by decide)) mq17 kq17 rfl dX1_init_100 (fun R26 H locs eR26 hH => ?_)
  have rra0 : R26 a0 = rl [(3, a4), (2, a3), (1, a2), (0, a1), (9, q10), (8, q8), (6, q5), (5, q3), (4, q1)] := by rw [eR26, u2_ne (ne_role ka0 kq3 (by decide))]; exact rra0
  have rrq3 : R26 q3 = rl [(7, q17), (6, q17), (5, q17), (4, q17), (3, q17), (2, q17), (1, q17), (0, q17)] := by rw [eR26]; exact rl_put rrq3
  have kk : KK L18 C18 I18 R26 [0, 2, 3, 4, 5, 6, 8, 16, 17, 18, 19, 20, 21, 22, 24, 25, 26, 32, 33, 34, 35, 36, 37, 38, 39, 40, 41, 42, 43, 44, 45, 46, 47, 48, 49, 50, 52, 53, 54, 55, 59, 60] := by rw [eR26]; exact kk.stR kq3 zr_59
  have old : Old L0 C0 (I0, J0, R0) a0 L18 C18 I18 J18 R26 := by rw [eR26]; exact old.stR (Or.inr nq3)
  have ow0 := ow0.stR kq3 rfl eR26
  refine lv_iinc (v := 8) (lv' := [(6, .int 8), (5, .ref q17), (0, .ref a0), (1, .ref a1), (2, .ref a2), (3, .ref a3), (4, .ref a4)]) hx hb dX1_init_101 hl (k := 0) rfl (by decide) (by decide) rfl (fun ls hl => ?_)
  refine lv_goto (tgt := 85) hx hb dX1_init_104 (by decide) ?_
  refine lv_iload hx hb dX1_init_85 (lv_at hl 0 rfl) ?_
  refine lv_bipush (v := 10) hx hb dX1_init_87 (by decide) ?_
  refine lv_icmp_gt (tgt := 107) hx hb dX1_init_89 (by decide) (fun q => absurd q (by decide)) (fun q => ?_)
  refine lv_aload_n hx hb dX1_init_92 rfl (lv_at hl 2 rfl) ?_
  refine gf_1_5 (b := q3) (by rw [rra0]; rfl) hx hb hts hown hH ma0 ka0 rfl kf_X1_17 dX1_init_93 ?_
  refine lv_iload hx hb dX1_init_96 (lv_at hl 0 rfl) ?_
  refine lv_aload hx hb dX1_init_98 (lv_at hl 1 rfl) ?_
  have mq17 : q17 ∈ L18 := (al.at (i := 0) rfl).1
  have kq17 : C18 q17 = 5 := (al.at (i := 0) rfl).2
  refine st_59 hx hb hH mq3 kq3 (Rg_in (Rg_c (x := 8) (a := 8) (b := 8) (by decide)) (by decide)) mq17 kq17 rfl dX1_init_100 (fun R27 H locs eR27 hH => ?_)
  have rra0 : R27 a0 = rl [(3, a4), (2, a3), (1, a2), (0, a1), (9, q10), (8, q8), (6, q5), (5, q3), (4, q1)] := by rw [eR27, u2_ne (ne_role ka0 kq3 (by decide))]; exact rra0
  have rrq3 : R27 q3 = rl [(8, q17), (7, q17), (6, q17), (5, q17), (4, q17), (3, q17), (2, q17), (1, q17), (0, q17)] := by rw [eR27]; exact rl_put rrq3
  have kk : KK L18 C18 I18 R27 [0, 2, 3, 4, 5, 6, 8, 16, 17, 18, 19, 20, 21, 22, 24, 25, 26, 32, 33, 34, 35, 36, 37, 38, 39, 40, 41, 42, 43, 44, 45, 46, 47, 48, 49, 50, 52, 53, 54, 55, 59, 60] := by rw [eR27]; exact kk.stR kq3 zr_59
  have old : Old L0 C0 (I0, J0, R0) a0 L18 C18 I18 J18 R27 := by rw [eR27]; exact old.stR (Or.inr nq3)
  have ow0 := ow0.stR kq3 rfl eR27
  refine lv_iinc (v := 9) (lv' := [(6, .int 9), (5, .ref q17), (0, .ref a0), (1, .ref a1), (2, .ref a2), (3, .ref a3), (4, .ref a4)]) hx hb dX1_init_101 hl (k := 0) rfl (by decide) (by decide) rfl (fun ls hl => ?_)
  refine lv_goto (tgt := 85) hx hb dX1_init_104 (by decide) ?_
  refine lv_iload hx hb dX1_init_85 (lv_at hl 0 rfl) ?_
  refine lv_bipush (v := 10) hx hb dX1_init_87 (by decide) ?_
  refine lv_icmp_gt (tgt := 107) hx hb dX1_init_89 (by decide) (fun q => absurd q (by decide)) (fun q => ?_)
  refine lv_aload_n hx hb dX1_init_92 rfl (lv_at hl 2 rfl) ?_
  refine gf_1_5 (b := q3) (by rw [rra0]; rfl) hx hb hts hown hH ma0 ka0 rfl kf_X1_17 dX1_init_93 ?_
  refine lv_iload hx hb dX1_init_96 (lv_at hl 0 rfl) ?_
  refine lv_aload hx hb dX1_init_98 (lv_at hl 1 rfl) ?_
  have mq17 : q17 ∈ L18 := (al.at (i := 0) rfl).1
  have kq17 : C18 q17 = 5 := (al.at (i := 0) rfl).2
  refine st_59 hx hb hH mq3 kq3 (Rg_in (Rg_c (x := 9) (a := 9) (b := 9) (by decide)) (by decide)) mq17 kq17 rfl dX1_init_100 (fun R28 H locs eR28 hH => ?_)
  have rra0 : R28 a0 = rl [(3, a4), (2, a3), (1, a2), (0, a1), (9, q10), (8, q8), (6, q5), (5, q3), (4, q1)] := by rw [eR28, u2_ne (ne_role ka0 kq3 (by decide))]; exact rra0
  have rrq3 : R28 q3 = rl [(9, q17), (8, q17), (7, q17), (6, q17), (5, q17), (4, q17), (3, q17), (2, q17), (1, q17), (0, q17)] := by rw [eR28]; exact rl_put rrq3
  have kk : KK L18 C18 I18 R28 [0, 2, 3, 4, 5, 6, 8, 16, 17, 18, 19, 20, 21, 22, 24, 25, 26, 32, 33, 34, 35, 36, 37, 38, 39, 40, 41, 42, 43, 44, 45, 46, 47, 48, 49, 50, 52, 53, 54, 55, 59, 60] := by rw [eR28]; exact kk.stR kq3 zr_59
  have old : Old L0 C0 (I0, J0, R0) a0 L18 C18 I18 J18 R28 := by rw [eR28]; exact old.stR (Or.inr nq3)
  have ow0 := ow0.stR kq3 rfl eR28
  refine lv_iinc (v := 10) (lv' := [(6, .int 10), (5, .ref q17), (0, .ref a0), (1, .ref a1), (2, .ref a2), (3, .ref a3), (4, .ref a4)]) hx hb dX1_init_101 hl (k := 0) rfl (by decide) (by decide) rfl (fun ls hl => ?_)
  refine lv_goto (tgt := 85) hx hb dX1_init_104 (by decide) ?_
  refine lv_iload hx hb dX1_init_85 (lv_at hl 0 rfl) ?_
  refine lv_bipush (v := 10) hx hb dX1_init_87 (by decide) ?_
  refine lv_icmp_gt (tgt := 107) hx hb dX1_init_89 (by decide) (fun q => absurd q (by decide)) (fun q => ?_)
  refine lv_aload_n hx hb dX1_init_92 rfl (lv_at hl 2 rfl) ?_
  refine gf_1_5 (b := q3) (by rw [rra0]; rfl) hx hb hts hown hH ma0 ka0 rfl kf_X1_17 dX1_init_93 ?_
  refine lv_iload hx hb dX1_init_96 (lv_at hl 0 rfl) ?_
  refine lv_aload hx hb dX1_init_98 (lv_at hl 1 rfl) ?_
  have mq17 : q17 ∈ L18 := (al.at (i := 0) rfl).1
  have kq17 : C18 q17 = 5 := (al.at (i := 0) rfl).2
  refine st_59 hx hb hH mq3 kq3 (Rg_in (Rg_c (x := 10) (a := 10) (b := 10) (by decide)) (by decide)) mq17 kq17 rfl dX1_init_100 (fun R29 H locs eR29 hH => ?_)
  have rra0 : R29 a0 = rl [(3, a4), (2, a3), (1, a2), (0, a1), (9, q10), (8, q8), (6, q5), (5, q3), (4, q1)] := by rw [eR29, u2_ne (ne_role ka0 kq3 (by decide))]; exact rra0
  have rrq3 : R29 q3 = rl [(10, q17), (9, q17), (8, q17), (7, q17), (6, q17), (5, q17), (4, q17), (3, q17), (2, q17), (1, q17), (0, q17)] := by rw [eR29]; exact rl_put rrq3
  have kk : KK L18 C18 I18 R29 [0, 2, 3, 4, 5, 6, 8, 16, 17, 18, 19, 20, 21, 22, 24, 25, 26, 32, 33, 34, 35, 36, 37, 38, 39, 40, 41, 42, 43, 44, 45, 46, 47, 48, 49, 50, 52, 53, 54, 55, 59, 60] := by rw [eR29]; exact kk.stR kq3 zr_59
  have old : Old L0 C0 (I0, J0, R0) a0 L18 C18 I18 J18 R29 := by rw [eR29]; exact old.stR (Or.inr nq3)
  have ow0 := ow0.stR kq3 rfl eR29
  refine lv_iinc (v := 11) (lv' := [(6, .int 11), (5, .ref q17), (0, .ref a0), (1, .ref a1), (2, .ref a2), (3, .ref a3), (4, .ref a4)]) hx hb dX1_init_101 hl (k := 0) rfl (by decide) (by decide) rfl (fun ls hl => ?_)
  refine lv_goto (tgt := 85) hx hb dX1_init_104 (by decide) ?_
  refine lv_iload hx hb dX1_init_85 (lv_at hl 0 rfl) ?_
  refine lv_bipush (v := 10) hx hb dX1_init_87 (by decide) ?_
  refine lv_icmp_gt (tgt := 107) hx hb dX1_init_89 (by decide) (fun q => ?_) (fun q => absurd (by decide) q)
  have mq17 : q17 ∈ L18 := (al.at (i := 0) rfl).1
  have kq17 : C18 q17 = 5 := (al.at (i := 0) rfl).2
  have hI30 : ∀ j, j < rN 51 → rLo 51 j ≤ (I18 q3 j).toInt ∧ (I18 q3 j).toInt ≤ rHi 51 j ∧ (rX 51 = true → (I18 q3 j).toInt ≤ 3 ∨ (I18 q3 j).toInt = 9) := by rw [riq3]; decide +kernel
  have hR30 : ∀ j, j < rN 51 → rR 51 j ≠ 0 → ∃ b, b ∈ L18 ∧ b ≠ q3 ∧ R29 q3 j = some b ∧ C18 b + 1 = rR 51 j := by
    intro j hj hn
    rw [rrq3]
    have hj : j < 11 := hj
    rcases (show j = 0 ∨ j = 1 ∨ j = 2 ∨ j = 3 ∨ j = 4 ∨ j = 5 ∨ j = 6 ∨ j = 7 ∨ j = 8 ∨ j = 9 ∨ j = 10 by omega) with rfl | rfl | rfl | rfl | rfl | rfl | rfl | rfl | rfl | rfl | rfl
    · exact ⟨q17, mq17, ne_role kq17 kq3 (by decide), rfl, by rw [kq17]; rfl⟩
    · exact ⟨q17, mq17, ne_role kq17 kq3 (by decide), rfl, by rw [kq17]; rfl⟩
    · exact ⟨q17, mq17, ne_role kq17 kq3 (by decide), rfl, by rw [kq17]; rfl⟩
    · exact ⟨q17, mq17, ne_role kq17 kq3 (by decide), rfl, by rw [kq17]; rfl⟩
    · exact ⟨q17, mq17, ne_role kq17 kq3 (by decide), rfl, by rw [kq17]; rfl⟩
    · exact ⟨q17, mq17, ne_role kq17 kq3 (by decide), rfl, by rw [kq17]; rfl⟩
    · exact ⟨q17, mq17, ne_role kq17 kq3 (by decide), rfl, by rw [kq17]; rfl⟩
    · exact ⟨q17, mq17, ne_role kq17 kq3 (by decide), rfl, by rw [kq17]; rfl⟩
    · exact ⟨q17, mq17, ne_role kq17 kq3 (by decide), rfl, by rw [kq17]; rfl⟩
    · exact ⟨q17, mq17, ne_role kq17 kq3 (by decide), rfl, by rw [kq17]; rfl⟩
    · exact ⟨q17, mq17, ne_role kq17 kq3 (by decide), rfl, by rw [kq17]; rfl⟩
  have ow0 := ow0.rel0 (q := q3) (r := 51) (fun _ => rfl)
  have hH := hH.rel (q := q3) (r := 51) (by rw [kq3]; rfl) (by rw [kq3]; rfl)
  have kk := kk.rel mq3 kq3 (Or.inr ⟨by decide, by decide⟩) hI30 hR30 (Or.inr rfl) (fun h => absurd h (by decide)) (by decide) (by decide)
  have old := old.rel (q := q3) (r := 51) (Or.inr nq3)
  have al := al.rel (r := 51) kq3 rfl
  have z0 := z0.rel (q := q3) (r := 51) (iv_il (by decide) riq3)
  obtain ⟨C30, eC30⟩ : ∃ z, z = va_up C18 q3 51 := ⟨_, rfl⟩
  rw [← eC30] at hH kk old al z0 ow0
  have ka0 : C30 a0 = 17 := by rw [eC30, va_up_ne _ _ (ne_role ka0 kq3 (by decide))]; exact ka0
  have kq3 : C30 q3 = 51 := by rw [eC30, va_up_self]
  have al := al.con0 mq3 kq3 rfl
  have ma1 : a1 ∈ L18 := (al.at (i := 9) rfl).1
  have ka1 : C30 a1 = 6 := (al.at (i := 9) rfl).2
  have ma2 : a2 ∈ L18 := (al.at (i := 8) rfl).1
  have ka2 : C30 a2 = 2 := (al.at (i := 8) rfl).2
  have ma3 : a3 ∈ L18 := (al.at (i := 7) rfl).1
  have ka3 : C30 a3 = 3 := (al.at (i := 7) rfl).2
  have ma4 : a4 ∈ L18 := (al.at (i := 6) rfl).1
  have ka4 : C30 a4 = 4 := (al.at (i := 6) rfl).2
  have mq1 : q1 ∈ L18 := (al.at (i := 5) rfl).1
  have kq1 : C30 q1 = 50 := (al.at (i := 5) rfl).2
  have mq10 : q10 ∈ L18 := (al.at (i := 2) rfl).1
  have kq10 : C30 q10 = 53 := (al.at (i := 2) rfl).2
  have mq3 : q3 ∈ L18 := (al.at (i := 0) rfl).1
  have kq3 : C30 q3 = 51 := (al.at (i := 0) rfl).2
  have mq5 : q5 ∈ L18 := (al.at (i := 4) rfl).1
  have kq5 : C30 q5 = 52 := (al.at (i := 4) rfl).2
  have mq8 : q8 ∈ L18 := (al.at (i := 3) rfl).1
  have kq8 : C30 q8 = 53 := (al.at (i := 3) rfl).2
  have hI31 : ∀ j, j < rN 1 → rLo 1 j ≤ (I18 a0 j).toInt ∧ (I18 a0 j).toInt ≤ rHi 1 j ∧ (rX 1 = true → (I18 a0 j).toInt ≤ 3 ∨ (I18 a0 j).toInt = 9) := by rw [ria0]; decide +kernel
  have hR31 : ∀ j, j < rN 1 → rR 1 j ≠ 0 → ∃ b, b ∈ L18 ∧ b ≠ a0 ∧ R29 a0 j = some b ∧ C30 b + 1 = rR 1 j := by
    intro j hj hn
    rw [rra0]
    have hj : j < 11 := hj
    rcases (show j = 0 ∨ j = 1 ∨ j = 2 ∨ j = 3 ∨ j = 4 ∨ j = 5 ∨ j = 6 ∨ j = 7 ∨ j = 8 ∨ j = 9 ∨ j = 10 by omega) with rfl | rfl | rfl | rfl | rfl | rfl | rfl | rfl | rfl | rfl | rfl
    · exact ⟨a1, ma1, ne_role ka1 ka0 (by decide), rfl, by rw [ka1]; rfl⟩
    · exact ⟨a2, ma2, ne_role ka2 ka0 (by decide), rfl, by rw [ka2]; rfl⟩
    · exact ⟨a3, ma3, ne_role ka3 ka0 (by decide), rfl, by rw [ka3]; rfl⟩
    · exact ⟨a4, ma4, ne_role ka4 ka0 (by decide), rfl, by rw [ka4]; rfl⟩
    · exact ⟨q1, mq1, ne_role kq1 ka0 (by decide), rfl, by rw [kq1]; rfl⟩
    · exact ⟨q3, mq3, ne_role kq3 ka0 (by decide), rfl, by rw [kq3]; rfl⟩
    · exact ⟨q5, mq5, ne_role kq5 ka0 (by decide), rfl, by rw [kq5]; rfl⟩
    · exact absurd rfl hn
    · exact ⟨q8, mq8, ne_role kq8 ka0 (by decide), rfl, by rw [kq8]; rfl⟩
    · exact ⟨q10, mq10, ne_role kq10 ka0 (by decide), rfl, by rw [kq10]; rfl⟩
    · exact absurd rfl hn
  have ow0 := ow0.rel0 (q := a0) (r := 1) (fun _ => rfl)
  have hH := hH.rel (q := a0) (r := 1) (by rw [ka0]; rfl) (by rw [ka0]; rfl)
  have kk := kk.rel ma0 ka0 (Or.inl ⟨by decide, by decide⟩) hI31 hR31 (Or.inr rfl) (fun h => absurd h (by decide)) (by decide) (by decide)
  have old := old.rel (q := a0) (r := 1) (Or.inl rfl)
  have al := al.rel (r := 1) ka0 rfl
  have z0 := z0.rel (q := a0) (r := 1) (iv_il (by decide) ria0)
  obtain ⟨C31, eC31⟩ : ∃ z, z = va_up C30 a0 1 := ⟨_, rfl⟩
  rw [← eC31] at hH kk old al z0 ow0
  have ka0 : C31 a0 = 1 := by rw [eC31, va_up_self]
  have mq8 : q8 ∈ L18 := (al.at (i := 3) rfl).1
  have kq8 : C31 q8 = 53 := (al.at (i := 3) rfl).2
  have mq10 : q10 ∈ L18 := (al.at (i := 2) rfl).1
  have kq10 : C31 q10 = 53 := (al.at (i := 2) rfl).2
  refine W.widen (k := 8) (n := 79) (by decide) (by decide) ?_
  exact ret _ _ _ _ _ _ _ _ _ dX1_init_107 hH ⟨(kk.wS rfl), old, ka0, z0, ow0, ⟨a0, q8, q10, ma0, ka0, mq8, kq8, mq10, kq10, (congrFun rra0 8).trans rfl, (congrFun rra0 9).trans rfl, nab⟩⟩
