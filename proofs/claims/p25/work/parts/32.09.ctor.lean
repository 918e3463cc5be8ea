set_option maxHeartbeats 4000000 in
set_option maxRecDepth 100000 in
theorem c_X7_init {l : Launch} {D : va_G} {cy : Nat → ClassId} {L0 : List Nat} {C0 : Nat → Nat} {b0 : Nat} {I0 : hI} {J0 : hJ} {R0 : hR} {S : List Nat} {a0 : Nat} (kk : KK L0 C0 I0 R0 (23 :: S)) (ma0 : a0 ∈ L0) (ka0 : C0 a0 = 23) (ria0 : I0 a0 = il []) (rra0 : R0 a0 = rl []) (z0 : Z0 L0 C0 I0 J0) (ow0 : Ow L0 C0 R0) : CA l yX7_init cX7_init 2 2 19 102 D cy L0 C0 b0 [.ref a0] (I0, J0, R0) (fun q => KK q.1 q.2.1 q.2.2.1 q.2.2.2.2 (7 :: 56 :: 5 :: 55 :: 54 :: 21 :: 5 :: 55 :: 54 :: 21 :: 5 :: 55 :: 54 :: 21 :: 5 :: 55 :: 54 :: 21 :: 5 :: 55 :: 54 :: 21 :: 5 :: 55 :: 54 :: 21 :: 58 :: 23 :: S) ∧ Old L0 C0 (I0, J0, R0) a0 q.1 q.2.1 q.2.2.1 q.2.2.2.1 q.2.2.2.2 ∧ q.2.1 a0 = 7 ∧ Z0 q.1 q.2.1 q.2.2.1 q.2.2.2.1 ∧ Ow q.1 q.2.1 q.2.2.2.2 ∧ Nw L0 q.1 q.2.1 [5, 7, 21, 54, 55, 56, 58]) := by
  refine CA.mk (plainFor_of_name (by decide)) (Nat.le_of_ble_eq_true rfl) ?_
  intro p e s m args below meth c ls Q hF hin ret hH hl
  obtain ⟨hx, hb, -, hml, hown, hts, -⟩ := hF
  have hl : lv_has ls 2 [(0, .ref a0)] := hl
  have hH : Hp D cy L0 C0 b0 s s.heap I0 J0 R0 s.heap [] := hH
  have old : Old L0 C0 (I0, J0, R0) a0 L0 C0 I0 J0 R0 := Old.rf
  have hS0 := kk.2.2.2.1
  have kk0 := kk.2.1
  have al : AJ L0 C0 I0 [] := AJ.nil
  have nw : Nw L0 L0 C0 [] := Nw.rf
  have nl : NL L0 [] := NL.nil
  refine lv_aload_n hx hb dX7_init_0 rfl (lv_at hl 0 rfl) ?_
  refine W.objInit hx hb hown (hts _ km_X7_3) (hts _ ki_objectInit) (hts _ kc_objectInit) rfl (by rw [hml]; exact hl.1) rfl dX7_init_1 (Nat.le_of_ble_eq_true rfl) (Nat.le_of_ble_eq_true rfl) ?_
  refine W.eq (g2 := F0 m 4 ls []) rfl ?_
  refine lv_aload_n hx hb dX7_init_4 rfl (lv_at hl 0 rfl) ?_
  refine lv_bipush (v := 6) hx hb dX7_init_5 (by decide) ?_
  refine hNewQ (k := 3) (r := 58) (N := 6) (C0 := RX5) hx hb hts hown hH kcl_X7_9 hH.2.2.2.2.2.2.1.1 rfl (eN_M rfl rfl) (by decide) (by decide) (by decide) (by decide) (by decide) dX7_init_7 (fun q1 L1 C1 I1 J1 R1 H g1 eI1 eJ1 eR1 hH => ?_)
  have nq1 : q1 ∉ L0 := fun h => g1.2.2 (old q1 h).1
  have rra0 : R1 a0 = rl [] := by rw [eR1, va_up_ne _ _ (g1.ne ma0)]; exact rra0
  have ria0 : I1 a0 = il [] := by rw [eI1, va_up_ne _ _ (g1.ne ma0)]; exact ria0
  have ka0 := g1.role ma0 ka0
  have ma0 := g1.mem ma0
  have mq1 := g1.new
  have kq1 := g1.at
  have al := al.new g1 eI1
  have z0 := z0.new g1 eI1 eJ1
  have ow0 := ow0.new g1 eR1
  have nw := nw.new g1
  have nl := nl.new g1
  have rrq1 : R1 q1 = rl [] := by rw [eR1, va_up_self]; rfl
  have riq1 : I1 q1 = il [] := by rw [eI1, va_up_self]; rfl
  have kk := kk.new g1 eI1 eR1 zz_58 zr_58 (Or.inl rfl) (by decide)
  have old := old.new g1 eI1 eJ1 eR1
  refine pf_7_0 hx hb hts hown hH hin rfl ma0 ka0 rfl kf_X7_11 dX7_init_10 (fun R2 H locs eR2 hH => ?_)
  have rrq1 : R2 q1 = rl [] := by rw [eR2, u2_ne (ne_role kq1 ka0 (by decide))]; exact rrq1
  have rra0 : R2 a0 = rl [(0, q1)] := by rw [eR2]; exact rl_put rra0
  have kk : KK L1 C1 I1 R2 (58 :: 23 :: S) := by rw [eR2]; exact kk.stR ka0 zr_23
  have old : Old L0 C0 (I0, J0, R0) a0 L1 C1 I1 J1 R2 := by rw [eR2]; exact old.stR (Or.inl rfl)
  have ow0 := ow0.stR ka0 rfl eR2
  refine lv_aload_n hx hb dX7_init_13 rfl (lv_at hl 0 rfl) ?_
  refine lv_iconst (v := 0) hx hb dX7_init_14 (by decide) ?_
  refine pf_7_1 hx hb hts hown hH ma0 ka0 rfl kf_X7_17 dX7_init_15 (fun I3 H locs eI3 hH => ?_)
  have riq1 : I3 q1 = il [] := by rw [eI3, u2_ne (ne_role kq1 ka0 (by decide))]; exact riq1
  have ria0 : I3 a0 = il [(1, 0)] := by rw [eI3]; exact il_put ria0
  have kk : KK L1 C1 I3 R2 (58 :: 23 :: S) := by rw [eI3]; exact kk.stI ka0 ⟨by decide, by decide⟩
  have old : Old L0 C0 (I0, J0, R0) a0 L1 C1 I3 J1 R2 := by rw [eI3]; exact old.stI (Or.inl rfl)
  have al := al.stI ka0 rfl eI3
  have z0 := z0.stI ka0 rfl eI3
  refine lv_iconst (v := 0) hx hb dX7_init_18 (by decide) ?_
  refine lv_istore_n (lv' := [(1, .int 0), (0, .ref a0)]) hx hb dX7_init_19 rfl hl (by decide) rfl (fun ls hl => ?_)
  refine lv_iload_n hx hb dX7_init_20 rfl (lv_at hl 0 rfl) ?_
  refine lv_bipush (v := 6) hx hb dX7_init_21 (by decide) ?_
  refine lv_icmp_ge (tgt := 45) hx hb dX7_init_23 (by decide) (fun q => absurd q (by decide)) (fun q => ?_)
  refine lv_aload_n hx hb dX7_init_26 rfl (lv_at hl 1 rfl) ?_
  refine gf_7_0 (b := q1) (by rw [rra0]; rfl) hx hb hts hown hH ma0 ka0 rfl kf_X7_11 dX7_init_27 ?_
  refine lv_iload_n hx hb dX7_init_30 rfl (lv_at hl 0 rfl) ?_
  refine hNew (ci := 5) (N := 8) hx hb hts hown hH inX5 tyX5_ok rfl (by decide) rfl df_5 kcl_X7_9 kinst_X5 kini_X5 (by decide) (by decide) dX7_init_31 (fun q4 L4 C4 I4 J4 R4 H g4 eI4 eJ4 eR4 hH => ?_)
  have nq4 : q4 ∉ L0 := fun h => g4.2.2 (old q4 h).1
  have rra0 : R4 a0 = rl [(0, q1)] := by rw [eR4, va_up_ne _ _ (g4.ne ma0)]; exact rra0
  have ria0 : I4 a0 = il [(1, 0)] := by rw [eI4, va_up_ne _ _ (g4.ne ma0)]; exact ria0
  have ka0 := g4.role ma0 ka0
  have ma0 := g4.mem ma0
  have rrq1 : R4 q1 = rl [] := by rw [eR4, va_up_ne _ _ (g4.ne mq1)]; exact rrq1
  have riq1 : I4 q1 = il [] := by rw [eI4, va_up_ne _ _ (g4.ne mq1)]; exact riq1
  have kq1 := g4.role mq1 kq1
  have mq1 := g4.mem mq1
  have mq4 := g4.new
  have kq4 := g4.at
  have al := al.new g4 eI4
  have z0 := z0.new g4 eI4 eJ4
  have ow0 := ow0.new g4 eR4
  have nw := nw.new g4
  have nl := nl.push g4
  have rrq4 : R4 q4 = rl [] := by rw [eR4, va_up_self]; rfl
  have riq4 : I4 q4 = il [] := by rw [eI4, va_up_self]; rfl
  have kk := kk.new g4 eI4 eR4 zz_21 zr_21 (Or.inl rfl) (by decide)
  have old := old.new g4 eI4 eJ4 eR4
  refine lv_dup hx hb dX7_init_34 rfl ?_
  refine afA (va_runIN (As := []) (rest := [.ref q4, .int 0, .ref q1]) ⟨hx, hb, hml, hown, hts⟩ (c_X5_init kk mq4 kq4 riq4 rrq4 z0 ow0) ⟨va_cnB 0 hts (wG_code kc_yX5_init) rfl rfl rfl (hH.2.2.2.2.2.1 _ kn_X7_21) (hts _ kini_X5) ⟨by decide, by decide, by decide +kernel⟩ ⟨by decide, by decide⟩, rfl, hts _ ki_yX5_init⟩ (preS hH) rfl rfl hl.1 rfl (lv_room (Nat.le_of_ble_eq_true rfl)) dX7_init_35 ⟨by decide, by decide⟩) hH (fun L5 C5 I5 J5 R5 H locs hp hH => ?_)
  obtain ⟨kk, od5, kq5, z0, ow0, nw5⟩ := hp
  have ne5 : a0 ≠ q4 := ne_role ka0 kq4 (by decide)
  have rra0 : R5 a0 = rl [(0, q1)] := ((od5 a0 ma0).2 ne5).2.2.2.trans rra0
  have ria0 : I5 a0 = il [(1, 0)] := ((od5 a0 ma0).2 ne5).2.1.trans ria0
  have ka0 : C5 a0 = 23 := ((od5 a0 ma0).2 ne5).1.trans ka0
  have ma0 := (od5 a0 ma0).1
  have ne5 : q1 ≠ q4 := ne_role kq1 kq4 (by decide)
  have rrq1 : R5 q1 = rl [] := ((od5 q1 mq1).2 ne5).2.2.2.trans rrq1
  have riq1 : I5 q1 = il [] := ((od5 q1 mq1).2 ne5).2.1.trans riq1
  have kq1 : C5 q1 = 58 := ((od5 q1 mq1).2 ne5).1.trans kq1
  have mq1 := (od5 q1 mq1).1
  have al := al.old od5 kq4 rfl
  have kq4 : C5 q4 = 5 := kq5
  have mq4 := (od5 q4 mq4).1
  have old := old.ctor od5 nq4
  have nw := (nw.ctor od5 nw5 kq4).wS (Rs1 := [5, 21, 54, 55, 58]) rfl
  have nl := nl.old od5
  have al := al.con0 mq4 kq4 rfl
  have mq4 : q4 ∈ L5 := (al.at (i := 0) rfl).1
  have kq4 : C5 q4 = 5 := (al.at (i := 0) rfl).2
  refine st_58 hx hb hH mq1 kq1 (Rg_in (Rg_c (x := 0) (a := 0) (b := 0) (by decide)) (by decide)) mq4 kq4 rfl dX7_init_38 (fun R6 H locs eR6 hH => ?_)
  have rra0 : R6 a0 = rl [(0, q1)] := by rw [eR6, u2_ne (ne_role ka0 kq1 (by decide))]; exact rra0
  have rrq1 : R6 q1 = rl [(0, q4)] := by rw [eR6]; exact rl_put rrq1
  have kk : KK L5 C5 I5 R6 (5 :: 55 :: 54 :: 21 :: 58 :: 23 :: S) := by rw [eR6]; exact kk.stR kq1 zr_58
  have old : Old L0 C0 (I0, J0, R0) a0 L5 C5 I5 J5 R6 := by rw [eR6]; exact old.stR (Or.inr nq1)
  have ow0 := ow0.stR kq1 rfl eR6
  refine lv_iinc (v := 1) (lv' := [(1, .int 1), (0, .ref a0)]) hx hb dX7_init_39 hl (k := 0) rfl (by decide) (by decide) rfl (fun ls hl => ?_)
  refine lv_goto (tgt := 20) hx hb dX7_init_42 (by decide) ?_
  refine lv_iload_n hx hb dX7_init_20 rfl (lv_at hl 0 rfl) ?_
  refine lv_bipush (v := 6) hx hb dX7_init_21 (by decide) ?_
  refine lv_icmp_ge (tgt := 45) hx hb dX7_init_23 (by decide) (fun q => absurd q (by decide)) (fun q => ?_)
  refine lv_aload_n hx hb dX7_init_26 rfl (lv_at hl 1 rfl) ?_
  refine gf_7_0 (b := q1) (by rw [rra0]; rfl) hx hb hts hown hH ma0 ka0 rfl kf_X7_11 dX7_init_27 ?_
  refine lv_iload_n hx hb dX7_init_30 rfl (lv_at hl 0 rfl) ?_
  refine hNew (ci := 5) (N := 8) hx hb hts hown hH inX5 tyX5_ok rfl (by decide) rfl df_5 kcl_X7_9 kinst_X5 kini_X5 (by decide) (by decide) dX7_init_31 (fun q7 L7 C7 I7 J7 R7 H g7 eI7 eJ7 eR7 hH => ?_)
  have nq7 : q7 ∉ L0 := fun h => g7.2.2 (old q7 h).1
  have rra0 : R7 a0 = rl [(0, q1)] := by rw [eR7, va_up_ne _ _ (g7.ne ma0)]; exact rra0
  have ria0 : I7 a0 = il [(1, 0)] := by rw [eI7, va_up_ne _ _ (g7.ne ma0)]; exact ria0
  have ka0 := g7.role ma0 ka0
  have ma0 := g7.mem ma0
  have rrq1 : R7 q1 = rl [(0, q4)] := by rw [eR7, va_up_ne _ _ (g7.ne mq1)]; exact rrq1
  have riq1 : I7 q1 = il [] := by rw [eI7, va_up_ne _ _ (g7.ne mq1)]; exact riq1
  have kq1 := g7.role mq1 kq1
  have mq1 := g7.mem mq1
  have mq7 := g7.new
  have kq7 := g7.at
  have al := al.new g7 eI7
  have z0 := z0.new g7 eI7 eJ7
  have ow0 := ow0.new g7 eR7
  have nw := nw.new g7
  have nl := nl.push g7
  have rrq7 : R7 q7 = rl [] := by rw [eR7, va_up_self]; rfl
  have riq7 : I7 q7 = il [] := by rw [eI7, va_up_self]; rfl
  have kk := kk.new g7 eI7 eR7 zz_21 zr_21 (Or.inl rfl) (by decide)
  have old := old.new g7 eI7 eJ7 eR7
  refine lv_dup hx hb dX7_init_34 rfl ?_
  refine afA (va_runIN (As := []) (rest := [.ref q7, .int 1, .ref q1]) ⟨hx, hb, hml, hown, hts⟩ (c_X5_init kk mq7 kq7 riq7 rrq7 z0 ow0) ⟨va_cnB 0 hts (wG_code kc_yX5_init) rfl rfl rfl (hH.2.2.2.2.2.1 _ kn_X7_21) (hts _ kini_X5) ⟨by decide, by decide, by decide +kernel⟩ ⟨by decide, by decide⟩, rfl, hts _ ki_yX5_init⟩ (preS hH) rfl rfl hl.1 rfl (lv_room (Nat.le_of_ble_eq_true rfl)) dX7_init_35 ⟨by decide, by decide⟩) hH (fun L8 C8 I8 J8 R8 H locs hp hH => ?_)
  obtain ⟨kk, od8, kq8, z0, ow0, nw8⟩ := hp
  have ne8 : a0 ≠ q7 := ne_role ka0 kq7 (by decide)
  have rra0 : R8 a0 = rl [(0, q1)] := ((od8 a0 ma0).2 ne8).2.2.2.trans rra0
  have ria0 : I8 a0 = il [(1, 0)] := ((od8 a0 ma0).2 ne8).2.1.trans ria0
  have ka0 : C8 a0 = 23 := ((od8 a0 ma0).2 ne8).1.trans ka0
  have ma0 := (od8 a0 ma0).1
  have ne8 : q1 ≠ q7 := ne_role kq1 kq7 (by decide)
  have rrq1 : R8 q1 = rl [(0, q4)] := ((od8 q1 mq1).2 ne8).2.2.2.trans rrq1
  have riq1 : I8 q1 = il [] := ((od8 q1 mq1).2 ne8).2.1.trans riq1
  have kq1 : C8 q1 = 58 := ((od8 q1 mq1).2 ne8).1.trans kq1
  have mq1 := (od8 q1 mq1).1
  have al := al.old od8 kq7 rfl
  have kq7 : C8 q7 = 5 := kq8
  have mq7 := (od8 q7 mq7).1
  have old := old.ctor od8 nq7
  have nw := (nw.ctor od8 nw8 kq7).wS (Rs1 := [5, 21, 54, 55, 58]) rfl
  have nl := nl.old od8
  have al := al.con0 mq7 kq7 rfl
  have mq7 : q7 ∈ L8 := (al.at (i := 0) rfl).1
  have kq7 : C8 q7 = 5 := (al.at (i := 0) rfl).2
  refine st_58 hx hb hH mq1 kq1 (Rg_in (Rg_c (x := 1) (a := 1) (b := 1) (by decide)) (by decide)) mq7 kq7 rfl dX7_init_38 (fun R9 H locs eR9 hH => ?_)
  have rra0 : R9 a0 = rl [(0, q1)] := by rw [eR9, u2_ne (ne_role ka0 kq1 (by decide))]; exact rra0
  have rrq1 : R9 q1 = rl [(1, q7), (0, q4)] := by rw [eR9]; exact rl_put rrq1
  have kk : KK L8 C8 I8 R9 (5 :: 55 :: 54 :: 21 :: 5 :: 55 :: 54 :: 21 :: 58 :: 23 :: S) := by rw [eR9]; exact kk.stR kq1 zr_58
  have old : Old L0 C0 (I0, J0, R0) a0 L8 C8 I8 J8 R9 := by rw [eR9]; exact old.stR (Or.inr nq1)
  have ow0 := ow0.stR kq1 rfl eR9
  refine lv_iinc (v := 2) (lv' := [(1, .int 2), (0, .ref a0)]) hx hb dX7_init_39 hl (k := 0) rfl (by decide) (by decide) rfl (fun ls hl => ?_)
  refine lv_goto (tgt := 20) hx hb dX7_init_42 (by decide) ?_
  refine lv_iload_n hx hb dX7_init_20 rfl (lv_at hl 0 rfl) ?_
  refine lv_bipush (v := 6) hx hb dX7_init_21 (by decide) ?_
  refine lv_icmp_ge (tgt := 45) hx hb dX7_init_23 (by decide) (fun q => absurd q (by decide)) (fun q => ?_)
  refine lv_aload_n hx hb dX7_init_26 rfl (lv_at hl 1 rfl) ?_
  refine gf_7_0 (b := q1) (by rw [rra0]; rfl) hx hb hts hown hH ma0 ka0 rfl kf_X7_11 dX7_init_27 ?_
  refine lv_iload_n hx hb dX7_init_30 rfl (lv_at hl 0 rfl) ?_
  refine hNew (ci := 5) (N := 8) hx hb hts hown hH inX5 tyX5_ok rfl (by decide) rfl df_5 kcl_X7_9 kinst_X5 kini_X5 (by decide) (by decide) dX7_init_31 (fun q10 L10 C10 I10 J10 R10 H g10 eI10 eJ10 eR10 hH => ?_)
  have nq10 : q10 ∉ L0 := fun h => g10.2.2 (old q10 h).1
  have rra0 : R10 a0 = rl [(0, q1)] := by rw [eR10, va_up_ne _ _ (g10.ne ma0)]; exact rra0
  have ria0 : I10 a0 = il [(1, 0)] := by rw [eI10, va_up_ne _ _ (g10.ne ma0)]; exact ria0
  have ka0 := g10.role ma0 ka0
  have ma0 := g10.mem ma0
  have rrq1 : R10 q1 = rl [(1, q7), (0, q4)] := by rw [eR10, va_up_ne _ _ (g10.ne mq1)]; exact rrq1
  have riq1 : I10 q1 = il [] := by rw [eI10, va_up_ne _ _ (g10.ne mq1)]; exact riq1
  have kq1 := g10.role mq1 kq1
  have mq1 := g10.mem mq1
  have mq10 := g10.new
  have kq10 := g10.at
  have al := al.new g10 eI10
  have z0 := z0.new g10 eI10 eJ10
  have ow0 := ow0.new g10 eR10
  have nw := nw.new g10
  have nl := nl.push g10
  have rrq10 : R10 q10 = rl [] := by rw [eR10, va_up_self]; rfl
  have riq10 : I10 q10 = il [] := by rw [eI10, va_up_self]; rfl
  have kk := kk.new g10 eI10 eR10 zz_21 zr_21 (Or.inl rfl) (by decide)
  have old := old.new g10 eI10 eJ10 eR10
  refine lv_dup hx hb dX7_init_34 rfl ?_
  refine afA (va_runIN (As := []) (rest := [.ref q10, .int 2, .ref q1]) ⟨hx, hb, hml, hown, hts⟩ (c_X5_init kk mq10 kq10 riq10 rrq10 z0 ow0) ⟨va_cnB 0 hts (wG_code kc_yX5_init) rfl rfl rfl (hH.2.2.2.2.2.1 _ kn_X7_21) (hts _ kini_X5) ⟨by decide, by decide, by decide +kernel⟩ ⟨by decide, by decide⟩, rfl, hts _ ki_yX5_init⟩ (preS hH) rfl rfl hl.1 rfl (lv_room (Nat.le_of_ble_eq_true rfl)) dX7_init_35 ⟨by decide, by decide⟩) hH (fun L11 C11 I11 J11 R11 H locs hp hH => ?_)
  obtain ⟨kk, od11, kq11, z0, ow0, nw11⟩ := hp
  have ne11 : a0 ≠ q10 := ne_role ka0 kq10 (by decide)
  have rra0 : R11 a0 = rl [(0, q1)] := ((od11 a0 ma0).2 ne11).2.2.2.trans rra0
  have ria0 : I11 a0 = il [(1, 0)] := ((od11 a0 ma0).2 ne11).2.1.trans ria0
  have ka0 : C11 a0 = 23 := ((od11 a0 ma0).2 ne11).1.trans ka0
  have ma0 := (od11 a0 ma0).1
  have ne11 : q1 ≠ q10 := ne_role kq1 kq10 (by decide)
  have rrq1 : R11 q1 = rl [(1, q7), (0, q4)] := ((od11 q1 mq1).2 ne11).2.2.2.trans rrq1
  have riq1 : I11 q1 = il [] := ((od11 q1 mq1).2 ne11).2.1.trans riq1
  have kq1 : C11 q1 = 58 := ((od11 q1 mq1).2 ne11).1.trans kq1
  have mq1 := (od11 q1 mq1).1
  have al := al.old od11 kq10 rfl
  have kq10 : C11 q10 = 5 := kq11
  have mq10 := (od11 q10 mq10).1
  have old := old.ctor od11 nq10
  have nw := (nw.ctor od11 nw11 kq10).wS (Rs1 := [5, 21, 54, 55, 58]) rfl
  have nl := nl.old od11
  have al := al.con0 mq10 kq10 rfl
  have mq10 : q10 ∈ L11 := (al.at (i := 0) rfl).1
  have kq10 : C11 q10 = 5 := (al.at (i := 0) rfl).2
  refine st_58 hx hb hH mq1 kq1 (Rg_in (Rg_c (x := 2) (a := 2) (b := 2) (by decide)) (by decide)) mq10 kq10 rfl dX7_init_38 (fun R12 H locs eR12 hH => ?_)
  have rra0 : R12 a0 = rl [(0, q1)] := by rw [eR12, u2_ne (ne_role ka0 kq1 (by decide))]; exact rra0
  have rrq1 : R12 q1 = rl [(2, q10), (1, q7), (0, q4)] := by rw [eR12]; exact rl_put rrq1
  have kk : KK L11 C11 I11 R12 (5 :: 55 :: 54 :: 21 :: 5 :: 55 :: 54 :: 21 :: 5 :: 55 :: 54 :: 21 :: 58 :: 23 :: S) := by rw [eR12]; exact kk.stR kq1 zr_58
  have old : Old L0 C0 (I0, J0, R0) a0 L11 C11 I11 J11 R12 := by rw [eR12]; exact old.stR (Or.inr nq1)
  have ow0 := ow0.stR kq1 rfl eR12
  refine lv_iinc (v := 3) (lv' := [(1, .int 3), (0, .ref a0)]) hx hb dX7_init_39 hl (k := 0) rfl (by decide) (by decide) rfl (fun ls hl => ?_)
  refine lv_goto (tgt := 20) hx hb dX7_init_42 (by decide) ?_
  refine lv_iload_n hx hb dX7_init_20 rfl (lv_at hl 0 rfl) ?_
  refine lv_bipush (v := 6) hx hb dX7_init_21 (by decide) ?_
  refine lv_icmp_ge (tgt := 45) hx hb dX7_init_23 (by decide) (fun q => absurd q (by decide)) (fun q => ?_)
  refine lv_aload_n hx hb dX7_init_26 rfl (lv_at hl 1 rfl) ?_
  refine gf_7_0 (b := q1) (by rw [rra0]; rfl) hx hb hts hown hH ma0 ka0 rfl kf_X7_11 dX7_init_27 ?_
  refine lv_iload_n hx hb dX7_init_30 rfl (lv_at hl 0 rfl) ?_
  refine hNew (ci := 5) (N := 8) hx hb hts hown hH inX5 tyX5_ok rfl (by decide) rfl df_5 kcl_X7_9 kinst_X5 kini_X5 (by decide) (by decide) dX7_init_31 (fun q13 L13 C13 I13 J13 R13 H g13 eI13 eJ13 eR13 hH => ?_)
  have nq13 : q13 ∉ L0 := fun h => g13.2.2 (old q13 h).1
  have rra0 : R13 a0 = rl [(0, q1)] := by rw [eR13, va_up_ne _ _ (g13.ne ma0)]; exact rra0
  have ria0 : I13 a0 = il [(1, 0)] := by rw [eI13, va_up_ne _ _ (g13.ne ma0)]; exact ria0
  have ka0 := g13.role ma0 ka0
  have ma0 := g13.mem ma0
  have rrq1 : R13 q1 = rl [(2, q10), (1, q7), (0, q4)] := by rw [eR13, va_up_ne _ _ (g13.ne mq1)]; exact rrq1
  have riq1 : I13 q1 = il [] := by rw [eI13, va_up_ne _ _ (g13.ne mq1)]; exact riq1
  have kq1 := g13.role mq1 kq1
  have mq1 := g13.mem mq1
  have mq13 := g13.new
  have kq13 := g13.at
  have al := al.new g13 eI13
  have z0 := z0.new g13 eI13 eJ13
  have ow0 := ow0.new g13 eR13
  have nw := nw.new g13
  have nl := nl.push g13
  have rrq13 : R13 q13 = rl [] := by rw [eR13, va_up_self]; rfl
  have riq13 : I13 q13 = il [] := by rw [eI13, va_up_self]; rfl
  have kk := kk.new g13 eI13 eR13 zz_21 zr_21 (Or.inl rfl) (by decide)
  have old := old.new g13 eI13 eJ13 eR13
  refine lv_dup hx hb dX7_init_34 rfl ?_
  refine afA (va_runIN (As := []) (rest := [.ref q13, .int 3, .ref q1]) ⟨hx, hb, hml, hown, hts⟩ (c_X5_init kk mq13 kq13 riq13 rrq13 z0 ow0) ⟨va_cnB 0 hts (wG_code kc_yX5_init) rfl rfl rfl (hH.2.2.2.2.2.1 _ kn_X7_21) (hts _ kini_X5) ⟨by decide, by decide, by decide +kernel⟩ ⟨by decide, by decide⟩, rfl, hts _ ki_yX5_init⟩ (preS hH) rfl rfl hl.1 rfl (lv_room (Nat.le_of_ble_eq_true rfl)) dX7_init_35 ⟨by decide, by decide⟩) hH (fun L14 C14 I14 J14 R14 H locs hp hH => ?_)
  obtain ⟨kk, od14, kq14, z0, ow0, nw14⟩ := hp
  have ne14 : a0 ≠ q13 := ne_role ka0 kq13 (by decide)
  have rra0 : R14 a0 = rl [(0, q1)] := ((od14 a0 ma0).2 ne14).2.2.2.trans rra0
  have ria0 : I14 a0 = il [(1, 0)] := ((od14 a0 ma0).2 ne14).2.1.trans ria0
  have ka0 : C14 a0 = 23 := ((od14 a0 ma0).2 ne14).1.trans ka0
  have ma0 := (od14 a0 ma0).1
  have ne14 : q1 ≠ q13 := ne_role kq1 kq13 (by decide)
  have rrq1 : R14 q1 = rl [(2, q10), (1, q7), (0, q4)] := ((od14 q1 mq1).2 ne14).2.2.2.trans rrq1
  have riq1 : I14 q1 = il [] := ((od14 q1 mq1).2 ne14).2.1.trans riq1
  have kq1 : C14 q1 = 58 := ((od14 q1 mq1).2 ne14).1.trans kq1
  have mq1 := (od14 q1 mq1).1
  have al := al.old od14 kq13 rfl
  have kq13 : C14 q13 = 5 := kq14
  have mq13 := (od14 q13 mq13).1
  have old := old.ctor od14 nq13
  have nw := (nw.ctor od14 nw14 kq13).wS (Rs1 := [5, 21, 54, 55, 58]) rfl
  have nl := nl.old od14
  have al := al.con0 mq13 kq13 rfl
  have mq13 : q13 ∈ L14 := (al.at (i := 0) rfl).1
  have kq13 : C14 q13 = 5 := (al.at (i := 0) rfl).2
  refine st_58 hx hb hH mq1 kq1 (Rg_in (Rg_c (x := 3) (a := 3) (b := 3) (by decide)) (by decide)) mq13 kq13 rfl dX7_init_38 (fun R15 H locs eR15 hH => ?_)
  have rra0 : R15 a0 = rl [(0, q1)] := by rw [eR15, u2_ne (ne_role ka0 kq1 (by decide))]; exact rra0
  have rrq1 : R15 q1 = rl [(3, q13), (2, q10), (1, q7), (0, q4)] := by rw [eR15]; exact rl_put rrq1
  have kk : KK L14 C14 I14 R15 (5 :: 55 :: 54 :: 21 :: 5 :: 55 :: 54 :: 21 :: 5 :: 55 :: 54 :: 21 :: 5 :: 55 :: 54 :: 21 :: 58 :: 23 :: S) := by rw [eR15]; exact kk.stR kq1 zr_58
  have old : Old L0 C0 (I0, J0, R0) a0 L14 C14 I14 J14 R15 := by rw [eR15]; exact old.stR (Or.inr nq1)
  have ow0 := ow0.stR kq1 rfl eR15
  refine lv_iinc (v := 4) (lv' := [(1, .int 4), (0, .ref a0)]) hx hb dX7_init_39 hl (k := 0) rfl (by decide) (by decide) rfl (fun ls hl => ?_)
  refine lv_goto (tgt := 20) hx hb dX7_init_42 (by decide) ?_
  refine lv_iload_n hx hb dX7_init_20 rfl (lv_at hl 0 rfl) ?_
  refine lv_bipush (v := 6) hx hb dX7_init_21 (by decide) ?_
  refine lv_icmp_ge (tgt := 45) hx hb dX7_init_23 (by decide) (fun q => absurd q (by decide)) (fun q => ?_)
  refine lv_aload_n hx hb dX7_init_26 rfl (lv_at hl 1 rfl) ?_
  refine gf_7_0 (b := q1) (by rw [rra0]; rfl) hx hb hts hown hH ma0 ka0 rfl kf_X7_11 dX7_init_27 ?_
  refine lv_iload_n hx hb dX7_init_30 rfl (lv_at hl 0 rfl) ?_
  refine hNew (ci := 5) (N := 8) hx hb hts hown hH inX5 tyX5_ok rfl (by decide) rfl df_5 kcl_X7_9 kinst_X5 kini_X5 (by decide) (by decide) dX7_init_31 (fun q16 L16 C16 I16 J16 R16 H g16 eI16 eJ16 eR16 hH => ?_)
  have nq16 : q16 ∉ L0 := fun h => g16.2.2 (old q16 h).1
  have rra0 : R16 a0 = rl [(0, q1)] := by rw [eR16, va_up_ne _ _ (g16.ne ma0)]; exact rra0
  have ria0 : I16 a0 = il [(1, 0)] := by rw [eI16, va_up_ne _ _ (g16.ne ma0)]; exact ria0
  have ka0 := g16.role ma0 ka0
  have ma0 := g16.mem ma0
  have rrq1 : R16 q1 = rl [(3, q13), (2, q10), (1, q7), (0, q4)] := by rw [eR16, va_up_ne _ _ (g16.ne mq1)]; exact rrq1
  have riq1 : I16 q1 = il [] := by rw [eI16, va_up_ne _ _ (g16.ne mq1)]; exact riq1
  have kq1 := g16.role mq1 kq1
  have mq1 := g16.mem mq1
  have mq16 := g16.new
  have kq16 := g16.at
  have al := al.new g16 eI16
  have z0 := z0.new g16 eI16 eJ16
  have ow0 := ow0.new g16 eR16
  have nw := nw.new g16
  have nl := nl.push g16
  have rrq16 : R16 q16 = rl [] := by rw [eR16, va_up_self]; rfl
  have riq16 : I16 q16 = il [] := by rw [eI16, va_up_self]; rfl
  have kk := kk.new g16 eI16 eR16 zz_21 zr_21 (Or.inl rfl) (by decide)
  have old := old.new g16 eI16 eJ16 eR16
  refine lv_dup hx hb dX7_init_34 rfl ?_
  refine afA (va_runIN (As := []) (rest := [.ref q16, .int 4, .ref q1]) ⟨hx, hb, hml, hown, hts⟩ (c_X5_init kk mq16 kq16 riq16 rrq16 z0 ow0) ⟨va_cnB 0 hts (wG_code kc_yX5_init) rfl rfl rfl (hH.2.2.2.2.2.1 _ kn_X7_21) (hts _ kini_X5) ⟨by decide, by decide, by decide +kernel⟩ ⟨by decide, by decide⟩, rfl, hts _ ki_yX5_init⟩ (preS hH) rfl rfl hl.1 rfl (lv_room (Nat.le_of_ble_eq_true rfl)) dX7_init_35 ⟨by decide, by decide⟩) hH (fun L17 C17 I17 J17 R17 H locs hp hH => ?_)
  obtain ⟨kk, od17, kq17, z0, ow0, nw17⟩ := hp
  have ne17 : a0 ≠ q16 := ne_role ka0 kq16 (by decide)
  have rra0 : R17 a0 = rl [(0, q1)] := ((od17 a0 ma0).2 ne17).2.2.2.trans rra0
  have ria0 : I17 a0 = il [(1, 0)] := ((od17 a0 ma0).2 ne17).2.1.trans ria0
  have ka0 : C17 a0 = 23 := ((od17 a0 ma0).2 ne17).1.trans ka0
  have ma0 := (od17 a0 ma0).1
  have ne17 : q1 ≠ q16 := ne_role kq1 kq16 (by decide)
  have rrq1 : R17 q1 = rl [(3, q13), (2, q10), (1, q7), (0, q4)] := ((od17 q1 mq1).2 ne17).2.2.2.trans rrq1
  have riq1 : I17 q1 = il [] := ((od17 q1 mq1).2 ne17).2.1.trans riq1
  have kq1 : C17 q1 = 58 := ((od17 q1 mq1).2 ne17).1.trans kq1
  have mq1 := (od17 q1 mq1).1
  have al := al.old od17 kq16 rfl
  have kq16 : C17 q16 = 5 := kq17
  have mq16 := (od17 q16 mq16).1
  have old := old.ctor od17 nq16
  have nw := (nw.ctor od17 nw17 kq16).wS (Rs1 := [5, 21, 54, 55, 58]) rfl
  have nl := nl.old od17
  have al := al.con0 mq16 kq16 rfl
  have mq16 : q16 ∈ L17 := (al.at (i := 0) rfl).1
  have kq16 : C17 q16 = 5 := (al.at (i := 0) rfl).2
  refine st_58 hx hb hH mq1 kq1 (Rg_in (Rg_c (x := 4) (a := 4) (b := 4) (by decide)) (by decide)) mq16 kq16 rfl dX7_init_38 (fun R18 H locs eR18 hH => ?_)
  have rra0 : R18 a0 = rl [(0, q1)] := by rw [eR18, u2_ne (ne_role ka0 kq1 (by decide))]; exact rra0
  have rrq1 : R18 q1 = rl [(4, q16), (3, q13), (2, q10), (1, q7), (0, q4)] := by rw [eR18]; exact rl_put rrq1
  have kk : KK L17 C17 I17 R18 (5 :: 55 :: 54 :: 21 :: 5 :: 55 :: 54 :: 21 :: 5 :: 55 :: 54 :: 21 :: 5 :: 55 :: 54 :: 21 :: 5 :: 55 :: 54 :: 21 :: 58 :: 23 :: S) := by rw [eR18]; exact kk.stR kq1 zr_58
  have old : Old L0 C0 (I0, J0, R0) a0 L17 C17 I17 J17 R18 := by rw [eR18]; exact old.stR (Or.inr nq1)
  have ow0 := ow0.stR kq1 rfl eR18
  refine lv_iinc (v := 5) (lv' := [(1, .int 5), (0, .ref a0)]) hx hb dX7_init_39 hl (k := 0) rfl (by decide) (by decide) rfl (fun ls hl => ?_)
  refine lv_goto (tgt := 20) hx hb dX7_init_42 (by decide) ?_
  refine lv_iload_n hx hb dX7_init_20 rfl (lv_at hl 0 rfl) ?_
  refine lv_bipush (v := 6) hx hb dX7_init_21 (by decide) ?_
  refine lv_icmp_ge (tgt := 45) hx hb dX7_init_23 (by decide) (fun q => absurd q (by decide)) (fun q => ?_)
  refine lv_aload_n hx hb dX7_init_26 rfl (lv_at hl 1 rfl) ?_
  refine gf_7_0 (b := q1) (by rw [rra0]; rfl) hx hb hts hown hH ma0 ka0 rfl kf_X7_11 dX7_init_27 ?_
  refine lv_iload_n hx hb dX7_init_30 rfl (lv_at hl 0 rfl) ?_
  refine hNew (ci := 5) (N := 8) hx hb hts hown hH inX5 tyX5_ok rfl (by decide) rfl df_5 kcl_X7_9 kinst_X5 kini_X5 (by decide) (by decide) dX7_init_31 (fun q19 L19 C19 I19 J19 R19 H g19 eI19 eJ19 eR19 hH => ?_)
  have nq19 : q19 ∉ L0 := fun h => g19.2.2 (old q19 h).1
  have rra0 : R19 a0 = rl [(0, q1)] := by rw [eR19, va_up_ne _ _ (g19.ne ma0)]; exact rra0
  have ria0 : I19 a0 = il [(1, 0)] := by rw [eI19, va_up_ne _ _ (g19.ne ma0)]; exact ria0
  have ka0 := g19.role ma0 ka0
  have ma0 := g19.mem ma0
  have rrq1 : R19 q1 = rl [(4, q16), (3, q13), (2, q10), (1, q7), (0, q4)] := by rw [eR19, va_up_ne _ _ (g19.ne mq1)]; exact rrq1
  have riq1 : I19 q1 = il [] := by rw [eI19, va_up_ne _ _ (g19.ne mq1)]; exact riq1
  have kq1 := g19.role mq1 kq1
  have mq1 := g19.mem mq1
  have mq19 := g19.new
  have kq19 := g19.at
  have al := al.new g19 eI19
  have z0 := z0.new g19 eI19 eJ19
  have ow0 := ow0.new g19 eR19
  have nw := nw.new g19
  have nl := nl.push g19
  have rrq19 : R19 q19 = rl [] := by rw [eR19, va_up_self]; rfl
  have riq19 : I19 q19 = il [] := by rw [eI19, va_up_self]; rfl
  have kk := kk.new g19 eI19 eR19 zz_21 zr_21 (Or.inl rfl) (by decide)
  have old := old.new g19 eI19 eJ19 eR19
  refine lv_dup hx hb dX7_init_34 rfl ?_
  refine afA (va_runIN (As := []) (rest := [.ref q19, .int 5, .ref q1]) ⟨hx, hb, hml, hown, hts⟩ (c_X5_init kk mq19 kq19 riq19 rrq19 z0 ow0) ⟨va_cnB 0 hts (wG_code kc_yX5_init) rfl rfl rfl (hH.2.2.2.2.2.1 _ kn_X7_21) (hts _ kini_X5) ⟨by decide, by decide, by decide +kernel⟩ ⟨by decide, by decide⟩, rfl, hts _ ki_yX5_init⟩ (preS hH) rfl rfl hl.1 rfl (lv_room (Nat.le_of_ble_eq_true rfl)) dX7_init_35 ⟨by decide, by decide⟩) hH (fun L20 C20 I20 J20 R20 H locs hp hH => ?_)
  obtain ⟨kk, od20, kq20, z0, ow0, nw20⟩ := hp
  have ne20 : a0 ≠ q19 := ne_role ka0 kq19 (by decide)
  have rra0 : R20 a0 = rl [(0, q1)] := ((od20 a0 ma0).2 ne20).2.2.2.trans rra0
  have ria0 : I20 a0 = il [(1, 0)] := ((od20 a0 ma0).2 ne20).2.1.trans ria0
  have ka0 : C20 a0 = 23 := ((od20 a0 ma0).2 ne20).1.trans ka0
  have ma0 := (od20 a0 ma0).1
  have ne20 : q1 ≠ q19 := ne_role kq1 kq19 (by decide)
  have rrq1 : R20 q1 = rl [(4, q16), (3, q13), (2, q10), (1, q7), (0, q4)] := ((od20 q1 mq1).2 ne20).2.2.2.trans rrq1
  have riq1 : I20 q1 = il [] := ((od20 q1 mq1).2 ne20).2.1.trans riq1
  have kq1 : C20 q1 = 58 := ((od20 q1 mq1).2 ne20).1.trans kq1
  have mq1 := (od20 q1 mq1).1
  have al := al.old od20 kq19 rfl
  have kq19 : C20 q19 = 5 := kq20
  have mq19 := (od20 q19 mq19).1
  have old := old.ctor od20 nq19
  have nw := (nw.ctor od20 nw20 kq19).wS (Rs1 := [5, 21, 54, 55, 58]) rfl
  have nl := nl.old od20
  have al := al.con0 mq19 kq19 rfl
  have mq19 : q19 ∈ L20 := (al.at (i := 0) rfl).1
  have kq19 : C20 q19 = 5 := (al.at (i := 0) rfl).2
  refine st_58 hx hb hH mq1 kq1 (Rg_in (Rg_c (x := 5) (a := 5) (b := 5) (by decide)) (by decide)) mq19 kq19 rfl dX7_init_38 (fun R21 H locs eR21 hH => ?_)
  have rra0 : R21 a0 = rl [(0, q1)] := by rw [eR21, u2_ne (ne_role ka0 kq1 (by decide))]; exact rra0
  have rrq1 : R21 q1 = rl [(5, q19), (4, q16), (3, q13), (2, q10), (1, q7), (0, q4)] := by rw [eR21]; exact rl_put rrq1
  have kk : KK L20 C20 I20 R21 (5 :: 55 :: 54 :: 21 :: 5 :: 55 :: 54 :: 21 :: 5 :: 55 :: 54 :: 21 :: 5 :: 55 :: 54 :: 21 :: 5 :: 55 :: 54 :: 21 :: 5 :: 55 :: 54 :: 21 :: 58 :: 23 :: S) := by rw [eR21]; exact kk.stR kq1 zr_58
  have old : Old L0 C0 (I0, J0, R0) a0 L20 C20 I20 J20 R21 := by rw [eR21]; exact old.stR (Or.inr nq1)
  have ow0 := ow0.stR kq1 rfl eR21
  refine lv_iinc (v := 6) (lv' := [(1, .int 6), (0, .ref a0)]) hx hb dX7_init_39 hl (k := 0) rfl (by decide) (by decide) rfl (fun ls hl => ?_)
  refine lv_goto (tgt := 20) hx hb dX7_init_42 (by decide) ?_
  refine lv_iload_n hx hb dX7_init_20 rfl (lv_at hl 0 rfl) ?_
  refine lv_bipush (v := 6) hx hb dX7_init_21 (by decide) ?_
  refine lv_icmp_ge (tgt := 45) hx hb dX7_init_23 (by decide) (fun q => ?_) (fun q => absurd (by decide) q)
  have mq10 : q10 ∈ L20 := (al.at (i := 3) rfl).1
  have kq10 : C20 q10 = 5 := (al.at (i := 3) rfl).2
  have mq13 : q13 ∈ L20 := (al.at (i := 2) rfl).1
  have kq13 : C20 q13 = 5 := (al.at (i := 2) rfl).2
  have mq16 : q16 ∈ L20 := (al.at (i := 1) rfl).1
  have kq16 : C20 q16 = 5 := (al.at (i := 1) rfl).2
  have mq19 : q19 ∈ L20 := (al.at (i := 0) rfl).1
  have kq19 : C20 q19 = 5 := (al.at (i := 0) rfl).2
  have mq4 : q4 ∈ L20 := (al.at (i := 5) rfl).1
  have kq4 : C20 q4 = 5 := (al.at (i := 5) rfl).2
  have mq7 : q7 ∈ L20 := (al.at (i := 4) rfl).1
  have kq7 : C20 q7 = 5 := (al.at (i := 4) rfl).2
  have hI22 : ∀ j, j < rN 56 → rLo 56 j ≤ (I20 q1 j).toInt ∧ (I20 q1 j).toInt ≤ rHi 56 j ∧ (rX 56 = true → (I20 q1 j).toInt ≤ 3 ∨ (I20 q1 j).toInt = 9) := by rw [riq1]; decide +kernel
  have hR22 : ∀ j, j < rN 56 → rR 56 j ≠ 0 → ∃ b, b ∈ L20 ∧ b ≠ q1 ∧ R21 q1 j = some b ∧ C20 b + 1 = rR 56 j := by
    intro j hj hn
    rw [rrq1]
    have hj : j < 6 := hj
    rcases (show j = 0 ∨ j = 1 ∨ j = 2 ∨ j = 3 ∨ j = 4 ∨ j = 5 by omega) with rfl | rfl | rfl | rfl | rfl | rfl
    · exact ⟨q4, mq4, ne_role kq4 kq1 (by decide), rfl, by rw [kq4]; rfl⟩
    · exact ⟨q7, mq7, ne_role kq7 kq1 (by decide), rfl, by rw [kq7]; rfl⟩
    · exact ⟨q10, mq10, ne_role kq10 kq1 (by decide), rfl, by rw [kq10]; rfl⟩
    · exact ⟨q13, mq13, ne_role kq13 kq1 (by decide), rfl, by rw [kq13]; rfl⟩
    · exact ⟨q16, mq16, ne_role kq16 kq1 (by decide), rfl, by rw [kq16]; rfl⟩
    · exact ⟨q19, mq19, ne_role kq19 kq1 (by decide), rfl, by rw [kq19]; rfl⟩
  have oi22 : ∀ i j c, ow 56 i = true → ow 56 j = true → R21 q1 i = some c → R21 q1 j = some c → i = j := fun i j c o1 o2 h1 h2 => own_inj (n := 6) rfl nl.1 (fun i hi => by
    rw [rrq1]
    rcases (show i = 0 ∨ i = 1 ∨ i = 2 ∨ i = 3 ∨ i = 4 ∨ i = 5 by omega) with rfl | rfl | rfl | rfl | rfl | rfl <;> rfl) (by have a1 := ow_or o1; omega) (by have a1 := ow_or o2; omega) h1 h2
  have oo22 : ∀ b ∈ L20, C20 b = 56 → ∀ i j c, ow 56 i = true → ow 56 j = true → R21 b i = some c → R21 q1 j = some c → False := by
    intro b hb hC i j c o1 o2 h1 h2
    have a1 := own_old kk0 old ka0 rfl nw rfl b hb hC i c o1 h1
    rw [rrq1] at h2
    rcases (show j = 0 ∨ j = 1 ∨ j = 2 ∨ j = 3 ∨ j = 4 ∨ j = 5 by have a2 := ow_or o2; omega) with rfl | rfl | rfl | rfl | rfl | rfl
    · exact nq4 (by rw [Option.some.inj (show some q4 = some c from h2)]; exact a1)
    · exact nq7 (by rw [Option.some.inj (show some q7 = some c from h2)]; exact a1)
    · exact nq10 (by rw [Option.some.inj (show some q10 = some c from h2)]; exact a1)
    · exact nq13 (by rw [Option.some.inj (show some q13 = some c from h2)]; exact a1)
    · exact nq16 (by rw [Option.some.inj (show some q16 = some c from h2)]; exact a1)
    · exact nq19 (by rw [Option.some.inj (show some q19 = some c from h2)]; exact a1)
  have ow0 := ow0.relO (q := q1) oi22 oo22
  have hH := hH.rel (q := q1) (r := 56) (by rw [kq1]; rfl) (by rw [kq1]; rfl)
  have kk := kk.rel mq1 kq1 (Or.inr ⟨by decide, by decide⟩) hI22 hR22 (Or.inl rfl) (fun h => absurd h (by decide)) (by decide) (by decide)
  have old := old.rel (q := q1) (r := 56) (Or.inr nq1)
  have al := al.rel (r := 56) kq1 rfl
  have z0 := z0.rel (q := q1) (r := 56) (iv_il (by decide) riq1)
  have nw := nw.rel (q := q1) (r := 56)
  obtain ⟨C22, eC22⟩ : ∃ z, z = va_up C20 q1 56 := ⟨_, rfl⟩
  rw [← eC22] at hH kk old al z0 ow0 nw
  have ka0 : C22 a0 = 23 := by rw [eC22, va_up_ne _ _ (ne_role ka0 kq1 (by decide))]; exact ka0
  have kq1 : C22 q1 = 56 := by rw [eC22, va_up_self]
  have al := al.con0 mq1 kq1 rfl
  have mq1 : q1 ∈ L20 := (al.at (i := 0) rfl).1
  have kq1 : C22 q1 = 56 := (al.at (i := 0) rfl).2
  have hI23 : ∀ j, j < rN 7 → rLo 7 j ≤ (I20 a0 j).toInt ∧ (I20 a0 j).toInt ≤ rHi 7 j ∧ (rX 7 = true → (I20 a0 j).toInt ≤ 3 ∨ (I20 a0 j).toInt = 9) := by rw [ria0]; decide +kernel
  have hR23 : ∀ j, j < rN 7 → rR 7 j ≠ 0 → ∃ b, b ∈ L20 ∧ b ≠ a0 ∧ R21 a0 j = some b ∧ C22 b + 1 = rR 7 j := by
    intro j hj hn
    rw [rra0]
    have hj : j < 2 := hj
    rcases (show j = 0 ∨ j = 1 by omega) with rfl | rfl
    · exact ⟨q1, mq1, ne_role kq1 ka0 (by decide), rfl, by rw [kq1]; rfl⟩
    · exact absurd rfl hn
  have oi23 : ∀ i j c, ow 7 i = true → ow 7 j = true → R21 a0 i = some c → R21 a0 j = some c → i = j := by
    intro i j c o1 o2 h1 h2
    have a1 := ow_or o1
    have a2 := ow_or o2
    omega
  have oo23 : ∀ b ∈ L20, C22 b = 7 → ∀ i j c, ow 7 i = true → ow 7 j = true → R21 b i = some c → R21 a0 j = some c → False := by
    intro b hb hC i j c o1 o2 h1 h2
    have a1 := own_old kk0 old ka0 rfl nw rfl b hb hC i c o1 h1
    rw [rra0] at h2
    rcases (show j = 0 by have a2 := ow_or o2; omega) with rfl
    · exact nq1 (by rw [Option.some.inj (show some q1 = some c from h2)]; exact a1)
  have ow0 := ow0.relO (q := a0) oi23 oo23
  have hH := hH.rel (q := a0) (r := 7) (by rw [ka0]; rfl) (by rw [ka0]; rfl)
  have kk := kk.rel ma0 ka0 (Or.inl ⟨by decide, by decide⟩) hI23 hR23 (Or.inl rfl) (fun h => absurd h (by decide)) (by decide) (by decide)
  have old := old.rel (q := a0) (r := 7) (Or.inl rfl)
  have al := al.rel (r := 7) ka0 rfl
  have z0 := z0.rel (q := a0) (r := 7) (iv_il (by decide) ria0)
  have nw := nw.rel (q := a0) (r := 7)
  obtain ⟨C23, eC23⟩ : ∃ z, z = va_up C22 a0 7 := ⟨_, rfl⟩
  rw [← eC23] at hH kk old al z0 ow0 nw
  have ka0 : C23 a0 = 7 := by rw [eC23, va_up_self]
  refine W.widen (k := 19) (n := 102) (by decide) (by decide) ?_
  exact ret _ _ _ _ _ _ _ _ _ dX7_init_45 hH ⟨kk, old, ka0, z0, ow0, (nw.wS rfl)⟩
