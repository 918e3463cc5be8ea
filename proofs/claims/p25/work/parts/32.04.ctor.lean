set_option maxHeartbeats 4000000 in
set_option maxRecDepth 100000 in
theorem c_X9_init {l : Launch} {D : va_G} {cy : Nat → ClassId} {L0 : List Nat} {C0 : Nat → Nat} {b0 : Nat} {I0 : hI} {J0 : hJ} {R0 : hR} {a0 a1 a2 : Nat} (kk : KK L0 C0 I0 R0 [25, 60, 0, 2, 3, 6, 16, 18, 19, 22, 26, 32, 33, 34, 35, 36, 37, 38, 39, 40, 41, 42, 43, 44]) (ma0 : a0 ∈ L0) (ka0 : C0 a0 = 25) (ria0 : I0 a0 = il []) (rra0 : R0 a0 = rl []) (ma1 : a1 ∈ L0) (ka1 : C0 a1 = 3) (ma2 : a2 ∈ L0) (ka2 : C0 a2 = 60) (z0 : Z0 L0 C0 I0 J0) (ow0 : Ow L0 C0 R0) : CA l yX9_init cX9_init 3 2 3 120 D cy L0 C0 b0 [.ref a0, .ref a1, .ref a2] (I0, J0, R0) (fun q => KK q.1 q.2.1 q.2.2.1 q.2.2.2.2 [0, 2, 3, 6, 16, 18, 19, 22, 25, 26, 32, 33, 34, 35, 36, 37, 38, 39, 40, 41, 42, 43, 44, 45, 46, 47, 60] ∧ Old L0 C0 (I0, J0, R0) a0 q.1 q.2.1 q.2.2.1 q.2.2.2.1 q.2.2.2.2 ∧ q.2.1 a0 = 25 ∧ (∃ q7 q3 q1 : Nat, q.2.2.2.2 a0 = rl [(1, a2), (0, a1), (6, q7), (3, q3), (2, q1)] ∧ q.2.2.1 a0 = il [(5, 0), (4, 0)] ∧ (q7 ∈ q.1 ∧ q.2.1 q7 = 47) ∧ (q3 ∈ q.1 ∧ q.2.1 q3 = 46) ∧ (q1 ∈ q.1 ∧ q.2.1 q1 = 45)) ∧ Z0 q.1 q.2.1 q.2.2.1 q.2.2.2.1 ∧ Ow q.1 q.2.1 q.2.2.2.2 ∧ (∃ ww : Nat, ww ∈ q.1 ∧ q.2.1 ww = 45 ∧ ∀ j, j < 100 → q.2.2.1 ww j = -1)) := by
  refine CA.mk (plainFor_of_name (by decide)) (Nat.le_of_ble_eq_true rfl) ?_
  intro p e s m args below meth c ls Q hF hin ret hH hl
  obtain ⟨hx, hb, -, hml, hown, hts, -⟩ := hF
  have hl : lv_has ls 3 [(0, .ref a0), (1, .ref a1), (2, .ref a2)] := hl
  have hH : Hp D cy L0 C0 b0 s s.heap I0 J0 R0 s.heap [] := hH
  have old : Old L0 C0 (I0, J0, R0) a0 L0 C0 I0 J0 R0 := Old.rf
  have hS0 := kk.2.2.2.1
  have kk0 := kk.2.1
  have al : AJ L0 C0 I0 [] := AJ.nil
  have al := al.con0 ma1 ka1 rfl
  refine lv_aload_n hx hb dX9_init_0 rfl (lv_at hl 0 rfl) ?_
  refine W.objInit hx hb hown (hts _ km_X9_3) (hts _ ki_objectInit) (hts _ kc_objectInit) rfl (by rw [hml]; exact hl.1) rfl dX9_init_1 (Nat.le_of_ble_eq_true rfl) (Nat.le_of_ble_eq_true rfl) ?_
  refine W.eq (g2 := F0 m 4 ls []) rfl ?_
  refine lv_aload_n hx hb dX9_init_4 rfl (lv_at hl 0 rfl) ?_
  refine lv_bipush (v := 100) hx hb dX9_init_5 (by decide) ?_
  refine hNewP (k := 0) (r := 45) (N := 100) (atype := .int) (ty := .int) (a0 := (100, .inl (fun _ => 0))) hx hb hts hH rfl kac_int rfl rfl rfl (eN_I rfl rfl) (by decide) (by decide) (by decide) (by decide) (by decide) dX9_init_7 (fun q1 L1 C1 I1 J1 R1 H g1 eI1 eJ1 eR1 hH => ?_)
  have nq1 : q1 ∉ L0 := fun h => g1.2.2 (old q1 h).1
  have rra0 : R1 a0 = rl [] := by rw [eR1, va_up_ne _ _ (g1.ne ma0)]; exact rra0
  have ria0 : I1 a0 = il [] := by rw [eI1, va_up_ne _ _ (g1.ne ma0)]; exact ria0
  have ka0 := g1.role ma0 ka0
  have ma0 := g1.mem ma0
  have ka2 := g1.role ma2 ka2
  have ma2 := g1.mem ma2
  have mq1 := g1.new
  have kq1 := g1.at
  have al := al.new g1 eI1
  have z0 := z0.new g1 eI1 eJ1
  have ow0 := ow0.new g1 eR1
  have al := al.con0 mq1 kq1 rfl
  have kk := kk.new g1 eI1 eR1 zz_45 zr_45 (Or.inr rfl) (by decide)
  have old := old.new g1 eI1 eJ1 eR1
  refine pf_9_2 hx hb hts hown hH hin rfl ma0 ka0 rfl kf_X9_9 dX9_init_9 (fun R2 H locs eR2 hH => ?_)
  have rra0 : R2 a0 = rl [(2, q1)] := by rw [eR2]; exact rl_put rra0
  have kk : KK L1 C1 I1 R2 [45, 25, 60, 0, 2, 3, 6, 16, 18, 19, 22, 26, 32, 33, 34, 35, 36, 37, 38, 39, 40, 41, 42, 43, 44] := by rw [eR2]; exact kk.stR ka0 zr_25
  have old : Old L0 C0 (I0, J0, R0) a0 L1 C1 I1 J1 R2 := by rw [eR2]; exact old.stR (Or.inl rfl)
  have ow0 := ow0.stR ka0 rfl eR2
  refine lv_aload_n hx hb dX9_init_12 rfl (lv_at hl 0 rfl) ?_
  refine lv_bipush (v := 10) hx hb dX9_init_13 (by decide) ?_
  refine hNewP (k := 0) (r := 46) (N := 10) (atype := .int) (ty := .int) (a0 := (10, .inl (fun _ => 0))) hx hb hts hH rfl kac_int rfl rfl rfl (eN_I rfl rfl) (by decide) (by decide) (by decide) (by decide) (by decide) dX9_init_15 (fun q3 L3 C3 I3 J3 R3 H g3 eI3 eJ3 eR3 hH => ?_)
  have nq3 : q3 ∉ L0 := fun h => g3.2.2 (old q3 h).1
  have rra0 : R3 a0 = rl [(2, q1)] := by rw [eR3, va_up_ne _ _ (g3.ne ma0)]; exact rra0
  have ria0 : I3 a0 = il [] := by rw [eI3, va_up_ne _ _ (g3.ne ma0)]; exact ria0
  have ka0 := g3.role ma0 ka0
  have ma0 := g3.mem ma0
  have ka2 := g3.role ma2 ka2
  have ma2 := g3.mem ma2
  have mq3 := g3.new
  have kq3 := g3.at
  have al := al.new g3 eI3
  have z0 := z0.new g3 eI3 eJ3
  have ow0 := ow0.new g3 eR3
  have al := al.con0 mq3 kq3 rfl
  have kk := kk.new g3 eI3 eR3 zz_46 zr_46 (Or.inr rfl) (by decide)
  have old := old.new g3 eI3 eJ3 eR3
  refine pf_9_3 hx hb hts hown hH hin rfl ma0 ka0 rfl kf_X9_15 dX9_init_17 (fun R4 H locs eR4 hH => ?_)
  have rra0 : R4 a0 = rl [(3, q3), (2, q1)] := by rw [eR4]; exact rl_put rra0
  have kk : KK L3 C3 I3 R4 [46, 45, 25, 60, 0, 2, 3, 6, 16, 18, 19, 22, 26, 32, 33, 34, 35, 36, 37, 38, 39, 40, 41, 42, 43, 44] := by rw [eR4]; exact kk.stR ka0 zr_25
  have old : Old L0 C0 (I0, J0, R0) a0 L3 C3 I3 J3 R4 := by rw [eR4]; exact old.stR (Or.inl rfl)
  have ow0 := ow0.stR ka0 rfl eR4
  refine lv_aload_n hx hb dX9_init_20 rfl (lv_at hl 0 rfl) ?_
  refine lv_iconst (v := 0) hx hb dX9_init_21 (by decide) ?_
  refine pf_9_4 hx hb hts hown hH ma0 ka0 rfl kf_X9_18 dX9_init_22 (fun I5 H locs eI5 hH => ?_)
  have ria0 : I5 a0 = il [(4, 0)] := by rw [eI5]; exact il_put ria0
  have kk : KK L3 C3 I5 R4 [46, 45, 25, 60, 0, 2, 3, 6, 16, 18, 19, 22, 26, 32, 33, 34, 35, 36, 37, 38, 39, 40, 41, 42, 43, 44] := by rw [eI5]; exact kk.stI ka0 ⟨by decide, by decide⟩
  have old : Old L0 C0 (I0, J0, R0) a0 L3 C3 I5 J3 R4 := by rw [eI5]; exact old.stI (Or.inl rfl)
  have al := al.stI ka0 rfl eI5
  have z0 := z0.stI ka0 rfl eI5
  refine lv_aload_n hx hb dX9_init_25 rfl (lv_at hl 0 rfl) ?_
  refine lv_iconst (v := 0) hx hb dX9_init_26 (by decide) ?_
  refine pf_9_5 hx hb hts hown hH ma0 ka0 rfl kf_X9_22 dX9_init_27 (fun I6 H locs eI6 hH => ?_)
  have ria0 : I6 a0 = il [(5, 0), (4, 0)] := by rw [eI6]; exact il_put ria0
  have kk : KK L3 C3 I6 R4 [46, 45, 25, 60, 0, 2, 3, 6, 16, 18, 19, 22, 26, 32, 33, 34, 35, 36, 37, 38, 39, 40, 41, 42, 43, 44] := by rw [eI6]; exact kk.stI ka0 ⟨by decide, by decide⟩
  have old : Old L0 C0 (I0, J0, R0) a0 L3 C3 I6 J3 R4 := by rw [eI6]; exact old.stI (Or.inl rfl)
  have al := al.stI ka0 rfl eI6
  have z0 := z0.stI ka0 rfl eI6
  refine lv_aload_n hx hb dX9_init_30 rfl (lv_at hl 0 rfl) ?_
  refine lv_bipush (v := 10) hx hb dX9_init_31 (by decide) ?_
  refine hNewP (k := 0) (r := 47) (N := 10) (atype := .int) (ty := .int) (a0 := (10, .inl (fun _ => 0))) hx hb hts hH rfl kac_int rfl rfl rfl (eN_I rfl rfl) (by decide) (by decide) (by decide) (by decide) (by decide) dX9_init_33 (fun q7 L7 C7 I7 J7 R7 H g7 eI7 eJ7 eR7 hH => ?_)
  have nq7 : q7 ∉ L0 := fun h => g7.2.2 (old q7 h).1
  have rra0 : R7 a0 = rl [(3, q3), (2, q1)] := by rw [eR7, va_up_ne _ _ (g7.ne ma0)]; exact rra0
  have ria0 : I7 a0 = il [(5, 0), (4, 0)] := by rw [eI7, va_up_ne _ _ (g7.ne ma0)]; exact ria0
  have ka0 := g7.role ma0 ka0
  have ma0 := g7.mem ma0
  have ka2 := g7.role ma2 ka2
  have ma2 := g7.mem ma2
  have mq7 := g7.new
  have kq7 := g7.at
  have al := al.new g7 eI7
  have z0 := z0.new g7 eI7 eJ7
  have ow0 := ow0.new g7 eR7
  have al := al.con0 mq7 kq7 rfl
  have kk := kk.new g7 eI7 eR7 zz_47 zr_47 (Or.inr rfl) (by decide)
  have old := old.new g7 eI7 eJ7 eR7
  refine pf_9_6 hx hb hts hown hH hin rfl ma0 ka0 rfl kf_X9_25 dX9_init_35 (fun R8 H locs eR8 hH => ?_)
  have rra0 : R8 a0 = rl [(6, q7), (3, q3), (2, q1)] := by rw [eR8]; exact rl_put rra0
  have kk : KK L7 C7 I7 R8 [47, 46, 45, 25, 60, 0, 2, 3, 6, 16, 18, 19, 22, 26, 32, 33, 34, 35, 36, 37, 38, 39, 40, 41, 42, 43, 44] := by rw [eR8]; exact kk.stR ka0 zr_25
  have old : Old L0 C0 (I0, J0, R0) a0 L7 C7 I7 J7 R8 := by rw [eR8]; exact old.stR (Or.inl rfl)
  have ow0 := ow0.stR ka0 rfl eR8
  refine lv_aload_n hx hb dX9_init_38 rfl (lv_at hl 0 rfl) ?_
  refine lv_aload_n hx hb dX9_init_39 rfl (lv_at hl 1 rfl) ?_
  refine pf_9_0 hx hb hts hown hH hin rfl ma0 ka0 rfl kf_X9_28 dX9_init_40 (fun R9 H locs eR9 hH => ?_)
  have rra0 : R9 a0 = rl [(0, a1), (6, q7), (3, q3), (2, q1)] := by rw [eR9]; exact rl_put rra0
  have kk : KK L7 C7 I7 R9 [47, 46, 45, 25, 60, 0, 2, 3, 6, 16, 18, 19, 22, 26, 32, 33, 34, 35, 36, 37, 38, 39, 40, 41, 42, 43, 44] := by rw [eR9]; exact kk.stR ka0 zr_25
  have old : Old L0 C0 (I0, J0, R0) a0 L7 C7 I7 J7 R9 := by rw [eR9]; exact old.stR (Or.inl rfl)
  have ow0 := ow0.stR ka0 rfl eR9
  refine lv_aload_n hx hb dX9_init_43 rfl (lv_at hl 0 rfl) ?_
  refine lv_aload_n hx hb dX9_init_44 rfl (lv_at hl 2 rfl) ?_
  refine pf_9_1 hx hb hts hown hH hin rfl ma0 ka0 rfl kf_X9_32 dX9_init_45 (fun R10 H locs eR10 hH => ?_)
  have rra0 : R10 a0 = rl [(1, a2), (0, a1), (6, q7), (3, q3), (2, q1)] := by rw [eR10]; exact rl_put rra0
  have kk : KK L7 C7 I7 R10 [47, 46, 45, 25, 60, 0, 2, 3, 6, 16, 18, 19, 22, 26, 32, 33, 34, 35, 36, 37, 38, 39, 40, 41, 42, 43, 44] := by rw [eR10]; exact kk.stR ka0 zr_25
  have old : Old L0 C0 (I0, J0, R0) a0 L7 C7 I7 J7 R10 := by rw [eR10]; exact old.stR (Or.inl rfl)
  have ow0 := ow0.stR ka0 rfl eR10
  refine lv_aload_n hx hb dX9_init_48 rfl (lv_at hl 0 rfl) ?_
  have mq1 : q1 ∈ L7 := (al.at (i := 2) rfl).1
  have kq1 : C7 q1 = 45 := (al.at (i := 2) rfl).2
  refine ca_X9_36 hx hb hml hown hts hH (c_X9_forgetAll_raw kk.1 kk.2.1 ma0 ka0 mq1 (by rw [rra0]; rfl) kq1) hl.1 ma0 ka0 rfl (by decide) (Nat.le_of_ble_eq_true rfl) ⟨by decide, by decide⟩ dX9_init_49 (fun I11 J11 R11 H locs hp hH => ?_)
  obtain ⟨⟨oI11, oR11, sc11⟩, eJ11, eR11, hf11⟩ := hp
  obtain rfl : J7 = J11 := eJ11.symm
  obtain rfl : R10 = R11 := eR11.symm
  have kk := KK.sm (u := (I7, J7, R10)) (v := (I11, J7, R10)) kk oI11 oR11 sc11 rfl rfl rfl rfl
  have old := old.sm sc11 hS0 rfl
  have ria0 : I11 a0 = il [(5, 0), (4, 0)] := by rw [← ria0]; exact funext fun j => (sc11 a0 j (nm_role (by rw [ka0]; rfl))).1
  have al := AJ.sm (u := (I7, J7, R10)) (v := (I11, J7, R10)) al sc11 rfl
  have z0 := Z0.sm (u := (I7, J7, R10)) (v := (I11, J7, R10)) z0 sc11 rfl (by decide)
  have mq1 : q1 ∈ L7 := (al.at (i := 2) rfl).1
  have kq1 : C7 q1 = 45 := (al.at (i := 2) rfl).2
  have mq3 : q3 ∈ L7 := (al.at (i := 1) rfl).1
  have kq3 : C7 q3 = 46 := (al.at (i := 1) rfl).2
  have mq7 : q7 ∈ L7 := (al.at (i := 0) rfl).1
  have kq7 : C7 q7 = 47 := (al.at (i := 0) rfl).2
  refine W.widen (k := 3) (n := 120) (by decide) (by decide) ?_
  exact ret _ _ _ _ _ _ _ _ _ dX9_init_52 hH ⟨(kk.wS rfl), old, ka0, ⟨q7, q3, q1, rra0, ria0, ⟨mq7, kq7⟩, ⟨mq3, kq3⟩, ⟨mq1, kq1⟩⟩, z0, ow0, ⟨q1, mq1, kq1, WwF (by rw [rra0]; rfl) hf11⟩⟩
