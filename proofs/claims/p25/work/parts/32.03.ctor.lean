set_option maxHeartbeats 4000000 in
set_option maxRecDepth 100000 in
theorem c_X3_init {l : Launch} {D : va_G} {cy : Nat → ClassId} {L0 : List Nat} {C0 : Nat → Nat} {b0 : Nat} {I0 : hI} {J0 : hJ} {R0 : hR} {a0 a1 a2 a3 : Nat} (kk : KK L0 C0 I0 R0 [19, 0, 2, 6, 16, 18, 22, 26, 32, 33, 34, 35, 36, 37, 38, 39, 40, 41, 42]) (ma0 : a0 ∈ L0) (ka0 : C0 a0 = 19) (ria0 : I0 a0 = il []) (rra0 : R0 a0 = rl []) (ma1 : a1 ∈ L0) (ka1 : C0 a1 = 6) (ma2 : a2 ∈ L0) (ka2 : C0 a2 = 0) (ma3 : a3 ∈ L0) (ka3 : C0 a3 = 2) (z0 : Z0 L0 C0 I0 J0) (ow0 : Ow L0 C0 R0) : CA l yX3_init cX3_init 4 1 2 8 D cy L0 C0 b0 [.ref a0, .ref a1, .ref a2, .ref a3] (I0, J0, R0) (fun q => KK q.1 q.2.1 q.2.2.1 q.2.2.2.2 [0, 2, 3, 6, 16, 18, 19, 22, 26, 32, 33, 34, 35, 36, 37, 38, 39, 40, 41, 42, 43, 44] ∧ Old L0 C0 (I0, J0, R0) a0 q.1 q.2.1 q.2.2.1 q.2.2.2.1 q.2.2.2.2 ∧ q.2.1 a0 = 3 ∧ Z0 q.1 q.2.1 q.2.2.1 q.2.2.2.1 ∧ Ow q.1 q.2.1 q.2.2.2.2) := by
  refine CA.mk (plainFor_of_name (by decide)) (Nat.le_of_ble_eq_true rfl) ?_
  intro p e s m args below meth c ls Q hF hin ret hH hl
  obtain ⟨hx, hb, -, hml, hown, hts, -⟩ := hF
  have hl : lv_has ls 4 [(0, .ref a0), (1, .ref a1), (2, .ref a2), (3, .ref a3)] := hl
  have hH : Hp D cy L0 C0 b0 s s.heap I0 J0 R0 s.heap [] := hH
  have old : Old L0 C0 (I0, J0, R0) a0 L0 C0 I0 J0 R0 := Old.rf
  have hS0 := kk.2.2.2.1
  have kk0 := kk.2.1
  have al : AJ L0 C0 I0 [] := AJ.nil
  have al := al.con0 ma1 ka1 rfl
  have al := al.con0 ma2 ka2 rfl
  have al := al.con0 ma3 ka3 rfl
  refine lv_aload_n hx hb dX3_init_0 rfl (lv_at hl 0 rfl) ?_
  refine W.objInit hx hb hown (hts _ km_X3_3) (hts _ ki_objectInit) (hts _ kc_objectInit) rfl (by rw [hml]; exact hl.1) rfl dX3_init_1 (Nat.le_of_ble_eq_true rfl) (Nat.le_of_ble_eq_true rfl) ?_
  refine W.eq (g2 := F0 m 4 ls []) rfl ?_
  refine lv_aload_n hx hb dX3_init_4 rfl (lv_at hl 0 rfl) ?_
  refine lv_iconst (v := 4) hx hb dX3_init_5 (by decide) ?_
  refine hNewP (k := 0) (r := 43) (N := 4) (atype := .int) (ty := .int) (a0 := (4, .inl (fun _ => 0))) hx hb hts hH rfl kac_int rfl rfl rfl (eN_I rfl rfl) (by decide) (by decide) (by decide) (by decide) (by decide) dX3_init_6 (fun q1 L1 C1 I1 J1 R1 H g1 eI1 eJ1 eR1 hH => ?_)
  have nq1 : q1 ∉ L0 := fun h => g1.2.2 (old q1 h).1
  have rra0 : R1 a0 = rl [] := by rw [eR1, va_up_ne _ _ (g1.ne ma0)]; exact rra0
  have ria0 : I1 a0 = il [] := by rw [eI1, va_up_ne _ _ (g1.ne ma0)]; exact ria0
  have ka0 := g1.role ma0 ka0
  have ma0 := g1.mem ma0
  have mq1 := g1.new
  have kq1 := g1.at
  have al := al.new g1 eI1
  have z0 := z0.new g1 eI1 eJ1
  have ow0 := ow0.new g1 eR1
  have al := al.con0 mq1 kq1 rfl
  have kk := kk.new g1 eI1 eR1 zz_43 zr_43 (Or.inr rfl) (by decide)
  have old := old.new g1 eI1 eJ1 eR1
  refine pf_3_3 hx hb hts hown hH hin rfl ma0 ka0 rfl kf_X3_9 dX3_init_8 (fun R2 H locs eR2 hH => ?_)
  have rra0 : R2 a0 = rl [(3, q1)] := by rw [eR2]; exact rl_put rra0
  have kk : KK L1 C1 I1 R2 [43, 19, 0, 2, 6, 16, 18, 22, 26, 32, 33, 34, 35, 36, 37, 38, 39, 40, 41, 42] := by rw [eR2]; exact kk.stR ka0 zr_19
  have old : Old L0 C0 (I0, J0, R0) a0 L1 C1 I1 J1 R2 := by rw [eR2]; exact old.stR (Or.inl rfl)
  have ow0 := ow0.stR ka0 rfl eR2
  refine lv_aload_n hx hb dX3_init_11 rfl (lv_at hl 0 rfl) ?_
  refine lv_ldc (v := 268435456) hx hb hown (hts _ kk_X3_15) dX3_init_12 ?_
  refine pf_3_4 hx hb hts hown hH ma0 ka0 rfl kf_X3_16 dX3_init_14 (fun I3 H locs eI3 hH => ?_)
  have ria0 : I3 a0 = il [(4, 268435456)] := by rw [eI3]; exact il_put ria0
  have kk : KK L1 C1 I3 R2 [43, 19, 0, 2, 6, 16, 18, 22, 26, 32, 33, 34, 35, 36, 37, 38, 39, 40, 41, 42] := by rw [eI3]; exact kk.stI ka0 ⟨by decide, by decide⟩
  have old : Old L0 C0 (I0, J0, R0) a0 L1 C1 I3 J1 R2 := by rw [eI3]; exact old.stI (Or.inl rfl)
  have al := al.stI ka0 rfl eI3
  have z0 := z0.stI ka0 rfl eI3
  refine lv_aload_n hx hb dX3_init_17 rfl (lv_at hl 0 rfl) ?_
  refine lv_iconst (v := (-1)) hx hb dX3_init_18 (by decide) ?_
  refine pf_3_5 hx hb hts hown hH ma0 ka0 rfl kf_X3_20 dX3_init_19 (fun I4 H locs eI4 hH => ?_)
  have ria0 : I4 a0 = il [(5, (-1)), (4, 268435456)] := by rw [eI4]; exact il_put ria0
  have kk : KK L1 C1 I4 R2 [43, 19, 0, 2, 6, 16, 18, 22, 26, 32, 33, 34, 35, 36, 37, 38, 39, 40, 41, 42] := by rw [eI4]; exact kk.stI ka0 ⟨by decide, by decide⟩
  have old : Old L0 C0 (I0, J0, R0) a0 L1 C1 I4 J1 R2 := by rw [eI4]; exact old.stI (Or.inl rfl)
  have al := al.stI ka0 rfl eI4
  have z0 := z0.stI ka0 rfl eI4
  refine lv_aload_n hx hb dX3_init_22 rfl (lv_at hl 0 rfl) ?_
  refine lv_iconst (v := 4) hx hb dX3_init_23 (by decide) ?_
  refine hNewP (k := 0) (r := 44) (N := 4) (atype := .int) (ty := .int) (a0 := (4, .inl (fun _ => 0))) hx hb hts hH rfl kac_int rfl rfl rfl (eN_I rfl rfl) (by decide) (by decide) (by decide) (by decide) (by decide) dX3_init_24 (fun q5 L5 C5 I5 J5 R5 H g5 eI5 eJ5 eR5 hH => ?_)
  have nq5 : q5 ∉ L0 := fun h => g5.2.2 (old q5 h).1
  have rra0 : R5 a0 = rl [(3, q1)] := by rw [eR5, va_up_ne _ _ (g5.ne ma0)]; exact rra0
  have ria0 : I5 a0 = il [(5, (-1)), (4, 268435456)] := by rw [eI5, va_up_ne _ _ (g5.ne ma0)]; exact ria0
  have ka0 := g5.role ma0 ka0
  have ma0 := g5.mem ma0
  have mq5 := g5.new
  have kq5 := g5.at
  have al := al.new g5 eI5
  have z0 := z0.new g5 eI5 eJ5
  have ow0 := ow0.new g5 eR5
  have al := al.con0 mq5 kq5 rfl
  have kk := kk.new g5 eI5 eR5 zz_44 zr_44 (Or.inr rfl) (by decide)
  have old := old.new g5 eI5 eJ5 eR5
  refine pf_3_6 hx hb hts hown hH hin rfl ma0 ka0 rfl kf_X3_23 dX3_init_26 (fun R6 H locs eR6 hH => ?_)
  have rra0 : R6 a0 = rl [(6, q5), (3, q1)] := by rw [eR6]; exact rl_put rra0
  have kk : KK L5 C5 I5 R6 [44, 43, 19, 0, 2, 6, 16, 18, 22, 26, 32, 33, 34, 35, 36, 37, 38, 39, 40, 41, 42] := by rw [eR6]; exact kk.stR ka0 zr_19
  have old : Old L0 C0 (I0, J0, R0) a0 L5 C5 I5 J5 R6 := by rw [eR6]; exact old.stR (Or.inl rfl)
  have ow0 := ow0.stR ka0 rfl eR6
  refine lv_aload_n hx hb dX3_init_29 rfl (lv_at hl 0 rfl) ?_
  refine lv_aload_n hx hb dX3_init_30 rfl (lv_at hl 1 rfl) ?_
  refine pf_3_0 hx hb hts hown hH hin rfl ma0 ka0 rfl kf_X3_26 dX3_init_31 (fun R7 H locs eR7 hH => ?_)
  have rra0 : R7 a0 = rl [(0, a1), (6, q5), (3, q1)] := by rw [eR7]; exact rl_put rra0
  have kk : KK L5 C5 I5 R7 [44, 43, 19, 0, 2, 6, 16, 18, 22, 26, 32, 33, 34, 35, 36, 37, 38, 39, 40, 41, 42] := by rw [eR7]; exact kk.stR ka0 zr_19
  have old : Old L0 C0 (I0, J0, R0) a0 L5 C5 I5 J5 R7 := by rw [eR7]; exact old.stR (Or.inl rfl)
  have ow0 := ow0.stR ka0 rfl eR7
  refine lv_aload_n hx hb dX3_init_34 rfl (lv_at hl 0 rfl) ?_
  refine lv_aload_n hx hb dX3_init_35 rfl (lv_at hl 2 rfl) ?_
  refine pf_3_1 hx hb hts hown hH hin rfl ma0 ka0 rfl kf_X3_30 dX3_init_36 (fun R8 H locs eR8 hH => ?_)
  have rra0 : R8 a0 = rl [(1, a2), (0, a1), (6, q5), (3, q1)] := by rw [eR8]; exact rl_put rra0
  have kk : KK L5 C5 I5 R8 [44, 43, 19, 0, 2, 6, 16, 18, 22, 26, 32, 33, 34, 35, 36, 37, 38, 39, 40, 41, 42] := by rw [eR8]; exact kk.stR ka0 zr_19
  have old : Old L0 C0 (I0, J0, R0) a0 L5 C5 I5 J5 R8 := by rw [eR8]; exact old.stR (Or.inl rfl)
  have ow0 := ow0.stR ka0 rfl eR8
  refine lv_aload_n hx hb dX3_init_39 rfl (lv_at hl 0 rfl) ?_
  refine lv_aload_n hx hb dX3_init_40 rfl (lv_at hl 3 rfl) ?_
  refine pf_3_2 hx hb hts hown hH hin rfl ma0 ka0 rfl kf_X3_34 dX3_init_41 (fun R9 H locs eR9 hH => ?_)
  have rra0 : R9 a0 = rl [(2, a3), (1, a2), (0, a1), (6, q5), (3, q1)] := by rw [eR9]; exact rl_put rra0
  have kk : KK L5 C5 I5 R9 [44, 43, 19, 0, 2, 6, 16, 18, 22, 26, 32, 33, 34, 35, 36, 37, 38, 39, 40, 41, 42] := by rw [eR9]; exact kk.stR ka0 zr_19
  have old : Old L0 C0 (I0, J0, R0) a0 L5 C5 I5 J5 R9 := by rw [eR9]; exact old.stR (Or.inl rfl)
  have ow0 := ow0.stR ka0 rfl eR9
  have ma1 : a1 ∈ L5 := (al.at (i := 4) rfl).1
  have ka1 : C5 a1 = 6 := (al.at (i := 4) rfl).2
  have ma2 : a2 ∈ L5 := (al.at (i := 3) rfl).1
  have ka2 : C5 a2 = 0 := (al.at (i := 3) rfl).2
  have ma3 : a3 ∈ L5 := (al.at (i := 2) rfl).1
  have ka3 : C5 a3 = 2 := (al.at (i := 2) rfl).2
  have mq1 : q1 ∈ L5 := (al.at (i := 1) rfl).1
  have kq1 : C5 q1 = 43 := (al.at (i := 1) rfl).2
  have mq5 : q5 ∈ L5 := (al.at (i := 0) rfl).1
  have kq5 : C5 q5 = 44 := (al.at (i := 0) rfl).2
  have hI10 : ∀ j, j < rN 3 → rLo 3 j ≤ (I5 a0 j).toInt ∧ (I5 a0 j).toInt ≤ rHi 3 j ∧ (rX 3 = true → (I5 a0 j).toInt ≤ 3 ∨ (I5 a0 j).toInt = 9) := by rw [ria0]; decide +kernel
  have hR10 : ∀ j, j < rN 3 → rR 3 j ≠ 0 → ∃ b, b ∈ L5 ∧ b ≠ a0 ∧ R9 a0 j = some b ∧ C5 b + 1 = rR 3 j := by
    intro j hj hn
    rw [rra0]
    have hj : j < 7 := hj
    rcases (show j = 0 ∨ j = 1 ∨ j = 2 ∨ j = 3 ∨ j = 4 ∨ j = 5 ∨ j = 6 by omega) with rfl | rfl | rfl | rfl | rfl | rfl | rfl
    · exact ⟨a1, ma1, ne_role ka1 ka0 (by decide), rfl, by rw [ka1]; rfl⟩
    · exact ⟨a2, ma2, ne_role ka2 ka0 (by decide), rfl, by rw [ka2]; rfl⟩
    · exact ⟨a3, ma3, ne_role ka3 ka0 (by decide), rfl, by rw [ka3]; rfl⟩
    · exact ⟨q1, mq1, ne_role kq1 ka0 (by decide), rfl, by rw [kq1]; rfl⟩
    · exact absurd rfl hn
    · exact absurd rfl hn
    · exact ⟨q5, mq5, ne_role kq5 ka0 (by decide), rfl, by rw [kq5]; rfl⟩
  have ow0 := ow0.rel0 (q := a0) (r := 3) (fun _ => rfl)
  have hH := hH.rel (q := a0) (r := 3) (by rw [ka0]; rfl) (by rw [ka0]; rfl)
  have kk := kk.rel ma0 ka0 (Or.inl ⟨by decide, by decide⟩) hI10 hR10 (Or.inr rfl) (fun h => absurd h (by decide)) (by decide) (by decide)
  have old := old.rel (q := a0) (r := 3) (Or.inl rfl)
  have al := al.rel (r := 3) ka0 rfl
  have z0 := z0.rel (q := a0) (r := 3) (iv_il (by decide) ria0)
  obtain ⟨C10, eC10⟩ : ∃ z, z = va_up C5 a0 3 := ⟨_, rfl⟩
  rw [← eC10] at hH kk old al z0 ow0
  have ka0 : C10 a0 = 3 := by rw [eC10, va_up_self]
  refine W.widen (k := 2) (n := 8) (by decide) (by decide) ?_
  exact ret _ _ _ _ _ _ _ _ _ dX3_init_44 hH ⟨(kk.wS rfl), old, ka0, z0, ow0⟩
