set_option maxHeartbeats 4000000 in
set_option maxRecDepth 100000 in
theorem c_X8_init {l : Launch} {D : va_G} {cy : Nat → ClassId} {L0 : List Nat} {C0 : Nat → Nat} {b0 : Nat} {I0 : hI} {J0 : hJ} {R0 : hR} {a0 : Nat} (kk : KK L0 C0 I0 R0 [24, 0, 2, 3, 6, 16, 18, 19, 22, 25, 26, 32, 33, 34, 35, 36, 37, 38, 39, 40, 41, 42, 43, 44, 45, 46, 47, 60]) (ma0 : a0 ∈ L0) (ka0 : C0 a0 = 24) (ria0 : I0 a0 = il []) (rra0 : R0 a0 = rl []) (z0 : Z0 L0 C0 I0 J0) (ow0 : Ow L0 C0 R0) : CA l yX8_init cX8_init 1 1 2 80 D cy L0 C0 b0 [.ref a0] (I0, J0, R0) (fun q => KK q.1 q.2.1 q.2.2.1 q.2.2.2.2 [0, 2, 3, 6, 8, 16, 18, 19, 22, 24, 25, 26, 32, 33, 34, 35, 36, 37, 38, 39, 40, 41, 42, 43, 44, 45, 46, 47, 48, 49, 60] ∧ Old L0 C0 (I0, J0, R0) a0 q.1 q.2.1 q.2.2.1 q.2.2.2.1 q.2.2.2.2 ∧ q.2.1 a0 = 8 ∧ Z0 q.1 q.2.1 q.2.2.1 q.2.2.2.1 ∧ Ow q.1 q.2.1 q.2.2.2.2) := by
  refine CA.mk (plainFor_of_name (by decide)) (Nat.le_of_ble_eq_true rfl) ?_
  intro p e s m args below meth c ls Q hF hin ret hH hl
  obtain ⟨hx, hb, -, hml, hown, hts, -⟩ := hF
  have hl : lv_has ls 1 [(0, .ref a0)] := hl
  have hH : Hp D cy L0 C0 b0 s s.heap I0 J0 R0 s.heap [] := hH
  have old : Old L0 C0 (I0, J0, R0) a0 L0 C0 I0 J0 R0 := Old.rf
  have hS0 := kk.2.2.2.1
  have kk0 := kk.2.1
  have al : AJ L0 C0 I0 [] := AJ.nil
  refine lv_aload_n hx hb dX8_init_0 rfl (lv_at hl 0 rfl) ?_
  refine W.objInit hx hb hown (hts _ km_X8_3) (hts _ ki_objectInit) (hts _ kc_objectInit) rfl (by rw [hml]; exact hl.1) rfl dX8_init_1 (Nat.le_of_ble_eq_true rfl) (Nat.le_of_ble_eq_true rfl) ?_
  refine W.eq (g2 := F0 m 4 ls []) rfl ?_
  refine lv_aload_n hx hb dX8_init_4 rfl (lv_at hl 0 rfl) ?_
  refine lv_bipush (v := 20) hx hb dX8_init_5 (by decide) ?_
  refine hNewP (k := 0) (r := 48) (N := 20) (atype := .int) (ty := .int) (a0 := (20, .inl (fun _ => 0))) hx hb hts hH rfl kac_int rfl rfl rfl (eN_I rfl rfl) (by decide) (by decide) (by decide) (by decide) (by decide) dX8_init_7 (fun q1 L1 C1 I1 J1 R1 H g1 eI1 eJ1 eR1 hH => ?_)
  have nq1 : q1 ∉ L0 := fun h => g1.2.2 (old q1 h).1
  have rra0 : R1 a0 = rl [] := by rw [eR1, va_up_ne _ _ (g1.ne ma0)]; exact rra0
  have ria0 : I1 a0 = il [] := by rw [eI1, va_up_ne _ _ (g1.ne ma0)]; exact ria0
  have ka0 := g1.role ma0 ka0
  have ma0 := g1.mem ma0
  have mq1 := g1.new
  have kq1 := g1.at
  have al := al.new g1 eI1
  have z0 := z0.new g1 eI1 eJ1
  have ow0 := ow0.new g1 eR1
  have al := al.con0 mq1 kq1 rfl
  have kk := kk.new g1 eI1 eR1 zz_48 zr_48 (Or.inr rfl) (by decide)
  have old := old.new g1 eI1 eJ1 eR1
  refine pf_8_0 hx hb hts hown hH hin rfl ma0 ka0 rfl kf_X8_9 dX8_init_9 (fun R2 H locs eR2 hH => ?_)
  have rra0 : R2 a0 = rl [(0, q1)] := by rw [eR2]; exact rl_put rra0
  have kk : KK L1 C1 I1 R2 [48, 24, 0, 2, 3, 6, 16, 18, 19, 22, 25, 26, 32, 33, 34, 35, 36, 37, 38, 39, 40, 41, 42, 43, 44, 45, 46, 47, 60] := by rw [eR2]; exact kk.stR ka0 zr_24
  have old : Old L0 C0 (I0, J0, R0) a0 L1 C1 I1 J1 R2 := by rw [eR2]; exact old.stR (Or.inl rfl)
  have ow0 := ow0.stR ka0 rfl eR2
  refine lv_aload_n hx hb dX8_init_12 rfl (lv_at hl 0 rfl) ?_
  refine lv_bipush (v := 60) hx hb dX8_init_13 (by decide) ?_
  refine hNewP (k := 1) (r := 49) (N := 60) (atype := .long) (ty := .long) (a0 := (60, .inr (.inl (fun _ => 0)))) hx hb hts hH rfl kac_long rfl rfl rfl (eN_J rfl rfl) (by decide) (by decide) (by decide) (by decide) (by decide) dX8_init_15 (fun q3 L3 C3 I3 J3 R3 H g3 eI3 eJ3 eR3 hH => ?_)
  have nq3 : q3 ∉ L0 := fun h => g3.2.2 (old q3 h).1
  have rra0 : R3 a0 = rl [(0, q1)] := by rw [eR3, va_up_ne _ _ (g3.ne ma0)]; exact rra0
  have ria0 : I3 a0 = il [] := by rw [eI3, va_up_ne _ _ (g3.ne ma0)]; exact ria0
  have ka0 := g3.role ma0 ka0
  have ma0 := g3.mem ma0
  have mq3 := g3.new
  have kq3 := g3.at
  have al := al.new g3 eI3
  have z0 := z0.new g3 eI3 eJ3
  have ow0 := ow0.new g3 eR3
  have al := al.con0 mq3 kq3 rfl
  have kk := kk.new g3 eI3 eR3 zz_49 zr_49 (Or.inr rfl) (by decide)
  have old := old.new g3 eI3 eJ3 eR3
  refine pf_8_1 hx hb hts hown hH hin rfl ma0 ka0 rfl kf_X8_15 dX8_init_17 (fun R4 H locs eR4 hH => ?_)
  have rra0 : R4 a0 = rl [(1, q3), (0, q1)] := by rw [eR4]; exact rl_put rra0
  have kk : KK L3 C3 I3 R4 [49, 48, 24, 0, 2, 3, 6, 16, 18, 19, 22, 25, 26, 32, 33, 34, 35, 36, 37, 38, 39, 40, 41, 42, 43, 44, 45, 46, 47, 60] := by rw [eR4]; exact kk.stR ka0 zr_24
  have old : Old L0 C0 (I0, J0, R0) a0 L3 C3 I3 J3 R4 := by rw [eR4]; exact old.stR (Or.inl rfl)
  have ow0 := ow0.stR ka0 rfl eR4
  refine lv_aload_n hx hb dX8_init_20 rfl (lv_at hl 0 rfl) ?_
  refine lv_iconst (v := 0) hx hb dX8_init_21 (by decide) ?_
  refine pf_8_2 hx hb hts hown hH ma0 ka0 rfl kf_X8_19 dX8_init_22 (fun I5 H locs eI5 hH => ?_)
  have ria0 : I5 a0 = il [(2, 0)] := by rw [eI5]; exact il_put ria0
  have kk : KK L3 C3 I5 R4 [49, 48, 24, 0, 2, 3, 6, 16, 18, 19, 22, 25, 26, 32, 33, 34, 35, 36, 37, 38, 39, 40, 41, 42, 43, 44, 45, 46, 47, 60] := by rw [eI5]; exact kk.stI ka0 ⟨by decide, by decide⟩
  have old : Old L0 C0 (I0, J0, R0) a0 L3 C3 I5 J3 R4 := by rw [eI5]; exact old.stI (Or.inl rfl)
  have al := al.stI ka0 rfl eI5
  have z0 := z0.stI ka0 rfl eI5
  have mq1 : q1 ∈ L3 := (al.at (i := 1) rfl).1
  have kq1 : C3 q1 = 48 := (al.at (i := 1) rfl).2
  have mq3 : q3 ∈ L3 := (al.at (i := 0) rfl).1
  have kq3 : C3 q3 = 49 := (al.at (i := 0) rfl).2
  have hI6 : ∀ j, j < rN 8 → rLo 8 j ≤ (I5 a0 j).toInt ∧ (I5 a0 j).toInt ≤ rHi 8 j ∧ (rX 8 = true → (I5 a0 j).toInt ≤ 3 ∨ (I5 a0 j).toInt = 9) := by rw [ria0]; decide +kernel
  have hR6 : ∀ j, j < rN 8 → rR 8 j ≠ 0 → ∃ b, b ∈ L3 ∧ b ≠ a0 ∧ R4 a0 j = some b ∧ C3 b + 1 = rR 8 j := by
    intro j hj hn
    rw [rra0]
    have hj : j < 3 := hj
    rcases (show j = 0 ∨ j = 1 ∨ j = 2 by omega) with rfl | rfl | rfl
    · exact ⟨q1, mq1, ne_role kq1 ka0 (by decide), rfl, by rw [kq1]; rfl⟩
    · exact ⟨q3, mq3, ne_role kq3 ka0 (by decide), rfl, by rw [kq3]; rfl⟩
    · exact absurd rfl hn
  have ow0 := ow0.rel0 (q := a0) (r := 8) (fun _ => rfl)
  have hH := hH.rel (q := a0) (r := 8) (by rw [ka0]; rfl) (by rw [ka0]; rfl)
  have kk := kk.rel ma0 ka0 (Or.inl ⟨by decide, by decide⟩) hI6 hR6 (Or.inr rfl) (fun h => absurd h (by decide)) (by decide) (by decide)
  have old := old.rel (q := a0) (r := 8) (Or.inl rfl)
  have al := al.rel (r := 8) ka0 rfl
  have z0 := z0.rel (q := a0) (r := 8) (iv_il (by decide) ria0)
  obtain ⟨C6, eC6⟩ : ∃ z, z = va_up C3 a0 8 := ⟨_, rfl⟩
  rw [← eC6] at hH kk old al z0 ow0
  have ka0 : C6 a0 = 8 := by rw [eC6, va_up_self]
  refine W.widen (k := 2) (n := 80) (by decide) (by decide) ?_
  exact ret _ _ _ _ _ _ _ _ _ dX8_init_25 hH ⟨(kk.wS rfl), old, ka0, z0, ow0⟩
