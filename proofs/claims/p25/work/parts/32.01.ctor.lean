set_option maxHeartbeats 4000000 in
set_option maxRecDepth 100000 in
theorem c_X0_init {l : Launch} {D : va_G} {cy : Nat → ClassId} {L0 : List Nat} {C0 : Nat → Nat} {b0 : Nat} {I0 : hI} {J0 : hJ} {R0 : hR} {a0 : Nat} (kk : KK L0 C0 I0 R0 [16, 6, 22, 26, 32, 33, 34, 35, 36, 37, 38, 39]) (ma0 : a0 ∈ L0) (ka0 : C0 a0 = 16) (ria0 : I0 a0 = il []) (rra0 : R0 a0 = rl []) (z0 : Z0 L0 C0 I0 J0) (ow0 : Ow L0 C0 R0) : CA l yX0_init cX0_init 1 1 1 30 D cy L0 C0 b0 [.ref a0] (I0, J0, R0) (fun q => KK q.1 q.2.1 q.2.2.1 q.2.2.2.2 [0, 6, 16, 22, 26, 32, 33, 34, 35, 36, 37, 38, 39, 40] ∧ Old L0 C0 (I0, J0, R0) a0 q.1 q.2.1 q.2.2.1 q.2.2.2.1 q.2.2.2.2 ∧ q.2.1 a0 = 0 ∧ Z0 q.1 q.2.1 q.2.2.1 q.2.2.2.1 ∧ Ow q.1 q.2.1 q.2.2.2.2) := by
  refine CA.mk (plainFor_of_name (by decide)) (Nat.le_of_ble_eq_true rfl) ?_
  intro p e s m args below meth c ls Q hF hin ret hH hl
  obtain ⟨hx, hb, -, hml, hown, hts, -⟩ := hF
  have hl : lv_has ls 1 [(0, .ref a0)] := hl
  have hH : Hp D cy L0 C0 b0 s s.heap I0 J0 R0 s.heap [] := hH
  have old : Old L0 C0 (I0, J0, R0) a0 L0 C0 I0 J0 R0 := Old.rf
  have hS0 := kk.2.2.2.1
  have kk0 := kk.2.1
  have al : AJ L0 C0 I0 [] := AJ.nil
  refine lv_aload_n hx hb dX0_init_0 rfl (lv_at hl 0 rfl) ?_
  refine W.objInit hx hb hown (hts _ km_X0_3) (hts _ ki_objectInit) (hts _ kc_objectInit) rfl (by rw [hml]; exact hl.1) rfl dX0_init_1 (Nat.le_of_ble_eq_true rfl) (Nat.le_of_ble_eq_true rfl) ?_
  refine W.eq (g2 := F0 m 4 ls []) rfl ?_
  refine lv_aload_n hx hb dX0_init_4 rfl (lv_at hl 0 rfl) ?_
  refine lv_bipush (v := 30) hx hb dX0_init_5 (by decide) ?_
  refine hNewP (k := 0) (r := 40) (N := 30) (atype := .int) (ty := .int) (a0 := (30, .inl (fun _ => 0))) hx hb hts hH rfl kac_int rfl rfl rfl (eN_I rfl rfl) (by decide) (by decide) (by decide) (by decide) (by decide) dX0_init_7 (fun q1 L1 C1 I1 J1 R1 H g1 eI1 eJ1 eR1 hH => ?_)
  have nq1 : q1 ∉ L0 := fun h => g1.2.2 (old q1 h).1
  have rra0 : R1 a0 = rl [] := by rw [eR1, va_up_ne _ _ (g1.ne ma0)]; exact rra0
  have ria0 : I1 a0 = il [] := by rw [eI1, va_up_ne _ _ (g1.ne ma0)]; exact ria0
  have ka0 := g1.role ma0 ka0
  have ma0 := g1.mem ma0
  have mq1 := g1.new
  have kq1 := g1.at
  have al := al.new g1 eI1
  have z0 := z0.new g1 eI1 eJ1
  have ow0 := ow0.new g1 eR1
  have al := al.con0 mq1 kq1 rfl
  have kk := kk.new g1 eI1 eR1 zz_40 zr_40 (Or.inr rfl) (by decide)
  have old := old.new g1 eI1 eJ1 eR1
  refine pf_0_0 hx hb hts hown hH hin rfl ma0 ka0 rfl kf_X0_11 dX0_init_9 (fun R2 H locs eR2 hH => ?_)
  have rra0 : R2 a0 = rl [(0, q1)] := by rw [eR2]; exact rl_put rra0
  have kk : KK L1 C1 I1 R2 [40, 16, 6, 22, 26, 32, 33, 34, 35, 36, 37, 38, 39] := by rw [eR2]; exact kk.stR ka0 zr_16
  have old : Old L0 C0 (I0, J0, R0) a0 L1 C1 I1 J1 R2 := by rw [eR2]; exact old.stR (Or.inl rfl)
  have ow0 := ow0.stR ka0 rfl eR2
  refine lv_aload_n hx hb dX0_init_12 rfl (lv_at hl 0 rfl) ?_
  refine lv_iconst (v := 0) hx hb dX0_init_13 (by decide) ?_
  refine pf_0_1 hx hb hts hown hH ma0 ka0 rfl kf_X0_15 dX0_init_14 (fun I3 H locs eI3 hH => ?_)
  have ria0 : I3 a0 = il [(1, 0)] := by rw [eI3]; exact il_put ria0
  have kk : KK L1 C1 I3 R2 [40, 16, 6, 22, 26, 32, 33, 34, 35, 36, 37, 38, 39] := by rw [eI3]; exact kk.stI ka0 ⟨by decide, by decide⟩
  have old : Old L0 C0 (I0, J0, R0) a0 L1 C1 I3 J1 R2 := by rw [eI3]; exact old.stI (Or.inl rfl)
  have al := al.stI ka0 rfl eI3
  have z0 := z0.stI ka0 rfl eI3
  have mq1 : q1 ∈ L1 := (al.at (i := 0) rfl).1
  have kq1 : C1 q1 = 40 := (al.at (i := 0) rfl).2
  have hI4 : ∀ j, j < rN 0 → rLo 0 j ≤ (I3 a0 j).toInt ∧ (I3 a0 j).toInt ≤ rHi 0 j ∧ (rX 0 = true → (I3 a0 j).toInt ≤ 3 ∨ (I3 a0 j).toInt = 9) := by rw [ria0]; decide +kernel
  have hR4 : ∀ j, j < rN 0 → rR 0 j ≠ 0 → ∃ b, b ∈ L1 ∧ b ≠ a0 ∧ R2 a0 j = some b ∧ C1 b + 1 = rR 0 j := by
    intro j hj hn
    rw [rra0]
    have hj : j < 2 := hj
    rcases (show j = 0 ∨ j = 1 by omega) with rfl | rfl
    · exact ⟨q1, mq1, ne_role kq1 ka0 (by decide), rfl, by rw [kq1]; rfl⟩
    · exact absurd rfl hn
  have ow0 := ow0.rel0 (q := a0) (r := 0) (fun _ => rfl)
  have hH := hH.rel (q := a0) (r := 0) (by rw [ka0]; rfl) (by rw [ka0]; rfl)
  have kk := kk.rel ma0 ka0 (Or.inl ⟨by decide, by decide⟩) hI4 hR4 (Or.inr rfl) (fun h => absurd h (by decide)) (by decide) (by decide)
  have old := old.rel (q := a0) (r := 0) (Or.inl rfl)
  have al := al.rel (r := 0) ka0 rfl
  have z0 := z0.rel (q := a0) (r := 0) (iv_il (by decide) ria0)
  obtain ⟨C4, eC4⟩ : ∃ z, z = va_up C1 a0 0 := ⟨_, rfl⟩
  rw [← eC4] at hH kk old al z0 ow0
  have ka0 : C4 a0 = 0 := by rw [eC4, va_up_self]
  refine W.widen (k := 1) (n := 30) (by decide) (by decide) ?_
  exact ret _ _ _ _ _ _ _ _ _ dX0_init_17 hH ⟨(kk.wS rfl), old, ka0, z0, ow0⟩
