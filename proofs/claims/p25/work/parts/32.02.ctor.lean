set_option maxHeartbeats 4000000 in
set_option maxRecDepth 100000 in
theorem c_X2_init {l : Launch} {D : va_G} {cy : Nat → ClassId} {L0 : List Nat} {C0 : Nat → Nat} {b0 : Nat} {I0 : hI} {J0 : hJ} {R0 : hR} {a0 : Nat} (kk : KK L0 C0 I0 R0 [18, 0, 6, 16, 22, 26, 32, 33, 34, 35, 36, 37, 38, 39, 40]) (ma0 : a0 ∈ L0) (ka0 : C0 a0 = 18) (ria0 : I0 a0 = il []) (rra0 : R0 a0 = rl []) (z0 : Z0 L0 C0 I0 J0) (ow0 : Ow L0 C0 R0) : CA l yX2_init cX2_init 1 1 2 14 D cy L0 C0 b0 [.ref a0] (I0, J0, R0) (fun q => KK q.1 q.2.1 q.2.2.1 q.2.2.2.2 [0, 2, 6, 16, 18, 22, 26, 32, 33, 34, 35, 36, 37, 38, 39, 40, 41, 42] ∧ Old L0 C0 (I0, J0, R0) a0 q.1 q.2.1 q.2.2.1 q.2.2.2.1 q.2.2.2.2 ∧ q.2.1 a0 = 2 ∧ Z0 q.1 q.2.1 q.2.2.1 q.2.2.2.1 ∧ Ow q.1 q.2.1 q.2.2.2.2) := by
  refine CA.mk (plainFor_of_name (by decide)) (Nat.le_of_ble_eq_true rfl) ?_
  intro p e s m args below meth c ls Q hF hin ret hH hl
  obtain ⟨hx, hb, -, hml, hown, hts, -⟩ := hF
  have hl : lv_has ls 1 [(0, .ref a0)] := hl
  have hH : Hp D cy L0 C0 b0 s s.heap I0 J0 R0 s.heap [] := hH
  have old : Old L0 C0 (I0, J0, R0) a0 L0 C0 I0 J0 R0 := Old.rf
  have hS0 := kk.2.2.2.1
  have kk0 := kk.2.1
  have al : AJ L0 C0 I0 [] := AJ.nil
  refine lv_aload_n hx hb dX2_init_0 rfl (lv_at hl 0 rfl) ?_
  refine W.objInit hx hb hown (hts _ km_X2_3) (hts _ ki_objectInit) (hts _ kc_objectInit) rfl (by rw [hml]; exact hl.1) rfl dX2_init_1 (Nat.le_of_ble_eq_true rfl) (Nat.le_of_ble_eq_true rfl) ?_
  refine W.eq (g2 := F0 m 4 ls []) rfl ?_
  refine lv_aload_n hx hb dX2_init_4 rfl (lv_at hl 0 rfl) ?_
  refine lv_bipush (v := 7) hx hb dX2_init_5 (by decide) ?_
  refine hNewP (k := 2) (r := 41) (N := 7) (atype := .boolean) (ty := .boolean) (a0 := (7, .inl (fun _ => 0))) hx hb hts hH rfl kac_boolean rfl rfl rfl (eN_Z rfl rfl) (by decide) (by decide) (by decide) (by decide) (by decide) dX2_init_7 (fun q1 L1 C1 I1 J1 R1 H g1 eI1 eJ1 eR1 hH => ?_)
  have nq1 : q1 ∉ L0 := fun h => g1.2.2 (old q1 h).1
  have rra0 : R1 a0 = rl [] := by rw [eR1, va_up_ne _ _ (g1.ne ma0)]; exact rra0
  have ria0 : I1 a0 = il [] := by rw [eI1, va_up_ne _ _ (g1.ne ma0)]; exact ria0
  have ka0 := g1.role ma0 ka0
  have ma0 := g1.mem ma0
  have mq1 := g1.new
  have kq1 := g1.at
  have al := al.new g1 eI1
  have z0 := z0.new g1 eI1 eJ1
  have ow0 := ow0.new g1 eR1
  have al := al.con0 mq1 kq1 rfl
  have kk := kk.new g1 eI1 eR1 zz_41 zr_41 (Or.inr rfl) (by decide)
  have old := old.new g1 eI1 eJ1 eR1
  refine pf_2_0 hx hb hts hown hH hin rfl ma0 ka0 rfl kf_X2_9 dX2_init_9 (fun R2 H locs eR2 hH => ?_)
  have rra0 : R2 a0 = rl [(0, q1)] := by rw [eR2]; exact rl_put rra0
  have kk : KK L1 C1 I1 R2 [41, 18, 0, 6, 16, 22, 26, 32, 33, 34, 35, 36, 37, 38, 39, 40] := by rw [eR2]; exact kk.stR ka0 zr_18
  have old : Old L0 C0 (I0, J0, R0) a0 L1 C1 I1 J1 R2 := by rw [eR2]; exact old.stR (Or.inl rfl)
  have ow0 := ow0.stR ka0 rfl eR2
  refine lv_aload_n hx hb dX2_init_12 rfl (lv_at hl 0 rfl) ?_
  refine lv_bipush (v := 7) hx hb dX2_init_13 (by decide) ?_
  refine hNewP (k := 1) (r := 42) (N := 7) (atype := .long) (ty := .long) (a0 := (7, .inr (.inl (fun _ => 0)))) hx hb hts hH rfl kac_long rfl rfl rfl (eN_J rfl rfl) (by decide) (by decide) (by decide) (by decide) (by decide) dX2_init_15 (fun q3 L3 C3 I3 J3 R3 H g3 eI3 eJ3 eR3 hH => ?_)
  have nq3 : q3 ∉ L0 := fun h => g3.2.2 (old q3 h).1
  have rra0 : R3 a0 = rl [(0, q1)] := by rw [eR3, va_up_ne _ _ (g3.ne ma0)]; exact rra0
  have ria0 : I3 a0 = il [] := by rw [eI3, va_up_ne _ _ (g3.ne ma0)]; exact ria0
  have ka0 := g3.role ma0 ka0
  have ma0 := g3.mem ma0
  have mq3 := g3.new
  have kq3 := g3.at
  have al := al.new g3 eI3
  have z0 := z0.new g3 eI3 eJ3
  have ow0 := ow0.new g3 eR3
  have al := al.con0 mq3 kq3 rfl
  have kk := kk.new g3 eI3 eR3 zz_42 zr_42 (Or.inr rfl) (by decide)
  have old := old.new g3 eI3 eJ3 eR3
  refine pf_2_1 hx hb hts hown hH hin rfl ma0 ka0 rfl kf_X2_15 dX2_init_17 (fun R4 H locs eR4 hH => ?_)
  have rra0 : R4 a0 = rl [(1, q3), (0, q1)] := by rw [eR4]; exact rl_put rra0
  have kk : KK L3 C3 I3 R4 [42, 41, 18, 0, 6, 16, 22, 26, 32, 33, 34, 35, 36, 37, 38, 39, 40] := by rw [eR4]; exact kk.stR ka0 zr_18
  have old : Old L0 C0 (I0, J0, R0) a0 L3 C3 I3 J3 R4 := by rw [eR4]; exact old.stR (Or.inl rfl)
  have ow0 := ow0.stR ka0 rfl eR4
  have mq1 : q1 ∈ L3 := (al.at (i := 1) rfl).1
  have kq1 : C3 q1 = 41 := (al.at (i := 1) rfl).2
  have mq3 : q3 ∈ L3 := (al.at (i := 0) rfl).1
  have kq3 : C3 q3 = 42 := (al.at (i := 0) rfl).2
  have hI5 : ∀ j, j < rN 2 → rLo 2 j ≤ (I3 a0 j).toInt ∧ (I3 a0 j).toInt ≤ rHi 2 j ∧ (rX 2 = true → (I3 a0 j).toInt ≤ 3 ∨ (I3 a0 j).toInt = 9) := by rw [ria0]; decide +kernel
  have hR5 : ∀ j, j < rN 2 → rR 2 j ≠ 0 → ∃ b, b ∈ L3 ∧ b ≠ a0 ∧ R4 a0 j = some b ∧ C3 b + 1 = rR 2 j := by
    intro j hj hn
    rw [rra0]
    have hj : j < 2 := hj
    rcases (show j = 0 ∨ j = 1 by omega) with rfl | rfl
    · exact ⟨q1, mq1, ne_role kq1 ka0 (by decide), rfl, by rw [kq1]; rfl⟩
    · exact ⟨q3, mq3, ne_role kq3 ka0 (by decide), rfl, by rw [kq3]; rfl⟩
  have ow0 := ow0.rel0 (q := a0) (r := 2) (fun _ => rfl)
  have hH := hH.rel (q := a0) (r := 2) (by rw [ka0]; rfl) (by rw [ka0]; rfl)
  have kk := kk.rel ma0 ka0 (Or.inl ⟨by decide, by decide⟩) hI5 hR5 (Or.inr rfl) (fun h => absurd h (by decide)) (by decide) (by decide)
  have old := old.rel (q := a0) (r := 2) (Or.inl rfl)
  have al := al.rel (r := 2) ka0 rfl
  have z0 := z0.rel (q := a0) (r := 2) (iv_il (by decide) ria0)
  obtain ⟨C5, eC5⟩ : ∃ z, z = va_up C3 a0 2 := ⟨_, rfl⟩
  rw [← eC5] at hH kk old al z0 ow0
  have ka0 : C5 a0 = 2 := by rw [eC5, va_up_self]
  refine W.widen (k := 2) (n := 14) (by decide) (by decide) ?_
  exact ret _ _ _ _ _ _ _ _ _ dX2_init_20 hH ⟨(kk.wS rfl), old, ka0, z0, ow0⟩
