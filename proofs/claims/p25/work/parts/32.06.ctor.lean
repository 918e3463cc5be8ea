set_option maxHeartbeats 4000000 in
set_option maxRecDepth 100000 in
theorem c_X4_init {l : Launch} {D : va_G} {cy : Nat → ClassId} {L0 : List Nat} {C0 : Nat → Nat} {b0 : Nat} {I0 : hI} {J0 : hJ} {R0 : hR} {a0 : Nat} (kk : KK L0 C0 I0 R0 [20, 0, 2, 3, 6, 8, 16, 18, 19, 22, 24, 25, 26, 32, 33, 34, 35, 36, 37, 38, 39, 40, 41, 42, 43, 44, 45, 46, 47, 48, 49, 60]) (ma0 : a0 ∈ L0) (ka0 : C0 a0 = 20) (ria0 : I0 a0 = il []) (rra0 : R0 a0 = rl []) (z0 : Z0 L0 C0 I0 J0) (ow0 : Ow L0 C0 R0) : CA l yX4_init cX4_init 1 1 0 0 D cy L0 C0 b0 [.ref a0] (I0, J0, R0) (fun q => KK q.1 q.2.1 q.2.2.1 q.2.2.2.2 [0, 2, 3, 4, 6, 8, 16, 18, 19, 20, 22, 24, 25, 26, 32, 33, 34, 35, 36, 37, 38, 39, 40, 41, 42, 43, 44, 45, 46, 47, 48, 49, 60] ∧ Old L0 C0 (I0, J0, R0) a0 q.1 q.2.1 q.2.2.1 q.2.2.2.1 q.2.2.2.2 ∧ q.2.1 a0 = 4 ∧ Z0 q.1 q.2.1 q.2.2.1 q.2.2.2.1 ∧ Ow q.1 q.2.1 q.2.2.2.2) := by
  refine CA.mk (plainFor_of_name (by decide)) (Nat.le_of_ble_eq_true rfl) ?_
  intro p e s m args below meth c ls Q hF hin ret hH hl
  obtain ⟨hx, hb, -, hml, hown, hts, -⟩ := hF
  have hl : lv_has ls 1 [(0, .ref a0)] := hl
  have hH : Hp D cy L0 C0 b0 s s.heap I0 J0 R0 s.heap [] := hH
  have old : Old L0 C0 (I0, J0, R0) a0 L0 C0 I0 J0 R0 := Old.rf
  have hS0 := kk.2.2.2.1
  have kk0 := kk.2.1
  have al : AJ L0 C0 I0 [] := AJ.nil
  refine lv_aload_n hx hb dX4_init_0 rfl (lv_at hl 0 rfl) ?_
  refine W.objInit hx hb hown (hts _ km_X4_3) (hts _ ki_objectInit) (hts _ kc_objectInit) rfl (by rw [hml]; exact hl.1) rfl dX4_init_1 (Nat.le_of_ble_eq_true rfl) (Nat.le_of_ble_eq_true rfl) ?_
  refine W.eq (g2 := F0 m 4 ls []) rfl ?_
  refine lv_aload_n hx hb dX4_init_4 rfl (lv_at hl 0 rfl) ?_
  refine lv_lconst (v := 0) hx hb dX4_init_5 (by decide) ?_
  refine pf_4_0 hx hb hts hown hH ma0 ka0 rfl kf_X4_9 dX4_init_6 (fun J1 H locs eJ1 hH => ?_)
  have old : Old L0 C0 (I0, J0, R0) a0 L0 C0 I0 J1 R0 := by rw [eJ1]; exact old.stJ (Or.inl rfl)
  have z0 := z0.stJ eJ1
  refine lv_aload_n hx hb dX4_init_9 rfl (lv_at hl 0 rfl) ?_
  refine lv_iconst (v := (-1)) hx hb dX4_init_10 (by decide) ?_
  refine pf_4_1 hx hb hts hown hH ma0 ka0 rfl kf_X4_15 dX4_init_11 (fun I2 H locs eI2 hH => ?_)
  have ria0 : I2 a0 = il [(1, (-1))] := by rw [eI2]; exact il_put ria0
  have kk : KK L0 C0 I2 R0 [20, 0, 2, 3, 6, 8, 16, 18, 19, 22, 24, 25, 26, 32, 33, 34, 35, 36, 37, 38, 39, 40, 41, 42, 43, 44, 45, 46, 47, 48, 49, 60] := by rw [eI2]; exact kk.stI ka0 ⟨by decide, by decide⟩
  have old : Old L0 C0 (I0, J0, R0) a0 L0 C0 I2 J1 R0 := by rw [eI2]; exact old.stI (Or.inl rfl)
  have al := al.stI ka0 rfl eI2
  have z0 := z0.stI ka0 rfl eI2
  refine lv_aload_n hx hb dX4_init_14 rfl (lv_at hl 0 rfl) ?_
  refine lv_iconst (v := (-1)) hx hb dX4_init_15 (by decide) ?_
  refine pf_4_2 hx hb hts hown hH ma0 ka0 rfl kf_X4_19 dX4_init_16 (fun I3 H locs eI3 hH => ?_)
  have ria0 : I3 a0 = il [(2, (-1)), (1, (-1))] := by rw [eI3]; exact il_put ria0
  have kk : KK L0 C0 I3 R0 [20, 0, 2, 3, 6, 8, 16, 18, 19, 22, 24, 25, 26, 32, 33, 34, 35, 36, 37, 38, 39, 40, 41, 42, 43, 44, 45, 46, 47, 48, 49, 60] := by rw [eI3]; exact kk.stI ka0 ⟨by decide, by decide⟩
  have old : Old L0 C0 (I0, J0, R0) a0 L0 C0 I3 J1 R0 := by rw [eI3]; exact old.stI (Or.inl rfl)
  have al := al.stI ka0 rfl eI3
  have z0 := z0.stI ka0 rfl eI3
  refine lv_aload_n hx hb dX4_init_19 rfl (lv_at hl 0 rfl) ?_
  refine lv_iconst (v := 0) hx hb dX4_init_20 (by decide) ?_
  refine pf_4_3 hx hb hts hown hH ma0 ka0 rfl kf_X4_22 dX4_init_21 (fun I4 H locs eI4 hH => ?_)
  have ria0 : I4 a0 = il [(3, 0), (2, (-1)), (1, (-1))] := by rw [eI4]; exact il_put ria0
  have kk : KK L0 C0 I4 R0 [20, 0, 2, 3, 6, 8, 16, 18, 19, 22, 24, 25, 26, 32, 33, 34, 35, 36, 37, 38, 39, 40, 41, 42, 43, 44, 45, 46, 47, 48, 49, 60] := by rw [eI4]; exact kk.stI ka0 ⟨by decide, by decide⟩
  have old : Old L0 C0 (I0, J0, R0) a0 L0 C0 I4 J1 R0 := by rw [eI4]; exact old.stI (Or.inl rfl)
  have al := al.stI ka0 rfl eI4
  have z0 := z0.stI ka0 rfl eI4
  refine lv_aload_n hx hb dX4_init_24 rfl (lv_at hl 0 rfl) ?_
  refine lv_iconst (v := 0) hx hb dX4_init_25 (by decide) ?_
  refine pf_4_4 hx hb hts hown hH ma0 ka0 rfl kf_X4_25 dX4_init_26 (fun I5 H locs eI5 hH => ?_)
  have ria0 : I5 a0 = il [(4, 0), (3, 0), (2, (-1)), (1, (-1))] := by rw [eI5]; exact il_put ria0
  have kk : KK L0 C0 I5 R0 [20, 0, 2, 3, 6, 8, 16, 18, 19, 22, 24, 25, 26, 32, 33, 34, 35, 36, 37, 38, 39, 40, 41, 42, 43, 44, 45, 46, 47, 48, 49, 60] := by rw [eI5]; exact kk.stI ka0 ⟨by decide, by decide⟩
  have old : Old L0 C0 (I0, J0, R0) a0 L0 C0 I5 J1 R0 := by rw [eI5]; exact old.stI (Or.inl rfl)
  have al := al.stI ka0 rfl eI5
  have z0 := z0.stI ka0 rfl eI5
  have hI6 : ∀ j, j < rN 4 → rLo 4 j ≤ (I5 a0 j).toInt ∧ (I5 a0 j).toInt ≤ rHi 4 j ∧ (rX 4 = true → (I5 a0 j).toInt ≤ 3 ∨ (I5 a0 j).toInt = 9) := by rw [ria0]; decide +kernel
  have hR6 : ∀ j, j < rN 4 → rR 4 j ≠ 0 → ∃ b, b ∈ L0 ∧ b ≠ a0 ∧ R0 a0 j = some b ∧ C0 b + 1 = rR 4 j := by
    intro j hj hn
    rw [rra0]
    have hj : j < 5 := hj
    rcases (show j = 0 ∨ j = 1 ∨ j = 2 ∨ j = 3 ∨ j = 4 by omega) with rfl | rfl | rfl | rfl | rfl
    · exact absurd rfl hn
    · exact absurd rfl hn
    · exact absurd rfl hn
    · exact absurd rfl hn
    · exact absurd rfl hn
  have ow0 := ow0.rel0 (q := a0) (r := 4) (fun _ => rfl)
  have hH := hH.rel (q := a0) (r := 4) (by rw [ka0]; rfl) (by rw [ka0]; rfl)
  have kk := kk.rel ma0 ka0 (Or.inl ⟨by decide, by decide⟩) hI6 hR6 (Or.inr rfl) (fun h => absurd h (by decide)) (by decide) (by decide)
  have old := old.rel (q := a0) (r := 4) (Or.inl rfl)
  have al := al.rel (r := 4) ka0 rfl
  have z0 := z0.rel (q := a0) (r := 4) (iv_il (by decide) ria0)
  obtain ⟨C6, eC6⟩ : ∃ z, z = va_up C0 a0 4 := ⟨_, rfl⟩
  rw [← eC6] at hH kk old al z0 ow0
  have ka0 : C6 a0 = 4 := by rw [eC6, va_up_self]
  refine W.widen (k := 0) (n := 0) (by decide) (by decide) ?_
  exact ret _ _ _ _ _ _ _ _ _ dX4_init_29 hH ⟨(kk.wS rfl), old, ka0, z0, ow0⟩
