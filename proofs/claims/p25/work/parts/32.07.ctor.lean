set_option maxHeartbeats 4000000 in
set_option maxRecDepth 100000 in
theorem c_X5_init {l : Launch} {D : va_G} {cy : Nat → ClassId} {L0 : List Nat} {C0 : Nat → Nat} {b0 : Nat} {I0 : hI} {J0 : hJ} {R0 : hR} {S : List Nat} {a0 : Nat} (kk : KK L0 C0 I0 R0 (21 :: S)) (ma0 : a0 ∈ L0) (ka0 : C0 a0 = 21) (ria0 : I0 a0 = il []) (rra0 : R0 a0 = rl []) (z0 : Z0 L0 C0 I0 J0) (ow0 : Ow L0 C0 R0) : CA l yX5_init cX5_init 1 1 2 8 D cy L0 C0 b0 [.ref a0] (I0, J0, R0) (fun q => KK q.1 q.2.1 q.2.2.1 q.2.2.2.2 (5 :: 55 :: 54 :: 21 :: S) ∧ Old L0 C0 (I0, J0, R0) a0 q.1 q.2.1 q.2.2.1 q.2.2.2.1 q.2.2.2.2 ∧ q.2.1 a0 = 5 ∧ Z0 q.1 q.2.1 q.2.2.1 q.2.2.2.1 ∧ Ow q.1 q.2.1 q.2.2.2.2 ∧ Nw L0 q.1 q.2.1 [5, 54, 55]) := by
  refine CA.mk (plainFor_of_name (by decide)) (Nat.le_of_ble_eq_true rfl) ?_
  intro p e s m args below meth c ls Q hF hin ret hH hl
  obtain ⟨hx, hb, -, hml, hown, hts, -⟩ := hF
  have hl : lv_has ls 1 [(0, .ref a0)] := hl
  have hH : Hp D cy L0 C0 b0 s s.heap I0 J0 R0 s.heap [] := hH
  have old : Old L0 C0 (I0, J0, R0) a0 L0 C0 I0 J0 R0 := Old.rf
  have hS0 := kk.2.2.2.1
  have kk0 := kk.2.1
  have al : AJ L0 C0 I0 [] := AJ.nil
  have nw : Nw L0 L0 C0 [] := Nw.rf
  refine lv_aload_n hx hb dX5_init_0 rfl (lv_at hl 0 rfl) ?_
  refine W.objInit hx hb hown (hts _ km_X5_3) (hts _ ki_objectInit) (hts _ kc_objectInit) rfl (by rw [hml]; exact hl.1) rfl dX5_init_1 (Nat.le_of_ble_eq_true rfl) (Nat.le_of_ble_eq_true rfl) ?_
  refine W.eq (g2 := F0 m 4 ls []) rfl ?_
  refine lv_aload_n hx hb dX5_init_4 rfl (lv_at hl 0 rfl) ?_
  refine lv_iconst (v := 0) hx hb dX5_init_5 (by decide) ?_
  refine pf_5_0 hx hb hts hown hH ma0 ka0 rfl kf_X5_9 dX5_init_6 (fun I1 H locs eI1 hH => ?_)
  have ria0 : I1 a0 = il [(0, 0)] := by rw [eI1]; exact il_put ria0
  have kk : KK L0 C0 I1 R0 (21 :: S) := by rw [eI1]; exact kk.stI ka0 ⟨by decide, by decide⟩
  have old : Old L0 C0 (I0, J0, R0) a0 L0 C0 I1 J0 R0 := by rw [eI1]; exact old.stI (Or.inl rfl)
  have al := al.stI ka0 rfl eI1
  have z0 := z0.stI ka0 rfl eI1
  refine lv_aload_n hx hb dX5_init_9 rfl (lv_at hl 0 rfl) ?_
  refine lv_iconst (v := 0) hx hb dX5_init_10 (by decide) ?_
  refine pf_5_1 hx hb hts hown hH ma0 ka0 rfl kf_X5_15 dX5_init_11 (fun I2 H locs eI2 hH => ?_)
  have ria0 : I2 a0 = il [(1, 0), (0, 0)] := by rw [eI2]; exact il_put ria0
  have kk : KK L0 C0 I2 R0 (21 :: S) := by rw [eI2]; exact kk.stI ka0 ⟨by decide, by decide⟩
  have old : Old L0 C0 (I0, J0, R0) a0 L0 C0 I2 J0 R0 := by rw [eI2]; exact old.stI (Or.inl rfl)
  have al := al.stI ka0 rfl eI2
  have z0 := z0.stI ka0 rfl eI2
  refine lv_aload_n hx hb dX5_init_14 rfl (lv_at hl 0 rfl) ?_
  refine lv_iconst (v := 0) hx hb dX5_init_15 (by decide) ?_
  refine pf_5_2 hx hb hts hown hH ma0 ka0 rfl kf_X5_18 dX5_init_16 (fun I3 H locs eI3 hH => ?_)
  have ria0 : I3 a0 = il [(2, 0), (1, 0), (0, 0)] := by rw [eI3]; exact il_put ria0
  have kk : KK L0 C0 I3 R0 (21 :: S) := by rw [eI3]; exact kk.stI ka0 ⟨by decide, by decide⟩
  have old : Old L0 C0 (I0, J0, R0) a0 L0 C0 I3 J0 R0 := by rw [eI3]; exact old.stI (Or.inl rfl)
  have al := al.stI ka0 rfl eI3
  have z0 := z0.stI ka0 rfl eI3
  refine lv_aload_n hx hb dX5_init_19 rfl (lv_at hl 0 rfl) ?_
  refine lv_iconst (v := 4) hx hb dX5_init_20 (by decide) ?_
  refine hNewP (k := 0) (r := 54) (N := 4) (atype := .int) (ty := .int) (a0 := (4, .inl (fun _ => 0))) hx hb hts hH rfl kac_int rfl rfl rfl (eN_I rfl rfl) (by decide) (by decide) (by decide) (by decide) (by decide) dX5_init_21 (fun q4 L4 C4 I4 J4 R4 H g4 eI4 eJ4 eR4 hH => ?_)
  have nq4 : q4 ∉ L0 := fun h => g4.2.2 (old q4 h).1
  have rra0 : R4 a0 = rl [] := by rw [eR4, va_up_ne _ _ (g4.ne ma0)]; exact rra0
  have ria0 : I4 a0 = il [(2, 0), (1, 0), (0, 0)] := by rw [eI4, va_up_ne _ _ (g4.ne ma0)]; exact ria0
  have ka0 := g4.role ma0 ka0
  have ma0 := g4.mem ma0
  have mq4 := g4.new
  have kq4 := g4.at
  have al := al.new g4 eI4
  have z0 := z0.new g4 eI4 eJ4
  have ow0 := ow0.new g4 eR4
  have nw := nw.new g4
  have al := al.con0 mq4 kq4 rfl
  have kk := kk.new g4 eI4 eR4 zz_54 zr_54 (Or.inl rfl) (by decide)
  have old := old.new g4 eI4 eJ4 eR4
  refine pf_5_3 hx hb hts hown hH hin rfl ma0 ka0 rfl kf_X5_21 dX5_init_23 (fun R5 H locs eR5 hH => ?_)
  have rra0 : R5 a0 = rl [(3, q4)] := by rw [eR5]; exact rl_put rra0
  have kk : KK L4 C4 I4 R5 (54 :: 21 :: S) := by rw [eR5]; exact kk.stR ka0 zr_21
  have old : Old L0 C0 (I0, J0, R0) a0 L4 C4 I4 J4 R5 := by rw [eR5]; exact old.stR (Or.inl rfl)
  have ow0 := ow0.stR ka0 rfl eR5
  refine lv_aload_n hx hb dX5_init_26 rfl (lv_at hl 0 rfl) ?_
  refine lv_iconst (v := 0) hx hb dX5_init_27 (by decide) ?_
  refine pf_5_4 hx hb hts hown hH ma0 ka0 rfl kf_X5_25 dX5_init_28 (fun I6 H locs eI6 hH => ?_)
  have ria0 : I6 a0 = il [(4, 0), (2, 0), (1, 0), (0, 0)] := by rw [eI6]; exact il_put ria0
  have kk : KK L4 C4 I6 R5 (54 :: 21 :: S) := by rw [eI6]; exact kk.stI ka0 ⟨by decide, by decide⟩
  have old : Old L0 C0 (I0, J0, R0) a0 L4 C4 I6 J4 R5 := by rw [eI6]; exact old.stI (Or.inl rfl)
  have al := al.stI ka0 rfl eI6
  have z0 := z0.stI ka0 rfl eI6
  refine lv_aload_n hx hb dX5_init_31 rfl (lv_at hl 0 rfl) ?_
  refine lv_iconst (v := (-1)) hx hb dX5_init_32 (by decide) ?_
  refine pf_5_5 hx hb hts hown hH ma0 ka0 rfl kf_X5_28 dX5_init_33 (fun I7 H locs eI7 hH => ?_)
  have ria0 : I7 a0 = il [(5, (-1)), (4, 0), (2, 0), (1, 0), (0, 0)] := by rw [eI7]; exact il_put ria0
  have kk : KK L4 C4 I7 R5 (54 :: 21 :: S) := by rw [eI7]; exact kk.stI ka0 ⟨by decide, by decide⟩
  have old : Old L0 C0 (I0, J0, R0) a0 L4 C4 I7 J4 R5 := by rw [eI7]; exact old.stI (Or.inl rfl)
  have al := al.stI ka0 rfl eI7
  have z0 := z0.stI ka0 rfl eI7
  refine lv_aload_n hx hb dX5_init_36 rfl (lv_at hl 0 rfl) ?_
  refine lv_iconst (v := 0) hx hb dX5_init_37 (by decide) ?_
  refine pf_5_6 hx hb hts hown hH ma0 ka0 rfl kf_X5_31 dX5_init_38 (fun I8 H locs eI8 hH => ?_)
  have ria0 : I8 a0 = il [(6, 0), (5, (-1)), (4, 0), (2, 0), (1, 0), (0, 0)] := by rw [eI8]; exact il_put ria0
  have kk : KK L4 C4 I8 R5 (54 :: 21 :: S) := by rw [eI8]; exact kk.stI ka0 ⟨by decide, by decide⟩
  have old : Old L0 C0 (I0, J0, R0) a0 L4 C4 I8 J4 R5 := by rw [eI8]; exact old.stI (Or.inl rfl)
  have al := al.stI ka0 rfl eI8
  have z0 := z0.stI ka0 rfl eI8
  refine lv_aload_n hx hb dX5_init_41 rfl (lv_at hl 0 rfl) ?_
  refine lv_iconst (v := 4) hx hb dX5_init_42 (by decide) ?_
  refine hNewP (k := 0) (r := 55) (N := 4) (atype := .int) (ty := .int) (a0 := (4, .inl (fun _ => 0))) hx hb hts hH rfl kac_int rfl rfl rfl (eN_I rfl rfl) (by decide) (by decide) (by decide) (by decide) (by decide) dX5_init_43 (fun q9 L9 C9 I9 J9 R9 H g9 eI9 eJ9 eR9 hH => ?_)
  have nq9 : q9 ∉ L0 := fun h => g9.2.2 (old q9 h).1
  have rra0 : R9 a0 = rl [(3, q4)] := by rw [eR9, va_up_ne _ _ (g9.ne ma0)]; exact rra0
  have ria0 : I9 a0 = il [(6, 0), (5, (-1)), (4, 0), (2, 0), (1, 0), (0, 0)] := by rw [eI9, va_up_ne _ _ (g9.ne ma0)]; exact ria0
  have ka0 := g9.role ma0 ka0
  have ma0 := g9.mem ma0
  have mq9 := g9.new
  have kq9 := g9.at
  have al := al.new g9 eI9
  have z0 := z0.new g9 eI9 eJ9
  have ow0 := ow0.new g9 eR9
  have nw := nw.new g9
  have al := al.con0 mq9 kq9 rfl
  have kk := kk.new g9 eI9 eR9 zz_55 zr_55 (Or.inl rfl) (by decide)
  have old := old.new g9 eI9 eJ9 eR9
  refine pf_5_7 hx hb hts hown hH hin rfl ma0 ka0 rfl kf_X5_34 dX5_init_45 (fun R10 H locs eR10 hH => ?_)
  have rra0 : R10 a0 = rl [(7, q9), (3, q4)] := by rw [eR10]; exact rl_put rra0
  have kk : KK L9 C9 I9 R10 (55 :: 54 :: 21 :: S) := by rw [eR10]; exact kk.stR ka0 zr_21
  have old : Old L0 C0 (I0, J0, R0) a0 L9 C9 I9 J9 R10 := by rw [eR10]; exact old.stR (Or.inl rfl)
  have ow0 := ow0.stR ka0 rfl eR10
  have mq4 : q4 ∈ L9 := (al.at (i := 1) rfl).1
  have kq4 : C9 q4 = 54 := (al.at (i := 1) rfl).2
  have mq9 : q9 ∈ L9 := (al.at (i := 0) rfl).1
  have kq9 : C9 q9 = 55 := (al.at (i := 0) rfl).2
  have hI11 : ∀ j, j < rN 5 → rLo 5 j ≤ (I9 a0 j).toInt ∧ (I9 a0 j).toInt ≤ rHi 5 j ∧ (rX 5 = true → (I9 a0 j).toInt ≤ 3 ∨ (I9 a0 j).toInt = 9) := by rw [ria0]; decide +kernel
  have hR11 : ∀ j, j < rN 5 → rR 5 j ≠ 0 → ∃ b, b ∈ L9 ∧ b ≠ a0 ∧ R10 a0 j = some b ∧ C9 b + 1 = rR 5 j := by
    intro j hj hn
    rw [rra0]
    have hj : j < 8 := hj
    rcases (show j = 0 ∨ j = 1 ∨ j = 2 ∨ j = 3 ∨ j = 4 ∨ j = 5 ∨ j = 6 ∨ j = 7 by omega) with rfl | rfl | rfl | rfl | rfl | rfl | rfl | rfl
    · exact absurd rfl hn
    · exact absurd rfl hn
    · exact absurd rfl hn
    · exact ⟨q4, mq4, ne_role kq4 ka0 (by decide), rfl, by rw [kq4]; rfl⟩
    · exact absurd rfl hn
    · exact absurd rfl hn
    · exact absurd rfl hn
    · exact ⟨q9, mq9, ne_role kq9 ka0 (by decide), rfl, by rw [kq9]; rfl⟩
  have oi11 : ∀ i j c, ow 5 i = true → ow 5 j = true → R10 a0 i = some c → R10 a0 j = some c → i = j := by
    intro i j c o1 o2 h1 h2
    rw [rra0] at h1 h2
    rcases (show (i = 3 ∨ i = 7) by have a1 := ow_or o1; omega) with rfl | rfl <;> rcases (show (j = 3 ∨ j = 7) by have a1 := ow_or o2; omega) with rfl | rfl
    · rfl
    · exact absurd (Option.some.inj (show some q4 = some q9 from h1.trans h2.symm)) (ne_role kq4 kq9 (by decide))
    · exact absurd (Option.some.inj (show some q9 = some q4 from h1.trans h2.symm)) (ne_role kq9 kq4 (by decide))
    · rfl
  have oo11 : ∀ b ∈ L9, C9 b = 5 → ∀ i j c, ow 5 i = true → ow 5 j = true → R10 b i = some c → R10 a0 j = some c → False := by
    intro b hb hC i j c o1 o2 h1 h2
    have a1 := own_old kk0 old ka0 rfl nw rfl b hb hC i c o1 h1
    rw [rra0] at h2
    rcases (show j = 3 ∨ j = 7 by have a2 := ow_or o2; omega) with rfl | rfl
    · exact nq4 (by rw [Option.some.inj (show some q4 = some c from h2)]; exact a1)
    · exact nq9 (by rw [Option.some.inj (show some q9 = some c from h2)]; exact a1)
  have ow0 := ow0.relO (q := a0) oi11 oo11
  have hH := hH.rel (q := a0) (r := 5) (by rw [ka0]; rfl) (by rw [ka0]; rfl)
  have kk := kk.rel ma0 ka0 (Or.inl ⟨by decide, by decide⟩) hI11 hR11 (Or.inl rfl) (fun _ => by rw [ria0]; decide) (by decide) (by decide)
  have old := old.rel (q := a0) (r := 5) (Or.inl rfl)
  have al := al.rel (r := 5) ka0 rfl
  have z0 := z0.rel (q := a0) (r := 5) (iv_il (by decide) ria0)
  have nw := nw.rel (q := a0) (r := 5)
  obtain ⟨C11, eC11⟩ : ∃ z, z = va_up C9 a0 5 := ⟨_, rfl⟩
  rw [← eC11] at hH kk old al z0 ow0 nw
  have ka0 : C11 a0 = 5 := by rw [eC11, va_up_self]
  refine W.widen (k := 2) (n := 8) (by decide) (by decide) ?_
  exact ret _ _ _ _ _ _ _ _ _ dX5_init_48 hH ⟨kk, old, ka0, z0, ow0, (nw.wS rfl)⟩
