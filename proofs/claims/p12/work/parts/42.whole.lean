set_option maxHeartbeats 4000000 in
set_option maxRecDepth 100000 in
theorem whole_start {p : Program} {e : Env} {s : State} {m : MethodId} {below : List Frame} {meth : Method} {c : Code} (l : Launch) {b L : Nat} {xs : Nat → Int32} (hL : L ≤ 3072) (A0 : lw_At p s m meth c b L xs) : W p l e room_1 s m #[Value.ref b] below meth c s.heap [] 0 0 (lw_Z below #[Value.ref b] s) (entryFrame m ([Value.ref b] : List Value).toArray 4) := by
  obtain ⟨hx, hb, hr, hml, hown, hts0, hX, hbl, hlocks, hgv⟩ := id A0
  have hts : ∀ w ∈ wG, w.before #[Value.ref b] s = true := fun w h => hts0 w (List.mem_filter.mp h).1
  have hown : s.vm.findClass RL = some m.cls := hown
  obtain ⟨c0, iS0, hKn0⟩ := u_known (C := RX0) (T := TX0) (N := 2) (n := 2) hts inX0 (hts _ kinst_X0)
  obtain ⟨c1, iS1, hKn1⟩ := u_known (C := RX1) (T := TX1) (N := 11) (n := 11) hts inX1 (hts _ kinst_X1)
  obtain ⟨c2, iS2, hKn2⟩ := u_known (C := RX2) (T := TX2) (N := 2) (n := 2) hts inX2 (hts _ kinst_X2)
  obtain ⟨c3, iS3, hKn3⟩ := u_known (C := RX3) (T := TX3) (N := 7) (n := 7) hts inX3 (hts _ kinst_X3)
  obtain ⟨c4, iS4, hKn4⟩ := u_known (C := RX4) (T := TX4) (N := 5) (n := 5) hts inX4 (hts _ kinst_X4)
  obtain ⟨c5, iS5, hKn5⟩ := u_known (C := RX5) (T := TX5) (N := 8) (n := 8) hts inX5 (hts _ kinst_X5)
  obtain ⟨c6, iS6, hKn6⟩ := u_known (C := RX6) (T := TX6) (N := 12) (n := 12) hts inX6 (hts _ kinst_X6)
  obtain ⟨c7, iS7, hKn7⟩ := u_known (C := RX7) (T := TX7) (N := 2) (n := 2) hts inX7 (hts _ kinst_X7)
  obtain ⟨c8, iS8, hKn8⟩ := u_known (C := RX8) (T := TX8) (N := 3) (n := 3) hts inX8 (hts _ kinst_X8)
  obtain ⟨c9, iS9, hKn9⟩ := u_known (C := RX9) (T := TX9) (N := 7) (n := 7) hts inX9 (hts _ kinst_X9)
  obtain ⟨c10, iS10, hKn10⟩ := u_known (C := RX10) (T := TX10) (N := 9) (n := 9) hts inX10 (hts _ kinst_X10)
  obtain ⟨c11, iS11, hKn11⟩ := u_known (C := RX11) (T := TX11) (N := 56) (n := 56) hts inX11 (hts _ kinst_X11)
  obtain ⟨dC, dI, hKc⟩ : ∃ (dC : Nat → ClassId) (dI : Nat → Nat → Nat), ∀ (k : Nat) (q : vw_C), vwCl[k]? = some q → u_Kn s q.1 q.2.1 q.2.2 (dC k) (dI k) := by
    refine ⟨fun k => if k = 0 then c0 else if k = 1 then c1 else if k = 2 then c2 else if k = 3 then c3 else if k = 4 then c4 else if k = 5 then c5 else if k = 6 then c6 else if k = 7 then c7 else if k = 8 then c8 else if k = 9 then c9 else if k = 10 then c10 else c11, fun k => if k = 0 then iS0 else if k = 1 then iS1 else if k = 2 then iS2 else if k = 3 then iS3 else if k = 4 then iS4 else if k = 5 then iS5 else if k = 6 then iS6 else if k = 7 then iS7 else if k = 8 then iS8 else if k = 9 then iS9 else if k = 10 then iS10 else iS11, ?_⟩
    intro k q hq
    match k, hq with
    | 0, hq => cases hq; exact hKn0
    | 1, hq => cases hq; exact hKn1
    | 2, hq => cases hq; exact hKn2
    | 3, hq => cases hq; exact hKn3
    | 4, hq => cases hq; exact hKn4
    | 5, hq => cases hq; exact hKn5
    | 6, hq => cases hq; exact hKn6
    | 7, hq => cases hq; exact hKn7
    | 8, hq => cases hq; exact hKn8
    | 9, hq => cases hq; exact hKn9
    | 10, hq => cases hq; exact hKn10
    | 11, hq => cases hq; exact hKn11
    | k + 12, hq => simp [vwCl] at hq
  obtain ⟨y0, z0, w0, a0, b0, d0⟩ := Cond.arrayClass_spec (hts _ kac_int)
  obtain ⟨y1, z1, w1, a1, b1, d1⟩ := Cond.arrayClass_spec (hts _ kac_long)
  obtain ⟨y2, z2, w2, a2, b2, d2⟩ := Cond.arrayClass_spec (hts _ kac_boolean)
  have ho5 : (Cond.arrayOver (.object RX5)).before #[Value.ref b] s = true := hts0 _ ko_X5
  have ho7 : (Cond.arrayOver (.object RX7)).before #[Value.ref b] s = true := hts0 _ ko_X7
  obtain ⟨w3, y3, z3, e3, -, b3, d3, a3⟩ := Cond.arrayOver_spec ho5
  obtain ⟨w4, y4, z4, e4, -, b4, d4, a4⟩ := Cond.arrayOver_spec ho7
  obtain ⟨cy, hcy⟩ : ∃ cy : Nat → ClassId, cy = fun k => if k = 0 then y0 else if k = 1 then y1 else if k = 2 then y2 else if k = 3 then y3 else y4 := ⟨_, rfl⟩
  have hK : va_K (dC, dI) vwCl (tysL cy) s := by
    refine ⟨hKc, fun k q hq => ?_⟩
    subst hcy
    match k, hq with
    | 0, hq => cases hq; exact ⟨fun n z => ⟨fun k h => (by cases h), z0, b0, w0, d0⟩, a0⟩
    | 1, hq => cases hq; exact ⟨fun n z => ⟨fun k h => (by cases h), z1, b1, w1, d1⟩, a1⟩
    | 2, hq => cases hq; exact ⟨fun n z => ⟨fun k h => (by cases h), z2, b2, w2, d2⟩, a2⟩
    | 3, hq => cases hq; exact ⟨fun n z => ⟨fun k h => (by cases h), z3, b3, w3, d3⟩, z3, w3, b3, d3, e3, a3⟩
    | 4, hq => cases hq; exact ⟨fun n z => ⟨fun k h => (by cases h), z4, b4, w4, d4⟩, z4, w4, b4, d4, e4, a4⟩
    | k + 5, hq => simp [tysL] at hq
  have hXt : Xt s.heap.size s s.heap := ⟨fun w hw => va_Nw.of (nestW_on w hw) (hts0 w (nestW_in w hw)), ⟨va_AO.of ho5, va_AO.of ho7⟩, za_of hts0 hgv⟩
  clear hcy
  have hH : Hp (dC, dI) cy [] (fun _ => 0) s.heap.size s s.heap (fun _ _ => 0) (fun _ _ => 0) (fun _ _ => none) s.heap [] := ⟨hK, fun k q h => by simp [wd, va_pl] at h, ⟨fun i j p q h => by simp [wd, va_pl] at h, fun k q h => by simp [wd, va_pl] at h⟩, va_S.rf, Nat.le_refl _, hXt⟩
  have kk : KK [] (fun _ => 0) (fun _ _ => 0) (fun _ _ => none) [] := ⟨fun a h => absurd h List.not_mem_nil, fun a h => absurd h List.not_mem_nil, fun a h => absurd h List.not_mem_nil, fun a h => absurd h List.not_mem_nil, fun a h => absurd h List.not_mem_nil, fun a h => absurd h List.not_mem_nil⟩
  obtain ⟨L0, eL0⟩ : ∃ z : List Nat, z = [] := ⟨_, rfl⟩
  obtain ⟨C0, eC0⟩ : ∃ z : Nat → Nat, z = fun _ => 0 := ⟨_, rfl⟩
  obtain ⟨I0, eI0⟩ : ∃ z : hI, z = fun _ _ => 0 := ⟨_, rfl⟩
  obtain ⟨J0, eJ0⟩ : ∃ z : hJ, z = fun _ _ => 0 := ⟨_, rfl⟩
  obtain ⟨R0, eR0⟩ : ∃ z : hR, z = fun _ _ => none := ⟨_, rfl⟩
  have kk : KK L0 C0 I0 R0 [] := by rw [eL0, eC0, eI0, eR0]; exact kk
  have hH : Hp (dC, dI) cy L0 C0 s.heap.size s s.heap I0 J0 R0 s.heap [] := by rw [eL0, eC0, eI0, eJ0, eR0]; exact hH
  obtain ⟨a0, ea0⟩ : ∃ z : Nat, z = 0 := ⟨_, rfl⟩
  have old : Old L0 C0 (I0, J0, R0) a0 L0 C0 I0 J0 R0 := Old.rf
  have al : AJ L0 C0 I0 [] := AJ.nil
  have z0 : Z0 L0 C0 I0 J0 := by rw [eL0]; exact ⟨fun a h => absurd h List.not_mem_nil, fun a h => absurd h List.not_mem_nil⟩
  have ow0 : Ow L0 C0 R0 := by rw [eL0]; exact fun a h => absurd h List.not_mem_nil
  have hl := lv_entry ([.ref b]) (n := 4) (Nat.le_of_ble_eq_true rfl)
  rw [lg_entry_eq]
  generalize (lg_sl ([.ref b]) ++ List.replicate (4 - (lg_sl ([.ref b])).length) Slot.unset).toArray = ls at hl ⊢
  have hl : lv_has ls 4 [(0, .ref b)] := hl
  refine hNew (ci := 10) (N := 9) hx hb hts hown hH inX10 tyX10_ok rfl (by decide) rfl df_10 kcl_L_7 kinst_X10 kini_X10 (by decide) (by decide) dL_law_0 (fun q1 L1 C1 I1 J1 R1 H g1 eI1 eJ1 eR1 hH => ?_)
  have nq1 : q1 ∉ L0 := fun h => g1.2.2 (old q1 h).1
  have mq1 := g1.new
  have kq1 := g1.at
  have al := al.new g1 eI1
  have z0 := z0.new g1 eI1 eJ1
  have ow0 := ow0.new g1 eR1
  have rrq1 : R1 q1 = rl [] := by rw [eR1, va_up_self]; rfl
  have riq1 : I1 q1 = il [] := by rw [eI1, va_up_self]; rfl
  have kk := kk.new g1 eI1 eR1 zz_26 zr_26 (Or.inl rfl) (by decide)
  have old := old.new g1 eI1 eJ1 eR1
  refine lv_dup hx hb dL_law_3 rfl ?_
  refine afA (va_runI (As := []) (rest := [.ref q1]) ⟨hx, hb, hml, hown, hts⟩ (c_X10_init kk mq1 kq1 riq1 rrq1 z0 ow0) ⟨callB_of 0 hts (wG_code kc_yX10_init) rfl rfl rfl (hts _ kini_X10) (hts _ km_L_9) ⟨by decide, by decide, by decide +kernel⟩ ⟨by decide, by decide⟩, rfl, hts _ ki_yX10_init⟩ (preS hH) rfl rfl hl.1 rfl (lv_room (Nat.le_of_ble_eq_true rfl)) dL_law_4 ⟨by decide, by decide⟩) hH (fun L2 C2 I2 J2 R2 H locs hp hH => ?_)
  obtain ⟨kk, od2, kq2, z0, ow0, ⟨z2_0, z2_1, z2_2, z2_3, z2_4, z2_5, z2_6, ae2⟩⟩ := hp
  have al := al.old od2 kq1 rfl
  have kq1 : C2 q1 = 10 := kq2
  have mq1 := (od2 q1 mq1).1
  have old := old.ctor od2 nq1
  have al := ae2.app al
  have al := al.con0 mq1 kq1 rfl
  refine lv_astore_n (lv' := [(1, .ref q1), (0, .ref b)]) hx hb dL_law_7 rfl hl (by decide) rfl (fun ls hl => ?_)
  refine hNew (ci := 11) (N := 56) hx hb hts hown hH inX11 tyX11_ok rfl (by decide) rfl df_11 kcl_L_10 kinst_X11 kini_X11 (by decide) (by decide) dL_law_8 (fun q3 L3 C3 I3 J3 R3 H g3 eI3 eJ3 eR3 hH => ?_)
  have nq3 : q3 ∉ L0 := fun h => g3.2.2 (old q3 h).1
  have mq3 := g3.new
  have kq3 := g3.at
  have al := al.new g3 eI3
  have z0 := z0.new g3 eI3 eJ3
  have ow0 := ow0.new g3 eR3
  have rrq3 : R3 q3 = rl [] := by rw [eR3, va_up_self]; rfl
  have riq3 : I3 q3 = il [] := by rw [eI3, va_up_self]; rfl
  have kk := kk.new g3 eI3 eR3 zz_27 zr_27 (Or.inl rfl) (by decide)
  have old := old.new g3 eI3 eJ3 eR3
  refine lv_dup hx hb dL_law_11 rfl ?_
  refine afA (va_runI (As := []) (rest := [.ref q3]) ⟨hx, hb, hml, hown, hts⟩ (c_X11_init kk mq3 kq3 riq3 rrq3 z0 ow0) ⟨callB_of 0 hts (wG_code kc_yX11_init) rfl rfl rfl (hts _ kini_X11) (hts _ km_L_12) ⟨by decide, by decide, by decide +kernel⟩ ⟨by decide, by decide⟩, rfl, hts _ ki_yX11_init⟩ (preS hH) rfl rfl hl.1 rfl (lv_room (Nat.le_of_ble_eq_true rfl)) dL_law_12 ⟨by decide, by decide⟩) hH (fun L4 C4 I4 J4 R4 H locs hp hH => ?_)
  obtain ⟨kk, od4, kq4, z0, ow0, ⟨z4_0, z4_1, z4_2, z4_3, z4_4, z4_5, ae4⟩⟩ := hp
  have al := al.old od4 kq3 rfl
  have kq3 : C4 q3 = 11 := kq4
  have mq3 := (od4 q3 mq3).1
  have old := old.ctor od4 nq3
  have al := ae4.app al
  refine lv_astore_n (lv' := [(2, .ref q3), (1, .ref q1), (0, .ref b)]) hx hb dL_law_15 rfl hl (by decide) rfl (fun ls hl => ?_)
  refine lv_iconst (v := 0) hx hb dL_law_16 (by decide) ?_
  refine lv_istore_n (lv' := [(3, .int 0), (2, .ref q3), (1, .ref q1), (0, .ref b)]) hx hb dL_law_17 rfl hl (by decide) rfl (fun ls hl => ?_)
  have mq1 : q1 ∈ L4 := (al.at (i := 7) rfl).1
  have mq3 : q3 ∈ L4 := (al.at (i := 0) rfl).1
  have kq1 : C4 q1 = 10 := (al.at (i := 7) rfl).2
  have kq3 : C4 q3 = 11 := (al.at (i := 0) rfl).2
  refine W.widen (k := 474) (n := 16845) (by decide) (by decide) ?_
  exact law_loop hL A0 kk.2.2.1 mq1 kq1 mq3 kq3 (L + 1) 0 0 (Nat.zero_le _) (by omega) rfl _ _ _ _ _ _ hH kk.1 kk.2.1 kk.2.2.2.2.1 kk.2.2.2.2.2 ow0 (RC.init z0 kk.2.1 mq1 kq1 mq3 kq3) (lv_sub hl [3, 2, 1, 0] rfl)
