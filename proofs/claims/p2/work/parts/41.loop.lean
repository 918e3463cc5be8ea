def ms_L_law : List Nat := [1, 71, 72, 73, 74, 196, 197, 256, 257, 258, 259, 260, 320, 321, 322, 324, 325, 326, 390, 391, 394, 395, 449, 514, 580, 581, 704, 705, 722, 725, 729, 730, 731, 732, 733, 734, 735, 741, 744, 745, 746, 751, 753, 758, 759, 2048, 2112, 2176, 2240, 2304, 2368, 2432, 2496, 2560, 2624, 2688, 2752, 2816, 2880, 2944, 3008, 3072, 3136, 3200, 3264, 3328, 3392, 3456, 3520, 4096, 4160, 4224, 4288, 4352, 4416, 4480, 4544, 4608, 4672, 4736, 4800, 4864, 4928, 4992, 5056, 5120, 5184, 5248, 5312, 5376, 5440, 5504, 5568, 5632, 5696, 5760, 5824, 5888, 5952, 6016, 6080, 6144, 6208, 6272, 6336, 6400]
set_option maxHeartbeats 8000000 in
set_option maxRecDepth 100000 in
theorem law_loop {p : Program} {l : Launch} {e : Env} {s : State} {m : MethodId} {below : List Frame} {meth : Method} {c : Code} {D : va_G} {cy : Nat → ClassId} {L : List Nat} {C : Nat → Nat} {b n0 : Nat} {xs : Nat → Int32} (hL : n0 ≤ 3072) (C0 : lw_At p s m meth c b n0 xs) (uq : Uq L C) {x mo : Nat} (mx : x ∈ L) (kx : C x = 10) (mm : mo ∈ L) (km : C mo = 11) {ru : Nat} (mru : ru ∈ L) (kru : C ru = 6) {tj : Nat} (mtj : tj ∈ L) (ktj : C tj = 37) {mi : Nat} (mmi : mi ∈ L) (kmi : C mi = 69) :
    ∀ (n i : Nat) (x3 : Int32), i ≤ n0 → n0 + 1 ≤ i + n → x3.toInt = i → ∀ (I : hI) (J : hJ) (R : hR) (H : Heap) (locs : List Loc) (ls : Array Slot), Hp D cy L C s.heap.size s s.heap I J R H locs → OkI L C I → OkR L C R → XM L C I → XW L C I → I ru 6 = I mo 1 → I tj = I mi → lv_has ls 4 [(0, .ref b), (1, .ref x), (2, .ref mo), (3, .int x3)] → W p l e room_1 s m #[Value.ref b] below meth c H locs 474 16845 (lw_Z below #[Value.ref b] s) (F0 m 18 ls []) := by
  obtain ⟨hx, hb, hr, hml, hown, hts0, hX, hbl, hlocks, hgv⟩ := C0
  have hts : ∀ w ∈ wG, w.before #[Value.ref b] s = true := fun w h => hts0 w (List.mem_filter.mp h).1
  have hown : s.vm.findClass RL = some m.cls := hown
  have hbA : ¬ (fun q : Nat => s.heap.size ≤ q) b := Nat.not_le.mpr hbl
  intro n
  induction n with
  | zero => intro i x3 h1 h2; exact absurd h2 (by omega)
  | succ n ih =>
    intro i x3 hi0 hin hi I J R H locs ls hH oI oR xm xw fe0 fe1 hl
    have r3 : Rg x3 (0) (3072) := ⟨by omega, by omega⟩
    have sm : Sm C ms_L_law (I, J, R) (I, J, R) := Sm.rf
    have L_1244 : i + 6 ≤ n0 → ∀ (I : hI) (J : hJ) (R : hR) (H : Heap) (locs : List Loc) (ls : Array Slot), Hp D cy L C s.heap.size s s.heap I J R H locs → OkI L C I → OkR L C R → XM L C I → XW L C I → I ru 6 = I mo 1 → I tj = I mi → lv_has ls 4 [(0, .ref b), (1, .ref x), (2, .ref mo), (3, .int x3)] → W p l e room_1 s m #[Value.ref b] below meth c H locs 474 16845 (lw_Z below #[Value.ref b] s) (F0 m 1244 ls []) := by
      intro h6 I J R H locs ls hH oI oR xm xw fe0 fe1 hl
      have r9 : Rg x3 (0) (3066) := ⟨by omega, by omega⟩
      obtain ⟨vv0, fb0⟩ : ∃ z, I mo 1 = z := ⟨_, rfl⟩
      have fa0 : I ru 6 = vv0 := fe0.trans fb0
      obtain ⟨vv1, fb1⟩ : ∃ z, I mi = z := ⟨_, rfl⟩
      have fa1 : I tj = vv1 := fe1.trans fb1
      obtain ⟨y450, ey450⟩ : ∃ y : Int32, y = x3 + 6 := ⟨_, rfl⟩
      obtain ⟨ty450, ry450⟩ := Rg_addx (a' := (6)) (b' := (3072)) (rfl : x3.toInt = _) (by decide : Int32.toInt 6 = 6) r9 (Rg_c (x := 6) (a := (6)) (b := (6)) (by decide)) (by decide)
      rw [← ey450] at ty450 ry450
      refine lv_iinc (v := y450) (lv' := [(3, .int y450), (0, .ref b), (1, .ref x), (2, .ref mo)]) hx hb dL_law_1244 hl (k := 3) rfl (by rw [ey450]; rfl) (by decide) rfl (fun ls hl => ?_)
      refine lv_goto (tgt := 18) hx hb dL_law_1247 (by decide) ?_
      exact ih (i + 6) y450 (by omega) (by omega) (by rw [ty450]; omega) I J R _ _ _ hH oI oR xm xw (fa0.trans fb0.symm) (fa1.trans fb1.symm) (lv_sub hl [1, 2, 3, 0] rfl)
    obtain ⟨vv0, fb0⟩ : ∃ z, I mo 1 = z := ⟨_, rfl⟩
    have fa0 : I ru 6 = vv0 := fe0.trans fb0
    obtain ⟨vv1, fb1⟩ : ∃ z, I mi = z := ⟨_, rfl⟩
    have fa1 : I tj = vv1 := fe1.trans fb1
    refine lv_iload_n hx hb dL_law_18 rfl (lv_at hl 3 rfl) ?_
    refine lv_aload_n hx hb dL_law_19 rfl (lv_at hl 0 rfl) ?_
    refine va_slen hx hb hX hbl hbA hH.2.2.2.1 dL_law_20 ?_
    refine lv_topi (fun ln eln => ?_)
    have rln : Rg ln (0) (3072) := by rw [eln]; exact sc_len hL
    have tln : ln.toInt = n0 := by rw [eln]; exact sc_lenI hL
    refine lv_bipush (v := 6) hx hb dL_law_21 (by decide) ?_
    refine lv_isub hx hb dL_law_23 ?_
    refine lv_topi (fun y1 ey1 => ?_)
    obtain ⟨ty1, ry1⟩ := Rg_subx (a' := (-6)) (b' := (3066)) (rfl : ln.toInt = _) (by decide : Int32.toInt 6 = 6) rln (Rg_c (x := 6) (a := (6)) (b := (6)) (by decide)) (by decide)
    rw [← ey1] at ty1 ry1
    refine lv_icmp_gt (tgt := 1250) hx hb dL_law_24 (by decide) (fun q2 => ?_) (fun q2 => ?_)
    · refine lv_iconst (v := 1) hx hb dL_law_1250 (by decide) ?_
      refine va_forget (fun q hq => hH.2.2.2.1.2.2 q hq) ?_
      refine W.widen (k := 600000) (n := 7302249) (by decide) (by decide) ?_
      exact lw_ret hx hb hr hlocks dL_law_1251
    have h6 : i + 6 ≤ n0 := by have a1 := Rg_nlt q2; rw [ty1] at a1; omega
    refine lv_aload_n hx hb dL_law_27 rfl (lv_at hl 0 rfl) ?_
    refine lv_iload_n hx hb dL_law_28 rfl (lv_at hl 3 rfl) ?_
    refine va_sld hx hb hX hbl hbA hH.2.2.2.1 (sc_in0 hi h6) dL_law_29 ?_
    refine lv_topi (fun y3 ey3 => ?_)
    refine lv_bipush (v := 31) hx hb dL_law_30 (by decide) ?_
    refine lv_iand hx hb dL_law_32 ?_
    refine lv_topi (fun y4 ey4 => ?_)
    have ry4 : Rg y4 0 31 := by rw [ey4]; exact Rg_and31 _
    rcases (show (y4.toInt < 0 ∨ 23 < y4.toInt) ∨ y4.toInt = 0 ∨ y4.toInt = 1 ∨ y4.toInt = 2 ∨ y4.toInt = 3 ∨ y4.toInt = 4 ∨ y4.toInt = 5 ∨ y4.toInt = 6 ∨ y4.toInt = 7 ∨ y4.toInt = 8 ∨ y4.toInt = 9 ∨ y4.toInt = 10 ∨ y4.toInt = 11 ∨ y4.toInt = 12 ∨ y4.toInt = 13 ∨ y4.toInt = 14 ∨ y4.toInt = 15 ∨ y4.toInt = 16 ∨ y4.toInt = 17 ∨ y4.toInt = 18 ∨ y4.toInt = 19 ∨ y4.toInt = 20 ∨ y4.toInt = 21 ∨ y4.toInt = 22 ∨ y4.toInt = 23 by have z51 := ry4.1; have z52 := ry4.2; omega) with z5 | z5 | z5 | z5 | z5 | z5 | z5 | z5 | z5 | z5 | z5 | z5 | z5 | z5 | z5 | z5 | z5 | z5 | z5 | z5 | z5 | z5 | z5 | z5 | z5
    · refine lv_tableOut (tgt := 1244) hx hb dL_law_33 z5 (by decide) ?_
      exact L_1244 h6 I J R _ _ _ hH oI oR xm xw (fa0.trans fb0.symm) (fa1.trans fb1.symm) (lv_sub hl [0, 1, 2, 3] rfl)
    · have r6 : Rg y4 (0) (0) := ⟨by rw [z5]; decide, by rw [z5]; decide⟩
      refine lv_tableIn (tgt := 144) hx hb dL_law_33 (by rw [z5]; decide) (by rw [z5]; decide) (by rw [z5]; rfl) (by decide) ?_
      refine lv_aload_n hx hb dL_law_144 rfl (lv_at hl 1 rfl) ?_
      refine lv_aload_n hx hb dL_law_145 rfl (lv_at hl 0 rfl) ?_
      refine lv_iload_n hx hb dL_law_146 rfl (lv_at hl 3 rfl) ?_
      refine lv_iconst (v := 1) hx hb dL_law_147 (by decide) ?_
      refine lv_iadd hx hb dL_law_148 ?_
      refine lv_topi (fun y7 ey7 => ?_)
      obtain ⟨ty7, ry7⟩ := Rg_addx (a' := (1)) (b' := (3073)) (rfl : x3.toInt = _) (by decide : Int32.toInt 1 = 1) r3 (Rg_c (x := 1) (a := (1)) (b := (1)) (by decide)) (by decide)
      rw [← ey7] at ty7 ry7
      refine va_sld hx hb hX hbl hbA hH.2.2.2.1 (sc_in ty7 hi h6 (by decide)) dL_law_149 ?_
      refine lv_topi (fun y8 ey8 => ?_)
      refine lv_aload_n hx hb dL_law_150 rfl (lv_at hl 0 rfl) ?_
      refine lv_iload_n hx hb dL_law_151 rfl (lv_at hl 3 rfl) ?_
      refine lv_iconst (v := 2) hx hb dL_law_152 (by decide) ?_
      refine lv_iadd hx hb dL_law_153 ?_
      refine lv_topi (fun y9 ey9 => ?_)
      obtain ⟨ty9, ry9⟩ := Rg_addx (a' := (2)) (b' := (3074)) (rfl : x3.toInt = _) (by decide : Int32.toInt 2 = 2) r3 (Rg_c (x := 2) (a := (2)) (b := (2)) (by decide)) (by decide)
      rw [← ey9] at ty9 ry9
      refine va_sld hx hb hX hbl hbA hH.2.2.2.1 (sc_in ty9 hi h6 (by decide)) dL_law_154 ?_
      refine lv_topi (fun y10 ey10 => ?_)
      refine lv_aload_n hx hb dL_law_155 rfl (lv_at hl 0 rfl) ?_
      refine lv_iload_n hx hb dL_law_156 rfl (lv_at hl 3 rfl) ?_
      refine lv_iconst (v := 3) hx hb dL_law_157 (by decide) ?_
      refine lv_iadd hx hb dL_law_158 ?_
      refine lv_topi (fun y11 ey11 => ?_)
      obtain ⟨ty11, ry11⟩ := Rg_addx (a' := (3)) (b' := (3075)) (rfl : x3.toInt = _) (by decide : Int32.toInt 3 = 3) r3 (Rg_c (x := 3) (a := (3)) (b := (3)) (by decide)) (by decide)
      rw [← ey11] at ty11 ry11
      refine va_sld hx hb hX hbl hbA hH.2.2.2.1 (sc_in ty11 hi h6 (by decide)) dL_law_159 ?_
      refine lv_topi (fun y12 ey12 => ?_)
      refine lv_aload_n hx hb dL_law_160 rfl (lv_at hl 0 rfl) ?_
      refine lv_iload_n hx hb dL_law_161 rfl (lv_at hl 3 rfl) ?_
      refine lv_iconst (v := 4) hx hb dL_law_162 (by decide) ?_
      refine lv_iadd hx hb dL_law_163 ?_
      refine lv_topi (fun y13 ey13 => ?_)
      obtain ⟨ty13, ry13⟩ := Rg_addx (a' := (4)) (b' := (3076)) (rfl : x3.toInt = _) (by decide : Int32.toInt 4 = 4) r3 (Rg_c (x := 4) (a := (4)) (b := (4)) (by decide)) (by decide)
      rw [← ey13] at ty13 ry13
      refine va_sld hx hb hX hbl hbA hH.2.2.2.1 (sc_in ty13 hi h6 (by decide)) dL_law_164 ?_
      refine lv_topi (fun y14 ey14 => ?_)
      refine ca_L_13 hx hb hml hown hts hH (c_X10_rule oI oR mx kx (by exact uq)) hl.1 mx kx rfl (by decide) (Nat.le_of_ble_eq_true rfl) ⟨by decide, by decide⟩ dL_law_165 (fun y15 I15 J15 R15 H locs hp hH => ?_)
      obtain ⟨⟨oI, -, sc15⟩, eJ15, eR15, ry15, hp15⟩ := hp
      obtain rfl : J = J15 := eJ15.symm
      obtain rfl : R = R15 := eR15.symm
      have sm : Sm C ms_L_law (I, J, R) (I15, J, R) := sm.tr sc15 rfl
      have xm : XM L C I15 := XM.sm (u := (I, J, R)) (v := (I15, J, R)) xm sc15 rfl rfl
      have xw : XW L C I15 := XW.sm (u := (I, J, R)) (v := (I15, J, R)) xw sc15 rfl rfl
      have fa0o := fa0
      have fb0o := fb0
      have fb0 : I15 mo 1 = vv0 := (sc15 mo 1 (by rw [km]; decide)).1.trans fb0
      have fa1o := fa1
      have fb1o := fb1
      have fb1 : I15 mi = vv1 := (funext fun k => (sc15 mi k (by rw [kmi]; exact nm_arr (by decide) rfl)).1).trans fb1
      have h15 := hp15 ru mru kru tj mtj ktj
      rw [fa0o, fa1o] at h15
      have ra15 := h15.1
      have fa0 : I15 ru 6 = ruleT vv0 y8 y10 y12 y14 := h15.2.1
      have fa1 : I15 tj = ruleH vv0 vv1 y8 y10 y12 y14 1 := h15.2.2
      refine lv_aload_n hx hb dL_law_168 rfl (lv_at hl 2 rfl) ?_
      refine lv_aload_n hx hb dL_law_169 rfl (lv_at hl 0 rfl) ?_
      refine lv_iload_n hx hb dL_law_170 rfl (lv_at hl 3 rfl) ?_
      refine lv_iconst (v := 1) hx hb dL_law_171 (by decide) ?_
      refine lv_iadd hx hb dL_law_172 ?_
      refine lv_topi (fun y16 ey16 => ?_)
      obtain rfl : y7 = y16 := ey7.trans ey16.symm
      refine va_sld hx hb hX hbl hbA hH.2.2.2.1 (sc_in ty7 hi h6 (by decide)) dL_law_173 ?_
      refine lv_topi (fun y17 ey17 => ?_)
      obtain rfl : y8 = y17 := ey8.trans ey17.symm
      refine lv_aload_n hx hb dL_law_174 rfl (lv_at hl 0 rfl) ?_
      refine lv_iload_n hx hb dL_law_175 rfl (lv_at hl 3 rfl) ?_
      refine lv_iconst (v := 2) hx hb dL_law_176 (by decide) ?_
      refine lv_iadd hx hb dL_law_177 ?_
      refine lv_topi (fun y18 ey18 => ?_)
      obtain rfl : y9 = y18 := ey9.trans ey18.symm
      refine va_sld hx hb hX hbl hbA hH.2.2.2.1 (sc_in ty9 hi h6 (by decide)) dL_law_178 ?_
      refine lv_topi (fun y19 ey19 => ?_)
      obtain rfl : y10 = y19 := ey10.trans ey19.symm
      refine lv_aload_n hx hb dL_law_179 rfl (lv_at hl 0 rfl) ?_
      refine lv_iload_n hx hb dL_law_180 rfl (lv_at hl 3 rfl) ?_
      refine lv_iconst (v := 3) hx hb dL_law_181 (by decide) ?_
      refine lv_iadd hx hb dL_law_182 ?_
      refine lv_topi (fun y20 ey20 => ?_)
      obtain rfl : y11 = y20 := ey11.trans ey20.symm
      refine va_sld hx hb hX hbl hbA hH.2.2.2.1 (sc_in ty11 hi h6 (by decide)) dL_law_183 ?_
      refine lv_topi (fun y21 ey21 => ?_)
      obtain rfl : y12 = y21 := ey12.trans ey21.symm
      refine lv_aload_n hx hb dL_law_184 rfl (lv_at hl 0 rfl) ?_
      refine lv_iload_n hx hb dL_law_185 rfl (lv_at hl 3 rfl) ?_
      refine lv_iconst (v := 4) hx hb dL_law_186 (by decide) ?_
      refine lv_iadd hx hb dL_law_187 ?_
      refine lv_topi (fun y22 ey22 => ?_)
      obtain rfl : y13 = y22 := ey13.trans ey22.symm
      refine va_sld hx hb hX hbl hbA hH.2.2.2.1 (sc_in ty13 hi h6 (by decide)) dL_law_188 ?_
      refine lv_topi (fun y23 ey23 => ?_)
      obtain rfl : y14 = y23 := ey14.trans ey23.symm
      refine ca_L_17 hx hb hml hown hts hH (c_X11_rule oI oR mm km (by exact uq)) hl.1 mm km rfl (by decide) (Nat.le_of_ble_eq_true rfl) ⟨by decide, by decide⟩ dL_law_189 (fun y24 I24 J24 R24 H locs hp hH => ?_)
      obtain ⟨⟨oI, -, sc24⟩, eJ24, eR24, ry24, hp24⟩ := hp
      obtain rfl : J = J24 := eJ24.symm
      obtain rfl : R = R24 := eR24.symm
      have sm : Sm C ms_L_law (I, J, R) (I24, J, R) := sm.tr sc24 rfl
      have xm : XM L C I24 := XM.sm (u := (I15, J, R)) (v := (I24, J, R)) xm sc24 rfl rfl
      have xw : XW L C I24 := XW.sm (u := (I15, J, R)) (v := (I24, J, R)) xw sc24 rfl rfl
      have fa0o := fa0
      have fa0 : I24 ru 6 = ruleT vv0 y8 y10 y12 y14 := (sc24 ru 6 (by rw [kru]; decide)).1.trans fa0
      have fb0o := fb0
      have fa1o := fa1
      have fa1 : I24 tj = ruleH vv0 vv1 y8 y10 y12 y14 1 := (funext fun k => (sc24 tj k (by rw [ktj]; exact nm_arr (by decide) rfl)).1).trans fa1
      have fb1o := fb1
      have h24 := hp24 mi mmi kmi
      rw [fb0o, fb1o] at h24
      have rb24 := h24.1
      have fb0 : I24 mo 1 = ruleT vv0 y8 y10 y12 y14 := h24.2.1
      have fb1 : I24 mi = ruleH vv0 vv1 y8 y10 y12 y14 1 := h24.2.2
      refine lv_icmp_eq (tgt := 1244) hx hb dL_law_192 (by decide) (fun q25 => ?_) (fun q25 => ?_)
      · have l26 := congrArg Int32.toInt q25
        exact L_1244 h6 I24 J R _ _ _ hH oI oR xm xw (fa0.trans fb0.symm) (fa1.trans fb1.symm) (lv_sub hl [0, 1, 2, 3] rfl)
      have l27 := Rg_ne q25
      refine lv_iconst (v := 0) hx hb dL_law_195 (by decide) ?_
      exfalso
      exact absurd (ra15.trans rb24.symm) (by assumption)
    · have r28 : Rg y4 (1) (1) := ⟨by rw [z5]; decide, by rw [z5]; decide⟩
      refine lv_tableIn (tgt := 197) hx hb dL_law_33 (by rw [z5]; decide) (by rw [z5]; decide) (by rw [z5]; rfl) (by decide) ?_
      refine lv_aload_n hx hb dL_law_197 rfl (lv_at hl 1 rfl) ?_
      refine lv_aload_n hx hb dL_law_198 rfl (lv_at hl 0 rfl) ?_
      refine lv_iload_n hx hb dL_law_199 rfl (lv_at hl 3 rfl) ?_
      refine lv_iconst (v := 1) hx hb dL_law_200 (by decide) ?_
      refine lv_iadd hx hb dL_law_201 ?_
      refine lv_topi (fun y29 ey29 => ?_)
      obtain ⟨ty29, ry29⟩ := Rg_addx (a' := (1)) (b' := (3073)) (rfl : x3.toInt = _) (by decide : Int32.toInt 1 = 1) r3 (Rg_c (x := 1) (a := (1)) (b := (1)) (by decide)) (by decide)
      rw [← ey29] at ty29 ry29
      refine va_sld hx hb hX hbl hbA hH.2.2.2.1 (sc_in ty29 hi h6 (by decide)) dL_law_202 ?_
      refine lv_topi (fun y30 ey30 => ?_)
      refine ca_L_18 hx hb hml hown hts hH (c_X10_drop oI oR mx kx (by exact uq)) hl.1 mx kx rfl (by decide) (Nat.le_of_ble_eq_true rfl) ⟨by decide, by decide⟩ dL_law_203 (fun y31 I31 J31 R31 H locs hp hH => ?_)
      obtain ⟨⟨oI, -, sc31⟩, eJ31, eR31, ry31, hp31⟩ := hp
      obtain rfl : J = J31 := eJ31.symm
      obtain rfl : R = R31 := eR31.symm
      have sm : Sm C ms_L_law (I, J, R) (I31, J, R) := sm.tr sc31 rfl
      have xm : XM L C I31 := XM.sm (u := (I, J, R)) (v := (I31, J, R)) xm sc31 rfl rfl
      have xw : XW L C I31 := XW.sm (u := (I, J, R)) (v := (I31, J, R)) xw sc31 rfl rfl
      have fa0o := fa0
      have fa0 : I31 ru 6 = vv0 := (sc31 ru 6 (by rw [kru]; decide)).1.trans fa0
      have fb0o := fb0
      have fb0 : I31 mo 1 = vv0 := (sc31 mo 1 (by rw [km]; decide)).1.trans fb0
      have fa1o := fa1
      have fb1o := fb1
      have fb1 : I31 mi = vv1 := (funext fun k => (sc31 mi k (by rw [kmi]; exact nm_arr (by decide) rfl)).1).trans fb1
      have h31 := hp31 ru mru kru tj mtj ktj
      rw [fa0o, fa1o] at h31
      have ra31 := h31.1
      have fa1 : I31 tj = dropH vv0 vv1 y30 := h31.2
      refine lv_pop hx hb dL_law_206 rfl ?_
      refine lv_aload_n hx hb dL_law_207 rfl (lv_at hl 2 rfl) ?_
      refine lv_aload_n hx hb dL_law_208 rfl (lv_at hl 0 rfl) ?_
      refine lv_iload_n hx hb dL_law_209 rfl (lv_at hl 3 rfl) ?_
      refine lv_iconst (v := 1) hx hb dL_law_210 (by decide) ?_
      refine lv_iadd hx hb dL_law_211 ?_
      refine lv_topi (fun y32 ey32 => ?_)
      obtain rfl : y29 = y32 := ey29.trans ey32.symm
      refine va_sld hx hb hX hbl hbA hH.2.2.2.1 (sc_in ty29 hi h6 (by decide)) dL_law_212 ?_
      refine lv_topi (fun y33 ey33 => ?_)
      obtain rfl : y30 = y33 := ey30.trans ey33.symm
      refine ca_L_22 hx hb hml hown hts hH (c_X11_drop oI oR mm km (by exact uq)) hl.1 mm km rfl (by decide) (Nat.le_of_ble_eq_true rfl) ⟨by decide, by decide⟩ dL_law_213 (fun y34 I34 J34 R34 H locs hp hH => ?_)
      obtain ⟨⟨oI, -, sc34⟩, eJ34, eR34, ry34, hp34⟩ := hp
      obtain rfl : J = J34 := eJ34.symm
      obtain rfl : R = R34 := eR34.symm
      have sm : Sm C ms_L_law (I, J, R) (I34, J, R) := sm.tr sc34 rfl
      have xm : XM L C I34 := XM.sm (u := (I31, J, R)) (v := (I34, J, R)) xm sc34 rfl rfl
      have xw : XW L C I34 := XW.sm (u := (I31, J, R)) (v := (I34, J, R)) xw sc34 rfl rfl
      have fa0o := fa0
      have fa0 : I34 ru 6 = vv0 := (sc34 ru 6 (by rw [kru]; decide)).1.trans fa0
      have fb0o := fb0
      have fb0 : I34 mo 1 = vv0 := (sc34 mo 1 (by rw [km]; decide)).1.trans fb0
      have fa1o := fa1
      have fa1 : I34 tj = dropH vv0 vv1 y30 := (funext fun k => (sc34 tj k (by rw [ktj]; exact nm_arr (by decide) rfl)).1).trans fa1
      have fb1o := fb1
      have h34 := hp34 mi mmi kmi
      rw [fb0o, fb1o] at h34
      have rb34 := h34.1
      have fb1 : I34 mi = dropH vv0 vv1 y30 := h34.2
      refine lv_pop hx hb dL_law_216 rfl ?_
      refine lv_goto (tgt := 1244) hx hb dL_law_217 (by decide) ?_
      exact L_1244 h6 I34 J R _ _ _ hH oI oR xm xw (fa0.trans fb0.symm) (fa1.trans fb1.symm) (lv_sub hl [0, 1, 2, 3] rfl)
    · have r35 : Rg y4 (2) (2) := ⟨by rw [z5]; decide, by rw [z5]; decide⟩
      refine lv_tableIn (tgt := 220) hx hb dL_law_33 (by rw [z5]; decide) (by rw [z5]; decide) (by rw [z5]; rfl) (by decide) ?_
      refine lv_aload_n hx hb dL_law_220 rfl (lv_at hl 1 rfl) ?_
      refine lv_aload_n hx hb dL_law_221 rfl (lv_at hl 0 rfl) ?_
      refine lv_iload_n hx hb dL_law_222 rfl (lv_at hl 3 rfl) ?_
      refine lv_iconst (v := 1) hx hb dL_law_223 (by decide) ?_
      refine lv_iadd hx hb dL_law_224 ?_
      refine lv_topi (fun y36 ey36 => ?_)
      obtain ⟨ty36, ry36⟩ := Rg_addx (a' := (1)) (b' := (3073)) (rfl : x3.toInt = _) (by decide : Int32.toInt 1 = 1) r3 (Rg_c (x := 1) (a := (1)) (b := (1)) (by decide)) (by decide)
      rw [← ey36] at ty36 ry36
      refine va_sld hx hb hX hbl hbA hH.2.2.2.1 (sc_in ty36 hi h6 (by decide)) dL_law_225 ?_
      refine lv_topi (fun y37 ey37 => ?_)
      refine lv_aload_n hx hb dL_law_226 rfl (lv_at hl 0 rfl) ?_
      refine lv_iload_n hx hb dL_law_227 rfl (lv_at hl 3 rfl) ?_
      refine lv_iconst (v := 2) hx hb dL_law_228 (by decide) ?_
      refine lv_iadd hx hb dL_law_229 ?_
      refine lv_topi (fun y38 ey38 => ?_)
      obtain ⟨ty38, ry38⟩ := Rg_addx (a' := (2)) (b' := (3074)) (rfl : x3.toInt = _) (by decide : Int32.toInt 2 = 2) r3 (Rg_c (x := 2) (a := (2)) (b := (2)) (by decide)) (by decide)
      rw [← ey38] at ty38 ry38
      refine va_sld hx hb hX hbl hbA hH.2.2.2.1 (sc_in ty38 hi h6 (by decide)) dL_law_230 ?_
      refine lv_topi (fun y39 ey39 => ?_)
      refine lv_aload_n hx hb dL_law_231 rfl (lv_at hl 0 rfl) ?_
      refine lv_iload_n hx hb dL_law_232 rfl (lv_at hl 3 rfl) ?_
      refine lv_iconst (v := 3) hx hb dL_law_233 (by decide) ?_
      refine lv_iadd hx hb dL_law_234 ?_
      refine lv_topi (fun y40 ey40 => ?_)
      obtain ⟨ty40, ry40⟩ := Rg_addx (a' := (3)) (b' := (3075)) (rfl : x3.toInt = _) (by decide : Int32.toInt 3 = 3) r3 (Rg_c (x := 3) (a := (3)) (b := (3)) (by decide)) (by decide)
      rw [← ey40] at ty40 ry40
      refine va_sld hx hb hX hbl hbA hH.2.2.2.1 (sc_in ty40 hi h6 (by decide)) dL_law_235 ?_
      refine lv_topi (fun y41 ey41 => ?_)
      refine ca_L_23 hx hb hml hown hts hH (c_X10_turning oI oR mx kx) hl.1 mx kx rfl (by decide) (Nat.le_of_ble_eq_true rfl) ⟨by decide, by decide⟩ dL_law_236 (fun y42 I42 J42 R42 H locs hp hH => ?_)
      obtain ⟨eI42, eJ42, eR42⟩ := hp
      obtain rfl : I = I42 := eI42.symm
      obtain rfl : J = J42 := eJ42.symm
      obtain rfl : R = R42 := eR42.symm
      refine lv_pop hx hb dL_law_239 rfl ?_
      refine lv_aload_n hx hb dL_law_240 rfl (lv_at hl 2 rfl) ?_
      refine lv_aload_n hx hb dL_law_241 rfl (lv_at hl 0 rfl) ?_
      refine lv_iload_n hx hb dL_law_242 rfl (lv_at hl 3 rfl) ?_
      refine lv_iconst (v := 1) hx hb dL_law_243 (by decide) ?_
      refine lv_iadd hx hb dL_law_244 ?_
      refine lv_topi (fun y43 ey43 => ?_)
      obtain rfl : y36 = y43 := ey36.trans ey43.symm
      refine va_sld hx hb hX hbl hbA hH.2.2.2.1 (sc_in ty36 hi h6 (by decide)) dL_law_245 ?_
      refine lv_topi (fun y44 ey44 => ?_)
      obtain rfl : y37 = y44 := ey37.trans ey44.symm
      refine lv_aload_n hx hb dL_law_246 rfl (lv_at hl 0 rfl) ?_
      refine lv_iload_n hx hb dL_law_247 rfl (lv_at hl 3 rfl) ?_
      refine lv_iconst (v := 2) hx hb dL_law_248 (by decide) ?_
      refine lv_iadd hx hb dL_law_249 ?_
      refine lv_topi (fun y45 ey45 => ?_)
      obtain rfl : y38 = y45 := ey38.trans ey45.symm
      refine va_sld hx hb hX hbl hbA hH.2.2.2.1 (sc_in ty38 hi h6 (by decide)) dL_law_250 ?_
      refine lv_topi (fun y46 ey46 => ?_)
      obtain rfl : y39 = y46 := ey39.trans ey46.symm
      refine lv_aload_n hx hb dL_law_251 rfl (lv_at hl 0 rfl) ?_
      refine lv_iload_n hx hb dL_law_252 rfl (lv_at hl 3 rfl) ?_
      refine lv_iconst (v := 3) hx hb dL_law_253 (by decide) ?_
      refine lv_iadd hx hb dL_law_254 ?_
      refine lv_topi (fun y47 ey47 => ?_)
      obtain rfl : y40 = y47 := ey40.trans ey47.symm
      refine va_sld hx hb hX hbl hbA hH.2.2.2.1 (sc_in ty40 hi h6 (by decide)) dL_law_255 ?_
      refine lv_topi (fun y48 ey48 => ?_)
      obtain rfl : y41 = y48 := ey41.trans ey48.symm
      refine ca_L_27 hx hb hml hown hts hH (c_X11_turning oI oR mm km) hl.1 mm km rfl (by decide) (Nat.le_of_ble_eq_true rfl) ⟨by decide, by decide⟩ dL_law_256 (fun y49 I49 J49 R49 H locs hp hH => ?_)
      obtain ⟨⟨oI, -, sc49⟩, eJ49, eR49, ry49⟩ := hp
      obtain rfl : J = J49 := eJ49.symm
      obtain rfl : R = R49 := eR49.symm
      have sm : Sm C ms_L_law (I, J, R) (I49, J, R) := sm.tr sc49 rfl
      have xm : XM L C I49 := XM.sm (u := (I, J, R)) (v := (I49, J, R)) xm sc49 rfl rfl
      have xw : XW L C I49 := XW.sm (u := (I, J, R)) (v := (I49, J, R)) xw sc49 rfl rfl
      have fa0o := fa0
      have fa0 : I49 ru 6 = vv0 := (sc49 ru 6 (by rw [kru]; decide)).1.trans fa0
      have fb0o := fb0
      have fb0 : I49 mo 1 = vv0 := (sc49 mo 1 (by rw [km]; decide)).1.trans fb0
      have fa1o := fa1
      have fa1 : I49 tj = vv1 := (funext fun k => (sc49 tj k (by rw [ktj]; exact nm_arr (by decide) rfl)).1).trans fa1
      have fb1o := fb1
      have fb1 : I49 mi = vv1 := (funext fun k => (sc49 mi k (by rw [kmi]; exact nm_arr (by decide) rfl)).1).trans fb1
      refine lv_pop hx hb dL_law_259 rfl ?_
      refine lv_goto (tgt := 1244) hx hb dL_law_260 (by decide) ?_
      exact L_1244 h6 I49 J R _ _ _ hH oI oR xm xw (fa0.trans fb0.symm) (fa1.trans fb1.symm) (lv_sub hl [0, 1, 2, 3] rfl)
    · have r50 : Rg y4 (3) (3) := ⟨by rw [z5]; decide, by rw [z5]; decide⟩
      refine lv_tableIn (tgt := 263) hx hb dL_law_33 (by rw [z5]; decide) (by rw [z5]; decide) (by rw [z5]; rfl) (by decide) ?_
      refine lv_aload_n hx hb dL_law_263 rfl (lv_at hl 1 rfl) ?_
      refine lv_aload_n hx hb dL_law_264 rfl (lv_at hl 0 rfl) ?_
      refine lv_iload_n hx hb dL_law_265 rfl (lv_at hl 3 rfl) ?_
      refine lv_iconst (v := 1) hx hb dL_law_266 (by decide) ?_
      refine lv_iadd hx hb dL_law_267 ?_
      refine lv_topi (fun y51 ey51 => ?_)
      obtain ⟨ty51, ry51⟩ := Rg_addx (a' := (1)) (b' := (3073)) (rfl : x3.toInt = _) (by decide : Int32.toInt 1 = 1) r3 (Rg_c (x := 1) (a := (1)) (b := (1)) (by decide)) (by decide)
      rw [← ey51] at ty51 ry51
      refine va_sld hx hb hX hbl hbA hH.2.2.2.1 (sc_in ty51 hi h6 (by decide)) dL_law_268 ?_
      refine lv_topi (fun y52 ey52 => ?_)
      refine lv_aload_n hx hb dL_law_269 rfl (lv_at hl 0 rfl) ?_
      refine lv_iload_n hx hb dL_law_270 rfl (lv_at hl 3 rfl) ?_
      refine lv_iconst (v := 2) hx hb dL_law_271 (by decide) ?_
      refine lv_iadd hx hb dL_law_272 ?_
      refine lv_topi (fun y53 ey53 => ?_)
      obtain ⟨ty53, ry53⟩ := Rg_addx (a' := (2)) (b' := (3074)) (rfl : x3.toInt = _) (by decide : Int32.toInt 2 = 2) r3 (Rg_c (x := 2) (a := (2)) (b := (2)) (by decide)) (by decide)
      rw [← ey53] at ty53 ry53
      refine va_sld hx hb hX hbl hbA hH.2.2.2.1 (sc_in ty53 hi h6 (by decide)) dL_law_273 ?_
      refine lv_topi (fun y54 ey54 => ?_)
      refine lv_aload_n hx hb dL_law_274 rfl (lv_at hl 0 rfl) ?_
      refine lv_iload_n hx hb dL_law_275 rfl (lv_at hl 3 rfl) ?_
      refine lv_iconst (v := 3) hx hb dL_law_276 (by decide) ?_
      refine lv_iadd hx hb dL_law_277 ?_
      refine lv_topi (fun y55 ey55 => ?_)
      obtain ⟨ty55, ry55⟩ := Rg_addx (a' := (3)) (b' := (3075)) (rfl : x3.toInt = _) (by decide : Int32.toInt 3 = 3) r3 (Rg_c (x := 3) (a := (3)) (b := (3)) (by decide)) (by decide)
      rw [← ey55] at ty55 ry55
      refine va_sld hx hb hX hbl hbA hH.2.2.2.1 (sc_in ty55 hi h6 (by decide)) dL_law_278 ?_
      refine lv_topi (fun y56 ey56 => ?_)
      refine lv_i2l (v := y56.toInt64) hx hb dL_law_279 rfl ?_
      refine lv_bipush (v := 32) hx hb dL_law_280 (by decide) ?_
      refine lv_lshl hx hb dL_law_282 rfl ?_
      refine lv_topl (fun w57 ew57 => ?_)
      refine lv_aload_n hx hb dL_law_283 rfl (lv_at hl 0 rfl) ?_
      refine lv_iload_n hx hb dL_law_284 rfl (lv_at hl 3 rfl) ?_
      refine lv_iconst (v := 4) hx hb dL_law_285 (by decide) ?_
      refine lv_iadd hx hb dL_law_286 ?_
      refine lv_topi (fun y58 ey58 => ?_)
      obtain ⟨ty58, ry58⟩ := Rg_addx (a' := (4)) (b' := (3076)) (rfl : x3.toInt = _) (by decide : Int32.toInt 4 = 4) r3 (Rg_c (x := 4) (a := (4)) (b := (4)) (by decide)) (by decide)
      rw [← ey58] at ty58 ry58
      refine va_sld hx hb hX hbl hbA hH.2.2.2.1 (sc_in ty58 hi h6 (by decide)) dL_law_287 ?_
      refine lv_topi (fun y59 ey59 => ?_)
      refine lv_i2l (v := y59.toInt64) hx hb dL_law_288 rfl ?_
      refine lv_ldc2 (v := 4294967295) hx hb hown (hts _ kkl_L_28) dL_law_289 ?_
      refine lv_land hx hb dL_law_292 ?_
      refine lv_topl (fun w60 ew60 => ?_)
      refine lv_lor hx hb dL_law_293 ?_
      refine lv_topl (fun w61 ew61 => ?_)
      refine ca_L_30 hx hb hml hown hts hH (c_X10_turn oI oR mx kx) hl.1 mx kx rfl (by decide) (Nat.le_of_ble_eq_true rfl) ⟨by decide, by decide⟩ dL_law_294 (fun y62 I62 J62 R62 H locs hp hH => ?_)
      obtain ⟨⟨oI, -, sc62⟩, eR62, ry62⟩ := hp
      obtain rfl : R = R62 := eR62.symm
      have sm : Sm C ms_L_law (I, J, R) (I62, J62, R) := sm.tr sc62 rfl
      have xm : XM L C I62 := XM.sm (u := (I, J, R)) (v := (I62, J62, R)) xm sc62 rfl rfl
      have xw : XW L C I62 := XW.sm (u := (I, J, R)) (v := (I62, J62, R)) xw sc62 rfl rfl
      have fa0o := fa0
      have fa0 : I62 ru 6 = vv0 := (sc62 ru 6 (by rw [kru]; decide)).1.trans fa0
      have fb0o := fb0
      have fb0 : I62 mo 1 = vv0 := (sc62 mo 1 (by rw [km]; decide)).1.trans fb0
      have fa1o := fa1
      have fa1 : I62 tj = vv1 := (funext fun k => (sc62 tj k (by rw [ktj]; exact nm_arr (by decide) rfl)).1).trans fa1
      have fb1o := fb1
      have fb1 : I62 mi = vv1 := (funext fun k => (sc62 mi k (by rw [kmi]; exact nm_arr (by decide) rfl)).1).trans fb1
      refine lv_pop hx hb dL_law_297 rfl ?_
      refine lv_aload_n hx hb dL_law_298 rfl (lv_at hl 2 rfl) ?_
      refine lv_aload_n hx hb dL_law_299 rfl (lv_at hl 0 rfl) ?_
      refine lv_iload_n hx hb dL_law_300 rfl (lv_at hl 3 rfl) ?_
      refine lv_iconst (v := 1) hx hb dL_law_301 (by decide) ?_
      refine lv_iadd hx hb dL_law_302 ?_
      refine lv_topi (fun y63 ey63 => ?_)
      obtain rfl : y51 = y63 := ey51.trans ey63.symm
      refine va_sld hx hb hX hbl hbA hH.2.2.2.1 (sc_in ty51 hi h6 (by decide)) dL_law_303 ?_
      refine lv_topi (fun y64 ey64 => ?_)
      obtain rfl : y52 = y64 := ey52.trans ey64.symm
      refine lv_aload_n hx hb dL_law_304 rfl (lv_at hl 0 rfl) ?_
      refine lv_iload_n hx hb dL_law_305 rfl (lv_at hl 3 rfl) ?_
      refine lv_iconst (v := 2) hx hb dL_law_306 (by decide) ?_
      refine lv_iadd hx hb dL_law_307 ?_
      refine lv_topi (fun y65 ey65 => ?_)
      obtain rfl : y53 = y65 := ey53.trans ey65.symm
      refine va_sld hx hb hX hbl hbA hH.2.2.2.1 (sc_in ty53 hi h6 (by decide)) dL_law_308 ?_
      refine lv_topi (fun y66 ey66 => ?_)
      obtain rfl : y54 = y66 := ey54.trans ey66.symm
      refine lv_aload_n hx hb dL_law_309 rfl (lv_at hl 0 rfl) ?_
      refine lv_iload_n hx hb dL_law_310 rfl (lv_at hl 3 rfl) ?_
      refine lv_iconst (v := 3) hx hb dL_law_311 (by decide) ?_
      refine lv_iadd hx hb dL_law_312 ?_
      refine lv_topi (fun y67 ey67 => ?_)
      obtain rfl : y55 = y67 := ey55.trans ey67.symm
      refine va_sld hx hb hX hbl hbA hH.2.2.2.1 (sc_in ty55 hi h6 (by decide)) dL_law_313 ?_
      refine lv_topi (fun y68 ey68 => ?_)
      obtain rfl : y56 = y68 := ey56.trans ey68.symm
      refine lv_i2l (v := y56.toInt64) hx hb dL_law_314 rfl ?_
      refine lv_bipush (v := 32) hx hb dL_law_315 (by decide) ?_
      refine lv_lshl hx hb dL_law_317 rfl ?_
      refine lv_topl (fun w69 ew69 => ?_)
      refine lv_aload_n hx hb dL_law_318 rfl (lv_at hl 0 rfl) ?_
      refine lv_iload_n hx hb dL_law_319 rfl (lv_at hl 3 rfl) ?_
      refine lv_iconst (v := 4) hx hb dL_law_320 (by decide) ?_
      refine lv_iadd hx hb dL_law_321 ?_
      refine lv_topi (fun y70 ey70 => ?_)
      obtain rfl : y58 = y70 := ey58.trans ey70.symm
      refine va_sld hx hb hX hbl hbA hH.2.2.2.1 (sc_in ty58 hi h6 (by decide)) dL_law_322 ?_
      refine lv_topi (fun y71 ey71 => ?_)
      obtain rfl : y59 = y71 := ey59.trans ey71.symm
      refine lv_i2l (v := y59.toInt64) hx hb dL_law_323 rfl ?_
      refine lv_ldc2 (v := 4294967295) hx hb hown (hts _ kkl_L_28) dL_law_324 ?_
      refine lv_land hx hb dL_law_327 ?_
      refine lv_topl (fun w72 ew72 => ?_)
      refine lv_lor hx hb dL_law_328 ?_
      refine lv_topl (fun w73 ew73 => ?_)
      refine ca_L_34 hx hb hml hown hts hH (c_X11_turn oI oR mm km) hl.1 mm km rfl (by decide) (Nat.le_of_ble_eq_true rfl) ⟨by decide, by decide⟩ dL_law_329 (fun y74 I74 J74 R74 H locs hp hH => ?_)
      obtain ⟨⟨oI, -, sc74⟩, eR74, ry74⟩ := hp
      obtain rfl : R = R74 := eR74.symm
      have sm : Sm C ms_L_law (I, J, R) (I74, J74, R) := sm.tr sc74 rfl
      have xm : XM L C I74 := XM.sm (u := (I62, J62, R)) (v := (I74, J74, R)) xm sc74 rfl rfl
      have xw : XW L C I74 := XW.sm (u := (I62, J62, R)) (v := (I74, J74, R)) xw sc74 rfl rfl
      have fa0o := fa0
      have fa0 : I74 ru 6 = vv0 := (sc74 ru 6 (by rw [kru]; decide)).1.trans fa0
      have fb0o := fb0
      have fb0 : I74 mo 1 = vv0 := (sc74 mo 1 (by rw [km]; decide)).1.trans fb0
      have fa1o := fa1
      have fa1 : I74 tj = vv1 := (funext fun k => (sc74 tj k (by rw [ktj]; exact nm_arr (by decide) rfl)).1).trans fa1
      have fb1o := fb1
      have fb1 : I74 mi = vv1 := (funext fun k => (sc74 mi k (by rw [kmi]; exact nm_arr (by decide) rfl)).1).trans fb1
      refine lv_pop hx hb dL_law_332 rfl ?_
      refine lv_goto (tgt := 1244) hx hb dL_law_333 (by decide) ?_
      exact L_1244 h6 I74 J74 R _ _ _ hH oI oR xm xw (fa0.trans fb0.symm) (fa1.trans fb1.symm) (lv_sub hl [0, 1, 2, 3] rfl)
    · have r75 : Rg y4 (4) (4) := ⟨by rw [z5]; decide, by rw [z5]; decide⟩
      refine lv_tableIn (tgt := 336) hx hb dL_law_33 (by rw [z5]; decide) (by rw [z5]; decide) (by rw [z5]; rfl) (by decide) ?_
      refine lv_aload_n hx hb dL_law_336 rfl (lv_at hl 1 rfl) ?_
      refine lv_aload_n hx hb dL_law_337 rfl (lv_at hl 0 rfl) ?_
      refine lv_iload_n hx hb dL_law_338 rfl (lv_at hl 3 rfl) ?_
      refine lv_iconst (v := 1) hx hb dL_law_339 (by decide) ?_
      refine lv_iadd hx hb dL_law_340 ?_
      refine lv_topi (fun y76 ey76 => ?_)
      obtain ⟨ty76, ry76⟩ := Rg_addx (a' := (1)) (b' := (3073)) (rfl : x3.toInt = _) (by decide : Int32.toInt 1 = 1) r3 (Rg_c (x := 1) (a := (1)) (b := (1)) (by decide)) (by decide)
      rw [← ey76] at ty76 ry76
      refine va_sld hx hb hX hbl hbA hH.2.2.2.1 (sc_in ty76 hi h6 (by decide)) dL_law_341 ?_
      refine lv_topi (fun y77 ey77 => ?_)
      refine lv_aload_n hx hb dL_law_342 rfl (lv_at hl 0 rfl) ?_
      refine lv_iload_n hx hb dL_law_343 rfl (lv_at hl 3 rfl) ?_
      refine lv_iconst (v := 2) hx hb dL_law_344 (by decide) ?_
      refine lv_iadd hx hb dL_law_345 ?_
      refine lv_topi (fun y78 ey78 => ?_)
      obtain ⟨ty78, ry78⟩ := Rg_addx (a' := (2)) (b' := (3074)) (rfl : x3.toInt = _) (by decide : Int32.toInt 2 = 2) r3 (Rg_c (x := 2) (a := (2)) (b := (2)) (by decide)) (by decide)
      rw [← ey78] at ty78 ry78
      refine va_sld hx hb hX hbl hbA hH.2.2.2.1 (sc_in ty78 hi h6 (by decide)) dL_law_346 ?_
      refine lv_topi (fun y79 ey79 => ?_)
      refine lv_aload_n hx hb dL_law_347 rfl (lv_at hl 0 rfl) ?_
      refine lv_iload_n hx hb dL_law_348 rfl (lv_at hl 3 rfl) ?_
      refine lv_iconst (v := 3) hx hb dL_law_349 (by decide) ?_
      refine lv_iadd hx hb dL_law_350 ?_
      refine lv_topi (fun y80 ey80 => ?_)
      obtain ⟨ty80, ry80⟩ := Rg_addx (a' := (3)) (b' := (3075)) (rfl : x3.toInt = _) (by decide : Int32.toInt 3 = 3) r3 (Rg_c (x := 3) (a := (3)) (b := (3)) (by decide)) (by decide)
      rw [← ey80] at ty80 ry80
      refine va_sld hx hb hX hbl hbA hH.2.2.2.1 (sc_in ty80 hi h6 (by decide)) dL_law_351 ?_
      refine lv_topi (fun y81 ey81 => ?_)
      refine ca_L_35 hx hb hml hown hts hH (c_X10_ask oI oR mx kx (by exact xm)) hl.1 mx kx rfl (by decide) (Nat.le_of_ble_eq_true rfl) ⟨by decide, by decide⟩ dL_law_352 (fun y82 I82 J82 R82 H locs hp hH => ?_)
      obtain ⟨⟨oI, -, sc82⟩, eJ82, eR82, ry82, hp82⟩ := hp
      obtain rfl : J = J82 := eJ82.symm
      obtain rfl : R = R82 := eR82.symm
      have sm : Sm C ms_L_law (I, J, R) (I82, J, R) := sm.tr sc82 rfl
      have xm : XM L C I82 := hp82
      have xw : XW L C I82 := XW.sm (u := (I, J, R)) (v := (I82, J, R)) xw sc82 rfl rfl
      have fa0o := fa0
      have fa0 : I82 ru 6 = vv0 := (sc82 ru 6 (by rw [kru]; decide)).1.trans fa0
      have fb0o := fb0
      have fb0 : I82 mo 1 = vv0 := (sc82 mo 1 (by rw [km]; decide)).1.trans fb0
      have fa1o := fa1
      have fa1 : I82 tj = vv1 := (funext fun k => (sc82 tj k (by rw [ktj]; exact nm_arr (by decide) rfl)).1).trans fa1
      have fb1o := fb1
      have fb1 : I82 mi = vv1 := (funext fun k => (sc82 mi k (by rw [kmi]; exact nm_arr (by decide) rfl)).1).trans fb1
      refine lv_pop hx hb dL_law_355 rfl ?_
      refine lv_aload_n hx hb dL_law_356 rfl (lv_at hl 2 rfl) ?_
      refine lv_aload_n hx hb dL_law_357 rfl (lv_at hl 0 rfl) ?_
      refine lv_iload_n hx hb dL_law_358 rfl (lv_at hl 3 rfl) ?_
      refine lv_iconst (v := 1) hx hb dL_law_359 (by decide) ?_
      refine lv_iadd hx hb dL_law_360 ?_
      refine lv_topi (fun y83 ey83 => ?_)
      obtain rfl : y76 = y83 := ey76.trans ey83.symm
      refine va_sld hx hb hX hbl hbA hH.2.2.2.1 (sc_in ty76 hi h6 (by decide)) dL_law_361 ?_
      refine lv_topi (fun y84 ey84 => ?_)
      obtain rfl : y77 = y84 := ey77.trans ey84.symm
      refine lv_aload_n hx hb dL_law_362 rfl (lv_at hl 0 rfl) ?_
      refine lv_iload_n hx hb dL_law_363 rfl (lv_at hl 3 rfl) ?_
      refine lv_iconst (v := 2) hx hb dL_law_364 (by decide) ?_
      refine lv_iadd hx hb dL_law_365 ?_
      refine lv_topi (fun y85 ey85 => ?_)
      obtain rfl : y78 = y85 := ey78.trans ey85.symm
      refine va_sld hx hb hX hbl hbA hH.2.2.2.1 (sc_in ty78 hi h6 (by decide)) dL_law_366 ?_
      refine lv_topi (fun y86 ey86 => ?_)
      obtain rfl : y79 = y86 := ey79.trans ey86.symm
      refine lv_aload_n hx hb dL_law_367 rfl (lv_at hl 0 rfl) ?_
      refine lv_iload_n hx hb dL_law_368 rfl (lv_at hl 3 rfl) ?_
      refine lv_iconst (v := 3) hx hb dL_law_369 (by decide) ?_
      refine lv_iadd hx hb dL_law_370 ?_
      refine lv_topi (fun y87 ey87 => ?_)
      obtain rfl : y80 = y87 := ey80.trans ey87.symm
      refine va_sld hx hb hX hbl hbA hH.2.2.2.1 (sc_in ty80 hi h6 (by decide)) dL_law_371 ?_
      refine lv_topi (fun y88 ey88 => ?_)
      obtain rfl : y81 = y88 := ey81.trans ey88.symm
      refine ca_L_38 hx hb hml hown hts hH (c_X11_ask oI oR mm km (by exact xw) (by exact uq)) hl.1 mm km rfl (by decide) (Nat.le_of_ble_eq_true rfl) ⟨by decide, by decide⟩ dL_law_372 (fun y89 I89 J89 R89 H locs hp hH => ?_)
      obtain ⟨⟨oI, -, sc89⟩, eJ89, eR89, ry89, hp89⟩ := hp
      obtain rfl : J = J89 := eJ89.symm
      obtain rfl : R = R89 := eR89.symm
      have sm : Sm C ms_L_law (I, J, R) (I89, J, R) := sm.tr sc89 rfl
      have xm : XM L C I89 := XM.sm (u := (I82, J, R)) (v := (I89, J, R)) xm sc89 rfl rfl
      have xw : XW L C I89 := hp89
      have fa0o := fa0
      have fa0 : I89 ru 6 = vv0 := (sc89 ru 6 (by rw [kru]; decide)).1.trans fa0
      have fb0o := fb0
      have fb0 : I89 mo 1 = vv0 := (sc89 mo 1 (by rw [km]; decide)).1.trans fb0
      have fa1o := fa1
      have fa1 : I89 tj = vv1 := (funext fun k => (sc89 tj k (by rw [ktj]; exact nm_arr (by decide) rfl)).1).trans fa1
      have fb1o := fb1
      have fb1 : I89 mi = vv1 := (funext fun k => (sc89 mi k (by rw [kmi]; exact nm_arr (by decide) rfl)).1).trans fb1
      refine lv_pop hx hb dL_law_375 rfl ?_
      refine lv_goto (tgt := 1244) hx hb dL_law_376 (by decide) ?_
      exact L_1244 h6 I89 J R _ _ _ hH oI oR xm xw (fa0.trans fb0.symm) (fa1.trans fb1.symm) (lv_sub hl [0, 1, 2, 3] rfl)
    · have r90 : Rg y4 (5) (5) := ⟨by rw [z5]; decide, by rw [z5]; decide⟩
      refine lv_tableIn (tgt := 379) hx hb dL_law_33 (by rw [z5]; decide) (by rw [z5]; decide) (by rw [z5]; rfl) (by decide) ?_
      refine lv_aload_n hx hb dL_law_379 rfl (lv_at hl 1 rfl) ?_
      refine lv_aload_n hx hb dL_law_380 rfl (lv_at hl 0 rfl) ?_
      refine lv_iload_n hx hb dL_law_381 rfl (lv_at hl 3 rfl) ?_
      refine lv_iconst (v := 1) hx hb dL_law_382 (by decide) ?_
      refine lv_iadd hx hb dL_law_383 ?_
      refine lv_topi (fun y91 ey91 => ?_)
      obtain ⟨ty91, ry91⟩ := Rg_addx (a' := (1)) (b' := (3073)) (rfl : x3.toInt = _) (by decide : Int32.toInt 1 = 1) r3 (Rg_c (x := 1) (a := (1)) (b := (1)) (by decide)) (by decide)
      rw [← ey91] at ty91 ry91
      refine va_sld hx hb hX hbl hbA hH.2.2.2.1 (sc_in ty91 hi h6 (by decide)) dL_law_384 ?_
      refine lv_topi (fun y92 ey92 => ?_)
      refine lv_aload_n hx hb dL_law_385 rfl (lv_at hl 0 rfl) ?_
      refine lv_iload_n hx hb dL_law_386 rfl (lv_at hl 3 rfl) ?_
      refine lv_iconst (v := 2) hx hb dL_law_387 (by decide) ?_
      refine lv_iadd hx hb dL_law_388 ?_
      refine lv_topi (fun y93 ey93 => ?_)
      obtain ⟨ty93, ry93⟩ := Rg_addx (a' := (2)) (b' := (3074)) (rfl : x3.toInt = _) (by decide : Int32.toInt 2 = 2) r3 (Rg_c (x := 2) (a := (2)) (b := (2)) (by decide)) (by decide)
      rw [← ey93] at ty93 ry93
      refine va_sld hx hb hX hbl hbA hH.2.2.2.1 (sc_in ty93 hi h6 (by decide)) dL_law_389 ?_
      refine lv_topi (fun y94 ey94 => ?_)
      refine lv_aload_n hx hb dL_law_390 rfl (lv_at hl 0 rfl) ?_
      refine lv_iload_n hx hb dL_law_391 rfl (lv_at hl 3 rfl) ?_
      refine lv_iconst (v := 3) hx hb dL_law_392 (by decide) ?_
      refine lv_iadd hx hb dL_law_393 ?_
      refine lv_topi (fun y95 ey95 => ?_)
      obtain ⟨ty95, ry95⟩ := Rg_addx (a' := (3)) (b' := (3075)) (rfl : x3.toInt = _) (by decide : Int32.toInt 3 = 3) r3 (Rg_c (x := 3) (a := (3)) (b := (3)) (by decide)) (by decide)
      rw [← ey95] at ty95 ry95
      refine va_sld hx hb hX hbl hbA hH.2.2.2.1 (sc_in ty95 hi h6 (by decide)) dL_law_394 ?_
      refine lv_topi (fun y96 ey96 => ?_)
      refine ca_L_39 hx hb hml hown hts hH (c_X10_offer oI oR mx kx (by exact xm)) hl.1 mx kx rfl (by decide) (Nat.le_of_ble_eq_true rfl) ⟨by decide, by decide⟩ dL_law_395 (fun y97 I97 J97 R97 H locs hp hH => ?_)
      obtain ⟨⟨oI, -, sc97⟩, eJ97, eR97, ry97, hp97⟩ := hp
      obtain rfl : J = J97 := eJ97.symm
      obtain rfl : R = R97 := eR97.symm
      have sm : Sm C ms_L_law (I, J, R) (I97, J, R) := sm.tr sc97 rfl
      have xm : XM L C I97 := hp97
      have xw : XW L C I97 := XW.sm (u := (I, J, R)) (v := (I97, J, R)) xw sc97 rfl rfl
      have fa0o := fa0
      have fa0 : I97 ru 6 = vv0 := (sc97 ru 6 (by rw [kru]; decide)).1.trans fa0
      have fb0o := fb0
      have fb0 : I97 mo 1 = vv0 := (sc97 mo 1 (by rw [km]; decide)).1.trans fb0
      have fa1o := fa1
      have fa1 : I97 tj = vv1 := (funext fun k => (sc97 tj k (by rw [ktj]; exact nm_arr (by decide) rfl)).1).trans fa1
      have fb1o := fb1
      have fb1 : I97 mi = vv1 := (funext fun k => (sc97 mi k (by rw [kmi]; exact nm_arr (by decide) rfl)).1).trans fb1
      refine lv_pop hx hb dL_law_398 rfl ?_
      refine lv_aload_n hx hb dL_law_399 rfl (lv_at hl 2 rfl) ?_
      refine lv_aload_n hx hb dL_law_400 rfl (lv_at hl 0 rfl) ?_
      refine lv_iload_n hx hb dL_law_401 rfl (lv_at hl 3 rfl) ?_
      refine lv_iconst (v := 1) hx hb dL_law_402 (by decide) ?_
      refine lv_iadd hx hb dL_law_403 ?_
      refine lv_topi (fun y98 ey98 => ?_)
      obtain rfl : y91 = y98 := ey91.trans ey98.symm
      refine va_sld hx hb hX hbl hbA hH.2.2.2.1 (sc_in ty91 hi h6 (by decide)) dL_law_404 ?_
      refine lv_topi (fun y99 ey99 => ?_)
      obtain rfl : y92 = y99 := ey92.trans ey99.symm
      refine lv_aload_n hx hb dL_law_405 rfl (lv_at hl 0 rfl) ?_
      refine lv_iload_n hx hb dL_law_406 rfl (lv_at hl 3 rfl) ?_
      refine lv_iconst (v := 2) hx hb dL_law_407 (by decide) ?_
      refine lv_iadd hx hb dL_law_408 ?_
      refine lv_topi (fun y100 ey100 => ?_)
      obtain rfl : y93 = y100 := ey93.trans ey100.symm
      refine va_sld hx hb hX hbl hbA hH.2.2.2.1 (sc_in ty93 hi h6 (by decide)) dL_law_409 ?_
      refine lv_topi (fun y101 ey101 => ?_)
      obtain rfl : y94 = y101 := ey94.trans ey101.symm
      refine lv_aload_n hx hb dL_law_410 rfl (lv_at hl 0 rfl) ?_
      refine lv_iload_n hx hb dL_law_411 rfl (lv_at hl 3 rfl) ?_
      refine lv_iconst (v := 3) hx hb dL_law_412 (by decide) ?_
      refine lv_iadd hx hb dL_law_413 ?_
      refine lv_topi (fun y102 ey102 => ?_)
      obtain rfl : y95 = y102 := ey95.trans ey102.symm
      refine va_sld hx hb hX hbl hbA hH.2.2.2.1 (sc_in ty95 hi h6 (by decide)) dL_law_414 ?_
      refine lv_topi (fun y103 ey103 => ?_)
      obtain rfl : y96 = y103 := ey96.trans ey103.symm
      refine ca_L_42 hx hb hml hown hts hH (c_X11_offer oI oR mm km (by exact xw) (by exact uq)) hl.1 mm km rfl (by decide) (Nat.le_of_ble_eq_true rfl) ⟨by decide, by decide⟩ dL_law_415 (fun y104 I104 J104 R104 H locs hp hH => ?_)
      obtain ⟨⟨oI, -, sc104⟩, eJ104, eR104, ry104, hp104⟩ := hp
      obtain rfl : J = J104 := eJ104.symm
      obtain rfl : R = R104 := eR104.symm
      have sm : Sm C ms_L_law (I, J, R) (I104, J, R) := sm.tr sc104 rfl
      have xm : XM L C I104 := XM.sm (u := (I97, J, R)) (v := (I104, J, R)) xm sc104 rfl rfl
      have xw : XW L C I104 := hp104
      have fa0o := fa0
      have fa0 : I104 ru 6 = vv0 := (sc104 ru 6 (by rw [kru]; decide)).1.trans fa0
      have fb0o := fb0
      have fb0 : I104 mo 1 = vv0 := (sc104 mo 1 (by rw [km]; decide)).1.trans fb0
      have fa1o := fa1
      have fa1 : I104 tj = vv1 := (funext fun k => (sc104 tj k (by rw [ktj]; exact nm_arr (by decide) rfl)).1).trans fa1
      have fb1o := fb1
      have fb1 : I104 mi = vv1 := (funext fun k => (sc104 mi k (by rw [kmi]; exact nm_arr (by decide) rfl)).1).trans fb1
      refine lv_pop hx hb dL_law_418 rfl ?_
      refine lv_goto (tgt := 1244) hx hb dL_law_419 (by decide) ?_
      exact L_1244 h6 I104 J R _ _ _ hH oI oR xm xw (fa0.trans fb0.symm) (fa1.trans fb1.symm) (lv_sub hl [0, 1, 2, 3] rfl)
    · have r105 : Rg y4 (6) (6) := ⟨by rw [z5]; decide, by rw [z5]; decide⟩
      refine lv_tableIn (tgt := 422) hx hb dL_law_33 (by rw [z5]; decide) (by rw [z5]; decide) (by rw [z5]; rfl) (by decide) ?_
      refine lv_aload_n hx hb dL_law_422 rfl (lv_at hl 1 rfl) ?_
      refine lv_aload_n hx hb dL_law_423 rfl (lv_at hl 0 rfl) ?_
      refine lv_iload_n hx hb dL_law_424 rfl (lv_at hl 3 rfl) ?_
      refine lv_iconst (v := 1) hx hb dL_law_425 (by decide) ?_
      refine lv_iadd hx hb dL_law_426 ?_
      refine lv_topi (fun y106 ey106 => ?_)
      obtain ⟨ty106, ry106⟩ := Rg_addx (a' := (1)) (b' := (3073)) (rfl : x3.toInt = _) (by decide : Int32.toInt 1 = 1) r3 (Rg_c (x := 1) (a := (1)) (b := (1)) (by decide)) (by decide)
      rw [← ey106] at ty106 ry106
      refine va_sld hx hb hX hbl hbA hH.2.2.2.1 (sc_in ty106 hi h6 (by decide)) dL_law_427 ?_
      refine lv_topi (fun y107 ey107 => ?_)
      refine lv_aload_n hx hb dL_law_428 rfl (lv_at hl 0 rfl) ?_
      refine lv_iload_n hx hb dL_law_429 rfl (lv_at hl 3 rfl) ?_
      refine lv_iconst (v := 2) hx hb dL_law_430 (by decide) ?_
      refine lv_iadd hx hb dL_law_431 ?_
      refine lv_topi (fun y108 ey108 => ?_)
      obtain ⟨ty108, ry108⟩ := Rg_addx (a' := (2)) (b' := (3074)) (rfl : x3.toInt = _) (by decide : Int32.toInt 2 = 2) r3 (Rg_c (x := 2) (a := (2)) (b := (2)) (by decide)) (by decide)
      rw [← ey108] at ty108 ry108
      refine va_sld hx hb hX hbl hbA hH.2.2.2.1 (sc_in ty108 hi h6 (by decide)) dL_law_432 ?_
      refine lv_topi (fun y109 ey109 => ?_)
      refine lv_aload_n hx hb dL_law_433 rfl (lv_at hl 0 rfl) ?_
      refine lv_iload_n hx hb dL_law_434 rfl (lv_at hl 3 rfl) ?_
      refine lv_iconst (v := 3) hx hb dL_law_435 (by decide) ?_
      refine lv_iadd hx hb dL_law_436 ?_
      refine lv_topi (fun y110 ey110 => ?_)
      obtain ⟨ty110, ry110⟩ := Rg_addx (a' := (3)) (b' := (3075)) (rfl : x3.toInt = _) (by decide : Int32.toInt 3 = 3) r3 (Rg_c (x := 3) (a := (3)) (b := (3)) (by decide)) (by decide)
      rw [← ey110] at ty110 ry110
      refine va_sld hx hb hX hbl hbA hH.2.2.2.1 (sc_in ty110 hi h6 (by decide)) dL_law_437 ?_
      refine lv_topi (fun y111 ey111 => ?_)
      refine lv_aload_n hx hb dL_law_438 rfl (lv_at hl 0 rfl) ?_
      refine lv_iload_n hx hb dL_law_439 rfl (lv_at hl 3 rfl) ?_
      refine lv_iconst (v := 4) hx hb dL_law_440 (by decide) ?_
      refine lv_iadd hx hb dL_law_441 ?_
      refine lv_topi (fun y112 ey112 => ?_)
      obtain ⟨ty112, ry112⟩ := Rg_addx (a' := (4)) (b' := (3076)) (rfl : x3.toInt = _) (by decide : Int32.toInt 4 = 4) r3 (Rg_c (x := 4) (a := (4)) (b := (4)) (by decide)) (by decide)
      rw [← ey112] at ty112 ry112
      refine va_sld hx hb hX hbl hbA hH.2.2.2.1 (sc_in ty112 hi h6 (by decide)) dL_law_442 ?_
      refine lv_topi (fun y113 ey113 => ?_)
      refine lv_aload_n hx hb dL_law_443 rfl (lv_at hl 0 rfl) ?_
      refine lv_iload_n hx hb dL_law_444 rfl (lv_at hl 3 rfl) ?_
      refine lv_iconst (v := 5) hx hb dL_law_445 (by decide) ?_
      refine lv_iadd hx hb dL_law_446 ?_
      refine lv_topi (fun y114 ey114 => ?_)
      obtain ⟨ty114, ry114⟩ := Rg_addx (a' := (5)) (b' := (3077)) (rfl : x3.toInt = _) (by decide : Int32.toInt 5 = 5) r3 (Rg_c (x := 5) (a := (5)) (b := (5)) (by decide)) (by decide)
      rw [← ey114] at ty114 ry114
      refine va_sld hx hb hX hbl hbA hH.2.2.2.1 (sc_in ty114 hi h6 (by decide)) dL_law_447 ?_
      refine lv_topi (fun y115 ey115 => ?_)
      refine ca_L_43 hx hb hml hown hts hH (c_X10_work oI oR mx kx (by exact xm)) hl.1 mx kx rfl (by decide) (Nat.le_of_ble_eq_true rfl) ⟨by decide, by decide⟩ dL_law_448 (fun y116 I116 J116 R116 H locs hp hH => ?_)
      obtain ⟨⟨oI, -, sc116⟩, eJ116, eR116, ry116, hp116⟩ := hp
      obtain rfl : J = J116 := eJ116.symm
      obtain rfl : R = R116 := eR116.symm
      have sm : Sm C ms_L_law (I, J, R) (I116, J, R) := sm.tr sc116 rfl
      have xm : XM L C I116 := hp116
      have xw : XW L C I116 := XW.sm (u := (I, J, R)) (v := (I116, J, R)) xw sc116 rfl rfl
      have fa0o := fa0
      have fa0 : I116 ru 6 = vv0 := (sc116 ru 6 (by rw [kru]; decide)).1.trans fa0
      have fb0o := fb0
      have fb0 : I116 mo 1 = vv0 := (sc116 mo 1 (by rw [km]; decide)).1.trans fb0
      have fa1o := fa1
      have fa1 : I116 tj = vv1 := (funext fun k => (sc116 tj k (by rw [ktj]; exact nm_arr (by decide) rfl)).1).trans fa1
      have fb1o := fb1
      have fb1 : I116 mi = vv1 := (funext fun k => (sc116 mi k (by rw [kmi]; exact nm_arr (by decide) rfl)).1).trans fb1
      refine lv_pop hx hb dL_law_451 rfl ?_
      refine lv_aload_n hx hb dL_law_452 rfl (lv_at hl 2 rfl) ?_
      refine lv_aload_n hx hb dL_law_453 rfl (lv_at hl 0 rfl) ?_
      refine lv_iload_n hx hb dL_law_454 rfl (lv_at hl 3 rfl) ?_
      refine lv_iconst (v := 1) hx hb dL_law_455 (by decide) ?_
      refine lv_iadd hx hb dL_law_456 ?_
      refine lv_topi (fun y117 ey117 => ?_)
      obtain rfl : y106 = y117 := ey106.trans ey117.symm
      refine va_sld hx hb hX hbl hbA hH.2.2.2.1 (sc_in ty106 hi h6 (by decide)) dL_law_457 ?_
      refine lv_topi (fun y118 ey118 => ?_)
      obtain rfl : y107 = y118 := ey107.trans ey118.symm
      refine lv_aload_n hx hb dL_law_458 rfl (lv_at hl 0 rfl) ?_
      refine lv_iload_n hx hb dL_law_459 rfl (lv_at hl 3 rfl) ?_
      refine lv_iconst (v := 2) hx hb dL_law_460 (by decide) ?_
      refine lv_iadd hx hb dL_law_461 ?_
      refine lv_topi (fun y119 ey119 => ?_)
      obtain rfl : y108 = y119 := ey108.trans ey119.symm
      refine va_sld hx hb hX hbl hbA hH.2.2.2.1 (sc_in ty108 hi h6 (by decide)) dL_law_462 ?_
      refine lv_topi (fun y120 ey120 => ?_)
      obtain rfl : y109 = y120 := ey109.trans ey120.symm
      refine lv_aload_n hx hb dL_law_463 rfl (lv_at hl 0 rfl) ?_
      refine lv_iload_n hx hb dL_law_464 rfl (lv_at hl 3 rfl) ?_
      refine lv_iconst (v := 3) hx hb dL_law_465 (by decide) ?_
      refine lv_iadd hx hb dL_law_466 ?_
      refine lv_topi (fun y121 ey121 => ?_)
      obtain rfl : y110 = y121 := ey110.trans ey121.symm
      refine va_sld hx hb hX hbl hbA hH.2.2.2.1 (sc_in ty110 hi h6 (by decide)) dL_law_467 ?_
      refine lv_topi (fun y122 ey122 => ?_)
      obtain rfl : y111 = y122 := ey111.trans ey122.symm
      refine lv_aload_n hx hb dL_law_468 rfl (lv_at hl 0 rfl) ?_
      refine lv_iload_n hx hb dL_law_469 rfl (lv_at hl 3 rfl) ?_
      refine lv_iconst (v := 4) hx hb dL_law_470 (by decide) ?_
      refine lv_iadd hx hb dL_law_471 ?_
      refine lv_topi (fun y123 ey123 => ?_)
      obtain rfl : y112 = y123 := ey112.trans ey123.symm
      refine va_sld hx hb hX hbl hbA hH.2.2.2.1 (sc_in ty112 hi h6 (by decide)) dL_law_472 ?_
      refine lv_topi (fun y124 ey124 => ?_)
      obtain rfl : y113 = y124 := ey113.trans ey124.symm
      refine lv_aload_n hx hb dL_law_473 rfl (lv_at hl 0 rfl) ?_
      refine lv_iload_n hx hb dL_law_474 rfl (lv_at hl 3 rfl) ?_
      refine lv_iconst (v := 5) hx hb dL_law_475 (by decide) ?_
      refine lv_iadd hx hb dL_law_476 ?_
      refine lv_topi (fun y125 ey125 => ?_)
      obtain rfl : y114 = y125 := ey114.trans ey125.symm
      refine va_sld hx hb hX hbl hbA hH.2.2.2.1 (sc_in ty114 hi h6 (by decide)) dL_law_477 ?_
      refine lv_topi (fun y126 ey126 => ?_)
      obtain rfl : y115 = y126 := ey115.trans ey126.symm
      refine ca_L_47 hx hb hml hown hts hH (c_X11_work oI oR mm km (by exact xw) (by exact uq)) hl.1 mm km rfl (by decide) (Nat.le_of_ble_eq_true rfl) ⟨by decide, by decide⟩ dL_law_478 (fun y127 I127 J127 R127 H locs hp hH => ?_)
      obtain ⟨⟨oI, -, sc127⟩, eJ127, eR127, ry127, hp127⟩ := hp
      obtain rfl : J = J127 := eJ127.symm
      obtain rfl : R = R127 := eR127.symm
      have sm : Sm C ms_L_law (I, J, R) (I127, J, R) := sm.tr sc127 rfl
      have xm : XM L C I127 := XM.sm (u := (I116, J, R)) (v := (I127, J, R)) xm sc127 rfl rfl
      have xw : XW L C I127 := hp127
      have fa0o := fa0
      have fa0 : I127 ru 6 = vv0 := (sc127 ru 6 (by rw [kru]; decide)).1.trans fa0
      have fb0o := fb0
      have fb0 : I127 mo 1 = vv0 := (sc127 mo 1 (by rw [km]; decide)).1.trans fb0
      have fa1o := fa1
      have fa1 : I127 tj = vv1 := (funext fun k => (sc127 tj k (by rw [ktj]; exact nm_arr (by decide) rfl)).1).trans fa1
      have fb1o := fb1
      have fb1 : I127 mi = vv1 := (funext fun k => (sc127 mi k (by rw [kmi]; exact nm_arr (by decide) rfl)).1).trans fb1
      refine lv_pop hx hb dL_law_481 rfl ?_
      refine lv_goto (tgt := 1244) hx hb dL_law_482 (by decide) ?_
      exact L_1244 h6 I127 J R _ _ _ hH oI oR xm xw (fa0.trans fb0.symm) (fa1.trans fb1.symm) (lv_sub hl [0, 1, 2, 3] rfl)
    · have r128 : Rg y4 (7) (7) := ⟨by rw [z5]; decide, by rw [z5]; decide⟩
      refine lv_tableIn (tgt := 485) hx hb dL_law_33 (by rw [z5]; decide) (by rw [z5]; decide) (by rw [z5]; rfl) (by decide) ?_
      refine lv_aload_n hx hb dL_law_485 rfl (lv_at hl 1 rfl) ?_
      refine lv_aload_n hx hb dL_law_486 rfl (lv_at hl 0 rfl) ?_
      refine lv_iload_n hx hb dL_law_487 rfl (lv_at hl 3 rfl) ?_
      refine lv_iconst (v := 1) hx hb dL_law_488 (by decide) ?_
      refine lv_iadd hx hb dL_law_489 ?_
      refine lv_topi (fun y129 ey129 => ?_)
      obtain ⟨ty129, ry129⟩ := Rg_addx (a' := (1)) (b' := (3073)) (rfl : x3.toInt = _) (by decide : Int32.toInt 1 = 1) r3 (Rg_c (x := 1) (a := (1)) (b := (1)) (by decide)) (by decide)
      rw [← ey129] at ty129 ry129
      refine va_sld hx hb hX hbl hbA hH.2.2.2.1 (sc_in ty129 hi h6 (by decide)) dL_law_490 ?_
      refine lv_topi (fun y130 ey130 => ?_)
      refine lv_aload_n hx hb dL_law_491 rfl (lv_at hl 0 rfl) ?_
      refine lv_iload_n hx hb dL_law_492 rfl (lv_at hl 3 rfl) ?_
      refine lv_iconst (v := 2) hx hb dL_law_493 (by decide) ?_
      refine lv_iadd hx hb dL_law_494 ?_
      refine lv_topi (fun y131 ey131 => ?_)
      obtain ⟨ty131, ry131⟩ := Rg_addx (a' := (2)) (b' := (3074)) (rfl : x3.toInt = _) (by decide : Int32.toInt 2 = 2) r3 (Rg_c (x := 2) (a := (2)) (b := (2)) (by decide)) (by decide)
      rw [← ey131] at ty131 ry131
      refine va_sld hx hb hX hbl hbA hH.2.2.2.1 (sc_in ty131 hi h6 (by decide)) dL_law_495 ?_
      refine lv_topi (fun y132 ey132 => ?_)
      refine lv_aload_n hx hb dL_law_496 rfl (lv_at hl 0 rfl) ?_
      refine lv_iload_n hx hb dL_law_497 rfl (lv_at hl 3 rfl) ?_
      refine lv_iconst (v := 3) hx hb dL_law_498 (by decide) ?_
      refine lv_iadd hx hb dL_law_499 ?_
      refine lv_topi (fun y133 ey133 => ?_)
      obtain ⟨ty133, ry133⟩ := Rg_addx (a' := (3)) (b' := (3075)) (rfl : x3.toInt = _) (by decide : Int32.toInt 3 = 3) r3 (Rg_c (x := 3) (a := (3)) (b := (3)) (by decide)) (by decide)
      rw [← ey133] at ty133 ry133
      refine va_sld hx hb hX hbl hbA hH.2.2.2.1 (sc_in ty133 hi h6 (by decide)) dL_law_500 ?_
      refine lv_topi (fun y134 ey134 => ?_)
      refine lv_aload_n hx hb dL_law_501 rfl (lv_at hl 0 rfl) ?_
      refine lv_iload_n hx hb dL_law_502 rfl (lv_at hl 3 rfl) ?_
      refine lv_iconst (v := 4) hx hb dL_law_503 (by decide) ?_
      refine lv_iadd hx hb dL_law_504 ?_
      refine lv_topi (fun y135 ey135 => ?_)
      obtain ⟨ty135, ry135⟩ := Rg_addx (a' := (4)) (b' := (3076)) (rfl : x3.toInt = _) (by decide : Int32.toInt 4 = 4) r3 (Rg_c (x := 4) (a := (4)) (b := (4)) (by decide)) (by decide)
      rw [← ey135] at ty135 ry135
      refine va_sld hx hb hX hbl hbA hH.2.2.2.1 (sc_in ty135 hi h6 (by decide)) dL_law_505 ?_
      refine lv_topi (fun y136 ey136 => ?_)
      refine ca_L_48 hx hb hml hown hts hH (c_X10_times oI oR mx kx) hl.1 mx kx rfl (by decide) (Nat.le_of_ble_eq_true rfl) ⟨by decide, by decide⟩ dL_law_506 (fun y137 I137 J137 R137 H locs hp hH => ?_)
      obtain ⟨⟨oI, -, sc137⟩, eJ137, eR137, ry137⟩ := hp
      obtain rfl : J = J137 := eJ137.symm
      obtain rfl : R = R137 := eR137.symm
      have sm : Sm C ms_L_law (I, J, R) (I137, J, R) := sm.tr sc137 rfl
      have xm : XM L C I137 := XM.sm (u := (I, J, R)) (v := (I137, J, R)) xm sc137 rfl rfl
      have xw : XW L C I137 := XW.sm (u := (I, J, R)) (v := (I137, J, R)) xw sc137 rfl rfl
      have fa0o := fa0
      have fa0 : I137 ru 6 = vv0 := (sc137 ru 6 (by rw [kru]; decide)).1.trans fa0
      have fb0o := fb0
      have fb0 : I137 mo 1 = vv0 := (sc137 mo 1 (by rw [km]; decide)).1.trans fb0
      have fa1o := fa1
      have fa1 : I137 tj = vv1 := (funext fun k => (sc137 tj k (by rw [ktj]; exact nm_arr (by decide) rfl)).1).trans fa1
      have fb1o := fb1
      have fb1 : I137 mi = vv1 := (funext fun k => (sc137 mi k (by rw [kmi]; exact nm_arr (by decide) rfl)).1).trans fb1
      refine lv_pop hx hb dL_law_509 rfl ?_
      refine lv_aload_n hx hb dL_law_510 rfl (lv_at hl 2 rfl) ?_
      refine lv_aload_n hx hb dL_law_511 rfl (lv_at hl 0 rfl) ?_
      refine lv_iload_n hx hb dL_law_512 rfl (lv_at hl 3 rfl) ?_
      refine lv_iconst (v := 1) hx hb dL_law_513 (by decide) ?_
      refine lv_iadd hx hb dL_law_514 ?_
      refine lv_topi (fun y138 ey138 => ?_)
      obtain rfl : y129 = y138 := ey129.trans ey138.symm
      refine va_sld hx hb hX hbl hbA hH.2.2.2.1 (sc_in ty129 hi h6 (by decide)) dL_law_515 ?_
      refine lv_topi (fun y139 ey139 => ?_)
      obtain rfl : y130 = y139 := ey130.trans ey139.symm
      refine lv_aload_n hx hb dL_law_516 rfl (lv_at hl 0 rfl) ?_
      refine lv_iload_n hx hb dL_law_517 rfl (lv_at hl 3 rfl) ?_
      refine lv_iconst (v := 2) hx hb dL_law_518 (by decide) ?_
      refine lv_iadd hx hb dL_law_519 ?_
      refine lv_topi (fun y140 ey140 => ?_)
      obtain rfl : y131 = y140 := ey131.trans ey140.symm
      refine va_sld hx hb hX hbl hbA hH.2.2.2.1 (sc_in ty131 hi h6 (by decide)) dL_law_520 ?_
      refine lv_topi (fun y141 ey141 => ?_)
      obtain rfl : y132 = y141 := ey132.trans ey141.symm
      refine lv_aload_n hx hb dL_law_521 rfl (lv_at hl 0 rfl) ?_
      refine lv_iload_n hx hb dL_law_522 rfl (lv_at hl 3 rfl) ?_
      refine lv_iconst (v := 3) hx hb dL_law_523 (by decide) ?_
      refine lv_iadd hx hb dL_law_524 ?_
      refine lv_topi (fun y142 ey142 => ?_)
      obtain rfl : y133 = y142 := ey133.trans ey142.symm
      refine va_sld hx hb hX hbl hbA hH.2.2.2.1 (sc_in ty133 hi h6 (by decide)) dL_law_525 ?_
      refine lv_topi (fun y143 ey143 => ?_)
      obtain rfl : y134 = y143 := ey134.trans ey143.symm
      refine lv_aload_n hx hb dL_law_526 rfl (lv_at hl 0 rfl) ?_
      refine lv_iload_n hx hb dL_law_527 rfl (lv_at hl 3 rfl) ?_
      refine lv_iconst (v := 4) hx hb dL_law_528 (by decide) ?_
      refine lv_iadd hx hb dL_law_529 ?_
      refine lv_topi (fun y144 ey144 => ?_)
      obtain rfl : y135 = y144 := ey135.trans ey144.symm
      refine va_sld hx hb hX hbl hbA hH.2.2.2.1 (sc_in ty135 hi h6 (by decide)) dL_law_530 ?_
      refine lv_topi (fun y145 ey145 => ?_)
      obtain rfl : y136 = y145 := ey136.trans ey145.symm
      refine ca_L_51 hx hb hml hown hts hH (c_X11_times oI oR mm km) hl.1 mm km rfl (by decide) (Nat.le_of_ble_eq_true rfl) ⟨by decide, by decide⟩ dL_law_531 (fun y146 I146 J146 R146 H locs hp hH => ?_)
      obtain ⟨⟨oI, -, sc146⟩, eJ146, eR146, ry146⟩ := hp
      obtain rfl : J = J146 := eJ146.symm
      obtain rfl : R = R146 := eR146.symm
      have sm : Sm C ms_L_law (I, J, R) (I146, J, R) := sm.tr sc146 rfl
      have xm : XM L C I146 := XM.sm (u := (I137, J, R)) (v := (I146, J, R)) xm sc146 rfl rfl
      have xw : XW L C I146 := XW.sm (u := (I137, J, R)) (v := (I146, J, R)) xw sc146 rfl rfl
      have fa0o := fa0
      have fa0 : I146 ru 6 = vv0 := (sc146 ru 6 (by rw [kru]; decide)).1.trans fa0
      have fb0o := fb0
      have fb0 : I146 mo 1 = vv0 := (sc146 mo 1 (by rw [km]; decide)).1.trans fb0
      have fa1o := fa1
      have fa1 : I146 tj = vv1 := (funext fun k => (sc146 tj k (by rw [ktj]; exact nm_arr (by decide) rfl)).1).trans fa1
      have fb1o := fb1
      have fb1 : I146 mi = vv1 := (funext fun k => (sc146 mi k (by rw [kmi]; exact nm_arr (by decide) rfl)).1).trans fb1
      refine lv_pop hx hb dL_law_534 rfl ?_
      refine lv_goto (tgt := 1244) hx hb dL_law_535 (by decide) ?_
      exact L_1244 h6 I146 J R _ _ _ hH oI oR xm xw (fa0.trans fb0.symm) (fa1.trans fb1.symm) (lv_sub hl [0, 1, 2, 3] rfl)
    · have r147 : Rg y4 (8) (8) := ⟨by rw [z5]; decide, by rw [z5]; decide⟩
      refine lv_tableIn (tgt := 538) hx hb dL_law_33 (by rw [z5]; decide) (by rw [z5]; decide) (by rw [z5]; rfl) (by decide) ?_
      refine lv_aload_n hx hb dL_law_538 rfl (lv_at hl 1 rfl) ?_
      refine lv_aload_n hx hb dL_law_539 rfl (lv_at hl 0 rfl) ?_
      refine lv_iload_n hx hb dL_law_540 rfl (lv_at hl 3 rfl) ?_
      refine lv_iconst (v := 1) hx hb dL_law_541 (by decide) ?_
      refine lv_iadd hx hb dL_law_542 ?_
      refine lv_topi (fun y148 ey148 => ?_)
      obtain ⟨ty148, ry148⟩ := Rg_addx (a' := (1)) (b' := (3073)) (rfl : x3.toInt = _) (by decide : Int32.toInt 1 = 1) r3 (Rg_c (x := 1) (a := (1)) (b := (1)) (by decide)) (by decide)
      rw [← ey148] at ty148 ry148
      refine va_sld hx hb hX hbl hbA hH.2.2.2.1 (sc_in ty148 hi h6 (by decide)) dL_law_543 ?_
      refine lv_topi (fun y149 ey149 => ?_)
      refine lv_if_eq (tgt := 551) hx hb dL_law_544 (by decide) (fun q150 => ?_) (fun q150 => ?_)
      · have l151 := congrArg Int32.toInt q150
        have r152 : Rg y149 (0) (0) := Rg_both (Rg_any y149) (Rg_eqv q150 (Rg_c (x := 0) (a := (0)) (b := (0)) (by decide))) (by decide)
        refine lv_iconst (v := 0) hx hb dL_law_551 (by decide) ?_
        refine lv_aload_n hx hb dL_law_552 rfl (lv_at hl 0 rfl) ?_
        refine lv_iload_n hx hb dL_law_553 rfl (lv_at hl 3 rfl) ?_
        refine lv_iconst (v := 2) hx hb dL_law_554 (by decide) ?_
        refine lv_iadd hx hb dL_law_555 ?_
        refine lv_topi (fun y153 ey153 => ?_)
        obtain ⟨ty153, ry153⟩ := Rg_addx (a' := (2)) (b' := (3074)) (rfl : x3.toInt = _) (by decide : Int32.toInt 2 = 2) r3 (Rg_c (x := 2) (a := (2)) (b := (2)) (by decide)) (by decide)
        rw [← ey153] at ty153 ry153
        refine va_sld hx hb hX hbl hbA hH.2.2.2.1 (sc_in ty153 hi h6 (by decide)) dL_law_556 ?_
        refine lv_topi (fun y154 ey154 => ?_)
        refine ca_L_52 hx hb hml hown hts hH (c_X10_strip oI oR mx kx (Rg_w (Rg_c (x := 0) (a := (0)) (b := (0)) (by decide)) (by decide))) hl.1 mx kx rfl (by decide) (Nat.le_of_ble_eq_true rfl) ⟨by decide, by decide⟩ dL_law_557 (fun y155 I155 J155 R155 H locs hp hH => ?_)
        obtain ⟨⟨oI, -, sc155⟩, eJ155, eR155, ry155⟩ := hp
        obtain rfl : J = J155 := eJ155.symm
        obtain rfl : R = R155 := eR155.symm
        have sm : Sm C ms_L_law (I, J, R) (I155, J, R) := sm.tr sc155 rfl
        have xm : XM L C I155 := XM.sm (u := (I, J, R)) (v := (I155, J, R)) xm sc155 rfl rfl
        have xw : XW L C I155 := XW.sm (u := (I, J, R)) (v := (I155, J, R)) xw sc155 rfl rfl
        have fa0o := fa0
        have fa0 : I155 ru 6 = vv0 := (sc155 ru 6 (by rw [kru]; decide)).1.trans fa0
        have fb0o := fb0
        have fb0 : I155 mo 1 = vv0 := (sc155 mo 1 (by rw [km]; decide)).1.trans fb0
        have fa1o := fa1
        have fa1 : I155 tj = vv1 := (funext fun k => (sc155 tj k (by rw [ktj]; exact nm_arr (by decide) rfl)).1).trans fa1
        have fb1o := fb1
        have fb1 : I155 mi = vv1 := (funext fun k => (sc155 mi k (by rw [kmi]; exact nm_arr (by decide) rfl)).1).trans fb1
        refine lv_pop hx hb dL_law_560 rfl ?_
        refine lv_aload_n hx hb dL_law_561 rfl (lv_at hl 2 rfl) ?_
        refine lv_aload_n hx hb dL_law_562 rfl (lv_at hl 0 rfl) ?_
        refine lv_iload_n hx hb dL_law_563 rfl (lv_at hl 3 rfl) ?_
        refine lv_iconst (v := 1) hx hb dL_law_564 (by decide) ?_
        refine lv_iadd hx hb dL_law_565 ?_
        refine lv_topi (fun y156 ey156 => ?_)
        obtain rfl : y148 = y156 := ey148.trans ey156.symm
        refine va_sld hx hb hX hbl hbA hH.2.2.2.1 (sc_in ty148 hi h6 (by decide)) dL_law_566 ?_
        refine lv_topi (fun y157 ey157 => ?_)
        obtain rfl : y149 = y157 := ey149.trans ey157.symm
        refine lv_if_eq (tgt := 574) hx hb dL_law_567 (by decide) (fun q158 => ?_) (fun q158 => ?_)
        rotate_left
        · exact Rg_no (Rg_nehi r152 (Rg_ne q158) (Rg_c (x := 0) (a := (0)) (b := (0)) (by decide)) (b' := (-1)) (by decide)) (by decide)
        have l159 := congrArg Int32.toInt q158
        refine lv_iconst (v := 0) hx hb dL_law_574 (by decide) ?_
        refine lv_aload_n hx hb dL_law_575 rfl (lv_at hl 0 rfl) ?_
        refine lv_iload_n hx hb dL_law_576 rfl (lv_at hl 3 rfl) ?_
        refine lv_iconst (v := 2) hx hb dL_law_577 (by decide) ?_
        refine lv_iadd hx hb dL_law_578 ?_
        refine lv_topi (fun y160 ey160 => ?_)
        obtain rfl : y153 = y160 := ey153.trans ey160.symm
        refine va_sld hx hb hX hbl hbA hH.2.2.2.1 (sc_in ty153 hi h6 (by decide)) dL_law_579 ?_
        refine lv_topi (fun y161 ey161 => ?_)
        obtain rfl : y154 = y161 := ey154.trans ey161.symm
        refine ca_L_56 hx hb hml hown hts hH (c_X11_strip oI oR mm km (Rg_w (Rg_c (x := 0) (a := (0)) (b := (0)) (by decide)) (by decide))) hl.1 mm km rfl (by decide) (Nat.le_of_ble_eq_true rfl) ⟨by decide, by decide⟩ dL_law_580 (fun y162 I162 J162 R162 H locs hp hH => ?_)
        obtain ⟨⟨oI, -, sc162⟩, eJ162, eR162, ry162⟩ := hp
        obtain rfl : J = J162 := eJ162.symm
        obtain rfl : R = R162 := eR162.symm
        have sm : Sm C ms_L_law (I, J, R) (I162, J, R) := sm.tr sc162 rfl
        have xm : XM L C I162 := XM.sm (u := (I155, J, R)) (v := (I162, J, R)) xm sc162 rfl rfl
        have xw : XW L C I162 := XW.sm (u := (I155, J, R)) (v := (I162, J, R)) xw sc162 rfl rfl
        have fa0o := fa0
        have fa0 : I162 ru 6 = vv0 := (sc162 ru 6 (by rw [kru]; decide)).1.trans fa0
        have fb0o := fb0
        have fb0 : I162 mo 1 = vv0 := (sc162 mo 1 (by rw [km]; decide)).1.trans fb0
        have fa1o := fa1
        have fa1 : I162 tj = vv1 := (funext fun k => (sc162 tj k (by rw [ktj]; exact nm_arr (by decide) rfl)).1).trans fa1
        have fb1o := fb1
        have fb1 : I162 mi = vv1 := (funext fun k => (sc162 mi k (by rw [kmi]; exact nm_arr (by decide) rfl)).1).trans fb1
        refine lv_pop hx hb dL_law_583 rfl ?_
        refine lv_goto (tgt := 1244) hx hb dL_law_584 (by decide) ?_
        exact L_1244 h6 I162 J R _ _ _ hH oI oR xm xw (fa0.trans fb0.symm) (fa1.trans fb1.symm) (lv_sub hl [0, 1, 2, 3] rfl)
      have l164 := Rg_ne q150
      refine lv_iconst (v := 1) hx hb dL_law_547 (by decide) ?_
      refine lv_goto (tgt := 552) hx hb dL_law_548 (by decide) ?_
      refine lv_aload_n hx hb dL_law_552 rfl (lv_at hl 0 rfl) ?_
      refine lv_iload_n hx hb dL_law_553 rfl (lv_at hl 3 rfl) ?_
      refine lv_iconst (v := 2) hx hb dL_law_554 (by decide) ?_
      refine lv_iadd hx hb dL_law_555 ?_
      refine lv_topi (fun y165 ey165 => ?_)
      obtain ⟨ty165, ry165⟩ := Rg_addx (a' := (2)) (b' := (3074)) (rfl : x3.toInt = _) (by decide : Int32.toInt 2 = 2) r3 (Rg_c (x := 2) (a := (2)) (b := (2)) (by decide)) (by decide)
      rw [← ey165] at ty165 ry165
      refine va_sld hx hb hX hbl hbA hH.2.2.2.1 (sc_in ty165 hi h6 (by decide)) dL_law_556 ?_
      refine lv_topi (fun y166 ey166 => ?_)
      refine ca_L_52 hx hb hml hown hts hH (c_X10_strip oI oR mx kx (Rg_w (Rg_c (x := 1) (a := (1)) (b := (1)) (by decide)) (by decide))) hl.1 mx kx rfl (by decide) (Nat.le_of_ble_eq_true rfl) ⟨by decide, by decide⟩ dL_law_557 (fun y167 I167 J167 R167 H locs hp hH => ?_)
      obtain ⟨⟨oI, -, sc167⟩, eJ167, eR167, ry167⟩ := hp
      obtain rfl : J = J167 := eJ167.symm
      obtain rfl : R = R167 := eR167.symm
      have sm : Sm C ms_L_law (I, J, R) (I167, J, R) := sm.tr sc167 rfl
      have xm : XM L C I167 := XM.sm (u := (I, J, R)) (v := (I167, J, R)) xm sc167 rfl rfl
      have xw : XW L C I167 := XW.sm (u := (I, J, R)) (v := (I167, J, R)) xw sc167 rfl rfl
      have fa0o := fa0
      have fa0 : I167 ru 6 = vv0 := (sc167 ru 6 (by rw [kru]; decide)).1.trans fa0
      have fb0o := fb0
      have fb0 : I167 mo 1 = vv0 := (sc167 mo 1 (by rw [km]; decide)).1.trans fb0
      have fa1o := fa1
      have fa1 : I167 tj = vv1 := (funext fun k => (sc167 tj k (by rw [ktj]; exact nm_arr (by decide) rfl)).1).trans fa1
      have fb1o := fb1
      have fb1 : I167 mi = vv1 := (funext fun k => (sc167 mi k (by rw [kmi]; exact nm_arr (by decide) rfl)).1).trans fb1
      refine lv_pop hx hb dL_law_560 rfl ?_
      refine lv_aload_n hx hb dL_law_561 rfl (lv_at hl 2 rfl) ?_
      refine lv_aload_n hx hb dL_law_562 rfl (lv_at hl 0 rfl) ?_
      refine lv_iload_n hx hb dL_law_563 rfl (lv_at hl 3 rfl) ?_
      refine lv_iconst (v := 1) hx hb dL_law_564 (by decide) ?_
      refine lv_iadd hx hb dL_law_565 ?_
      refine lv_topi (fun y168 ey168 => ?_)
      obtain rfl : y148 = y168 := ey148.trans ey168.symm
      refine va_sld hx hb hX hbl hbA hH.2.2.2.1 (sc_in ty148 hi h6 (by decide)) dL_law_566 ?_
      refine lv_topi (fun y169 ey169 => ?_)
      obtain rfl : y149 = y169 := ey149.trans ey169.symm
      refine lv_if_eq (tgt := 574) hx hb dL_law_567 (by decide) (fun q170 => ?_) (fun q170 => ?_)
      · have l171 := congrArg Int32.toInt q170
        have r172 : Rg y149 (0) (0) := Rg_both (Rg_any y149) (Rg_eqv q170 (Rg_c (x := 0) (a := (0)) (b := (0)) (by decide))) (by decide)
        refine lv_iconst (v := 0) hx hb dL_law_574 (by decide) ?_
        refine lv_aload_n hx hb dL_law_575 rfl (lv_at hl 0 rfl) ?_
        refine lv_iload_n hx hb dL_law_576 rfl (lv_at hl 3 rfl) ?_
        refine lv_iconst (v := 2) hx hb dL_law_577 (by decide) ?_
        refine lv_iadd hx hb dL_law_578 ?_
        refine lv_topi (fun y173 ey173 => ?_)
        obtain rfl : y165 = y173 := ey165.trans ey173.symm
        refine va_sld hx hb hX hbl hbA hH.2.2.2.1 (sc_in ty165 hi h6 (by decide)) dL_law_579 ?_
        refine lv_topi (fun y174 ey174 => ?_)
        obtain rfl : y166 = y174 := ey166.trans ey174.symm
        refine ca_L_56 hx hb hml hown hts hH (c_X11_strip oI oR mm km (Rg_w (Rg_c (x := 0) (a := (0)) (b := (0)) (by decide)) (by decide))) hl.1 mm km rfl (by decide) (Nat.le_of_ble_eq_true rfl) ⟨by decide, by decide⟩ dL_law_580 (fun y175 I175 J175 R175 H locs hp hH => ?_)
        obtain ⟨⟨oI, -, sc175⟩, eJ175, eR175, ry175⟩ := hp
        obtain rfl : J = J175 := eJ175.symm
        obtain rfl : R = R175 := eR175.symm
        have sm : Sm C ms_L_law (I, J, R) (I175, J, R) := sm.tr sc175 rfl
        have xm : XM L C I175 := XM.sm (u := (I167, J, R)) (v := (I175, J, R)) xm sc175 rfl rfl
        have xw : XW L C I175 := XW.sm (u := (I167, J, R)) (v := (I175, J, R)) xw sc175 rfl rfl
        have fa0o := fa0
        have fa0 : I175 ru 6 = vv0 := (sc175 ru 6 (by rw [kru]; decide)).1.trans fa0
        have fb0o := fb0
        have fb0 : I175 mo 1 = vv0 := (sc175 mo 1 (by rw [km]; decide)).1.trans fb0
        have fa1o := fa1
        have fa1 : I175 tj = vv1 := (funext fun k => (sc175 tj k (by rw [ktj]; exact nm_arr (by decide) rfl)).1).trans fa1
        have fb1o := fb1
        have fb1 : I175 mi = vv1 := (funext fun k => (sc175 mi k (by rw [kmi]; exact nm_arr (by decide) rfl)).1).trans fb1
        refine lv_pop hx hb dL_law_583 rfl ?_
        refine lv_goto (tgt := 1244) hx hb dL_law_584 (by decide) ?_
        exact L_1244 h6 I175 J R _ _ _ hH oI oR xm xw (fa0.trans fb0.symm) (fa1.trans fb1.symm) (lv_sub hl [0, 1, 2, 3] rfl)
      have l176 := Rg_ne q170
      refine lv_iconst (v := 1) hx hb dL_law_570 (by decide) ?_
      refine lv_goto (tgt := 575) hx hb dL_law_571 (by decide) ?_
      refine lv_aload_n hx hb dL_law_575 rfl (lv_at hl 0 rfl) ?_
      refine lv_iload_n hx hb dL_law_576 rfl (lv_at hl 3 rfl) ?_
      refine lv_iconst (v := 2) hx hb dL_law_577 (by decide) ?_
      refine lv_iadd hx hb dL_law_578 ?_
      refine lv_topi (fun y177 ey177 => ?_)
      obtain rfl : y165 = y177 := ey165.trans ey177.symm
      refine va_sld hx hb hX hbl hbA hH.2.2.2.1 (sc_in ty165 hi h6 (by decide)) dL_law_579 ?_
      refine lv_topi (fun y178 ey178 => ?_)
      obtain rfl : y166 = y178 := ey166.trans ey178.symm
      refine ca_L_56 hx hb hml hown hts hH (c_X11_strip oI oR mm km (Rg_w (Rg_c (x := 1) (a := (1)) (b := (1)) (by decide)) (by decide))) hl.1 mm km rfl (by decide) (Nat.le_of_ble_eq_true rfl) ⟨by decide, by decide⟩ dL_law_580 (fun y179 I179 J179 R179 H locs hp hH => ?_)
      obtain ⟨⟨oI, -, sc179⟩, eJ179, eR179, ry179⟩ := hp
      obtain rfl : J = J179 := eJ179.symm
      obtain rfl : R = R179 := eR179.symm
      have sm : Sm C ms_L_law (I, J, R) (I179, J, R) := sm.tr sc179 rfl
      have xm : XM L C I179 := XM.sm (u := (I167, J, R)) (v := (I179, J, R)) xm sc179 rfl rfl
      have xw : XW L C I179 := XW.sm (u := (I167, J, R)) (v := (I179, J, R)) xw sc179 rfl rfl
      have fa0o := fa0
      have fa0 : I179 ru 6 = vv0 := (sc179 ru 6 (by rw [kru]; decide)).1.trans fa0
      have fb0o := fb0
      have fb0 : I179 mo 1 = vv0 := (sc179 mo 1 (by rw [km]; decide)).1.trans fb0
      have fa1o := fa1
      have fa1 : I179 tj = vv1 := (funext fun k => (sc179 tj k (by rw [ktj]; exact nm_arr (by decide) rfl)).1).trans fa1
      have fb1o := fb1
      have fb1 : I179 mi = vv1 := (funext fun k => (sc179 mi k (by rw [kmi]; exact nm_arr (by decide) rfl)).1).trans fb1
      refine lv_pop hx hb dL_law_583 rfl ?_
      refine lv_goto (tgt := 1244) hx hb dL_law_584 (by decide) ?_
      exact L_1244 h6 I179 J R _ _ _ hH oI oR xm xw (fa0.trans fb0.symm) (fa1.trans fb1.symm) (lv_sub hl [0, 1, 2, 3] rfl)
    · have r180 : Rg y4 (9) (9) := ⟨by rw [z5]; decide, by rw [z5]; decide⟩
      refine lv_tableIn (tgt := 587) hx hb dL_law_33 (by rw [z5]; decide) (by rw [z5]; decide) (by rw [z5]; rfl) (by decide) ?_
      refine lv_aload_n hx hb dL_law_587 rfl (lv_at hl 1 rfl) ?_
      refine lv_aload_n hx hb dL_law_588 rfl (lv_at hl 0 rfl) ?_
      refine lv_iload_n hx hb dL_law_589 rfl (lv_at hl 3 rfl) ?_
      refine lv_iconst (v := 1) hx hb dL_law_590 (by decide) ?_
      refine lv_iadd hx hb dL_law_591 ?_
      refine lv_topi (fun y181 ey181 => ?_)
      obtain ⟨ty181, ry181⟩ := Rg_addx (a' := (1)) (b' := (3073)) (rfl : x3.toInt = _) (by decide : Int32.toInt 1 = 1) r3 (Rg_c (x := 1) (a := (1)) (b := (1)) (by decide)) (by decide)
      rw [← ey181] at ty181 ry181
      refine va_sld hx hb hX hbl hbA hH.2.2.2.1 (sc_in ty181 hi h6 (by decide)) dL_law_592 ?_
      refine lv_topi (fun y182 ey182 => ?_)
      refine lv_aload_n hx hb dL_law_593 rfl (lv_at hl 0 rfl) ?_
      refine lv_iload_n hx hb dL_law_594 rfl (lv_at hl 3 rfl) ?_
      refine lv_iconst (v := 2) hx hb dL_law_595 (by decide) ?_
      refine lv_iadd hx hb dL_law_596 ?_
      refine lv_topi (fun y183 ey183 => ?_)
      obtain ⟨ty183, ry183⟩ := Rg_addx (a' := (2)) (b' := (3074)) (rfl : x3.toInt = _) (by decide : Int32.toInt 2 = 2) r3 (Rg_c (x := 2) (a := (2)) (b := (2)) (by decide)) (by decide)
      rw [← ey183] at ty183 ry183
      refine va_sld hx hb hX hbl hbA hH.2.2.2.1 (sc_in ty183 hi h6 (by decide)) dL_law_597 ?_
      refine lv_topi (fun y184 ey184 => ?_)
      refine lv_aload_n hx hb dL_law_598 rfl (lv_at hl 0 rfl) ?_
      refine lv_iload_n hx hb dL_law_599 rfl (lv_at hl 3 rfl) ?_
      refine lv_iconst (v := 3) hx hb dL_law_600 (by decide) ?_
      refine lv_iadd hx hb dL_law_601 ?_
      refine lv_topi (fun y185 ey185 => ?_)
      obtain ⟨ty185, ry185⟩ := Rg_addx (a' := (3)) (b' := (3075)) (rfl : x3.toInt = _) (by decide : Int32.toInt 3 = 3) r3 (Rg_c (x := 3) (a := (3)) (b := (3)) (by decide)) (by decide)
      rw [← ey185] at ty185 ry185
      refine va_sld hx hb hX hbl hbA hH.2.2.2.1 (sc_in ty185 hi h6 (by decide)) dL_law_602 ?_
      refine lv_topi (fun y186 ey186 => ?_)
      refine lv_if_eq (tgt := 610) hx hb dL_law_603 (by decide) (fun q187 => ?_) (fun q187 => ?_)
      · have l188 := congrArg Int32.toInt q187
        have r189 : Rg y186 (0) (0) := Rg_both (Rg_any y186) (Rg_eqv q187 (Rg_c (x := 0) (a := (0)) (b := (0)) (by decide))) (by decide)
        refine lv_iconst (v := 0) hx hb dL_law_610 (by decide) ?_
        refine ca_L_57 hx hb hml hown hts hH (c_X10_alias oI oR mx kx (Rg_w (Rg_c (x := 0) (a := (0)) (b := (0)) (by decide)) (by decide))) hl.1 mx kx rfl (by decide) (Nat.le_of_ble_eq_true rfl) ⟨by decide, by decide⟩ dL_law_611 (fun y190 I190 J190 R190 H locs hp hH => ?_)
        obtain ⟨⟨oI, -, sc190⟩, eJ190, eR190, ry190⟩ := hp
        obtain rfl : J = J190 := eJ190.symm
        obtain rfl : R = R190 := eR190.symm
        have sm : Sm C ms_L_law (I, J, R) (I190, J, R) := sm.tr sc190 rfl
        have xm : XM L C I190 := XM.sm (u := (I, J, R)) (v := (I190, J, R)) xm sc190 rfl rfl
        have xw : XW L C I190 := XW.sm (u := (I, J, R)) (v := (I190, J, R)) xw sc190 rfl rfl
        have fa0o := fa0
        have fa0 : I190 ru 6 = vv0 := (sc190 ru 6 (by rw [kru]; decide)).1.trans fa0
        have fb0o := fb0
        have fb0 : I190 mo 1 = vv0 := (sc190 mo 1 (by rw [km]; decide)).1.trans fb0
        have fa1o := fa1
        have fa1 : I190 tj = vv1 := (funext fun k => (sc190 tj k (by rw [ktj]; exact nm_arr (by decide) rfl)).1).trans fa1
        have fb1o := fb1
        have fb1 : I190 mi = vv1 := (funext fun k => (sc190 mi k (by rw [kmi]; exact nm_arr (by decide) rfl)).1).trans fb1
        refine lv_pop hx hb dL_law_614 rfl ?_
        refine lv_aload_n hx hb dL_law_615 rfl (lv_at hl 2 rfl) ?_
        refine lv_aload_n hx hb dL_law_616 rfl (lv_at hl 0 rfl) ?_
        refine lv_iload_n hx hb dL_law_617 rfl (lv_at hl 3 rfl) ?_
        refine lv_iconst (v := 1) hx hb dL_law_618 (by decide) ?_
        refine lv_iadd hx hb dL_law_619 ?_
        refine lv_topi (fun y191 ey191 => ?_)
        obtain rfl : y181 = y191 := ey181.trans ey191.symm
        refine va_sld hx hb hX hbl hbA hH.2.2.2.1 (sc_in ty181 hi h6 (by decide)) dL_law_620 ?_
        refine lv_topi (fun y192 ey192 => ?_)
        obtain rfl : y182 = y192 := ey182.trans ey192.symm
        refine lv_aload_n hx hb dL_law_621 rfl (lv_at hl 0 rfl) ?_
        refine lv_iload_n hx hb dL_law_622 rfl (lv_at hl 3 rfl) ?_
        refine lv_iconst (v := 2) hx hb dL_law_623 (by decide) ?_
        refine lv_iadd hx hb dL_law_624 ?_
        refine lv_topi (fun y193 ey193 => ?_)
        obtain rfl : y183 = y193 := ey183.trans ey193.symm
        refine va_sld hx hb hX hbl hbA hH.2.2.2.1 (sc_in ty183 hi h6 (by decide)) dL_law_625 ?_
        refine lv_topi (fun y194 ey194 => ?_)
        obtain rfl : y184 = y194 := ey184.trans ey194.symm
        refine lv_aload_n hx hb dL_law_626 rfl (lv_at hl 0 rfl) ?_
        refine lv_iload_n hx hb dL_law_627 rfl (lv_at hl 3 rfl) ?_
        refine lv_iconst (v := 3) hx hb dL_law_628 (by decide) ?_
        refine lv_iadd hx hb dL_law_629 ?_
        refine lv_topi (fun y195 ey195 => ?_)
        obtain rfl : y185 = y195 := ey185.trans ey195.symm
        refine va_sld hx hb hX hbl hbA hH.2.2.2.1 (sc_in ty185 hi h6 (by decide)) dL_law_630 ?_
        refine lv_topi (fun y196 ey196 => ?_)
        obtain rfl : y186 = y196 := ey186.trans ey196.symm
        refine lv_if_eq (tgt := 638) hx hb dL_law_631 (by decide) (fun q197 => ?_) (fun q197 => ?_)
        rotate_left
        · exact Rg_no (Rg_nehi r189 (Rg_ne q197) (Rg_c (x := 0) (a := (0)) (b := (0)) (by decide)) (b' := (-1)) (by decide)) (by decide)
        have l198 := congrArg Int32.toInt q197
        refine lv_iconst (v := 0) hx hb dL_law_638 (by decide) ?_
        refine ca_L_61 hx hb hml hown hts hH (c_X11_alias oI oR mm km (Rg_w (Rg_c (x := 0) (a := (0)) (b := (0)) (by decide)) (by decide))) hl.1 mm km rfl (by decide) (Nat.le_of_ble_eq_true rfl) ⟨by decide, by decide⟩ dL_law_639 (fun y199 I199 J199 R199 H locs hp hH => ?_)
        obtain ⟨⟨oI, -, sc199⟩, eJ199, eR199, ry199⟩ := hp
        obtain rfl : J = J199 := eJ199.symm
        obtain rfl : R = R199 := eR199.symm
        have sm : Sm C ms_L_law (I, J, R) (I199, J, R) := sm.tr sc199 rfl
        have xm : XM L C I199 := XM.sm (u := (I190, J, R)) (v := (I199, J, R)) xm sc199 rfl rfl
        have xw : XW L C I199 := XW.sm (u := (I190, J, R)) (v := (I199, J, R)) xw sc199 rfl rfl
        have fa0o := fa0
        have fa0 : I199 ru 6 = vv0 := (sc199 ru 6 (by rw [kru]; decide)).1.trans fa0
        have fb0o := fb0
        have fb0 : I199 mo 1 = vv0 := (sc199 mo 1 (by rw [km]; decide)).1.trans fb0
        have fa1o := fa1
        have fa1 : I199 tj = vv1 := (funext fun k => (sc199 tj k (by rw [ktj]; exact nm_arr (by decide) rfl)).1).trans fa1
        have fb1o := fb1
        have fb1 : I199 mi = vv1 := (funext fun k => (sc199 mi k (by rw [kmi]; exact nm_arr (by decide) rfl)).1).trans fb1
        refine lv_pop hx hb dL_law_642 rfl ?_
        refine lv_goto (tgt := 1244) hx hb dL_law_643 (by decide) ?_
        exact L_1244 h6 I199 J R _ _ _ hH oI oR xm xw (fa0.trans fb0.symm) (fa1.trans fb1.symm) (lv_sub hl [0, 1, 2, 3] rfl)
      have l201 := Rg_ne q187
      refine lv_iconst (v := 1) hx hb dL_law_606 (by decide) ?_
      refine lv_goto (tgt := 611) hx hb dL_law_607 (by decide) ?_
      refine ca_L_57 hx hb hml hown hts hH (c_X10_alias oI oR mx kx (Rg_w (Rg_c (x := 1) (a := (1)) (b := (1)) (by decide)) (by decide))) hl.1 mx kx rfl (by decide) (Nat.le_of_ble_eq_true rfl) ⟨by decide, by decide⟩ dL_law_611 (fun y202 I202 J202 R202 H locs hp hH => ?_)
      obtain ⟨⟨oI, -, sc202⟩, eJ202, eR202, ry202⟩ := hp
      obtain rfl : J = J202 := eJ202.symm
      obtain rfl : R = R202 := eR202.symm
      have sm : Sm C ms_L_law (I, J, R) (I202, J, R) := sm.tr sc202 rfl
      have xm : XM L C I202 := XM.sm (u := (I, J, R)) (v := (I202, J, R)) xm sc202 rfl rfl
      have xw : XW L C I202 := XW.sm (u := (I, J, R)) (v := (I202, J, R)) xw sc202 rfl rfl
      have fa0o := fa0
      have fa0 : I202 ru 6 = vv0 := (sc202 ru 6 (by rw [kru]; decide)).1.trans fa0
      have fb0o := fb0
      have fb0 : I202 mo 1 = vv0 := (sc202 mo 1 (by rw [km]; decide)).1.trans fb0
      have fa1o := fa1
      have fa1 : I202 tj = vv1 := (funext fun k => (sc202 tj k (by rw [ktj]; exact nm_arr (by decide) rfl)).1).trans fa1
      have fb1o := fb1
      have fb1 : I202 mi = vv1 := (funext fun k => (sc202 mi k (by rw [kmi]; exact nm_arr (by decide) rfl)).1).trans fb1
      refine lv_pop hx hb dL_law_614 rfl ?_
      refine lv_aload_n hx hb dL_law_615 rfl (lv_at hl 2 rfl) ?_
      refine lv_aload_n hx hb dL_law_616 rfl (lv_at hl 0 rfl) ?_
      refine lv_iload_n hx hb dL_law_617 rfl (lv_at hl 3 rfl) ?_
      refine lv_iconst (v := 1) hx hb dL_law_618 (by decide) ?_
      refine lv_iadd hx hb dL_law_619 ?_
      refine lv_topi (fun y203 ey203 => ?_)
      obtain rfl : y181 = y203 := ey181.trans ey203.symm
      refine va_sld hx hb hX hbl hbA hH.2.2.2.1 (sc_in ty181 hi h6 (by decide)) dL_law_620 ?_
      refine lv_topi (fun y204 ey204 => ?_)
      obtain rfl : y182 = y204 := ey182.trans ey204.symm
      refine lv_aload_n hx hb dL_law_621 rfl (lv_at hl 0 rfl) ?_
      refine lv_iload_n hx hb dL_law_622 rfl (lv_at hl 3 rfl) ?_
      refine lv_iconst (v := 2) hx hb dL_law_623 (by decide) ?_
      refine lv_iadd hx hb dL_law_624 ?_
      refine lv_topi (fun y205 ey205 => ?_)
      obtain rfl : y183 = y205 := ey183.trans ey205.symm
      refine va_sld hx hb hX hbl hbA hH.2.2.2.1 (sc_in ty183 hi h6 (by decide)) dL_law_625 ?_
      refine lv_topi (fun y206 ey206 => ?_)
      obtain rfl : y184 = y206 := ey184.trans ey206.symm
      refine lv_aload_n hx hb dL_law_626 rfl (lv_at hl 0 rfl) ?_
      refine lv_iload_n hx hb dL_law_627 rfl (lv_at hl 3 rfl) ?_
      refine lv_iconst (v := 3) hx hb dL_law_628 (by decide) ?_
      refine lv_iadd hx hb dL_law_629 ?_
      refine lv_topi (fun y207 ey207 => ?_)
      obtain rfl : y185 = y207 := ey185.trans ey207.symm
      refine va_sld hx hb hX hbl hbA hH.2.2.2.1 (sc_in ty185 hi h6 (by decide)) dL_law_630 ?_
      refine lv_topi (fun y208 ey208 => ?_)
      obtain rfl : y186 = y208 := ey186.trans ey208.symm
      refine lv_if_eq (tgt := 638) hx hb dL_law_631 (by decide) (fun q209 => ?_) (fun q209 => ?_)
      · have l210 := congrArg Int32.toInt q209
        have r211 : Rg y186 (0) (0) := Rg_both (Rg_any y186) (Rg_eqv q209 (Rg_c (x := 0) (a := (0)) (b := (0)) (by decide))) (by decide)
        refine lv_iconst (v := 0) hx hb dL_law_638 (by decide) ?_
        refine ca_L_61 hx hb hml hown hts hH (c_X11_alias oI oR mm km (Rg_w (Rg_c (x := 0) (a := (0)) (b := (0)) (by decide)) (by decide))) hl.1 mm km rfl (by decide) (Nat.le_of_ble_eq_true rfl) ⟨by decide, by decide⟩ dL_law_639 (fun y212 I212 J212 R212 H locs hp hH => ?_)
        obtain ⟨⟨oI, -, sc212⟩, eJ212, eR212, ry212⟩ := hp
        obtain rfl : J = J212 := eJ212.symm
        obtain rfl : R = R212 := eR212.symm
        have sm : Sm C ms_L_law (I, J, R) (I212, J, R) := sm.tr sc212 rfl
        have xm : XM L C I212 := XM.sm (u := (I202, J, R)) (v := (I212, J, R)) xm sc212 rfl rfl
        have xw : XW L C I212 := XW.sm (u := (I202, J, R)) (v := (I212, J, R)) xw sc212 rfl rfl
        have fa0o := fa0
        have fa0 : I212 ru 6 = vv0 := (sc212 ru 6 (by rw [kru]; decide)).1.trans fa0
        have fb0o := fb0
        have fb0 : I212 mo 1 = vv0 := (sc212 mo 1 (by rw [km]; decide)).1.trans fb0
        have fa1o := fa1
        have fa1 : I212 tj = vv1 := (funext fun k => (sc212 tj k (by rw [ktj]; exact nm_arr (by decide) rfl)).1).trans fa1
        have fb1o := fb1
        have fb1 : I212 mi = vv1 := (funext fun k => (sc212 mi k (by rw [kmi]; exact nm_arr (by decide) rfl)).1).trans fb1
        refine lv_pop hx hb dL_law_642 rfl ?_
        refine lv_goto (tgt := 1244) hx hb dL_law_643 (by decide) ?_
        exact L_1244 h6 I212 J R _ _ _ hH oI oR xm xw (fa0.trans fb0.symm) (fa1.trans fb1.symm) (lv_sub hl [0, 1, 2, 3] rfl)
      have l213 := Rg_ne q209
      refine lv_iconst (v := 1) hx hb dL_law_634 (by decide) ?_
      refine lv_goto (tgt := 639) hx hb dL_law_635 (by decide) ?_
      refine ca_L_61 hx hb hml hown hts hH (c_X11_alias oI oR mm km (Rg_w (Rg_c (x := 1) (a := (1)) (b := (1)) (by decide)) (by decide))) hl.1 mm km rfl (by decide) (Nat.le_of_ble_eq_true rfl) ⟨by decide, by decide⟩ dL_law_639 (fun y214 I214 J214 R214 H locs hp hH => ?_)
      obtain ⟨⟨oI, -, sc214⟩, eJ214, eR214, ry214⟩ := hp
      obtain rfl : J = J214 := eJ214.symm
      obtain rfl : R = R214 := eR214.symm
      have sm : Sm C ms_L_law (I, J, R) (I214, J, R) := sm.tr sc214 rfl
      have xm : XM L C I214 := XM.sm (u := (I202, J, R)) (v := (I214, J, R)) xm sc214 rfl rfl
      have xw : XW L C I214 := XW.sm (u := (I202, J, R)) (v := (I214, J, R)) xw sc214 rfl rfl
      have fa0o := fa0
      have fa0 : I214 ru 6 = vv0 := (sc214 ru 6 (by rw [kru]; decide)).1.trans fa0
      have fb0o := fb0
      have fb0 : I214 mo 1 = vv0 := (sc214 mo 1 (by rw [km]; decide)).1.trans fb0
      have fa1o := fa1
      have fa1 : I214 tj = vv1 := (funext fun k => (sc214 tj k (by rw [ktj]; exact nm_arr (by decide) rfl)).1).trans fa1
      have fb1o := fb1
      have fb1 : I214 mi = vv1 := (funext fun k => (sc214 mi k (by rw [kmi]; exact nm_arr (by decide) rfl)).1).trans fb1
      refine lv_pop hx hb dL_law_642 rfl ?_
      refine lv_goto (tgt := 1244) hx hb dL_law_643 (by decide) ?_
      exact L_1244 h6 I214 J R _ _ _ hH oI oR xm xw (fa0.trans fb0.symm) (fa1.trans fb1.symm) (lv_sub hl [0, 1, 2, 3] rfl)
    · have r215 : Rg y4 (10) (10) := ⟨by rw [z5]; decide, by rw [z5]; decide⟩
      refine lv_tableIn (tgt := 646) hx hb dL_law_33 (by rw [z5]; decide) (by rw [z5]; decide) (by rw [z5]; rfl) (by decide) ?_
      refine lv_aload_n hx hb dL_law_646 rfl (lv_at hl 1 rfl) ?_
      refine lv_aload_n hx hb dL_law_647 rfl (lv_at hl 0 rfl) ?_
      refine lv_iload_n hx hb dL_law_648 rfl (lv_at hl 3 rfl) ?_
      refine lv_iconst (v := 1) hx hb dL_law_649 (by decide) ?_
      refine lv_iadd hx hb dL_law_650 ?_
      refine lv_topi (fun y216 ey216 => ?_)
      obtain ⟨ty216, ry216⟩ := Rg_addx (a' := (1)) (b' := (3073)) (rfl : x3.toInt = _) (by decide : Int32.toInt 1 = 1) r3 (Rg_c (x := 1) (a := (1)) (b := (1)) (by decide)) (by decide)
      rw [← ey216] at ty216 ry216
      refine va_sld hx hb hX hbl hbA hH.2.2.2.1 (sc_in ty216 hi h6 (by decide)) dL_law_651 ?_
      refine lv_topi (fun y217 ey217 => ?_)
      refine lv_aload_n hx hb dL_law_652 rfl (lv_at hl 0 rfl) ?_
      refine lv_iload_n hx hb dL_law_653 rfl (lv_at hl 3 rfl) ?_
      refine lv_iconst (v := 2) hx hb dL_law_654 (by decide) ?_
      refine lv_iadd hx hb dL_law_655 ?_
      refine lv_topi (fun y218 ey218 => ?_)
      obtain ⟨ty218, ry218⟩ := Rg_addx (a' := (2)) (b' := (3074)) (rfl : x3.toInt = _) (by decide : Int32.toInt 2 = 2) r3 (Rg_c (x := 2) (a := (2)) (b := (2)) (by decide)) (by decide)
      rw [← ey218] at ty218 ry218
      refine va_sld hx hb hX hbl hbA hH.2.2.2.1 (sc_in ty218 hi h6 (by decide)) dL_law_656 ?_
      refine lv_topi (fun y219 ey219 => ?_)
      refine lv_if_eq (tgt := 664) hx hb dL_law_657 (by decide) (fun q220 => ?_) (fun q220 => ?_)
      · have l221 := congrArg Int32.toInt q220
        have r222 : Rg y219 (0) (0) := Rg_both (Rg_any y219) (Rg_eqv q220 (Rg_c (x := 0) (a := (0)) (b := (0)) (by decide))) (by decide)
        refine lv_iconst (v := 0) hx hb dL_law_664 (by decide) ?_
        refine lv_aload_n hx hb dL_law_665 rfl (lv_at hl 0 rfl) ?_
        refine lv_iload_n hx hb dL_law_666 rfl (lv_at hl 3 rfl) ?_
        refine lv_iconst (v := 3) hx hb dL_law_667 (by decide) ?_
        refine lv_iadd hx hb dL_law_668 ?_
        refine lv_topi (fun y223 ey223 => ?_)
        obtain ⟨ty223, ry223⟩ := Rg_addx (a' := (3)) (b' := (3075)) (rfl : x3.toInt = _) (by decide : Int32.toInt 3 = 3) r3 (Rg_c (x := 3) (a := (3)) (b := (3)) (by decide)) (by decide)
        rw [← ey223] at ty223 ry223
        refine va_sld hx hb hX hbl hbA hH.2.2.2.1 (sc_in ty223 hi h6 (by decide)) dL_law_669 ?_
        refine lv_topi (fun y224 ey224 => ?_)
        refine lv_i2l (v := y224.toInt64) hx hb dL_law_670 rfl ?_
        refine lv_bipush (v := 32) hx hb dL_law_671 (by decide) ?_
        refine lv_lshl hx hb dL_law_673 rfl ?_
        refine lv_topl (fun w225 ew225 => ?_)
        refine lv_aload_n hx hb dL_law_674 rfl (lv_at hl 0 rfl) ?_
        refine lv_iload_n hx hb dL_law_675 rfl (lv_at hl 3 rfl) ?_
        refine lv_iconst (v := 4) hx hb dL_law_676 (by decide) ?_
        refine lv_iadd hx hb dL_law_677 ?_
        refine lv_topi (fun y226 ey226 => ?_)
        obtain ⟨ty226, ry226⟩ := Rg_addx (a' := (4)) (b' := (3076)) (rfl : x3.toInt = _) (by decide : Int32.toInt 4 = 4) r3 (Rg_c (x := 4) (a := (4)) (b := (4)) (by decide)) (by decide)
        rw [← ey226] at ty226 ry226
        refine va_sld hx hb hX hbl hbA hH.2.2.2.1 (sc_in ty226 hi h6 (by decide)) dL_law_678 ?_
        refine lv_topi (fun y227 ey227 => ?_)
        refine lv_i2l (v := y227.toInt64) hx hb dL_law_679 rfl ?_
        refine lv_ldc2 (v := 4294967295) hx hb hown (hts _ kkl_L_28) dL_law_680 ?_
        refine lv_land hx hb dL_law_683 ?_
        refine lv_topl (fun w228 ew228 => ?_)
        refine lv_lor hx hb dL_law_684 ?_
        refine lv_topl (fun w229 ew229 => ?_)
        refine ca_L_62 hx hb hml hown hts hH (c_X10_constant oI oR mx kx (Rg_w (Rg_c (x := 0) (a := (0)) (b := (0)) (by decide)) (by decide)) (by exact uq)) hl.1 mx kx rfl (by decide) (Nat.le_of_ble_eq_true rfl) ⟨by decide, by decide⟩ dL_law_685 (fun y230 I230 J230 R230 H locs hp hH => ?_)
        obtain ⟨⟨oI, -, sc230⟩, eR230, ry230, hp230⟩ := hp
        obtain rfl : R = R230 := eR230.symm
        have sm : Sm C ms_L_law (I, J, R) (I230, J230, R) := sm.tr sc230 rfl
        have xm : XM L C I230 := XM.sm (u := (I, J, R)) (v := (I230, J230, R)) xm sc230 rfl rfl
        have xw : XW L C I230 := XW.sm (u := (I, J, R)) (v := (I230, J230, R)) xw sc230 rfl rfl
        have fa0o := fa0
        have fa0 : I230 ru 6 = vv0 := (sc230 ru 6 (by rw [kru]; decide)).1.trans fa0
        have fb0o := fb0
        have fb0 : I230 mo 1 = vv0 := (sc230 mo 1 (by rw [km]; decide)).1.trans fb0
        have fa1o := fa1
        have fa1 : I230 tj = vv1 := (funext fun k => (sc230 tj k (by rw [ktj]; exact nm_arr (by decide) rfl)).1).trans fa1
        have fb1o := fb1
        have fb1 : I230 mi = vv1 := (funext fun k => (sc230 mi k (by rw [kmi]; exact nm_arr (by decide) rfl)).1).trans fb1
        refine lv_pop hx hb dL_law_688 rfl ?_
        refine lv_aload_n hx hb dL_law_689 rfl (lv_at hl 2 rfl) ?_
        refine lv_aload_n hx hb dL_law_690 rfl (lv_at hl 0 rfl) ?_
        refine lv_iload_n hx hb dL_law_691 rfl (lv_at hl 3 rfl) ?_
        refine lv_iconst (v := 1) hx hb dL_law_692 (by decide) ?_
        refine lv_iadd hx hb dL_law_693 ?_
        refine lv_topi (fun y231 ey231 => ?_)
        obtain rfl : y216 = y231 := ey216.trans ey231.symm
        refine va_sld hx hb hX hbl hbA hH.2.2.2.1 (sc_in ty216 hi h6 (by decide)) dL_law_694 ?_
        refine lv_topi (fun y232 ey232 => ?_)
        obtain rfl : y217 = y232 := ey217.trans ey232.symm
        refine lv_aload_n hx hb dL_law_695 rfl (lv_at hl 0 rfl) ?_
        refine lv_iload_n hx hb dL_law_696 rfl (lv_at hl 3 rfl) ?_
        refine lv_iconst (v := 2) hx hb dL_law_697 (by decide) ?_
        refine lv_iadd hx hb dL_law_698 ?_
        refine lv_topi (fun y233 ey233 => ?_)
        obtain rfl : y218 = y233 := ey218.trans ey233.symm
        refine va_sld hx hb hX hbl hbA hH.2.2.2.1 (sc_in ty218 hi h6 (by decide)) dL_law_699 ?_
        refine lv_topi (fun y234 ey234 => ?_)
        obtain rfl : y219 = y234 := ey219.trans ey234.symm
        refine lv_if_eq (tgt := 707) hx hb dL_law_700 (by decide) (fun q235 => ?_) (fun q235 => ?_)
        rotate_left
        · exact Rg_no (Rg_nehi r222 (Rg_ne q235) (Rg_c (x := 0) (a := (0)) (b := (0)) (by decide)) (b' := (-1)) (by decide)) (by decide)
        have l236 := congrArg Int32.toInt q235
        refine lv_iconst (v := 0) hx hb dL_law_707 (by decide) ?_
        refine lv_aload_n hx hb dL_law_708 rfl (lv_at hl 0 rfl) ?_
        refine lv_iload_n hx hb dL_law_709 rfl (lv_at hl 3 rfl) ?_
        refine lv_iconst (v := 3) hx hb dL_law_710 (by decide) ?_
        refine lv_iadd hx hb dL_law_711 ?_
        refine lv_topi (fun y237 ey237 => ?_)
        obtain rfl : y223 = y237 := ey223.trans ey237.symm
        refine va_sld hx hb hX hbl hbA hH.2.2.2.1 (sc_in ty223 hi h6 (by decide)) dL_law_712 ?_
        refine lv_topi (fun y238 ey238 => ?_)
        obtain rfl : y224 = y238 := ey224.trans ey238.symm
        refine lv_i2l (v := y224.toInt64) hx hb dL_law_713 rfl ?_
        refine lv_bipush (v := 32) hx hb dL_law_714 (by decide) ?_
        refine lv_lshl hx hb dL_law_716 rfl ?_
        refine lv_topl (fun w239 ew239 => ?_)
        refine lv_aload_n hx hb dL_law_717 rfl (lv_at hl 0 rfl) ?_
        refine lv_iload_n hx hb dL_law_718 rfl (lv_at hl 3 rfl) ?_
        refine lv_iconst (v := 4) hx hb dL_law_719 (by decide) ?_
        refine lv_iadd hx hb dL_law_720 ?_
        refine lv_topi (fun y240 ey240 => ?_)
        obtain rfl : y226 = y240 := ey226.trans ey240.symm
        refine va_sld hx hb hX hbl hbA hH.2.2.2.1 (sc_in ty226 hi h6 (by decide)) dL_law_721 ?_
        refine lv_topi (fun y241 ey241 => ?_)
        obtain rfl : y227 = y241 := ey227.trans ey241.symm
        refine lv_i2l (v := y227.toInt64) hx hb dL_law_722 rfl ?_
        refine lv_ldc2 (v := 4294967295) hx hb hown (hts _ kkl_L_28) dL_law_723 ?_
        refine lv_land hx hb dL_law_726 ?_
        refine lv_topl (fun w242 ew242 => ?_)
        refine lv_lor hx hb dL_law_727 ?_
        refine lv_topl (fun w243 ew243 => ?_)
        refine ca_L_66 hx hb hml hown hts hH (c_X11_constant oI oR mm km (Rg_w (Rg_c (x := 0) (a := (0)) (b := (0)) (by decide)) (by decide)) (by exact uq)) hl.1 mm km rfl (by decide) (Nat.le_of_ble_eq_true rfl) ⟨by decide, by decide⟩ dL_law_728 (fun y244 I244 J244 R244 H locs hp hH => ?_)
        obtain ⟨⟨oI, -, sc244⟩, eR244, ry244, hp244⟩ := hp
        obtain rfl : R = R244 := eR244.symm
        have sm : Sm C ms_L_law (I, J, R) (I244, J244, R) := sm.tr sc244 rfl
        have xm : XM L C I244 := XM.sm (u := (I230, J230, R)) (v := (I244, J244, R)) xm sc244 rfl rfl
        have xw : XW L C I244 := XW.sm (u := (I230, J230, R)) (v := (I244, J244, R)) xw sc244 rfl rfl
        have fa0o := fa0
        have fa0 : I244 ru 6 = vv0 := (sc244 ru 6 (by rw [kru]; decide)).1.trans fa0
        have fb0o := fb0
        have fb0 : I244 mo 1 = vv0 := (sc244 mo 1 (by rw [km]; decide)).1.trans fb0
        have fa1o := fa1
        have fa1 : I244 tj = vv1 := (funext fun k => (sc244 tj k (by rw [ktj]; exact nm_arr (by decide) rfl)).1).trans fa1
        have fb1o := fb1
        have fb1 : I244 mi = vv1 := (funext fun k => (sc244 mi k (by rw [kmi]; exact nm_arr (by decide) rfl)).1).trans fb1
        refine lv_pop hx hb dL_law_731 rfl ?_
        refine lv_goto (tgt := 1244) hx hb dL_law_732 (by decide) ?_
        exact L_1244 h6 I244 J244 R _ _ _ hH oI oR xm xw (fa0.trans fb0.symm) (fa1.trans fb1.symm) (lv_sub hl [0, 1, 2, 3] rfl)
      have l246 := Rg_ne q220
      refine lv_iconst (v := 1) hx hb dL_law_660 (by decide) ?_
      refine lv_goto (tgt := 665) hx hb dL_law_661 (by decide) ?_
      refine lv_aload_n hx hb dL_law_665 rfl (lv_at hl 0 rfl) ?_
      refine lv_iload_n hx hb dL_law_666 rfl (lv_at hl 3 rfl) ?_
      refine lv_iconst (v := 3) hx hb dL_law_667 (by decide) ?_
      refine lv_iadd hx hb dL_law_668 ?_
      refine lv_topi (fun y247 ey247 => ?_)
      obtain ⟨ty247, ry247⟩ := Rg_addx (a' := (3)) (b' := (3075)) (rfl : x3.toInt = _) (by decide : Int32.toInt 3 = 3) r3 (Rg_c (x := 3) (a := (3)) (b := (3)) (by decide)) (by decide)
      rw [← ey247] at ty247 ry247
      refine va_sld hx hb hX hbl hbA hH.2.2.2.1 (sc_in ty247 hi h6 (by decide)) dL_law_669 ?_
      refine lv_topi (fun y248 ey248 => ?_)
      refine lv_i2l (v := y248.toInt64) hx hb dL_law_670 rfl ?_
      refine lv_bipush (v := 32) hx hb dL_law_671 (by decide) ?_
      refine lv_lshl hx hb dL_law_673 rfl ?_
      refine lv_topl (fun w249 ew249 => ?_)
      refine lv_aload_n hx hb dL_law_674 rfl (lv_at hl 0 rfl) ?_
      refine lv_iload_n hx hb dL_law_675 rfl (lv_at hl 3 rfl) ?_
      refine lv_iconst (v := 4) hx hb dL_law_676 (by decide) ?_
      refine lv_iadd hx hb dL_law_677 ?_
      refine lv_topi (fun y250 ey250 => ?_)
      obtain ⟨ty250, ry250⟩ := Rg_addx (a' := (4)) (b' := (3076)) (rfl : x3.toInt = _) (by decide : Int32.toInt 4 = 4) r3 (Rg_c (x := 4) (a := (4)) (b := (4)) (by decide)) (by decide)
      rw [← ey250] at ty250 ry250
      refine va_sld hx hb hX hbl hbA hH.2.2.2.1 (sc_in ty250 hi h6 (by decide)) dL_law_678 ?_
      refine lv_topi (fun y251 ey251 => ?_)
      refine lv_i2l (v := y251.toInt64) hx hb dL_law_679 rfl ?_
      refine lv_ldc2 (v := 4294967295) hx hb hown (hts _ kkl_L_28) dL_law_680 ?_
      refine lv_land hx hb dL_law_683 ?_
      refine lv_topl (fun w252 ew252 => ?_)
      refine lv_lor hx hb dL_law_684 ?_
      refine lv_topl (fun w253 ew253 => ?_)
      refine ca_L_62 hx hb hml hown hts hH (c_X10_constant oI oR mx kx (Rg_w (Rg_c (x := 1) (a := (1)) (b := (1)) (by decide)) (by decide)) (by exact uq)) hl.1 mx kx rfl (by decide) (Nat.le_of_ble_eq_true rfl) ⟨by decide, by decide⟩ dL_law_685 (fun y254 I254 J254 R254 H locs hp hH => ?_)
      obtain ⟨⟨oI, -, sc254⟩, eR254, ry254, hp254⟩ := hp
      obtain rfl : R = R254 := eR254.symm
      have sm : Sm C ms_L_law (I, J, R) (I254, J254, R) := sm.tr sc254 rfl
      have xm : XM L C I254 := XM.sm (u := (I, J, R)) (v := (I254, J254, R)) xm sc254 rfl rfl
      have xw : XW L C I254 := XW.sm (u := (I, J, R)) (v := (I254, J254, R)) xw sc254 rfl rfl
      have fa0o := fa0
      have fa0 : I254 ru 6 = vv0 := (sc254 ru 6 (by rw [kru]; decide)).1.trans fa0
      have fb0o := fb0
      have fb0 : I254 mo 1 = vv0 := (sc254 mo 1 (by rw [km]; decide)).1.trans fb0
      have fa1o := fa1
      have fa1 : I254 tj = vv1 := (funext fun k => (sc254 tj k (by rw [ktj]; exact nm_arr (by decide) rfl)).1).trans fa1
      have fb1o := fb1
      have fb1 : I254 mi = vv1 := (funext fun k => (sc254 mi k (by rw [kmi]; exact nm_arr (by decide) rfl)).1).trans fb1
      refine lv_pop hx hb dL_law_688 rfl ?_
      refine lv_aload_n hx hb dL_law_689 rfl (lv_at hl 2 rfl) ?_
      refine lv_aload_n hx hb dL_law_690 rfl (lv_at hl 0 rfl) ?_
      refine lv_iload_n hx hb dL_law_691 rfl (lv_at hl 3 rfl) ?_
      refine lv_iconst (v := 1) hx hb dL_law_692 (by decide) ?_
      refine lv_iadd hx hb dL_law_693 ?_
      refine lv_topi (fun y255 ey255 => ?_)
      obtain rfl : y216 = y255 := ey216.trans ey255.symm
      refine va_sld hx hb hX hbl hbA hH.2.2.2.1 (sc_in ty216 hi h6 (by decide)) dL_law_694 ?_
      refine lv_topi (fun y256 ey256 => ?_)
      obtain rfl : y217 = y256 := ey217.trans ey256.symm
      refine lv_aload_n hx hb dL_law_695 rfl (lv_at hl 0 rfl) ?_
      refine lv_iload_n hx hb dL_law_696 rfl (lv_at hl 3 rfl) ?_
      refine lv_iconst (v := 2) hx hb dL_law_697 (by decide) ?_
      refine lv_iadd hx hb dL_law_698 ?_
      refine lv_topi (fun y257 ey257 => ?_)
      obtain rfl : y218 = y257 := ey218.trans ey257.symm
      refine va_sld hx hb hX hbl hbA hH.2.2.2.1 (sc_in ty218 hi h6 (by decide)) dL_law_699 ?_
      refine lv_topi (fun y258 ey258 => ?_)
      obtain rfl : y219 = y258 := ey219.trans ey258.symm
      refine lv_if_eq (tgt := 707) hx hb dL_law_700 (by decide) (fun q259 => ?_) (fun q259 => ?_)
      · have l260 := congrArg Int32.toInt q259
        have r261 : Rg y219 (0) (0) := Rg_both (Rg_any y219) (Rg_eqv q259 (Rg_c (x := 0) (a := (0)) (b := (0)) (by decide))) (by decide)
        refine lv_iconst (v := 0) hx hb dL_law_707 (by decide) ?_
        refine lv_aload_n hx hb dL_law_708 rfl (lv_at hl 0 rfl) ?_
        refine lv_iload_n hx hb dL_law_709 rfl (lv_at hl 3 rfl) ?_
        refine lv_iconst (v := 3) hx hb dL_law_710 (by decide) ?_
        refine lv_iadd hx hb dL_law_711 ?_
        refine lv_topi (fun y262 ey262 => ?_)
        obtain rfl : y247 = y262 := ey247.trans ey262.symm
        refine va_sld hx hb hX hbl hbA hH.2.2.2.1 (sc_in ty247 hi h6 (by decide)) dL_law_712 ?_
        refine lv_topi (fun y263 ey263 => ?_)
        obtain rfl : y248 = y263 := ey248.trans ey263.symm
        refine lv_i2l (v := y248.toInt64) hx hb dL_law_713 rfl ?_
        refine lv_bipush (v := 32) hx hb dL_law_714 (by decide) ?_
        refine lv_lshl hx hb dL_law_716 rfl ?_
        refine lv_topl (fun w264 ew264 => ?_)
        refine lv_aload_n hx hb dL_law_717 rfl (lv_at hl 0 rfl) ?_
        refine lv_iload_n hx hb dL_law_718 rfl (lv_at hl 3 rfl) ?_
        refine lv_iconst (v := 4) hx hb dL_law_719 (by decide) ?_
        refine lv_iadd hx hb dL_law_720 ?_
        refine lv_topi (fun y265 ey265 => ?_)
        obtain rfl : y250 = y265 := ey250.trans ey265.symm
        refine va_sld hx hb hX hbl hbA hH.2.2.2.1 (sc_in ty250 hi h6 (by decide)) dL_law_721 ?_
        refine lv_topi (fun y266 ey266 => ?_)
        obtain rfl : y251 = y266 := ey251.trans ey266.symm
        refine lv_i2l (v := y251.toInt64) hx hb dL_law_722 rfl ?_
        refine lv_ldc2 (v := 4294967295) hx hb hown (hts _ kkl_L_28) dL_law_723 ?_
        refine lv_land hx hb dL_law_726 ?_
        refine lv_topl (fun w267 ew267 => ?_)
        refine lv_lor hx hb dL_law_727 ?_
        refine lv_topl (fun w268 ew268 => ?_)
        refine ca_L_66 hx hb hml hown hts hH (c_X11_constant oI oR mm km (Rg_w (Rg_c (x := 0) (a := (0)) (b := (0)) (by decide)) (by decide)) (by exact uq)) hl.1 mm km rfl (by decide) (Nat.le_of_ble_eq_true rfl) ⟨by decide, by decide⟩ dL_law_728 (fun y269 I269 J269 R269 H locs hp hH => ?_)
        obtain ⟨⟨oI, -, sc269⟩, eR269, ry269, hp269⟩ := hp
        obtain rfl : R = R269 := eR269.symm
        have sm : Sm C ms_L_law (I, J, R) (I269, J269, R) := sm.tr sc269 rfl
        have xm : XM L C I269 := XM.sm (u := (I254, J254, R)) (v := (I269, J269, R)) xm sc269 rfl rfl
        have xw : XW L C I269 := XW.sm (u := (I254, J254, R)) (v := (I269, J269, R)) xw sc269 rfl rfl
        have fa0o := fa0
        have fa0 : I269 ru 6 = vv0 := (sc269 ru 6 (by rw [kru]; decide)).1.trans fa0
        have fb0o := fb0
        have fb0 : I269 mo 1 = vv0 := (sc269 mo 1 (by rw [km]; decide)).1.trans fb0
        have fa1o := fa1
        have fa1 : I269 tj = vv1 := (funext fun k => (sc269 tj k (by rw [ktj]; exact nm_arr (by decide) rfl)).1).trans fa1
        have fb1o := fb1
        have fb1 : I269 mi = vv1 := (funext fun k => (sc269 mi k (by rw [kmi]; exact nm_arr (by decide) rfl)).1).trans fb1
        refine lv_pop hx hb dL_law_731 rfl ?_
        refine lv_goto (tgt := 1244) hx hb dL_law_732 (by decide) ?_
        exact L_1244 h6 I269 J269 R _ _ _ hH oI oR xm xw (fa0.trans fb0.symm) (fa1.trans fb1.symm) (lv_sub hl [0, 1, 2, 3] rfl)
      have l270 := Rg_ne q259
      refine lv_iconst (v := 1) hx hb dL_law_703 (by decide) ?_
      refine lv_goto (tgt := 708) hx hb dL_law_704 (by decide) ?_
      refine lv_aload_n hx hb dL_law_708 rfl (lv_at hl 0 rfl) ?_
      refine lv_iload_n hx hb dL_law_709 rfl (lv_at hl 3 rfl) ?_
      refine lv_iconst (v := 3) hx hb dL_law_710 (by decide) ?_
      refine lv_iadd hx hb dL_law_711 ?_
      refine lv_topi (fun y271 ey271 => ?_)
      obtain rfl : y247 = y271 := ey247.trans ey271.symm
      refine va_sld hx hb hX hbl hbA hH.2.2.2.1 (sc_in ty247 hi h6 (by decide)) dL_law_712 ?_
      refine lv_topi (fun y272 ey272 => ?_)
      obtain rfl : y248 = y272 := ey248.trans ey272.symm
      refine lv_i2l (v := y248.toInt64) hx hb dL_law_713 rfl ?_
      refine lv_bipush (v := 32) hx hb dL_law_714 (by decide) ?_
      refine lv_lshl hx hb dL_law_716 rfl ?_
      refine lv_topl (fun w273 ew273 => ?_)
      refine lv_aload_n hx hb dL_law_717 rfl (lv_at hl 0 rfl) ?_
      refine lv_iload_n hx hb dL_law_718 rfl (lv_at hl 3 rfl) ?_
      refine lv_iconst (v := 4) hx hb dL_law_719 (by decide) ?_
      refine lv_iadd hx hb dL_law_720 ?_
      refine lv_topi (fun y274 ey274 => ?_)
      obtain rfl : y250 = y274 := ey250.trans ey274.symm
      refine va_sld hx hb hX hbl hbA hH.2.2.2.1 (sc_in ty250 hi h6 (by decide)) dL_law_721 ?_
      refine lv_topi (fun y275 ey275 => ?_)
      obtain rfl : y251 = y275 := ey251.trans ey275.symm
      refine lv_i2l (v := y251.toInt64) hx hb dL_law_722 rfl ?_
      refine lv_ldc2 (v := 4294967295) hx hb hown (hts _ kkl_L_28) dL_law_723 ?_
      refine lv_land hx hb dL_law_726 ?_
      refine lv_topl (fun w276 ew276 => ?_)
      refine lv_lor hx hb dL_law_727 ?_
      refine lv_topl (fun w277 ew277 => ?_)
      refine ca_L_66 hx hb hml hown hts hH (c_X11_constant oI oR mm km (Rg_w (Rg_c (x := 1) (a := (1)) (b := (1)) (by decide)) (by decide)) (by exact uq)) hl.1 mm km rfl (by decide) (Nat.le_of_ble_eq_true rfl) ⟨by decide, by decide⟩ dL_law_728 (fun y278 I278 J278 R278 H locs hp hH => ?_)
      obtain ⟨⟨oI, -, sc278⟩, eR278, ry278, hp278⟩ := hp
      obtain rfl : R = R278 := eR278.symm
      have sm : Sm C ms_L_law (I, J, R) (I278, J278, R) := sm.tr sc278 rfl
      have xm : XM L C I278 := XM.sm (u := (I254, J254, R)) (v := (I278, J278, R)) xm sc278 rfl rfl
      have xw : XW L C I278 := XW.sm (u := (I254, J254, R)) (v := (I278, J278, R)) xw sc278 rfl rfl
      have fa0o := fa0
      have fa0 : I278 ru 6 = vv0 := (sc278 ru 6 (by rw [kru]; decide)).1.trans fa0
      have fb0o := fb0
      have fb0 : I278 mo 1 = vv0 := (sc278 mo 1 (by rw [km]; decide)).1.trans fb0
      have fa1o := fa1
      have fa1 : I278 tj = vv1 := (funext fun k => (sc278 tj k (by rw [ktj]; exact nm_arr (by decide) rfl)).1).trans fa1
      have fb1o := fb1
      have fb1 : I278 mi = vv1 := (funext fun k => (sc278 mi k (by rw [kmi]; exact nm_arr (by decide) rfl)).1).trans fb1
      refine lv_pop hx hb dL_law_731 rfl ?_
      refine lv_goto (tgt := 1244) hx hb dL_law_732 (by decide) ?_
      exact L_1244 h6 I278 J278 R _ _ _ hH oI oR xm xw (fa0.trans fb0.symm) (fa1.trans fb1.symm) (lv_sub hl [0, 1, 2, 3] rfl)
    · have r279 : Rg y4 (11) (11) := ⟨by rw [z5]; decide, by rw [z5]; decide⟩
      refine lv_tableIn (tgt := 735) hx hb dL_law_33 (by rw [z5]; decide) (by rw [z5]; decide) (by rw [z5]; rfl) (by decide) ?_
      refine lv_aload_n hx hb dL_law_735 rfl (lv_at hl 1 rfl) ?_
      refine lv_aload_n hx hb dL_law_736 rfl (lv_at hl 0 rfl) ?_
      refine lv_iload_n hx hb dL_law_737 rfl (lv_at hl 3 rfl) ?_
      refine lv_iconst (v := 1) hx hb dL_law_738 (by decide) ?_
      refine lv_iadd hx hb dL_law_739 ?_
      refine lv_topi (fun y280 ey280 => ?_)
      obtain ⟨ty280, ry280⟩ := Rg_addx (a' := (1)) (b' := (3073)) (rfl : x3.toInt = _) (by decide : Int32.toInt 1 = 1) r3 (Rg_c (x := 1) (a := (1)) (b := (1)) (by decide)) (by decide)
      rw [← ey280] at ty280 ry280
      refine va_sld hx hb hX hbl hbA hH.2.2.2.1 (sc_in ty280 hi h6 (by decide)) dL_law_740 ?_
      refine lv_topi (fun y281 ey281 => ?_)
      refine lv_aload_n hx hb dL_law_741 rfl (lv_at hl 0 rfl) ?_
      refine lv_iload_n hx hb dL_law_742 rfl (lv_at hl 3 rfl) ?_
      refine lv_iconst (v := 2) hx hb dL_law_743 (by decide) ?_
      refine lv_iadd hx hb dL_law_744 ?_
      refine lv_topi (fun y282 ey282 => ?_)
      obtain ⟨ty282, ry282⟩ := Rg_addx (a' := (2)) (b' := (3074)) (rfl : x3.toInt = _) (by decide : Int32.toInt 2 = 2) r3 (Rg_c (x := 2) (a := (2)) (b := (2)) (by decide)) (by decide)
      rw [← ey282] at ty282 ry282
      refine va_sld hx hb hX hbl hbA hH.2.2.2.1 (sc_in ty282 hi h6 (by decide)) dL_law_745 ?_
      refine lv_topi (fun y283 ey283 => ?_)
      refine lv_aload_n hx hb dL_law_746 rfl (lv_at hl 0 rfl) ?_
      refine lv_iload_n hx hb dL_law_747 rfl (lv_at hl 3 rfl) ?_
      refine lv_iconst (v := 3) hx hb dL_law_748 (by decide) ?_
      refine lv_iadd hx hb dL_law_749 ?_
      refine lv_topi (fun y284 ey284 => ?_)
      obtain ⟨ty284, ry284⟩ := Rg_addx (a' := (3)) (b' := (3075)) (rfl : x3.toInt = _) (by decide : Int32.toInt 3 = 3) r3 (Rg_c (x := 3) (a := (3)) (b := (3)) (by decide)) (by decide)
      rw [← ey284] at ty284 ry284
      refine va_sld hx hb hX hbl hbA hH.2.2.2.1 (sc_in ty284 hi h6 (by decide)) dL_law_750 ?_
      refine lv_topi (fun y285 ey285 => ?_)
      refine lv_aload_n hx hb dL_law_751 rfl (lv_at hl 0 rfl) ?_
      refine lv_iload_n hx hb dL_law_752 rfl (lv_at hl 3 rfl) ?_
      refine lv_iconst (v := 4) hx hb dL_law_753 (by decide) ?_
      refine lv_iadd hx hb dL_law_754 ?_
      refine lv_topi (fun y286 ey286 => ?_)
      obtain ⟨ty286, ry286⟩ := Rg_addx (a' := (4)) (b' := (3076)) (rfl : x3.toInt = _) (by decide : Int32.toInt 4 = 4) r3 (Rg_c (x := 4) (a := (4)) (b := (4)) (by decide)) (by decide)
      rw [← ey286] at ty286 ry286
      refine va_sld hx hb hX hbl hbA hH.2.2.2.1 (sc_in ty286 hi h6 (by decide)) dL_law_755 ?_
      refine lv_topi (fun y287 ey287 => ?_)
      refine ca_L_67 hx hb hml hown hts hH (c_X10_fit oI oR mx kx) hl.1 mx kx rfl (by decide) (Nat.le_of_ble_eq_true rfl) ⟨by decide, by decide⟩ dL_law_756 (fun y288 I288 J288 R288 H locs hp hH => ?_)
      obtain ⟨⟨oI, -, sc288⟩, eJ288, eR288⟩ := hp
      obtain rfl : J = J288 := eJ288.symm
      obtain rfl : R = R288 := eR288.symm
      have sm : Sm C ms_L_law (I, J, R) (I288, J, R) := sm.tr sc288 rfl
      have xm : XM L C I288 := XM.sm (u := (I, J, R)) (v := (I288, J, R)) xm sc288 rfl rfl
      have xw : XW L C I288 := XW.sm (u := (I, J, R)) (v := (I288, J, R)) xw sc288 rfl rfl
      have fa0o := fa0
      have fa0 : I288 ru 6 = vv0 := (sc288 ru 6 (by rw [kru]; decide)).1.trans fa0
      have fb0o := fb0
      have fb0 : I288 mo 1 = vv0 := (sc288 mo 1 (by rw [km]; decide)).1.trans fb0
      have fa1o := fa1
      have fa1 : I288 tj = vv1 := (funext fun k => (sc288 tj k (by rw [ktj]; exact nm_arr (by decide) rfl)).1).trans fa1
      have fb1o := fb1
      have fb1 : I288 mi = vv1 := (funext fun k => (sc288 mi k (by rw [kmi]; exact nm_arr (by decide) rfl)).1).trans fb1
      refine lv_pop hx hb dL_law_759 rfl ?_
      refine lv_aload_n hx hb dL_law_760 rfl (lv_at hl 2 rfl) ?_
      refine lv_aload_n hx hb dL_law_761 rfl (lv_at hl 0 rfl) ?_
      refine lv_iload_n hx hb dL_law_762 rfl (lv_at hl 3 rfl) ?_
      refine lv_iconst (v := 1) hx hb dL_law_763 (by decide) ?_
      refine lv_iadd hx hb dL_law_764 ?_
      refine lv_topi (fun y289 ey289 => ?_)
      obtain rfl : y280 = y289 := ey280.trans ey289.symm
      refine va_sld hx hb hX hbl hbA hH.2.2.2.1 (sc_in ty280 hi h6 (by decide)) dL_law_765 ?_
      refine lv_topi (fun y290 ey290 => ?_)
      obtain rfl : y281 = y290 := ey281.trans ey290.symm
      refine lv_aload_n hx hb dL_law_766 rfl (lv_at hl 0 rfl) ?_
      refine lv_iload_n hx hb dL_law_767 rfl (lv_at hl 3 rfl) ?_
      refine lv_iconst (v := 2) hx hb dL_law_768 (by decide) ?_
      refine lv_iadd hx hb dL_law_769 ?_
      refine lv_topi (fun y291 ey291 => ?_)
      obtain rfl : y282 = y291 := ey282.trans ey291.symm
      refine va_sld hx hb hX hbl hbA hH.2.2.2.1 (sc_in ty282 hi h6 (by decide)) dL_law_770 ?_
      refine lv_topi (fun y292 ey292 => ?_)
      obtain rfl : y283 = y292 := ey283.trans ey292.symm
      refine lv_aload_n hx hb dL_law_771 rfl (lv_at hl 0 rfl) ?_
      refine lv_iload_n hx hb dL_law_772 rfl (lv_at hl 3 rfl) ?_
      refine lv_iconst (v := 3) hx hb dL_law_773 (by decide) ?_
      refine lv_iadd hx hb dL_law_774 ?_
      refine lv_topi (fun y293 ey293 => ?_)
      obtain rfl : y284 = y293 := ey284.trans ey293.symm
      refine va_sld hx hb hX hbl hbA hH.2.2.2.1 (sc_in ty284 hi h6 (by decide)) dL_law_775 ?_
      refine lv_topi (fun y294 ey294 => ?_)
      obtain rfl : y285 = y294 := ey285.trans ey294.symm
      refine lv_aload_n hx hb dL_law_776 rfl (lv_at hl 0 rfl) ?_
      refine lv_iload_n hx hb dL_law_777 rfl (lv_at hl 3 rfl) ?_
      refine lv_iconst (v := 4) hx hb dL_law_778 (by decide) ?_
      refine lv_iadd hx hb dL_law_779 ?_
      refine lv_topi (fun y295 ey295 => ?_)
      obtain rfl : y286 = y295 := ey286.trans ey295.symm
      refine va_sld hx hb hX hbl hbA hH.2.2.2.1 (sc_in ty286 hi h6 (by decide)) dL_law_780 ?_
      refine lv_topi (fun y296 ey296 => ?_)
      obtain rfl : y287 = y296 := ey287.trans ey296.symm
      refine ca_L_70 hx hb hml hown hts hH (c_X11_fit oI oR mm km) hl.1 mm km rfl (by decide) (Nat.le_of_ble_eq_true rfl) ⟨by decide, by decide⟩ dL_law_781 (fun y297 I297 J297 R297 H locs hp hH => ?_)
      obtain ⟨⟨oI, -, sc297⟩, eJ297, eR297⟩ := hp
      obtain rfl : J = J297 := eJ297.symm
      obtain rfl : R = R297 := eR297.symm
      have sm : Sm C ms_L_law (I, J, R) (I297, J, R) := sm.tr sc297 rfl
      have xm : XM L C I297 := XM.sm (u := (I288, J, R)) (v := (I297, J, R)) xm sc297 rfl rfl
      have xw : XW L C I297 := XW.sm (u := (I288, J, R)) (v := (I297, J, R)) xw sc297 rfl rfl
      have fa0o := fa0
      have fa0 : I297 ru 6 = vv0 := (sc297 ru 6 (by rw [kru]; decide)).1.trans fa0
      have fb0o := fb0
      have fb0 : I297 mo 1 = vv0 := (sc297 mo 1 (by rw [km]; decide)).1.trans fb0
      have fa1o := fa1
      have fa1 : I297 tj = vv1 := (funext fun k => (sc297 tj k (by rw [ktj]; exact nm_arr (by decide) rfl)).1).trans fa1
      have fb1o := fb1
      have fb1 : I297 mi = vv1 := (funext fun k => (sc297 mi k (by rw [kmi]; exact nm_arr (by decide) rfl)).1).trans fb1
      refine lv_pop hx hb dL_law_784 rfl ?_
      refine lv_goto (tgt := 1244) hx hb dL_law_785 (by decide) ?_
      exact L_1244 h6 I297 J R _ _ _ hH oI oR xm xw (fa0.trans fb0.symm) (fa1.trans fb1.symm) (lv_sub hl [0, 1, 2, 3] rfl)
    · have r298 : Rg y4 (12) (12) := ⟨by rw [z5]; decide, by rw [z5]; decide⟩
      refine lv_tableIn (tgt := 788) hx hb dL_law_33 (by rw [z5]; decide) (by rw [z5]; decide) (by rw [z5]; rfl) (by decide) ?_
      refine lv_aload_n hx hb dL_law_788 rfl (lv_at hl 1 rfl) ?_
      refine lv_aload_n hx hb dL_law_789 rfl (lv_at hl 0 rfl) ?_
      refine lv_iload_n hx hb dL_law_790 rfl (lv_at hl 3 rfl) ?_
      refine lv_iconst (v := 1) hx hb dL_law_791 (by decide) ?_
      refine lv_iadd hx hb dL_law_792 ?_
      refine lv_topi (fun y299 ey299 => ?_)
      obtain ⟨ty299, ry299⟩ := Rg_addx (a' := (1)) (b' := (3073)) (rfl : x3.toInt = _) (by decide : Int32.toInt 1 = 1) r3 (Rg_c (x := 1) (a := (1)) (b := (1)) (by decide)) (by decide)
      rw [← ey299] at ty299 ry299
      refine va_sld hx hb hX hbl hbA hH.2.2.2.1 (sc_in ty299 hi h6 (by decide)) dL_law_793 ?_
      refine lv_topi (fun y300 ey300 => ?_)
      refine lv_aload_n hx hb dL_law_794 rfl (lv_at hl 0 rfl) ?_
      refine lv_iload_n hx hb dL_law_795 rfl (lv_at hl 3 rfl) ?_
      refine lv_iconst (v := 2) hx hb dL_law_796 (by decide) ?_
      refine lv_iadd hx hb dL_law_797 ?_
      refine lv_topi (fun y301 ey301 => ?_)
      obtain ⟨ty301, ry301⟩ := Rg_addx (a' := (2)) (b' := (3074)) (rfl : x3.toInt = _) (by decide : Int32.toInt 2 = 2) r3 (Rg_c (x := 2) (a := (2)) (b := (2)) (by decide)) (by decide)
      rw [← ey301] at ty301 ry301
      refine va_sld hx hb hX hbl hbA hH.2.2.2.1 (sc_in ty301 hi h6 (by decide)) dL_law_798 ?_
      refine lv_topi (fun y302 ey302 => ?_)
      refine ca_L_71 hx hb hml hown hts hH (c_X10_fits oI oR mx kx) hl.1 mx kx rfl (by decide) (Nat.le_of_ble_eq_true rfl) ⟨by decide, by decide⟩ dL_law_799 (fun y303 I303 J303 R303 H locs hp hH => ?_)
      obtain ⟨⟨oI, -, sc303⟩, eJ303, eR303⟩ := hp
      obtain rfl : J = J303 := eJ303.symm
      obtain rfl : R = R303 := eR303.symm
      have sm : Sm C ms_L_law (I, J, R) (I303, J, R) := sm.tr sc303 rfl
      have xm : XM L C I303 := XM.sm (u := (I, J, R)) (v := (I303, J, R)) xm sc303 rfl rfl
      have xw : XW L C I303 := XW.sm (u := (I, J, R)) (v := (I303, J, R)) xw sc303 rfl rfl
      have fa0o := fa0
      have fa0 : I303 ru 6 = vv0 := (sc303 ru 6 (by rw [kru]; decide)).1.trans fa0
      have fb0o := fb0
      have fb0 : I303 mo 1 = vv0 := (sc303 mo 1 (by rw [km]; decide)).1.trans fb0
      have fa1o := fa1
      have fa1 : I303 tj = vv1 := (funext fun k => (sc303 tj k (by rw [ktj]; exact nm_arr (by decide) rfl)).1).trans fa1
      have fb1o := fb1
      have fb1 : I303 mi = vv1 := (funext fun k => (sc303 mi k (by rw [kmi]; exact nm_arr (by decide) rfl)).1).trans fb1
      refine lv_pop hx hb dL_law_802 rfl ?_
      refine lv_aload_n hx hb dL_law_803 rfl (lv_at hl 2 rfl) ?_
      refine lv_aload_n hx hb dL_law_804 rfl (lv_at hl 0 rfl) ?_
      refine lv_iload_n hx hb dL_law_805 rfl (lv_at hl 3 rfl) ?_
      refine lv_iconst (v := 1) hx hb dL_law_806 (by decide) ?_
      refine lv_iadd hx hb dL_law_807 ?_
      refine lv_topi (fun y304 ey304 => ?_)
      obtain rfl : y299 = y304 := ey299.trans ey304.symm
      refine va_sld hx hb hX hbl hbA hH.2.2.2.1 (sc_in ty299 hi h6 (by decide)) dL_law_808 ?_
      refine lv_topi (fun y305 ey305 => ?_)
      obtain rfl : y300 = y305 := ey300.trans ey305.symm
      refine lv_aload_n hx hb dL_law_809 rfl (lv_at hl 0 rfl) ?_
      refine lv_iload_n hx hb dL_law_810 rfl (lv_at hl 3 rfl) ?_
      refine lv_iconst (v := 2) hx hb dL_law_811 (by decide) ?_
      refine lv_iadd hx hb dL_law_812 ?_
      refine lv_topi (fun y306 ey306 => ?_)
      obtain rfl : y301 = y306 := ey301.trans ey306.symm
      refine va_sld hx hb hX hbl hbA hH.2.2.2.1 (sc_in ty301 hi h6 (by decide)) dL_law_813 ?_
      refine lv_topi (fun y307 ey307 => ?_)
      obtain rfl : y302 = y307 := ey302.trans ey307.symm
      refine ca_L_75 hx hb hml hown hts hH (c_X11_fits oI oR mm km) hl.1 mm km rfl (by decide) (Nat.le_of_ble_eq_true rfl) ⟨by decide, by decide⟩ dL_law_814 (fun y308 I308 J308 R308 H locs hp hH => ?_)
      obtain ⟨⟨oI, -, sc308⟩, eJ308, eR308, ry308⟩ := hp
      obtain rfl : J = J308 := eJ308.symm
      obtain rfl : R = R308 := eR308.symm
      have sm : Sm C ms_L_law (I, J, R) (I308, J, R) := sm.tr sc308 rfl
      have xm : XM L C I308 := XM.sm (u := (I303, J, R)) (v := (I308, J, R)) xm sc308 rfl rfl
      have xw : XW L C I308 := XW.sm (u := (I303, J, R)) (v := (I308, J, R)) xw sc308 rfl rfl
      have fa0o := fa0
      have fa0 : I308 ru 6 = vv0 := (sc308 ru 6 (by rw [kru]; decide)).1.trans fa0
      have fb0o := fb0
      have fb0 : I308 mo 1 = vv0 := (sc308 mo 1 (by rw [km]; decide)).1.trans fb0
      have fa1o := fa1
      have fa1 : I308 tj = vv1 := (funext fun k => (sc308 tj k (by rw [ktj]; exact nm_arr (by decide) rfl)).1).trans fa1
      have fb1o := fb1
      have fb1 : I308 mi = vv1 := (funext fun k => (sc308 mi k (by rw [kmi]; exact nm_arr (by decide) rfl)).1).trans fb1
      refine lv_pop hx hb dL_law_817 rfl ?_
      refine lv_goto (tgt := 1244) hx hb dL_law_818 (by decide) ?_
      exact L_1244 h6 I308 J R _ _ _ hH oI oR xm xw (fa0.trans fb0.symm) (fa1.trans fb1.symm) (lv_sub hl [0, 1, 2, 3] rfl)
    · have r309 : Rg y4 (13) (13) := ⟨by rw [z5]; decide, by rw [z5]; decide⟩
      refine lv_tableIn (tgt := 821) hx hb dL_law_33 (by rw [z5]; decide) (by rw [z5]; decide) (by rw [z5]; rfl) (by decide) ?_
      refine lv_aload_n hx hb dL_law_821 rfl (lv_at hl 1 rfl) ?_
      refine lv_aload_n hx hb dL_law_822 rfl (lv_at hl 0 rfl) ?_
      refine lv_iload_n hx hb dL_law_823 rfl (lv_at hl 3 rfl) ?_
      refine lv_iconst (v := 1) hx hb dL_law_824 (by decide) ?_
      refine lv_iadd hx hb dL_law_825 ?_
      refine lv_topi (fun y310 ey310 => ?_)
      obtain ⟨ty310, ry310⟩ := Rg_addx (a' := (1)) (b' := (3073)) (rfl : x3.toInt = _) (by decide : Int32.toInt 1 = 1) r3 (Rg_c (x := 1) (a := (1)) (b := (1)) (by decide)) (by decide)
      rw [← ey310] at ty310 ry310
      refine va_sld hx hb hX hbl hbA hH.2.2.2.1 (sc_in ty310 hi h6 (by decide)) dL_law_826 ?_
      refine lv_topi (fun y311 ey311 => ?_)
      refine lv_aload_n hx hb dL_law_827 rfl (lv_at hl 0 rfl) ?_
      refine lv_iload_n hx hb dL_law_828 rfl (lv_at hl 3 rfl) ?_
      refine lv_iconst (v := 2) hx hb dL_law_829 (by decide) ?_
      refine lv_iadd hx hb dL_law_830 ?_
      refine lv_topi (fun y312 ey312 => ?_)
      obtain ⟨ty312, ry312⟩ := Rg_addx (a' := (2)) (b' := (3074)) (rfl : x3.toInt = _) (by decide : Int32.toInt 2 = 2) r3 (Rg_c (x := 2) (a := (2)) (b := (2)) (by decide)) (by decide)
      rw [← ey312] at ty312 ry312
      refine va_sld hx hb hX hbl hbA hH.2.2.2.1 (sc_in ty312 hi h6 (by decide)) dL_law_831 ?_
      refine lv_topi (fun y313 ey313 => ?_)
      refine ca_L_76 hx hb hml hown hts hH (c_X10_gap oI oR mx kx) hl.1 mx kx rfl (by decide) (Nat.le_of_ble_eq_true rfl) ⟨by decide, by decide⟩ dL_law_832 (fun y314 I314 J314 R314 H locs hp hH => ?_)
      obtain ⟨⟨oI, -, sc314⟩, eJ314, eR314, ry314⟩ := hp
      obtain rfl : J = J314 := eJ314.symm
      obtain rfl : R = R314 := eR314.symm
      have sm : Sm C ms_L_law (I, J, R) (I314, J, R) := sm.tr sc314 rfl
      have xm : XM L C I314 := XM.sm (u := (I, J, R)) (v := (I314, J, R)) xm sc314 rfl rfl
      have xw : XW L C I314 := XW.sm (u := (I, J, R)) (v := (I314, J, R)) xw sc314 rfl rfl
      have fa0o := fa0
      have fa0 : I314 ru 6 = vv0 := (sc314 ru 6 (by rw [kru]; decide)).1.trans fa0
      have fb0o := fb0
      have fb0 : I314 mo 1 = vv0 := (sc314 mo 1 (by rw [km]; decide)).1.trans fb0
      have fa1o := fa1
      have fa1 : I314 tj = vv1 := (funext fun k => (sc314 tj k (by rw [ktj]; exact nm_arr (by decide) rfl)).1).trans fa1
      have fb1o := fb1
      have fb1 : I314 mi = vv1 := (funext fun k => (sc314 mi k (by rw [kmi]; exact nm_arr (by decide) rfl)).1).trans fb1
      refine lv_pop hx hb dL_law_835 rfl ?_
      refine lv_aload_n hx hb dL_law_836 rfl (lv_at hl 2 rfl) ?_
      refine lv_aload_n hx hb dL_law_837 rfl (lv_at hl 0 rfl) ?_
      refine lv_iload_n hx hb dL_law_838 rfl (lv_at hl 3 rfl) ?_
      refine lv_iconst (v := 1) hx hb dL_law_839 (by decide) ?_
      refine lv_iadd hx hb dL_law_840 ?_
      refine lv_topi (fun y315 ey315 => ?_)
      obtain rfl : y310 = y315 := ey310.trans ey315.symm
      refine va_sld hx hb hX hbl hbA hH.2.2.2.1 (sc_in ty310 hi h6 (by decide)) dL_law_841 ?_
      refine lv_topi (fun y316 ey316 => ?_)
      obtain rfl : y311 = y316 := ey311.trans ey316.symm
      refine lv_aload_n hx hb dL_law_842 rfl (lv_at hl 0 rfl) ?_
      refine lv_iload_n hx hb dL_law_843 rfl (lv_at hl 3 rfl) ?_
      refine lv_iconst (v := 2) hx hb dL_law_844 (by decide) ?_
      refine lv_iadd hx hb dL_law_845 ?_
      refine lv_topi (fun y317 ey317 => ?_)
      obtain rfl : y312 = y317 := ey312.trans ey317.symm
      refine va_sld hx hb hX hbl hbA hH.2.2.2.1 (sc_in ty312 hi h6 (by decide)) dL_law_846 ?_
      refine lv_topi (fun y318 ey318 => ?_)
      obtain rfl : y313 = y318 := ey313.trans ey318.symm
      refine ca_L_79 hx hb hml hown hts hH (c_X11_gap oI oR mm km) hl.1 mm km rfl (by decide) (Nat.le_of_ble_eq_true rfl) ⟨by decide, by decide⟩ dL_law_847 (fun y319 I319 J319 R319 H locs hp hH => ?_)
      obtain ⟨⟨oI, -, sc319⟩, eJ319, eR319, ry319⟩ := hp
      obtain rfl : J = J319 := eJ319.symm
      obtain rfl : R = R319 := eR319.symm
      have sm : Sm C ms_L_law (I, J, R) (I319, J, R) := sm.tr sc319 rfl
      have xm : XM L C I319 := XM.sm (u := (I314, J, R)) (v := (I319, J, R)) xm sc319 rfl rfl
      have xw : XW L C I319 := XW.sm (u := (I314, J, R)) (v := (I319, J, R)) xw sc319 rfl rfl
      have fa0o := fa0
      have fa0 : I319 ru 6 = vv0 := (sc319 ru 6 (by rw [kru]; decide)).1.trans fa0
      have fb0o := fb0
      have fb0 : I319 mo 1 = vv0 := (sc319 mo 1 (by rw [km]; decide)).1.trans fb0
      have fa1o := fa1
      have fa1 : I319 tj = vv1 := (funext fun k => (sc319 tj k (by rw [ktj]; exact nm_arr (by decide) rfl)).1).trans fa1
      have fb1o := fb1
      have fb1 : I319 mi = vv1 := (funext fun k => (sc319 mi k (by rw [kmi]; exact nm_arr (by decide) rfl)).1).trans fb1
      refine lv_pop hx hb dL_law_850 rfl ?_
      refine lv_goto (tgt := 1244) hx hb dL_law_851 (by decide) ?_
      exact L_1244 h6 I319 J R _ _ _ hH oI oR xm xw (fa0.trans fb0.symm) (fa1.trans fb1.symm) (lv_sub hl [0, 1, 2, 3] rfl)
    · have r320 : Rg y4 (14) (14) := ⟨by rw [z5]; decide, by rw [z5]; decide⟩
      refine lv_tableIn (tgt := 854) hx hb dL_law_33 (by rw [z5]; decide) (by rw [z5]; decide) (by rw [z5]; rfl) (by decide) ?_
      refine lv_aload_n hx hb dL_law_854 rfl (lv_at hl 1 rfl) ?_
      refine lv_aload_n hx hb dL_law_855 rfl (lv_at hl 0 rfl) ?_
      refine lv_iload_n hx hb dL_law_856 rfl (lv_at hl 3 rfl) ?_
      refine lv_iconst (v := 1) hx hb dL_law_857 (by decide) ?_
      refine lv_iadd hx hb dL_law_858 ?_
      refine lv_topi (fun y321 ey321 => ?_)
      obtain ⟨ty321, ry321⟩ := Rg_addx (a' := (1)) (b' := (3073)) (rfl : x3.toInt = _) (by decide : Int32.toInt 1 = 1) r3 (Rg_c (x := 1) (a := (1)) (b := (1)) (by decide)) (by decide)
      rw [← ey321] at ty321 ry321
      refine va_sld hx hb hX hbl hbA hH.2.2.2.1 (sc_in ty321 hi h6 (by decide)) dL_law_859 ?_
      refine lv_topi (fun y322 ey322 => ?_)
      refine lv_aload_n hx hb dL_law_860 rfl (lv_at hl 0 rfl) ?_
      refine lv_iload_n hx hb dL_law_861 rfl (lv_at hl 3 rfl) ?_
      refine lv_iconst (v := 2) hx hb dL_law_862 (by decide) ?_
      refine lv_iadd hx hb dL_law_863 ?_
      refine lv_topi (fun y323 ey323 => ?_)
      obtain ⟨ty323, ry323⟩ := Rg_addx (a' := (2)) (b' := (3074)) (rfl : x3.toInt = _) (by decide : Int32.toInt 2 = 2) r3 (Rg_c (x := 2) (a := (2)) (b := (2)) (by decide)) (by decide)
      rw [← ey323] at ty323 ry323
      refine va_sld hx hb hX hbl hbA hH.2.2.2.1 (sc_in ty323 hi h6 (by decide)) dL_law_864 ?_
      refine lv_topi (fun y324 ey324 => ?_)
      refine lv_aload_n hx hb dL_law_865 rfl (lv_at hl 0 rfl) ?_
      refine lv_iload_n hx hb dL_law_866 rfl (lv_at hl 3 rfl) ?_
      refine lv_iconst (v := 3) hx hb dL_law_867 (by decide) ?_
      refine lv_iadd hx hb dL_law_868 ?_
      refine lv_topi (fun y325 ey325 => ?_)
      obtain ⟨ty325, ry325⟩ := Rg_addx (a' := (3)) (b' := (3075)) (rfl : x3.toInt = _) (by decide : Int32.toInt 3 = 3) r3 (Rg_c (x := 3) (a := (3)) (b := (3)) (by decide)) (by decide)
      rw [← ey325] at ty325 ry325
      refine va_sld hx hb hX hbl hbA hH.2.2.2.1 (sc_in ty325 hi h6 (by decide)) dL_law_869 ?_
      refine lv_topi (fun y326 ey326 => ?_)
      refine ca_L_80 hx hb hml hown hts hH (c_X10_way oI oR mx kx) hl.1 mx kx rfl (by decide) (Nat.le_of_ble_eq_true rfl) ⟨by decide, by decide⟩ dL_law_870 (fun y327 I327 J327 R327 H locs hp hH => ?_)
      obtain ⟨⟨oI, -, sc327⟩, eJ327, eR327⟩ := hp
      obtain rfl : J = J327 := eJ327.symm
      obtain rfl : R = R327 := eR327.symm
      have sm : Sm C ms_L_law (I, J, R) (I327, J, R) := sm.tr sc327 rfl
      have xm : XM L C I327 := XM.sm (u := (I, J, R)) (v := (I327, J, R)) xm sc327 rfl rfl
      have xw : XW L C I327 := XW.sm (u := (I, J, R)) (v := (I327, J, R)) xw sc327 rfl rfl
      have fa0o := fa0
      have fa0 : I327 ru 6 = vv0 := (sc327 ru 6 (by rw [kru]; decide)).1.trans fa0
      have fb0o := fb0
      have fb0 : I327 mo 1 = vv0 := (sc327 mo 1 (by rw [km]; decide)).1.trans fb0
      have fa1o := fa1
      have fa1 : I327 tj = vv1 := (funext fun k => (sc327 tj k (by rw [ktj]; exact nm_arr (by decide) rfl)).1).trans fa1
      have fb1o := fb1
      have fb1 : I327 mi = vv1 := (funext fun k => (sc327 mi k (by rw [kmi]; exact nm_arr (by decide) rfl)).1).trans fb1
      refine lv_pop hx hb dL_law_873 rfl ?_
      refine lv_aload_n hx hb dL_law_874 rfl (lv_at hl 2 rfl) ?_
      refine lv_aload_n hx hb dL_law_875 rfl (lv_at hl 0 rfl) ?_
      refine lv_iload_n hx hb dL_law_876 rfl (lv_at hl 3 rfl) ?_
      refine lv_iconst (v := 1) hx hb dL_law_877 (by decide) ?_
      refine lv_iadd hx hb dL_law_878 ?_
      refine lv_topi (fun y328 ey328 => ?_)
      obtain rfl : y321 = y328 := ey321.trans ey328.symm
      refine va_sld hx hb hX hbl hbA hH.2.2.2.1 (sc_in ty321 hi h6 (by decide)) dL_law_879 ?_
      refine lv_topi (fun y329 ey329 => ?_)
      obtain rfl : y322 = y329 := ey322.trans ey329.symm
      refine lv_aload_n hx hb dL_law_880 rfl (lv_at hl 0 rfl) ?_
      refine lv_iload_n hx hb dL_law_881 rfl (lv_at hl 3 rfl) ?_
      refine lv_iconst (v := 2) hx hb dL_law_882 (by decide) ?_
      refine lv_iadd hx hb dL_law_883 ?_
      refine lv_topi (fun y330 ey330 => ?_)
      obtain rfl : y323 = y330 := ey323.trans ey330.symm
      refine va_sld hx hb hX hbl hbA hH.2.2.2.1 (sc_in ty323 hi h6 (by decide)) dL_law_884 ?_
      refine lv_topi (fun y331 ey331 => ?_)
      obtain rfl : y324 = y331 := ey324.trans ey331.symm
      refine lv_aload_n hx hb dL_law_885 rfl (lv_at hl 0 rfl) ?_
      refine lv_iload_n hx hb dL_law_886 rfl (lv_at hl 3 rfl) ?_
      refine lv_iconst (v := 3) hx hb dL_law_887 (by decide) ?_
      refine lv_iadd hx hb dL_law_888 ?_
      refine lv_topi (fun y332 ey332 => ?_)
      obtain rfl : y325 = y332 := ey325.trans ey332.symm
      refine va_sld hx hb hX hbl hbA hH.2.2.2.1 (sc_in ty325 hi h6 (by decide)) dL_law_889 ?_
      refine lv_topi (fun y333 ey333 => ?_)
      obtain rfl : y326 = y333 := ey326.trans ey333.symm
      refine ca_L_83 hx hb hml hown hts hH (c_X11_way oI oR mm km) hl.1 mm km rfl (by decide) (Nat.le_of_ble_eq_true rfl) ⟨by decide, by decide⟩ dL_law_890 (fun y334 I334 J334 R334 H locs hp hH => ?_)
      obtain ⟨⟨oI, -, sc334⟩, eJ334, eR334, ry334⟩ := hp
      obtain rfl : J = J334 := eJ334.symm
      obtain rfl : R = R334 := eR334.symm
      have sm : Sm C ms_L_law (I, J, R) (I334, J, R) := sm.tr sc334 rfl
      have xm : XM L C I334 := XM.sm (u := (I327, J, R)) (v := (I334, J, R)) xm sc334 rfl rfl
      have xw : XW L C I334 := XW.sm (u := (I327, J, R)) (v := (I334, J, R)) xw sc334 rfl rfl
      have fa0o := fa0
      have fa0 : I334 ru 6 = vv0 := (sc334 ru 6 (by rw [kru]; decide)).1.trans fa0
      have fb0o := fb0
      have fb0 : I334 mo 1 = vv0 := (sc334 mo 1 (by rw [km]; decide)).1.trans fb0
      have fa1o := fa1
      have fa1 : I334 tj = vv1 := (funext fun k => (sc334 tj k (by rw [ktj]; exact nm_arr (by decide) rfl)).1).trans fa1
      have fb1o := fb1
      have fb1 : I334 mi = vv1 := (funext fun k => (sc334 mi k (by rw [kmi]; exact nm_arr (by decide) rfl)).1).trans fb1
      refine lv_pop hx hb dL_law_893 rfl ?_
      refine lv_goto (tgt := 1244) hx hb dL_law_894 (by decide) ?_
      exact L_1244 h6 I334 J R _ _ _ hH oI oR xm xw (fa0.trans fb0.symm) (fa1.trans fb1.symm) (lv_sub hl [0, 1, 2, 3] rfl)
    · have r335 : Rg y4 (15) (15) := ⟨by rw [z5]; decide, by rw [z5]; decide⟩
      refine lv_tableIn (tgt := 897) hx hb dL_law_33 (by rw [z5]; decide) (by rw [z5]; decide) (by rw [z5]; rfl) (by decide) ?_
      refine lv_aload_n hx hb dL_law_897 rfl (lv_at hl 1 rfl) ?_
      refine lv_aload_n hx hb dL_law_898 rfl (lv_at hl 0 rfl) ?_
      refine lv_iload_n hx hb dL_law_899 rfl (lv_at hl 3 rfl) ?_
      refine lv_iconst (v := 1) hx hb dL_law_900 (by decide) ?_
      refine lv_iadd hx hb dL_law_901 ?_
      refine lv_topi (fun y336 ey336 => ?_)
      obtain ⟨ty336, ry336⟩ := Rg_addx (a' := (1)) (b' := (3073)) (rfl : x3.toInt = _) (by decide : Int32.toInt 1 = 1) r3 (Rg_c (x := 1) (a := (1)) (b := (1)) (by decide)) (by decide)
      rw [← ey336] at ty336 ry336
      refine va_sld hx hb hX hbl hbA hH.2.2.2.1 (sc_in ty336 hi h6 (by decide)) dL_law_902 ?_
      refine lv_topi (fun y337 ey337 => ?_)
      refine ca_L_84 hx hb hml hown hts hH (c_X10_object oI oR mx kx (by exact uq)) hl.1 mx kx rfl (by decide) (Nat.le_of_ble_eq_true rfl) ⟨by decide, by decide⟩ dL_law_903 (fun y338 I338 J338 R338 H locs hp hH => ?_)
      obtain ⟨⟨oI, -, sc338⟩, eJ338, eR338, ry338, hp338⟩ := hp
      obtain rfl : J = J338 := eJ338.symm
      obtain rfl : R = R338 := eR338.symm
      have sm : Sm C ms_L_law (I, J, R) (I338, J, R) := sm.tr sc338 rfl
      have xm : XM L C I338 := XM.sm (u := (I, J, R)) (v := (I338, J, R)) xm sc338 rfl rfl
      have xw : XW L C I338 := XW.sm (u := (I, J, R)) (v := (I338, J, R)) xw sc338 rfl rfl
      have fa0o := fa0
      have fa0 : I338 ru 6 = vv0 := (sc338 ru 6 (by rw [kru]; decide)).1.trans fa0
      have fb0o := fb0
      have fb0 : I338 mo 1 = vv0 := (sc338 mo 1 (by rw [km]; decide)).1.trans fb0
      have fa1o := fa1
      have fa1 : I338 tj = vv1 := (funext fun k => (sc338 tj k (by rw [ktj]; exact nm_arr (by decide) rfl)).1).trans fa1
      have fb1o := fb1
      have fb1 : I338 mi = vv1 := (funext fun k => (sc338 mi k (by rw [kmi]; exact nm_arr (by decide) rfl)).1).trans fb1
      refine lv_pop hx hb dL_law_906 rfl ?_
      refine lv_aload_n hx hb dL_law_907 rfl (lv_at hl 2 rfl) ?_
      refine lv_aload_n hx hb dL_law_908 rfl (lv_at hl 0 rfl) ?_
      refine lv_iload_n hx hb dL_law_909 rfl (lv_at hl 3 rfl) ?_
      refine lv_iconst (v := 1) hx hb dL_law_910 (by decide) ?_
      refine lv_iadd hx hb dL_law_911 ?_
      refine lv_topi (fun y339 ey339 => ?_)
      obtain rfl : y336 = y339 := ey336.trans ey339.symm
      refine va_sld hx hb hX hbl hbA hH.2.2.2.1 (sc_in ty336 hi h6 (by decide)) dL_law_912 ?_
      refine lv_topi (fun y340 ey340 => ?_)
      obtain rfl : y337 = y340 := ey337.trans ey340.symm
      refine ca_L_87 hx hb hml hown hts hH (c_X11_object oI oR mm km) hl.1 mm km rfl (by decide) (Nat.le_of_ble_eq_true rfl) ⟨by decide, by decide⟩ dL_law_913 (fun y341 I341 J341 R341 H locs hp hH => ?_)
      obtain ⟨⟨oI, -, sc341⟩, eJ341, eR341, ry341, hp341⟩ := hp
      obtain rfl : J = J341 := eJ341.symm
      obtain rfl : R = R341 := eR341.symm
      have sm : Sm C ms_L_law (I, J, R) (I341, J, R) := sm.tr sc341 rfl
      have xm : XM L C I341 := XM.sm (u := (I338, J, R)) (v := (I341, J, R)) xm sc341 rfl rfl
      have xw : XW L C I341 := XW.sm (u := (I338, J, R)) (v := (I341, J, R)) xw sc341 rfl rfl
      have fa0o := fa0
      have fa0 : I341 ru 6 = vv0 := (sc341 ru 6 (by rw [kru]; decide)).1.trans fa0
      have fb0o := fb0
      have fb0 : I341 mo 1 = vv0 := (sc341 mo 1 (by rw [km]; decide)).1.trans fb0
      have fa1o := fa1
      have fa1 : I341 tj = vv1 := (funext fun k => (sc341 tj k (by rw [ktj]; exact nm_arr (by decide) rfl)).1).trans fa1
      have fb1o := fb1
      have fb1 : I341 mi = vv1 := (funext fun k => (sc341 mi k (by rw [kmi]; exact nm_arr (by decide) rfl)).1).trans fb1
      refine lv_pop hx hb dL_law_916 rfl ?_
      refine lv_goto (tgt := 1244) hx hb dL_law_917 (by decide) ?_
      exact L_1244 h6 I341 J R _ _ _ hH oI oR xm xw (fa0.trans fb0.symm) (fa1.trans fb1.symm) (lv_sub hl [0, 1, 2, 3] rfl)
    · have r342 : Rg y4 (16) (16) := ⟨by rw [z5]; decide, by rw [z5]; decide⟩
      refine lv_tableIn (tgt := 920) hx hb dL_law_33 (by rw [z5]; decide) (by rw [z5]; decide) (by rw [z5]; rfl) (by decide) ?_
      refine lv_aload_n hx hb dL_law_920 rfl (lv_at hl 1 rfl) ?_
      refine lv_aload_n hx hb dL_law_921 rfl (lv_at hl 0 rfl) ?_
      refine lv_iload_n hx hb dL_law_922 rfl (lv_at hl 3 rfl) ?_
      refine lv_iconst (v := 1) hx hb dL_law_923 (by decide) ?_
      refine lv_iadd hx hb dL_law_924 ?_
      refine lv_topi (fun y343 ey343 => ?_)
      obtain ⟨ty343, ry343⟩ := Rg_addx (a' := (1)) (b' := (3073)) (rfl : x3.toInt = _) (by decide : Int32.toInt 1 = 1) r3 (Rg_c (x := 1) (a := (1)) (b := (1)) (by decide)) (by decide)
      rw [← ey343] at ty343 ry343
      refine va_sld hx hb hX hbl hbA hH.2.2.2.1 (sc_in ty343 hi h6 (by decide)) dL_law_925 ?_
      refine lv_topi (fun y344 ey344 => ?_)
      refine lv_aload_n hx hb dL_law_926 rfl (lv_at hl 0 rfl) ?_
      refine lv_iload_n hx hb dL_law_927 rfl (lv_at hl 3 rfl) ?_
      refine lv_iconst (v := 2) hx hb dL_law_928 (by decide) ?_
      refine lv_iadd hx hb dL_law_929 ?_
      refine lv_topi (fun y345 ey345 => ?_)
      obtain ⟨ty345, ry345⟩ := Rg_addx (a' := (2)) (b' := (3074)) (rfl : x3.toInt = _) (by decide : Int32.toInt 2 = 2) r3 (Rg_c (x := 2) (a := (2)) (b := (2)) (by decide)) (by decide)
      rw [← ey345] at ty345 ry345
      refine va_sld hx hb hX hbl hbA hH.2.2.2.1 (sc_in ty345 hi h6 (by decide)) dL_law_930 ?_
      refine lv_topi (fun y346 ey346 => ?_)
      refine lv_aload_n hx hb dL_law_931 rfl (lv_at hl 0 rfl) ?_
      refine lv_iload_n hx hb dL_law_932 rfl (lv_at hl 3 rfl) ?_
      refine lv_iconst (v := 3) hx hb dL_law_933 (by decide) ?_
      refine lv_iadd hx hb dL_law_934 ?_
      refine lv_topi (fun y347 ey347 => ?_)
      obtain ⟨ty347, ry347⟩ := Rg_addx (a' := (3)) (b' := (3075)) (rfl : x3.toInt = _) (by decide : Int32.toInt 3 = 3) r3 (Rg_c (x := 3) (a := (3)) (b := (3)) (by decide)) (by decide)
      rw [← ey347] at ty347 ry347
      refine va_sld hx hb hX hbl hbA hH.2.2.2.1 (sc_in ty347 hi h6 (by decide)) dL_law_935 ?_
      refine lv_topi (fun y348 ey348 => ?_)
      refine lv_i2l (v := y348.toInt64) hx hb dL_law_936 rfl ?_
      refine lv_bipush (v := 32) hx hb dL_law_937 (by decide) ?_
      refine lv_lshl hx hb dL_law_939 rfl ?_
      refine lv_topl (fun w349 ew349 => ?_)
      refine lv_aload_n hx hb dL_law_940 rfl (lv_at hl 0 rfl) ?_
      refine lv_iload_n hx hb dL_law_941 rfl (lv_at hl 3 rfl) ?_
      refine lv_iconst (v := 4) hx hb dL_law_942 (by decide) ?_
      refine lv_iadd hx hb dL_law_943 ?_
      refine lv_topi (fun y350 ey350 => ?_)
      obtain ⟨ty350, ry350⟩ := Rg_addx (a' := (4)) (b' := (3076)) (rfl : x3.toInt = _) (by decide : Int32.toInt 4 = 4) r3 (Rg_c (x := 4) (a := (4)) (b := (4)) (by decide)) (by decide)
      rw [← ey350] at ty350 ry350
      refine va_sld hx hb hX hbl hbA hH.2.2.2.1 (sc_in ty350 hi h6 (by decide)) dL_law_944 ?_
      refine lv_topi (fun y351 ey351 => ?_)
      refine lv_i2l (v := y351.toInt64) hx hb dL_law_945 rfl ?_
      refine lv_ldc2 (v := 4294967295) hx hb hown (hts _ kkl_L_28) dL_law_946 ?_
      refine lv_land hx hb dL_law_949 ?_
      refine lv_topl (fun w352 ew352 => ?_)
      refine lv_lor hx hb dL_law_950 ?_
      refine lv_topl (fun w353 ew353 => ?_)
      refine ca_L_88 hx hb hml hown hts hH (c_X10_put oI oR mx kx (by exact uq)) hl.1 mx kx rfl (by decide) (Nat.le_of_ble_eq_true rfl) ⟨by decide, by decide⟩ dL_law_951 (fun y354 I354 J354 R354 H locs hp hH => ?_)
      obtain ⟨⟨-, -, sc354⟩, eI354, eR354, ry354, hp354⟩ := hp
      obtain rfl : I = I354 := eI354.symm
      obtain rfl : R = R354 := eR354.symm
      have sm : Sm C ms_L_law (I, J, R) (I, J354, R) := sm.tr sc354 rfl
      have xm : XM L C I := XM.sm (u := (I, J, R)) (v := (I, J354, R)) xm sc354 rfl rfl
      have xw : XW L C I := XW.sm (u := (I, J, R)) (v := (I, J354, R)) xw sc354 rfl rfl
      refine lv_pop hx hb dL_law_954 rfl ?_
      refine lv_aload_n hx hb dL_law_955 rfl (lv_at hl 2 rfl) ?_
      refine lv_aload_n hx hb dL_law_956 rfl (lv_at hl 0 rfl) ?_
      refine lv_iload_n hx hb dL_law_957 rfl (lv_at hl 3 rfl) ?_
      refine lv_iconst (v := 1) hx hb dL_law_958 (by decide) ?_
      refine lv_iadd hx hb dL_law_959 ?_
      refine lv_topi (fun y355 ey355 => ?_)
      obtain rfl : y343 = y355 := ey343.trans ey355.symm
      refine va_sld hx hb hX hbl hbA hH.2.2.2.1 (sc_in ty343 hi h6 (by decide)) dL_law_960 ?_
      refine lv_topi (fun y356 ey356 => ?_)
      obtain rfl : y344 = y356 := ey344.trans ey356.symm
      refine lv_aload_n hx hb dL_law_961 rfl (lv_at hl 0 rfl) ?_
      refine lv_iload_n hx hb dL_law_962 rfl (lv_at hl 3 rfl) ?_
      refine lv_iconst (v := 2) hx hb dL_law_963 (by decide) ?_
      refine lv_iadd hx hb dL_law_964 ?_
      refine lv_topi (fun y357 ey357 => ?_)
      obtain rfl : y345 = y357 := ey345.trans ey357.symm
      refine va_sld hx hb hX hbl hbA hH.2.2.2.1 (sc_in ty345 hi h6 (by decide)) dL_law_965 ?_
      refine lv_topi (fun y358 ey358 => ?_)
      obtain rfl : y346 = y358 := ey346.trans ey358.symm
      refine lv_aload_n hx hb dL_law_966 rfl (lv_at hl 0 rfl) ?_
      refine lv_iload_n hx hb dL_law_967 rfl (lv_at hl 3 rfl) ?_
      refine lv_iconst (v := 3) hx hb dL_law_968 (by decide) ?_
      refine lv_iadd hx hb dL_law_969 ?_
      refine lv_topi (fun y359 ey359 => ?_)
      obtain rfl : y347 = y359 := ey347.trans ey359.symm
      refine va_sld hx hb hX hbl hbA hH.2.2.2.1 (sc_in ty347 hi h6 (by decide)) dL_law_970 ?_
      refine lv_topi (fun y360 ey360 => ?_)
      obtain rfl : y348 = y360 := ey348.trans ey360.symm
      refine lv_i2l (v := y348.toInt64) hx hb dL_law_971 rfl ?_
      refine lv_bipush (v := 32) hx hb dL_law_972 (by decide) ?_
      refine lv_lshl hx hb dL_law_974 rfl ?_
      refine lv_topl (fun w361 ew361 => ?_)
      refine lv_aload_n hx hb dL_law_975 rfl (lv_at hl 0 rfl) ?_
      refine lv_iload_n hx hb dL_law_976 rfl (lv_at hl 3 rfl) ?_
      refine lv_iconst (v := 4) hx hb dL_law_977 (by decide) ?_
      refine lv_iadd hx hb dL_law_978 ?_
      refine lv_topi (fun y362 ey362 => ?_)
      obtain rfl : y350 = y362 := ey350.trans ey362.symm
      refine va_sld hx hb hX hbl hbA hH.2.2.2.1 (sc_in ty350 hi h6 (by decide)) dL_law_979 ?_
      refine lv_topi (fun y363 ey363 => ?_)
      obtain rfl : y351 = y363 := ey351.trans ey363.symm
      refine lv_i2l (v := y351.toInt64) hx hb dL_law_980 rfl ?_
      refine lv_ldc2 (v := 4294967295) hx hb hown (hts _ kkl_L_28) dL_law_981 ?_
      refine lv_land hx hb dL_law_984 ?_
      refine lv_topl (fun w364 ew364 => ?_)
      refine lv_lor hx hb dL_law_985 ?_
      refine lv_topl (fun w365 ew365 => ?_)
      refine ca_L_91 hx hb hml hown hts hH (c_X11_put oI oR mm km) hl.1 mm km rfl (by decide) (Nat.le_of_ble_eq_true rfl) ⟨by decide, by decide⟩ dL_law_986 (fun y366 I366 J366 R366 H locs hp hH => ?_)
      obtain ⟨⟨oI, -, sc366⟩, eR366, ry366, hp366⟩ := hp
      obtain rfl : R = R366 := eR366.symm
      have sm : Sm C ms_L_law (I, J, R) (I366, J366, R) := sm.tr sc366 rfl
      have xm : XM L C I366 := XM.sm (u := (I, J354, R)) (v := (I366, J366, R)) xm sc366 rfl rfl
      have xw : XW L C I366 := XW.sm (u := (I, J354, R)) (v := (I366, J366, R)) xw sc366 rfl rfl
      have fa0o := fa0
      have fa0 : I366 ru 6 = vv0 := (sc366 ru 6 (by rw [kru]; decide)).1.trans fa0
      have fb0o := fb0
      have fb0 : I366 mo 1 = vv0 := (sc366 mo 1 (by rw [km]; decide)).1.trans fb0
      have fa1o := fa1
      have fa1 : I366 tj = vv1 := (funext fun k => (sc366 tj k (by rw [ktj]; exact nm_arr (by decide) rfl)).1).trans fa1
      have fb1o := fb1
      have fb1 : I366 mi = vv1 := (funext fun k => (sc366 mi k (by rw [kmi]; exact nm_arr (by decide) rfl)).1).trans fb1
      refine lv_pop hx hb dL_law_989 rfl ?_
      refine lv_goto (tgt := 1244) hx hb dL_law_990 (by decide) ?_
      exact L_1244 h6 I366 J366 R _ _ _ hH oI oR xm xw (fa0.trans fb0.symm) (fa1.trans fb1.symm) (lv_sub hl [0, 1, 2, 3] rfl)
    · have r367 : Rg y4 (17) (17) := ⟨by rw [z5]; decide, by rw [z5]; decide⟩
      refine lv_tableIn (tgt := 993) hx hb dL_law_33 (by rw [z5]; decide) (by rw [z5]; decide) (by rw [z5]; rfl) (by decide) ?_
      refine lv_aload_n hx hb dL_law_993 rfl (lv_at hl 1 rfl) ?_
      refine lv_aload_n hx hb dL_law_994 rfl (lv_at hl 0 rfl) ?_
      refine lv_iload_n hx hb dL_law_995 rfl (lv_at hl 3 rfl) ?_
      refine lv_iconst (v := 1) hx hb dL_law_996 (by decide) ?_
      refine lv_iadd hx hb dL_law_997 ?_
      refine lv_topi (fun y368 ey368 => ?_)
      obtain ⟨ty368, ry368⟩ := Rg_addx (a' := (1)) (b' := (3073)) (rfl : x3.toInt = _) (by decide : Int32.toInt 1 = 1) r3 (Rg_c (x := 1) (a := (1)) (b := (1)) (by decide)) (by decide)
      rw [← ey368] at ty368 ry368
      refine va_sld hx hb hX hbl hbA hH.2.2.2.1 (sc_in ty368 hi h6 (by decide)) dL_law_998 ?_
      refine lv_topi (fun y369 ey369 => ?_)
      refine lv_aload_n hx hb dL_law_999 rfl (lv_at hl 0 rfl) ?_
      refine lv_iload_n hx hb dL_law_1000 rfl (lv_at hl 3 rfl) ?_
      refine lv_iconst (v := 2) hx hb dL_law_1001 (by decide) ?_
      refine lv_iadd hx hb dL_law_1002 ?_
      refine lv_topi (fun y370 ey370 => ?_)
      obtain ⟨ty370, ry370⟩ := Rg_addx (a' := (2)) (b' := (3074)) (rfl : x3.toInt = _) (by decide : Int32.toInt 2 = 2) r3 (Rg_c (x := 2) (a := (2)) (b := (2)) (by decide)) (by decide)
      rw [← ey370] at ty370 ry370
      refine va_sld hx hb hX hbl hbA hH.2.2.2.1 (sc_in ty370 hi h6 (by decide)) dL_law_1003 ?_
      refine lv_topi (fun y371 ey371 => ?_)
      refine ca_L_92 hx hb hml hown hts hH (c_X10_field oI oR mx kx) hl.1 mx kx rfl (by decide) (Nat.le_of_ble_eq_true rfl) ⟨by decide, by decide⟩ dL_law_1004 (fun w372 I372 J372 R372 H locs hp hH => ?_)
      obtain ⟨eI372, eJ372, eR372⟩ := hp
      obtain rfl : I = I372 := eI372.symm
      obtain rfl : J = J372 := eJ372.symm
      obtain rfl : R = R372 := eR372.symm
      refine lv_pop2_2 hx hb dL_law_1007 rfl ?_
      refine lv_aload_n hx hb dL_law_1008 rfl (lv_at hl 2 rfl) ?_
      refine lv_aload_n hx hb dL_law_1009 rfl (lv_at hl 0 rfl) ?_
      refine lv_iload_n hx hb dL_law_1010 rfl (lv_at hl 3 rfl) ?_
      refine lv_iconst (v := 1) hx hb dL_law_1011 (by decide) ?_
      refine lv_iadd hx hb dL_law_1012 ?_
      refine lv_topi (fun y373 ey373 => ?_)
      obtain rfl : y368 = y373 := ey368.trans ey373.symm
      refine va_sld hx hb hX hbl hbA hH.2.2.2.1 (sc_in ty368 hi h6 (by decide)) dL_law_1013 ?_
      refine lv_topi (fun y374 ey374 => ?_)
      obtain rfl : y369 = y374 := ey369.trans ey374.symm
      refine lv_aload_n hx hb dL_law_1014 rfl (lv_at hl 0 rfl) ?_
      refine lv_iload_n hx hb dL_law_1015 rfl (lv_at hl 3 rfl) ?_
      refine lv_iconst (v := 2) hx hb dL_law_1016 (by decide) ?_
      refine lv_iadd hx hb dL_law_1017 ?_
      refine lv_topi (fun y375 ey375 => ?_)
      obtain rfl : y370 = y375 := ey370.trans ey375.symm
      refine va_sld hx hb hX hbl hbA hH.2.2.2.1 (sc_in ty370 hi h6 (by decide)) dL_law_1018 ?_
      refine lv_topi (fun y376 ey376 => ?_)
      obtain rfl : y371 = y376 := ey371.trans ey376.symm
      refine ca_L_96 hx hb hml hown hts hH (c_X11_field oI oR mm km) hl.1 mm km rfl (by decide) (Nat.le_of_ble_eq_true rfl) ⟨by decide, by decide⟩ dL_law_1019 (fun w377 I377 J377 R377 H locs hp hH => ?_)
      obtain ⟨⟨oI, -, sc377⟩, eJ377, eR377⟩ := hp
      obtain rfl : J = J377 := eJ377.symm
      obtain rfl : R = R377 := eR377.symm
      have sm : Sm C ms_L_law (I, J, R) (I377, J, R) := sm.tr sc377 rfl
      have xm : XM L C I377 := XM.sm (u := (I, J, R)) (v := (I377, J, R)) xm sc377 rfl rfl
      have xw : XW L C I377 := XW.sm (u := (I, J, R)) (v := (I377, J, R)) xw sc377 rfl rfl
      have fa0o := fa0
      have fa0 : I377 ru 6 = vv0 := (sc377 ru 6 (by rw [kru]; decide)).1.trans fa0
      have fb0o := fb0
      have fb0 : I377 mo 1 = vv0 := (sc377 mo 1 (by rw [km]; decide)).1.trans fb0
      have fa1o := fa1
      have fa1 : I377 tj = vv1 := (funext fun k => (sc377 tj k (by rw [ktj]; exact nm_arr (by decide) rfl)).1).trans fa1
      have fb1o := fb1
      have fb1 : I377 mi = vv1 := (funext fun k => (sc377 mi k (by rw [kmi]; exact nm_arr (by decide) rfl)).1).trans fb1
      refine lv_pop2_2 hx hb dL_law_1022 rfl ?_
      refine lv_goto (tgt := 1244) hx hb dL_law_1023 (by decide) ?_
      exact L_1244 h6 I377 J R _ _ _ hH oI oR xm xw (fa0.trans fb0.symm) (fa1.trans fb1.symm) (lv_sub hl [0, 1, 2, 3] rfl)
    · have r378 : Rg y4 (18) (18) := ⟨by rw [z5]; decide, by rw [z5]; decide⟩
      refine lv_tableIn (tgt := 1026) hx hb dL_law_33 (by rw [z5]; decide) (by rw [z5]; decide) (by rw [z5]; rfl) (by decide) ?_
      refine lv_aload_n hx hb dL_law_1026 rfl (lv_at hl 1 rfl) ?_
      refine lv_aload_n hx hb dL_law_1027 rfl (lv_at hl 0 rfl) ?_
      refine lv_iload_n hx hb dL_law_1028 rfl (lv_at hl 3 rfl) ?_
      refine lv_iconst (v := 1) hx hb dL_law_1029 (by decide) ?_
      refine lv_iadd hx hb dL_law_1030 ?_
      refine lv_topi (fun y379 ey379 => ?_)
      obtain ⟨ty379, ry379⟩ := Rg_addx (a' := (1)) (b' := (3073)) (rfl : x3.toInt = _) (by decide : Int32.toInt 1 = 1) r3 (Rg_c (x := 1) (a := (1)) (b := (1)) (by decide)) (by decide)
      rw [← ey379] at ty379 ry379
      refine va_sld hx hb hX hbl hbA hH.2.2.2.1 (sc_in ty379 hi h6 (by decide)) dL_law_1031 ?_
      refine lv_topi (fun y380 ey380 => ?_)
      refine lv_aload_n hx hb dL_law_1032 rfl (lv_at hl 0 rfl) ?_
      refine lv_iload_n hx hb dL_law_1033 rfl (lv_at hl 3 rfl) ?_
      refine lv_iconst (v := 2) hx hb dL_law_1034 (by decide) ?_
      refine lv_iadd hx hb dL_law_1035 ?_
      refine lv_topi (fun y381 ey381 => ?_)
      obtain ⟨ty381, ry381⟩ := Rg_addx (a' := (2)) (b' := (3074)) (rfl : x3.toInt = _) (by decide : Int32.toInt 2 = 2) r3 (Rg_c (x := 2) (a := (2)) (b := (2)) (by decide)) (by decide)
      rw [← ey381] at ty381 ry381
      refine va_sld hx hb hX hbl hbA hH.2.2.2.1 (sc_in ty381 hi h6 (by decide)) dL_law_1036 ?_
      refine lv_topi (fun y382 ey382 => ?_)
      refine lv_i2l (v := y382.toInt64) hx hb dL_law_1037 rfl ?_
      refine lv_bipush (v := 32) hx hb dL_law_1038 (by decide) ?_
      refine lv_lshl hx hb dL_law_1040 rfl ?_
      refine lv_topl (fun w383 ew383 => ?_)
      refine lv_aload_n hx hb dL_law_1041 rfl (lv_at hl 0 rfl) ?_
      refine lv_iload_n hx hb dL_law_1042 rfl (lv_at hl 3 rfl) ?_
      refine lv_iconst (v := 3) hx hb dL_law_1043 (by decide) ?_
      refine lv_iadd hx hb dL_law_1044 ?_
      refine lv_topi (fun y384 ey384 => ?_)
      obtain ⟨ty384, ry384⟩ := Rg_addx (a' := (3)) (b' := (3075)) (rfl : x3.toInt = _) (by decide : Int32.toInt 3 = 3) r3 (Rg_c (x := 3) (a := (3)) (b := (3)) (by decide)) (by decide)
      rw [← ey384] at ty384 ry384
      refine va_sld hx hb hX hbl hbA hH.2.2.2.1 (sc_in ty384 hi h6 (by decide)) dL_law_1045 ?_
      refine lv_topi (fun y385 ey385 => ?_)
      refine lv_i2l (v := y385.toInt64) hx hb dL_law_1046 rfl ?_
      refine lv_ldc2 (v := 4294967295) hx hb hown (hts _ kkl_L_28) dL_law_1047 ?_
      refine lv_land hx hb dL_law_1050 ?_
      refine lv_topl (fun w386 ew386 => ?_)
      refine lv_lor hx hb dL_law_1051 ?_
      refine lv_topl (fun w387 ew387 => ?_)
      refine ca_L_97 hx hb hml hown hts hH (c_X10_hand oI oR mx kx) hl.1 mx kx rfl (by decide) (Nat.le_of_ble_eq_true rfl) ⟨by decide, by decide⟩ dL_law_1052 (fun y388 I388 J388 R388 H locs hp hH => ?_)
      obtain ⟨⟨-, -, sc388⟩, eI388, eR388, ry388, hp388⟩ := hp
      obtain rfl : I = I388 := eI388.symm
      obtain rfl : R = R388 := eR388.symm
      have sm : Sm C ms_L_law (I, J, R) (I, J388, R) := sm.tr sc388 rfl
      have xm : XM L C I := XM.sm (u := (I, J, R)) (v := (I, J388, R)) xm sc388 rfl rfl
      have xw : XW L C I := XW.sm (u := (I, J, R)) (v := (I, J388, R)) xw sc388 rfl rfl
      refine lv_pop hx hb dL_law_1055 rfl ?_
      refine lv_aload_n hx hb dL_law_1056 rfl (lv_at hl 2 rfl) ?_
      refine lv_aload_n hx hb dL_law_1057 rfl (lv_at hl 0 rfl) ?_
      refine lv_iload_n hx hb dL_law_1058 rfl (lv_at hl 3 rfl) ?_
      refine lv_iconst (v := 1) hx hb dL_law_1059 (by decide) ?_
      refine lv_iadd hx hb dL_law_1060 ?_
      refine lv_topi (fun y389 ey389 => ?_)
      obtain rfl : y379 = y389 := ey379.trans ey389.symm
      refine va_sld hx hb hX hbl hbA hH.2.2.2.1 (sc_in ty379 hi h6 (by decide)) dL_law_1061 ?_
      refine lv_topi (fun y390 ey390 => ?_)
      obtain rfl : y380 = y390 := ey380.trans ey390.symm
      refine lv_aload_n hx hb dL_law_1062 rfl (lv_at hl 0 rfl) ?_
      refine lv_iload_n hx hb dL_law_1063 rfl (lv_at hl 3 rfl) ?_
      refine lv_iconst (v := 2) hx hb dL_law_1064 (by decide) ?_
      refine lv_iadd hx hb dL_law_1065 ?_
      refine lv_topi (fun y391 ey391 => ?_)
      obtain rfl : y381 = y391 := ey381.trans ey391.symm
      refine va_sld hx hb hX hbl hbA hH.2.2.2.1 (sc_in ty381 hi h6 (by decide)) dL_law_1066 ?_
      refine lv_topi (fun y392 ey392 => ?_)
      obtain rfl : y382 = y392 := ey382.trans ey392.symm
      refine lv_i2l (v := y382.toInt64) hx hb dL_law_1067 rfl ?_
      refine lv_bipush (v := 32) hx hb dL_law_1068 (by decide) ?_
      refine lv_lshl hx hb dL_law_1070 rfl ?_
      refine lv_topl (fun w393 ew393 => ?_)
      refine lv_aload_n hx hb dL_law_1071 rfl (lv_at hl 0 rfl) ?_
      refine lv_iload_n hx hb dL_law_1072 rfl (lv_at hl 3 rfl) ?_
      refine lv_iconst (v := 3) hx hb dL_law_1073 (by decide) ?_
      refine lv_iadd hx hb dL_law_1074 ?_
      refine lv_topi (fun y394 ey394 => ?_)
      obtain rfl : y384 = y394 := ey384.trans ey394.symm
      refine va_sld hx hb hX hbl hbA hH.2.2.2.1 (sc_in ty384 hi h6 (by decide)) dL_law_1075 ?_
      refine lv_topi (fun y395 ey395 => ?_)
      obtain rfl : y385 = y395 := ey385.trans ey395.symm
      refine lv_i2l (v := y385.toInt64) hx hb dL_law_1076 rfl ?_
      refine lv_ldc2 (v := 4294967295) hx hb hown (hts _ kkl_L_28) dL_law_1077 ?_
      refine lv_land hx hb dL_law_1080 ?_
      refine lv_topl (fun w396 ew396 => ?_)
      refine lv_lor hx hb dL_law_1081 ?_
      refine lv_topl (fun w397 ew397 => ?_)
      refine ca_L_101 hx hb hml hown hts hH (c_X11_hand oI oR mm km) hl.1 mm km rfl (by decide) (Nat.le_of_ble_eq_true rfl) ⟨by decide, by decide⟩ dL_law_1082 (fun y398 I398 J398 R398 H locs hp hH => ?_)
      obtain ⟨⟨oI, -, sc398⟩, eR398, ry398, hp398⟩ := hp
      obtain rfl : R = R398 := eR398.symm
      have sm : Sm C ms_L_law (I, J, R) (I398, J398, R) := sm.tr sc398 rfl
      have xm : XM L C I398 := XM.sm (u := (I, J388, R)) (v := (I398, J398, R)) xm sc398 rfl rfl
      have xw : XW L C I398 := XW.sm (u := (I, J388, R)) (v := (I398, J398, R)) xw sc398 rfl rfl
      have fa0o := fa0
      have fa0 : I398 ru 6 = vv0 := (sc398 ru 6 (by rw [kru]; decide)).1.trans fa0
      have fb0o := fb0
      have fb0 : I398 mo 1 = vv0 := (sc398 mo 1 (by rw [km]; decide)).1.trans fb0
      have fa1o := fa1
      have fa1 : I398 tj = vv1 := (funext fun k => (sc398 tj k (by rw [ktj]; exact nm_arr (by decide) rfl)).1).trans fa1
      have fb1o := fb1
      have fb1 : I398 mi = vv1 := (funext fun k => (sc398 mi k (by rw [kmi]; exact nm_arr (by decide) rfl)).1).trans fb1
      refine lv_pop hx hb dL_law_1085 rfl ?_
      refine lv_goto (tgt := 1244) hx hb dL_law_1086 (by decide) ?_
      exact L_1244 h6 I398 J398 R _ _ _ hH oI oR xm xw (fa0.trans fb0.symm) (fa1.trans fb1.symm) (lv_sub hl [0, 1, 2, 3] rfl)
    · have r399 : Rg y4 (19) (19) := ⟨by rw [z5]; decide, by rw [z5]; decide⟩
      refine lv_tableIn (tgt := 1089) hx hb dL_law_33 (by rw [z5]; decide) (by rw [z5]; decide) (by rw [z5]; rfl) (by decide) ?_
      refine lv_aload_n hx hb dL_law_1089 rfl (lv_at hl 1 rfl) ?_
      refine lv_aload_n hx hb dL_law_1090 rfl (lv_at hl 0 rfl) ?_
      refine lv_iload_n hx hb dL_law_1091 rfl (lv_at hl 3 rfl) ?_
      refine lv_iconst (v := 1) hx hb dL_law_1092 (by decide) ?_
      refine lv_iadd hx hb dL_law_1093 ?_
      refine lv_topi (fun y400 ey400 => ?_)
      obtain ⟨ty400, ry400⟩ := Rg_addx (a' := (1)) (b' := (3073)) (rfl : x3.toInt = _) (by decide : Int32.toInt 1 = 1) r3 (Rg_c (x := 1) (a := (1)) (b := (1)) (by decide)) (by decide)
      rw [← ey400] at ty400 ry400
      refine va_sld hx hb hX hbl hbA hH.2.2.2.1 (sc_in ty400 hi h6 (by decide)) dL_law_1094 ?_
      refine lv_topi (fun y401 ey401 => ?_)
      refine lv_aload_n hx hb dL_law_1095 rfl (lv_at hl 0 rfl) ?_
      refine lv_iload_n hx hb dL_law_1096 rfl (lv_at hl 3 rfl) ?_
      refine lv_iconst (v := 2) hx hb dL_law_1097 (by decide) ?_
      refine lv_iadd hx hb dL_law_1098 ?_
      refine lv_topi (fun y402 ey402 => ?_)
      obtain ⟨ty402, ry402⟩ := Rg_addx (a' := (2)) (b' := (3074)) (rfl : x3.toInt = _) (by decide : Int32.toInt 2 = 2) r3 (Rg_c (x := 2) (a := (2)) (b := (2)) (by decide)) (by decide)
      rw [← ey402] at ty402 ry402
      refine va_sld hx hb hX hbl hbA hH.2.2.2.1 (sc_in ty402 hi h6 (by decide)) dL_law_1099 ?_
      refine lv_topi (fun y403 ey403 => ?_)
      refine lv_aload_n hx hb dL_law_1100 rfl (lv_at hl 0 rfl) ?_
      refine lv_iload_n hx hb dL_law_1101 rfl (lv_at hl 3 rfl) ?_
      refine lv_iconst (v := 3) hx hb dL_law_1102 (by decide) ?_
      refine lv_iadd hx hb dL_law_1103 ?_
      refine lv_topi (fun y404 ey404 => ?_)
      obtain ⟨ty404, ry404⟩ := Rg_addx (a' := (3)) (b' := (3075)) (rfl : x3.toInt = _) (by decide : Int32.toInt 3 = 3) r3 (Rg_c (x := 3) (a := (3)) (b := (3)) (by decide)) (by decide)
      rw [← ey404] at ty404 ry404
      refine va_sld hx hb hX hbl hbA hH.2.2.2.1 (sc_in ty404 hi h6 (by decide)) dL_law_1104 ?_
      refine lv_topi (fun y405 ey405 => ?_)
      refine ca_L_102 hx hb hml hown hts hH (c_X10_call oI oR mx kx (by exact xm)) hl.1 mx kx rfl (by decide) (Nat.le_of_ble_eq_true rfl) ⟨by decide, by decide⟩ dL_law_1105 (fun y406 I406 J406 R406 H locs hp hH => ?_)
      obtain ⟨⟨oI, oR, sc406⟩, ry406⟩ := hp
      have sm : Sm C ms_L_law (I, J, R) (I406, J406, R406) := sm.tr sc406 rfl
      have xm : XM L C I406 := XM.sm (u := (I, J, R)) (v := (I406, J406, R406)) xm sc406 rfl rfl
      have xw : XW L C I406 := XW.sm (u := (I, J, R)) (v := (I406, J406, R406)) xw sc406 rfl rfl
      have fa0o := fa0
      have fa0 : I406 ru 6 = vv0 := (sc406 ru 6 (by rw [kru]; decide)).1.trans fa0
      have fb0o := fb0
      have fb0 : I406 mo 1 = vv0 := (sc406 mo 1 (by rw [km]; decide)).1.trans fb0
      have fa1o := fa1
      have fa1 : I406 tj = vv1 := (funext fun k => (sc406 tj k (by rw [ktj]; exact nm_arr (by decide) rfl)).1).trans fa1
      have fb1o := fb1
      have fb1 : I406 mi = vv1 := (funext fun k => (sc406 mi k (by rw [kmi]; exact nm_arr (by decide) rfl)).1).trans fb1
      refine lv_pop hx hb dL_law_1108 rfl ?_
      refine lv_aload_n hx hb dL_law_1109 rfl (lv_at hl 2 rfl) ?_
      refine lv_aload_n hx hb dL_law_1110 rfl (lv_at hl 0 rfl) ?_
      refine lv_iload_n hx hb dL_law_1111 rfl (lv_at hl 3 rfl) ?_
      refine lv_iconst (v := 1) hx hb dL_law_1112 (by decide) ?_
      refine lv_iadd hx hb dL_law_1113 ?_
      refine lv_topi (fun y407 ey407 => ?_)
      obtain rfl : y400 = y407 := ey400.trans ey407.symm
      refine va_sld hx hb hX hbl hbA hH.2.2.2.1 (sc_in ty400 hi h6 (by decide)) dL_law_1114 ?_
      refine lv_topi (fun y408 ey408 => ?_)
      obtain rfl : y401 = y408 := ey401.trans ey408.symm
      refine lv_aload_n hx hb dL_law_1115 rfl (lv_at hl 0 rfl) ?_
      refine lv_iload_n hx hb dL_law_1116 rfl (lv_at hl 3 rfl) ?_
      refine lv_iconst (v := 2) hx hb dL_law_1117 (by decide) ?_
      refine lv_iadd hx hb dL_law_1118 ?_
      refine lv_topi (fun y409 ey409 => ?_)
      obtain rfl : y402 = y409 := ey402.trans ey409.symm
      refine va_sld hx hb hX hbl hbA hH.2.2.2.1 (sc_in ty402 hi h6 (by decide)) dL_law_1119 ?_
      refine lv_topi (fun y410 ey410 => ?_)
      obtain rfl : y403 = y410 := ey403.trans ey410.symm
      refine lv_aload_n hx hb dL_law_1120 rfl (lv_at hl 0 rfl) ?_
      refine lv_iload_n hx hb dL_law_1121 rfl (lv_at hl 3 rfl) ?_
      refine lv_iconst (v := 3) hx hb dL_law_1122 (by decide) ?_
      refine lv_iadd hx hb dL_law_1123 ?_
      refine lv_topi (fun y411 ey411 => ?_)
      obtain rfl : y404 = y411 := ey404.trans ey411.symm
      refine va_sld hx hb hX hbl hbA hH.2.2.2.1 (sc_in ty404 hi h6 (by decide)) dL_law_1124 ?_
      refine lv_topi (fun y412 ey412 => ?_)
      obtain rfl : y405 = y412 := ey405.trans ey412.symm
      refine ca_L_105 hx hb hml hown hts hH (c_X11_call oI oR mm km (by exact xw)) hl.1 mm km rfl (by decide) (Nat.le_of_ble_eq_true rfl) ⟨by decide, by decide⟩ dL_law_1125 (fun y413 I413 J413 R413 H locs hp hH => ?_)
      obtain ⟨⟨oI, -, sc413⟩, eR413⟩ := hp
      obtain rfl : R406 = R413 := eR413.symm
      have sm : Sm C ms_L_law (I, J, R) (I413, J413, R406) := sm.tr sc413 rfl
      have xm : XM L C I413 := XM.sm (u := (I406, J406, R406)) (v := (I413, J413, R406)) xm sc413 rfl rfl
      have xw : XW L C I413 := XW.sm (u := (I406, J406, R406)) (v := (I413, J413, R406)) xw sc413 rfl rfl
      have fa0o := fa0
      have fa0 : I413 ru 6 = vv0 := (sc413 ru 6 (by rw [kru]; decide)).1.trans fa0
      have fb0o := fb0
      have fb0 : I413 mo 1 = vv0 := (sc413 mo 1 (by rw [km]; decide)).1.trans fb0
      have fa1o := fa1
      have fa1 : I413 tj = vv1 := (funext fun k => (sc413 tj k (by rw [ktj]; exact nm_arr (by decide) rfl)).1).trans fa1
      have fb1o := fb1
      have fb1 : I413 mi = vv1 := (funext fun k => (sc413 mi k (by rw [kmi]; exact nm_arr (by decide) rfl)).1).trans fb1
      refine lv_pop hx hb dL_law_1128 rfl ?_
      refine lv_goto (tgt := 1244) hx hb dL_law_1129 (by decide) ?_
      exact L_1244 h6 I413 J413 R406 _ _ _ hH oI oR xm xw (fa0.trans fb0.symm) (fa1.trans fb1.symm) (lv_sub hl [0, 1, 2, 3] rfl)
    · have r414 : Rg y4 (20) (20) := ⟨by rw [z5]; decide, by rw [z5]; decide⟩
      refine lv_tableIn (tgt := 1132) hx hb dL_law_33 (by rw [z5]; decide) (by rw [z5]; decide) (by rw [z5]; rfl) (by decide) ?_
      refine lv_aload_n hx hb dL_law_1132 rfl (lv_at hl 1 rfl) ?_
      refine lv_aload_n hx hb dL_law_1133 rfl (lv_at hl 0 rfl) ?_
      refine lv_iload_n hx hb dL_law_1134 rfl (lv_at hl 3 rfl) ?_
      refine lv_iconst (v := 1) hx hb dL_law_1135 (by decide) ?_
      refine lv_iadd hx hb dL_law_1136 ?_
      refine lv_topi (fun y415 ey415 => ?_)
      obtain ⟨ty415, ry415⟩ := Rg_addx (a' := (1)) (b' := (3073)) (rfl : x3.toInt = _) (by decide : Int32.toInt 1 = 1) r3 (Rg_c (x := 1) (a := (1)) (b := (1)) (by decide)) (by decide)
      rw [← ey415] at ty415 ry415
      refine va_sld hx hb hX hbl hbA hH.2.2.2.1 (sc_in ty415 hi h6 (by decide)) dL_law_1137 ?_
      refine lv_topi (fun y416 ey416 => ?_)
      refine lv_aload_n hx hb dL_law_1138 rfl (lv_at hl 0 rfl) ?_
      refine lv_iload_n hx hb dL_law_1139 rfl (lv_at hl 3 rfl) ?_
      refine lv_iconst (v := 2) hx hb dL_law_1140 (by decide) ?_
      refine lv_iadd hx hb dL_law_1141 ?_
      refine lv_topi (fun y417 ey417 => ?_)
      obtain ⟨ty417, ry417⟩ := Rg_addx (a' := (2)) (b' := (3074)) (rfl : x3.toInt = _) (by decide : Int32.toInt 2 = 2) r3 (Rg_c (x := 2) (a := (2)) (b := (2)) (by decide)) (by decide)
      rw [← ey417] at ty417 ry417
      refine va_sld hx hb hX hbl hbA hH.2.2.2.1 (sc_in ty417 hi h6 (by decide)) dL_law_1142 ?_
      refine lv_topi (fun y418 ey418 => ?_)
      refine lv_aload_n hx hb dL_law_1143 rfl (lv_at hl 0 rfl) ?_
      refine lv_iload_n hx hb dL_law_1144 rfl (lv_at hl 3 rfl) ?_
      refine lv_iconst (v := 3) hx hb dL_law_1145 (by decide) ?_
      refine lv_iadd hx hb dL_law_1146 ?_
      refine lv_topi (fun y419 ey419 => ?_)
      obtain ⟨ty419, ry419⟩ := Rg_addx (a' := (3)) (b' := (3075)) (rfl : x3.toInt = _) (by decide : Int32.toInt 3 = 3) r3 (Rg_c (x := 3) (a := (3)) (b := (3)) (by decide)) (by decide)
      rw [← ey419] at ty419 ry419
      refine va_sld hx hb hX hbl hbA hH.2.2.2.1 (sc_in ty419 hi h6 (by decide)) dL_law_1147 ?_
      refine lv_topi (fun y420 ey420 => ?_)
      refine lv_aload_n hx hb dL_law_1148 rfl (lv_at hl 0 rfl) ?_
      refine lv_iload_n hx hb dL_law_1149 rfl (lv_at hl 3 rfl) ?_
      refine lv_iconst (v := 4) hx hb dL_law_1150 (by decide) ?_
      refine lv_iadd hx hb dL_law_1151 ?_
      refine lv_topi (fun y421 ey421 => ?_)
      obtain ⟨ty421, ry421⟩ := Rg_addx (a' := (4)) (b' := (3076)) (rfl : x3.toInt = _) (by decide : Int32.toInt 4 = 4) r3 (Rg_c (x := 4) (a := (4)) (b := (4)) (by decide)) (by decide)
      rw [← ey421] at ty421 ry421
      refine va_sld hx hb hX hbl hbA hH.2.2.2.1 (sc_in ty421 hi h6 (by decide)) dL_law_1152 ?_
      refine lv_topi (fun y422 ey422 => ?_)
      refine ca_L_106 hx hb hml hown hts hH (c_X10_through oI oR mx kx (by exact xm)) hl.1 mx kx rfl (by decide) (Nat.le_of_ble_eq_true rfl) ⟨by decide, by decide⟩ dL_law_1153 (fun y423 I423 J423 R423 H locs hp hH => ?_)
      obtain ⟨⟨oI, oR, sc423⟩, ry423⟩ := hp
      have sm : Sm C ms_L_law (I, J, R) (I423, J423, R423) := sm.tr sc423 rfl
      have xm : XM L C I423 := XM.sm (u := (I, J, R)) (v := (I423, J423, R423)) xm sc423 rfl rfl
      have xw : XW L C I423 := XW.sm (u := (I, J, R)) (v := (I423, J423, R423)) xw sc423 rfl rfl
      have fa0o := fa0
      have fa0 : I423 ru 6 = vv0 := (sc423 ru 6 (by rw [kru]; decide)).1.trans fa0
      have fb0o := fb0
      have fb0 : I423 mo 1 = vv0 := (sc423 mo 1 (by rw [km]; decide)).1.trans fb0
      have fa1o := fa1
      have fa1 : I423 tj = vv1 := (funext fun k => (sc423 tj k (by rw [ktj]; exact nm_arr (by decide) rfl)).1).trans fa1
      have fb1o := fb1
      have fb1 : I423 mi = vv1 := (funext fun k => (sc423 mi k (by rw [kmi]; exact nm_arr (by decide) rfl)).1).trans fb1
      refine lv_pop hx hb dL_law_1156 rfl ?_
      refine lv_aload_n hx hb dL_law_1157 rfl (lv_at hl 2 rfl) ?_
      refine lv_aload_n hx hb dL_law_1158 rfl (lv_at hl 0 rfl) ?_
      refine lv_iload_n hx hb dL_law_1159 rfl (lv_at hl 3 rfl) ?_
      refine lv_iconst (v := 1) hx hb dL_law_1160 (by decide) ?_
      refine lv_iadd hx hb dL_law_1161 ?_
      refine lv_topi (fun y424 ey424 => ?_)
      obtain rfl : y415 = y424 := ey415.trans ey424.symm
      refine va_sld hx hb hX hbl hbA hH.2.2.2.1 (sc_in ty415 hi h6 (by decide)) dL_law_1162 ?_
      refine lv_topi (fun y425 ey425 => ?_)
      obtain rfl : y416 = y425 := ey416.trans ey425.symm
      refine lv_aload_n hx hb dL_law_1163 rfl (lv_at hl 0 rfl) ?_
      refine lv_iload_n hx hb dL_law_1164 rfl (lv_at hl 3 rfl) ?_
      refine lv_iconst (v := 2) hx hb dL_law_1165 (by decide) ?_
      refine lv_iadd hx hb dL_law_1166 ?_
      refine lv_topi (fun y426 ey426 => ?_)
      obtain rfl : y417 = y426 := ey417.trans ey426.symm
      refine va_sld hx hb hX hbl hbA hH.2.2.2.1 (sc_in ty417 hi h6 (by decide)) dL_law_1167 ?_
      refine lv_topi (fun y427 ey427 => ?_)
      obtain rfl : y418 = y427 := ey418.trans ey427.symm
      refine lv_aload_n hx hb dL_law_1168 rfl (lv_at hl 0 rfl) ?_
      refine lv_iload_n hx hb dL_law_1169 rfl (lv_at hl 3 rfl) ?_
      refine lv_iconst (v := 3) hx hb dL_law_1170 (by decide) ?_
      refine lv_iadd hx hb dL_law_1171 ?_
      refine lv_topi (fun y428 ey428 => ?_)
      obtain rfl : y419 = y428 := ey419.trans ey428.symm
      refine va_sld hx hb hX hbl hbA hH.2.2.2.1 (sc_in ty419 hi h6 (by decide)) dL_law_1172 ?_
      refine lv_topi (fun y429 ey429 => ?_)
      obtain rfl : y420 = y429 := ey420.trans ey429.symm
      refine lv_aload_n hx hb dL_law_1173 rfl (lv_at hl 0 rfl) ?_
      refine lv_iload_n hx hb dL_law_1174 rfl (lv_at hl 3 rfl) ?_
      refine lv_iconst (v := 4) hx hb dL_law_1175 (by decide) ?_
      refine lv_iadd hx hb dL_law_1176 ?_
      refine lv_topi (fun y430 ey430 => ?_)
      obtain rfl : y421 = y430 := ey421.trans ey430.symm
      refine va_sld hx hb hX hbl hbA hH.2.2.2.1 (sc_in ty421 hi h6 (by decide)) dL_law_1177 ?_
      refine lv_topi (fun y431 ey431 => ?_)
      obtain rfl : y422 = y431 := ey422.trans ey431.symm
      refine ca_L_109 hx hb hml hown hts hH (c_X11_through oI oR mm km (by exact xw)) hl.1 mm km rfl (by decide) (Nat.le_of_ble_eq_true rfl) ⟨by decide, by decide⟩ dL_law_1178 (fun y432 I432 J432 R432 H locs hp hH => ?_)
      obtain ⟨⟨oI, -, sc432⟩, eR432⟩ := hp
      obtain rfl : R423 = R432 := eR432.symm
      have sm : Sm C ms_L_law (I, J, R) (I432, J432, R423) := sm.tr sc432 rfl
      have xm : XM L C I432 := XM.sm (u := (I423, J423, R423)) (v := (I432, J432, R423)) xm sc432 rfl rfl
      have xw : XW L C I432 := XW.sm (u := (I423, J423, R423)) (v := (I432, J432, R423)) xw sc432 rfl rfl
      have fa0o := fa0
      have fa0 : I432 ru 6 = vv0 := (sc432 ru 6 (by rw [kru]; decide)).1.trans fa0
      have fb0o := fb0
      have fb0 : I432 mo 1 = vv0 := (sc432 mo 1 (by rw [km]; decide)).1.trans fb0
      have fa1o := fa1
      have fa1 : I432 tj = vv1 := (funext fun k => (sc432 tj k (by rw [ktj]; exact nm_arr (by decide) rfl)).1).trans fa1
      have fb1o := fb1
      have fb1 : I432 mi = vv1 := (funext fun k => (sc432 mi k (by rw [kmi]; exact nm_arr (by decide) rfl)).1).trans fb1
      refine lv_pop hx hb dL_law_1181 rfl ?_
      refine lv_goto (tgt := 1244) hx hb dL_law_1182 (by decide) ?_
      exact L_1244 h6 I432 J432 R423 _ _ _ hH oI oR xm xw (fa0.trans fb0.symm) (fa1.trans fb1.symm) (lv_sub hl [0, 1, 2, 3] rfl)
    · have r433 : Rg y4 (21) (21) := ⟨by rw [z5]; decide, by rw [z5]; decide⟩
      refine lv_tableIn (tgt := 1185) hx hb dL_law_33 (by rw [z5]; decide) (by rw [z5]; decide) (by rw [z5]; rfl) (by decide) ?_
      refine lv_aload_n hx hb dL_law_1185 rfl (lv_at hl 1 rfl) ?_
      refine ca_L_110 hx hb hml hown hts hH (c_X10_value oI oR mx kx) hl.1 mx kx rfl (by decide) (Nat.le_of_ble_eq_true rfl) ⟨by decide, by decide⟩ dL_law_1186 (fun w434 I434 J434 R434 H locs hp hH => ?_)
      obtain ⟨eI434, eJ434, eR434⟩ := hp
      obtain rfl : I = I434 := eI434.symm
      obtain rfl : J = J434 := eJ434.symm
      obtain rfl : R = R434 := eR434.symm
      refine lv_pop2_2 hx hb dL_law_1189 rfl ?_
      refine lv_aload_n hx hb dL_law_1190 rfl (lv_at hl 2 rfl) ?_
      refine ca_L_114 hx hb hml hown hts hH (c_X11_value oI oR mm km) hl.1 mm km rfl (by decide) (Nat.le_of_ble_eq_true rfl) ⟨by decide, by decide⟩ dL_law_1191 (fun w435 I435 J435 R435 H locs hp hH => ?_)
      obtain ⟨⟨oI, -, sc435⟩, eJ435, eR435⟩ := hp
      obtain rfl : J = J435 := eJ435.symm
      obtain rfl : R = R435 := eR435.symm
      have sm : Sm C ms_L_law (I, J, R) (I435, J, R) := sm.tr sc435 rfl
      have xm : XM L C I435 := XM.sm (u := (I, J, R)) (v := (I435, J, R)) xm sc435 rfl rfl
      have xw : XW L C I435 := XW.sm (u := (I, J, R)) (v := (I435, J, R)) xw sc435 rfl rfl
      have fa0o := fa0
      have fa0 : I435 ru 6 = vv0 := (sc435 ru 6 (by rw [kru]; decide)).1.trans fa0
      have fb0o := fb0
      have fb0 : I435 mo 1 = vv0 := (sc435 mo 1 (by rw [km]; decide)).1.trans fb0
      have fa1o := fa1
      have fa1 : I435 tj = vv1 := (funext fun k => (sc435 tj k (by rw [ktj]; exact nm_arr (by decide) rfl)).1).trans fa1
      have fb1o := fb1
      have fb1 : I435 mi = vv1 := (funext fun k => (sc435 mi k (by rw [kmi]; exact nm_arr (by decide) rfl)).1).trans fb1
      refine lv_pop2_2 hx hb dL_law_1194 rfl ?_
      refine lv_goto (tgt := 1244) hx hb dL_law_1195 (by decide) ?_
      exact L_1244 h6 I435 J R _ _ _ hH oI oR xm xw (fa0.trans fb0.symm) (fa1.trans fb1.symm) (lv_sub hl [0, 1, 2, 3] rfl)
    · have r436 : Rg y4 (22) (22) := ⟨by rw [z5]; decide, by rw [z5]; decide⟩
      refine lv_tableIn (tgt := 1198) hx hb dL_law_33 (by rw [z5]; decide) (by rw [z5]; decide) (by rw [z5]; rfl) (by decide) ?_
      refine lv_aload_n hx hb dL_law_1198 rfl (lv_at hl 1 rfl) ?_
      refine lv_aload_n hx hb dL_law_1199 rfl (lv_at hl 0 rfl) ?_
      refine lv_iload_n hx hb dL_law_1200 rfl (lv_at hl 3 rfl) ?_
      refine lv_iconst (v := 1) hx hb dL_law_1201 (by decide) ?_
      refine lv_iadd hx hb dL_law_1202 ?_
      refine lv_topi (fun y437 ey437 => ?_)
      obtain ⟨ty437, ry437⟩ := Rg_addx (a' := (1)) (b' := (3073)) (rfl : x3.toInt = _) (by decide : Int32.toInt 1 = 1) r3 (Rg_c (x := 1) (a := (1)) (b := (1)) (by decide)) (by decide)
      rw [← ey437] at ty437 ry437
      refine va_sld hx hb hX hbl hbA hH.2.2.2.1 (sc_in ty437 hi h6 (by decide)) dL_law_1203 ?_
      refine lv_topi (fun y438 ey438 => ?_)
      refine ca_L_115 hx hb hml hown hts hH (c_X10_failed oI oR mx kx) hl.1 mx kx rfl (by decide) (Nat.le_of_ble_eq_true rfl) ⟨by decide, by decide⟩ dL_law_1204 (fun y439 I439 J439 R439 H locs hp hH => ?_)
      obtain ⟨eI439, eJ439, eR439⟩ := hp
      obtain rfl : I = I439 := eI439.symm
      obtain rfl : J = J439 := eJ439.symm
      obtain rfl : R = R439 := eR439.symm
      refine lv_pop hx hb dL_law_1207 rfl ?_
      refine lv_aload_n hx hb dL_law_1208 rfl (lv_at hl 2 rfl) ?_
      refine lv_aload_n hx hb dL_law_1209 rfl (lv_at hl 0 rfl) ?_
      refine lv_iload_n hx hb dL_law_1210 rfl (lv_at hl 3 rfl) ?_
      refine lv_iconst (v := 1) hx hb dL_law_1211 (by decide) ?_
      refine lv_iadd hx hb dL_law_1212 ?_
      refine lv_topi (fun y440 ey440 => ?_)
      obtain rfl : y437 = y440 := ey437.trans ey440.symm
      refine va_sld hx hb hX hbl hbA hH.2.2.2.1 (sc_in ty437 hi h6 (by decide)) dL_law_1213 ?_
      refine lv_topi (fun y441 ey441 => ?_)
      obtain rfl : y438 = y441 := ey438.trans ey441.symm
      refine ca_L_118 hx hb hml hown hts hH (c_X11_failed oI oR mm km) hl.1 mm km rfl (by decide) (Nat.le_of_ble_eq_true rfl) ⟨by decide, by decide⟩ dL_law_1214 (fun y442 I442 J442 R442 H locs hp hH => ?_)
      obtain ⟨⟨oI, -, sc442⟩, eJ442, eR442⟩ := hp
      obtain rfl : J = J442 := eJ442.symm
      obtain rfl : R = R442 := eR442.symm
      have sm : Sm C ms_L_law (I, J, R) (I442, J, R) := sm.tr sc442 rfl
      have xm : XM L C I442 := XM.sm (u := (I, J, R)) (v := (I442, J, R)) xm sc442 rfl rfl
      have xw : XW L C I442 := XW.sm (u := (I, J, R)) (v := (I442, J, R)) xw sc442 rfl rfl
      have fa0o := fa0
      have fa0 : I442 ru 6 = vv0 := (sc442 ru 6 (by rw [kru]; decide)).1.trans fa0
      have fb0o := fb0
      have fb0 : I442 mo 1 = vv0 := (sc442 mo 1 (by rw [km]; decide)).1.trans fb0
      have fa1o := fa1
      have fa1 : I442 tj = vv1 := (funext fun k => (sc442 tj k (by rw [ktj]; exact nm_arr (by decide) rfl)).1).trans fa1
      have fb1o := fb1
      have fb1 : I442 mi = vv1 := (funext fun k => (sc442 mi k (by rw [kmi]; exact nm_arr (by decide) rfl)).1).trans fb1
      refine lv_pop hx hb dL_law_1217 rfl ?_
      refine lv_goto (tgt := 1244) hx hb dL_law_1218 (by decide) ?_
      exact L_1244 h6 I442 J R _ _ _ hH oI oR xm xw (fa0.trans fb0.symm) (fa1.trans fb1.symm) (lv_sub hl [0, 1, 2, 3] rfl)
    · have r443 : Rg y4 (23) (23) := ⟨by rw [z5]; decide, by rw [z5]; decide⟩
      refine lv_tableIn (tgt := 1221) hx hb dL_law_33 (by rw [z5]; decide) (by rw [z5]; decide) (by rw [z5]; rfl) (by decide) ?_
      refine lv_aload_n hx hb dL_law_1221 rfl (lv_at hl 1 rfl) ?_
      refine lv_aload_n hx hb dL_law_1222 rfl (lv_at hl 0 rfl) ?_
      refine lv_iload_n hx hb dL_law_1223 rfl (lv_at hl 3 rfl) ?_
      refine lv_iconst (v := 1) hx hb dL_law_1224 (by decide) ?_
      refine lv_iadd hx hb dL_law_1225 ?_
      refine lv_topi (fun y444 ey444 => ?_)
      obtain ⟨ty444, ry444⟩ := Rg_addx (a' := (1)) (b' := (3073)) (rfl : x3.toInt = _) (by decide : Int32.toInt 1 = 1) r3 (Rg_c (x := 1) (a := (1)) (b := (1)) (by decide)) (by decide)
      rw [← ey444] at ty444 ry444
      refine va_sld hx hb hX hbl hbA hH.2.2.2.1 (sc_in ty444 hi h6 (by decide)) dL_law_1226 ?_
      refine lv_topi (fun y445 ey445 => ?_)
      refine ca_L_119 hx hb hml hown hts hH (c_X10_count oI oR mx kx) hl.1 mx kx rfl (by decide) (Nat.le_of_ble_eq_true rfl) ⟨by decide, by decide⟩ dL_law_1227 (fun y446 I446 J446 R446 H locs hp hH => ?_)
      obtain ⟨eI446, eJ446, eR446⟩ := hp
      obtain rfl : I = I446 := eI446.symm
      obtain rfl : J = J446 := eJ446.symm
      obtain rfl : R = R446 := eR446.symm
      refine lv_pop hx hb dL_law_1230 rfl ?_
      refine lv_aload_n hx hb dL_law_1231 rfl (lv_at hl 2 rfl) ?_
      refine lv_aload_n hx hb dL_law_1232 rfl (lv_at hl 0 rfl) ?_
      refine lv_iload_n hx hb dL_law_1233 rfl (lv_at hl 3 rfl) ?_
      refine lv_iconst (v := 1) hx hb dL_law_1234 (by decide) ?_
      refine lv_iadd hx hb dL_law_1235 ?_
      refine lv_topi (fun y447 ey447 => ?_)
      obtain rfl : y444 = y447 := ey444.trans ey447.symm
      refine va_sld hx hb hX hbl hbA hH.2.2.2.1 (sc_in ty444 hi h6 (by decide)) dL_law_1236 ?_
      refine lv_topi (fun y448 ey448 => ?_)
      obtain rfl : y445 = y448 := ey445.trans ey448.symm
      refine ca_L_122 hx hb hml hown hts hH (c_X11_count oI oR mm km) hl.1 mm km rfl (by decide) (Nat.le_of_ble_eq_true rfl) ⟨by decide, by decide⟩ dL_law_1237 (fun y449 I449 J449 R449 H locs hp hH => ?_)
      obtain ⟨⟨oI, -, sc449⟩, eJ449, eR449⟩ := hp
      obtain rfl : J = J449 := eJ449.symm
      obtain rfl : R = R449 := eR449.symm
      have sm : Sm C ms_L_law (I, J, R) (I449, J, R) := sm.tr sc449 rfl
      have xm : XM L C I449 := XM.sm (u := (I, J, R)) (v := (I449, J, R)) xm sc449 rfl rfl
      have xw : XW L C I449 := XW.sm (u := (I, J, R)) (v := (I449, J, R)) xw sc449 rfl rfl
      have fa0o := fa0
      have fa0 : I449 ru 6 = vv0 := (sc449 ru 6 (by rw [kru]; decide)).1.trans fa0
      have fb0o := fb0
      have fb0 : I449 mo 1 = vv0 := (sc449 mo 1 (by rw [km]; decide)).1.trans fb0
      have fa1o := fa1
      have fa1 : I449 tj = vv1 := (funext fun k => (sc449 tj k (by rw [ktj]; exact nm_arr (by decide) rfl)).1).trans fa1
      have fb1o := fb1
      have fb1 : I449 mi = vv1 := (funext fun k => (sc449 mi k (by rw [kmi]; exact nm_arr (by decide) rfl)).1).trans fb1
      refine lv_pop hx hb dL_law_1240 rfl ?_
      refine lv_goto (tgt := 1244) hx hb dL_law_1241 (by decide) ?_
      exact L_1244 h6 I449 J R _ _ _ hH oI oR xm xw (fa0.trans fb0.symm) (fa1.trans fb1.symm) (lv_sub hl [0, 1, 2, 3] rfl)
