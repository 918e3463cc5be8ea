def ms_L_law : List Nat := [1, 71, 72, 73, 74, 196, 197, 256, 257, 258, 259, 260, 320, 321, 322, 324, 325, 326, 390, 391, 394, 395, 449, 514, 580, 581, 704, 705, 722, 725, 729, 730, 731, 732, 733, 734, 735, 741, 744, 745, 746, 751, 753, 758, 759, 2048, 2112, 2176, 2240, 2304, 2368, 2432, 2496, 2560, 2624, 2688, 2752, 2816, 2880, 2944, 3008, 3072, 3136, 3200, 3264, 3328, 3392, 3456, 3520, 4096, 4160, 4224, 4288, 4352, 4416, 4480, 4544, 4608, 4672, 4736, 4800, 4864, 4928, 4992, 5056, 5120, 5184, 5248, 5312, 5376, 5440, 5504, 5568, 5632, 5696, 5760, 5824, 5888, 5952, 6016, 6080, 6144, 6208, 6272, 6336, 6400]
set_option maxHeartbeats 8000000 in
set_option maxRecDepth 100000 in
theorem law_loop {p : Program} {l : Launch} {e : Env} {s : State} {m : MethodId} {below : List Frame} {meth : Method} {c : Code} {D : va_G} {cy : Nat → ClassId} {L : List Nat} {C : Nat → Nat} {b n0 : Nat} {xs : Nat → Int32} (hL : n0 ≤ 3072) (C0 : lw_At p s m meth c b n0 xs) (uq : Uq L C) {x mo : Nat} (mx : x ∈ L) (kx : C x = 10) (mm : mo ∈ L) (km : C mo = 11) :
    ∀ (n i : Nat) (x3 : Int32), i ≤ n0 → n0 + 1 ≤ i + n → x3.toInt = i → ∀ (I : hI) (J : hJ) (R : hR) (H : Heap) (locs : List Loc) (ls : Array Slot), Hp D cy L C s.heap.size s s.heap I J R H locs → OkI L C I → OkR L C R → XM L C I → XW L C I → Ow L C R → RC L C x mo (I, J, R) → lv_has ls 4 [(0, .ref b), (1, .ref x), (2, .ref mo), (3, .int x3)] → W p l e room_1 s m #[Value.ref b] below meth c H locs 474 16845 (lw_Z below #[Value.ref b] s) (F0 m 18 ls []) := by
  obtain ⟨hx, hb, hr, hml, hown, hts0, hX, hbl, hlocks, hgv⟩ := C0
  have hts : ∀ w ∈ wG, w.before #[Value.ref b] s = true := fun w h => hts0 w (List.mem_filter.mp h).1
  have hown : s.vm.findClass RL = some m.cls := hown
  have hbA : ¬ (fun q : Nat => s.heap.size ≤ q) b := Nat.not_le.mpr hbl
  intro n
  induction n with
  | zero => intro i x3 h1 h2; exact absurd h2 (by omega)
  | succ n ih =>
    intro i x3 hi0 hin hi I J R H locs ls hH oI oR xm xw ow rel hl
    have r3 : Rg x3 (0) (3072) := ⟨by omega, by omega⟩
    have sm : Sm C ms_L_law (I, J, R) (I, J, R) := Sm.rf
    have L_1244 : i + 6 ≤ n0 → ∀ (I : hI) (J : hJ) (R : hR) (H : Heap) (locs : List Loc) (ls : Array Slot), Hp D cy L C s.heap.size s s.heap I J R H locs → OkI L C I → OkR L C R → XM L C I → XW L C I → Ow L C R → RC L C x mo (I, J, R) → lv_has ls 4 [(0, .ref b), (1, .ref x), (2, .ref mo), (3, .int x3)] → W p l e room_1 s m #[Value.ref b] below meth c H locs 474 16845 (lw_Z below #[Value.ref b] s) (F0 m 1244 ls []) := by
      intro h6 I J R H locs ls hH oI oR xm xw ow rel hl
      have r9 : Rg x3 (0) (3066) := ⟨by omega, by omega⟩
      have oI0 := oI
      have oR0 := oR
      have ow0 := ow
      have rel0 := rel
      have xm0 := xm
      have xw0 := xw
      obtain ⟨y438, ey438⟩ : ∃ y : Int32, y = x3 + 6 := ⟨_, rfl⟩
      obtain ⟨ty438, ry438⟩ := Rg_addx (a' := (6)) (b' := (3072)) (rfl : x3.toInt = _) (by decide : Int32.toInt 6 = 6) r9 (Rg_c (x := 6) (a := (6)) (b := (6)) (by decide)) (by decide)
      rw [← ey438] at ty438 ry438
      refine lv_iinc (v := y438) (lv' := [(3, .int y438), (0, .ref b), (1, .ref x), (2, .ref mo)]) hx hb dL_law_1244 hl (k := 3) rfl (by rw [ey438]; rfl) (by decide) rfl (fun ls hl => ?_)
      refine lv_goto (tgt := 18) hx hb dL_law_1247 (by decide) ?_
      exact ih (i + 6) y438 (by omega) (by omega) (by rw [ty438]; omega) I J R _ _ _ hH oI oR xm xw ow rel (lv_sub hl [1, 2, 3, 0] rfl)
    have oI0 := oI
    have oR0 := oR
    have ow0 := ow
    have rel0 := rel
    have xm0 := xm
    have xw0 := xw
    refine lv_iload_n hx hb dL_law_18 rfl (lv_at hl 3 rfl) ?_
    refine lv_aload_n hx hb dL_law_19 rfl (lv_at hl 0 rfl) ?_
    refine va_slen hx hb hX hbl hbA hH.2.2.2.1 dL_law_20 ?_
    refine lv_topi (fun ln eln => ?_)
    have rln : Rg ln (0) (3072) := by rw [eln]; exact sc_len hL
    have tln : ln.toInt = n0 := by rw [eln]; exact sc_lenI hL
    refine lv_bipush (v := 6) hx hb dL_law_21 (by decide) ?_
    refine lv_isub hx hb dL_law_23 ?_
    refine lv_topi (fun y1 ey1 => ?_)
    obtain ⟨ty1, ry1⟩ := Rg_subx (a' := (-6)) (b' := (3066)) (rfl : ln.toInt = _) (by decide : Int32.toInt 6 = 6) rln (Rg_c (x := 6) (a := (6)) (b := (6)) (by decide)) (by decide)
    rw [← ey1] at ty1 ry1
    refine lv_icmp_gt (tgt := 1250) hx hb dL_law_24 (by decide) (fun q2 => ?_) (fun q2 => ?_)
    · refine lv_iconst (v := 1) hx hb dL_law_1250 (by decide) ?_
      refine va_forget (fun q hq => hH.2.2.2.1.2.2 q hq) ?_
      refine W.widen (k := 600000) (n := 7302249) (by decide) (by decide) ?_
      exact lw_ret hx hb hr hlocks dL_law_1251
    have h6 : i + 6 ≤ n0 := by have a1 := Rg_nlt q2; rw [ty1] at a1; omega
    refine lv_aload_n hx hb dL_law_27 rfl (lv_at hl 0 rfl) ?_
    refine lv_iload_n hx hb dL_law_28 rfl (lv_at hl 3 rfl) ?_
    refine va_sld hx hb hX hbl hbA hH.2.2.2.1 (sc_in0 hi h6) dL_law_29 ?_
    refine lv_topi (fun y3 ey3 => ?_)
    refine lv_bipush (v := 31) hx hb dL_law_30 (by decide) ?_
    refine lv_iand hx hb dL_law_32 ?_
    refine lv_topi (fun y4 ey4 => ?_)
    have ry4 : Rg y4 0 31 := by rw [ey4]; exact Rg_and31 _
    rcases (show (y4.toInt < 0 ∨ 23 < y4.toInt) ∨ y4.toInt = 0 ∨ y4.toInt = 1 ∨ y4.toInt = 2 ∨ y4.toInt = 3 ∨ y4.toInt = 4 ∨ y4.toInt = 5 ∨ y4.toInt = 6 ∨ y4.toInt = 7 ∨ y4.toInt = 8 ∨ y4.toInt = 9 ∨ y4.toInt = 10 ∨ y4.toInt = 11 ∨ y4.toInt = 12 ∨ y4.toInt = 13 ∨ y4.toInt = 14 ∨ y4.toInt = 15 ∨ y4.toInt = 16 ∨ y4.toInt = 17 ∨ y4.toInt = 18 ∨ y4.toInt = 19 ∨ y4.toInt = 20 ∨ y4.toInt = 21 ∨ y4.toInt = 22 ∨ y4.toInt = 23 by have z51 := ry4.1; have z52 := ry4.2; omega) with z5 | z5 | z5 | z5 | z5 | z5 | z5 | z5 | z5 | z5 | z5 | z5 | z5 | z5 | z5 | z5 | z5 | z5 | z5 | z5 | z5 | z5 | z5 | z5 | z5
    · refine lv_tableOut (tgt := 1244) hx hb dL_law_33 z5 (by decide) ?_
      exact L_1244 h6 I J R _ _ _ hH oI oR xm xw ow rel (lv_sub hl [0, 1, 2, 3] rfl)
    · have r6 : Rg y4 (0) (0) := ⟨by rw [z5]; decide, by rw [z5]; decide⟩
      refine lv_tableIn (tgt := 144) hx hb dL_law_33 (by rw [z5]; decide) (by rw [z5]; decide) (by rw [z5]; rfl) (by decide) ?_
      refine lv_aload_n hx hb dL_law_144 rfl (lv_at hl 1 rfl) ?_
      refine lv_aload_n hx hb dL_law_145 rfl (lv_at hl 0 rfl) ?_
      refine lv_iload_n hx hb dL_law_146 rfl (lv_at hl 3 rfl) ?_
      refine lv_iconst (v := 1) hx hb dL_law_147 (by decide) ?_
      refine lv_iadd hx hb dL_law_148 ?_
      refine lv_topi (fun y7 ey7 => ?_)
      obtain ⟨ty7, ry7⟩ := Rg_addx (a' := (1)) (b' := (3073)) (rfl : x3.toInt = _) (by decide : Int32.toInt 1 = 1) r3 (Rg_c (x := 1) (a := (1)) (b := (1)) (by decide)) (by decide)
      rw [← ey7] at ty7 ry7
      refine va_sld hx hb hX hbl hbA hH.2.2.2.1 (sc_in ty7 hi h6 (by decide)) dL_law_149 ?_
      refine lv_topi (fun y8 ey8 => ?_)
      refine lv_aload_n hx hb dL_law_150 rfl (lv_at hl 0 rfl) ?_
      refine lv_iload_n hx hb dL_law_151 rfl (lv_at hl 3 rfl) ?_
      refine lv_iconst (v := 2) hx hb dL_law_152 (by decide) ?_
      refine lv_iadd hx hb dL_law_153 ?_
      refine lv_topi (fun y9 ey9 => ?_)
      obtain ⟨ty9, ry9⟩ := Rg_addx (a' := (2)) (b' := (3074)) (rfl : x3.toInt = _) (by decide : Int32.toInt 2 = 2) r3 (Rg_c (x := 2) (a := (2)) (b := (2)) (by decide)) (by decide)
      rw [← ey9] at ty9 ry9
      refine va_sld hx hb hX hbl hbA hH.2.2.2.1 (sc_in ty9 hi h6 (by decide)) dL_law_154 ?_
      refine lv_topi (fun y10 ey10 => ?_)
      refine lv_aload_n hx hb dL_law_155 rfl (lv_at hl 0 rfl) ?_
      refine lv_iload_n hx hb dL_law_156 rfl (lv_at hl 3 rfl) ?_
      refine lv_iconst (v := 3) hx hb dL_law_157 (by decide) ?_
      refine lv_iadd hx hb dL_law_158 ?_
      refine lv_topi (fun y11 ey11 => ?_)
      obtain ⟨ty11, ry11⟩ := Rg_addx (a' := (3)) (b' := (3075)) (rfl : x3.toInt = _) (by decide : Int32.toInt 3 = 3) r3 (Rg_c (x := 3) (a := (3)) (b := (3)) (by decide)) (by decide)
      rw [← ey11] at ty11 ry11
      refine va_sld hx hb hX hbl hbA hH.2.2.2.1 (sc_in ty11 hi h6 (by decide)) dL_law_159 ?_
      refine lv_topi (fun y12 ey12 => ?_)
      refine lv_aload_n hx hb dL_law_160 rfl (lv_at hl 0 rfl) ?_
      refine lv_iload_n hx hb dL_law_161 rfl (lv_at hl 3 rfl) ?_
      refine lv_iconst (v := 4) hx hb dL_law_162 (by decide) ?_
      refine lv_iadd hx hb dL_law_163 ?_
      refine lv_topi (fun y13 ey13 => ?_)
      obtain ⟨ty13, ry13⟩ := Rg_addx (a' := (4)) (b' := (3076)) (rfl : x3.toInt = _) (by decide : Int32.toInt 4 = 4) r3 (Rg_c (x := 4) (a := (4)) (b := (4)) (by decide)) (by decide)
      rw [← ey13] at ty13 ry13
      refine va_sld hx hb hX hbl hbA hH.2.2.2.1 (sc_in ty13 hi h6 (by decide)) dL_law_164 ?_
      refine lv_topi (fun y14 ey14 => ?_)
      refine ca_L_13 hx hb hml hown hts hH (c_X10_rule oI oR mx kx (by exact uq)) hl.1 mx kx rfl (by decide) (Nat.le_of_ble_eq_true rfl) ⟨by decide, by decide⟩ dL_law_165 (fun y15 I15 J15 R15 H locs hp hH => ?_)
      obtain ⟨⟨oI, -, sc15⟩, eJ15, eR15, ry15, hp15⟩ := hp
      obtain rfl : J = J15 := eJ15.symm
      obtain rfl : R = R15 := eR15.symm
      have sm : Sm C ms_L_law (I, J, R) (I15, J, R) := sm.tr sc15 rfl
      have xm : XM L C I15 := XM.sm (u := (I, J, R)) (v := (I15, J, R)) xm sc15 rfl rfl
      have xw : XW L C I15 := XW.sm (u := (I, J, R)) (v := (I15, J, R)) xw sc15 rfl rfl
      have ow : Ow L C R := Ow.sm (u := (I, J, R)) (v := (I15, J, R)) ow sc15 rfl
      have rel : RC L C x mo (I15, J, R) := RC.sm (u := (I, J, R)) (v := (I15, J, R)) rel oR sc15 rfl
      refine lv_pop hx hb dL_law_168 rfl ?_
      refine lv_aload_n hx hb dL_law_169 rfl (lv_at hl 2 rfl) ?_
      refine lv_aload_n hx hb dL_law_170 rfl (lv_at hl 0 rfl) ?_
      refine lv_iload_n hx hb dL_law_171 rfl (lv_at hl 3 rfl) ?_
      refine lv_iconst (v := 1) hx hb dL_law_172 (by decide) ?_
      refine lv_iadd hx hb dL_law_173 ?_
      refine lv_topi (fun y16 ey16 => ?_)
      obtain rfl : y7 = y16 := ey7.trans ey16.symm
      refine va_sld hx hb hX hbl hbA hH.2.2.2.1 (sc_in ty7 hi h6 (by decide)) dL_law_174 ?_
      refine lv_topi (fun y17 ey17 => ?_)
      obtain rfl : y8 = y17 := ey8.trans ey17.symm
      refine lv_aload_n hx hb dL_law_175 rfl (lv_at hl 0 rfl) ?_
      refine lv_iload_n hx hb dL_law_176 rfl (lv_at hl 3 rfl) ?_
      refine lv_iconst (v := 2) hx hb dL_law_177 (by decide) ?_
      refine lv_iadd hx hb dL_law_178 ?_
      refine lv_topi (fun y18 ey18 => ?_)
      obtain rfl : y9 = y18 := ey9.trans ey18.symm
      refine va_sld hx hb hX hbl hbA hH.2.2.2.1 (sc_in ty9 hi h6 (by decide)) dL_law_179 ?_
      refine lv_topi (fun y19 ey19 => ?_)
      obtain rfl : y10 = y19 := ey10.trans ey19.symm
      refine lv_aload_n hx hb dL_law_180 rfl (lv_at hl 0 rfl) ?_
      refine lv_iload_n hx hb dL_law_181 rfl (lv_at hl 3 rfl) ?_
      refine lv_iconst (v := 3) hx hb dL_law_182 (by decide) ?_
      refine lv_iadd hx hb dL_law_183 ?_
      refine lv_topi (fun y20 ey20 => ?_)
      obtain rfl : y11 = y20 := ey11.trans ey20.symm
      refine va_sld hx hb hX hbl hbA hH.2.2.2.1 (sc_in ty11 hi h6 (by decide)) dL_law_184 ?_
      refine lv_topi (fun y21 ey21 => ?_)
      obtain rfl : y12 = y21 := ey12.trans ey21.symm
      refine lv_aload_n hx hb dL_law_185 rfl (lv_at hl 0 rfl) ?_
      refine lv_iload_n hx hb dL_law_186 rfl (lv_at hl 3 rfl) ?_
      refine lv_iconst (v := 4) hx hb dL_law_187 (by decide) ?_
      refine lv_iadd hx hb dL_law_188 ?_
      refine lv_topi (fun y22 ey22 => ?_)
      obtain rfl : y13 = y22 := ey13.trans ey22.symm
      refine va_sld hx hb hX hbl hbA hH.2.2.2.1 (sc_in ty13 hi h6 (by decide)) dL_law_189 ?_
      refine lv_topi (fun y23 ey23 => ?_)
      obtain rfl : y14 = y23 := ey14.trans ey23.symm
      refine ca_L_17 hx hb hml hown hts hH (c_X11_rule oI oR mm km (by exact uq)) hl.1 mm km rfl (by decide) (Nat.le_of_ble_eq_true rfl) ⟨by decide, by decide⟩ dL_law_190 (fun y24 I24 J24 R24 H locs hp hH => ?_)
      obtain ⟨⟨oI, -, sc24⟩, eJ24, eR24, ry24, hp24⟩ := hp
      obtain rfl : J = J24 := eJ24.symm
      obtain rfl : R = R24 := eR24.symm
      have sm : Sm C ms_L_law (I, J, R) (I24, J, R) := sm.tr sc24 rfl
      have xm : XM L C I24 := XM.sm (u := (I15, J, R)) (v := (I24, J, R)) xm sc24 rfl rfl
      have xw : XW L C I24 := XW.sm (u := (I15, J, R)) (v := (I24, J, R)) xw sc24 rfl rfl
      have ow : Ow L C R := Ow.sm (u := (I15, J, R)) (v := (I24, J, R)) ow sc24 rfl
      have rel : RC L C x mo (I24, J, R) := RC.sm (u := (I15, J, R)) (v := (I24, J, R)) rel oR sc24 rfl
      refine lv_pop hx hb dL_law_193 rfl ?_
      refine lv_goto (tgt := 1244) hx hb dL_law_194 (by decide) ?_
      exact L_1244 h6 I24 J R _ _ _ hH oI oR xm xw ow rel (lv_sub hl [0, 1, 2, 3] rfl)
    · have r25 : Rg y4 (1) (1) := ⟨by rw [z5]; decide, by rw [z5]; decide⟩
      refine lv_tableIn (tgt := 197) hx hb dL_law_33 (by rw [z5]; decide) (by rw [z5]; decide) (by rw [z5]; rfl) (by decide) ?_
      refine lv_aload_n hx hb dL_law_197 rfl (lv_at hl 1 rfl) ?_
      refine lv_aload_n hx hb dL_law_198 rfl (lv_at hl 0 rfl) ?_
      refine lv_iload_n hx hb dL_law_199 rfl (lv_at hl 3 rfl) ?_
      refine lv_iconst (v := 1) hx hb dL_law_200 (by decide) ?_
      refine lv_iadd hx hb dL_law_201 ?_
      refine lv_topi (fun y26 ey26 => ?_)
      obtain ⟨ty26, ry26⟩ := Rg_addx (a' := (1)) (b' := (3073)) (rfl : x3.toInt = _) (by decide : Int32.toInt 1 = 1) r3 (Rg_c (x := 1) (a := (1)) (b := (1)) (by decide)) (by decide)
      rw [← ey26] at ty26 ry26
      refine va_sld hx hb hX hbl hbA hH.2.2.2.1 (sc_in ty26 hi h6 (by decide)) dL_law_202 ?_
      refine lv_topi (fun y27 ey27 => ?_)
      refine ca_L_18 hx hb hml hown hts hH (c_X10_drop oI oR mx kx (by exact uq)) hl.1 mx kx rfl (by decide) (Nat.le_of_ble_eq_true rfl) ⟨by decide, by decide⟩ dL_law_203 (fun y28 I28 J28 R28 H locs hp hH => ?_)
      obtain ⟨⟨oI, -, sc28⟩, eJ28, eR28, ry28, hp28⟩ := hp
      obtain rfl : J = J28 := eJ28.symm
      obtain rfl : R = R28 := eR28.symm
      have sm : Sm C ms_L_law (I, J, R) (I28, J, R) := sm.tr sc28 rfl
      have xm : XM L C I28 := XM.sm (u := (I, J, R)) (v := (I28, J, R)) xm sc28 rfl rfl
      have xw : XW L C I28 := XW.sm (u := (I, J, R)) (v := (I28, J, R)) xw sc28 rfl rfl
      have ow : Ow L C R := Ow.sm (u := (I, J, R)) (v := (I28, J, R)) ow sc28 rfl
      have rel : RC L C x mo (I28, J, R) := RC.sm (u := (I, J, R)) (v := (I28, J, R)) rel oR sc28 rfl
      refine lv_pop hx hb dL_law_206 rfl ?_
      refine lv_aload_n hx hb dL_law_207 rfl (lv_at hl 2 rfl) ?_
      refine lv_aload_n hx hb dL_law_208 rfl (lv_at hl 0 rfl) ?_
      refine lv_iload_n hx hb dL_law_209 rfl (lv_at hl 3 rfl) ?_
      refine lv_iconst (v := 1) hx hb dL_law_210 (by decide) ?_
      refine lv_iadd hx hb dL_law_211 ?_
      refine lv_topi (fun y29 ey29 => ?_)
      obtain rfl : y26 = y29 := ey26.trans ey29.symm
      refine va_sld hx hb hX hbl hbA hH.2.2.2.1 (sc_in ty26 hi h6 (by decide)) dL_law_212 ?_
      refine lv_topi (fun y30 ey30 => ?_)
      obtain rfl : y27 = y30 := ey27.trans ey30.symm
      refine ca_L_22 hx hb hml hown hts hH (c_X11_drop oI oR mm km (by exact uq)) hl.1 mm km rfl (by decide) (Nat.le_of_ble_eq_true rfl) ⟨by decide, by decide⟩ dL_law_213 (fun y31 I31 J31 R31 H locs hp hH => ?_)
      obtain ⟨⟨oI, -, sc31⟩, eJ31, eR31, ry31, hp31⟩ := hp
      obtain rfl : J = J31 := eJ31.symm
      obtain rfl : R = R31 := eR31.symm
      have sm : Sm C ms_L_law (I, J, R) (I31, J, R) := sm.tr sc31 rfl
      have xm : XM L C I31 := XM.sm (u := (I28, J, R)) (v := (I31, J, R)) xm sc31 rfl rfl
      have xw : XW L C I31 := XW.sm (u := (I28, J, R)) (v := (I31, J, R)) xw sc31 rfl rfl
      have ow : Ow L C R := Ow.sm (u := (I28, J, R)) (v := (I31, J, R)) ow sc31 rfl
      have rel : RC L C x mo (I31, J, R) := RC.sm (u := (I28, J, R)) (v := (I31, J, R)) rel oR sc31 rfl
      refine lv_pop hx hb dL_law_216 rfl ?_
      refine lv_goto (tgt := 1244) hx hb dL_law_217 (by decide) ?_
      exact L_1244 h6 I31 J R _ _ _ hH oI oR xm xw ow rel (lv_sub hl [0, 1, 2, 3] rfl)
    · have r32 : Rg y4 (2) (2) := ⟨by rw [z5]; decide, by rw [z5]; decide⟩
      refine lv_tableIn (tgt := 220) hx hb dL_law_33 (by rw [z5]; decide) (by rw [z5]; decide) (by rw [z5]; rfl) (by decide) ?_
      refine lv_aload_n hx hb dL_law_220 rfl (lv_at hl 1 rfl) ?_
      refine lv_aload_n hx hb dL_law_221 rfl (lv_at hl 0 rfl) ?_
      refine lv_iload_n hx hb dL_law_222 rfl (lv_at hl 3 rfl) ?_
      refine lv_iconst (v := 1) hx hb dL_law_223 (by decide) ?_
      refine lv_iadd hx hb dL_law_224 ?_
      refine lv_topi (fun y33 ey33 => ?_)
      obtain ⟨ty33, ry33⟩ := Rg_addx (a' := (1)) (b' := (3073)) (rfl : x3.toInt = _) (by decide : Int32.toInt 1 = 1) r3 (Rg_c (x := 1) (a := (1)) (b := (1)) (by decide)) (by decide)
      rw [← ey33] at ty33 ry33
      refine va_sld hx hb hX hbl hbA hH.2.2.2.1 (sc_in ty33 hi h6 (by decide)) dL_law_225 ?_
      refine lv_topi (fun y34 ey34 => ?_)
      refine lv_aload_n hx hb dL_law_226 rfl (lv_at hl 0 rfl) ?_
      refine lv_iload_n hx hb dL_law_227 rfl (lv_at hl 3 rfl) ?_
      refine lv_iconst (v := 2) hx hb dL_law_228 (by decide) ?_
      refine lv_iadd hx hb dL_law_229 ?_
      refine lv_topi (fun y35 ey35 => ?_)
      obtain ⟨ty35, ry35⟩ := Rg_addx (a' := (2)) (b' := (3074)) (rfl : x3.toInt = _) (by decide : Int32.toInt 2 = 2) r3 (Rg_c (x := 2) (a := (2)) (b := (2)) (by decide)) (by decide)
      rw [← ey35] at ty35 ry35
      refine va_sld hx hb hX hbl hbA hH.2.2.2.1 (sc_in ty35 hi h6 (by decide)) dL_law_230 ?_
      refine lv_topi (fun y36 ey36 => ?_)
      refine lv_aload_n hx hb dL_law_231 rfl (lv_at hl 0 rfl) ?_
      refine lv_iload_n hx hb dL_law_232 rfl (lv_at hl 3 rfl) ?_
      refine lv_iconst (v := 3) hx hb dL_law_233 (by decide) ?_
      refine lv_iadd hx hb dL_law_234 ?_
      refine lv_topi (fun y37 ey37 => ?_)
      obtain ⟨ty37, ry37⟩ := Rg_addx (a' := (3)) (b' := (3075)) (rfl : x3.toInt = _) (by decide : Int32.toInt 3 = 3) r3 (Rg_c (x := 3) (a := (3)) (b := (3)) (by decide)) (by decide)
      rw [← ey37] at ty37 ry37
      refine va_sld hx hb hX hbl hbA hH.2.2.2.1 (sc_in ty37 hi h6 (by decide)) dL_law_235 ?_
      refine lv_topi (fun y38 ey38 => ?_)
      refine ca_L_23 hx hb hml hown hts hH (c_X10_turning oI oR mx kx) hl.1 mx kx rfl (by decide) (Nat.le_of_ble_eq_true rfl) ⟨by decide, by decide⟩ dL_law_236 (fun y39 I39 J39 R39 H locs hp hH => ?_)
      obtain ⟨eI39, eJ39, eR39⟩ := hp
      obtain rfl : I = I39 := eI39.symm
      obtain rfl : J = J39 := eJ39.symm
      obtain rfl : R = R39 := eR39.symm
      refine lv_pop hx hb dL_law_239 rfl ?_
      refine lv_aload_n hx hb dL_law_240 rfl (lv_at hl 2 rfl) ?_
      refine lv_aload_n hx hb dL_law_241 rfl (lv_at hl 0 rfl) ?_
      refine lv_iload_n hx hb dL_law_242 rfl (lv_at hl 3 rfl) ?_
      refine lv_iconst (v := 1) hx hb dL_law_243 (by decide) ?_
      refine lv_iadd hx hb dL_law_244 ?_
      refine lv_topi (fun y40 ey40 => ?_)
      obtain rfl : y33 = y40 := ey33.trans ey40.symm
      refine va_sld hx hb hX hbl hbA hH.2.2.2.1 (sc_in ty33 hi h6 (by decide)) dL_law_245 ?_
      refine lv_topi (fun y41 ey41 => ?_)
      obtain rfl : y34 = y41 := ey34.trans ey41.symm
      refine lv_aload_n hx hb dL_law_246 rfl (lv_at hl 0 rfl) ?_
      refine lv_iload_n hx hb dL_law_247 rfl (lv_at hl 3 rfl) ?_
      refine lv_iconst (v := 2) hx hb dL_law_248 (by decide) ?_
      refine lv_iadd hx hb dL_law_249 ?_
      refine lv_topi (fun y42 ey42 => ?_)
      obtain rfl : y35 = y42 := ey35.trans ey42.symm
      refine va_sld hx hb hX hbl hbA hH.2.2.2.1 (sc_in ty35 hi h6 (by decide)) dL_law_250 ?_
      refine lv_topi (fun y43 ey43 => ?_)
      obtain rfl : y36 = y43 := ey36.trans ey43.symm
      refine lv_aload_n hx hb dL_law_251 rfl (lv_at hl 0 rfl) ?_
      refine lv_iload_n hx hb dL_law_252 rfl (lv_at hl 3 rfl) ?_
      refine lv_iconst (v := 3) hx hb dL_law_253 (by decide) ?_
      refine lv_iadd hx hb dL_law_254 ?_
      refine lv_topi (fun y44 ey44 => ?_)
      obtain rfl : y37 = y44 := ey37.trans ey44.symm
      refine va_sld hx hb hX hbl hbA hH.2.2.2.1 (sc_in ty37 hi h6 (by decide)) dL_law_255 ?_
      refine lv_topi (fun y45 ey45 => ?_)
      obtain rfl : y38 = y45 := ey38.trans ey45.symm
      refine ca_L_27 hx hb hml hown hts hH (c_X11_turning oI oR mm km) hl.1 mm km rfl (by decide) (Nat.le_of_ble_eq_true rfl) ⟨by decide, by decide⟩ dL_law_256 (fun y46 I46 J46 R46 H locs hp hH => ?_)
      obtain ⟨⟨oI, -, sc46⟩, eJ46, eR46, ry46⟩ := hp
      obtain rfl : J = J46 := eJ46.symm
      obtain rfl : R = R46 := eR46.symm
      have sm : Sm C ms_L_law (I, J, R) (I46, J, R) := sm.tr sc46 rfl
      have xm : XM L C I46 := XM.sm (u := (I, J, R)) (v := (I46, J, R)) xm sc46 rfl rfl
      have xw : XW L C I46 := XW.sm (u := (I, J, R)) (v := (I46, J, R)) xw sc46 rfl rfl
      have ow : Ow L C R := Ow.sm (u := (I, J, R)) (v := (I46, J, R)) ow sc46 rfl
      have rel : RC L C x mo (I46, J, R) := RC.sm (u := (I, J, R)) (v := (I46, J, R)) rel oR sc46 rfl
      refine lv_pop hx hb dL_law_259 rfl ?_
      refine lv_goto (tgt := 1244) hx hb dL_law_260 (by decide) ?_
      exact L_1244 h6 I46 J R _ _ _ hH oI oR xm xw ow rel (lv_sub hl [0, 1, 2, 3] rfl)
    · have r47 : Rg y4 (3) (3) := ⟨by rw [z5]; decide, by rw [z5]; decide⟩
      refine lv_tableIn (tgt := 263) hx hb dL_law_33 (by rw [z5]; decide) (by rw [z5]; decide) (by rw [z5]; rfl) (by decide) ?_
      refine lv_aload_n hx hb dL_law_263 rfl (lv_at hl 1 rfl) ?_
      refine lv_aload_n hx hb dL_law_264 rfl (lv_at hl 0 rfl) ?_
      refine lv_iload_n hx hb dL_law_265 rfl (lv_at hl 3 rfl) ?_
      refine lv_iconst (v := 1) hx hb dL_law_266 (by decide) ?_
      refine lv_iadd hx hb dL_law_267 ?_
      refine lv_topi (fun y48 ey48 => ?_)
      obtain ⟨ty48, ry48⟩ := Rg_addx (a' := (1)) (b' := (3073)) (rfl : x3.toInt = _) (by decide : Int32.toInt 1 = 1) r3 (Rg_c (x := 1) (a := (1)) (b := (1)) (by decide)) (by decide)
      rw [← ey48] at ty48 ry48
      refine va_sld hx hb hX hbl hbA hH.2.2.2.1 (sc_in ty48 hi h6 (by decide)) dL_law_268 ?_
      refine lv_topi (fun y49 ey49 => ?_)
      refine lv_aload_n hx hb dL_law_269 rfl (lv_at hl 0 rfl) ?_
      refine lv_iload_n hx hb dL_law_270 rfl (lv_at hl 3 rfl) ?_
      refine lv_iconst (v := 2) hx hb dL_law_271 (by decide) ?_
      refine lv_iadd hx hb dL_law_272 ?_
      refine lv_topi (fun y50 ey50 => ?_)
      obtain ⟨ty50, ry50⟩ := Rg_addx (a' := (2)) (b' := (3074)) (rfl : x3.toInt = _) (by decide : Int32.toInt 2 = 2) r3 (Rg_c (x := 2) (a := (2)) (b := (2)) (by decide)) (by decide)
      rw [← ey50] at ty50 ry50
      refine va_sld hx hb hX hbl hbA hH.2.2.2.1 (sc_in ty50 hi h6 (by decide)) dL_law_273 ?_
      refine lv_topi (fun y51 ey51 => ?_)
      refine lv_aload_n hx hb dL_law_274 rfl (lv_at hl 0 rfl) ?_
      refine lv_iload_n hx hb dL_law_275 rfl (lv_at hl 3 rfl) ?_
      refine lv_iconst (v := 3) hx hb dL_law_276 (by decide) ?_
      refine lv_iadd hx hb dL_law_277 ?_
      refine lv_topi (fun y52 ey52 => ?_)
      obtain ⟨ty52, ry52⟩ := Rg_addx (a' := (3)) (b' := (3075)) (rfl : x3.toInt = _) (by decide : Int32.toInt 3 = 3) r3 (Rg_c (x := 3) (a := (3)) (b := (3)) (by decide)) (by decide)
      rw [← ey52] at ty52 ry52
      refine va_sld hx hb hX hbl hbA hH.2.2.2.1 (sc_in ty52 hi h6 (by decide)) dL_law_278 ?_
      refine lv_topi (fun y53 ey53 => ?_)
      refine lv_i2l (v := y53.toInt64) hx hb dL_law_279 rfl ?_
      refine lv_bipush (v := 32) hx hb dL_law_280 (by decide) ?_
      refine lv_lshl hx hb dL_law_282 rfl ?_
      refine lv_topl (fun w54 ew54 => ?_)
      refine lv_aload_n hx hb dL_law_283 rfl (lv_at hl 0 rfl) ?_
      refine lv_iload_n hx hb dL_law_284 rfl (lv_at hl 3 rfl) ?_
      refine lv_iconst (v := 4) hx hb dL_law_285 (by decide) ?_
      refine lv_iadd hx hb dL_law_286 ?_
      refine lv_topi (fun y55 ey55 => ?_)
      obtain ⟨ty55, ry55⟩ := Rg_addx (a' := (4)) (b' := (3076)) (rfl : x3.toInt = _) (by decide : Int32.toInt 4 = 4) r3 (Rg_c (x := 4) (a := (4)) (b := (4)) (by decide)) (by decide)
      rw [← ey55] at ty55 ry55
      refine va_sld hx hb hX hbl hbA hH.2.2.2.1 (sc_in ty55 hi h6 (by decide)) dL_law_287 ?_
      refine lv_topi (fun y56 ey56 => ?_)
      refine lv_i2l (v := y56.toInt64) hx hb dL_law_288 rfl ?_
      refine lv_ldc2 (v := 4294967295) hx hb hown (hts _ kkl_L_28) dL_law_289 ?_
      refine lv_land hx hb dL_law_292 ?_
      refine lv_topl (fun w57 ew57 => ?_)
      refine lv_lor hx hb dL_law_293 ?_
      refine lv_topl (fun w58 ew58 => ?_)
      refine ca_L_30 hx hb hml hown hts hH (c_X10_turn oI oR mx kx) hl.1 mx kx rfl (by decide) (Nat.le_of_ble_eq_true rfl) ⟨by decide, by decide⟩ dL_law_294 (fun y59 I59 J59 R59 H locs hp hH => ?_)
      obtain ⟨⟨oI, -, sc59⟩, eR59, ry59⟩ := hp
      obtain rfl : R = R59 := eR59.symm
      have sm : Sm C ms_L_law (I, J, R) (I59, J59, R) := sm.tr sc59 rfl
      have xm : XM L C I59 := XM.sm (u := (I, J, R)) (v := (I59, J59, R)) xm sc59 rfl rfl
      have xw : XW L C I59 := XW.sm (u := (I, J, R)) (v := (I59, J59, R)) xw sc59 rfl rfl
      have ow : Ow L C R := Ow.sm (u := (I, J, R)) (v := (I59, J59, R)) ow sc59 rfl
      have rel : RC L C x mo (I59, J59, R) := RC.sm (u := (I, J, R)) (v := (I59, J59, R)) rel oR sc59 rfl
      refine lv_pop hx hb dL_law_297 rfl ?_
      refine lv_aload_n hx hb dL_law_298 rfl (lv_at hl 2 rfl) ?_
      refine lv_aload_n hx hb dL_law_299 rfl (lv_at hl 0 rfl) ?_
      refine lv_iload_n hx hb dL_law_300 rfl (lv_at hl 3 rfl) ?_
      refine lv_iconst (v := 1) hx hb dL_law_301 (by decide) ?_
      refine lv_iadd hx hb dL_law_302 ?_
      refine lv_topi (fun y60 ey60 => ?_)
      obtain rfl : y48 = y60 := ey48.trans ey60.symm
      refine va_sld hx hb hX hbl hbA hH.2.2.2.1 (sc_in ty48 hi h6 (by decide)) dL_law_303 ?_
      refine lv_topi (fun y61 ey61 => ?_)
      obtain rfl : y49 = y61 := ey49.trans ey61.symm
      refine lv_aload_n hx hb dL_law_304 rfl (lv_at hl 0 rfl) ?_
      refine lv_iload_n hx hb dL_law_305 rfl (lv_at hl 3 rfl) ?_
      refine lv_iconst (v := 2) hx hb dL_law_306 (by decide) ?_
      refine lv_iadd hx hb dL_law_307 ?_
      refine lv_topi (fun y62 ey62 => ?_)
      obtain rfl : y50 = y62 := ey50.trans ey62.symm
      refine va_sld hx hb hX hbl hbA hH.2.2.2.1 (sc_in ty50 hi h6 (by decide)) dL_law_308 ?_
      refine lv_topi (fun y63 ey63 => ?_)
      obtain rfl : y51 = y63 := ey51.trans ey63.symm
      refine lv_aload_n hx hb dL_law_309 rfl (lv_at hl 0 rfl) ?_
      refine lv_iload_n hx hb dL_law_310 rfl (lv_at hl 3 rfl) ?_
      refine lv_iconst (v := 3) hx hb dL_law_311 (by decide) ?_
      refine lv_iadd hx hb dL_law_312 ?_
      refine lv_topi (fun y64 ey64 => ?_)
      obtain rfl : y52 = y64 := ey52.trans ey64.symm
      refine va_sld hx hb hX hbl hbA hH.2.2.2.1 (sc_in ty52 hi h6 (by decide)) dL_law_313 ?_
      refine lv_topi (fun y65 ey65 => ?_)
      obtain rfl : y53 = y65 := ey53.trans ey65.symm
      refine lv_i2l (v := y53.toInt64) hx hb dL_law_314 rfl ?_
      refine lv_bipush (v := 32) hx hb dL_law_315 (by decide) ?_
      refine lv_lshl hx hb dL_law_317 rfl ?_
      refine lv_topl (fun w66 ew66 => ?_)
      obtain rfl : w54 = w66 := ew54.trans ew66.symm
      refine lv_aload_n hx hb dL_law_318 rfl (lv_at hl 0 rfl) ?_
      refine lv_iload_n hx hb dL_law_319 rfl (lv_at hl 3 rfl) ?_
      refine lv_iconst (v := 4) hx hb dL_law_320 (by decide) ?_
      refine lv_iadd hx hb dL_law_321 ?_
      refine lv_topi (fun y67 ey67 => ?_)
      obtain rfl : y55 = y67 := ey55.trans ey67.symm
      refine va_sld hx hb hX hbl hbA hH.2.2.2.1 (sc_in ty55 hi h6 (by decide)) dL_law_322 ?_
      refine lv_topi (fun y68 ey68 => ?_)
      obtain rfl : y56 = y68 := ey56.trans ey68.symm
      refine lv_i2l (v := y56.toInt64) hx hb dL_law_323 rfl ?_
      refine lv_ldc2 (v := 4294967295) hx hb hown (hts _ kkl_L_28) dL_law_324 ?_
      refine lv_land hx hb dL_law_327 ?_
      refine lv_topl (fun w69 ew69 => ?_)
      obtain rfl : w57 = w69 := ew57.trans ew69.symm
      refine lv_lor hx hb dL_law_328 ?_
      refine lv_topl (fun w70 ew70 => ?_)
      obtain rfl : w58 = w70 := ew58.trans ew70.symm
      refine ca_L_34 hx hb hml hown hts hH (c_X11_turn oI oR mm km) hl.1 mm km rfl (by decide) (Nat.le_of_ble_eq_true rfl) ⟨by decide, by decide⟩ dL_law_329 (fun y71 I71 J71 R71 H locs hp hH => ?_)
      obtain ⟨⟨oI, -, sc71⟩, eR71, ry71⟩ := hp
      obtain rfl : R = R71 := eR71.symm
      have sm : Sm C ms_L_law (I, J, R) (I71, J71, R) := sm.tr sc71 rfl
      have xm : XM L C I71 := XM.sm (u := (I59, J59, R)) (v := (I71, J71, R)) xm sc71 rfl rfl
      have xw : XW L C I71 := XW.sm (u := (I59, J59, R)) (v := (I71, J71, R)) xw sc71 rfl rfl
      have ow : Ow L C R := Ow.sm (u := (I59, J59, R)) (v := (I71, J71, R)) ow sc71 rfl
      have rel : RC L C x mo (I71, J71, R) := RC.sm (u := (I59, J59, R)) (v := (I71, J71, R)) rel oR sc71 rfl
      refine lv_pop hx hb dL_law_332 rfl ?_
      refine lv_goto (tgt := 1244) hx hb dL_law_333 (by decide) ?_
      exact L_1244 h6 I71 J71 R _ _ _ hH oI oR xm xw ow rel (lv_sub hl [0, 1, 2, 3] rfl)
    · have r72 : Rg y4 (4) (4) := ⟨by rw [z5]; decide, by rw [z5]; decide⟩
      refine lv_tableIn (tgt := 336) hx hb dL_law_33 (by rw [z5]; decide) (by rw [z5]; decide) (by rw [z5]; rfl) (by decide) ?_
      refine lv_aload_n hx hb dL_law_336 rfl (lv_at hl 1 rfl) ?_
      refine lv_aload_n hx hb dL_law_337 rfl (lv_at hl 0 rfl) ?_
      refine lv_iload_n hx hb dL_law_338 rfl (lv_at hl 3 rfl) ?_
      refine lv_iconst (v := 1) hx hb dL_law_339 (by decide) ?_
      refine lv_iadd hx hb dL_law_340 ?_
      refine lv_topi (fun y73 ey73 => ?_)
      obtain ⟨ty73, ry73⟩ := Rg_addx (a' := (1)) (b' := (3073)) (rfl : x3.toInt = _) (by decide : Int32.toInt 1 = 1) r3 (Rg_c (x := 1) (a := (1)) (b := (1)) (by decide)) (by decide)
      rw [← ey73] at ty73 ry73
      refine va_sld hx hb hX hbl hbA hH.2.2.2.1 (sc_in ty73 hi h6 (by decide)) dL_law_341 ?_
      refine lv_topi (fun y74 ey74 => ?_)
      refine lv_aload_n hx hb dL_law_342 rfl (lv_at hl 0 rfl) ?_
      refine lv_iload_n hx hb dL_law_343 rfl (lv_at hl 3 rfl) ?_
      refine lv_iconst (v := 2) hx hb dL_law_344 (by decide) ?_
      refine lv_iadd hx hb dL_law_345 ?_
      refine lv_topi (fun y75 ey75 => ?_)
      obtain ⟨ty75, ry75⟩ := Rg_addx (a' := (2)) (b' := (3074)) (rfl : x3.toInt = _) (by decide : Int32.toInt 2 = 2) r3 (Rg_c (x := 2) (a := (2)) (b := (2)) (by decide)) (by decide)
      rw [← ey75] at ty75 ry75
      refine va_sld hx hb hX hbl hbA hH.2.2.2.1 (sc_in ty75 hi h6 (by decide)) dL_law_346 ?_
      refine lv_topi (fun y76 ey76 => ?_)
      refine lv_aload_n hx hb dL_law_347 rfl (lv_at hl 0 rfl) ?_
      refine lv_iload_n hx hb dL_law_348 rfl (lv_at hl 3 rfl) ?_
      refine lv_iconst (v := 3) hx hb dL_law_349 (by decide) ?_
      refine lv_iadd hx hb dL_law_350 ?_
      refine lv_topi (fun y77 ey77 => ?_)
      obtain ⟨ty77, ry77⟩ := Rg_addx (a' := (3)) (b' := (3075)) (rfl : x3.toInt = _) (by decide : Int32.toInt 3 = 3) r3 (Rg_c (x := 3) (a := (3)) (b := (3)) (by decide)) (by decide)
      rw [← ey77] at ty77 ry77
      refine va_sld hx hb hX hbl hbA hH.2.2.2.1 (sc_in ty77 hi h6 (by decide)) dL_law_351 ?_
      refine lv_topi (fun y78 ey78 => ?_)
      refine ca_L_35 hx hb hml hown hts hH (c_X10_ask oI oR mx kx (by exact xm)) hl.1 mx kx rfl (by decide) (Nat.le_of_ble_eq_true rfl) ⟨by decide, by decide⟩ dL_law_352 (fun y79 I79 J79 R79 H locs hp hH => ?_)
      obtain ⟨⟨oI, -, sc79⟩, eJ79, eR79, ry79, hp79⟩ := hp
      obtain rfl : J = J79 := eJ79.symm
      obtain rfl : R = R79 := eR79.symm
      have sm : Sm C ms_L_law (I, J, R) (I79, J, R) := sm.tr sc79 rfl
      have xm : XM L C I79 := hp79
      have xw : XW L C I79 := XW.sm (u := (I, J, R)) (v := (I79, J, R)) xw sc79 rfl rfl
      have ow : Ow L C R := Ow.sm (u := (I, J, R)) (v := (I79, J, R)) ow sc79 rfl
      have rel : RC L C x mo (I79, J, R) := RC.sm (u := (I, J, R)) (v := (I79, J, R)) rel oR sc79 rfl
      refine lv_pop hx hb dL_law_355 rfl ?_
      refine lv_aload_n hx hb dL_law_356 rfl (lv_at hl 2 rfl) ?_
      refine lv_aload_n hx hb dL_law_357 rfl (lv_at hl 0 rfl) ?_
      refine lv_iload_n hx hb dL_law_358 rfl (lv_at hl 3 rfl) ?_
      refine lv_iconst (v := 1) hx hb dL_law_359 (by decide) ?_
      refine lv_iadd hx hb dL_law_360 ?_
      refine lv_topi (fun y80 ey80 => ?_)
      obtain rfl : y73 = y80 := ey73.trans ey80.symm
      refine va_sld hx hb hX hbl hbA hH.2.2.2.1 (sc_in ty73 hi h6 (by decide)) dL_law_361 ?_
      refine lv_topi (fun y81 ey81 => ?_)
      obtain rfl : y74 = y81 := ey74.trans ey81.symm
      refine lv_aload_n hx hb dL_law_362 rfl (lv_at hl 0 rfl) ?_
      refine lv_iload_n hx hb dL_law_363 rfl (lv_at hl 3 rfl) ?_
      refine lv_iconst (v := 2) hx hb dL_law_364 (by decide) ?_
      refine lv_iadd hx hb dL_law_365 ?_
      refine lv_topi (fun y82 ey82 => ?_)
      obtain rfl : y75 = y82 := ey75.trans ey82.symm
      refine va_sld hx hb hX hbl hbA hH.2.2.2.1 (sc_in ty75 hi h6 (by decide)) dL_law_366 ?_
      refine lv_topi (fun y83 ey83 => ?_)
      obtain rfl : y76 = y83 := ey76.trans ey83.symm
      refine lv_aload_n hx hb dL_law_367 rfl (lv_at hl 0 rfl) ?_
      refine lv_iload_n hx hb dL_law_368 rfl (lv_at hl 3 rfl) ?_
      refine lv_iconst (v := 3) hx hb dL_law_369 (by decide) ?_
      refine lv_iadd hx hb dL_law_370 ?_
      refine lv_topi (fun y84 ey84 => ?_)
      obtain rfl : y77 = y84 := ey77.trans ey84.symm
      refine va_sld hx hb hX hbl hbA hH.2.2.2.1 (sc_in ty77 hi h6 (by decide)) dL_law_371 ?_
      refine lv_topi (fun y85 ey85 => ?_)
      obtain rfl : y78 = y85 := ey78.trans ey85.symm
      refine ca_L_38 hx hb hml hown hts hH (c_X11_ask oI oR mm km (by exact xw) (by exact uq)) hl.1 mm km rfl (by decide) (Nat.le_of_ble_eq_true rfl) ⟨by decide, by decide⟩ dL_law_372 (fun y86 I86 J86 R86 H locs hp hH => ?_)
      obtain ⟨⟨oI, -, sc86⟩, eJ86, eR86, ry86, hp86⟩ := hp
      obtain rfl : J = J86 := eJ86.symm
      obtain rfl : R = R86 := eR86.symm
      have sm : Sm C ms_L_law (I, J, R) (I86, J, R) := sm.tr sc86 rfl
      have xm : XM L C I86 := XM.sm (u := (I79, J, R)) (v := (I86, J, R)) xm sc86 rfl rfl
      have xw : XW L C I86 := hp86
      have ow : Ow L C R := Ow.sm (u := (I79, J, R)) (v := (I86, J, R)) ow sc86 rfl
      have rel : RC L C x mo (I86, J, R) := RC.sm (u := (I79, J, R)) (v := (I86, J, R)) rel oR sc86 rfl
      refine lv_pop hx hb dL_law_375 rfl ?_
      refine lv_goto (tgt := 1244) hx hb dL_law_376 (by decide) ?_
      exact L_1244 h6 I86 J R _ _ _ hH oI oR xm xw ow rel (lv_sub hl [0, 1, 2, 3] rfl)
    · have r87 : Rg y4 (5) (5) := ⟨by rw [z5]; decide, by rw [z5]; decide⟩
      refine lv_tableIn (tgt := 379) hx hb dL_law_33 (by rw [z5]; decide) (by rw [z5]; decide) (by rw [z5]; rfl) (by decide) ?_
      refine lv_aload_n hx hb dL_law_379 rfl (lv_at hl 1 rfl) ?_
      refine lv_aload_n hx hb dL_law_380 rfl (lv_at hl 0 rfl) ?_
      refine lv_iload_n hx hb dL_law_381 rfl (lv_at hl 3 rfl) ?_
      refine lv_iconst (v := 1) hx hb dL_law_382 (by decide) ?_
      refine lv_iadd hx hb dL_law_383 ?_
      refine lv_topi (fun y88 ey88 => ?_)
      obtain ⟨ty88, ry88⟩ := Rg_addx (a' := (1)) (b' := (3073)) (rfl : x3.toInt = _) (by decide : Int32.toInt 1 = 1) r3 (Rg_c (x := 1) (a := (1)) (b := (1)) (by decide)) (by decide)
      rw [← ey88] at ty88 ry88
      refine va_sld hx hb hX hbl hbA hH.2.2.2.1 (sc_in ty88 hi h6 (by decide)) dL_law_384 ?_
      refine lv_topi (fun y89 ey89 => ?_)
      refine lv_aload_n hx hb dL_law_385 rfl (lv_at hl 0 rfl) ?_
      refine lv_iload_n hx hb dL_law_386 rfl (lv_at hl 3 rfl) ?_
      refine lv_iconst (v := 2) hx hb dL_law_387 (by decide) ?_
      refine lv_iadd hx hb dL_law_388 ?_
      refine lv_topi (fun y90 ey90 => ?_)
      obtain ⟨ty90, ry90⟩ := Rg_addx (a' := (2)) (b' := (3074)) (rfl : x3.toInt = _) (by decide : Int32.toInt 2 = 2) r3 (Rg_c (x := 2) (a := (2)) (b := (2)) (by decide)) (by decide)
      rw [← ey90] at ty90 ry90
      refine va_sld hx hb hX hbl hbA hH.2.2.2.1 (sc_in ty90 hi h6 (by decide)) dL_law_389 ?_
      refine lv_topi (fun y91 ey91 => ?_)
      refine lv_aload_n hx hb dL_law_390 rfl (lv_at hl 0 rfl) ?_
      refine lv_iload_n hx hb dL_law_391 rfl (lv_at hl 3 rfl) ?_
      refine lv_iconst (v := 3) hx hb dL_law_392 (by decide) ?_
      refine lv_iadd hx hb dL_law_393 ?_
      refine lv_topi (fun y92 ey92 => ?_)
      obtain ⟨ty92, ry92⟩ := Rg_addx (a' := (3)) (b' := (3075)) (rfl : x3.toInt = _) (by decide : Int32.toInt 3 = 3) r3 (Rg_c (x := 3) (a := (3)) (b := (3)) (by decide)) (by decide)
      rw [← ey92] at ty92 ry92
      refine va_sld hx hb hX hbl hbA hH.2.2.2.1 (sc_in ty92 hi h6 (by decide)) dL_law_394 ?_
      refine lv_topi (fun y93 ey93 => ?_)
      refine ca_L_39 hx hb hml hown hts hH (c_X10_offer oI oR mx kx (by exact xm)) hl.1 mx kx rfl (by decide) (Nat.le_of_ble_eq_true rfl) ⟨by decide, by decide⟩ dL_law_395 (fun y94 I94 J94 R94 H locs hp hH => ?_)
      obtain ⟨⟨oI, -, sc94⟩, eJ94, eR94, ry94, hp94⟩ := hp
      obtain rfl : J = J94 := eJ94.symm
      obtain rfl : R = R94 := eR94.symm
      have sm : Sm C ms_L_law (I, J, R) (I94, J, R) := sm.tr sc94 rfl
      have xm : XM L C I94 := hp94
      have xw : XW L C I94 := XW.sm (u := (I, J, R)) (v := (I94, J, R)) xw sc94 rfl rfl
      have ow : Ow L C R := Ow.sm (u := (I, J, R)) (v := (I94, J, R)) ow sc94 rfl
      have rel : RC L C x mo (I94, J, R) := RC.sm (u := (I, J, R)) (v := (I94, J, R)) rel oR sc94 rfl
      refine lv_pop hx hb dL_law_398 rfl ?_
      refine lv_aload_n hx hb dL_law_399 rfl (lv_at hl 2 rfl) ?_
      refine lv_aload_n hx hb dL_law_400 rfl (lv_at hl 0 rfl) ?_
      refine lv_iload_n hx hb dL_law_401 rfl (lv_at hl 3 rfl) ?_
      refine lv_iconst (v := 1) hx hb dL_law_402 (by decide) ?_
      refine lv_iadd hx hb dL_law_403 ?_
      refine lv_topi (fun y95 ey95 => ?_)
      obtain rfl : y88 = y95 := ey88.trans ey95.symm
      refine va_sld hx hb hX hbl hbA hH.2.2.2.1 (sc_in ty88 hi h6 (by decide)) dL_law_404 ?_
      refine lv_topi (fun y96 ey96 => ?_)
      obtain rfl : y89 = y96 := ey89.trans ey96.symm
      refine lv_aload_n hx hb dL_law_405 rfl (lv_at hl 0 rfl) ?_
      refine lv_iload_n hx hb dL_law_406 rfl (lv_at hl 3 rfl) ?_
      refine lv_iconst (v := 2) hx hb dL_law_407 (by decide) ?_
      refine lv_iadd hx hb dL_law_408 ?_
      refine lv_topi (fun y97 ey97 => ?_)
      obtain rfl : y90 = y97 := ey90.trans ey97.symm
      refine va_sld hx hb hX hbl hbA hH.2.2.2.1 (sc_in ty90 hi h6 (by decide)) dL_law_409 ?_
      refine lv_topi (fun y98 ey98 => ?_)
      obtain rfl : y91 = y98 := ey91.trans ey98.symm
      refine lv_aload_n hx hb dL_law_410 rfl (lv_at hl 0 rfl) ?_
      refine lv_iload_n hx hb dL_law_411 rfl (lv_at hl 3 rfl) ?_
      refine lv_iconst (v := 3) hx hb dL_law_412 (by decide) ?_
      refine lv_iadd hx hb dL_law_413 ?_
      refine lv_topi (fun y99 ey99 => ?_)
      obtain rfl : y92 = y99 := ey92.trans ey99.symm
      refine va_sld hx hb hX hbl hbA hH.2.2.2.1 (sc_in ty92 hi h6 (by decide)) dL_law_414 ?_
      refine lv_topi (fun y100 ey100 => ?_)
      obtain rfl : y93 = y100 := ey93.trans ey100.symm
      refine ca_L_42 hx hb hml hown hts hH (c_X11_offer oI oR mm km (by exact xw) (by exact uq)) hl.1 mm km rfl (by decide) (Nat.le_of_ble_eq_true rfl) ⟨by decide, by decide⟩ dL_law_415 (fun y101 I101 J101 R101 H locs hp hH => ?_)
      obtain ⟨⟨oI, -, sc101⟩, eJ101, eR101, ry101, hp101⟩ := hp
      obtain rfl : J = J101 := eJ101.symm
      obtain rfl : R = R101 := eR101.symm
      have sm : Sm C ms_L_law (I, J, R) (I101, J, R) := sm.tr sc101 rfl
      have xm : XM L C I101 := XM.sm (u := (I94, J, R)) (v := (I101, J, R)) xm sc101 rfl rfl
      have xw : XW L C I101 := hp101
      have ow : Ow L C R := Ow.sm (u := (I94, J, R)) (v := (I101, J, R)) ow sc101 rfl
      have rel : RC L C x mo (I101, J, R) := RC.sm (u := (I94, J, R)) (v := (I101, J, R)) rel oR sc101 rfl
      refine lv_pop hx hb dL_law_418 rfl ?_
      refine lv_goto (tgt := 1244) hx hb dL_law_419 (by decide) ?_
      exact L_1244 h6 I101 J R _ _ _ hH oI oR xm xw ow rel (lv_sub hl [0, 1, 2, 3] rfl)
    · have r102 : Rg y4 (6) (6) := ⟨by rw [z5]; decide, by rw [z5]; decide⟩
      refine lv_tableIn (tgt := 422) hx hb dL_law_33 (by rw [z5]; decide) (by rw [z5]; decide) (by rw [z5]; rfl) (by decide) ?_
      refine lv_aload_n hx hb dL_law_422 rfl (lv_at hl 1 rfl) ?_
      refine lv_aload_n hx hb dL_law_423 rfl (lv_at hl 0 rfl) ?_
      refine lv_iload_n hx hb dL_law_424 rfl (lv_at hl 3 rfl) ?_
      refine lv_iconst (v := 1) hx hb dL_law_425 (by decide) ?_
      refine lv_iadd hx hb dL_law_426 ?_
      refine lv_topi (fun y103 ey103 => ?_)
      obtain ⟨ty103, ry103⟩ := Rg_addx (a' := (1)) (b' := (3073)) (rfl : x3.toInt = _) (by decide : Int32.toInt 1 = 1) r3 (Rg_c (x := 1) (a := (1)) (b := (1)) (by decide)) (by decide)
      rw [← ey103] at ty103 ry103
      refine va_sld hx hb hX hbl hbA hH.2.2.2.1 (sc_in ty103 hi h6 (by decide)) dL_law_427 ?_
      refine lv_topi (fun y104 ey104 => ?_)
      refine lv_aload_n hx hb dL_law_428 rfl (lv_at hl 0 rfl) ?_
      refine lv_iload_n hx hb dL_law_429 rfl (lv_at hl 3 rfl) ?_
      refine lv_iconst (v := 2) hx hb dL_law_430 (by decide) ?_
      refine lv_iadd hx hb dL_law_431 ?_
      refine lv_topi (fun y105 ey105 => ?_)
      obtain ⟨ty105, ry105⟩ := Rg_addx (a' := (2)) (b' := (3074)) (rfl : x3.toInt = _) (by decide : Int32.toInt 2 = 2) r3 (Rg_c (x := 2) (a := (2)) (b := (2)) (by decide)) (by decide)
      rw [← ey105] at ty105 ry105
      refine va_sld hx hb hX hbl hbA hH.2.2.2.1 (sc_in ty105 hi h6 (by decide)) dL_law_432 ?_
      refine lv_topi (fun y106 ey106 => ?_)
      refine lv_aload_n hx hb dL_law_433 rfl (lv_at hl 0 rfl) ?_
      refine lv_iload_n hx hb dL_law_434 rfl (lv_at hl 3 rfl) ?_
      refine lv_iconst (v := 3) hx hb dL_law_435 (by decide) ?_
      refine lv_iadd hx hb dL_law_436 ?_
      refine lv_topi (fun y107 ey107 => ?_)
      obtain ⟨ty107, ry107⟩ := Rg_addx (a' := (3)) (b' := (3075)) (rfl : x3.toInt = _) (by decide : Int32.toInt 3 = 3) r3 (Rg_c (x := 3) (a := (3)) (b := (3)) (by decide)) (by decide)
      rw [← ey107] at ty107 ry107
      refine va_sld hx hb hX hbl hbA hH.2.2.2.1 (sc_in ty107 hi h6 (by decide)) dL_law_437 ?_
      refine lv_topi (fun y108 ey108 => ?_)
      refine lv_aload_n hx hb dL_law_438 rfl (lv_at hl 0 rfl) ?_
      refine lv_iload_n hx hb dL_law_439 rfl (lv_at hl 3 rfl) ?_
      refine lv_iconst (v := 4) hx hb dL_law_440 (by decide) ?_
      refine lv_iadd hx hb dL_law_441 ?_
      refine lv_topi (fun y109 ey109 => ?_)
      obtain ⟨ty109, ry109⟩ := Rg_addx (a' := (4)) (b' := (3076)) (rfl : x3.toInt = _) (by decide : Int32.toInt 4 = 4) r3 (Rg_c (x := 4) (a := (4)) (b := (4)) (by decide)) (by decide)
      rw [← ey109] at ty109 ry109
      refine va_sld hx hb hX hbl hbA hH.2.2.2.1 (sc_in ty109 hi h6 (by decide)) dL_law_442 ?_
      refine lv_topi (fun y110 ey110 => ?_)
      refine lv_aload_n hx hb dL_law_443 rfl (lv_at hl 0 rfl) ?_
      refine lv_iload_n hx hb dL_law_444 rfl (lv_at hl 3 rfl) ?_
      refine lv_iconst (v := 5) hx hb dL_law_445 (by decide) ?_
      refine lv_iadd hx hb dL_law_446 ?_
      refine lv_topi (fun y111 ey111 => ?_)
      obtain ⟨ty111, ry111⟩ := Rg_addx (a' := (5)) (b' := (3077)) (rfl : x3.toInt = _) (by decide : Int32.toInt 5 = 5) r3 (Rg_c (x := 5) (a := (5)) (b := (5)) (by decide)) (by decide)
      rw [← ey111] at ty111 ry111
      refine va_sld hx hb hX hbl hbA hH.2.2.2.1 (sc_in ty111 hi h6 (by decide)) dL_law_447 ?_
      refine lv_topi (fun y112 ey112 => ?_)
      refine ca_L_43 hx hb hml hown hts hH (c_X10_work oI oR mx kx (by exact xm)) hl.1 mx kx rfl (by decide) (Nat.le_of_ble_eq_true rfl) ⟨by decide, by decide⟩ dL_law_448 (fun y113 I113 J113 R113 H locs hp hH => ?_)
      obtain ⟨⟨oI, -, sc113⟩, eJ113, eR113, ry113, hp113⟩ := hp
      obtain rfl : J = J113 := eJ113.symm
      obtain rfl : R = R113 := eR113.symm
      have sm : Sm C ms_L_law (I, J, R) (I113, J, R) := sm.tr sc113 rfl
      have xm : XM L C I113 := hp113
      have xw : XW L C I113 := XW.sm (u := (I, J, R)) (v := (I113, J, R)) xw sc113 rfl rfl
      have ow : Ow L C R := Ow.sm (u := (I, J, R)) (v := (I113, J, R)) ow sc113 rfl
      have rel : RC L C x mo (I113, J, R) := RC.sm (u := (I, J, R)) (v := (I113, J, R)) rel oR sc113 rfl
      refine lv_pop hx hb dL_law_451 rfl ?_
      refine lv_aload_n hx hb dL_law_452 rfl (lv_at hl 2 rfl) ?_
      refine lv_aload_n hx hb dL_law_453 rfl (lv_at hl 0 rfl) ?_
      refine lv_iload_n hx hb dL_law_454 rfl (lv_at hl 3 rfl) ?_
      refine lv_iconst (v := 1) hx hb dL_law_455 (by decide) ?_
      refine lv_iadd hx hb dL_law_456 ?_
      refine lv_topi (fun y114 ey114 => ?_)
      obtain rfl : y103 = y114 := ey103.trans ey114.symm
      refine va_sld hx hb hX hbl hbA hH.2.2.2.1 (sc_in ty103 hi h6 (by decide)) dL_law_457 ?_
      refine lv_topi (fun y115 ey115 => ?_)
      obtain rfl : y104 = y115 := ey104.trans ey115.symm
      refine lv_aload_n hx hb dL_law_458 rfl (lv_at hl 0 rfl) ?_
      refine lv_iload_n hx hb dL_law_459 rfl (lv_at hl 3 rfl) ?_
      refine lv_iconst (v := 2) hx hb dL_law_460 (by decide) ?_
      refine lv_iadd hx hb dL_law_461 ?_
      refine lv_topi (fun y116 ey116 => ?_)
      obtain rfl : y105 = y116 := ey105.trans ey116.symm
      refine va_sld hx hb hX hbl hbA hH.2.2.2.1 (sc_in ty105 hi h6 (by decide)) dL_law_462 ?_
      refine lv_topi (fun y117 ey117 => ?_)
      obtain rfl : y106 = y117 := ey106.trans ey117.symm
      refine lv_aload_n hx hb dL_law_463 rfl (lv_at hl 0 rfl) ?_
      refine lv_iload_n hx hb dL_law_464 rfl (lv_at hl 3 rfl) ?_
      refine lv_iconst (v := 3) hx hb dL_law_465 (by decide) ?_
      refine lv_iadd hx hb dL_law_466 ?_
      refine lv_topi (fun y118 ey118 => ?_)
      obtain rfl : y107 = y118 := ey107.trans ey118.symm
      refine va_sld hx hb hX hbl hbA hH.2.2.2.1 (sc_in ty107 hi h6 (by decide)) dL_law_467 ?_
      refine lv_topi (fun y119 ey119 => ?_)
      obtain rfl : y108 = y119 := ey108.trans ey119.symm
      refine lv_aload_n hx hb dL_law_468 rfl (lv_at hl 0 rfl) ?_
      refine lv_iload_n hx hb dL_law_469 rfl (lv_at hl 3 rfl) ?_
      refine lv_iconst (v := 4) hx hb dL_law_470 (by decide) ?_
      refine lv_iadd hx hb dL_law_471 ?_
      refine lv_topi (fun y120 ey120 => ?_)
      obtain rfl : y109 = y120 := ey109.trans ey120.symm
      refine va_sld hx hb hX hbl hbA hH.2.2.2.1 (sc_in ty109 hi h6 (by decide)) dL_law_472 ?_
      refine lv_topi (fun y121 ey121 => ?_)
      obtain rfl : y110 = y121 := ey110.trans ey121.symm
      refine lv_aload_n hx hb dL_law_473 rfl (lv_at hl 0 rfl) ?_
      refine lv_iload_n hx hb dL_law_474 rfl (lv_at hl 3 rfl) ?_
      refine lv_iconst (v := 5) hx hb dL_law_475 (by decide) ?_
      refine lv_iadd hx hb dL_law_476 ?_
      refine lv_topi (fun y122 ey122 => ?_)
      obtain rfl : y111 = y122 := ey111.trans ey122.symm
      refine va_sld hx hb hX hbl hbA hH.2.2.2.1 (sc_in ty111 hi h6 (by decide)) dL_law_477 ?_
      refine lv_topi (fun y123 ey123 => ?_)
      obtain rfl : y112 = y123 := ey112.trans ey123.symm
      refine ca_L_47 hx hb hml hown hts hH (c_X11_work oI oR mm km (by exact xw) (by exact uq)) hl.1 mm km rfl (by decide) (Nat.le_of_ble_eq_true rfl) ⟨by decide, by decide⟩ dL_law_478 (fun y124 I124 J124 R124 H locs hp hH => ?_)
      obtain ⟨⟨oI, -, sc124⟩, eJ124, eR124, ry124, hp124⟩ := hp
      obtain rfl : J = J124 := eJ124.symm
      obtain rfl : R = R124 := eR124.symm
      have sm : Sm C ms_L_law (I, J, R) (I124, J, R) := sm.tr sc124 rfl
      have xm : XM L C I124 := XM.sm (u := (I113, J, R)) (v := (I124, J, R)) xm sc124 rfl rfl
      have xw : XW L C I124 := hp124
      have ow : Ow L C R := Ow.sm (u := (I113, J, R)) (v := (I124, J, R)) ow sc124 rfl
      have rel : RC L C x mo (I124, J, R) := RC.sm (u := (I113, J, R)) (v := (I124, J, R)) rel oR sc124 rfl
      refine lv_pop hx hb dL_law_481 rfl ?_
      refine lv_goto (tgt := 1244) hx hb dL_law_482 (by decide) ?_
      exact L_1244 h6 I124 J R _ _ _ hH oI oR xm xw ow rel (lv_sub hl [0, 1, 2, 3] rfl)
    · have r125 : Rg y4 (7) (7) := ⟨by rw [z5]; decide, by rw [z5]; decide⟩
      refine lv_tableIn (tgt := 485) hx hb dL_law_33 (by rw [z5]; decide) (by rw [z5]; decide) (by rw [z5]; rfl) (by decide) ?_
      refine lv_aload_n hx hb dL_law_485 rfl (lv_at hl 1 rfl) ?_
      refine lv_aload_n hx hb dL_law_486 rfl (lv_at hl 0 rfl) ?_
      refine lv_iload_n hx hb dL_law_487 rfl (lv_at hl 3 rfl) ?_
      refine lv_iconst (v := 1) hx hb dL_law_488 (by decide) ?_
      refine lv_iadd hx hb dL_law_489 ?_
      refine lv_topi (fun y126 ey126 => ?_)
      obtain ⟨ty126, ry126⟩ := Rg_addx (a' := (1)) (b' := (3073)) (rfl : x3.toInt = _) (by decide : Int32.toInt 1 = 1) r3 (Rg_c (x := 1) (a := (1)) (b := (1)) (by decide)) (by decide)
      rw [← ey126] at ty126 ry126
      refine va_sld hx hb hX hbl hbA hH.2.2.2.1 (sc_in ty126 hi h6 (by decide)) dL_law_490 ?_
      refine lv_topi (fun y127 ey127 => ?_)
      refine lv_aload_n hx hb dL_law_491 rfl (lv_at hl 0 rfl) ?_
      refine lv_iload_n hx hb dL_law_492 rfl (lv_at hl 3 rfl) ?_
      refine lv_iconst (v := 2) hx hb dL_law_493 (by decide) ?_
      refine lv_iadd hx hb dL_law_494 ?_
      refine lv_topi (fun y128 ey128 => ?_)
      obtain ⟨ty128, ry128⟩ := Rg_addx (a' := (2)) (b' := (3074)) (rfl : x3.toInt = _) (by decide : Int32.toInt 2 = 2) r3 (Rg_c (x := 2) (a := (2)) (b := (2)) (by decide)) (by decide)
      rw [← ey128] at ty128 ry128
      refine va_sld hx hb hX hbl hbA hH.2.2.2.1 (sc_in ty128 hi h6 (by decide)) dL_law_495 ?_
      refine lv_topi (fun y129 ey129 => ?_)
      refine lv_aload_n hx hb dL_law_496 rfl (lv_at hl 0 rfl) ?_
      refine lv_iload_n hx hb dL_law_497 rfl (lv_at hl 3 rfl) ?_
      refine lv_iconst (v := 3) hx hb dL_law_498 (by decide) ?_
      refine lv_iadd hx hb dL_law_499 ?_
      refine lv_topi (fun y130 ey130 => ?_)
      obtain ⟨ty130, ry130⟩ := Rg_addx (a' := (3)) (b' := (3075)) (rfl : x3.toInt = _) (by decide : Int32.toInt 3 = 3) r3 (Rg_c (x := 3) (a := (3)) (b := (3)) (by decide)) (by decide)
      rw [← ey130] at ty130 ry130
      refine va_sld hx hb hX hbl hbA hH.2.2.2.1 (sc_in ty130 hi h6 (by decide)) dL_law_500 ?_
      refine lv_topi (fun y131 ey131 => ?_)
      refine lv_aload_n hx hb dL_law_501 rfl (lv_at hl 0 rfl) ?_
      refine lv_iload_n hx hb dL_law_502 rfl (lv_at hl 3 rfl) ?_
      refine lv_iconst (v := 4) hx hb dL_law_503 (by decide) ?_
      refine lv_iadd hx hb dL_law_504 ?_
      refine lv_topi (fun y132 ey132 => ?_)
      obtain ⟨ty132, ry132⟩ := Rg_addx (a' := (4)) (b' := (3076)) (rfl : x3.toInt = _) (by decide : Int32.toInt 4 = 4) r3 (Rg_c (x := 4) (a := (4)) (b := (4)) (by decide)) (by decide)
      rw [← ey132] at ty132 ry132
      refine va_sld hx hb hX hbl hbA hH.2.2.2.1 (sc_in ty132 hi h6 (by decide)) dL_law_505 ?_
      refine lv_topi (fun y133 ey133 => ?_)
      refine ca_L_48 hx hb hml hown hts hH (c_X10_times oI oR mx kx) hl.1 mx kx rfl (by decide) (Nat.le_of_ble_eq_true rfl) ⟨by decide, by decide⟩ dL_law_506 (fun y134 I134 J134 R134 H locs hp hH => ?_)
      obtain ⟨⟨oI, -, sc134⟩, eJ134, eR134, ry134⟩ := hp
      obtain rfl : J = J134 := eJ134.symm
      obtain rfl : R = R134 := eR134.symm
      have sm : Sm C ms_L_law (I, J, R) (I134, J, R) := sm.tr sc134 rfl
      have xm : XM L C I134 := XM.sm (u := (I, J, R)) (v := (I134, J, R)) xm sc134 rfl rfl
      have xw : XW L C I134 := XW.sm (u := (I, J, R)) (v := (I134, J, R)) xw sc134 rfl rfl
      have ow : Ow L C R := Ow.sm (u := (I, J, R)) (v := (I134, J, R)) ow sc134 rfl
      have rel : RC L C x mo (I134, J, R) := RC.sm (u := (I, J, R)) (v := (I134, J, R)) rel oR sc134 rfl
      refine lv_pop hx hb dL_law_509 rfl ?_
      refine lv_aload_n hx hb dL_law_510 rfl (lv_at hl 2 rfl) ?_
      refine lv_aload_n hx hb dL_law_511 rfl (lv_at hl 0 rfl) ?_
      refine lv_iload_n hx hb dL_law_512 rfl (lv_at hl 3 rfl) ?_
      refine lv_iconst (v := 1) hx hb dL_law_513 (by decide) ?_
      refine lv_iadd hx hb dL_law_514 ?_
      refine lv_topi (fun y135 ey135 => ?_)
      obtain rfl : y126 = y135 := ey126.trans ey135.symm
      refine va_sld hx hb hX hbl hbA hH.2.2.2.1 (sc_in ty126 hi h6 (by decide)) dL_law_515 ?_
      refine lv_topi (fun y136 ey136 => ?_)
      obtain rfl : y127 = y136 := ey127.trans ey136.symm
      refine lv_aload_n hx hb dL_law_516 rfl (lv_at hl 0 rfl) ?_
      refine lv_iload_n hx hb dL_law_517 rfl (lv_at hl 3 rfl) ?_
      refine lv_iconst (v := 2) hx hb dL_law_518 (by decide) ?_
      refine lv_iadd hx hb dL_law_519 ?_
      refine lv_topi (fun y137 ey137 => ?_)
      obtain rfl : y128 = y137 := ey128.trans ey137.symm
      refine va_sld hx hb hX hbl hbA hH.2.2.2.1 (sc_in ty128 hi h6 (by decide)) dL_law_520 ?_
      refine lv_topi (fun y138 ey138 => ?_)
      obtain rfl : y129 = y138 := ey129.trans ey138.symm
      refine lv_aload_n hx hb dL_law_521 rfl (lv_at hl 0 rfl) ?_
      refine lv_iload_n hx hb dL_law_522 rfl (lv_at hl 3 rfl) ?_
      refine lv_iconst (v := 3) hx hb dL_law_523 (by decide) ?_
      refine lv_iadd hx hb dL_law_524 ?_
      refine lv_topi (fun y139 ey139 => ?_)
      obtain rfl : y130 = y139 := ey130.trans ey139.symm
      refine va_sld hx hb hX hbl hbA hH.2.2.2.1 (sc_in ty130 hi h6 (by decide)) dL_law_525 ?_
      refine lv_topi (fun y140 ey140 => ?_)
      obtain rfl : y131 = y140 := ey131.trans ey140.symm
      refine lv_aload_n hx hb dL_law_526 rfl (lv_at hl 0 rfl) ?_
      refine lv_iload_n hx hb dL_law_527 rfl (lv_at hl 3 rfl) ?_
      refine lv_iconst (v := 4) hx hb dL_law_528 (by decide) ?_
      refine lv_iadd hx hb dL_law_529 ?_
      refine lv_topi (fun y141 ey141 => ?_)
      obtain rfl : y132 = y141 := ey132.trans ey141.symm
      refine va_sld hx hb hX hbl hbA hH.2.2.2.1 (sc_in ty132 hi h6 (by decide)) dL_law_530 ?_
      refine lv_topi (fun y142 ey142 => ?_)
      obtain rfl : y133 = y142 := ey133.trans ey142.symm
      refine ca_L_51 hx hb hml hown hts hH (c_X11_times oI oR mm km) hl.1 mm km rfl (by decide) (Nat.le_of_ble_eq_true rfl) ⟨by decide, by decide⟩ dL_law_531 (fun y143 I143 J143 R143 H locs hp hH => ?_)
      obtain ⟨⟨oI, -, sc143⟩, eJ143, eR143, ry143⟩ := hp
      obtain rfl : J = J143 := eJ143.symm
      obtain rfl : R = R143 := eR143.symm
      have sm : Sm C ms_L_law (I, J, R) (I143, J, R) := sm.tr sc143 rfl
      have xm : XM L C I143 := XM.sm (u := (I134, J, R)) (v := (I143, J, R)) xm sc143 rfl rfl
      have xw : XW L C I143 := XW.sm (u := (I134, J, R)) (v := (I143, J, R)) xw sc143 rfl rfl
      have ow : Ow L C R := Ow.sm (u := (I134, J, R)) (v := (I143, J, R)) ow sc143 rfl
      have rel : RC L C x mo (I143, J, R) := RC.sm (u := (I134, J, R)) (v := (I143, J, R)) rel oR sc143 rfl
      refine lv_pop hx hb dL_law_534 rfl ?_
      refine lv_goto (tgt := 1244) hx hb dL_law_535 (by decide) ?_
      exact L_1244 h6 I143 J R _ _ _ hH oI oR xm xw ow rel (lv_sub hl [0, 1, 2, 3] rfl)
    · have r144 : Rg y4 (8) (8) := ⟨by rw [z5]; decide, by rw [z5]; decide⟩
      refine lv_tableIn (tgt := 538) hx hb dL_law_33 (by rw [z5]; decide) (by rw [z5]; decide) (by rw [z5]; rfl) (by decide) ?_
      refine lv_aload_n hx hb dL_law_538 rfl (lv_at hl 1 rfl) ?_
      refine lv_aload_n hx hb dL_law_539 rfl (lv_at hl 0 rfl) ?_
      refine lv_iload_n hx hb dL_law_540 rfl (lv_at hl 3 rfl) ?_
      refine lv_iconst (v := 1) hx hb dL_law_541 (by decide) ?_
      refine lv_iadd hx hb dL_law_542 ?_
      refine lv_topi (fun y145 ey145 => ?_)
      obtain ⟨ty145, ry145⟩ := Rg_addx (a' := (1)) (b' := (3073)) (rfl : x3.toInt = _) (by decide : Int32.toInt 1 = 1) r3 (Rg_c (x := 1) (a := (1)) (b := (1)) (by decide)) (by decide)
      rw [← ey145] at ty145 ry145
      refine va_sld hx hb hX hbl hbA hH.2.2.2.1 (sc_in ty145 hi h6 (by decide)) dL_law_543 ?_
      refine lv_topi (fun y146 ey146 => ?_)
      refine lv_if_eq (tgt := 551) hx hb dL_law_544 (by decide) (fun q147 => ?_) (fun q147 => ?_)
      · have l148 := congrArg Int32.toInt q147
        have r149 : Rg y146 (0) (0) := Rg_both (Rg_any y146) (Rg_eqv q147 (Rg_c (x := 0) (a := (0)) (b := (0)) (by decide))) (by decide)
        refine lv_iconst (v := 0) hx hb dL_law_551 (by decide) ?_
        refine lv_aload_n hx hb dL_law_552 rfl (lv_at hl 0 rfl) ?_
        refine lv_iload_n hx hb dL_law_553 rfl (lv_at hl 3 rfl) ?_
        refine lv_iconst (v := 2) hx hb dL_law_554 (by decide) ?_
        refine lv_iadd hx hb dL_law_555 ?_
        refine lv_topi (fun y150 ey150 => ?_)
        obtain ⟨ty150, ry150⟩ := Rg_addx (a' := (2)) (b' := (3074)) (rfl : x3.toInt = _) (by decide : Int32.toInt 2 = 2) r3 (Rg_c (x := 2) (a := (2)) (b := (2)) (by decide)) (by decide)
        rw [← ey150] at ty150 ry150
        refine va_sld hx hb hX hbl hbA hH.2.2.2.1 (sc_in ty150 hi h6 (by decide)) dL_law_556 ?_
        refine lv_topi (fun y151 ey151 => ?_)
        refine ca_L_52 hx hb hml hown hts hH (c_X10_strip oI oR mx kx (Rg_w (Rg_c (x := 0) (a := (0)) (b := (0)) (by decide)) (by decide))) hl.1 mx kx rfl (by decide) (Nat.le_of_ble_eq_true rfl) ⟨by decide, by decide⟩ dL_law_557 (fun y152 I152 J152 R152 H locs hp hH => ?_)
        obtain ⟨⟨oI, -, sc152⟩, eJ152, eR152, ry152⟩ := hp
        obtain rfl : J = J152 := eJ152.symm
        obtain rfl : R = R152 := eR152.symm
        have sm : Sm C ms_L_law (I, J, R) (I152, J, R) := sm.tr sc152 rfl
        have xm : XM L C I152 := XM.sm (u := (I, J, R)) (v := (I152, J, R)) xm sc152 rfl rfl
        have xw : XW L C I152 := XW.sm (u := (I, J, R)) (v := (I152, J, R)) xw sc152 rfl rfl
        have ow : Ow L C R := Ow.sm (u := (I, J, R)) (v := (I152, J, R)) ow sc152 rfl
        have rel : RC L C x mo (I152, J, R) := RC.sm (u := (I, J, R)) (v := (I152, J, R)) rel oR sc152 rfl
        refine lv_pop hx hb dL_law_560 rfl ?_
        refine lv_aload_n hx hb dL_law_561 rfl (lv_at hl 2 rfl) ?_
        refine lv_aload_n hx hb dL_law_562 rfl (lv_at hl 0 rfl) ?_
        refine lv_iload_n hx hb dL_law_563 rfl (lv_at hl 3 rfl) ?_
        refine lv_iconst (v := 1) hx hb dL_law_564 (by decide) ?_
        refine lv_iadd hx hb dL_law_565 ?_
        refine lv_topi (fun y153 ey153 => ?_)
        obtain rfl : y145 = y153 := ey145.trans ey153.symm
        refine va_sld hx hb hX hbl hbA hH.2.2.2.1 (sc_in ty145 hi h6 (by decide)) dL_law_566 ?_
        refine lv_topi (fun y154 ey154 => ?_)
        obtain rfl : y146 = y154 := ey146.trans ey154.symm
        refine lv_if_eq (tgt := 574) hx hb dL_law_567 (by decide) (fun q155 => ?_) (fun q155 => ?_)
        rotate_left
        · exact Rg_no (Rg_nehi r149 (Rg_ne q155) (Rg_c (x := 0) (a := (0)) (b := (0)) (by decide)) (b' := (-1)) (by decide)) (by decide)
        have l156 := congrArg Int32.toInt q155
        refine lv_iconst (v := 0) hx hb dL_law_574 (by decide) ?_
        refine lv_aload_n hx hb dL_law_575 rfl (lv_at hl 0 rfl) ?_
        refine lv_iload_n hx hb dL_law_576 rfl (lv_at hl 3 rfl) ?_
        refine lv_iconst (v := 2) hx hb dL_law_577 (by decide) ?_
        refine lv_iadd hx hb dL_law_578 ?_
        refine lv_topi (fun y157 ey157 => ?_)
        obtain rfl : y150 = y157 := ey150.trans ey157.symm
        refine va_sld hx hb hX hbl hbA hH.2.2.2.1 (sc_in ty150 hi h6 (by decide)) dL_law_579 ?_
        refine lv_topi (fun y158 ey158 => ?_)
        obtain rfl : y151 = y158 := ey151.trans ey158.symm
        refine ca_L_56 hx hb hml hown hts hH (c_X11_strip oI oR mm km (Rg_w (Rg_c (x := 0) (a := (0)) (b := (0)) (by decide)) (by decide))) hl.1 mm km rfl (by decide) (Nat.le_of_ble_eq_true rfl) ⟨by decide, by decide⟩ dL_law_580 (fun y159 I159 J159 R159 H locs hp hH => ?_)
        obtain ⟨⟨oI, -, sc159⟩, eJ159, eR159, ry159⟩ := hp
        obtain rfl : J = J159 := eJ159.symm
        obtain rfl : R = R159 := eR159.symm
        have sm : Sm C ms_L_law (I, J, R) (I159, J, R) := sm.tr sc159 rfl
        have xm : XM L C I159 := XM.sm (u := (I152, J, R)) (v := (I159, J, R)) xm sc159 rfl rfl
        have xw : XW L C I159 := XW.sm (u := (I152, J, R)) (v := (I159, J, R)) xw sc159 rfl rfl
        have ow : Ow L C R := Ow.sm (u := (I152, J, R)) (v := (I159, J, R)) ow sc159 rfl
        have rel : RC L C x mo (I159, J, R) := RC.sm (u := (I152, J, R)) (v := (I159, J, R)) rel oR sc159 rfl
        refine lv_pop hx hb dL_law_583 rfl ?_
        refine lv_goto (tgt := 1244) hx hb dL_law_584 (by decide) ?_
        exact L_1244 h6 I159 J R _ _ _ hH oI oR xm xw ow rel (lv_sub hl [0, 1, 2, 3] rfl)
      have l161 := Rg_ne q147
      refine lv_iconst (v := 1) hx hb dL_law_547 (by decide) ?_
      refine lv_goto (tgt := 552) hx hb dL_law_548 (by decide) ?_
      refine lv_aload_n hx hb dL_law_552 rfl (lv_at hl 0 rfl) ?_
      refine lv_iload_n hx hb dL_law_553 rfl (lv_at hl 3 rfl) ?_
      refine lv_iconst (v := 2) hx hb dL_law_554 (by decide) ?_
      refine lv_iadd hx hb dL_law_555 ?_
      refine lv_topi (fun y162 ey162 => ?_)
      obtain ⟨ty162, ry162⟩ := Rg_addx (a' := (2)) (b' := (3074)) (rfl : x3.toInt = _) (by decide : Int32.toInt 2 = 2) r3 (Rg_c (x := 2) (a := (2)) (b := (2)) (by decide)) (by decide)
      rw [← ey162] at ty162 ry162
      refine va_sld hx hb hX hbl hbA hH.2.2.2.1 (sc_in ty162 hi h6 (by decide)) dL_law_556 ?_
      refine lv_topi (fun y163 ey163 => ?_)
      refine ca_L_52 hx hb hml hown hts hH (c_X10_strip oI oR mx kx (Rg_w (Rg_c (x := 1) (a := (1)) (b := (1)) (by decide)) (by decide))) hl.1 mx kx rfl (by decide) (Nat.le_of_ble_eq_true rfl) ⟨by decide, by decide⟩ dL_law_557 (fun y164 I164 J164 R164 H locs hp hH => ?_)
      obtain ⟨⟨oI, -, sc164⟩, eJ164, eR164, ry164⟩ := hp
      obtain rfl : J = J164 := eJ164.symm
      obtain rfl : R = R164 := eR164.symm
      have sm : Sm C ms_L_law (I, J, R) (I164, J, R) := sm.tr sc164 rfl
      have xm : XM L C I164 := XM.sm (u := (I, J, R)) (v := (I164, J, R)) xm sc164 rfl rfl
      have xw : XW L C I164 := XW.sm (u := (I, J, R)) (v := (I164, J, R)) xw sc164 rfl rfl
      have ow : Ow L C R := Ow.sm (u := (I, J, R)) (v := (I164, J, R)) ow sc164 rfl
      have rel : RC L C x mo (I164, J, R) := RC.sm (u := (I, J, R)) (v := (I164, J, R)) rel oR sc164 rfl
      refine lv_pop hx hb dL_law_560 rfl ?_
      refine lv_aload_n hx hb dL_law_561 rfl (lv_at hl 2 rfl) ?_
      refine lv_aload_n hx hb dL_law_562 rfl (lv_at hl 0 rfl) ?_
      refine lv_iload_n hx hb dL_law_563 rfl (lv_at hl 3 rfl) ?_
      refine lv_iconst (v := 1) hx hb dL_law_564 (by decide) ?_
      refine lv_iadd hx hb dL_law_565 ?_
      refine lv_topi (fun y165 ey165 => ?_)
      obtain rfl : y145 = y165 := ey145.trans ey165.symm
      refine va_sld hx hb hX hbl hbA hH.2.2.2.1 (sc_in ty145 hi h6 (by decide)) dL_law_566 ?_
      refine lv_topi (fun y166 ey166 => ?_)
      obtain rfl : y146 = y166 := ey146.trans ey166.symm
      refine lv_if_eq (tgt := 574) hx hb dL_law_567 (by decide) (fun q167 => ?_) (fun q167 => ?_)
      · exact absurd q167 q147
      have l169 := Rg_ne q167
      refine lv_iconst (v := 1) hx hb dL_law_570 (by decide) ?_
      refine lv_goto (tgt := 575) hx hb dL_law_571 (by decide) ?_
      refine lv_aload_n hx hb dL_law_575 rfl (lv_at hl 0 rfl) ?_
      refine lv_iload_n hx hb dL_law_576 rfl (lv_at hl 3 rfl) ?_
      refine lv_iconst (v := 2) hx hb dL_law_577 (by decide) ?_
      refine lv_iadd hx hb dL_law_578 ?_
      refine lv_topi (fun y170 ey170 => ?_)
      obtain rfl : y162 = y170 := ey162.trans ey170.symm
      refine va_sld hx hb hX hbl hbA hH.2.2.2.1 (sc_in ty162 hi h6 (by decide)) dL_law_579 ?_
      refine lv_topi (fun y171 ey171 => ?_)
      obtain rfl : y163 = y171 := ey163.trans ey171.symm
      refine ca_L_56 hx hb hml hown hts hH (c_X11_strip oI oR mm km (Rg_w (Rg_c (x := 1) (a := (1)) (b := (1)) (by decide)) (by decide))) hl.1 mm km rfl (by decide) (Nat.le_of_ble_eq_true rfl) ⟨by decide, by decide⟩ dL_law_580 (fun y172 I172 J172 R172 H locs hp hH => ?_)
      obtain ⟨⟨oI, -, sc172⟩, eJ172, eR172, ry172⟩ := hp
      obtain rfl : J = J172 := eJ172.symm
      obtain rfl : R = R172 := eR172.symm
      have sm : Sm C ms_L_law (I, J, R) (I172, J, R) := sm.tr sc172 rfl
      have xm : XM L C I172 := XM.sm (u := (I164, J, R)) (v := (I172, J, R)) xm sc172 rfl rfl
      have xw : XW L C I172 := XW.sm (u := (I164, J, R)) (v := (I172, J, R)) xw sc172 rfl rfl
      have ow : Ow L C R := Ow.sm (u := (I164, J, R)) (v := (I172, J, R)) ow sc172 rfl
      have rel : RC L C x mo (I172, J, R) := RC.sm (u := (I164, J, R)) (v := (I172, J, R)) rel oR sc172 rfl
      refine lv_pop hx hb dL_law_583 rfl ?_
      refine lv_goto (tgt := 1244) hx hb dL_law_584 (by decide) ?_
      exact L_1244 h6 I172 J R _ _ _ hH oI oR xm xw ow rel (lv_sub hl [0, 1, 2, 3] rfl)
    · have r173 : Rg y4 (9) (9) := ⟨by rw [z5]; decide, by rw [z5]; decide⟩
      refine lv_tableIn (tgt := 587) hx hb dL_law_33 (by rw [z5]; decide) (by rw [z5]; decide) (by rw [z5]; rfl) (by decide) ?_
      refine lv_aload_n hx hb dL_law_587 rfl (lv_at hl 1 rfl) ?_
      refine lv_aload_n hx hb dL_law_588 rfl (lv_at hl 0 rfl) ?_
      refine lv_iload_n hx hb dL_law_589 rfl (lv_at hl 3 rfl) ?_
      refine lv_iconst (v := 1) hx hb dL_law_590 (by decide) ?_
      refine lv_iadd hx hb dL_law_591 ?_
      refine lv_topi (fun y174 ey174 => ?_)
      obtain ⟨ty174, ry174⟩ := Rg_addx (a' := (1)) (b' := (3073)) (rfl : x3.toInt = _) (by decide : Int32.toInt 1 = 1) r3 (Rg_c (x := 1) (a := (1)) (b := (1)) (by decide)) (by decide)
      rw [← ey174] at ty174 ry174
      refine va_sld hx hb hX hbl hbA hH.2.2.2.1 (sc_in ty174 hi h6 (by decide)) dL_law_592 ?_
      refine lv_topi (fun y175 ey175 => ?_)
      refine lv_aload_n hx hb dL_law_593 rfl (lv_at hl 0 rfl) ?_
      refine lv_iload_n hx hb dL_law_594 rfl (lv_at hl 3 rfl) ?_
      refine lv_iconst (v := 2) hx hb dL_law_595 (by decide) ?_
      refine lv_iadd hx hb dL_law_596 ?_
      refine lv_topi (fun y176 ey176 => ?_)
      obtain ⟨ty176, ry176⟩ := Rg_addx (a' := (2)) (b' := (3074)) (rfl : x3.toInt = _) (by decide : Int32.toInt 2 = 2) r3 (Rg_c (x := 2) (a := (2)) (b := (2)) (by decide)) (by decide)
      rw [← ey176] at ty176 ry176
      refine va_sld hx hb hX hbl hbA hH.2.2.2.1 (sc_in ty176 hi h6 (by decide)) dL_law_597 ?_
      refine lv_topi (fun y177 ey177 => ?_)
      refine lv_aload_n hx hb dL_law_598 rfl (lv_at hl 0 rfl) ?_
      refine lv_iload_n hx hb dL_law_599 rfl (lv_at hl 3 rfl) ?_
      refine lv_iconst (v := 3) hx hb dL_law_600 (by decide) ?_
      refine lv_iadd hx hb dL_law_601 ?_
      refine lv_topi (fun y178 ey178 => ?_)
      obtain ⟨ty178, ry178⟩ := Rg_addx (a' := (3)) (b' := (3075)) (rfl : x3.toInt = _) (by decide : Int32.toInt 3 = 3) r3 (Rg_c (x := 3) (a := (3)) (b := (3)) (by decide)) (by decide)
      rw [← ey178] at ty178 ry178
      refine va_sld hx hb hX hbl hbA hH.2.2.2.1 (sc_in ty178 hi h6 (by decide)) dL_law_602 ?_
      refine lv_topi (fun y179 ey179 => ?_)
      refine lv_if_eq (tgt := 610) hx hb dL_law_603 (by decide) (fun q180 => ?_) (fun q180 => ?_)
      · have l181 := congrArg Int32.toInt q180
        have r182 : Rg y179 (0) (0) := Rg_both (Rg_any y179) (Rg_eqv q180 (Rg_c (x := 0) (a := (0)) (b := (0)) (by decide))) (by decide)
        refine lv_iconst (v := 0) hx hb dL_law_610 (by decide) ?_
        refine ca_L_57 hx hb hml hown hts hH (c_X10_alias oI oR mx kx (Rg_w (Rg_c (x := 0) (a := (0)) (b := (0)) (by decide)) (by decide))) hl.1 mx kx rfl (by decide) (Nat.le_of_ble_eq_true rfl) ⟨by decide, by decide⟩ dL_law_611 (fun y183 I183 J183 R183 H locs hp hH => ?_)
        obtain ⟨⟨oI, -, sc183⟩, eJ183, eR183, ry183⟩ := hp
        obtain rfl : J = J183 := eJ183.symm
        obtain rfl : R = R183 := eR183.symm
        have sm : Sm C ms_L_law (I, J, R) (I183, J, R) := sm.tr sc183 rfl
        have xm : XM L C I183 := XM.sm (u := (I, J, R)) (v := (I183, J, R)) xm sc183 rfl rfl
        have xw : XW L C I183 := XW.sm (u := (I, J, R)) (v := (I183, J, R)) xw sc183 rfl rfl
        have ow : Ow L C R := Ow.sm (u := (I, J, R)) (v := (I183, J, R)) ow sc183 rfl
        have rel : RC L C x mo (I183, J, R) := RC.sm (u := (I, J, R)) (v := (I183, J, R)) rel oR sc183 rfl
        refine lv_pop hx hb dL_law_614 rfl ?_
        refine lv_aload_n hx hb dL_law_615 rfl (lv_at hl 2 rfl) ?_
        refine lv_aload_n hx hb dL_law_616 rfl (lv_at hl 0 rfl) ?_
        refine lv_iload_n hx hb dL_law_617 rfl (lv_at hl 3 rfl) ?_
        refine lv_iconst (v := 1) hx hb dL_law_618 (by decide) ?_
        refine lv_iadd hx hb dL_law_619 ?_
        refine lv_topi (fun y184 ey184 => ?_)
        obtain rfl : y174 = y184 := ey174.trans ey184.symm
        refine va_sld hx hb hX hbl hbA hH.2.2.2.1 (sc_in ty174 hi h6 (by decide)) dL_law_620 ?_
        refine lv_topi (fun y185 ey185 => ?_)
        obtain rfl : y175 = y185 := ey175.trans ey185.symm
        refine lv_aload_n hx hb dL_law_621 rfl (lv_at hl 0 rfl) ?_
        refine lv_iload_n hx hb dL_law_622 rfl (lv_at hl 3 rfl) ?_
        refine lv_iconst (v := 2) hx hb dL_law_623 (by decide) ?_
        refine lv_iadd hx hb dL_law_624 ?_
        refine lv_topi (fun y186 ey186 => ?_)
        obtain rfl : y176 = y186 := ey176.trans ey186.symm
        refine va_sld hx hb hX hbl hbA hH.2.2.2.1 (sc_in ty176 hi h6 (by decide)) dL_law_625 ?_
        refine lv_topi (fun y187 ey187 => ?_)
        obtain rfl : y177 = y187 := ey177.trans ey187.symm
        refine lv_aload_n hx hb dL_law_626 rfl (lv_at hl 0 rfl) ?_
        refine lv_iload_n hx hb dL_law_627 rfl (lv_at hl 3 rfl) ?_
        refine lv_iconst (v := 3) hx hb dL_law_628 (by decide) ?_
        refine lv_iadd hx hb dL_law_629 ?_
        refine lv_topi (fun y188 ey188 => ?_)
        obtain rfl : y178 = y188 := ey178.trans ey188.symm
        refine va_sld hx hb hX hbl hbA hH.2.2.2.1 (sc_in ty178 hi h6 (by decide)) dL_law_630 ?_
        refine lv_topi (fun y189 ey189 => ?_)
        obtain rfl : y179 = y189 := ey179.trans ey189.symm
        refine lv_if_eq (tgt := 638) hx hb dL_law_631 (by decide) (fun q190 => ?_) (fun q190 => ?_)
        rotate_left
        · exact Rg_no (Rg_nehi r182 (Rg_ne q190) (Rg_c (x := 0) (a := (0)) (b := (0)) (by decide)) (b' := (-1)) (by decide)) (by decide)
        have l191 := congrArg Int32.toInt q190
        refine lv_iconst (v := 0) hx hb dL_law_638 (by decide) ?_
        refine ca_L_61 hx hb hml hown hts hH (c_X11_alias oI oR mm km (Rg_w (Rg_c (x := 0) (a := (0)) (b := (0)) (by decide)) (by decide))) hl.1 mm km rfl (by decide) (Nat.le_of_ble_eq_true rfl) ⟨by decide, by decide⟩ dL_law_639 (fun y192 I192 J192 R192 H locs hp hH => ?_)
        obtain ⟨⟨oI, -, sc192⟩, eJ192, eR192, ry192⟩ := hp
        obtain rfl : J = J192 := eJ192.symm
        obtain rfl : R = R192 := eR192.symm
        have sm : Sm C ms_L_law (I, J, R) (I192, J, R) := sm.tr sc192 rfl
        have xm : XM L C I192 := XM.sm (u := (I183, J, R)) (v := (I192, J, R)) xm sc192 rfl rfl
        have xw : XW L C I192 := XW.sm (u := (I183, J, R)) (v := (I192, J, R)) xw sc192 rfl rfl
        have ow : Ow L C R := Ow.sm (u := (I183, J, R)) (v := (I192, J, R)) ow sc192 rfl
        have rel : RC L C x mo (I192, J, R) := RC.sm (u := (I183, J, R)) (v := (I192, J, R)) rel oR sc192 rfl
        refine lv_pop hx hb dL_law_642 rfl ?_
        refine lv_goto (tgt := 1244) hx hb dL_law_643 (by decide) ?_
        exact L_1244 h6 I192 J R _ _ _ hH oI oR xm xw ow rel (lv_sub hl [0, 1, 2, 3] rfl)
      have l194 := Rg_ne q180
      refine lv_iconst (v := 1) hx hb dL_law_606 (by decide) ?_
      refine lv_goto (tgt := 611) hx hb dL_law_607 (by decide) ?_
      refine ca_L_57 hx hb hml hown hts hH (c_X10_alias oI oR mx kx (Rg_w (Rg_c (x := 1) (a := (1)) (b := (1)) (by decide)) (by decide))) hl.1 mx kx rfl (by decide) (Nat.le_of_ble_eq_true rfl) ⟨by decide, by decide⟩ dL_law_611 (fun y195 I195 J195 R195 H locs hp hH => ?_)
      obtain ⟨⟨oI, -, sc195⟩, eJ195, eR195, ry195⟩ := hp
      obtain rfl : J = J195 := eJ195.symm
      obtain rfl : R = R195 := eR195.symm
      have sm : Sm C ms_L_law (I, J, R) (I195, J, R) := sm.tr sc195 rfl
      have xm : XM L C I195 := XM.sm (u := (I, J, R)) (v := (I195, J, R)) xm sc195 rfl rfl
      have xw : XW L C I195 := XW.sm (u := (I, J, R)) (v := (I195, J, R)) xw sc195 rfl rfl
      have ow : Ow L C R := Ow.sm (u := (I, J, R)) (v := (I195, J, R)) ow sc195 rfl
      have rel : RC L C x mo (I195, J, R) := RC.sm (u := (I, J, R)) (v := (I195, J, R)) rel oR sc195 rfl
      refine lv_pop hx hb dL_law_614 rfl ?_
      refine lv_aload_n hx hb dL_law_615 rfl (lv_at hl 2 rfl) ?_
      refine lv_aload_n hx hb dL_law_616 rfl (lv_at hl 0 rfl) ?_
      refine lv_iload_n hx hb dL_law_617 rfl (lv_at hl 3 rfl) ?_
      refine lv_iconst (v := 1) hx hb dL_law_618 (by decide) ?_
      refine lv_iadd hx hb dL_law_619 ?_
      refine lv_topi (fun y196 ey196 => ?_)
      obtain rfl : y174 = y196 := ey174.trans ey196.symm
      refine va_sld hx hb hX hbl hbA hH.2.2.2.1 (sc_in ty174 hi h6 (by decide)) dL_law_620 ?_
      refine lv_topi (fun y197 ey197 => ?_)
      obtain rfl : y175 = y197 := ey175.trans ey197.symm
      refine lv_aload_n hx hb dL_law_621 rfl (lv_at hl 0 rfl) ?_
      refine lv_iload_n hx hb dL_law_622 rfl (lv_at hl 3 rfl) ?_
      refine lv_iconst (v := 2) hx hb dL_law_623 (by decide) ?_
      refine lv_iadd hx hb dL_law_624 ?_
      refine lv_topi (fun y198 ey198 => ?_)
      obtain rfl : y176 = y198 := ey176.trans ey198.symm
      refine va_sld hx hb hX hbl hbA hH.2.2.2.1 (sc_in ty176 hi h6 (by decide)) dL_law_625 ?_
      refine lv_topi (fun y199 ey199 => ?_)
      obtain rfl : y177 = y199 := ey177.trans ey199.symm
      refine lv_aload_n hx hb dL_law_626 rfl (lv_at hl 0 rfl) ?_
      refine lv_iload_n hx hb dL_law_627 rfl (lv_at hl 3 rfl) ?_
      refine lv_iconst (v := 3) hx hb dL_law_628 (by decide) ?_
      refine lv_iadd hx hb dL_law_629 ?_
      refine lv_topi (fun y200 ey200 => ?_)
      obtain rfl : y178 = y200 := ey178.trans ey200.symm
      refine va_sld hx hb hX hbl hbA hH.2.2.2.1 (sc_in ty178 hi h6 (by decide)) dL_law_630 ?_
      refine lv_topi (fun y201 ey201 => ?_)
      obtain rfl : y179 = y201 := ey179.trans ey201.symm
      refine lv_if_eq (tgt := 638) hx hb dL_law_631 (by decide) (fun q202 => ?_) (fun q202 => ?_)
      · exact absurd q202 q180
      have l204 := Rg_ne q202
      refine lv_iconst (v := 1) hx hb dL_law_634 (by decide) ?_
      refine lv_goto (tgt := 639) hx hb dL_law_635 (by decide) ?_
      refine ca_L_61 hx hb hml hown hts hH (c_X11_alias oI oR mm km (Rg_w (Rg_c (x := 1) (a := (1)) (b := (1)) (by decide)) (by decide))) hl.1 mm km rfl (by decide) (Nat.le_of_ble_eq_true rfl) ⟨by decide, by decide⟩ dL_law_639 (fun y205 I205 J205 R205 H locs hp hH => ?_)
      obtain ⟨⟨oI, -, sc205⟩, eJ205, eR205, ry205⟩ := hp
      obtain rfl : J = J205 := eJ205.symm
      obtain rfl : R = R205 := eR205.symm
      have sm : Sm C ms_L_law (I, J, R) (I205, J, R) := sm.tr sc205 rfl
      have xm : XM L C I205 := XM.sm (u := (I195, J, R)) (v := (I205, J, R)) xm sc205 rfl rfl
      have xw : XW L C I205 := XW.sm (u := (I195, J, R)) (v := (I205, J, R)) xw sc205 rfl rfl
      have ow : Ow L C R := Ow.sm (u := (I195, J, R)) (v := (I205, J, R)) ow sc205 rfl
      have rel : RC L C x mo (I205, J, R) := RC.sm (u := (I195, J, R)) (v := (I205, J, R)) rel oR sc205 rfl
      refine lv_pop hx hb dL_law_642 rfl ?_
      refine lv_goto (tgt := 1244) hx hb dL_law_643 (by decide) ?_
      exact L_1244 h6 I205 J R _ _ _ hH oI oR xm xw ow rel (lv_sub hl [0, 1, 2, 3] rfl)
    · have r206 : Rg y4 (10) (10) := ⟨by rw [z5]; decide, by rw [z5]; decide⟩
      refine lv_tableIn (tgt := 646) hx hb dL_law_33 (by rw [z5]; decide) (by rw [z5]; decide) (by rw [z5]; rfl) (by decide) ?_
      refine lv_aload_n hx hb dL_law_646 rfl (lv_at hl 1 rfl) ?_
      refine lv_aload_n hx hb dL_law_647 rfl (lv_at hl 0 rfl) ?_
      refine lv_iload_n hx hb dL_law_648 rfl (lv_at hl 3 rfl) ?_
      refine lv_iconst (v := 1) hx hb dL_law_649 (by decide) ?_
      refine lv_iadd hx hb dL_law_650 ?_
      refine lv_topi (fun y207 ey207 => ?_)
      obtain ⟨ty207, ry207⟩ := Rg_addx (a' := (1)) (b' := (3073)) (rfl : x3.toInt = _) (by decide : Int32.toInt 1 = 1) r3 (Rg_c (x := 1) (a := (1)) (b := (1)) (by decide)) (by decide)
      rw [← ey207] at ty207 ry207
      refine va_sld hx hb hX hbl hbA hH.2.2.2.1 (sc_in ty207 hi h6 (by decide)) dL_law_651 ?_
      refine lv_topi (fun y208 ey208 => ?_)
      refine lv_aload_n hx hb dL_law_652 rfl (lv_at hl 0 rfl) ?_
      refine lv_iload_n hx hb dL_law_653 rfl (lv_at hl 3 rfl) ?_
      refine lv_iconst (v := 2) hx hb dL_law_654 (by decide) ?_
      refine lv_iadd hx hb dL_law_655 ?_
      refine lv_topi (fun y209 ey209 => ?_)
      obtain ⟨ty209, ry209⟩ := Rg_addx (a' := (2)) (b' := (3074)) (rfl : x3.toInt = _) (by decide : Int32.toInt 2 = 2) r3 (Rg_c (x := 2) (a := (2)) (b := (2)) (by decide)) (by decide)
      rw [← ey209] at ty209 ry209
      refine va_sld hx hb hX hbl hbA hH.2.2.2.1 (sc_in ty209 hi h6 (by decide)) dL_law_656 ?_
      refine lv_topi (fun y210 ey210 => ?_)
      refine lv_if_eq (tgt := 664) hx hb dL_law_657 (by decide) (fun q211 => ?_) (fun q211 => ?_)
      · have l212 := congrArg Int32.toInt q211
        have r213 : Rg y210 (0) (0) := Rg_both (Rg_any y210) (Rg_eqv q211 (Rg_c (x := 0) (a := (0)) (b := (0)) (by decide))) (by decide)
        refine lv_iconst (v := 0) hx hb dL_law_664 (by decide) ?_
        refine lv_aload_n hx hb dL_law_665 rfl (lv_at hl 0 rfl) ?_
        refine lv_iload_n hx hb dL_law_666 rfl (lv_at hl 3 rfl) ?_
        refine lv_iconst (v := 3) hx hb dL_law_667 (by decide) ?_
        refine lv_iadd hx hb dL_law_668 ?_
        refine lv_topi (fun y214 ey214 => ?_)
        obtain ⟨ty214, ry214⟩ := Rg_addx (a' := (3)) (b' := (3075)) (rfl : x3.toInt = _) (by decide : Int32.toInt 3 = 3) r3 (Rg_c (x := 3) (a := (3)) (b := (3)) (by decide)) (by decide)
        rw [← ey214] at ty214 ry214
        refine va_sld hx hb hX hbl hbA hH.2.2.2.1 (sc_in ty214 hi h6 (by decide)) dL_law_669 ?_
        refine lv_topi (fun y215 ey215 => ?_)
        refine lv_i2l (v := y215.toInt64) hx hb dL_law_670 rfl ?_
        refine lv_bipush (v := 32) hx hb dL_law_671 (by decide) ?_
        refine lv_lshl hx hb dL_law_673 rfl ?_
        refine lv_topl (fun w216 ew216 => ?_)
        refine lv_aload_n hx hb dL_law_674 rfl (lv_at hl 0 rfl) ?_
        refine lv_iload_n hx hb dL_law_675 rfl (lv_at hl 3 rfl) ?_
        refine lv_iconst (v := 4) hx hb dL_law_676 (by decide) ?_
        refine lv_iadd hx hb dL_law_677 ?_
        refine lv_topi (fun y217 ey217 => ?_)
        obtain ⟨ty217, ry217⟩ := Rg_addx (a' := (4)) (b' := (3076)) (rfl : x3.toInt = _) (by decide : Int32.toInt 4 = 4) r3 (Rg_c (x := 4) (a := (4)) (b := (4)) (by decide)) (by decide)
        rw [← ey217] at ty217 ry217
        refine va_sld hx hb hX hbl hbA hH.2.2.2.1 (sc_in ty217 hi h6 (by decide)) dL_law_678 ?_
        refine lv_topi (fun y218 ey218 => ?_)
        refine lv_i2l (v := y218.toInt64) hx hb dL_law_679 rfl ?_
        refine lv_ldc2 (v := 4294967295) hx hb hown (hts _ kkl_L_28) dL_law_680 ?_
        refine lv_land hx hb dL_law_683 ?_
        refine lv_topl (fun w219 ew219 => ?_)
        refine lv_lor hx hb dL_law_684 ?_
        refine lv_topl (fun w220 ew220 => ?_)
        refine ca_L_62 hx hb hml hown hts hH (c_X10_constant oI oR mx kx (Rg_w (Rg_c (x := 0) (a := (0)) (b := (0)) (by decide)) (by decide)) (by exact uq)) hl.1 mx kx rfl (by decide) (Nat.le_of_ble_eq_true rfl) ⟨by decide, by decide⟩ dL_law_685 (fun y221 I221 J221 R221 H locs hp hH => ?_)
        obtain ⟨⟨oI, -, sc221⟩, eR221, ry221, hp221, hf221⟩ := hp
        obtain rfl : R = R221 := eR221.symm
        have sm : Sm C ms_L_law (I, J, R) (I221, J221, R) := sm.tr sc221 rfl
        have xm : XM L C I221 := XM.sm (u := (I, J, R)) (v := (I221, J221, R)) xm sc221 rfl rfl
        have xw : XW L C I221 := XW.sm (u := (I, J, R)) (v := (I221, J221, R)) xw sc221 rfl rfl
        have ow : Ow L C R := Ow.sm (u := (I, J, R)) (v := (I221, J221, R)) ow sc221 rfl
        have oI1 := oI
        have oR1 := oR
        refine lv_aload_n hx hb dL_law_688 rfl (lv_at hl 2 rfl) ?_
        refine lv_aload_n hx hb dL_law_689 rfl (lv_at hl 0 rfl) ?_
        refine lv_iload_n hx hb dL_law_690 rfl (lv_at hl 3 rfl) ?_
        refine lv_iconst (v := 1) hx hb dL_law_691 (by decide) ?_
        refine lv_iadd hx hb dL_law_692 ?_
        refine lv_topi (fun y222 ey222 => ?_)
        obtain rfl : y207 = y222 := ey207.trans ey222.symm
        refine va_sld hx hb hX hbl hbA hH.2.2.2.1 (sc_in ty207 hi h6 (by decide)) dL_law_693 ?_
        refine lv_topi (fun y223 ey223 => ?_)
        obtain rfl : y208 = y223 := ey208.trans ey223.symm
        refine lv_aload_n hx hb dL_law_694 rfl (lv_at hl 0 rfl) ?_
        refine lv_iload_n hx hb dL_law_695 rfl (lv_at hl 3 rfl) ?_
        refine lv_iconst (v := 2) hx hb dL_law_696 (by decide) ?_
        refine lv_iadd hx hb dL_law_697 ?_
        refine lv_topi (fun y224 ey224 => ?_)
        obtain rfl : y209 = y224 := ey209.trans ey224.symm
        refine va_sld hx hb hX hbl hbA hH.2.2.2.1 (sc_in ty209 hi h6 (by decide)) dL_law_698 ?_
        refine lv_topi (fun y225 ey225 => ?_)
        obtain rfl : y210 = y225 := ey210.trans ey225.symm
        refine lv_if_eq (tgt := 706) hx hb dL_law_699 (by decide) (fun q226 => ?_) (fun q226 => ?_)
        rotate_left
        · exact Rg_no (Rg_nehi r213 (Rg_ne q226) (Rg_c (x := 0) (a := (0)) (b := (0)) (by decide)) (b' := (-1)) (by decide)) (by decide)
        have l227 := congrArg Int32.toInt q226
        refine lv_iconst (v := 0) hx hb dL_law_706 (by decide) ?_
        refine lv_aload_n hx hb dL_law_707 rfl (lv_at hl 0 rfl) ?_
        refine lv_iload_n hx hb dL_law_708 rfl (lv_at hl 3 rfl) ?_
        refine lv_iconst (v := 3) hx hb dL_law_709 (by decide) ?_
        refine lv_iadd hx hb dL_law_710 ?_
        refine lv_topi (fun y228 ey228 => ?_)
        obtain rfl : y214 = y228 := ey214.trans ey228.symm
        refine va_sld hx hb hX hbl hbA hH.2.2.2.1 (sc_in ty214 hi h6 (by decide)) dL_law_711 ?_
        refine lv_topi (fun y229 ey229 => ?_)
        obtain rfl : y215 = y229 := ey215.trans ey229.symm
        refine lv_i2l (v := y215.toInt64) hx hb dL_law_712 rfl ?_
        refine lv_bipush (v := 32) hx hb dL_law_713 (by decide) ?_
        refine lv_lshl hx hb dL_law_715 rfl ?_
        refine lv_topl (fun w230 ew230 => ?_)
        obtain rfl : w216 = w230 := ew216.trans ew230.symm
        refine lv_aload_n hx hb dL_law_716 rfl (lv_at hl 0 rfl) ?_
        refine lv_iload_n hx hb dL_law_717 rfl (lv_at hl 3 rfl) ?_
        refine lv_iconst (v := 4) hx hb dL_law_718 (by decide) ?_
        refine lv_iadd hx hb dL_law_719 ?_
        refine lv_topi (fun y231 ey231 => ?_)
        obtain rfl : y217 = y231 := ey217.trans ey231.symm
        refine va_sld hx hb hX hbl hbA hH.2.2.2.1 (sc_in ty217 hi h6 (by decide)) dL_law_720 ?_
        refine lv_topi (fun y232 ey232 => ?_)
        obtain rfl : y218 = y232 := ey218.trans ey232.symm
        refine lv_i2l (v := y218.toInt64) hx hb dL_law_721 rfl ?_
        refine lv_ldc2 (v := 4294967295) hx hb hown (hts _ kkl_L_28) dL_law_722 ?_
        refine lv_land hx hb dL_law_725 ?_
        refine lv_topl (fun w233 ew233 => ?_)
        obtain rfl : w219 = w233 := ew219.trans ew233.symm
        refine lv_lor hx hb dL_law_726 ?_
        refine lv_topl (fun w234 ew234 => ?_)
        obtain rfl : w220 = w234 := ew220.trans ew234.symm
        refine ca_L_66 hx hb hml hown hts hH (c_X11_constant oI oR mm km (Rg_w (Rg_c (x := 0) (a := (0)) (b := (0)) (by decide)) (by decide)) (by exact uq)) hl.1 mm km rfl (by decide) (Nat.le_of_ble_eq_true rfl) ⟨by decide, by decide⟩ dL_law_727 (fun y235 I235 J235 R235 H locs hp hH => ?_)
        obtain ⟨⟨oI, -, sc235⟩, eR235, ry235, hp235, hf235⟩ := hp
        obtain rfl : R = R235 := eR235.symm
        have sm : Sm C ms_L_law (I, J, R) (I235, J235, R) := sm.tr sc235 rfl
        have xm : XM L C I235 := XM.sm (u := (I221, J221, R)) (v := (I235, J235, R)) xm sc235 rfl rfl
        have xw : XW L C I235 := XW.sm (u := (I221, J221, R)) (v := (I235, J235, R)) xw sc235 rfl rfl
        have ow : Ow L C R := Ow.sm (u := (I221, J221, R)) (v := (I235, J235, R)) ow sc235 rfl
        have rr235 := st_constant uq mx kx mm km oI0 oR0 ow0 rel0 hf221 sc221 oI1 oR1 hf235 sc235 oI oR
        have rel : RC L C x mo (I235, J235, R) := rr235.1
        refine lv_icmp_eq (tgt := 1244) hx hb dL_law_730 (by decide) (fun q236 => ?_) (fun q236 => ?_)
        · have l237 := congrArg Int32.toInt q236
          exact L_1244 h6 I235 J235 R _ _ _ hH oI oR xm xw ow rel (lv_sub hl [0, 1, 2, 3] rfl)
        have l238 := Rg_ne q236
        refine lv_iconst (v := 0) hx hb dL_law_733 (by decide) ?_
        exfalso
        exact absurd rr235.2 (by assumption)
      have l240 := Rg_ne q211
      refine lv_iconst (v := 1) hx hb dL_law_660 (by decide) ?_
      refine lv_goto (tgt := 665) hx hb dL_law_661 (by decide) ?_
      refine lv_aload_n hx hb dL_law_665 rfl (lv_at hl 0 rfl) ?_
      refine lv_iload_n hx hb dL_law_666 rfl (lv_at hl 3 rfl) ?_
      refine lv_iconst (v := 3) hx hb dL_law_667 (by decide) ?_
      refine lv_iadd hx hb dL_law_668 ?_
      refine lv_topi (fun y241 ey241 => ?_)
      obtain ⟨ty241, ry241⟩ := Rg_addx (a' := (3)) (b' := (3075)) (rfl : x3.toInt = _) (by decide : Int32.toInt 3 = 3) r3 (Rg_c (x := 3) (a := (3)) (b := (3)) (by decide)) (by decide)
      rw [← ey241] at ty241 ry241
      refine va_sld hx hb hX hbl hbA hH.2.2.2.1 (sc_in ty241 hi h6 (by decide)) dL_law_669 ?_
      refine lv_topi (fun y242 ey242 => ?_)
      refine lv_i2l (v := y242.toInt64) hx hb dL_law_670 rfl ?_
      refine lv_bipush (v := 32) hx hb dL_law_671 (by decide) ?_
      refine lv_lshl hx hb dL_law_673 rfl ?_
      refine lv_topl (fun w243 ew243 => ?_)
      refine lv_aload_n hx hb dL_law_674 rfl (lv_at hl 0 rfl) ?_
      refine lv_iload_n hx hb dL_law_675 rfl (lv_at hl 3 rfl) ?_
      refine lv_iconst (v := 4) hx hb dL_law_676 (by decide) ?_
      refine lv_iadd hx hb dL_law_677 ?_
      refine lv_topi (fun y244 ey244 => ?_)
      obtain ⟨ty244, ry244⟩ := Rg_addx (a' := (4)) (b' := (3076)) (rfl : x3.toInt = _) (by decide : Int32.toInt 4 = 4) r3 (Rg_c (x := 4) (a := (4)) (b := (4)) (by decide)) (by decide)
      rw [← ey244] at ty244 ry244
      refine va_sld hx hb hX hbl hbA hH.2.2.2.1 (sc_in ty244 hi h6 (by decide)) dL_law_678 ?_
      refine lv_topi (fun y245 ey245 => ?_)
      refine lv_i2l (v := y245.toInt64) hx hb dL_law_679 rfl ?_
      refine lv_ldc2 (v := 4294967295) hx hb hown (hts _ kkl_L_28) dL_law_680 ?_
      refine lv_land hx hb dL_law_683 ?_
      refine lv_topl (fun w246 ew246 => ?_)
      refine lv_lor hx hb dL_law_684 ?_
      refine lv_topl (fun w247 ew247 => ?_)
      refine ca_L_62 hx hb hml hown hts hH (c_X10_constant oI oR mx kx (Rg_w (Rg_c (x := 1) (a := (1)) (b := (1)) (by decide)) (by decide)) (by exact uq)) hl.1 mx kx rfl (by decide) (Nat.le_of_ble_eq_true rfl) ⟨by decide, by decide⟩ dL_law_685 (fun y248 I248 J248 R248 H locs hp hH => ?_)
      obtain ⟨⟨oI, -, sc248⟩, eR248, ry248, hp248, hf248⟩ := hp
      obtain rfl : R = R248 := eR248.symm
      have sm : Sm C ms_L_law (I, J, R) (I248, J248, R) := sm.tr sc248 rfl
      have xm : XM L C I248 := XM.sm (u := (I, J, R)) (v := (I248, J248, R)) xm sc248 rfl rfl
      have xw : XW L C I248 := XW.sm (u := (I, J, R)) (v := (I248, J248, R)) xw sc248 rfl rfl
      have ow : Ow L C R := Ow.sm (u := (I, J, R)) (v := (I248, J248, R)) ow sc248 rfl
      have oI1 := oI
      have oR1 := oR
      refine lv_aload_n hx hb dL_law_688 rfl (lv_at hl 2 rfl) ?_
      refine lv_aload_n hx hb dL_law_689 rfl (lv_at hl 0 rfl) ?_
      refine lv_iload_n hx hb dL_law_690 rfl (lv_at hl 3 rfl) ?_
      refine lv_iconst (v := 1) hx hb dL_law_691 (by decide) ?_
      refine lv_iadd hx hb dL_law_692 ?_
      refine lv_topi (fun y249 ey249 => ?_)
      obtain rfl : y207 = y249 := ey207.trans ey249.symm
      refine va_sld hx hb hX hbl hbA hH.2.2.2.1 (sc_in ty207 hi h6 (by decide)) dL_law_693 ?_
      refine lv_topi (fun y250 ey250 => ?_)
      obtain rfl : y208 = y250 := ey208.trans ey250.symm
      refine lv_aload_n hx hb dL_law_694 rfl (lv_at hl 0 rfl) ?_
      refine lv_iload_n hx hb dL_law_695 rfl (lv_at hl 3 rfl) ?_
      refine lv_iconst (v := 2) hx hb dL_law_696 (by decide) ?_
      refine lv_iadd hx hb dL_law_697 ?_
      refine lv_topi (fun y251 ey251 => ?_)
      obtain rfl : y209 = y251 := ey209.trans ey251.symm
      refine va_sld hx hb hX hbl hbA hH.2.2.2.1 (sc_in ty209 hi h6 (by decide)) dL_law_698 ?_
      refine lv_topi (fun y252 ey252 => ?_)
      obtain rfl : y210 = y252 := ey210.trans ey252.symm
      refine lv_if_eq (tgt := 706) hx hb dL_law_699 (by decide) (fun q253 => ?_) (fun q253 => ?_)
      · exact absurd q253 q211
      have l255 := Rg_ne q253
      refine lv_iconst (v := 1) hx hb dL_law_702 (by decide) ?_
      refine lv_goto (tgt := 707) hx hb dL_law_703 (by decide) ?_
      refine lv_aload_n hx hb dL_law_707 rfl (lv_at hl 0 rfl) ?_
      refine lv_iload_n hx hb dL_law_708 rfl (lv_at hl 3 rfl) ?_
      refine lv_iconst (v := 3) hx hb dL_law_709 (by decide) ?_
      refine lv_iadd hx hb dL_law_710 ?_
      refine lv_topi (fun y256 ey256 => ?_)
      obtain rfl : y241 = y256 := ey241.trans ey256.symm
      refine va_sld hx hb hX hbl hbA hH.2.2.2.1 (sc_in ty241 hi h6 (by decide)) dL_law_711 ?_
      refine lv_topi (fun y257 ey257 => ?_)
      obtain rfl : y242 = y257 := ey242.trans ey257.symm
      refine lv_i2l (v := y242.toInt64) hx hb dL_law_712 rfl ?_
      refine lv_bipush (v := 32) hx hb dL_law_713 (by decide) ?_
      refine lv_lshl hx hb dL_law_715 rfl ?_
      refine lv_topl (fun w258 ew258 => ?_)
      obtain rfl : w243 = w258 := ew243.trans ew258.symm
      refine lv_aload_n hx hb dL_law_716 rfl (lv_at hl 0 rfl) ?_
      refine lv_iload_n hx hb dL_law_717 rfl (lv_at hl 3 rfl) ?_
      refine lv_iconst (v := 4) hx hb dL_law_718 (by decide) ?_
      refine lv_iadd hx hb dL_law_719 ?_
      refine lv_topi (fun y259 ey259 => ?_)
      obtain rfl : y244 = y259 := ey244.trans ey259.symm
      refine va_sld hx hb hX hbl hbA hH.2.2.2.1 (sc_in ty244 hi h6 (by decide)) dL_law_720 ?_
      refine lv_topi (fun y260 ey260 => ?_)
      obtain rfl : y245 = y260 := ey245.trans ey260.symm
      refine lv_i2l (v := y245.toInt64) hx hb dL_law_721 rfl ?_
      refine lv_ldc2 (v := 4294967295) hx hb hown (hts _ kkl_L_28) dL_law_722 ?_
      refine lv_land hx hb dL_law_725 ?_
      refine lv_topl (fun w261 ew261 => ?_)
      obtain rfl : w246 = w261 := ew246.trans ew261.symm
      refine lv_lor hx hb dL_law_726 ?_
      refine lv_topl (fun w262 ew262 => ?_)
      obtain rfl : w247 = w262 := ew247.trans ew262.symm
      refine ca_L_66 hx hb hml hown hts hH (c_X11_constant oI oR mm km (Rg_w (Rg_c (x := 1) (a := (1)) (b := (1)) (by decide)) (by decide)) (by exact uq)) hl.1 mm km rfl (by decide) (Nat.le_of_ble_eq_true rfl) ⟨by decide, by decide⟩ dL_law_727 (fun y263 I263 J263 R263 H locs hp hH => ?_)
      obtain ⟨⟨oI, -, sc263⟩, eR263, ry263, hp263, hf263⟩ := hp
      obtain rfl : R = R263 := eR263.symm
      have sm : Sm C ms_L_law (I, J, R) (I263, J263, R) := sm.tr sc263 rfl
      have xm : XM L C I263 := XM.sm (u := (I248, J248, R)) (v := (I263, J263, R)) xm sc263 rfl rfl
      have xw : XW L C I263 := XW.sm (u := (I248, J248, R)) (v := (I263, J263, R)) xw sc263 rfl rfl
      have ow : Ow L C R := Ow.sm (u := (I248, J248, R)) (v := (I263, J263, R)) ow sc263 rfl
      have rr263 := st_constant uq mx kx mm km oI0 oR0 ow0 rel0 hf248 sc248 oI1 oR1 hf263 sc263 oI oR
      have rel : RC L C x mo (I263, J263, R) := rr263.1
      refine lv_icmp_eq (tgt := 1244) hx hb dL_law_730 (by decide) (fun q264 => ?_) (fun q264 => ?_)
      · have l265 := congrArg Int32.toInt q264
        exact L_1244 h6 I263 J263 R _ _ _ hH oI oR xm xw ow rel (lv_sub hl [0, 1, 2, 3] rfl)
      have l266 := Rg_ne q264
      refine lv_iconst (v := 0) hx hb dL_law_733 (by decide) ?_
      exfalso
      exact absurd rr263.2 (by assumption)
    · have r267 : Rg y4 (11) (11) := ⟨by rw [z5]; decide, by rw [z5]; decide⟩
      refine lv_tableIn (tgt := 735) hx hb dL_law_33 (by rw [z5]; decide) (by rw [z5]; decide) (by rw [z5]; rfl) (by decide) ?_
      refine lv_aload_n hx hb dL_law_735 rfl (lv_at hl 1 rfl) ?_
      refine lv_aload_n hx hb dL_law_736 rfl (lv_at hl 0 rfl) ?_
      refine lv_iload_n hx hb dL_law_737 rfl (lv_at hl 3 rfl) ?_
      refine lv_iconst (v := 1) hx hb dL_law_738 (by decide) ?_
      refine lv_iadd hx hb dL_law_739 ?_
      refine lv_topi (fun y268 ey268 => ?_)
      obtain ⟨ty268, ry268⟩ := Rg_addx (a' := (1)) (b' := (3073)) (rfl : x3.toInt = _) (by decide : Int32.toInt 1 = 1) r3 (Rg_c (x := 1) (a := (1)) (b := (1)) (by decide)) (by decide)
      rw [← ey268] at ty268 ry268
      refine va_sld hx hb hX hbl hbA hH.2.2.2.1 (sc_in ty268 hi h6 (by decide)) dL_law_740 ?_
      refine lv_topi (fun y269 ey269 => ?_)
      refine lv_aload_n hx hb dL_law_741 rfl (lv_at hl 0 rfl) ?_
      refine lv_iload_n hx hb dL_law_742 rfl (lv_at hl 3 rfl) ?_
      refine lv_iconst (v := 2) hx hb dL_law_743 (by decide) ?_
      refine lv_iadd hx hb dL_law_744 ?_
      refine lv_topi (fun y270 ey270 => ?_)
      obtain ⟨ty270, ry270⟩ := Rg_addx (a' := (2)) (b' := (3074)) (rfl : x3.toInt = _) (by decide : Int32.toInt 2 = 2) r3 (Rg_c (x := 2) (a := (2)) (b := (2)) (by decide)) (by decide)
      rw [← ey270] at ty270 ry270
      refine va_sld hx hb hX hbl hbA hH.2.2.2.1 (sc_in ty270 hi h6 (by decide)) dL_law_745 ?_
      refine lv_topi (fun y271 ey271 => ?_)
      refine lv_aload_n hx hb dL_law_746 rfl (lv_at hl 0 rfl) ?_
      refine lv_iload_n hx hb dL_law_747 rfl (lv_at hl 3 rfl) ?_
      refine lv_iconst (v := 3) hx hb dL_law_748 (by decide) ?_
      refine lv_iadd hx hb dL_law_749 ?_
      refine lv_topi (fun y272 ey272 => ?_)
      obtain ⟨ty272, ry272⟩ := Rg_addx (a' := (3)) (b' := (3075)) (rfl : x3.toInt = _) (by decide : Int32.toInt 3 = 3) r3 (Rg_c (x := 3) (a := (3)) (b := (3)) (by decide)) (by decide)
      rw [← ey272] at ty272 ry272
      refine va_sld hx hb hX hbl hbA hH.2.2.2.1 (sc_in ty272 hi h6 (by decide)) dL_law_750 ?_
      refine lv_topi (fun y273 ey273 => ?_)
      refine lv_aload_n hx hb dL_law_751 rfl (lv_at hl 0 rfl) ?_
      refine lv_iload_n hx hb dL_law_752 rfl (lv_at hl 3 rfl) ?_
      refine lv_iconst (v := 4) hx hb dL_law_753 (by decide) ?_
      refine lv_iadd hx hb dL_law_754 ?_
      refine lv_topi (fun y274 ey274 => ?_)
      obtain ⟨ty274, ry274⟩ := Rg_addx (a' := (4)) (b' := (3076)) (rfl : x3.toInt = _) (by decide : Int32.toInt 4 = 4) r3 (Rg_c (x := 4) (a := (4)) (b := (4)) (by decide)) (by decide)
      rw [← ey274] at ty274 ry274
      refine va_sld hx hb hX hbl hbA hH.2.2.2.1 (sc_in ty274 hi h6 (by decide)) dL_law_755 ?_
      refine lv_topi (fun y275 ey275 => ?_)
      refine ca_L_67 hx hb hml hown hts hH (c_X10_fit oI oR mx kx) hl.1 mx kx rfl (by decide) (Nat.le_of_ble_eq_true rfl) ⟨by decide, by decide⟩ dL_law_756 (fun y276 I276 J276 R276 H locs hp hH => ?_)
      obtain ⟨⟨oI, -, sc276⟩, eJ276, eR276⟩ := hp
      obtain rfl : J = J276 := eJ276.symm
      obtain rfl : R = R276 := eR276.symm
      have sm : Sm C ms_L_law (I, J, R) (I276, J, R) := sm.tr sc276 rfl
      have xm : XM L C I276 := XM.sm (u := (I, J, R)) (v := (I276, J, R)) xm sc276 rfl rfl
      have xw : XW L C I276 := XW.sm (u := (I, J, R)) (v := (I276, J, R)) xw sc276 rfl rfl
      have ow : Ow L C R := Ow.sm (u := (I, J, R)) (v := (I276, J, R)) ow sc276 rfl
      have rel : RC L C x mo (I276, J, R) := RC.sm (u := (I, J, R)) (v := (I276, J, R)) rel oR sc276 rfl
      refine lv_pop hx hb dL_law_759 rfl ?_
      refine lv_aload_n hx hb dL_law_760 rfl (lv_at hl 2 rfl) ?_
      refine lv_aload_n hx hb dL_law_761 rfl (lv_at hl 0 rfl) ?_
      refine lv_iload_n hx hb dL_law_762 rfl (lv_at hl 3 rfl) ?_
      refine lv_iconst (v := 1) hx hb dL_law_763 (by decide) ?_
      refine lv_iadd hx hb dL_law_764 ?_
      refine lv_topi (fun y277 ey277 => ?_)
      obtain rfl : y268 = y277 := ey268.trans ey277.symm
      refine va_sld hx hb hX hbl hbA hH.2.2.2.1 (sc_in ty268 hi h6 (by decide)) dL_law_765 ?_
      refine lv_topi (fun y278 ey278 => ?_)
      obtain rfl : y269 = y278 := ey269.trans ey278.symm
      refine lv_aload_n hx hb dL_law_766 rfl (lv_at hl 0 rfl) ?_
      refine lv_iload_n hx hb dL_law_767 rfl (lv_at hl 3 rfl) ?_
      refine lv_iconst (v := 2) hx hb dL_law_768 (by decide) ?_
      refine lv_iadd hx hb dL_law_769 ?_
      refine lv_topi (fun y279 ey279 => ?_)
      obtain rfl : y270 = y279 := ey270.trans ey279.symm
      refine va_sld hx hb hX hbl hbA hH.2.2.2.1 (sc_in ty270 hi h6 (by decide)) dL_law_770 ?_
      refine lv_topi (fun y280 ey280 => ?_)
      obtain rfl : y271 = y280 := ey271.trans ey280.symm
      refine lv_aload_n hx hb dL_law_771 rfl (lv_at hl 0 rfl) ?_
      refine lv_iload_n hx hb dL_law_772 rfl (lv_at hl 3 rfl) ?_
      refine lv_iconst (v := 3) hx hb dL_law_773 (by decide) ?_
      refine lv_iadd hx hb dL_law_774 ?_
      refine lv_topi (fun y281 ey281 => ?_)
      obtain rfl : y272 = y281 := ey272.trans ey281.symm
      refine va_sld hx hb hX hbl hbA hH.2.2.2.1 (sc_in ty272 hi h6 (by decide)) dL_law_775 ?_
      refine lv_topi (fun y282 ey282 => ?_)
      obtain rfl : y273 = y282 := ey273.trans ey282.symm
      refine lv_aload_n hx hb dL_law_776 rfl (lv_at hl 0 rfl) ?_
      refine lv_iload_n hx hb dL_law_777 rfl (lv_at hl 3 rfl) ?_
      refine lv_iconst (v := 4) hx hb dL_law_778 (by decide) ?_
      refine lv_iadd hx hb dL_law_779 ?_
      refine lv_topi (fun y283 ey283 => ?_)
      obtain rfl : y274 = y283 := ey274.trans ey283.symm
      refine va_sld hx hb hX hbl hbA hH.2.2.2.1 (sc_in ty274 hi h6 (by decide)) dL_law_780 ?_
      refine lv_topi (fun y284 ey284 => ?_)
      obtain rfl : y275 = y284 := ey275.trans ey284.symm
      refine ca_L_70 hx hb hml hown hts hH (c_X11_fit oI oR mm km) hl.1 mm km rfl (by decide) (Nat.le_of_ble_eq_true rfl) ⟨by decide, by decide⟩ dL_law_781 (fun y285 I285 J285 R285 H locs hp hH => ?_)
      obtain ⟨⟨oI, -, sc285⟩, eJ285, eR285⟩ := hp
      obtain rfl : J = J285 := eJ285.symm
      obtain rfl : R = R285 := eR285.symm
      have sm : Sm C ms_L_law (I, J, R) (I285, J, R) := sm.tr sc285 rfl
      have xm : XM L C I285 := XM.sm (u := (I276, J, R)) (v := (I285, J, R)) xm sc285 rfl rfl
      have xw : XW L C I285 := XW.sm (u := (I276, J, R)) (v := (I285, J, R)) xw sc285 rfl rfl
      have ow : Ow L C R := Ow.sm (u := (I276, J, R)) (v := (I285, J, R)) ow sc285 rfl
      have rel : RC L C x mo (I285, J, R) := RC.sm (u := (I276, J, R)) (v := (I285, J, R)) rel oR sc285 rfl
      refine lv_pop hx hb dL_law_784 rfl ?_
      refine lv_goto (tgt := 1244) hx hb dL_law_785 (by decide) ?_
      exact L_1244 h6 I285 J R _ _ _ hH oI oR xm xw ow rel (lv_sub hl [0, 1, 2, 3] rfl)
    · have r286 : Rg y4 (12) (12) := ⟨by rw [z5]; decide, by rw [z5]; decide⟩
      refine lv_tableIn (tgt := 788) hx hb dL_law_33 (by rw [z5]; decide) (by rw [z5]; decide) (by rw [z5]; rfl) (by decide) ?_
      refine lv_aload_n hx hb dL_law_788 rfl (lv_at hl 1 rfl) ?_
      refine lv_aload_n hx hb dL_law_789 rfl (lv_at hl 0 rfl) ?_
      refine lv_iload_n hx hb dL_law_790 rfl (lv_at hl 3 rfl) ?_
      refine lv_iconst (v := 1) hx hb dL_law_791 (by decide) ?_
      refine lv_iadd hx hb dL_law_792 ?_
      refine lv_topi (fun y287 ey287 => ?_)
      obtain ⟨ty287, ry287⟩ := Rg_addx (a' := (1)) (b' := (3073)) (rfl : x3.toInt = _) (by decide : Int32.toInt 1 = 1) r3 (Rg_c (x := 1) (a := (1)) (b := (1)) (by decide)) (by decide)
      rw [← ey287] at ty287 ry287
      refine va_sld hx hb hX hbl hbA hH.2.2.2.1 (sc_in ty287 hi h6 (by decide)) dL_law_793 ?_
      refine lv_topi (fun y288 ey288 => ?_)
      refine lv_aload_n hx hb dL_law_794 rfl (lv_at hl 0 rfl) ?_
      refine lv_iload_n hx hb dL_law_795 rfl (lv_at hl 3 rfl) ?_
      refine lv_iconst (v := 2) hx hb dL_law_796 (by decide) ?_
      refine lv_iadd hx hb dL_law_797 ?_
      refine lv_topi (fun y289 ey289 => ?_)
      obtain ⟨ty289, ry289⟩ := Rg_addx (a' := (2)) (b' := (3074)) (rfl : x3.toInt = _) (by decide : Int32.toInt 2 = 2) r3 (Rg_c (x := 2) (a := (2)) (b := (2)) (by decide)) (by decide)
      rw [← ey289] at ty289 ry289
      refine va_sld hx hb hX hbl hbA hH.2.2.2.1 (sc_in ty289 hi h6 (by decide)) dL_law_798 ?_
      refine lv_topi (fun y290 ey290 => ?_)
      refine ca_L_71 hx hb hml hown hts hH (c_X10_fits oI oR mx kx) hl.1 mx kx rfl (by decide) (Nat.le_of_ble_eq_true rfl) ⟨by decide, by decide⟩ dL_law_799 (fun y291 I291 J291 R291 H locs hp hH => ?_)
      obtain ⟨⟨oI, -, sc291⟩, eJ291, eR291⟩ := hp
      obtain rfl : J = J291 := eJ291.symm
      obtain rfl : R = R291 := eR291.symm
      have sm : Sm C ms_L_law (I, J, R) (I291, J, R) := sm.tr sc291 rfl
      have xm : XM L C I291 := XM.sm (u := (I, J, R)) (v := (I291, J, R)) xm sc291 rfl rfl
      have xw : XW L C I291 := XW.sm (u := (I, J, R)) (v := (I291, J, R)) xw sc291 rfl rfl
      have ow : Ow L C R := Ow.sm (u := (I, J, R)) (v := (I291, J, R)) ow sc291 rfl
      have rel : RC L C x mo (I291, J, R) := RC.sm (u := (I, J, R)) (v := (I291, J, R)) rel oR sc291 rfl
      refine lv_pop hx hb dL_law_802 rfl ?_
      refine lv_aload_n hx hb dL_law_803 rfl (lv_at hl 2 rfl) ?_
      refine lv_aload_n hx hb dL_law_804 rfl (lv_at hl 0 rfl) ?_
      refine lv_iload_n hx hb dL_law_805 rfl (lv_at hl 3 rfl) ?_
      refine lv_iconst (v := 1) hx hb dL_law_806 (by decide) ?_
      refine lv_iadd hx hb dL_law_807 ?_
      refine lv_topi (fun y292 ey292 => ?_)
      obtain rfl : y287 = y292 := ey287.trans ey292.symm
      refine va_sld hx hb hX hbl hbA hH.2.2.2.1 (sc_in ty287 hi h6 (by decide)) dL_law_808 ?_
      refine lv_topi (fun y293 ey293 => ?_)
      obtain rfl : y288 = y293 := ey288.trans ey293.symm
      refine lv_aload_n hx hb dL_law_809 rfl (lv_at hl 0 rfl) ?_
      refine lv_iload_n hx hb dL_law_810 rfl (lv_at hl 3 rfl) ?_
      refine lv_iconst (v := 2) hx hb dL_law_811 (by decide) ?_
      refine lv_iadd hx hb dL_law_812 ?_
      refine lv_topi (fun y294 ey294 => ?_)
      obtain rfl : y289 = y294 := ey289.trans ey294.symm
      refine va_sld hx hb hX hbl hbA hH.2.2.2.1 (sc_in ty289 hi h6 (by decide)) dL_law_813 ?_
      refine lv_topi (fun y295 ey295 => ?_)
      obtain rfl : y290 = y295 := ey290.trans ey295.symm
      refine ca_L_75 hx hb hml hown hts hH (c_X11_fits oI oR mm km) hl.1 mm km rfl (by decide) (Nat.le_of_ble_eq_true rfl) ⟨by decide, by decide⟩ dL_law_814 (fun y296 I296 J296 R296 H locs hp hH => ?_)
      obtain ⟨⟨oI, -, sc296⟩, eJ296, eR296, ry296⟩ := hp
      obtain rfl : J = J296 := eJ296.symm
      obtain rfl : R = R296 := eR296.symm
      have sm : Sm C ms_L_law (I, J, R) (I296, J, R) := sm.tr sc296 rfl
      have xm : XM L C I296 := XM.sm (u := (I291, J, R)) (v := (I296, J, R)) xm sc296 rfl rfl
      have xw : XW L C I296 := XW.sm (u := (I291, J, R)) (v := (I296, J, R)) xw sc296 rfl rfl
      have ow : Ow L C R := Ow.sm (u := (I291, J, R)) (v := (I296, J, R)) ow sc296 rfl
      have rel : RC L C x mo (I296, J, R) := RC.sm (u := (I291, J, R)) (v := (I296, J, R)) rel oR sc296 rfl
      refine lv_pop hx hb dL_law_817 rfl ?_
      refine lv_goto (tgt := 1244) hx hb dL_law_818 (by decide) ?_
      exact L_1244 h6 I296 J R _ _ _ hH oI oR xm xw ow rel (lv_sub hl [0, 1, 2, 3] rfl)
    · have r297 : Rg y4 (13) (13) := ⟨by rw [z5]; decide, by rw [z5]; decide⟩
      refine lv_tableIn (tgt := 821) hx hb dL_law_33 (by rw [z5]; decide) (by rw [z5]; decide) (by rw [z5]; rfl) (by decide) ?_
      refine lv_aload_n hx hb dL_law_821 rfl (lv_at hl 1 rfl) ?_
      refine lv_aload_n hx hb dL_law_822 rfl (lv_at hl 0 rfl) ?_
      refine lv_iload_n hx hb dL_law_823 rfl (lv_at hl 3 rfl) ?_
      refine lv_iconst (v := 1) hx hb dL_law_824 (by decide) ?_
      refine lv_iadd hx hb dL_law_825 ?_
      refine lv_topi (fun y298 ey298 => ?_)
      obtain ⟨ty298, ry298⟩ := Rg_addx (a' := (1)) (b' := (3073)) (rfl : x3.toInt = _) (by decide : Int32.toInt 1 = 1) r3 (Rg_c (x := 1) (a := (1)) (b := (1)) (by decide)) (by decide)
      rw [← ey298] at ty298 ry298
      refine va_sld hx hb hX hbl hbA hH.2.2.2.1 (sc_in ty298 hi h6 (by decide)) dL_law_826 ?_
      refine lv_topi (fun y299 ey299 => ?_)
      refine lv_aload_n hx hb dL_law_827 rfl (lv_at hl 0 rfl) ?_
      refine lv_iload_n hx hb dL_law_828 rfl (lv_at hl 3 rfl) ?_
      refine lv_iconst (v := 2) hx hb dL_law_829 (by decide) ?_
      refine lv_iadd hx hb dL_law_830 ?_
      refine lv_topi (fun y300 ey300 => ?_)
      obtain ⟨ty300, ry300⟩ := Rg_addx (a' := (2)) (b' := (3074)) (rfl : x3.toInt = _) (by decide : Int32.toInt 2 = 2) r3 (Rg_c (x := 2) (a := (2)) (b := (2)) (by decide)) (by decide)
      rw [← ey300] at ty300 ry300
      refine va_sld hx hb hX hbl hbA hH.2.2.2.1 (sc_in ty300 hi h6 (by decide)) dL_law_831 ?_
      refine lv_topi (fun y301 ey301 => ?_)
      refine ca_L_76 hx hb hml hown hts hH (c_X10_gap oI oR mx kx) hl.1 mx kx rfl (by decide) (Nat.le_of_ble_eq_true rfl) ⟨by decide, by decide⟩ dL_law_832 (fun y302 I302 J302 R302 H locs hp hH => ?_)
      obtain ⟨⟨oI, -, sc302⟩, eJ302, eR302, ry302⟩ := hp
      obtain rfl : J = J302 := eJ302.symm
      obtain rfl : R = R302 := eR302.symm
      have sm : Sm C ms_L_law (I, J, R) (I302, J, R) := sm.tr sc302 rfl
      have xm : XM L C I302 := XM.sm (u := (I, J, R)) (v := (I302, J, R)) xm sc302 rfl rfl
      have xw : XW L C I302 := XW.sm (u := (I, J, R)) (v := (I302, J, R)) xw sc302 rfl rfl
      have ow : Ow L C R := Ow.sm (u := (I, J, R)) (v := (I302, J, R)) ow sc302 rfl
      have rel : RC L C x mo (I302, J, R) := RC.sm (u := (I, J, R)) (v := (I302, J, R)) rel oR sc302 rfl
      refine lv_pop hx hb dL_law_835 rfl ?_
      refine lv_aload_n hx hb dL_law_836 rfl (lv_at hl 2 rfl) ?_
      refine lv_aload_n hx hb dL_law_837 rfl (lv_at hl 0 rfl) ?_
      refine lv_iload_n hx hb dL_law_838 rfl (lv_at hl 3 rfl) ?_
      refine lv_iconst (v := 1) hx hb dL_law_839 (by decide) ?_
      refine lv_iadd hx hb dL_law_840 ?_
      refine lv_topi (fun y303 ey303 => ?_)
      obtain rfl : y298 = y303 := ey298.trans ey303.symm
      refine va_sld hx hb hX hbl hbA hH.2.2.2.1 (sc_in ty298 hi h6 (by decide)) dL_law_841 ?_
      refine lv_topi (fun y304 ey304 => ?_)
      obtain rfl : y299 = y304 := ey299.trans ey304.symm
      refine lv_aload_n hx hb dL_law_842 rfl (lv_at hl 0 rfl) ?_
      refine lv_iload_n hx hb dL_law_843 rfl (lv_at hl 3 rfl) ?_
      refine lv_iconst (v := 2) hx hb dL_law_844 (by decide) ?_
      refine lv_iadd hx hb dL_law_845 ?_
      refine lv_topi (fun y305 ey305 => ?_)
      obtain rfl : y300 = y305 := ey300.trans ey305.symm
      refine va_sld hx hb hX hbl hbA hH.2.2.2.1 (sc_in ty300 hi h6 (by decide)) dL_law_846 ?_
      refine lv_topi (fun y306 ey306 => ?_)
      obtain rfl : y301 = y306 := ey301.trans ey306.symm
      refine ca_L_79 hx hb hml hown hts hH (c_X11_gap oI oR mm km) hl.1 mm km rfl (by decide) (Nat.le_of_ble_eq_true rfl) ⟨by decide, by decide⟩ dL_law_847 (fun y307 I307 J307 R307 H locs hp hH => ?_)
      obtain ⟨⟨oI, -, sc307⟩, eJ307, eR307, ry307⟩ := hp
      obtain rfl : J = J307 := eJ307.symm
      obtain rfl : R = R307 := eR307.symm
      have sm : Sm C ms_L_law (I, J, R) (I307, J, R) := sm.tr sc307 rfl
      have xm : XM L C I307 := XM.sm (u := (I302, J, R)) (v := (I307, J, R)) xm sc307 rfl rfl
      have xw : XW L C I307 := XW.sm (u := (I302, J, R)) (v := (I307, J, R)) xw sc307 rfl rfl
      have ow : Ow L C R := Ow.sm (u := (I302, J, R)) (v := (I307, J, R)) ow sc307 rfl
      have rel : RC L C x mo (I307, J, R) := RC.sm (u := (I302, J, R)) (v := (I307, J, R)) rel oR sc307 rfl
      refine lv_pop hx hb dL_law_850 rfl ?_
      refine lv_goto (tgt := 1244) hx hb dL_law_851 (by decide) ?_
      exact L_1244 h6 I307 J R _ _ _ hH oI oR xm xw ow rel (lv_sub hl [0, 1, 2, 3] rfl)
    · have r308 : Rg y4 (14) (14) := ⟨by rw [z5]; decide, by rw [z5]; decide⟩
      refine lv_tableIn (tgt := 854) hx hb dL_law_33 (by rw [z5]; decide) (by rw [z5]; decide) (by rw [z5]; rfl) (by decide) ?_
      refine lv_aload_n hx hb dL_law_854 rfl (lv_at hl 1 rfl) ?_
      refine lv_aload_n hx hb dL_law_855 rfl (lv_at hl 0 rfl) ?_
      refine lv_iload_n hx hb dL_law_856 rfl (lv_at hl 3 rfl) ?_
      refine lv_iconst (v := 1) hx hb dL_law_857 (by decide) ?_
      refine lv_iadd hx hb dL_law_858 ?_
      refine lv_topi (fun y309 ey309 => ?_)
      obtain ⟨ty309, ry309⟩ := Rg_addx (a' := (1)) (b' := (3073)) (rfl : x3.toInt = _) (by decide : Int32.toInt 1 = 1) r3 (Rg_c (x := 1) (a := (1)) (b := (1)) (by decide)) (by decide)
      rw [← ey309] at ty309 ry309
      refine va_sld hx hb hX hbl hbA hH.2.2.2.1 (sc_in ty309 hi h6 (by decide)) dL_law_859 ?_
      refine lv_topi (fun y310 ey310 => ?_)
      refine lv_aload_n hx hb dL_law_860 rfl (lv_at hl 0 rfl) ?_
      refine lv_iload_n hx hb dL_law_861 rfl (lv_at hl 3 rfl) ?_
      refine lv_iconst (v := 2) hx hb dL_law_862 (by decide) ?_
      refine lv_iadd hx hb dL_law_863 ?_
      refine lv_topi (fun y311 ey311 => ?_)
      obtain ⟨ty311, ry311⟩ := Rg_addx (a' := (2)) (b' := (3074)) (rfl : x3.toInt = _) (by decide : Int32.toInt 2 = 2) r3 (Rg_c (x := 2) (a := (2)) (b := (2)) (by decide)) (by decide)
      rw [← ey311] at ty311 ry311
      refine va_sld hx hb hX hbl hbA hH.2.2.2.1 (sc_in ty311 hi h6 (by decide)) dL_law_864 ?_
      refine lv_topi (fun y312 ey312 => ?_)
      refine lv_aload_n hx hb dL_law_865 rfl (lv_at hl 0 rfl) ?_
      refine lv_iload_n hx hb dL_law_866 rfl (lv_at hl 3 rfl) ?_
      refine lv_iconst (v := 3) hx hb dL_law_867 (by decide) ?_
      refine lv_iadd hx hb dL_law_868 ?_
      refine lv_topi (fun y313 ey313 => ?_)
      obtain ⟨ty313, ry313⟩ := Rg_addx (a' := (3)) (b' := (3075)) (rfl : x3.toInt = _) (by decide : Int32.toInt 3 = 3) r3 (Rg_c (x := 3) (a := (3)) (b := (3)) (by decide)) (by decide)
      rw [← ey313] at ty313 ry313
      refine va_sld hx hb hX hbl hbA hH.2.2.2.1 (sc_in ty313 hi h6 (by decide)) dL_law_869 ?_
      refine lv_topi (fun y314 ey314 => ?_)
      refine ca_L_80 hx hb hml hown hts hH (c_X10_way oI oR mx kx) hl.1 mx kx rfl (by decide) (Nat.le_of_ble_eq_true rfl) ⟨by decide, by decide⟩ dL_law_870 (fun y315 I315 J315 R315 H locs hp hH => ?_)
      obtain ⟨⟨oI, -, sc315⟩, eJ315, eR315⟩ := hp
      obtain rfl : J = J315 := eJ315.symm
      obtain rfl : R = R315 := eR315.symm
      have sm : Sm C ms_L_law (I, J, R) (I315, J, R) := sm.tr sc315 rfl
      have xm : XM L C I315 := XM.sm (u := (I, J, R)) (v := (I315, J, R)) xm sc315 rfl rfl
      have xw : XW L C I315 := XW.sm (u := (I, J, R)) (v := (I315, J, R)) xw sc315 rfl rfl
      have ow : Ow L C R := Ow.sm (u := (I, J, R)) (v := (I315, J, R)) ow sc315 rfl
      have rel : RC L C x mo (I315, J, R) := RC.sm (u := (I, J, R)) (v := (I315, J, R)) rel oR sc315 rfl
      refine lv_pop hx hb dL_law_873 rfl ?_
      refine lv_aload_n hx hb dL_law_874 rfl (lv_at hl 2 rfl) ?_
      refine lv_aload_n hx hb dL_law_875 rfl (lv_at hl 0 rfl) ?_
      refine lv_iload_n hx hb dL_law_876 rfl (lv_at hl 3 rfl) ?_
      refine lv_iconst (v := 1) hx hb dL_law_877 (by decide) ?_
      refine lv_iadd hx hb dL_law_878 ?_
      refine lv_topi (fun y316 ey316 => ?_)
      obtain rfl : y309 = y316 := ey309.trans ey316.symm
      refine va_sld hx hb hX hbl hbA hH.2.2.2.1 (sc_in ty309 hi h6 (by decide)) dL_law_879 ?_
      refine lv_topi (fun y317 ey317 => ?_)
      obtain rfl : y310 = y317 := ey310.trans ey317.symm
      refine lv_aload_n hx hb dL_law_880 rfl (lv_at hl 0 rfl) ?_
      refine lv_iload_n hx hb dL_law_881 rfl (lv_at hl 3 rfl) ?_
      refine lv_iconst (v := 2) hx hb dL_law_882 (by decide) ?_
      refine lv_iadd hx hb dL_law_883 ?_
      refine lv_topi (fun y318 ey318 => ?_)
      obtain rfl : y311 = y318 := ey311.trans ey318.symm
      refine va_sld hx hb hX hbl hbA hH.2.2.2.1 (sc_in ty311 hi h6 (by decide)) dL_law_884 ?_
      refine lv_topi (fun y319 ey319 => ?_)
      obtain rfl : y312 = y319 := ey312.trans ey319.symm
      refine lv_aload_n hx hb dL_law_885 rfl (lv_at hl 0 rfl) ?_
      refine lv_iload_n hx hb dL_law_886 rfl (lv_at hl 3 rfl) ?_
      refine lv_iconst (v := 3) hx hb dL_law_887 (by decide) ?_
      refine lv_iadd hx hb dL_law_888 ?_
      refine lv_topi (fun y320 ey320 => ?_)
      obtain rfl : y313 = y320 := ey313.trans ey320.symm
      refine va_sld hx hb hX hbl hbA hH.2.2.2.1 (sc_in ty313 hi h6 (by decide)) dL_law_889 ?_
      refine lv_topi (fun y321 ey321 => ?_)
      obtain rfl : y314 = y321 := ey314.trans ey321.symm
      refine ca_L_83 hx hb hml hown hts hH (c_X11_way oI oR mm km) hl.1 mm km rfl (by decide) (Nat.le_of_ble_eq_true rfl) ⟨by decide, by decide⟩ dL_law_890 (fun y322 I322 J322 R322 H locs hp hH => ?_)
      obtain ⟨⟨oI, -, sc322⟩, eJ322, eR322, ry322⟩ := hp
      obtain rfl : J = J322 := eJ322.symm
      obtain rfl : R = R322 := eR322.symm
      have sm : Sm C ms_L_law (I, J, R) (I322, J, R) := sm.tr sc322 rfl
      have xm : XM L C I322 := XM.sm (u := (I315, J, R)) (v := (I322, J, R)) xm sc322 rfl rfl
      have xw : XW L C I322 := XW.sm (u := (I315, J, R)) (v := (I322, J, R)) xw sc322 rfl rfl
      have ow : Ow L C R := Ow.sm (u := (I315, J, R)) (v := (I322, J, R)) ow sc322 rfl
      have rel : RC L C x mo (I322, J, R) := RC.sm (u := (I315, J, R)) (v := (I322, J, R)) rel oR sc322 rfl
      refine lv_pop hx hb dL_law_893 rfl ?_
      refine lv_goto (tgt := 1244) hx hb dL_law_894 (by decide) ?_
      exact L_1244 h6 I322 J R _ _ _ hH oI oR xm xw ow rel (lv_sub hl [0, 1, 2, 3] rfl)
    · have r323 : Rg y4 (15) (15) := ⟨by rw [z5]; decide, by rw [z5]; decide⟩
      refine lv_tableIn (tgt := 897) hx hb dL_law_33 (by rw [z5]; decide) (by rw [z5]; decide) (by rw [z5]; rfl) (by decide) ?_
      refine lv_aload_n hx hb dL_law_897 rfl (lv_at hl 1 rfl) ?_
      refine lv_aload_n hx hb dL_law_898 rfl (lv_at hl 0 rfl) ?_
      refine lv_iload_n hx hb dL_law_899 rfl (lv_at hl 3 rfl) ?_
      refine lv_iconst (v := 1) hx hb dL_law_900 (by decide) ?_
      refine lv_iadd hx hb dL_law_901 ?_
      refine lv_topi (fun y324 ey324 => ?_)
      obtain ⟨ty324, ry324⟩ := Rg_addx (a' := (1)) (b' := (3073)) (rfl : x3.toInt = _) (by decide : Int32.toInt 1 = 1) r3 (Rg_c (x := 1) (a := (1)) (b := (1)) (by decide)) (by decide)
      rw [← ey324] at ty324 ry324
      refine va_sld hx hb hX hbl hbA hH.2.2.2.1 (sc_in ty324 hi h6 (by decide)) dL_law_902 ?_
      refine lv_topi (fun y325 ey325 => ?_)
      refine ca_L_84 hx hb hml hown hts hH (c_X10_object oI oR mx kx (by exact uq)) hl.1 mx kx rfl (by decide) (Nat.le_of_ble_eq_true rfl) ⟨by decide, by decide⟩ dL_law_903 (fun y326 I326 J326 R326 H locs hp hH => ?_)
      obtain ⟨⟨oI, -, sc326⟩, eJ326, eR326, ry326, hp326⟩ := hp
      obtain rfl : J = J326 := eJ326.symm
      obtain rfl : R = R326 := eR326.symm
      have sm : Sm C ms_L_law (I, J, R) (I326, J, R) := sm.tr sc326 rfl
      have xm : XM L C I326 := XM.sm (u := (I, J, R)) (v := (I326, J, R)) xm sc326 rfl rfl
      have xw : XW L C I326 := XW.sm (u := (I, J, R)) (v := (I326, J, R)) xw sc326 rfl rfl
      have ow : Ow L C R := Ow.sm (u := (I, J, R)) (v := (I326, J, R)) ow sc326 rfl
      have rel : RC L C x mo (I326, J, R) := RC.sm (u := (I, J, R)) (v := (I326, J, R)) rel oR sc326 rfl
      refine lv_pop hx hb dL_law_906 rfl ?_
      refine lv_aload_n hx hb dL_law_907 rfl (lv_at hl 2 rfl) ?_
      refine lv_aload_n hx hb dL_law_908 rfl (lv_at hl 0 rfl) ?_
      refine lv_iload_n hx hb dL_law_909 rfl (lv_at hl 3 rfl) ?_
      refine lv_iconst (v := 1) hx hb dL_law_910 (by decide) ?_
      refine lv_iadd hx hb dL_law_911 ?_
      refine lv_topi (fun y327 ey327 => ?_)
      obtain rfl : y324 = y327 := ey324.trans ey327.symm
      refine va_sld hx hb hX hbl hbA hH.2.2.2.1 (sc_in ty324 hi h6 (by decide)) dL_law_912 ?_
      refine lv_topi (fun y328 ey328 => ?_)
      obtain rfl : y325 = y328 := ey325.trans ey328.symm
      refine ca_L_87 hx hb hml hown hts hH (c_X11_object oI oR mm km) hl.1 mm km rfl (by decide) (Nat.le_of_ble_eq_true rfl) ⟨by decide, by decide⟩ dL_law_913 (fun y329 I329 J329 R329 H locs hp hH => ?_)
      obtain ⟨⟨oI, -, sc329⟩, eJ329, eR329, ry329, hp329⟩ := hp
      obtain rfl : J = J329 := eJ329.symm
      obtain rfl : R = R329 := eR329.symm
      have sm : Sm C ms_L_law (I, J, R) (I329, J, R) := sm.tr sc329 rfl
      have xm : XM L C I329 := XM.sm (u := (I326, J, R)) (v := (I329, J, R)) xm sc329 rfl rfl
      have xw : XW L C I329 := XW.sm (u := (I326, J, R)) (v := (I329, J, R)) xw sc329 rfl rfl
      have ow : Ow L C R := Ow.sm (u := (I326, J, R)) (v := (I329, J, R)) ow sc329 rfl
      have rel : RC L C x mo (I329, J, R) := RC.sm (u := (I326, J, R)) (v := (I329, J, R)) rel oR sc329 rfl
      refine lv_pop hx hb dL_law_916 rfl ?_
      refine lv_goto (tgt := 1244) hx hb dL_law_917 (by decide) ?_
      exact L_1244 h6 I329 J R _ _ _ hH oI oR xm xw ow rel (lv_sub hl [0, 1, 2, 3] rfl)
    · have r330 : Rg y4 (16) (16) := ⟨by rw [z5]; decide, by rw [z5]; decide⟩
      refine lv_tableIn (tgt := 920) hx hb dL_law_33 (by rw [z5]; decide) (by rw [z5]; decide) (by rw [z5]; rfl) (by decide) ?_
      refine lv_aload_n hx hb dL_law_920 rfl (lv_at hl 1 rfl) ?_
      refine lv_aload_n hx hb dL_law_921 rfl (lv_at hl 0 rfl) ?_
      refine lv_iload_n hx hb dL_law_922 rfl (lv_at hl 3 rfl) ?_
      refine lv_iconst (v := 1) hx hb dL_law_923 (by decide) ?_
      refine lv_iadd hx hb dL_law_924 ?_
      refine lv_topi (fun y331 ey331 => ?_)
      obtain ⟨ty331, ry331⟩ := Rg_addx (a' := (1)) (b' := (3073)) (rfl : x3.toInt = _) (by decide : Int32.toInt 1 = 1) r3 (Rg_c (x := 1) (a := (1)) (b := (1)) (by decide)) (by decide)
      rw [← ey331] at ty331 ry331
      refine va_sld hx hb hX hbl hbA hH.2.2.2.1 (sc_in ty331 hi h6 (by decide)) dL_law_925 ?_
      refine lv_topi (fun y332 ey332 => ?_)
      refine lv_aload_n hx hb dL_law_926 rfl (lv_at hl 0 rfl) ?_
      refine lv_iload_n hx hb dL_law_927 rfl (lv_at hl 3 rfl) ?_
      refine lv_iconst (v := 2) hx hb dL_law_928 (by decide) ?_
      refine lv_iadd hx hb dL_law_929 ?_
      refine lv_topi (fun y333 ey333 => ?_)
      obtain ⟨ty333, ry333⟩ := Rg_addx (a' := (2)) (b' := (3074)) (rfl : x3.toInt = _) (by decide : Int32.toInt 2 = 2) r3 (Rg_c (x := 2) (a := (2)) (b := (2)) (by decide)) (by decide)
      rw [← ey333] at ty333 ry333
      refine va_sld hx hb hX hbl hbA hH.2.2.2.1 (sc_in ty333 hi h6 (by decide)) dL_law_930 ?_
      refine lv_topi (fun y334 ey334 => ?_)
      refine lv_aload_n hx hb dL_law_931 rfl (lv_at hl 0 rfl) ?_
      refine lv_iload_n hx hb dL_law_932 rfl (lv_at hl 3 rfl) ?_
      refine lv_iconst (v := 3) hx hb dL_law_933 (by decide) ?_
      refine lv_iadd hx hb dL_law_934 ?_
      refine lv_topi (fun y335 ey335 => ?_)
      obtain ⟨ty335, ry335⟩ := Rg_addx (a' := (3)) (b' := (3075)) (rfl : x3.toInt = _) (by decide : Int32.toInt 3 = 3) r3 (Rg_c (x := 3) (a := (3)) (b := (3)) (by decide)) (by decide)
      rw [← ey335] at ty335 ry335
      refine va_sld hx hb hX hbl hbA hH.2.2.2.1 (sc_in ty335 hi h6 (by decide)) dL_law_935 ?_
      refine lv_topi (fun y336 ey336 => ?_)
      refine lv_i2l (v := y336.toInt64) hx hb dL_law_936 rfl ?_
      refine lv_bipush (v := 32) hx hb dL_law_937 (by decide) ?_
      refine lv_lshl hx hb dL_law_939 rfl ?_
      refine lv_topl (fun w337 ew337 => ?_)
      refine lv_aload_n hx hb dL_law_940 rfl (lv_at hl 0 rfl) ?_
      refine lv_iload_n hx hb dL_law_941 rfl (lv_at hl 3 rfl) ?_
      refine lv_iconst (v := 4) hx hb dL_law_942 (by decide) ?_
      refine lv_iadd hx hb dL_law_943 ?_
      refine lv_topi (fun y338 ey338 => ?_)
      obtain ⟨ty338, ry338⟩ := Rg_addx (a' := (4)) (b' := (3076)) (rfl : x3.toInt = _) (by decide : Int32.toInt 4 = 4) r3 (Rg_c (x := 4) (a := (4)) (b := (4)) (by decide)) (by decide)
      rw [← ey338] at ty338 ry338
      refine va_sld hx hb hX hbl hbA hH.2.2.2.1 (sc_in ty338 hi h6 (by decide)) dL_law_944 ?_
      refine lv_topi (fun y339 ey339 => ?_)
      refine lv_i2l (v := y339.toInt64) hx hb dL_law_945 rfl ?_
      refine lv_ldc2 (v := 4294967295) hx hb hown (hts _ kkl_L_28) dL_law_946 ?_
      refine lv_land hx hb dL_law_949 ?_
      refine lv_topl (fun w340 ew340 => ?_)
      refine lv_lor hx hb dL_law_950 ?_
      refine lv_topl (fun w341 ew341 => ?_)
      refine ca_L_88 hx hb hml hown hts hH (c_X10_put oI oR mx kx (by exact uq)) hl.1 mx kx rfl (by decide) (Nat.le_of_ble_eq_true rfl) ⟨by decide, by decide⟩ dL_law_951 (fun y342 I342 J342 R342 H locs hp hH => ?_)
      obtain ⟨⟨-, -, sc342⟩, eI342, eR342, ry342, hp342⟩ := hp
      obtain rfl : I = I342 := eI342.symm
      obtain rfl : R = R342 := eR342.symm
      have sm : Sm C ms_L_law (I, J, R) (I, J342, R) := sm.tr sc342 rfl
      have xm : XM L C I := XM.sm (u := (I, J, R)) (v := (I, J342, R)) xm sc342 rfl rfl
      have xw : XW L C I := XW.sm (u := (I, J, R)) (v := (I, J342, R)) xw sc342 rfl rfl
      have ow : Ow L C R := Ow.sm (u := (I, J, R)) (v := (I, J342, R)) ow sc342 rfl
      have rel : RC L C x mo (I, J342, R) := RC.sm (u := (I, J, R)) (v := (I, J342, R)) rel oR sc342 rfl
      refine lv_pop hx hb dL_law_954 rfl ?_
      refine lv_aload_n hx hb dL_law_955 rfl (lv_at hl 2 rfl) ?_
      refine lv_aload_n hx hb dL_law_956 rfl (lv_at hl 0 rfl) ?_
      refine lv_iload_n hx hb dL_law_957 rfl (lv_at hl 3 rfl) ?_
      refine lv_iconst (v := 1) hx hb dL_law_958 (by decide) ?_
      refine lv_iadd hx hb dL_law_959 ?_
      refine lv_topi (fun y343 ey343 => ?_)
      obtain rfl : y331 = y343 := ey331.trans ey343.symm
      refine va_sld hx hb hX hbl hbA hH.2.2.2.1 (sc_in ty331 hi h6 (by decide)) dL_law_960 ?_
      refine lv_topi (fun y344 ey344 => ?_)
      obtain rfl : y332 = y344 := ey332.trans ey344.symm
      refine lv_aload_n hx hb dL_law_961 rfl (lv_at hl 0 rfl) ?_
      refine lv_iload_n hx hb dL_law_962 rfl (lv_at hl 3 rfl) ?_
      refine lv_iconst (v := 2) hx hb dL_law_963 (by decide) ?_
      refine lv_iadd hx hb dL_law_964 ?_
      refine lv_topi (fun y345 ey345 => ?_)
      obtain rfl : y333 = y345 := ey333.trans ey345.symm
      refine va_sld hx hb hX hbl hbA hH.2.2.2.1 (sc_in ty333 hi h6 (by decide)) dL_law_965 ?_
      refine lv_topi (fun y346 ey346 => ?_)
      obtain rfl : y334 = y346 := ey334.trans ey346.symm
      refine lv_aload_n hx hb dL_law_966 rfl (lv_at hl 0 rfl) ?_
      refine lv_iload_n hx hb dL_law_967 rfl (lv_at hl 3 rfl) ?_
      refine lv_iconst (v := 3) hx hb dL_law_968 (by decide) ?_
      refine lv_iadd hx hb dL_law_969 ?_
      refine lv_topi (fun y347 ey347 => ?_)
      obtain rfl : y335 = y347 := ey335.trans ey347.symm
      refine va_sld hx hb hX hbl hbA hH.2.2.2.1 (sc_in ty335 hi h6 (by decide)) dL_law_970 ?_
      refine lv_topi (fun y348 ey348 => ?_)
      obtain rfl : y336 = y348 := ey336.trans ey348.symm
      refine lv_i2l (v := y336.toInt64) hx hb dL_law_971 rfl ?_
      refine lv_bipush (v := 32) hx hb dL_law_972 (by decide) ?_
      refine lv_lshl hx hb dL_law_974 rfl ?_
      refine lv_topl (fun w349 ew349 => ?_)
      obtain rfl : w337 = w349 := ew337.trans ew349.symm
      refine lv_aload_n hx hb dL_law_975 rfl (lv_at hl 0 rfl) ?_
      refine lv_iload_n hx hb dL_law_976 rfl (lv_at hl 3 rfl) ?_
      refine lv_iconst (v := 4) hx hb dL_law_977 (by decide) ?_
      refine lv_iadd hx hb dL_law_978 ?_
      refine lv_topi (fun y350 ey350 => ?_)
      obtain rfl : y338 = y350 := ey338.trans ey350.symm
      refine va_sld hx hb hX hbl hbA hH.2.2.2.1 (sc_in ty338 hi h6 (by decide)) dL_law_979 ?_
      refine lv_topi (fun y351 ey351 => ?_)
      obtain rfl : y339 = y351 := ey339.trans ey351.symm
      refine lv_i2l (v := y339.toInt64) hx hb dL_law_980 rfl ?_
      refine lv_ldc2 (v := 4294967295) hx hb hown (hts _ kkl_L_28) dL_law_981 ?_
      refine lv_land hx hb dL_law_984 ?_
      refine lv_topl (fun w352 ew352 => ?_)
      obtain rfl : w340 = w352 := ew340.trans ew352.symm
      refine lv_lor hx hb dL_law_985 ?_
      refine lv_topl (fun w353 ew353 => ?_)
      obtain rfl : w341 = w353 := ew341.trans ew353.symm
      refine ca_L_91 hx hb hml hown hts hH (c_X11_put oI oR mm km) hl.1 mm km rfl (by decide) (Nat.le_of_ble_eq_true rfl) ⟨by decide, by decide⟩ dL_law_986 (fun y354 I354 J354 R354 H locs hp hH => ?_)
      obtain ⟨⟨oI, -, sc354⟩, eR354, ry354, hp354⟩ := hp
      obtain rfl : R = R354 := eR354.symm
      have sm : Sm C ms_L_law (I, J, R) (I354, J354, R) := sm.tr sc354 rfl
      have xm : XM L C I354 := XM.sm (u := (I, J342, R)) (v := (I354, J354, R)) xm sc354 rfl rfl
      have xw : XW L C I354 := XW.sm (u := (I, J342, R)) (v := (I354, J354, R)) xw sc354 rfl rfl
      have ow : Ow L C R := Ow.sm (u := (I, J342, R)) (v := (I354, J354, R)) ow sc354 rfl
      have rel : RC L C x mo (I354, J354, R) := RC.sm (u := (I, J342, R)) (v := (I354, J354, R)) rel oR sc354 rfl
      refine lv_pop hx hb dL_law_989 rfl ?_
      refine lv_goto (tgt := 1244) hx hb dL_law_990 (by decide) ?_
      exact L_1244 h6 I354 J354 R _ _ _ hH oI oR xm xw ow rel (lv_sub hl [0, 1, 2, 3] rfl)
    · have r355 : Rg y4 (17) (17) := ⟨by rw [z5]; decide, by rw [z5]; decide⟩
      refine lv_tableIn (tgt := 993) hx hb dL_law_33 (by rw [z5]; decide) (by rw [z5]; decide) (by rw [z5]; rfl) (by decide) ?_
      refine lv_aload_n hx hb dL_law_993 rfl (lv_at hl 1 rfl) ?_
      refine lv_aload_n hx hb dL_law_994 rfl (lv_at hl 0 rfl) ?_
      refine lv_iload_n hx hb dL_law_995 rfl (lv_at hl 3 rfl) ?_
      refine lv_iconst (v := 1) hx hb dL_law_996 (by decide) ?_
      refine lv_iadd hx hb dL_law_997 ?_
      refine lv_topi (fun y356 ey356 => ?_)
      obtain ⟨ty356, ry356⟩ := Rg_addx (a' := (1)) (b' := (3073)) (rfl : x3.toInt = _) (by decide : Int32.toInt 1 = 1) r3 (Rg_c (x := 1) (a := (1)) (b := (1)) (by decide)) (by decide)
      rw [← ey356] at ty356 ry356
      refine va_sld hx hb hX hbl hbA hH.2.2.2.1 (sc_in ty356 hi h6 (by decide)) dL_law_998 ?_
      refine lv_topi (fun y357 ey357 => ?_)
      refine lv_aload_n hx hb dL_law_999 rfl (lv_at hl 0 rfl) ?_
      refine lv_iload_n hx hb dL_law_1000 rfl (lv_at hl 3 rfl) ?_
      refine lv_iconst (v := 2) hx hb dL_law_1001 (by decide) ?_
      refine lv_iadd hx hb dL_law_1002 ?_
      refine lv_topi (fun y358 ey358 => ?_)
      obtain ⟨ty358, ry358⟩ := Rg_addx (a' := (2)) (b' := (3074)) (rfl : x3.toInt = _) (by decide : Int32.toInt 2 = 2) r3 (Rg_c (x := 2) (a := (2)) (b := (2)) (by decide)) (by decide)
      rw [← ey358] at ty358 ry358
      refine va_sld hx hb hX hbl hbA hH.2.2.2.1 (sc_in ty358 hi h6 (by decide)) dL_law_1003 ?_
      refine lv_topi (fun y359 ey359 => ?_)
      refine ca_L_92 hx hb hml hown hts hH (c_X10_field oI oR mx kx) hl.1 mx kx rfl (by decide) (Nat.le_of_ble_eq_true rfl) ⟨by decide, by decide⟩ dL_law_1004 (fun w360 I360 J360 R360 H locs hp hH => ?_)
      obtain ⟨eI360, eJ360, eR360⟩ := hp
      obtain rfl : I = I360 := eI360.symm
      obtain rfl : J = J360 := eJ360.symm
      obtain rfl : R = R360 := eR360.symm
      refine lv_pop2_2 hx hb dL_law_1007 rfl ?_
      refine lv_aload_n hx hb dL_law_1008 rfl (lv_at hl 2 rfl) ?_
      refine lv_aload_n hx hb dL_law_1009 rfl (lv_at hl 0 rfl) ?_
      refine lv_iload_n hx hb dL_law_1010 rfl (lv_at hl 3 rfl) ?_
      refine lv_iconst (v := 1) hx hb dL_law_1011 (by decide) ?_
      refine lv_iadd hx hb dL_law_1012 ?_
      refine lv_topi (fun y361 ey361 => ?_)
      obtain rfl : y356 = y361 := ey356.trans ey361.symm
      refine va_sld hx hb hX hbl hbA hH.2.2.2.1 (sc_in ty356 hi h6 (by decide)) dL_law_1013 ?_
      refine lv_topi (fun y362 ey362 => ?_)
      obtain rfl : y357 = y362 := ey357.trans ey362.symm
      refine lv_aload_n hx hb dL_law_1014 rfl (lv_at hl 0 rfl) ?_
      refine lv_iload_n hx hb dL_law_1015 rfl (lv_at hl 3 rfl) ?_
      refine lv_iconst (v := 2) hx hb dL_law_1016 (by decide) ?_
      refine lv_iadd hx hb dL_law_1017 ?_
      refine lv_topi (fun y363 ey363 => ?_)
      obtain rfl : y358 = y363 := ey358.trans ey363.symm
      refine va_sld hx hb hX hbl hbA hH.2.2.2.1 (sc_in ty358 hi h6 (by decide)) dL_law_1018 ?_
      refine lv_topi (fun y364 ey364 => ?_)
      obtain rfl : y359 = y364 := ey359.trans ey364.symm
      refine ca_L_96 hx hb hml hown hts hH (c_X11_field oI oR mm km) hl.1 mm km rfl (by decide) (Nat.le_of_ble_eq_true rfl) ⟨by decide, by decide⟩ dL_law_1019 (fun w365 I365 J365 R365 H locs hp hH => ?_)
      obtain ⟨⟨oI, -, sc365⟩, eJ365, eR365⟩ := hp
      obtain rfl : J = J365 := eJ365.symm
      obtain rfl : R = R365 := eR365.symm
      have sm : Sm C ms_L_law (I, J, R) (I365, J, R) := sm.tr sc365 rfl
      have xm : XM L C I365 := XM.sm (u := (I, J, R)) (v := (I365, J, R)) xm sc365 rfl rfl
      have xw : XW L C I365 := XW.sm (u := (I, J, R)) (v := (I365, J, R)) xw sc365 rfl rfl
      have ow : Ow L C R := Ow.sm (u := (I, J, R)) (v := (I365, J, R)) ow sc365 rfl
      have rel : RC L C x mo (I365, J, R) := RC.sm (u := (I, J, R)) (v := (I365, J, R)) rel oR sc365 rfl
      refine lv_pop2_2 hx hb dL_law_1022 rfl ?_
      refine lv_goto (tgt := 1244) hx hb dL_law_1023 (by decide) ?_
      exact L_1244 h6 I365 J R _ _ _ hH oI oR xm xw ow rel (lv_sub hl [0, 1, 2, 3] rfl)
    · have r366 : Rg y4 (18) (18) := ⟨by rw [z5]; decide, by rw [z5]; decide⟩
      refine lv_tableIn (tgt := 1026) hx hb dL_law_33 (by rw [z5]; decide) (by rw [z5]; decide) (by rw [z5]; rfl) (by decide) ?_
      refine lv_aload_n hx hb dL_law_1026 rfl (lv_at hl 1 rfl) ?_
      refine lv_aload_n hx hb dL_law_1027 rfl (lv_at hl 0 rfl) ?_
      refine lv_iload_n hx hb dL_law_1028 rfl (lv_at hl 3 rfl) ?_
      refine lv_iconst (v := 1) hx hb dL_law_1029 (by decide) ?_
      refine lv_iadd hx hb dL_law_1030 ?_
      refine lv_topi (fun y367 ey367 => ?_)
      obtain ⟨ty367, ry367⟩ := Rg_addx (a' := (1)) (b' := (3073)) (rfl : x3.toInt = _) (by decide : Int32.toInt 1 = 1) r3 (Rg_c (x := 1) (a := (1)) (b := (1)) (by decide)) (by decide)
      rw [← ey367] at ty367 ry367
      refine va_sld hx hb hX hbl hbA hH.2.2.2.1 (sc_in ty367 hi h6 (by decide)) dL_law_1031 ?_
      refine lv_topi (fun y368 ey368 => ?_)
      refine lv_aload_n hx hb dL_law_1032 rfl (lv_at hl 0 rfl) ?_
      refine lv_iload_n hx hb dL_law_1033 rfl (lv_at hl 3 rfl) ?_
      refine lv_iconst (v := 2) hx hb dL_law_1034 (by decide) ?_
      refine lv_iadd hx hb dL_law_1035 ?_
      refine lv_topi (fun y369 ey369 => ?_)
      obtain ⟨ty369, ry369⟩ := Rg_addx (a' := (2)) (b' := (3074)) (rfl : x3.toInt = _) (by decide : Int32.toInt 2 = 2) r3 (Rg_c (x := 2) (a := (2)) (b := (2)) (by decide)) (by decide)
      rw [← ey369] at ty369 ry369
      refine va_sld hx hb hX hbl hbA hH.2.2.2.1 (sc_in ty369 hi h6 (by decide)) dL_law_1036 ?_
      refine lv_topi (fun y370 ey370 => ?_)
      refine lv_i2l (v := y370.toInt64) hx hb dL_law_1037 rfl ?_
      refine lv_bipush (v := 32) hx hb dL_law_1038 (by decide) ?_
      refine lv_lshl hx hb dL_law_1040 rfl ?_
      refine lv_topl (fun w371 ew371 => ?_)
      refine lv_aload_n hx hb dL_law_1041 rfl (lv_at hl 0 rfl) ?_
      refine lv_iload_n hx hb dL_law_1042 rfl (lv_at hl 3 rfl) ?_
      refine lv_iconst (v := 3) hx hb dL_law_1043 (by decide) ?_
      refine lv_iadd hx hb dL_law_1044 ?_
      refine lv_topi (fun y372 ey372 => ?_)
      obtain ⟨ty372, ry372⟩ := Rg_addx (a' := (3)) (b' := (3075)) (rfl : x3.toInt = _) (by decide : Int32.toInt 3 = 3) r3 (Rg_c (x := 3) (a := (3)) (b := (3)) (by decide)) (by decide)
      rw [← ey372] at ty372 ry372
      refine va_sld hx hb hX hbl hbA hH.2.2.2.1 (sc_in ty372 hi h6 (by decide)) dL_law_1045 ?_
      refine lv_topi (fun y373 ey373 => ?_)
      refine lv_i2l (v := y373.toInt64) hx hb dL_law_1046 rfl ?_
      refine lv_ldc2 (v := 4294967295) hx hb hown (hts _ kkl_L_28) dL_law_1047 ?_
      refine lv_land hx hb dL_law_1050 ?_
      refine lv_topl (fun w374 ew374 => ?_)
      refine lv_lor hx hb dL_law_1051 ?_
      refine lv_topl (fun w375 ew375 => ?_)
      refine ca_L_97 hx hb hml hown hts hH (c_X10_hand oI oR mx kx) hl.1 mx kx rfl (by decide) (Nat.le_of_ble_eq_true rfl) ⟨by decide, by decide⟩ dL_law_1052 (fun y376 I376 J376 R376 H locs hp hH => ?_)
      obtain ⟨⟨-, -, sc376⟩, eI376, eR376, ry376, hp376⟩ := hp
      obtain rfl : I = I376 := eI376.symm
      obtain rfl : R = R376 := eR376.symm
      have sm : Sm C ms_L_law (I, J, R) (I, J376, R) := sm.tr sc376 rfl
      have xm : XM L C I := XM.sm (u := (I, J, R)) (v := (I, J376, R)) xm sc376 rfl rfl
      have xw : XW L C I := XW.sm (u := (I, J, R)) (v := (I, J376, R)) xw sc376 rfl rfl
      have ow : Ow L C R := Ow.sm (u := (I, J, R)) (v := (I, J376, R)) ow sc376 rfl
      have rel : RC L C x mo (I, J376, R) := RC.sm (u := (I, J, R)) (v := (I, J376, R)) rel oR sc376 rfl
      refine lv_pop hx hb dL_law_1055 rfl ?_
      refine lv_aload_n hx hb dL_law_1056 rfl (lv_at hl 2 rfl) ?_
      refine lv_aload_n hx hb dL_law_1057 rfl (lv_at hl 0 rfl) ?_
      refine lv_iload_n hx hb dL_law_1058 rfl (lv_at hl 3 rfl) ?_
      refine lv_iconst (v := 1) hx hb dL_law_1059 (by decide) ?_
      refine lv_iadd hx hb dL_law_1060 ?_
      refine lv_topi (fun y377 ey377 => ?_)
      obtain rfl : y367 = y377 := ey367.trans ey377.symm
      refine va_sld hx hb hX hbl hbA hH.2.2.2.1 (sc_in ty367 hi h6 (by decide)) dL_law_1061 ?_
      refine lv_topi (fun y378 ey378 => ?_)
      obtain rfl : y368 = y378 := ey368.trans ey378.symm
      refine lv_aload_n hx hb dL_law_1062 rfl (lv_at hl 0 rfl) ?_
      refine lv_iload_n hx hb dL_law_1063 rfl (lv_at hl 3 rfl) ?_
      refine lv_iconst (v := 2) hx hb dL_law_1064 (by decide) ?_
      refine lv_iadd hx hb dL_law_1065 ?_
      refine lv_topi (fun y379 ey379 => ?_)
      obtain rfl : y369 = y379 := ey369.trans ey379.symm
      refine va_sld hx hb hX hbl hbA hH.2.2.2.1 (sc_in ty369 hi h6 (by decide)) dL_law_1066 ?_
      refine lv_topi (fun y380 ey380 => ?_)
      obtain rfl : y370 = y380 := ey370.trans ey380.symm
      refine lv_i2l (v := y370.toInt64) hx hb dL_law_1067 rfl ?_
      refine lv_bipush (v := 32) hx hb dL_law_1068 (by decide) ?_
      refine lv_lshl hx hb dL_law_1070 rfl ?_
      refine lv_topl (fun w381 ew381 => ?_)
      obtain rfl : w371 = w381 := ew371.trans ew381.symm
      refine lv_aload_n hx hb dL_law_1071 rfl (lv_at hl 0 rfl) ?_
      refine lv_iload_n hx hb dL_law_1072 rfl (lv_at hl 3 rfl) ?_
      refine lv_iconst (v := 3) hx hb dL_law_1073 (by decide) ?_
      refine lv_iadd hx hb dL_law_1074 ?_
      refine lv_topi (fun y382 ey382 => ?_)
      obtain rfl : y372 = y382 := ey372.trans ey382.symm
      refine va_sld hx hb hX hbl hbA hH.2.2.2.1 (sc_in ty372 hi h6 (by decide)) dL_law_1075 ?_
      refine lv_topi (fun y383 ey383 => ?_)
      obtain rfl : y373 = y383 := ey373.trans ey383.symm
      refine lv_i2l (v := y373.toInt64) hx hb dL_law_1076 rfl ?_
      refine lv_ldc2 (v := 4294967295) hx hb hown (hts _ kkl_L_28) dL_law_1077 ?_
      refine lv_land hx hb dL_law_1080 ?_
      refine lv_topl (fun w384 ew384 => ?_)
      obtain rfl : w374 = w384 := ew374.trans ew384.symm
      refine lv_lor hx hb dL_law_1081 ?_
      refine lv_topl (fun w385 ew385 => ?_)
      obtain rfl : w375 = w385 := ew375.trans ew385.symm
      refine ca_L_101 hx hb hml hown hts hH (c_X11_hand oI oR mm km) hl.1 mm km rfl (by decide) (Nat.le_of_ble_eq_true rfl) ⟨by decide, by decide⟩ dL_law_1082 (fun y386 I386 J386 R386 H locs hp hH => ?_)
      obtain ⟨⟨oI, -, sc386⟩, eR386, ry386, hp386⟩ := hp
      obtain rfl : R = R386 := eR386.symm
      have sm : Sm C ms_L_law (I, J, R) (I386, J386, R) := sm.tr sc386 rfl
      have xm : XM L C I386 := XM.sm (u := (I, J376, R)) (v := (I386, J386, R)) xm sc386 rfl rfl
      have xw : XW L C I386 := XW.sm (u := (I, J376, R)) (v := (I386, J386, R)) xw sc386 rfl rfl
      have ow : Ow L C R := Ow.sm (u := (I, J376, R)) (v := (I386, J386, R)) ow sc386 rfl
      have rel : RC L C x mo (I386, J386, R) := RC.sm (u := (I, J376, R)) (v := (I386, J386, R)) rel oR sc386 rfl
      refine lv_pop hx hb dL_law_1085 rfl ?_
      refine lv_goto (tgt := 1244) hx hb dL_law_1086 (by decide) ?_
      exact L_1244 h6 I386 J386 R _ _ _ hH oI oR xm xw ow rel (lv_sub hl [0, 1, 2, 3] rfl)
    · have r387 : Rg y4 (19) (19) := ⟨by rw [z5]; decide, by rw [z5]; decide⟩
      refine lv_tableIn (tgt := 1089) hx hb dL_law_33 (by rw [z5]; decide) (by rw [z5]; decide) (by rw [z5]; rfl) (by decide) ?_
      refine lv_aload_n hx hb dL_law_1089 rfl (lv_at hl 1 rfl) ?_
      refine lv_aload_n hx hb dL_law_1090 rfl (lv_at hl 0 rfl) ?_
      refine lv_iload_n hx hb dL_law_1091 rfl (lv_at hl 3 rfl) ?_
      refine lv_iconst (v := 1) hx hb dL_law_1092 (by decide) ?_
      refine lv_iadd hx hb dL_law_1093 ?_
      refine lv_topi (fun y388 ey388 => ?_)
      obtain ⟨ty388, ry388⟩ := Rg_addx (a' := (1)) (b' := (3073)) (rfl : x3.toInt = _) (by decide : Int32.toInt 1 = 1) r3 (Rg_c (x := 1) (a := (1)) (b := (1)) (by decide)) (by decide)
      rw [← ey388] at ty388 ry388
      refine va_sld hx hb hX hbl hbA hH.2.2.2.1 (sc_in ty388 hi h6 (by decide)) dL_law_1094 ?_
      refine lv_topi (fun y389 ey389 => ?_)
      refine lv_aload_n hx hb dL_law_1095 rfl (lv_at hl 0 rfl) ?_
      refine lv_iload_n hx hb dL_law_1096 rfl (lv_at hl 3 rfl) ?_
      refine lv_iconst (v := 2) hx hb dL_law_1097 (by decide) ?_
      refine lv_iadd hx hb dL_law_1098 ?_
      refine lv_topi (fun y390 ey390 => ?_)
      obtain ⟨ty390, ry390⟩ := Rg_addx (a' := (2)) (b' := (3074)) (rfl : x3.toInt = _) (by decide : Int32.toInt 2 = 2) r3 (Rg_c (x := 2) (a := (2)) (b := (2)) (by decide)) (by decide)
      rw [← ey390] at ty390 ry390
      refine va_sld hx hb hX hbl hbA hH.2.2.2.1 (sc_in ty390 hi h6 (by decide)) dL_law_1099 ?_
      refine lv_topi (fun y391 ey391 => ?_)
      refine lv_aload_n hx hb dL_law_1100 rfl (lv_at hl 0 rfl) ?_
      refine lv_iload_n hx hb dL_law_1101 rfl (lv_at hl 3 rfl) ?_
      refine lv_iconst (v := 3) hx hb dL_law_1102 (by decide) ?_
      refine lv_iadd hx hb dL_law_1103 ?_
      refine lv_topi (fun y392 ey392 => ?_)
      obtain ⟨ty392, ry392⟩ := Rg_addx (a' := (3)) (b' := (3075)) (rfl : x3.toInt = _) (by decide : Int32.toInt 3 = 3) r3 (Rg_c (x := 3) (a := (3)) (b := (3)) (by decide)) (by decide)
      rw [← ey392] at ty392 ry392
      refine va_sld hx hb hX hbl hbA hH.2.2.2.1 (sc_in ty392 hi h6 (by decide)) dL_law_1104 ?_
      refine lv_topi (fun y393 ey393 => ?_)
      refine ca_L_102 hx hb hml hown hts hH (c_X10_call oI oR mx kx (by exact xm)) hl.1 mx kx rfl (by decide) (Nat.le_of_ble_eq_true rfl) ⟨by decide, by decide⟩ dL_law_1105 (fun y394 I394 J394 R394 H locs hp hH => ?_)
      obtain ⟨⟨oI, oR, sc394⟩, ry394⟩ := hp
      have sm : Sm C ms_L_law (I, J, R) (I394, J394, R394) := sm.tr sc394 rfl
      have xm : XM L C I394 := XM.sm (u := (I, J, R)) (v := (I394, J394, R394)) xm sc394 rfl rfl
      have xw : XW L C I394 := XW.sm (u := (I, J, R)) (v := (I394, J394, R394)) xw sc394 rfl rfl
      have ow : Ow L C R394 := Ow.sm (u := (I, J, R)) (v := (I394, J394, R394)) ow sc394 rfl
      have rel : RC L C x mo (I394, J394, R394) := RC.sm (u := (I, J, R)) (v := (I394, J394, R394)) rel oR sc394 rfl
      refine lv_pop hx hb dL_law_1108 rfl ?_
      refine lv_aload_n hx hb dL_law_1109 rfl (lv_at hl 2 rfl) ?_
      refine lv_aload_n hx hb dL_law_1110 rfl (lv_at hl 0 rfl) ?_
      refine lv_iload_n hx hb dL_law_1111 rfl (lv_at hl 3 rfl) ?_
      refine lv_iconst (v := 1) hx hb dL_law_1112 (by decide) ?_
      refine lv_iadd hx hb dL_law_1113 ?_
      refine lv_topi (fun y395 ey395 => ?_)
      obtain rfl : y388 = y395 := ey388.trans ey395.symm
      refine va_sld hx hb hX hbl hbA hH.2.2.2.1 (sc_in ty388 hi h6 (by decide)) dL_law_1114 ?_
      refine lv_topi (fun y396 ey396 => ?_)
      obtain rfl : y389 = y396 := ey389.trans ey396.symm
      refine lv_aload_n hx hb dL_law_1115 rfl (lv_at hl 0 rfl) ?_
      refine lv_iload_n hx hb dL_law_1116 rfl (lv_at hl 3 rfl) ?_
      refine lv_iconst (v := 2) hx hb dL_law_1117 (by decide) ?_
      refine lv_iadd hx hb dL_law_1118 ?_
      refine lv_topi (fun y397 ey397 => ?_)
      obtain rfl : y390 = y397 := ey390.trans ey397.symm
      refine va_sld hx hb hX hbl hbA hH.2.2.2.1 (sc_in ty390 hi h6 (by decide)) dL_law_1119 ?_
      refine lv_topi (fun y398 ey398 => ?_)
      obtain rfl : y391 = y398 := ey391.trans ey398.symm
      refine lv_aload_n hx hb dL_law_1120 rfl (lv_at hl 0 rfl) ?_
      refine lv_iload_n hx hb dL_law_1121 rfl (lv_at hl 3 rfl) ?_
      refine lv_iconst (v := 3) hx hb dL_law_1122 (by decide) ?_
      refine lv_iadd hx hb dL_law_1123 ?_
      refine lv_topi (fun y399 ey399 => ?_)
      obtain rfl : y392 = y399 := ey392.trans ey399.symm
      refine va_sld hx hb hX hbl hbA hH.2.2.2.1 (sc_in ty392 hi h6 (by decide)) dL_law_1124 ?_
      refine lv_topi (fun y400 ey400 => ?_)
      obtain rfl : y393 = y400 := ey393.trans ey400.symm
      refine ca_L_105 hx hb hml hown hts hH (c_X11_call oI oR mm km (by exact xw)) hl.1 mm km rfl (by decide) (Nat.le_of_ble_eq_true rfl) ⟨by decide, by decide⟩ dL_law_1125 (fun y401 I401 J401 R401 H locs hp hH => ?_)
      obtain ⟨⟨oI, -, sc401⟩, eR401⟩ := hp
      obtain rfl : R394 = R401 := eR401.symm
      have sm : Sm C ms_L_law (I, J, R) (I401, J401, R394) := sm.tr sc401 rfl
      have xm : XM L C I401 := XM.sm (u := (I394, J394, R394)) (v := (I401, J401, R394)) xm sc401 rfl rfl
      have xw : XW L C I401 := XW.sm (u := (I394, J394, R394)) (v := (I401, J401, R394)) xw sc401 rfl rfl
      have ow : Ow L C R394 := Ow.sm (u := (I394, J394, R394)) (v := (I401, J401, R394)) ow sc401 rfl
      have rel : RC L C x mo (I401, J401, R394) := RC.sm (u := (I394, J394, R394)) (v := (I401, J401, R394)) rel oR sc401 rfl
      refine lv_pop hx hb dL_law_1128 rfl ?_
      refine lv_goto (tgt := 1244) hx hb dL_law_1129 (by decide) ?_
      exact L_1244 h6 I401 J401 R394 _ _ _ hH oI oR xm xw ow rel (lv_sub hl [0, 1, 2, 3] rfl)
    · have r402 : Rg y4 (20) (20) := ⟨by rw [z5]; decide, by rw [z5]; decide⟩
      refine lv_tableIn (tgt := 1132) hx hb dL_law_33 (by rw [z5]; decide) (by rw [z5]; decide) (by rw [z5]; rfl) (by decide) ?_
      refine lv_aload_n hx hb dL_law_1132 rfl (lv_at hl 1 rfl) ?_
      refine lv_aload_n hx hb dL_law_1133 rfl (lv_at hl 0 rfl) ?_
      refine lv_iload_n hx hb dL_law_1134 rfl (lv_at hl 3 rfl) ?_
      refine lv_iconst (v := 1) hx hb dL_law_1135 (by decide) ?_
      refine lv_iadd hx hb dL_law_1136 ?_
      refine lv_topi (fun y403 ey403 => ?_)
      obtain ⟨ty403, ry403⟩ := Rg_addx (a' := (1)) (b' := (3073)) (rfl : x3.toInt = _) (by decide : Int32.toInt 1 = 1) r3 (Rg_c (x := 1) (a := (1)) (b := (1)) (by decide)) (by decide)
      rw [← ey403] at ty403 ry403
      refine va_sld hx hb hX hbl hbA hH.2.2.2.1 (sc_in ty403 hi h6 (by decide)) dL_law_1137 ?_
      refine lv_topi (fun y404 ey404 => ?_)
      refine lv_aload_n hx hb dL_law_1138 rfl (lv_at hl 0 rfl) ?_
      refine lv_iload_n hx hb dL_law_1139 rfl (lv_at hl 3 rfl) ?_
      refine lv_iconst (v := 2) hx hb dL_law_1140 (by decide) ?_
      refine lv_iadd hx hb dL_law_1141 ?_
      refine lv_topi (fun y405 ey405 => ?_)
      obtain ⟨ty405, ry405⟩ := Rg_addx (a' := (2)) (b' := (3074)) (rfl : x3.toInt = _) (by decide : Int32.toInt 2 = 2) r3 (Rg_c (x := 2) (a := (2)) (b := (2)) (by decide)) (by decide)
      rw [← ey405] at ty405 ry405
      refine va_sld hx hb hX hbl hbA hH.2.2.2.1 (sc_in ty405 hi h6 (by decide)) dL_law_1142 ?_
      refine lv_topi (fun y406 ey406 => ?_)
      refine lv_aload_n hx hb dL_law_1143 rfl (lv_at hl 0 rfl) ?_
      refine lv_iload_n hx hb dL_law_1144 rfl (lv_at hl 3 rfl) ?_
      refine lv_iconst (v := 3) hx hb dL_law_1145 (by decide) ?_
      refine lv_iadd hx hb dL_law_1146 ?_
      refine lv_topi (fun y407 ey407 => ?_)
      obtain ⟨ty407, ry407⟩ := Rg_addx (a' := (3)) (b' := (3075)) (rfl : x3.toInt = _) (by decide : Int32.toInt 3 = 3) r3 (Rg_c (x := 3) (a := (3)) (b := (3)) (by decide)) (by decide)
      rw [← ey407] at ty407 ry407
      refine va_sld hx hb hX hbl hbA hH.2.2.2.1 (sc_in ty407 hi h6 (by decide)) dL_law_1147 ?_
      refine lv_topi (fun y408 ey408 => ?_)
      refine lv_aload_n hx hb dL_law_1148 rfl (lv_at hl 0 rfl) ?_
      refine lv_iload_n hx hb dL_law_1149 rfl (lv_at hl 3 rfl) ?_
      refine lv_iconst (v := 4) hx hb dL_law_1150 (by decide) ?_
      refine lv_iadd hx hb dL_law_1151 ?_
      refine lv_topi (fun y409 ey409 => ?_)
      obtain ⟨ty409, ry409⟩ := Rg_addx (a' := (4)) (b' := (3076)) (rfl : x3.toInt = _) (by decide : Int32.toInt 4 = 4) r3 (Rg_c (x := 4) (a := (4)) (b := (4)) (by decide)) (by decide)
      rw [← ey409] at ty409 ry409
      refine va_sld hx hb hX hbl hbA hH.2.2.2.1 (sc_in ty409 hi h6 (by decide)) dL_law_1152 ?_
      refine lv_topi (fun y410 ey410 => ?_)
      refine ca_L_106 hx hb hml hown hts hH (c_X10_through oI oR mx kx (by exact xm)) hl.1 mx kx rfl (by decide) (Nat.le_of_ble_eq_true rfl) ⟨by decide, by decide⟩ dL_law_1153 (fun y411 I411 J411 R411 H locs hp hH => ?_)
      obtain ⟨⟨oI, oR, sc411⟩, ry411⟩ := hp
      have sm : Sm C ms_L_law (I, J, R) (I411, J411, R411) := sm.tr sc411 rfl
      have xm : XM L C I411 := XM.sm (u := (I, J, R)) (v := (I411, J411, R411)) xm sc411 rfl rfl
      have xw : XW L C I411 := XW.sm (u := (I, J, R)) (v := (I411, J411, R411)) xw sc411 rfl rfl
      have ow : Ow L C R411 := Ow.sm (u := (I, J, R)) (v := (I411, J411, R411)) ow sc411 rfl
      have rel : RC L C x mo (I411, J411, R411) := RC.sm (u := (I, J, R)) (v := (I411, J411, R411)) rel oR sc411 rfl
      refine lv_pop hx hb dL_law_1156 rfl ?_
      refine lv_aload_n hx hb dL_law_1157 rfl (lv_at hl 2 rfl) ?_
      refine lv_aload_n hx hb dL_law_1158 rfl (lv_at hl 0 rfl) ?_
      refine lv_iload_n hx hb dL_law_1159 rfl (lv_at hl 3 rfl) ?_
      refine lv_iconst (v := 1) hx hb dL_law_1160 (by decide) ?_
      refine lv_iadd hx hb dL_law_1161 ?_
      refine lv_topi (fun y412 ey412 => ?_)
      obtain rfl : y403 = y412 := ey403.trans ey412.symm
      refine va_sld hx hb hX hbl hbA hH.2.2.2.1 (sc_in ty403 hi h6 (by decide)) dL_law_1162 ?_
      refine lv_topi (fun y413 ey413 => ?_)
      obtain rfl : y404 = y413 := ey404.trans ey413.symm
      refine lv_aload_n hx hb dL_law_1163 rfl (lv_at hl 0 rfl) ?_
      refine lv_iload_n hx hb dL_law_1164 rfl (lv_at hl 3 rfl) ?_
      refine lv_iconst (v := 2) hx hb dL_law_1165 (by decide) ?_
      refine lv_iadd hx hb dL_law_1166 ?_
      refine lv_topi (fun y414 ey414 => ?_)
      obtain rfl : y405 = y414 := ey405.trans ey414.symm
      refine va_sld hx hb hX hbl hbA hH.2.2.2.1 (sc_in ty405 hi h6 (by decide)) dL_law_1167 ?_
      refine lv_topi (fun y415 ey415 => ?_)
      obtain rfl : y406 = y415 := ey406.trans ey415.symm
      refine lv_aload_n hx hb dL_law_1168 rfl (lv_at hl 0 rfl) ?_
      refine lv_iload_n hx hb dL_law_1169 rfl (lv_at hl 3 rfl) ?_
      refine lv_iconst (v := 3) hx hb dL_law_1170 (by decide) ?_
      refine lv_iadd hx hb dL_law_1171 ?_
      refine lv_topi (fun y416 ey416 => ?_)
      obtain rfl : y407 = y416 := ey407.trans ey416.symm
      refine va_sld hx hb hX hbl hbA hH.2.2.2.1 (sc_in ty407 hi h6 (by decide)) dL_law_1172 ?_
      refine lv_topi (fun y417 ey417 => ?_)
      obtain rfl : y408 = y417 := ey408.trans ey417.symm
      refine lv_aload_n hx hb dL_law_1173 rfl (lv_at hl 0 rfl) ?_
      refine lv_iload_n hx hb dL_law_1174 rfl (lv_at hl 3 rfl) ?_
      refine lv_iconst (v := 4) hx hb dL_law_1175 (by decide) ?_
      refine lv_iadd hx hb dL_law_1176 ?_
      refine lv_topi (fun y418 ey418 => ?_)
      obtain rfl : y409 = y418 := ey409.trans ey418.symm
      refine va_sld hx hb hX hbl hbA hH.2.2.2.1 (sc_in ty409 hi h6 (by decide)) dL_law_1177 ?_
      refine lv_topi (fun y419 ey419 => ?_)
      obtain rfl : y410 = y419 := ey410.trans ey419.symm
      refine ca_L_109 hx hb hml hown hts hH (c_X11_through oI oR mm km (by exact xw)) hl.1 mm km rfl (by decide) (Nat.le_of_ble_eq_true rfl) ⟨by decide, by decide⟩ dL_law_1178 (fun y420 I420 J420 R420 H locs hp hH => ?_)
      obtain ⟨⟨oI, -, sc420⟩, eR420⟩ := hp
      obtain rfl : R411 = R420 := eR420.symm
      have sm : Sm C ms_L_law (I, J, R) (I420, J420, R411) := sm.tr sc420 rfl
      have xm : XM L C I420 := XM.sm (u := (I411, J411, R411)) (v := (I420, J420, R411)) xm sc420 rfl rfl
      have xw : XW L C I420 := XW.sm (u := (I411, J411, R411)) (v := (I420, J420, R411)) xw sc420 rfl rfl
      have ow : Ow L C R411 := Ow.sm (u := (I411, J411, R411)) (v := (I420, J420, R411)) ow sc420 rfl
      have rel : RC L C x mo (I420, J420, R411) := RC.sm (u := (I411, J411, R411)) (v := (I420, J420, R411)) rel oR sc420 rfl
      refine lv_pop hx hb dL_law_1181 rfl ?_
      refine lv_goto (tgt := 1244) hx hb dL_law_1182 (by decide) ?_
      exact L_1244 h6 I420 J420 R411 _ _ _ hH oI oR xm xw ow rel (lv_sub hl [0, 1, 2, 3] rfl)
    · have r421 : Rg y4 (21) (21) := ⟨by rw [z5]; decide, by rw [z5]; decide⟩
      refine lv_tableIn (tgt := 1185) hx hb dL_law_33 (by rw [z5]; decide) (by rw [z5]; decide) (by rw [z5]; rfl) (by decide) ?_
      refine lv_aload_n hx hb dL_law_1185 rfl (lv_at hl 1 rfl) ?_
      refine ca_L_110 hx hb hml hown hts hH (c_X10_value oI oR mx kx) hl.1 mx kx rfl (by decide) (Nat.le_of_ble_eq_true rfl) ⟨by decide, by decide⟩ dL_law_1186 (fun w422 I422 J422 R422 H locs hp hH => ?_)
      obtain ⟨eI422, eJ422, eR422⟩ := hp
      obtain rfl : I = I422 := eI422.symm
      obtain rfl : J = J422 := eJ422.symm
      obtain rfl : R = R422 := eR422.symm
      refine lv_pop2_2 hx hb dL_law_1189 rfl ?_
      refine lv_aload_n hx hb dL_law_1190 rfl (lv_at hl 2 rfl) ?_
      refine ca_L_114 hx hb hml hown hts hH (c_X11_value oI oR mm km) hl.1 mm km rfl (by decide) (Nat.le_of_ble_eq_true rfl) ⟨by decide, by decide⟩ dL_law_1191 (fun w423 I423 J423 R423 H locs hp hH => ?_)
      obtain ⟨⟨oI, -, sc423⟩, eJ423, eR423⟩ := hp
      obtain rfl : J = J423 := eJ423.symm
      obtain rfl : R = R423 := eR423.symm
      have sm : Sm C ms_L_law (I, J, R) (I423, J, R) := sm.tr sc423 rfl
      have xm : XM L C I423 := XM.sm (u := (I, J, R)) (v := (I423, J, R)) xm sc423 rfl rfl
      have xw : XW L C I423 := XW.sm (u := (I, J, R)) (v := (I423, J, R)) xw sc423 rfl rfl
      have ow : Ow L C R := Ow.sm (u := (I, J, R)) (v := (I423, J, R)) ow sc423 rfl
      have rel : RC L C x mo (I423, J, R) := RC.sm (u := (I, J, R)) (v := (I423, J, R)) rel oR sc423 rfl
      refine lv_pop2_2 hx hb dL_law_1194 rfl ?_
      refine lv_goto (tgt := 1244) hx hb dL_law_1195 (by decide) ?_
      exact L_1244 h6 I423 J R _ _ _ hH oI oR xm xw ow rel (lv_sub hl [0, 1, 2, 3] rfl)
    · have r424 : Rg y4 (22) (22) := ⟨by rw [z5]; decide, by rw [z5]; decide⟩
      refine lv_tableIn (tgt := 1198) hx hb dL_law_33 (by rw [z5]; decide) (by rw [z5]; decide) (by rw [z5]; rfl) (by decide) ?_
      refine lv_aload_n hx hb dL_law_1198 rfl (lv_at hl 1 rfl) ?_
      refine lv_aload_n hx hb dL_law_1199 rfl (lv_at hl 0 rfl) ?_
      refine lv_iload_n hx hb dL_law_1200 rfl (lv_at hl 3 rfl) ?_
      refine lv_iconst (v := 1) hx hb dL_law_1201 (by decide) ?_
      refine lv_iadd hx hb dL_law_1202 ?_
      refine lv_topi (fun y425 ey425 => ?_)
      obtain ⟨ty425, ry425⟩ := Rg_addx (a' := (1)) (b' := (3073)) (rfl : x3.toInt = _) (by decide : Int32.toInt 1 = 1) r3 (Rg_c (x := 1) (a := (1)) (b := (1)) (by decide)) (by decide)
      rw [← ey425] at ty425 ry425
      refine va_sld hx hb hX hbl hbA hH.2.2.2.1 (sc_in ty425 hi h6 (by decide)) dL_law_1203 ?_
      refine lv_topi (fun y426 ey426 => ?_)
      refine ca_L_115 hx hb hml hown hts hH (c_X10_failed oI oR mx kx) hl.1 mx kx rfl (by decide) (Nat.le_of_ble_eq_true rfl) ⟨by decide, by decide⟩ dL_law_1204 (fun y427 I427 J427 R427 H locs hp hH => ?_)
      obtain ⟨eI427, eJ427, eR427⟩ := hp
      obtain rfl : I = I427 := eI427.symm
      obtain rfl : J = J427 := eJ427.symm
      obtain rfl : R = R427 := eR427.symm
      refine lv_pop hx hb dL_law_1207 rfl ?_
      refine lv_aload_n hx hb dL_law_1208 rfl (lv_at hl 2 rfl) ?_
      refine lv_aload_n hx hb dL_law_1209 rfl (lv_at hl 0 rfl) ?_
      refine lv_iload_n hx hb dL_law_1210 rfl (lv_at hl 3 rfl) ?_
      refine lv_iconst (v := 1) hx hb dL_law_1211 (by decide) ?_
      refine lv_iadd hx hb dL_law_1212 ?_
      refine lv_topi (fun y428 ey428 => ?_)
      obtain rfl : y425 = y428 := ey425.trans ey428.symm
      refine va_sld hx hb hX hbl hbA hH.2.2.2.1 (sc_in ty425 hi h6 (by decide)) dL_law_1213 ?_
      refine lv_topi (fun y429 ey429 => ?_)
      obtain rfl : y426 = y429 := ey426.trans ey429.symm
      refine ca_L_118 hx hb hml hown hts hH (c_X11_failed oI oR mm km) hl.1 mm km rfl (by decide) (Nat.le_of_ble_eq_true rfl) ⟨by decide, by decide⟩ dL_law_1214 (fun y430 I430 J430 R430 H locs hp hH => ?_)
      obtain ⟨⟨oI, -, sc430⟩, eJ430, eR430⟩ := hp
      obtain rfl : J = J430 := eJ430.symm
      obtain rfl : R = R430 := eR430.symm
      have sm : Sm C ms_L_law (I, J, R) (I430, J, R) := sm.tr sc430 rfl
      have xm : XM L C I430 := XM.sm (u := (I, J, R)) (v := (I430, J, R)) xm sc430 rfl rfl
      have xw : XW L C I430 := XW.sm (u := (I, J, R)) (v := (I430, J, R)) xw sc430 rfl rfl
      have ow : Ow L C R := Ow.sm (u := (I, J, R)) (v := (I430, J, R)) ow sc430 rfl
      have rel : RC L C x mo (I430, J, R) := RC.sm (u := (I, J, R)) (v := (I430, J, R)) rel oR sc430 rfl
      refine lv_pop hx hb dL_law_1217 rfl ?_
      refine lv_goto (tgt := 1244) hx hb dL_law_1218 (by decide) ?_
      exact L_1244 h6 I430 J R _ _ _ hH oI oR xm xw ow rel (lv_sub hl [0, 1, 2, 3] rfl)
    · have r431 : Rg y4 (23) (23) := ⟨by rw [z5]; decide, by rw [z5]; decide⟩
      refine lv_tableIn (tgt := 1221) hx hb dL_law_33 (by rw [z5]; decide) (by rw [z5]; decide) (by rw [z5]; rfl) (by decide) ?_
      refine lv_aload_n hx hb dL_law_1221 rfl (lv_at hl 1 rfl) ?_
      refine lv_aload_n hx hb dL_law_1222 rfl (lv_at hl 0 rfl) ?_
      refine lv_iload_n hx hb dL_law_1223 rfl (lv_at hl 3 rfl) ?_
      refine lv_iconst (v := 1) hx hb dL_law_1224 (by decide) ?_
      refine lv_iadd hx hb dL_law_1225 ?_
      refine lv_topi (fun y432 ey432 => ?_)
      obtain ⟨ty432, ry432⟩ := Rg_addx (a' := (1)) (b' := (3073)) (rfl : x3.toInt = _) (by decide : Int32.toInt 1 = 1) r3 (Rg_c (x := 1) (a := (1)) (b := (1)) (by decide)) (by decide)
      rw [← ey432] at ty432 ry432
      refine va_sld hx hb hX hbl hbA hH.2.2.2.1 (sc_in ty432 hi h6 (by decide)) dL_law_1226 ?_
      refine lv_topi (fun y433 ey433 => ?_)
      refine ca_L_119 hx hb hml hown hts hH (c_X10_count oI oR mx kx) hl.1 mx kx rfl (by decide) (Nat.le_of_ble_eq_true rfl) ⟨by decide, by decide⟩ dL_law_1227 (fun y434 I434 J434 R434 H locs hp hH => ?_)
      obtain ⟨eI434, eJ434, eR434⟩ := hp
      obtain rfl : I = I434 := eI434.symm
      obtain rfl : J = J434 := eJ434.symm
      obtain rfl : R = R434 := eR434.symm
      refine lv_pop hx hb dL_law_1230 rfl ?_
      refine lv_aload_n hx hb dL_law_1231 rfl (lv_at hl 2 rfl) ?_
      refine lv_aload_n hx hb dL_law_1232 rfl (lv_at hl 0 rfl) ?_
      refine lv_iload_n hx hb dL_law_1233 rfl (lv_at hl 3 rfl) ?_
      refine lv_iconst (v := 1) hx hb dL_law_1234 (by decide) ?_
      refine lv_iadd hx hb dL_law_1235 ?_
      refine lv_topi (fun y435 ey435 => ?_)
      obtain rfl : y432 = y435 := ey432.trans ey435.symm
      refine va_sld hx hb hX hbl hbA hH.2.2.2.1 (sc_in ty432 hi h6 (by decide)) dL_law_1236 ?_
      refine lv_topi (fun y436 ey436 => ?_)
      obtain rfl : y433 = y436 := ey433.trans ey436.symm
      refine ca_L_122 hx hb hml hown hts hH (c_X11_count oI oR mm km) hl.1 mm km rfl (by decide) (Nat.le_of_ble_eq_true rfl) ⟨by decide, by decide⟩ dL_law_1237 (fun y437 I437 J437 R437 H locs hp hH => ?_)
      obtain ⟨⟨oI, -, sc437⟩, eJ437, eR437⟩ := hp
      obtain rfl : J = J437 := eJ437.symm
      obtain rfl : R = R437 := eR437.symm
      have sm : Sm C ms_L_law (I, J, R) (I437, J, R) := sm.tr sc437 rfl
      have xm : XM L C I437 := XM.sm (u := (I, J, R)) (v := (I437, J, R)) xm sc437 rfl rfl
      have xw : XW L C I437 := XW.sm (u := (I, J, R)) (v := (I437, J, R)) xw sc437 rfl rfl
      have ow : Ow L C R := Ow.sm (u := (I, J, R)) (v := (I437, J, R)) ow sc437 rfl
      have rel : RC L C x mo (I437, J, R) := RC.sm (u := (I, J, R)) (v := (I437, J, R)) rel oR sc437 rfl
      refine lv_pop hx hb dL_law_1240 rfl ?_
      refine lv_goto (tgt := 1244) hx hb dL_law_1241 (by decide) ?_
      exact L_1244 h6 I437 J R _ _ _ hH oI oR xm xw ow rel (lv_sub hl [0, 1, 2, 3] rfl)
