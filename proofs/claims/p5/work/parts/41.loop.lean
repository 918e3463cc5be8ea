def ms_L_law : List Nat := [1, 71, 72, 73, 74, 196, 197, 256, 257, 258, 259, 260, 320, 321, 322, 324, 325, 326, 390, 391, 394, 395, 449, 514, 580, 581, 704, 705, 722, 725, 729, 730, 731, 732, 733, 734, 735, 741, 744, 745, 746, 751, 753, 758, 759, 2048, 2112, 2176, 2240, 2304, 2368, 2432, 2496, 2560, 2624, 2688, 2752, 2816, 2880, 2944, 3008, 3072, 3136, 3200, 3264, 3328, 3392, 3456, 3520, 4096, 4160, 4224, 4288, 4352, 4416, 4480, 4544, 4608, 4672, 4736, 4800, 4864, 4928, 4992, 5056, 5120, 5184, 5248, 5312, 5376, 5440, 5504, 5568, 5632, 5696, 5760, 5824, 5888, 5952, 6016, 6080, 6144, 6208, 6272, 6336, 6400]
set_option maxHeartbeats 8000000 in
set_option maxRecDepth 100000 in
theorem law_loop {p : Program} {l : Launch} {e : Env} {s : State} {m : MethodId} {below : List Frame} {meth : Method} {c : Code} {D : va_G} {cy : Nat → ClassId} {L : List Nat} {C : Nat → Nat} {b n0 : Nat} {xs : Nat → Int32} (hL : n0 ≤ 3072) (C0 : lw_At p s m meth c b n0 xs) (uq : Uq L C) {x mo : Nat} (mx : x ∈ L) (kx : C x = 10) (mm : mo ∈ L) (km : C mo = 11) :
    ∀ (n i : Nat) (x3 : Int32), i ≤ n0 → n0 + 1 ≤ i + n → x3.toInt = i → ∀ (I : hI) (J : hJ) (R : hR) (H : Heap) (locs : List Loc) (ls : Array Slot), Hp D cy L C s.heap.size s s.heap I J R H locs → OkI L C I → OkR L C R → XM L C I → XW L C I → Ow L C R → RR L C x mo (I, J, R) → lv_has ls 4 [(0, .ref b), (1, .ref x), (2, .ref mo), (3, .int x3)] → W p l e room_1 s m #[Value.ref b] below meth c H locs 474 16845 (lw_Z below #[Value.ref b] s) (F0 m 18 ls []) := by
  obtain ⟨hx, hb, hr, hml, hown, hts0, hX, hbl, hlocks, hgv⟩ := C0
  have hts : ∀ w ∈ wG, w.before #[Value.ref b] s = true := fun w h => hts0 w (List.mem_filter.mp h).1
  have hown : s.vm.findClass RL = some m.cls := hown
  have hbA : ¬ (fun q : Nat => s.heap.size ≤ q) b := Nat.not_le.mpr hbl
  intro n
  induction n with
  | zero => intro i x3 h1 h2; exact absurd h2 (by omega)
  | succ n ih =>
    intro i x3 hi0 hin hi I J R H locs ls hH oI oR xm xw ow rel hl
    have r3 : Rg x3 (0) (3072) := ⟨by omega, by omega⟩
    have sm : Sm C ms_L_law (I, J, R) (I, J, R) := Sm.rf
    have L_1244 : i + 6 ≤ n0 → ∀ (I : hI) (J : hJ) (R : hR) (H : Heap) (locs : List Loc) (ls : Array Slot), Hp D cy L C s.heap.size s s.heap I J R H locs → OkI L C I → OkR L C R → XM L C I → XW L C I → Ow L C R → RR L C x mo (I, J, R) → lv_has ls 4 [(0, .ref b), (1, .ref x), (2, .ref mo), (3, .int x3)] → W p l e room_1 s m #[Value.ref b] below meth c H locs 474 16845 (lw_Z below #[Value.ref b] s) (F0 m 1244 ls []) := by
      intro h6 I J R H locs ls hH oI oR xm xw ow rel hl
      have r9 : Rg x3 (0) (3066) := ⟨by omega, by omega⟩
      have oI0 := oI
      have oR0 := oR
      have ow0 := ow
      have rel0 := rel
      have xm0 := xm
      have xw0 := xw
      obtain ⟨y435, ey435⟩ : ∃ y : Int32, y = x3 + 6 := ⟨_, rfl⟩
      obtain ⟨ty435, ry435⟩ := Rg_addx (a' := (6)) (b' := (3072)) (rfl : x3.toInt = _) (by decide : Int32.toInt 6 = 6) r9 (Rg_c (x := 6) (a := (6)) (b := (6)) (by decide)) (by decide)
      rw [← ey435] at ty435 ry435
      refine lv_iinc (v := y435) (lv' := [(3, .int y435), (0, .ref b), (1, .ref x), (2, .ref mo)]) hx hb dL_law_1244 hl (k := 3) rfl (by rw [ey435]; rfl) (by decide) rfl (fun ls hl => ?_)
      refine lv_goto (tgt := 18) hx hb dL_law_1247 (by decide) ?_
      exact ih (i + 6) y435 (by omega) (by omega) (by rw [ty435]; omega) I J R _ _ _ hH oI oR xm xw ow rel (lv_sub hl [1, 2, 3, 0] rfl)
    have oI0 := oI
    have oR0 := oR
    have ow0 := ow
    have rel0 := rel
    have xm0 := xm
    have xw0 := xw
    refine lv_iload_n hx hb dL_law_18 rfl (lv_at hl 3 rfl) ?_
    refine lv_aload_n hx hb dL_law_19 rfl (lv_at hl 0 rfl) ?_
    refine va_slen hx hb hX hbl hbA hH.2.2.2.1 dL_law_20 ?_
    refine lv_topi (fun ln eln => ?_)
    have rln : Rg ln (0) (3072) := by rw [eln]; exact sc_len hL
    have tln : ln.toInt = n0 := by rw [eln]; exact sc_lenI hL
    refine lv_bipush (v := 6) hx hb dL_law_21 (by decide) ?_
    refine lv_isub hx hb dL_law_23 ?_
    refine lv_topi (fun y1 ey1 => ?_)
    obtain ⟨ty1, ry1⟩ := Rg_subx (a' := (-6)) (b' := (3066)) (rfl : ln.toInt = _) (by decide : Int32.toInt 6 = 6) rln (Rg_c (x := 6) (a := (6)) (b := (6)) (by decide)) (by decide)
    rw [← ey1] at ty1 ry1
    refine lv_icmp_gt (tgt := 1250) hx hb dL_law_24 (by decide) (fun q2 => ?_) (fun q2 => ?_)
    · refine lv_iconst (v := 1) hx hb dL_law_1250 (by decide) ?_
      refine va_forget (fun q hq => hH.2.2.2.1.2.2 q hq) ?_
      refine W.widen (k := 600000) (n := 7302249) (by decide) (by decide) ?_
      exact lw_ret hx hb hr hlocks dL_law_1251
    have h6 : i + 6 ≤ n0 := by have a1 := Rg_nlt q2; rw [ty1] at a1; omega
    refine lv_aload_n hx hb dL_law_27 rfl (lv_at hl 0 rfl) ?_
    refine lv_iload_n hx hb dL_law_28 rfl (lv_at hl 3 rfl) ?_
    refine va_sld hx hb hX hbl hbA hH.2.2.2.1 (sc_in0 hi h6) dL_law_29 ?_
    refine lv_topi (fun y3 ey3 => ?_)
    refine lv_bipush (v := 31) hx hb dL_law_30 (by decide) ?_
    refine lv_iand hx hb dL_law_32 ?_
    refine lv_topi (fun y4 ey4 => ?_)
    have ry4 : Rg y4 0 31 := by rw [ey4]; exact Rg_and31 _
    rcases (show (y4.toInt < 0 ∨ 23 < y4.toInt) ∨ y4.toInt = 0 ∨ y4.toInt = 1 ∨ y4.toInt = 2 ∨ y4.toInt = 3 ∨ y4.toInt = 4 ∨ y4.toInt = 5 ∨ y4.toInt = 6 ∨ y4.toInt = 7 ∨ y4.toInt = 8 ∨ y4.toInt = 9 ∨ y4.toInt = 10 ∨ y4.toInt = 11 ∨ y4.toInt = 12 ∨ y4.toInt = 13 ∨ y4.toInt = 14 ∨ y4.toInt = 15 ∨ y4.toInt = 16 ∨ y4.toInt = 17 ∨ y4.toInt = 18 ∨ y4.toInt = 19 ∨ y4.toInt = 20 ∨ y4.toInt = 21 ∨ y4.toInt = 22 ∨ y4.toInt = 23 by have z51 := ry4.1; have z52 := ry4.2; omega) with z5 | z5 | z5 | z5 | z5 | z5 | z5 | z5 | z5 | z5 | z5 | z5 | z5 | z5 | z5 | z5 | z5 | z5 | z5 | z5 | z5 | z5 | z5 | z5 | z5
    · refine lv_tableOut (tgt := 1244) hx hb dL_law_33 z5 (by decide) ?_
      exact L_1244 h6 I J R _ _ _ hH oI oR xm xw ow rel (lv_sub hl [0, 1, 2, 3] rfl)
    · have r6 : Rg y4 (0) (0) := ⟨by rw [z5]; decide, by rw [z5]; decide⟩
      refine lv_tableIn (tgt := 144) hx hb dL_law_33 (by rw [z5]; decide) (by rw [z5]; decide) (by rw [z5]; rfl) (by decide) ?_
      refine lv_aload_n hx hb dL_law_144 rfl (lv_at hl 1 rfl) ?_
      refine lv_aload_n hx hb dL_law_145 rfl (lv_at hl 0 rfl) ?_
      refine lv_iload_n hx hb dL_law_146 rfl (lv_at hl 3 rfl) ?_
      refine lv_iconst (v := 1) hx hb dL_law_147 (by decide) ?_
      refine lv_iadd hx hb dL_law_148 ?_
      refine lv_topi (fun y7 ey7 => ?_)
      obtain ⟨ty7, ry7⟩ := Rg_addx (a' := (1)) (b' := (3073)) (rfl : x3.toInt = _) (by decide : Int32.toInt 1 = 1) r3 (Rg_c (x := 1) (a := (1)) (b := (1)) (by decide)) (by decide)
      rw [← ey7] at ty7 ry7
      refine va_sld hx hb hX hbl hbA hH.2.2.2.1 (sc_in ty7 hi h6 (by decide)) dL_law_149 ?_
      refine lv_topi (fun y8 ey8 => ?_)
      refine lv_aload_n hx hb dL_law_150 rfl (lv_at hl 0 rfl) ?_
      refine lv_iload_n hx hb dL_law_151 rfl (lv_at hl 3 rfl) ?_
      refine lv_iconst (v := 2) hx hb dL_law_152 (by decide) ?_
      refine lv_iadd hx hb dL_law_153 ?_
      refine lv_topi (fun y9 ey9 => ?_)
      obtain ⟨ty9, ry9⟩ := Rg_addx (a' := (2)) (b' := (3074)) (rfl : x3.toInt = _) (by decide : Int32.toInt 2 = 2) r3 (Rg_c (x := 2) (a := (2)) (b := (2)) (by decide)) (by decide)
      rw [← ey9] at ty9 ry9
      refine va_sld hx hb hX hbl hbA hH.2.2.2.1 (sc_in ty9 hi h6 (by decide)) dL_law_154 ?_
      refine lv_topi (fun y10 ey10 => ?_)
      refine lv_aload_n hx hb dL_law_155 rfl (lv_at hl 0 rfl) ?_
      refine lv_iload_n hx hb dL_law_156 rfl (lv_at hl 3 rfl) ?_
      refine lv_iconst (v := 3) hx hb dL_law_157 (by decide) ?_
      refine lv_iadd hx hb dL_law_158 ?_
      refine lv_topi (fun y11 ey11 => ?_)
      obtain ⟨ty11, ry11⟩ := Rg_addx (a' := (3)) (b' := (3075)) (rfl : x3.toInt = _) (by decide : Int32.toInt 3 = 3) r3 (Rg_c (x := 3) (a := (3)) (b := (3)) (by decide)) (by decide)
      rw [← ey11] at ty11 ry11
      refine va_sld hx hb hX hbl hbA hH.2.2.2.1 (sc_in ty11 hi h6 (by decide)) dL_law_159 ?_
      refine lv_topi (fun y12 ey12 => ?_)
      refine lv_aload_n hx hb dL_law_160 rfl (lv_at hl 0 rfl) ?_
      refine lv_iload_n hx hb dL_law_161 rfl (lv_at hl 3 rfl) ?_
      refine lv_iconst (v := 4) hx hb dL_law_162 (by decide) ?_
      refine lv_iadd hx hb dL_law_163 ?_
      refine lv_topi (fun y13 ey13 => ?_)
      obtain ⟨ty13, ry13⟩ := Rg_addx (a' := (4)) (b' := (3076)) (rfl : x3.toInt = _) (by decide : Int32.toInt 4 = 4) r3 (Rg_c (x := 4) (a := (4)) (b := (4)) (by decide)) (by decide)
      rw [← ey13] at ty13 ry13
      refine va_sld hx hb hX hbl hbA hH.2.2.2.1 (sc_in ty13 hi h6 (by decide)) dL_law_164 ?_
      refine lv_topi (fun y14 ey14 => ?_)
      refine ca_L_13 hx hb hml hown hts hH (c_X10_rule oI oR mx kx (by exact uq)) hl.1 mx kx rfl (by decide) (Nat.le_of_ble_eq_true rfl) ⟨by decide, by decide⟩ dL_law_165 (fun y15 I15 J15 R15 H locs hp hH => ?_)
      obtain ⟨⟨oI, -, sc15⟩, eJ15, eR15, ry15, hp15, hf15⟩ := hp
      obtain rfl : J = J15 := eJ15.symm
      obtain rfl : R = R15 := eR15.symm
      have sm : Sm C ms_L_law (I, J, R) (I15, J, R) := sm.tr sc15 rfl
      have xm : XM L C I15 := XM.sm (u := (I, J, R)) (v := (I15, J, R)) xm sc15 rfl rfl
      have xw : XW L C I15 := XW.sm (u := (I, J, R)) (v := (I15, J, R)) xw sc15 rfl rfl
      have ow : Ow L C R := Ow.sm (u := (I, J, R)) (v := (I15, J, R)) ow sc15 rfl
      have oI1 := oI
      have oR1 := oR
      refine lv_pop hx hb dL_law_168 rfl ?_
      refine lv_aload_n hx hb dL_law_169 rfl (lv_at hl 2 rfl) ?_
      refine lv_aload_n hx hb dL_law_170 rfl (lv_at hl 0 rfl) ?_
      refine lv_iload_n hx hb dL_law_171 rfl (lv_at hl 3 rfl) ?_
      refine lv_iconst (v := 1) hx hb dL_law_172 (by decide) ?_
      refine lv_iadd hx hb dL_law_173 ?_
      refine lv_topi (fun y16 ey16 => ?_)
      obtain rfl : y7 = y16 := ey7.trans ey16.symm
      refine va_sld hx hb hX hbl hbA hH.2.2.2.1 (sc_in ty7 hi h6 (by decide)) dL_law_174 ?_
      refine lv_topi (fun y17 ey17 => ?_)
      obtain rfl : y8 = y17 := ey8.trans ey17.symm
      refine lv_aload_n hx hb dL_law_175 rfl (lv_at hl 0 rfl) ?_
      refine lv_iload_n hx hb dL_law_176 rfl (lv_at hl 3 rfl) ?_
      refine lv_iconst (v := 2) hx hb dL_law_177 (by decide) ?_
      refine lv_iadd hx hb dL_law_178 ?_
      refine lv_topi (fun y18 ey18 => ?_)
      obtain rfl : y9 = y18 := ey9.trans ey18.symm
      refine va_sld hx hb hX hbl hbA hH.2.2.2.1 (sc_in ty9 hi h6 (by decide)) dL_law_179 ?_
      refine lv_topi (fun y19 ey19 => ?_)
      obtain rfl : y10 = y19 := ey10.trans ey19.symm
      refine lv_aload_n hx hb dL_law_180 rfl (lv_at hl 0 rfl) ?_
      refine lv_iload_n hx hb dL_law_181 rfl (lv_at hl 3 rfl) ?_
      refine lv_iconst (v := 3) hx hb dL_law_182 (by decide) ?_
      refine lv_iadd hx hb dL_law_183 ?_
      refine lv_topi (fun y20 ey20 => ?_)
      obtain rfl : y11 = y20 := ey11.trans ey20.symm
      refine va_sld hx hb hX hbl hbA hH.2.2.2.1 (sc_in ty11 hi h6 (by decide)) dL_law_184 ?_
      refine lv_topi (fun y21 ey21 => ?_)
      obtain rfl : y12 = y21 := ey12.trans ey21.symm
      refine lv_aload_n hx hb dL_law_185 rfl (lv_at hl 0 rfl) ?_
      refine lv_iload_n hx hb dL_law_186 rfl (lv_at hl 3 rfl) ?_
      refine lv_iconst (v := 4) hx hb dL_law_187 (by decide) ?_
      refine lv_iadd hx hb dL_law_188 ?_
      refine lv_topi (fun y22 ey22 => ?_)
      obtain rfl : y13 = y22 := ey13.trans ey22.symm
      refine va_sld hx hb hX hbl hbA hH.2.2.2.1 (sc_in ty13 hi h6 (by decide)) dL_law_189 ?_
      refine lv_topi (fun y23 ey23 => ?_)
      obtain rfl : y14 = y23 := ey14.trans ey23.symm
      refine ca_L_17 hx hb hml hown hts hH (c_X11_rule oI oR mm km (by exact uq)) hl.1 mm km rfl (by decide) (Nat.le_of_ble_eq_true rfl) ⟨by decide, by decide⟩ dL_law_190 (fun y24 I24 J24 R24 H locs hp hH => ?_)
      obtain ⟨⟨oI, -, sc24⟩, eJ24, eR24, ry24, hp24, hf24⟩ := hp
      obtain rfl : J = J24 := eJ24.symm
      obtain rfl : R = R24 := eR24.symm
      have sm : Sm C ms_L_law (I, J, R) (I24, J, R) := sm.tr sc24 rfl
      have xm : XM L C I24 := XM.sm (u := (I15, J, R)) (v := (I24, J, R)) xm sc24 rfl rfl
      have xw : XW L C I24 := XW.sm (u := (I15, J, R)) (v := (I24, J, R)) xw sc24 rfl rfl
      have ow : Ow L C R := Ow.sm (u := (I15, J, R)) (v := (I24, J, R)) ow sc24 rfl
      have rr24 := st_rule uq mx kx mm km oI0 oR0 ow0 rel0 hf15 sc15 oI1 oR1 hf24 sc24 oI oR
      have rel : RR L C x mo (I24, J, R) := rr24.1
      refine lv_pop hx hb dL_law_193 rfl ?_
      refine lv_goto (tgt := 1244) hx hb dL_law_194 (by decide) ?_
      exact L_1244 h6 I24 J R _ _ _ hH oI oR xm xw ow rel (lv_sub hl [0, 1, 2, 3] rfl)
    · have r25 : Rg y4 (1) (1) := ⟨by rw [z5]; decide, by rw [z5]; decide⟩
      refine lv_tableIn (tgt := 197) hx hb dL_law_33 (by rw [z5]; decide) (by rw [z5]; decide) (by rw [z5]; rfl) (by decide) ?_
      refine lv_aload_n hx hb dL_law_197 rfl (lv_at hl 1 rfl) ?_
      refine lv_aload_n hx hb dL_law_198 rfl (lv_at hl 0 rfl) ?_
      refine lv_iload_n hx hb dL_law_199 rfl (lv_at hl 3 rfl) ?_
      refine lv_iconst (v := 1) hx hb dL_law_200 (by decide) ?_
      refine lv_iadd hx hb dL_law_201 ?_
      refine lv_topi (fun y26 ey26 => ?_)
      obtain ⟨ty26, ry26⟩ := Rg_addx (a' := (1)) (b' := (3073)) (rfl : x3.toInt = _) (by decide : Int32.toInt 1 = 1) r3 (Rg_c (x := 1) (a := (1)) (b := (1)) (by decide)) (by decide)
      rw [← ey26] at ty26 ry26
      refine va_sld hx hb hX hbl hbA hH.2.2.2.1 (sc_in ty26 hi h6 (by decide)) dL_law_202 ?_
      refine lv_topi (fun y27 ey27 => ?_)
      refine ca_L_18 hx hb hml hown hts hH (c_X10_drop oI oR mx kx (by exact uq)) hl.1 mx kx rfl (by decide) (Nat.le_of_ble_eq_true rfl) ⟨by decide, by decide⟩ dL_law_203 (fun y28 I28 J28 R28 H locs hp hH => ?_)
      obtain ⟨⟨oI, -, sc28⟩, eJ28, eR28, ry28, hp28, hf28⟩ := hp
      obtain rfl : J = J28 := eJ28.symm
      obtain rfl : R = R28 := eR28.symm
      have sm : Sm C ms_L_law (I, J, R) (I28, J, R) := sm.tr sc28 rfl
      have xm : XM L C I28 := XM.sm (u := (I, J, R)) (v := (I28, J, R)) xm sc28 rfl rfl
      have xw : XW L C I28 := XW.sm (u := (I, J, R)) (v := (I28, J, R)) xw sc28 rfl rfl
      have ow : Ow L C R := Ow.sm (u := (I, J, R)) (v := (I28, J, R)) ow sc28 rfl
      have oI1 := oI
      have oR1 := oR
      refine lv_pop hx hb dL_law_206 rfl ?_
      refine lv_aload_n hx hb dL_law_207 rfl (lv_at hl 2 rfl) ?_
      refine lv_aload_n hx hb dL_law_208 rfl (lv_at hl 0 rfl) ?_
      refine lv_iload_n hx hb dL_law_209 rfl (lv_at hl 3 rfl) ?_
      refine lv_iconst (v := 1) hx hb dL_law_210 (by decide) ?_
      refine lv_iadd hx hb dL_law_211 ?_
      refine lv_topi (fun y29 ey29 => ?_)
      obtain rfl : y26 = y29 := ey26.trans ey29.symm
      refine va_sld hx hb hX hbl hbA hH.2.2.2.1 (sc_in ty26 hi h6 (by decide)) dL_law_212 ?_
      refine lv_topi (fun y30 ey30 => ?_)
      obtain rfl : y27 = y30 := ey27.trans ey30.symm
      refine ca_L_22 hx hb hml hown hts hH (c_X11_drop oI oR mm km (by exact uq)) hl.1 mm km rfl (by decide) (Nat.le_of_ble_eq_true rfl) ⟨by decide, by decide⟩ dL_law_213 (fun y31 I31 J31 R31 H locs hp hH => ?_)
      obtain ⟨⟨oI, -, sc31⟩, eJ31, eR31, ry31, hp31, hf31⟩ := hp
      obtain rfl : J = J31 := eJ31.symm
      obtain rfl : R = R31 := eR31.symm
      have sm : Sm C ms_L_law (I, J, R) (I31, J, R) := sm.tr sc31 rfl
      have xm : XM L C I31 := XM.sm (u := (I28, J, R)) (v := (I31, J, R)) xm sc31 rfl rfl
      have xw : XW L C I31 := XW.sm (u := (I28, J, R)) (v := (I31, J, R)) xw sc31 rfl rfl
      have ow : Ow L C R := Ow.sm (u := (I28, J, R)) (v := (I31, J, R)) ow sc31 rfl
      have rr31 := st_drop uq mx kx mm km oI0 oR0 ow0 rel0 hf28 sc28 oI1 oR1 hf31 sc31 oI oR
      have rel : RR L C x mo (I31, J, R) := rr31.1
      refine lv_pop hx hb dL_law_216 rfl ?_
      refine lv_goto (tgt := 1244) hx hb dL_law_217 (by decide) ?_
      exact L_1244 h6 I31 J R _ _ _ hH oI oR xm xw ow rel (lv_sub hl [0, 1, 2, 3] rfl)
    · have r32 : Rg y4 (2) (2) := ⟨by rw [z5]; decide, by rw [z5]; decide⟩
      refine lv_tableIn (tgt := 220) hx hb dL_law_33 (by rw [z5]; decide) (by rw [z5]; decide) (by rw [z5]; rfl) (by decide) ?_
      refine lv_aload_n hx hb dL_law_220 rfl (lv_at hl 1 rfl) ?_
      refine lv_aload_n hx hb dL_law_221 rfl (lv_at hl 0 rfl) ?_
      refine lv_iload_n hx hb dL_law_222 rfl (lv_at hl 3 rfl) ?_
      refine lv_iconst (v := 1) hx hb dL_law_223 (by decide) ?_
      refine lv_iadd hx hb dL_law_224 ?_
      refine lv_topi (fun y33 ey33 => ?_)
      obtain ⟨ty33, ry33⟩ := Rg_addx (a' := (1)) (b' := (3073)) (rfl : x3.toInt = _) (by decide : Int32.toInt 1 = 1) r3 (Rg_c (x := 1) (a := (1)) (b := (1)) (by decide)) (by decide)
      rw [← ey33] at ty33 ry33
      refine va_sld hx hb hX hbl hbA hH.2.2.2.1 (sc_in ty33 hi h6 (by decide)) dL_law_225 ?_
      refine lv_topi (fun y34 ey34 => ?_)
      refine lv_aload_n hx hb dL_law_226 rfl (lv_at hl 0 rfl) ?_
      refine lv_iload_n hx hb dL_law_227 rfl (lv_at hl 3 rfl) ?_
      refine lv_iconst (v := 2) hx hb dL_law_228 (by decide) ?_
      refine lv_iadd hx hb dL_law_229 ?_
      refine lv_topi (fun y35 ey35 => ?_)
      obtain ⟨ty35, ry35⟩ := Rg_addx (a' := (2)) (b' := (3074)) (rfl : x3.toInt = _) (by decide : Int32.toInt 2 = 2) r3 (Rg_c (x := 2) (a := (2)) (b := (2)) (by decide)) (by decide)
      rw [← ey35] at ty35 ry35
      refine va_sld hx hb hX hbl hbA hH.2.2.2.1 (sc_in ty35 hi h6 (by decide)) dL_law_230 ?_
      refine lv_topi (fun y36 ey36 => ?_)
      refine lv_aload_n hx hb dL_law_231 rfl (lv_at hl 0 rfl) ?_
      refine lv_iload_n hx hb dL_law_232 rfl (lv_at hl 3 rfl) ?_
      refine lv_iconst (v := 3) hx hb dL_law_233 (by decide) ?_
      refine lv_iadd hx hb dL_law_234 ?_
      refine lv_topi (fun y37 ey37 => ?_)
      obtain ⟨ty37, ry37⟩ := Rg_addx (a' := (3)) (b' := (3075)) (rfl : x3.toInt = _) (by decide : Int32.toInt 3 = 3) r3 (Rg_c (x := 3) (a := (3)) (b := (3)) (by decide)) (by decide)
      rw [← ey37] at ty37 ry37
      refine va_sld hx hb hX hbl hbA hH.2.2.2.1 (sc_in ty37 hi h6 (by decide)) dL_law_235 ?_
      refine lv_topi (fun y38 ey38 => ?_)
      refine ca_L_23 hx hb hml hown hts hH (c_X10_turning oI oR mx kx) hl.1 mx kx rfl (by decide) (Nat.le_of_ble_eq_true rfl) ⟨by decide, by decide⟩ dL_law_236 (fun y39 I39 J39 R39 H locs hp hH => ?_)
      obtain ⟨eI39, eJ39, eR39, hf39⟩ := hp
      obtain rfl : I = I39 := eI39.symm
      obtain rfl : J = J39 := eJ39.symm
      obtain rfl : R = R39 := eR39.symm
      refine lv_pop hx hb dL_law_239 rfl ?_
      refine lv_aload_n hx hb dL_law_240 rfl (lv_at hl 2 rfl) ?_
      refine lv_aload_n hx hb dL_law_241 rfl (lv_at hl 0 rfl) ?_
      refine lv_iload_n hx hb dL_law_242 rfl (lv_at hl 3 rfl) ?_
      refine lv_iconst (v := 1) hx hb dL_law_243 (by decide) ?_
      refine lv_iadd hx hb dL_law_244 ?_
      refine lv_topi (fun y40 ey40 => ?_)
      obtain rfl : y33 = y40 := ey33.trans ey40.symm
      refine va_sld hx hb hX hbl hbA hH.2.2.2.1 (sc_in ty33 hi h6 (by decide)) dL_law_245 ?_
      refine lv_topi (fun y41 ey41 => ?_)
      obtain rfl : y34 = y41 := ey34.trans ey41.symm
      refine lv_aload_n hx hb dL_law_246 rfl (lv_at hl 0 rfl) ?_
      refine lv_iload_n hx hb dL_law_247 rfl (lv_at hl 3 rfl) ?_
      refine lv_iconst (v := 2) hx hb dL_law_248 (by decide) ?_
      refine lv_iadd hx hb dL_law_249 ?_
      refine lv_topi (fun y42 ey42 => ?_)
      obtain rfl : y35 = y42 := ey35.trans ey42.symm
      refine va_sld hx hb hX hbl hbA hH.2.2.2.1 (sc_in ty35 hi h6 (by decide)) dL_law_250 ?_
      refine lv_topi (fun y43 ey43 => ?_)
      obtain rfl : y36 = y43 := ey36.trans ey43.symm
      refine lv_aload_n hx hb dL_law_251 rfl (lv_at hl 0 rfl) ?_
      refine lv_iload_n hx hb dL_law_252 rfl (lv_at hl 3 rfl) ?_
      refine lv_iconst (v := 3) hx hb dL_law_253 (by decide) ?_
      refine lv_iadd hx hb dL_law_254 ?_
      refine lv_topi (fun y44 ey44 => ?_)
      obtain rfl : y37 = y44 := ey37.trans ey44.symm
      refine va_sld hx hb hX hbl hbA hH.2.2.2.1 (sc_in ty37 hi h6 (by decide)) dL_law_255 ?_
      refine lv_topi (fun y45 ey45 => ?_)
      obtain rfl : y38 = y45 := ey38.trans ey45.symm
      refine ca_L_27 hx hb hml hown hts hH (c_X11_turning oI oR mm km) hl.1 mm km rfl (by decide) (Nat.le_of_ble_eq_true rfl) ⟨by decide, by decide⟩ dL_law_256 (fun y46 I46 J46 R46 H locs hp hH => ?_)
      obtain ⟨⟨oI, -, sc46⟩, eJ46, eR46, ry46, hf46⟩ := hp
      obtain rfl : J = J46 := eJ46.symm
      obtain rfl : R = R46 := eR46.symm
      have sm : Sm C ms_L_law (I, J, R) (I46, J, R) := sm.tr sc46 rfl
      have xm : XM L C I46 := XM.sm (u := (I, J, R)) (v := (I46, J, R)) xm sc46 rfl rfl
      have xw : XW L C I46 := XW.sm (u := (I, J, R)) (v := (I46, J, R)) xw sc46 rfl rfl
      have ow : Ow L C R := Ow.sm (u := (I, J, R)) (v := (I46, J, R)) ow sc46 rfl
      have rel : RR L C x mo (I46, J, R) := RR.sm (u := (I, J, R)) (v := (I46, J, R)) rel oR sc46 rfl
      refine lv_pop hx hb dL_law_259 rfl ?_
      refine lv_goto (tgt := 1244) hx hb dL_law_260 (by decide) ?_
      exact L_1244 h6 I46 J R _ _ _ hH oI oR xm xw ow rel (lv_sub hl [0, 1, 2, 3] rfl)
    · have r47 : Rg y4 (3) (3) := ⟨by rw [z5]; decide, by rw [z5]; decide⟩
      refine lv_tableIn (tgt := 263) hx hb dL_law_33 (by rw [z5]; decide) (by rw [z5]; decide) (by rw [z5]; rfl) (by decide) ?_
      refine lv_aload_n hx hb dL_law_263 rfl (lv_at hl 1 rfl) ?_
      refine lv_aload_n hx hb dL_law_264 rfl (lv_at hl 0 rfl) ?_
      refine lv_iload_n hx hb dL_law_265 rfl (lv_at hl 3 rfl) ?_
      refine lv_iconst (v := 1) hx hb dL_law_266 (by decide) ?_
      refine lv_iadd hx hb dL_law_267 ?_
      refine lv_topi (fun y48 ey48 => ?_)
      obtain ⟨ty48, ry48⟩ := Rg_addx (a' := (1)) (b' := (3073)) (rfl : x3.toInt = _) (by decide : Int32.toInt 1 = 1) r3 (Rg_c (x := 1) (a := (1)) (b := (1)) (by decide)) (by decide)
      rw [← ey48] at ty48 ry48
      refine va_sld hx hb hX hbl hbA hH.2.2.2.1 (sc_in ty48 hi h6 (by decide)) dL_law_268 ?_
      refine lv_topi (fun y49 ey49 => ?_)
      refine lv_aload_n hx hb dL_law_269 rfl (lv_at hl 0 rfl) ?_
      refine lv_iload_n hx hb dL_law_270 rfl (lv_at hl 3 rfl) ?_
      refine lv_iconst (v := 2) hx hb dL_law_271 (by decide) ?_
      refine lv_iadd hx hb dL_law_272 ?_
      refine lv_topi (fun y50 ey50 => ?_)
      obtain ⟨ty50, ry50⟩ := Rg_addx (a' := (2)) (b' := (3074)) (rfl : x3.toInt = _) (by decide : Int32.toInt 2 = 2) r3 (Rg_c (x := 2) (a := (2)) (b := (2)) (by decide)) (by decide)
      rw [← ey50] at ty50 ry50
      refine va_sld hx hb hX hbl hbA hH.2.2.2.1 (sc_in ty50 hi h6 (by decide)) dL_law_273 ?_
      refine lv_topi (fun y51 ey51 => ?_)
      refine lv_aload_n hx hb dL_law_274 rfl (lv_at hl 0 rfl) ?_
      refine lv_iload_n hx hb dL_law_275 rfl (lv_at hl 3 rfl) ?_
      refine lv_iconst (v := 3) hx hb dL_law_276 (by decide) ?_
      refine lv_iadd hx hb dL_law_277 ?_
      refine lv_topi (fun y52 ey52 => ?_)
      obtain ⟨ty52, ry52⟩ := Rg_addx (a' := (3)) (b' := (3075)) (rfl : x3.toInt = _) (by decide : Int32.toInt 3 = 3) r3 (Rg_c (x := 3) (a := (3)) (b := (3)) (by decide)) (by decide)
      rw [← ey52] at ty52 ry52
      refine va_sld hx hb hX hbl hbA hH.2.2.2.1 (sc_in ty52 hi h6 (by decide)) dL_law_278 ?_
      refine lv_topi (fun y53 ey53 => ?_)
      refine lv_i2l (v := y53.toInt64) hx hb dL_law_279 rfl ?_
      refine lv_bipush (v := 32) hx hb dL_law_280 (by decide) ?_
      refine lv_lshl hx hb dL_law_282 rfl ?_
      refine lv_topl (fun w54 ew54 => ?_)
      refine lv_aload_n hx hb dL_law_283 rfl (lv_at hl 0 rfl) ?_
      refine lv_iload_n hx hb dL_law_284 rfl (lv_at hl 3 rfl) ?_
      refine lv_iconst (v := 4) hx hb dL_law_285 (by decide) ?_
      refine lv_iadd hx hb dL_law_286 ?_
      refine lv_topi (fun y55 ey55 => ?_)
      obtain ⟨ty55, ry55⟩ := Rg_addx (a' := (4)) (b' := (3076)) (rfl : x3.toInt = _) (by decide : Int32.toInt 4 = 4) r3 (Rg_c (x := 4) (a := (4)) (b := (4)) (by decide)) (by decide)
      rw [← ey55] at ty55 ry55
      refine va_sld hx hb hX hbl hbA hH.2.2.2.1 (sc_in ty55 hi h6 (by decide)) dL_law_287 ?_
      refine lv_topi (fun y56 ey56 => ?_)
      refine lv_i2l (v := y56.toInt64) hx hb dL_law_288 rfl ?_
      refine lv_ldc2 (v := 4294967295) hx hb hown (hts _ kkl_L_28) dL_law_289 ?_
      refine lv_land hx hb dL_law_292 ?_
      refine lv_topl (fun w57 ew57 => ?_)
      refine lv_lor hx hb dL_law_293 ?_
      refine lv_topl (fun w58 ew58 => ?_)
      refine ca_L_30 hx hb hml hown hts hH (c_X10_turn oI oR mx kx) hl.1 mx kx rfl (by decide) (Nat.le_of_ble_eq_true rfl) ⟨by decide, by decide⟩ dL_law_294 (fun y59 I59 J59 R59 H locs hp hH => ?_)
      obtain ⟨⟨oI, -, sc59⟩, eR59, ry59, hf59⟩ := hp
      obtain rfl : R = R59 := eR59.symm
      have sm : Sm C ms_L_law (I, J, R) (I59, J59, R) := sm.tr sc59 rfl
      have xm : XM L C I59 := XM.sm (u := (I, J, R)) (v := (I59, J59, R)) xm sc59 rfl rfl
      have xw : XW L C I59 := XW.sm (u := (I, J, R)) (v := (I59, J59, R)) xw sc59 rfl rfl
      have ow : Ow L C R := Ow.sm (u := (I, J, R)) (v := (I59, J59, R)) ow sc59 rfl
      have oI1 := oI
      have oR1 := oR
      refine lv_aload_n hx hb dL_law_297 rfl (lv_at hl 2 rfl) ?_
      refine lv_aload_n hx hb dL_law_298 rfl (lv_at hl 0 rfl) ?_
      refine lv_iload_n hx hb dL_law_299 rfl (lv_at hl 3 rfl) ?_
      refine lv_iconst (v := 1) hx hb dL_law_300 (by decide) ?_
      refine lv_iadd hx hb dL_law_301 ?_
      refine lv_topi (fun y60 ey60 => ?_)
      obtain rfl : y48 = y60 := ey48.trans ey60.symm
      refine va_sld hx hb hX hbl hbA hH.2.2.2.1 (sc_in ty48 hi h6 (by decide)) dL_law_302 ?_
      refine lv_topi (fun y61 ey61 => ?_)
      obtain rfl : y49 = y61 := ey49.trans ey61.symm
      refine lv_aload_n hx hb dL_law_303 rfl (lv_at hl 0 rfl) ?_
      refine lv_iload_n hx hb dL_law_304 rfl (lv_at hl 3 rfl) ?_
      refine lv_iconst (v := 2) hx hb dL_law_305 (by decide) ?_
      refine lv_iadd hx hb dL_law_306 ?_
      refine lv_topi (fun y62 ey62 => ?_)
      obtain rfl : y50 = y62 := ey50.trans ey62.symm
      refine va_sld hx hb hX hbl hbA hH.2.2.2.1 (sc_in ty50 hi h6 (by decide)) dL_law_307 ?_
      refine lv_topi (fun y63 ey63 => ?_)
      obtain rfl : y51 = y63 := ey51.trans ey63.symm
      refine lv_aload_n hx hb dL_law_308 rfl (lv_at hl 0 rfl) ?_
      refine lv_iload_n hx hb dL_law_309 rfl (lv_at hl 3 rfl) ?_
      refine lv_iconst (v := 3) hx hb dL_law_310 (by decide) ?_
      refine lv_iadd hx hb dL_law_311 ?_
      refine lv_topi (fun y64 ey64 => ?_)
      obtain rfl : y52 = y64 := ey52.trans ey64.symm
      refine va_sld hx hb hX hbl hbA hH.2.2.2.1 (sc_in ty52 hi h6 (by decide)) dL_law_312 ?_
      refine lv_topi (fun y65 ey65 => ?_)
      obtain rfl : y53 = y65 := ey53.trans ey65.symm
      refine lv_i2l (v := y53.toInt64) hx hb dL_law_313 rfl ?_
      refine lv_bipush (v := 32) hx hb dL_law_314 (by decide) ?_
      refine lv_lshl hx hb dL_law_316 rfl ?_
      refine lv_topl (fun w66 ew66 => ?_)
      obtain rfl : w54 = w66 := ew54.trans ew66.symm
      refine lv_aload_n hx hb dL_law_317 rfl (lv_at hl 0 rfl) ?_
      refine lv_iload_n hx hb dL_law_318 rfl (lv_at hl 3 rfl) ?_
      refine lv_iconst (v := 4) hx hb dL_law_319 (by decide) ?_
      refine lv_iadd hx hb dL_law_320 ?_
      refine lv_topi (fun y67 ey67 => ?_)
      obtain rfl : y55 = y67 := ey55.trans ey67.symm
      refine va_sld hx hb hX hbl hbA hH.2.2.2.1 (sc_in ty55 hi h6 (by decide)) dL_law_321 ?_
      refine lv_topi (fun y68 ey68 => ?_)
      obtain rfl : y56 = y68 := ey56.trans ey68.symm
      refine lv_i2l (v := y56.toInt64) hx hb dL_law_322 rfl ?_
      refine lv_ldc2 (v := 4294967295) hx hb hown (hts _ kkl_L_28) dL_law_323 ?_
      refine lv_land hx hb dL_law_326 ?_
      refine lv_topl (fun w69 ew69 => ?_)
      obtain rfl : w57 = w69 := ew57.trans ew69.symm
      refine lv_lor hx hb dL_law_327 ?_
      refine lv_topl (fun w70 ew70 => ?_)
      obtain rfl : w58 = w70 := ew58.trans ew70.symm
      refine ca_L_34 hx hb hml hown hts hH (c_X11_turn oI oR mm km) hl.1 mm km rfl (by decide) (Nat.le_of_ble_eq_true rfl) ⟨by decide, by decide⟩ dL_law_328 (fun y71 I71 J71 R71 H locs hp hH => ?_)
      obtain ⟨⟨oI, -, sc71⟩, eR71, ry71, hf71⟩ := hp
      obtain rfl : R = R71 := eR71.symm
      have sm : Sm C ms_L_law (I, J, R) (I71, J71, R) := sm.tr sc71 rfl
      have xm : XM L C I71 := XM.sm (u := (I59, J59, R)) (v := (I71, J71, R)) xm sc71 rfl rfl
      have xw : XW L C I71 := XW.sm (u := (I59, J59, R)) (v := (I71, J71, R)) xw sc71 rfl rfl
      have ow : Ow L C R := Ow.sm (u := (I59, J59, R)) (v := (I71, J71, R)) ow sc71 rfl
      have rr71 := st_turn uq mx kx mm km oI0 oR0 ow0 rel0 hf59 sc59 oI1 oR1 hf71 sc71 oI oR
      have rel : RR L C x mo (I71, J71, R) := rr71.1
      refine lv_icmp_eq (tgt := 1244) hx hb dL_law_331 (by decide) (fun q72 => ?_) (fun q72 => ?_)
      · have l73 := congrArg Int32.toInt q72
        exact L_1244 h6 I71 J71 R _ _ _ hH oI oR xm xw ow rel (lv_sub hl [0, 1, 2, 3] rfl)
      have l74 := Rg_ne q72
      refine lv_iconst (v := 0) hx hb dL_law_334 (by decide) ?_
      exfalso
      exact absurd rr71.2 (by assumption)
    · have r75 : Rg y4 (4) (4) := ⟨by rw [z5]; decide, by rw [z5]; decide⟩
      refine lv_tableIn (tgt := 336) hx hb dL_law_33 (by rw [z5]; decide) (by rw [z5]; decide) (by rw [z5]; rfl) (by decide) ?_
      refine lv_aload_n hx hb dL_law_336 rfl (lv_at hl 1 rfl) ?_
      refine lv_aload_n hx hb dL_law_337 rfl (lv_at hl 0 rfl) ?_
      refine lv_iload_n hx hb dL_law_338 rfl (lv_at hl 3 rfl) ?_
      refine lv_iconst (v := 1) hx hb dL_law_339 (by decide) ?_
      refine lv_iadd hx hb dL_law_340 ?_
      refine lv_topi (fun y76 ey76 => ?_)
      obtain ⟨ty76, ry76⟩ := Rg_addx (a' := (1)) (b' := (3073)) (rfl : x3.toInt = _) (by decide : Int32.toInt 1 = 1) r3 (Rg_c (x := 1) (a := (1)) (b := (1)) (by decide)) (by decide)
      rw [← ey76] at ty76 ry76
      refine va_sld hx hb hX hbl hbA hH.2.2.2.1 (sc_in ty76 hi h6 (by decide)) dL_law_341 ?_
      refine lv_topi (fun y77 ey77 => ?_)
      refine lv_aload_n hx hb dL_law_342 rfl (lv_at hl 0 rfl) ?_
      refine lv_iload_n hx hb dL_law_343 rfl (lv_at hl 3 rfl) ?_
      refine lv_iconst (v := 2) hx hb dL_law_344 (by decide) ?_
      refine lv_iadd hx hb dL_law_345 ?_
      refine lv_topi (fun y78 ey78 => ?_)
      obtain ⟨ty78, ry78⟩ := Rg_addx (a' := (2)) (b' := (3074)) (rfl : x3.toInt = _) (by decide : Int32.toInt 2 = 2) r3 (Rg_c (x := 2) (a := (2)) (b := (2)) (by decide)) (by decide)
      rw [← ey78] at ty78 ry78
      refine va_sld hx hb hX hbl hbA hH.2.2.2.1 (sc_in ty78 hi h6 (by decide)) dL_law_346 ?_
      refine lv_topi (fun y79 ey79 => ?_)
      refine lv_aload_n hx hb dL_law_347 rfl (lv_at hl 0 rfl) ?_
      refine lv_iload_n hx hb dL_law_348 rfl (lv_at hl 3 rfl) ?_
      refine lv_iconst (v := 3) hx hb dL_law_349 (by decide) ?_
      refine lv_iadd hx hb dL_law_350 ?_
      refine lv_topi (fun y80 ey80 => ?_)
      obtain ⟨ty80, ry80⟩ := Rg_addx (a' := (3)) (b' := (3075)) (rfl : x3.toInt = _) (by decide : Int32.toInt 3 = 3) r3 (Rg_c (x := 3) (a := (3)) (b := (3)) (by decide)) (by decide)
      rw [← ey80] at ty80 ry80
      refine va_sld hx hb hX hbl hbA hH.2.2.2.1 (sc_in ty80 hi h6 (by decide)) dL_law_351 ?_
      refine lv_topi (fun y81 ey81 => ?_)
      refine ca_L_35 hx hb hml hown hts hH (c_X10_ask oI oR mx kx (by exact xm)) hl.1 mx kx rfl (by decide) (Nat.le_of_ble_eq_true rfl) ⟨by decide, by decide⟩ dL_law_352 (fun y82 I82 J82 R82 H locs hp hH => ?_)
      obtain ⟨⟨oI, -, sc82⟩, eJ82, eR82, ry82, hp82⟩ := hp
      obtain rfl : J = J82 := eJ82.symm
      obtain rfl : R = R82 := eR82.symm
      have sm : Sm C ms_L_law (I, J, R) (I82, J, R) := sm.tr sc82 rfl
      have xm : XM L C I82 := hp82
      have xw : XW L C I82 := XW.sm (u := (I, J, R)) (v := (I82, J, R)) xw sc82 rfl rfl
      have ow : Ow L C R := Ow.sm (u := (I, J, R)) (v := (I82, J, R)) ow sc82 rfl
      have rel : RR L C x mo (I82, J, R) := RR.sm (u := (I, J, R)) (v := (I82, J, R)) rel oR sc82 rfl
      refine lv_pop hx hb dL_law_355 rfl ?_
      refine lv_aload_n hx hb dL_law_356 rfl (lv_at hl 2 rfl) ?_
      refine lv_aload_n hx hb dL_law_357 rfl (lv_at hl 0 rfl) ?_
      refine lv_iload_n hx hb dL_law_358 rfl (lv_at hl 3 rfl) ?_
      refine lv_iconst (v := 1) hx hb dL_law_359 (by decide) ?_
      refine lv_iadd hx hb dL_law_360 ?_
      refine lv_topi (fun y83 ey83 => ?_)
      obtain rfl : y76 = y83 := ey76.trans ey83.symm
      refine va_sld hx hb hX hbl hbA hH.2.2.2.1 (sc_in ty76 hi h6 (by decide)) dL_law_361 ?_
      refine lv_topi (fun y84 ey84 => ?_)
      obtain rfl : y77 = y84 := ey77.trans ey84.symm
      refine lv_aload_n hx hb dL_law_362 rfl (lv_at hl 0 rfl) ?_
      refine lv_iload_n hx hb dL_law_363 rfl (lv_at hl 3 rfl) ?_
      refine lv_iconst (v := 2) hx hb dL_law_364 (by decide) ?_
      refine lv_iadd hx hb dL_law_365 ?_
      refine lv_topi (fun y85 ey85 => ?_)
      obtain rfl : y78 = y85 := ey78.trans ey85.symm
      refine va_sld hx hb hX hbl hbA hH.2.2.2.1 (sc_in ty78 hi h6 (by decide)) dL_law_366 ?_
      refine lv_topi (fun y86 ey86 => ?_)
      obtain rfl : y79 = y86 := ey79.trans ey86.symm
      refine lv_aload_n hx hb dL_law_367 rfl (lv_at hl 0 rfl) ?_
      refine lv_iload_n hx hb dL_law_368 rfl (lv_at hl 3 rfl) ?_
      refine lv_iconst (v := 3) hx hb dL_law_369 (by decide) ?_
      refine lv_iadd hx hb dL_law_370 ?_
      refine lv_topi (fun y87 ey87 => ?_)
      obtain rfl : y80 = y87 := ey80.trans ey87.symm
      refine va_sld hx hb hX hbl hbA hH.2.2.2.1 (sc_in ty80 hi h6 (by decide)) dL_law_371 ?_
      refine lv_topi (fun y88 ey88 => ?_)
      obtain rfl : y81 = y88 := ey81.trans ey88.symm
      refine ca_L_38 hx hb hml hown hts hH (c_X11_ask oI oR mm km (by exact xw) (by exact uq)) hl.1 mm km rfl (by decide) (Nat.le_of_ble_eq_true rfl) ⟨by decide, by decide⟩ dL_law_372 (fun y89 I89 J89 R89 H locs hp hH => ?_)
      obtain ⟨⟨oI, -, sc89⟩, eJ89, eR89, ry89, hp89⟩ := hp
      obtain rfl : J = J89 := eJ89.symm
      obtain rfl : R = R89 := eR89.symm
      have sm : Sm C ms_L_law (I, J, R) (I89, J, R) := sm.tr sc89 rfl
      have xm : XM L C I89 := XM.sm (u := (I82, J, R)) (v := (I89, J, R)) xm sc89 rfl rfl
      have xw : XW L C I89 := hp89
      have ow : Ow L C R := Ow.sm (u := (I82, J, R)) (v := (I89, J, R)) ow sc89 rfl
      have rel : RR L C x mo (I89, J, R) := RR.sm (u := (I82, J, R)) (v := (I89, J, R)) rel oR sc89 rfl
      refine lv_pop hx hb dL_law_375 rfl ?_
      refine lv_goto (tgt := 1244) hx hb dL_law_376 (by decide) ?_
      exact L_1244 h6 I89 J R _ _ _ hH oI oR xm xw ow rel (lv_sub hl [0, 1, 2, 3] rfl)
    · have r90 : Rg y4 (5) (5) := ⟨by rw [z5]; decide, by rw [z5]; decide⟩
      refine lv_tableIn (tgt := 379) hx hb dL_law_33 (by rw [z5]; decide) (by rw [z5]; decide) (by rw [z5]; rfl) (by decide) ?_
      refine lv_aload_n hx hb dL_law_379 rfl (lv_at hl 1 rfl) ?_
      refine lv_aload_n hx hb dL_law_380 rfl (lv_at hl 0 rfl) ?_
      refine lv_iload_n hx hb dL_law_381 rfl (lv_at hl 3 rfl) ?_
      refine lv_iconst (v := 1) hx hb dL_law_382 (by decide) ?_
      refine lv_iadd hx hb dL_law_383 ?_
      refine lv_topi (fun y91 ey91 => ?_)
      obtain ⟨ty91, ry91⟩ := Rg_addx (a' := (1)) (b' := (3073)) (rfl : x3.toInt = _) (by decide : Int32.toInt 1 = 1) r3 (Rg_c (x := 1) (a := (1)) (b := (1)) (by decide)) (by decide)
      rw [← ey91] at ty91 ry91
      refine va_sld hx hb hX hbl hbA hH.2.2.2.1 (sc_in ty91 hi h6 (by decide)) dL_law_384 ?_
      refine lv_topi (fun y92 ey92 => ?_)
      refine lv_aload_n hx hb dL_law_385 rfl (lv_at hl 0 rfl) ?_
      refine lv_iload_n hx hb dL_law_386 rfl (lv_at hl 3 rfl) ?_
      refine lv_iconst (v := 2) hx hb dL_law_387 (by decide) ?_
      refine lv_iadd hx hb dL_law_388 ?_
      refine lv_topi (fun y93 ey93 => ?_)
      obtain ⟨ty93, ry93⟩ := Rg_addx (a' := (2)) (b' := (3074)) (rfl : x3.toInt = _) (by decide : Int32.toInt 2 = 2) r3 (Rg_c (x := 2) (a := (2)) (b := (2)) (by decide)) (by decide)
      rw [← ey93] at ty93 ry93
      refine va_sld hx hb hX hbl hbA hH.2.2.2.1 (sc_in ty93 hi h6 (by decide)) dL_law_389 ?_
      refine lv_topi (fun y94 ey94 => ?_)
      refine lv_aload_n hx hb dL_law_390 rfl (lv_at hl 0 rfl) ?_
      refine lv_iload_n hx hb dL_law_391 rfl (lv_at hl 3 rfl) ?_
      refine lv_iconst (v := 3) hx hb dL_law_392 (by decide) ?_
      refine lv_iadd hx hb dL_law_393 ?_
      refine lv_topi (fun y95 ey95 => ?_)
      obtain ⟨ty95, ry95⟩ := Rg_addx (a' := (3)) (b' := (3075)) (rfl : x3.toInt = _) (by decide : Int32.toInt 3 = 3) r3 (Rg_c (x := 3) (a := (3)) (b := (3)) (by decide)) (by decide)
      rw [← ey95] at ty95 ry95
      refine va_sld hx hb hX hbl hbA hH.2.2.2.1 (sc_in ty95 hi h6 (by decide)) dL_law_394 ?_
      refine lv_topi (fun y96 ey96 => ?_)
      refine ca_L_39 hx hb hml hown hts hH (c_X10_offer oI oR mx kx (by exact xm)) hl.1 mx kx rfl (by decide) (Nat.le_of_ble_eq_true rfl) ⟨by decide, by decide⟩ dL_law_395 (fun y97 I97 J97 R97 H locs hp hH => ?_)
      obtain ⟨⟨oI, -, sc97⟩, eJ97, eR97, ry97, hp97⟩ := hp
      obtain rfl : J = J97 := eJ97.symm
      obtain rfl : R = R97 := eR97.symm
      have sm : Sm C ms_L_law (I, J, R) (I97, J, R) := sm.tr sc97 rfl
      have xm : XM L C I97 := hp97
      have xw : XW L C I97 := XW.sm (u := (I, J, R)) (v := (I97, J, R)) xw sc97 rfl rfl
      have ow : Ow L C R := Ow.sm (u := (I, J, R)) (v := (I97, J, R)) ow sc97 rfl
      have rel : RR L C x mo (I97, J, R) := RR.sm (u := (I, J, R)) (v := (I97, J, R)) rel oR sc97 rfl
      refine lv_pop hx hb dL_law_398 rfl ?_
      refine lv_aload_n hx hb dL_law_399 rfl (lv_at hl 2 rfl) ?_
      refine lv_aload_n hx hb dL_law_400 rfl (lv_at hl 0 rfl) ?_
      refine lv_iload_n hx hb dL_law_401 rfl (lv_at hl 3 rfl) ?_
      refine lv_iconst (v := 1) hx hb dL_law_402 (by decide) ?_
      refine lv_iadd hx hb dL_law_403 ?_
      refine lv_topi (fun y98 ey98 => ?_)
      obtain rfl : y91 = y98 := ey91.trans ey98.symm
      refine va_sld hx hb hX hbl hbA hH.2.2.2.1 (sc_in ty91 hi h6 (by decide)) dL_law_404 ?_
      refine lv_topi (fun y99 ey99 => ?_)
      obtain rfl : y92 = y99 := ey92.trans ey99.symm
      refine lv_aload_n hx hb dL_law_405 rfl (lv_at hl 0 rfl) ?_
      refine lv_iload_n hx hb dL_law_406 rfl (lv_at hl 3 rfl) ?_
      refine lv_iconst (v := 2) hx hb dL_law_407 (by decide) ?_
      refine lv_iadd hx hb dL_law_408 ?_
      refine lv_topi (fun y100 ey100 => ?_)
      obtain rfl : y93 = y100 := ey93.trans ey100.symm
      refine va_sld hx hb hX hbl hbA hH.2.2.2.1 (sc_in ty93 hi h6 (by decide)) dL_law_409 ?_
      refine lv_topi (fun y101 ey101 => ?_)
      obtain rfl : y94 = y101 := ey94.trans ey101.symm
      refine lv_aload_n hx hb dL_law_410 rfl (lv_at hl 0 rfl) ?_
      refine lv_iload_n hx hb dL_law_411 rfl (lv_at hl 3 rfl) ?_
      refine lv_iconst (v := 3) hx hb dL_law_412 (by decide) ?_
      refine lv_iadd hx hb dL_law_413 ?_
      refine lv_topi (fun y102 ey102 => ?_)
      obtain rfl : y95 = y102 := ey95.trans ey102.symm
      refine va_sld hx hb hX hbl hbA hH.2.2.2.1 (sc_in ty95 hi h6 (by decide)) dL_law_414 ?_
      refine lv_topi (fun y103 ey103 => ?_)
      obtain rfl : y96 = y103 := ey96.trans ey103.symm
      refine ca_L_42 hx hb hml hown hts hH (c_X11_offer oI oR mm km (by exact xw) (by exact uq)) hl.1 mm km rfl (by decide) (Nat.le_of_ble_eq_true rfl) ⟨by decide, by decide⟩ dL_law_415 (fun y104 I104 J104 R104 H locs hp hH => ?_)
      obtain ⟨⟨oI, -, sc104⟩, eJ104, eR104, ry104, hp104⟩ := hp
      obtain rfl : J = J104 := eJ104.symm
      obtain rfl : R = R104 := eR104.symm
      have sm : Sm C ms_L_law (I, J, R) (I104, J, R) := sm.tr sc104 rfl
      have xm : XM L C I104 := XM.sm (u := (I97, J, R)) (v := (I104, J, R)) xm sc104 rfl rfl
      have xw : XW L C I104 := hp104
      have ow : Ow L C R := Ow.sm (u := (I97, J, R)) (v := (I104, J, R)) ow sc104 rfl
      have rel : RR L C x mo (I104, J, R) := RR.sm (u := (I97, J, R)) (v := (I104, J, R)) rel oR sc104 rfl
      refine lv_pop hx hb dL_law_418 rfl ?_
      refine lv_goto (tgt := 1244) hx hb dL_law_419 (by decide) ?_
      exact L_1244 h6 I104 J R _ _ _ hH oI oR xm xw ow rel (lv_sub hl [0, 1, 2, 3] rfl)
    · have r105 : Rg y4 (6) (6) := ⟨by rw [z5]; decide, by rw [z5]; decide⟩
      refine lv_tableIn (tgt := 422) hx hb dL_law_33 (by rw [z5]; decide) (by rw [z5]; decide) (by rw [z5]; rfl) (by decide) ?_
      refine lv_aload_n hx hb dL_law_422 rfl (lv_at hl 1 rfl) ?_
      refine lv_aload_n hx hb dL_law_423 rfl (lv_at hl 0 rfl) ?_
      refine lv_iload_n hx hb dL_law_424 rfl (lv_at hl 3 rfl) ?_
      refine lv_iconst (v := 1) hx hb dL_law_425 (by decide) ?_
      refine lv_iadd hx hb dL_law_426 ?_
      refine lv_topi (fun y106 ey106 => ?_)
      obtain ⟨ty106, ry106⟩ := Rg_addx (a' := (1)) (b' := (3073)) (rfl : x3.toInt = _) (by decide : Int32.toInt 1 = 1) r3 (Rg_c (x := 1) (a := (1)) (b := (1)) (by decide)) (by decide)
      rw [← ey106] at ty106 ry106
      refine va_sld hx hb hX hbl hbA hH.2.2.2.1 (sc_in ty106 hi h6 (by decide)) dL_law_427 ?_
      refine lv_topi (fun y107 ey107 => ?_)
      refine lv_aload_n hx hb dL_law_428 rfl (lv_at hl 0 rfl) ?_
      refine lv_iload_n hx hb dL_law_429 rfl (lv_at hl 3 rfl) ?_
      refine lv_iconst (v := 2) hx hb dL_law_430 (by decide) ?_
      refine lv_iadd hx hb dL_law_431 ?_
      refine lv_topi (fun y108 ey108 => ?_)
      obtain ⟨ty108, ry108⟩ := Rg_addx (a' := (2)) (b' := (3074)) (rfl : x3.toInt = _) (by decide : Int32.toInt 2 = 2) r3 (Rg_c (x := 2) (a := (2)) (b := (2)) (by decide)) (by decide)
      rw [← ey108] at ty108 ry108
      refine va_sld hx hb hX hbl hbA hH.2.2.2.1 (sc_in ty108 hi h6 (by decide)) dL_law_432 ?_
      refine lv_topi (fun y109 ey109 => ?_)
      refine lv_aload_n hx hb dL_law_433 rfl (lv_at hl 0 rfl) ?_
      refine lv_iload_n hx hb dL_law_434 rfl (lv_at hl 3 rfl) ?_
      refine lv_iconst (v := 3) hx hb dL_law_435 (by decide) ?_
      refine lv_iadd hx hb dL_law_436 ?_
      refine lv_topi (fun y110 ey110 => ?_)
      obtain ⟨ty110, ry110⟩ := Rg_addx (a' := (3)) (b' := (3075)) (rfl : x3.toInt = _) (by decide : Int32.toInt 3 = 3) r3 (Rg_c (x := 3) (a := (3)) (b := (3)) (by decide)) (by decide)
      rw [← ey110] at ty110 ry110
      refine va_sld hx hb hX hbl hbA hH.2.2.2.1 (sc_in ty110 hi h6 (by decide)) dL_law_437 ?_
      refine lv_topi (fun y111 ey111 => ?_)
      refine lv_aload_n hx hb dL_law_438 rfl (lv_at hl 0 rfl) ?_
      refine lv_iload_n hx hb dL_law_439 rfl (lv_at hl 3 rfl) ?_
      refine lv_iconst (v := 4) hx hb dL_law_440 (by decide) ?_
      refine lv_iadd hx hb dL_law_441 ?_
      refine lv_topi (fun y112 ey112 => ?_)
      obtain ⟨ty112, ry112⟩ := Rg_addx (a' := (4)) (b' := (3076)) (rfl : x3.toInt = _) (by decide : Int32.toInt 4 = 4) r3 (Rg_c (x := 4) (a := (4)) (b := (4)) (by decide)) (by decide)
      rw [← ey112] at ty112 ry112
      refine va_sld hx hb hX hbl hbA hH.2.2.2.1 (sc_in ty112 hi h6 (by decide)) dL_law_442 ?_
      refine lv_topi (fun y113 ey113 => ?_)
      refine lv_aload_n hx hb dL_law_443 rfl (lv_at hl 0 rfl) ?_
      refine lv_iload_n hx hb dL_law_444 rfl (lv_at hl 3 rfl) ?_
      refine lv_iconst (v := 5) hx hb dL_law_445 (by decide) ?_
      refine lv_iadd hx hb dL_law_446 ?_
      refine lv_topi (fun y114 ey114 => ?_)
      obtain ⟨ty114, ry114⟩ := Rg_addx (a' := (5)) (b' := (3077)) (rfl : x3.toInt = _) (by decide : Int32.toInt 5 = 5) r3 (Rg_c (x := 5) (a := (5)) (b := (5)) (by decide)) (by decide)
      rw [← ey114] at ty114 ry114
      refine va_sld hx hb hX hbl hbA hH.2.2.2.1 (sc_in ty114 hi h6 (by decide)) dL_law_447 ?_
      refine lv_topi (fun y115 ey115 => ?_)
      refine ca_L_43 hx hb hml hown hts hH (c_X10_work oI oR mx kx (by exact xm)) hl.1 mx kx rfl (by decide) (Nat.le_of_ble_eq_true rfl) ⟨by decide, by decide⟩ dL_law_448 (fun y116 I116 J116 R116 H locs hp hH => ?_)
      obtain ⟨⟨oI, -, sc116⟩, eJ116, eR116, ry116, hp116⟩ := hp
      obtain rfl : J = J116 := eJ116.symm
      obtain rfl : R = R116 := eR116.symm
      have sm : Sm C ms_L_law (I, J, R) (I116, J, R) := sm.tr sc116 rfl
      have xm : XM L C I116 := hp116
      have xw : XW L C I116 := XW.sm (u := (I, J, R)) (v := (I116, J, R)) xw sc116 rfl rfl
      have ow : Ow L C R := Ow.sm (u := (I, J, R)) (v := (I116, J, R)) ow sc116 rfl
      have rel : RR L C x mo (I116, J, R) := RR.sm (u := (I, J, R)) (v := (I116, J, R)) rel oR sc116 rfl
      refine lv_pop hx hb dL_law_451 rfl ?_
      refine lv_aload_n hx hb dL_law_452 rfl (lv_at hl 2 rfl) ?_
      refine lv_aload_n hx hb dL_law_453 rfl (lv_at hl 0 rfl) ?_
      refine lv_iload_n hx hb dL_law_454 rfl (lv_at hl 3 rfl) ?_
      refine lv_iconst (v := 1) hx hb dL_law_455 (by decide) ?_
      refine lv_iadd hx hb dL_law_456 ?_
      refine lv_topi (fun y117 ey117 => ?_)
      obtain rfl : y106 = y117 := ey106.trans ey117.symm
      refine va_sld hx hb hX hbl hbA hH.2.2.2.1 (sc_in ty106 hi h6 (by decide)) dL_law_457 ?_
      refine lv_topi (fun y118 ey118 => ?_)
      obtain rfl : y107 = y118 := ey107.trans ey118.symm
      refine lv_aload_n hx hb dL_law_458 rfl (lv_at hl 0 rfl) ?_
      refine lv_iload_n hx hb dL_law_459 rfl (lv_at hl 3 rfl) ?_
      refine lv_iconst (v := 2) hx hb dL_law_460 (by decide) ?_
      refine lv_iadd hx hb dL_law_461 ?_
      refine lv_topi (fun y119 ey119 => ?_)
      obtain rfl : y108 = y119 := ey108.trans ey119.symm
      refine va_sld hx hb hX hbl hbA hH.2.2.2.1 (sc_in ty108 hi h6 (by decide)) dL_law_462 ?_
      refine lv_topi (fun y120 ey120 => ?_)
      obtain rfl : y109 = y120 := ey109.trans ey120.symm
      refine lv_aload_n hx hb dL_law_463 rfl (lv_at hl 0 rfl) ?_
      refine lv_iload_n hx hb dL_law_464 rfl (lv_at hl 3 rfl) ?_
      refine lv_iconst (v := 3) hx hb dL_law_465 (by decide) ?_
      refine lv_iadd hx hb dL_law_466 ?_
      refine lv_topi (fun y121 ey121 => ?_)
      obtain rfl : y110 = y121 := ey110.trans ey121.symm
      refine va_sld hx hb hX hbl hbA hH.2.2.2.1 (sc_in ty110 hi h6 (by decide)) dL_law_467 ?_
      refine lv_topi (fun y122 ey122 => ?_)
      obtain rfl : y111 = y122 := ey111.trans ey122.symm
      refine lv_aload_n hx hb dL_law_468 rfl (lv_at hl 0 rfl) ?_
      refine lv_iload_n hx hb dL_law_469 rfl (lv_at hl 3 rfl) ?_
      refine lv_iconst (v := 4) hx hb dL_law_470 (by decide) ?_
      refine lv_iadd hx hb dL_law_471 ?_
      refine lv_topi (fun y123 ey123 => ?_)
      obtain rfl : y112 = y123 := ey112.trans ey123.symm
      refine va_sld hx hb hX hbl hbA hH.2.2.2.1 (sc_in ty112 hi h6 (by decide)) dL_law_472 ?_
      refine lv_topi (fun y124 ey124 => ?_)
      obtain rfl : y113 = y124 := ey113.trans ey124.symm
      refine lv_aload_n hx hb dL_law_473 rfl (lv_at hl 0 rfl) ?_
      refine lv_iload_n hx hb dL_law_474 rfl (lv_at hl 3 rfl) ?_
      refine lv_iconst (v := 5) hx hb dL_law_475 (by decide) ?_
      refine lv_iadd hx hb dL_law_476 ?_
      refine lv_topi (fun y125 ey125 => ?_)
      obtain rfl : y114 = y125 := ey114.trans ey125.symm
      refine va_sld hx hb hX hbl hbA hH.2.2.2.1 (sc_in ty114 hi h6 (by decide)) dL_law_477 ?_
      refine lv_topi (fun y126 ey126 => ?_)
      obtain rfl : y115 = y126 := ey115.trans ey126.symm
      refine ca_L_47 hx hb hml hown hts hH (c_X11_work oI oR mm km (by exact xw) (by exact uq)) hl.1 mm km rfl (by decide) (Nat.le_of_ble_eq_true rfl) ⟨by decide, by decide⟩ dL_law_478 (fun y127 I127 J127 R127 H locs hp hH => ?_)
      obtain ⟨⟨oI, -, sc127⟩, eJ127, eR127, ry127, hp127⟩ := hp
      obtain rfl : J = J127 := eJ127.symm
      obtain rfl : R = R127 := eR127.symm
      have sm : Sm C ms_L_law (I, J, R) (I127, J, R) := sm.tr sc127 rfl
      have xm : XM L C I127 := XM.sm (u := (I116, J, R)) (v := (I127, J, R)) xm sc127 rfl rfl
      have xw : XW L C I127 := hp127
      have ow : Ow L C R := Ow.sm (u := (I116, J, R)) (v := (I127, J, R)) ow sc127 rfl
      have rel : RR L C x mo (I127, J, R) := RR.sm (u := (I116, J, R)) (v := (I127, J, R)) rel oR sc127 rfl
      refine lv_pop hx hb dL_law_481 rfl ?_
      refine lv_goto (tgt := 1244) hx hb dL_law_482 (by decide) ?_
      exact L_1244 h6 I127 J R _ _ _ hH oI oR xm xw ow rel (lv_sub hl [0, 1, 2, 3] rfl)
    · have r128 : Rg y4 (7) (7) := ⟨by rw [z5]; decide, by rw [z5]; decide⟩
      refine lv_tableIn (tgt := 485) hx hb dL_law_33 (by rw [z5]; decide) (by rw [z5]; decide) (by rw [z5]; rfl) (by decide) ?_
      refine lv_aload_n hx hb dL_law_485 rfl (lv_at hl 1 rfl) ?_
      refine lv_aload_n hx hb dL_law_486 rfl (lv_at hl 0 rfl) ?_
      refine lv_iload_n hx hb dL_law_487 rfl (lv_at hl 3 rfl) ?_
      refine lv_iconst (v := 1) hx hb dL_law_488 (by decide) ?_
      refine lv_iadd hx hb dL_law_489 ?_
      refine lv_topi (fun y129 ey129 => ?_)
      obtain ⟨ty129, ry129⟩ := Rg_addx (a' := (1)) (b' := (3073)) (rfl : x3.toInt = _) (by decide : Int32.toInt 1 = 1) r3 (Rg_c (x := 1) (a := (1)) (b := (1)) (by decide)) (by decide)
      rw [← ey129] at ty129 ry129
      refine va_sld hx hb hX hbl hbA hH.2.2.2.1 (sc_in ty129 hi h6 (by decide)) dL_law_490 ?_
      refine lv_topi (fun y130 ey130 => ?_)
      refine lv_aload_n hx hb dL_law_491 rfl (lv_at hl 0 rfl) ?_
      refine lv_iload_n hx hb dL_law_492 rfl (lv_at hl 3 rfl) ?_
      refine lv_iconst (v := 2) hx hb dL_law_493 (by decide) ?_
      refine lv_iadd hx hb dL_law_494 ?_
      refine lv_topi (fun y131 ey131 => ?_)
      obtain ⟨ty131, ry131⟩ := Rg_addx (a' := (2)) (b' := (3074)) (rfl : x3.toInt = _) (by decide : Int32.toInt 2 = 2) r3 (Rg_c (x := 2) (a := (2)) (b := (2)) (by decide)) (by decide)
      rw [← ey131] at ty131 ry131
      refine va_sld hx hb hX hbl hbA hH.2.2.2.1 (sc_in ty131 hi h6 (by decide)) dL_law_495 ?_
      refine lv_topi (fun y132 ey132 => ?_)
      refine lv_aload_n hx hb dL_law_496 rfl (lv_at hl 0 rfl) ?_
      refine lv_iload_n hx hb dL_law_497 rfl (lv_at hl 3 rfl) ?_
      refine lv_iconst (v := 3) hx hb dL_law_498 (by decide) ?_
      refine lv_iadd hx hb dL_law_499 ?_
      refine lv_topi (fun y133 ey133 => ?_)
      obtain ⟨ty133, ry133⟩ := Rg_addx (a' := (3)) (b' := (3075)) (rfl : x3.toInt = _) (by decide : Int32.toInt 3 = 3) r3 (Rg_c (x := 3) (a := (3)) (b := (3)) (by decide)) (by decide)
      rw [← ey133] at ty133 ry133
      refine va_sld hx hb hX hbl hbA hH.2.2.2.1 (sc_in ty133 hi h6 (by decide)) dL_law_500 ?_
      refine lv_topi (fun y134 ey134 => ?_)
      refine lv_aload_n hx hb dL_law_501 rfl (lv_at hl 0 rfl) ?_
      refine lv_iload_n hx hb dL_law_502 rfl (lv_at hl 3 rfl) ?_
      refine lv_iconst (v := 4) hx hb dL_law_503 (by decide) ?_
      refine lv_iadd hx hb dL_law_504 ?_
      refine lv_topi (fun y135 ey135 => ?_)
      obtain ⟨ty135, ry135⟩ := Rg_addx (a' := (4)) (b' := (3076)) (rfl : x3.toInt = _) (by decide : Int32.toInt 4 = 4) r3 (Rg_c (x := 4) (a := (4)) (b := (4)) (by decide)) (by decide)
      rw [← ey135] at ty135 ry135
      refine va_sld hx hb hX hbl hbA hH.2.2.2.1 (sc_in ty135 hi h6 (by decide)) dL_law_505 ?_
      refine lv_topi (fun y136 ey136 => ?_)
      refine ca_L_48 hx hb hml hown hts hH (c_X10_times oI oR mx kx) hl.1 mx kx rfl (by decide) (Nat.le_of_ble_eq_true rfl) ⟨by decide, by decide⟩ dL_law_506 (fun y137 I137 J137 R137 H locs hp hH => ?_)
      obtain ⟨⟨oI, -, sc137⟩, eJ137, eR137, ry137⟩ := hp
      obtain rfl : J = J137 := eJ137.symm
      obtain rfl : R = R137 := eR137.symm
      have sm : Sm C ms_L_law (I, J, R) (I137, J, R) := sm.tr sc137 rfl
      have xm : XM L C I137 := XM.sm (u := (I, J, R)) (v := (I137, J, R)) xm sc137 rfl rfl
      have xw : XW L C I137 := XW.sm (u := (I, J, R)) (v := (I137, J, R)) xw sc137 rfl rfl
      have ow : Ow L C R := Ow.sm (u := (I, J, R)) (v := (I137, J, R)) ow sc137 rfl
      have rel : RR L C x mo (I137, J, R) := RR.sm (u := (I, J, R)) (v := (I137, J, R)) rel oR sc137 rfl
      refine lv_pop hx hb dL_law_509 rfl ?_
      refine lv_aload_n hx hb dL_law_510 rfl (lv_at hl 2 rfl) ?_
      refine lv_aload_n hx hb dL_law_511 rfl (lv_at hl 0 rfl) ?_
      refine lv_iload_n hx hb dL_law_512 rfl (lv_at hl 3 rfl) ?_
      refine lv_iconst (v := 1) hx hb dL_law_513 (by decide) ?_
      refine lv_iadd hx hb dL_law_514 ?_
      refine lv_topi (fun y138 ey138 => ?_)
      obtain rfl : y129 = y138 := ey129.trans ey138.symm
      refine va_sld hx hb hX hbl hbA hH.2.2.2.1 (sc_in ty129 hi h6 (by decide)) dL_law_515 ?_
      refine lv_topi (fun y139 ey139 => ?_)
      obtain rfl : y130 = y139 := ey130.trans ey139.symm
      refine lv_aload_n hx hb dL_law_516 rfl (lv_at hl 0 rfl) ?_
      refine lv_iload_n hx hb dL_law_517 rfl (lv_at hl 3 rfl) ?_
      refine lv_iconst (v := 2) hx hb dL_law_518 (by decide) ?_
      refine lv_iadd hx hb dL_law_519 ?_
      refine lv_topi (fun y140 ey140 => ?_)
      obtain rfl : y131 = y140 := ey131.trans ey140.symm
      refine va_sld hx hb hX hbl hbA hH.2.2.2.1 (sc_in ty131 hi h6 (by decide)) dL_law_520 ?_
      refine lv_topi (fun y141 ey141 => ?_)
      obtain rfl : y132 = y141 := ey132.trans ey141.symm
      refine lv_aload_n hx hb dL_law_521 rfl (lv_at hl 0 rfl) ?_
      refine lv_iload_n hx hb dL_law_522 rfl (lv_at hl 3 rfl) ?_
      refine lv_iconst (v := 3) hx hb dL_law_523 (by decide) ?_
      refine lv_iadd hx hb dL_law_524 ?_
      refine lv_topi (fun y142 ey142 => ?_)
      obtain rfl : y133 = y142 := ey133.trans ey142.symm
      refine va_sld hx hb hX hbl hbA hH.2.2.2.1 (sc_in ty133 hi h6 (by decide)) dL_law_525 ?_
      refine lv_topi (fun y143 ey143 => ?_)
      obtain rfl : y134 = y143 := ey134.trans ey143.symm
      refine lv_aload_n hx hb dL_law_526 rfl (lv_at hl 0 rfl) ?_
      refine lv_iload_n hx hb dL_law_527 rfl (lv_at hl 3 rfl) ?_
      refine lv_iconst (v := 4) hx hb dL_law_528 (by decide) ?_
      refine lv_iadd hx hb dL_law_529 ?_
      refine lv_topi (fun y144 ey144 => ?_)
      obtain rfl : y135 = y144 := ey135.trans ey144.symm
      refine va_sld hx hb hX hbl hbA hH.2.2.2.1 (sc_in ty135 hi h6 (by decide)) dL_law_530 ?_
      refine lv_topi (fun y145 ey145 => ?_)
      obtain rfl : y136 = y145 := ey136.trans ey145.symm
      refine ca_L_51 hx hb hml hown hts hH (c_X11_times oI oR mm km) hl.1 mm km rfl (by decide) (Nat.le_of_ble_eq_true rfl) ⟨by decide, by decide⟩ dL_law_531 (fun y146 I146 J146 R146 H locs hp hH => ?_)
      obtain ⟨⟨oI, -, sc146⟩, eJ146, eR146, ry146⟩ := hp
      obtain rfl : J = J146 := eJ146.symm
      obtain rfl : R = R146 := eR146.symm
      have sm : Sm C ms_L_law (I, J, R) (I146, J, R) := sm.tr sc146 rfl
      have xm : XM L C I146 := XM.sm (u := (I137, J, R)) (v := (I146, J, R)) xm sc146 rfl rfl
      have xw : XW L C I146 := XW.sm (u := (I137, J, R)) (v := (I146, J, R)) xw sc146 rfl rfl
      have ow : Ow L C R := Ow.sm (u := (I137, J, R)) (v := (I146, J, R)) ow sc146 rfl
      have rel : RR L C x mo (I146, J, R) := RR.sm (u := (I137, J, R)) (v := (I146, J, R)) rel oR sc146 rfl
      refine lv_pop hx hb dL_law_534 rfl ?_
      refine lv_goto (tgt := 1244) hx hb dL_law_535 (by decide) ?_
      exact L_1244 h6 I146 J R _ _ _ hH oI oR xm xw ow rel (lv_sub hl [0, 1, 2, 3] rfl)
    · have r147 : Rg y4 (8) (8) := ⟨by rw [z5]; decide, by rw [z5]; decide⟩
      refine lv_tableIn (tgt := 538) hx hb dL_law_33 (by rw [z5]; decide) (by rw [z5]; decide) (by rw [z5]; rfl) (by decide) ?_
      refine lv_aload_n hx hb dL_law_538 rfl (lv_at hl 1 rfl) ?_
      refine lv_aload_n hx hb dL_law_539 rfl (lv_at hl 0 rfl) ?_
      refine lv_iload_n hx hb dL_law_540 rfl (lv_at hl 3 rfl) ?_
      refine lv_iconst (v := 1) hx hb dL_law_541 (by decide) ?_
      refine lv_iadd hx hb dL_law_542 ?_
      refine lv_topi (fun y148 ey148 => ?_)
      obtain ⟨ty148, ry148⟩ := Rg_addx (a' := (1)) (b' := (3073)) (rfl : x3.toInt = _) (by decide : Int32.toInt 1 = 1) r3 (Rg_c (x := 1) (a := (1)) (b := (1)) (by decide)) (by decide)
      rw [← ey148] at ty148 ry148
      refine va_sld hx hb hX hbl hbA hH.2.2.2.1 (sc_in ty148 hi h6 (by decide)) dL_law_543 ?_
      refine lv_topi (fun y149 ey149 => ?_)
      refine lv_if_eq (tgt := 551) hx hb dL_law_544 (by decide) (fun q150 => ?_) (fun q150 => ?_)
      · have l151 := congrArg Int32.toInt q150
        have r152 : Rg y149 (0) (0) := Rg_both (Rg_any y149) (Rg_eqv q150 (Rg_c (x := 0) (a := (0)) (b := (0)) (by decide))) (by decide)
        refine lv_iconst (v := 0) hx hb dL_law_551 (by decide) ?_
        refine lv_aload_n hx hb dL_law_552 rfl (lv_at hl 0 rfl) ?_
        refine lv_iload_n hx hb dL_law_553 rfl (lv_at hl 3 rfl) ?_
        refine lv_iconst (v := 2) hx hb dL_law_554 (by decide) ?_
        refine lv_iadd hx hb dL_law_555 ?_
        refine lv_topi (fun y153 ey153 => ?_)
        obtain ⟨ty153, ry153⟩ := Rg_addx (a' := (2)) (b' := (3074)) (rfl : x3.toInt = _) (by decide : Int32.toInt 2 = 2) r3 (Rg_c (x := 2) (a := (2)) (b := (2)) (by decide)) (by decide)
        rw [← ey153] at ty153 ry153
        refine va_sld hx hb hX hbl hbA hH.2.2.2.1 (sc_in ty153 hi h6 (by decide)) dL_law_556 ?_
        refine lv_topi (fun y154 ey154 => ?_)
        refine ca_L_52 hx hb hml hown hts hH (c_X10_strip oI oR mx kx (Rg_w (Rg_c (x := 0) (a := (0)) (b := (0)) (by decide)) (by decide))) hl.1 mx kx rfl (by decide) (Nat.le_of_ble_eq_true rfl) ⟨by decide, by decide⟩ dL_law_557 (fun y155 I155 J155 R155 H locs hp hH => ?_)
        obtain ⟨⟨oI, -, sc155⟩, eJ155, eR155, ry155⟩ := hp
        obtain rfl : J = J155 := eJ155.symm
        obtain rfl : R = R155 := eR155.symm
        have sm : Sm C ms_L_law (I, J, R) (I155, J, R) := sm.tr sc155 rfl
        have xm : XM L C I155 := XM.sm (u := (I, J, R)) (v := (I155, J, R)) xm sc155 rfl rfl
        have xw : XW L C I155 := XW.sm (u := (I, J, R)) (v := (I155, J, R)) xw sc155 rfl rfl
        have ow : Ow L C R := Ow.sm (u := (I, J, R)) (v := (I155, J, R)) ow sc155 rfl
        have rel : RR L C x mo (I155, J, R) := RR.sm (u := (I, J, R)) (v := (I155, J, R)) rel oR sc155 rfl
        refine lv_pop hx hb dL_law_560 rfl ?_
        refine lv_aload_n hx hb dL_law_561 rfl (lv_at hl 2 rfl) ?_
        refine lv_aload_n hx hb dL_law_562 rfl (lv_at hl 0 rfl) ?_
        refine lv_iload_n hx hb dL_law_563 rfl (lv_at hl 3 rfl) ?_
        refine lv_iconst (v := 1) hx hb dL_law_564 (by decide) ?_
        refine lv_iadd hx hb dL_law_565 ?_
        refine lv_topi (fun y156 ey156 => ?_)
        obtain rfl : y148 = y156 := ey148.trans ey156.symm
        refine va_sld hx hb hX hbl hbA hH.2.2.2.1 (sc_in ty148 hi h6 (by decide)) dL_law_566 ?_
        refine lv_topi (fun y157 ey157 => ?_)
        obtain rfl : y149 = y157 := ey149.trans ey157.symm
        refine lv_if_eq (tgt := 574) hx hb dL_law_567 (by decide) (fun q158 => ?_) (fun q158 => ?_)
        rotate_left
        · exact Rg_no (Rg_nehi r152 (Rg_ne q158) (Rg_c (x := 0) (a := (0)) (b := (0)) (by decide)) (b' := (-1)) (by decide)) (by decide)
        have l159 := congrArg Int32.toInt q158
        refine lv_iconst (v := 0) hx hb dL_law_574 (by decide) ?_
        refine lv_aload_n hx hb dL_law_575 rfl (lv_at hl 0 rfl) ?_
        refine lv_iload_n hx hb dL_law_576 rfl (lv_at hl 3 rfl) ?_
        refine lv_iconst (v := 2) hx hb dL_law_577 (by decide) ?_
        refine lv_iadd hx hb dL_law_578 ?_
        refine lv_topi (fun y160 ey160 => ?_)
        obtain rfl : y153 = y160 := ey153.trans ey160.symm
        refine va_sld hx hb hX hbl hbA hH.2.2.2.1 (sc_in ty153 hi h6 (by decide)) dL_law_579 ?_
        refine lv_topi (fun y161 ey161 => ?_)
        obtain rfl : y154 = y161 := ey154.trans ey161.symm
        refine ca_L_56 hx hb hml hown hts hH (c_X11_strip oI oR mm km (Rg_w (Rg_c (x := 0) (a := (0)) (b := (0)) (by decide)) (by decide))) hl.1 mm km rfl (by decide) (Nat.le_of_ble_eq_true rfl) ⟨by decide, by decide⟩ dL_law_580 (fun y162 I162 J162 R162 H locs hp hH => ?_)
        obtain ⟨⟨oI, -, sc162⟩, eJ162, eR162, ry162⟩ := hp
        obtain rfl : J = J162 := eJ162.symm
        obtain rfl : R = R162 := eR162.symm
        have sm : Sm C ms_L_law (I, J, R) (I162, J, R) := sm.tr sc162 rfl
        have xm : XM L C I162 := XM.sm (u := (I155, J, R)) (v := (I162, J, R)) xm sc162 rfl rfl
        have xw : XW L C I162 := XW.sm (u := (I155, J, R)) (v := (I162, J, R)) xw sc162 rfl rfl
        have ow : Ow L C R := Ow.sm (u := (I155, J, R)) (v := (I162, J, R)) ow sc162 rfl
        have rel : RR L C x mo (I162, J, R) := RR.sm (u := (I155, J, R)) (v := (I162, J, R)) rel oR sc162 rfl
        refine lv_pop hx hb dL_law_583 rfl ?_
        refine lv_goto (tgt := 1244) hx hb dL_law_584 (by decide) ?_
        exact L_1244 h6 I162 J R _ _ _ hH oI oR xm xw ow rel (lv_sub hl [0, 1, 2, 3] rfl)
      have l164 := Rg_ne q150
      refine lv_iconst (v := 1) hx hb dL_law_547 (by decide) ?_
      refine lv_goto (tgt := 552) hx hb dL_law_548 (by decide) ?_
      refine lv_aload_n hx hb dL_law_552 rfl (lv_at hl 0 rfl) ?_
      refine lv_iload_n hx hb dL_law_553 rfl (lv_at hl 3 rfl) ?_
      refine lv_iconst (v := 2) hx hb dL_law_554 (by decide) ?_
      refine lv_iadd hx hb dL_law_555 ?_
      refine lv_topi (fun y165 ey165 => ?_)
      obtain ⟨ty165, ry165⟩ := Rg_addx (a' := (2)) (b' := (3074)) (rfl : x3.toInt = _) (by decide : Int32.toInt 2 = 2) r3 (Rg_c (x := 2) (a := (2)) (b := (2)) (by decide)) (by decide)
      rw [← ey165] at ty165 ry165
      refine va_sld hx hb hX hbl hbA hH.2.2.2.1 (sc_in ty165 hi h6 (by decide)) dL_law_556 ?_
      refine lv_topi (fun y166 ey166 => ?_)
      refine ca_L_52 hx hb hml hown hts hH (c_X10_strip oI oR mx kx (Rg_w (Rg_c (x := 1) (a := (1)) (b := (1)) (by decide)) (by decide))) hl.1 mx kx rfl (by decide) (Nat.le_of_ble_eq_true rfl) ⟨by decide, by decide⟩ dL_law_557 (fun y167 I167 J167 R167 H locs hp hH => ?_)
      obtain ⟨⟨oI, -, sc167⟩, eJ167, eR167, ry167⟩ := hp
      obtain rfl : J = J167 := eJ167.symm
      obtain rfl : R = R167 := eR167.symm
      have sm : Sm C ms_L_law (I, J, R) (I167, J, R) := sm.tr sc167 rfl
      have xm : XM L C I167 := XM.sm (u := (I, J, R)) (v := (I167, J, R)) xm sc167 rfl rfl
      have xw : XW L C I167 := XW.sm (u := (I, J, R)) (v := (I167, J, R)) xw sc167 rfl rfl
      have ow : Ow L C R := Ow.sm (u := (I, J, R)) (v := (I167, J, R)) ow sc167 rfl
      have rel : RR L C x mo (I167, J, R) := RR.sm (u := (I, J, R)) (v := (I167, J, R)) rel oR sc167 rfl
      refine lv_pop hx hb dL_law_560 rfl ?_
      refine lv_aload_n hx hb dL_law_561 rfl (lv_at hl 2 rfl) ?_
      refine lv_aload_n hx hb dL_law_562 rfl (lv_at hl 0 rfl) ?_
      refine lv_iload_n hx hb dL_law_563 rfl (lv_at hl 3 rfl) ?_
      refine lv_iconst (v := 1) hx hb dL_law_564 (by decide) ?_
      refine lv_iadd hx hb dL_law_565 ?_
      refine lv_topi (fun y168 ey168 => ?_)
      obtain rfl : y148 = y168 := ey148.trans ey168.symm
      refine va_sld hx hb hX hbl hbA hH.2.2.2.1 (sc_in ty148 hi h6 (by decide)) dL_law_566 ?_
      refine lv_topi (fun y169 ey169 => ?_)
      obtain rfl : y149 = y169 := ey149.trans ey169.symm
      refine lv_if_eq (tgt := 574) hx hb dL_law_567 (by decide) (fun q170 => ?_) (fun q170 => ?_)
      · exact absurd q170 q150
      have l172 := Rg_ne q170
      refine lv_iconst (v := 1) hx hb dL_law_570 (by decide) ?_
      refine lv_goto (tgt := 575) hx hb dL_law_571 (by decide) ?_
      refine lv_aload_n hx hb dL_law_575 rfl (lv_at hl 0 rfl) ?_
      refine lv_iload_n hx hb dL_law_576 rfl (lv_at hl 3 rfl) ?_
      refine lv_iconst (v := 2) hx hb dL_law_577 (by decide) ?_
      refine lv_iadd hx hb dL_law_578 ?_
      refine lv_topi (fun y173 ey173 => ?_)
      obtain rfl : y165 = y173 := ey165.trans ey173.symm
      refine va_sld hx hb hX hbl hbA hH.2.2.2.1 (sc_in ty165 hi h6 (by decide)) dL_law_579 ?_
      refine lv_topi (fun y174 ey174 => ?_)
      obtain rfl : y166 = y174 := ey166.trans ey174.symm
      refine ca_L_56 hx hb hml hown hts hH (c_X11_strip oI oR mm km (Rg_w (Rg_c (x := 1) (a := (1)) (b := (1)) (by decide)) (by decide))) hl.1 mm km rfl (by decide) (Nat.le_of_ble_eq_true rfl) ⟨by decide, by decide⟩ dL_law_580 (fun y175 I175 J175 R175 H locs hp hH => ?_)
      obtain ⟨⟨oI, -, sc175⟩, eJ175, eR175, ry175⟩ := hp
      obtain rfl : J = J175 := eJ175.symm
      obtain rfl : R = R175 := eR175.symm
      have sm : Sm C ms_L_law (I, J, R) (I175, J, R) := sm.tr sc175 rfl
      have xm : XM L C I175 := XM.sm (u := (I167, J, R)) (v := (I175, J, R)) xm sc175 rfl rfl
      have xw : XW L C I175 := XW.sm (u := (I167, J, R)) (v := (I175, J, R)) xw sc175 rfl rfl
      have ow : Ow L C R := Ow.sm (u := (I167, J, R)) (v := (I175, J, R)) ow sc175 rfl
      have rel : RR L C x mo (I175, J, R) := RR.sm (u := (I167, J, R)) (v := (I175, J, R)) rel oR sc175 rfl
      refine lv_pop hx hb dL_law_583 rfl ?_
      refine lv_goto (tgt := 1244) hx hb dL_law_584 (by decide) ?_
      exact L_1244 h6 I175 J R _ _ _ hH oI oR xm xw ow rel (lv_sub hl [0, 1, 2, 3] rfl)
    · have r176 : Rg y4 (9) (9) := ⟨by rw [z5]; decide, by rw [z5]; decide⟩
      refine lv_tableIn (tgt := 587) hx hb dL_law_33 (by rw [z5]; decide) (by rw [z5]; decide) (by rw [z5]; rfl) (by decide) ?_
      refine lv_aload_n hx hb dL_law_587 rfl (lv_at hl 1 rfl) ?_
      refine lv_aload_n hx hb dL_law_588 rfl (lv_at hl 0 rfl) ?_
      refine lv_iload_n hx hb dL_law_589 rfl (lv_at hl 3 rfl) ?_
      refine lv_iconst (v := 1) hx hb dL_law_590 (by decide) ?_
      refine lv_iadd hx hb dL_law_591 ?_
      refine lv_topi (fun y177 ey177 => ?_)
      obtain ⟨ty177, ry177⟩ := Rg_addx (a' := (1)) (b' := (3073)) (rfl : x3.toInt = _) (by decide : Int32.toInt 1 = 1) r3 (Rg_c (x := 1) (a := (1)) (b := (1)) (by decide)) (by decide)
      rw [← ey177] at ty177 ry177
      refine va_sld hx hb hX hbl hbA hH.2.2.2.1 (sc_in ty177 hi h6 (by decide)) dL_law_592 ?_
      refine lv_topi (fun y178 ey178 => ?_)
      refine lv_aload_n hx hb dL_law_593 rfl (lv_at hl 0 rfl) ?_
      refine lv_iload_n hx hb dL_law_594 rfl (lv_at hl 3 rfl) ?_
      refine lv_iconst (v := 2) hx hb dL_law_595 (by decide) ?_
      refine lv_iadd hx hb dL_law_596 ?_
      refine lv_topi (fun y179 ey179 => ?_)
      obtain ⟨ty179, ry179⟩ := Rg_addx (a' := (2)) (b' := (3074)) (rfl : x3.toInt = _) (by decide : Int32.toInt 2 = 2) r3 (Rg_c (x := 2) (a := (2)) (b := (2)) (by decide)) (by decide)
      rw [← ey179] at ty179 ry179
      refine va_sld hx hb hX hbl hbA hH.2.2.2.1 (sc_in ty179 hi h6 (by decide)) dL_law_597 ?_
      refine lv_topi (fun y180 ey180 => ?_)
      refine lv_aload_n hx hb dL_law_598 rfl (lv_at hl 0 rfl) ?_
      refine lv_iload_n hx hb dL_law_599 rfl (lv_at hl 3 rfl) ?_
      refine lv_iconst (v := 3) hx hb dL_law_600 (by decide) ?_
      refine lv_iadd hx hb dL_law_601 ?_
      refine lv_topi (fun y181 ey181 => ?_)
      obtain ⟨ty181, ry181⟩ := Rg_addx (a' := (3)) (b' := (3075)) (rfl : x3.toInt = _) (by decide : Int32.toInt 3 = 3) r3 (Rg_c (x := 3) (a := (3)) (b := (3)) (by decide)) (by decide)
      rw [← ey181] at ty181 ry181
      refine va_sld hx hb hX hbl hbA hH.2.2.2.1 (sc_in ty181 hi h6 (by decide)) dL_law_602 ?_
      refine lv_topi (fun y182 ey182 => ?_)
      refine lv_if_eq (tgt := 610) hx hb dL_law_603 (by decide) (fun q183 => ?_) (fun q183 => ?_)
      · have l184 := congrArg Int32.toInt q183
        have r185 : Rg y182 (0) (0) := Rg_both (Rg_any y182) (Rg_eqv q183 (Rg_c (x := 0) (a := (0)) (b := (0)) (by decide))) (by decide)
        refine lv_iconst (v := 0) hx hb dL_law_610 (by decide) ?_
        refine ca_L_57 hx hb hml hown hts hH (c_X10_alias oI oR mx kx (Rg_w (Rg_c (x := 0) (a := (0)) (b := (0)) (by decide)) (by decide))) hl.1 mx kx rfl (by decide) (Nat.le_of_ble_eq_true rfl) ⟨by decide, by decide⟩ dL_law_611 (fun y186 I186 J186 R186 H locs hp hH => ?_)
        obtain ⟨⟨oI, -, sc186⟩, eJ186, eR186, ry186⟩ := hp
        obtain rfl : J = J186 := eJ186.symm
        obtain rfl : R = R186 := eR186.symm
        have sm : Sm C ms_L_law (I, J, R) (I186, J, R) := sm.tr sc186 rfl
        have xm : XM L C I186 := XM.sm (u := (I, J, R)) (v := (I186, J, R)) xm sc186 rfl rfl
        have xw : XW L C I186 := XW.sm (u := (I, J, R)) (v := (I186, J, R)) xw sc186 rfl rfl
        have ow : Ow L C R := Ow.sm (u := (I, J, R)) (v := (I186, J, R)) ow sc186 rfl
        have rel : RR L C x mo (I186, J, R) := RR.sm (u := (I, J, R)) (v := (I186, J, R)) rel oR sc186 rfl
        refine lv_pop hx hb dL_law_614 rfl ?_
        refine lv_aload_n hx hb dL_law_615 rfl (lv_at hl 2 rfl) ?_
        refine lv_aload_n hx hb dL_law_616 rfl (lv_at hl 0 rfl) ?_
        refine lv_iload_n hx hb dL_law_617 rfl (lv_at hl 3 rfl) ?_
        refine lv_iconst (v := 1) hx hb dL_law_618 (by decide) ?_
        refine lv_iadd hx hb dL_law_619 ?_
        refine lv_topi (fun y187 ey187 => ?_)
        obtain rfl : y177 = y187 := ey177.trans ey187.symm
        refine va_sld hx hb hX hbl hbA hH.2.2.2.1 (sc_in ty177 hi h6 (by decide)) dL_law_620 ?_
        refine lv_topi (fun y188 ey188 => ?_)
        obtain rfl : y178 = y188 := ey178.trans ey188.symm
        refine lv_aload_n hx hb dL_law_621 rfl (lv_at hl 0 rfl) ?_
        refine lv_iload_n hx hb dL_law_622 rfl (lv_at hl 3 rfl) ?_
        refine lv_iconst (v := 2) hx hb dL_law_623 (by decide) ?_
        refine lv_iadd hx hb dL_law_624 ?_
        refine lv_topi (fun y189 ey189 => ?_)
        obtain rfl : y179 = y189 := ey179.trans ey189.symm
        refine va_sld hx hb hX hbl hbA hH.2.2.2.1 (sc_in ty179 hi h6 (by decide)) dL_law_625 ?_
        refine lv_topi (fun y190 ey190 => ?_)
        obtain rfl : y180 = y190 := ey180.trans ey190.symm
        refine lv_aload_n hx hb dL_law_626 rfl (lv_at hl 0 rfl) ?_
        refine lv_iload_n hx hb dL_law_627 rfl (lv_at hl 3 rfl) ?_
        refine lv_iconst (v := 3) hx hb dL_law_628 (by decide) ?_
        refine lv_iadd hx hb dL_law_629 ?_
        refine lv_topi (fun y191 ey191 => ?_)
        obtain rfl : y181 = y191 := ey181.trans ey191.symm
        refine va_sld hx hb hX hbl hbA hH.2.2.2.1 (sc_in ty181 hi h6 (by decide)) dL_law_630 ?_
        refine lv_topi (fun y192 ey192 => ?_)
        obtain rfl : y182 = y192 := ey182.trans ey192.symm
        refine lv_if_eq (tgt := 638) hx hb dL_law_631 (by decide) (fun q193 => ?_) (fun q193 => ?_)
        rotate_left
        · exact Rg_no (Rg_nehi r185 (Rg_ne q193) (Rg_c (x := 0) (a := (0)) (b := (0)) (by decide)) (b' := (-1)) (by decide)) (by decide)
        have l194 := congrArg Int32.toInt q193
        refine lv_iconst (v := 0) hx hb dL_law_638 (by decide) ?_
        refine ca_L_61 hx hb hml hown hts hH (c_X11_alias oI oR mm km (Rg_w (Rg_c (x := 0) (a := (0)) (b := (0)) (by decide)) (by decide))) hl.1 mm km rfl (by decide) (Nat.le_of_ble_eq_true rfl) ⟨by decide, by decide⟩ dL_law_639 (fun y195 I195 J195 R195 H locs hp hH => ?_)
        obtain ⟨⟨oI, -, sc195⟩, eJ195, eR195, ry195⟩ := hp
        obtain rfl : J = J195 := eJ195.symm
        obtain rfl : R = R195 := eR195.symm
        have sm : Sm C ms_L_law (I, J, R) (I195, J, R) := sm.tr sc195 rfl
        have xm : XM L C I195 := XM.sm (u := (I186, J, R)) (v := (I195, J, R)) xm sc195 rfl rfl
        have xw : XW L C I195 := XW.sm (u := (I186, J, R)) (v := (I195, J, R)) xw sc195 rfl rfl
        have ow : Ow L C R := Ow.sm (u := (I186, J, R)) (v := (I195, J, R)) ow sc195 rfl
        have rel : RR L C x mo (I195, J, R) := RR.sm (u := (I186, J, R)) (v := (I195, J, R)) rel oR sc195 rfl
        refine lv_pop hx hb dL_law_642 rfl ?_
        refine lv_goto (tgt := 1244) hx hb dL_law_643 (by decide) ?_
        exact L_1244 h6 I195 J R _ _ _ hH oI oR xm xw ow rel (lv_sub hl [0, 1, 2, 3] rfl)
      have l197 := Rg_ne q183
      refine lv_iconst (v := 1) hx hb dL_law_606 (by decide) ?_
      refine lv_goto (tgt := 611) hx hb dL_law_607 (by decide) ?_
      refine ca_L_57 hx hb hml hown hts hH (c_X10_alias oI oR mx kx (Rg_w (Rg_c (x := 1) (a := (1)) (b := (1)) (by decide)) (by decide))) hl.1 mx kx rfl (by decide) (Nat.le_of_ble_eq_true rfl) ⟨by decide, by decide⟩ dL_law_611 (fun y198 I198 J198 R198 H locs hp hH => ?_)
      obtain ⟨⟨oI, -, sc198⟩, eJ198, eR198, ry198⟩ := hp
      obtain rfl : J = J198 := eJ198.symm
      obtain rfl : R = R198 := eR198.symm
      have sm : Sm C ms_L_law (I, J, R) (I198, J, R) := sm.tr sc198 rfl
      have xm : XM L C I198 := XM.sm (u := (I, J, R)) (v := (I198, J, R)) xm sc198 rfl rfl
      have xw : XW L C I198 := XW.sm (u := (I, J, R)) (v := (I198, J, R)) xw sc198 rfl rfl
      have ow : Ow L C R := Ow.sm (u := (I, J, R)) (v := (I198, J, R)) ow sc198 rfl
      have rel : RR L C x mo (I198, J, R) := RR.sm (u := (I, J, R)) (v := (I198, J, R)) rel oR sc198 rfl
      refine lv_pop hx hb dL_law_614 rfl ?_
      refine lv_aload_n hx hb dL_law_615 rfl (lv_at hl 2 rfl) ?_
      refine lv_aload_n hx hb dL_law_616 rfl (lv_at hl 0 rfl) ?_
      refine lv_iload_n hx hb dL_law_617 rfl (lv_at hl 3 rfl) ?_
      refine lv_iconst (v := 1) hx hb dL_law_618 (by decide) ?_
      refine lv_iadd hx hb dL_law_619 ?_
      refine lv_topi (fun y199 ey199 => ?_)
      obtain rfl : y177 = y199 := ey177.trans ey199.symm
      refine va_sld hx hb hX hbl hbA hH.2.2.2.1 (sc_in ty177 hi h6 (by decide)) dL_law_620 ?_
      refine lv_topi (fun y200 ey200 => ?_)
      obtain rfl : y178 = y200 := ey178.trans ey200.symm
      refine lv_aload_n hx hb dL_law_621 rfl (lv_at hl 0 rfl) ?_
      refine lv_iload_n hx hb dL_law_622 rfl (lv_at hl 3 rfl) ?_
      refine lv_iconst (v := 2) hx hb dL_law_623 (by decide) ?_
      refine lv_iadd hx hb dL_law_624 ?_
      refine lv_topi (fun y201 ey201 => ?_)
      obtain rfl : y179 = y201 := ey179.trans ey201.symm
      refine va_sld hx hb hX hbl hbA hH.2.2.2.1 (sc_in ty179 hi h6 (by decide)) dL_law_625 ?_
      refine lv_topi (fun y202 ey202 => ?_)
      obtain rfl : y180 = y202 := ey180.trans ey202.symm
      refine lv_aload_n hx hb dL_law_626 rfl (lv_at hl 0 rfl) ?_
      refine lv_iload_n hx hb dL_law_627 rfl (lv_at hl 3 rfl) ?_
      refine lv_iconst (v := 3) hx hb dL_law_628 (by decide) ?_
      refine lv_iadd hx hb dL_law_629 ?_
      refine lv_topi (fun y203 ey203 => ?_)
      obtain rfl : y181 = y203 := ey181.trans ey203.symm
      refine va_sld hx hb hX hbl hbA hH.2.2.2.1 (sc_in ty181 hi h6 (by decide)) dL_law_630 ?_
      refine lv_topi (fun y204 ey204 => ?_)
      obtain rfl : y182 = y204 := ey182.trans ey204.symm
      refine lv_if_eq (tgt := 638) hx hb dL_law_631 (by decide) (fun q205 => ?_) (fun q205 => ?_)
      · exact absurd q205 q183
      have l207 := Rg_ne q205
      refine lv_iconst (v := 1) hx hb dL_law_634 (by decide) ?_
      refine lv_goto (tgt := 639) hx hb dL_law_635 (by decide) ?_
      refine ca_L_61 hx hb hml hown hts hH (c_X11_alias oI oR mm km (Rg_w (Rg_c (x := 1) (a := (1)) (b := (1)) (by decide)) (by decide))) hl.1 mm km rfl (by decide) (Nat.le_of_ble_eq_true rfl) ⟨by decide, by decide⟩ dL_law_639 (fun y208 I208 J208 R208 H locs hp hH => ?_)
      obtain ⟨⟨oI, -, sc208⟩, eJ208, eR208, ry208⟩ := hp
      obtain rfl : J = J208 := eJ208.symm
      obtain rfl : R = R208 := eR208.symm
      have sm : Sm C ms_L_law (I, J, R) (I208, J, R) := sm.tr sc208 rfl
      have xm : XM L C I208 := XM.sm (u := (I198, J, R)) (v := (I208, J, R)) xm sc208 rfl rfl
      have xw : XW L C I208 := XW.sm (u := (I198, J, R)) (v := (I208, J, R)) xw sc208 rfl rfl
      have ow : Ow L C R := Ow.sm (u := (I198, J, R)) (v := (I208, J, R)) ow sc208 rfl
      have rel : RR L C x mo (I208, J, R) := RR.sm (u := (I198, J, R)) (v := (I208, J, R)) rel oR sc208 rfl
      refine lv_pop hx hb dL_law_642 rfl ?_
      refine lv_goto (tgt := 1244) hx hb dL_law_643 (by decide) ?_
      exact L_1244 h6 I208 J R _ _ _ hH oI oR xm xw ow rel (lv_sub hl [0, 1, 2, 3] rfl)
    · have r209 : Rg y4 (10) (10) := ⟨by rw [z5]; decide, by rw [z5]; decide⟩
      refine lv_tableIn (tgt := 646) hx hb dL_law_33 (by rw [z5]; decide) (by rw [z5]; decide) (by rw [z5]; rfl) (by decide) ?_
      refine lv_aload_n hx hb dL_law_646 rfl (lv_at hl 1 rfl) ?_
      refine lv_aload_n hx hb dL_law_647 rfl (lv_at hl 0 rfl) ?_
      refine lv_iload_n hx hb dL_law_648 rfl (lv_at hl 3 rfl) ?_
      refine lv_iconst (v := 1) hx hb dL_law_649 (by decide) ?_
      refine lv_iadd hx hb dL_law_650 ?_
      refine lv_topi (fun y210 ey210 => ?_)
      obtain ⟨ty210, ry210⟩ := Rg_addx (a' := (1)) (b' := (3073)) (rfl : x3.toInt = _) (by decide : Int32.toInt 1 = 1) r3 (Rg_c (x := 1) (a := (1)) (b := (1)) (by decide)) (by decide)
      rw [← ey210] at ty210 ry210
      refine va_sld hx hb hX hbl hbA hH.2.2.2.1 (sc_in ty210 hi h6 (by decide)) dL_law_651 ?_
      refine lv_topi (fun y211 ey211 => ?_)
      refine lv_aload_n hx hb dL_law_652 rfl (lv_at hl 0 rfl) ?_
      refine lv_iload_n hx hb dL_law_653 rfl (lv_at hl 3 rfl) ?_
      refine lv_iconst (v := 2) hx hb dL_law_654 (by decide) ?_
      refine lv_iadd hx hb dL_law_655 ?_
      refine lv_topi (fun y212 ey212 => ?_)
      obtain ⟨ty212, ry212⟩ := Rg_addx (a' := (2)) (b' := (3074)) (rfl : x3.toInt = _) (by decide : Int32.toInt 2 = 2) r3 (Rg_c (x := 2) (a := (2)) (b := (2)) (by decide)) (by decide)
      rw [← ey212] at ty212 ry212
      refine va_sld hx hb hX hbl hbA hH.2.2.2.1 (sc_in ty212 hi h6 (by decide)) dL_law_656 ?_
      refine lv_topi (fun y213 ey213 => ?_)
      refine lv_if_eq (tgt := 664) hx hb dL_law_657 (by decide) (fun q214 => ?_) (fun q214 => ?_)
      · have l215 := congrArg Int32.toInt q214
        have r216 : Rg y213 (0) (0) := Rg_both (Rg_any y213) (Rg_eqv q214 (Rg_c (x := 0) (a := (0)) (b := (0)) (by decide))) (by decide)
        refine lv_iconst (v := 0) hx hb dL_law_664 (by decide) ?_
        refine lv_aload_n hx hb dL_law_665 rfl (lv_at hl 0 rfl) ?_
        refine lv_iload_n hx hb dL_law_666 rfl (lv_at hl 3 rfl) ?_
        refine lv_iconst (v := 3) hx hb dL_law_667 (by decide) ?_
        refine lv_iadd hx hb dL_law_668 ?_
        refine lv_topi (fun y217 ey217 => ?_)
        obtain ⟨ty217, ry217⟩ := Rg_addx (a' := (3)) (b' := (3075)) (rfl : x3.toInt = _) (by decide : Int32.toInt 3 = 3) r3 (Rg_c (x := 3) (a := (3)) (b := (3)) (by decide)) (by decide)
        rw [← ey217] at ty217 ry217
        refine va_sld hx hb hX hbl hbA hH.2.2.2.1 (sc_in ty217 hi h6 (by decide)) dL_law_669 ?_
        refine lv_topi (fun y218 ey218 => ?_)
        refine lv_i2l (v := y218.toInt64) hx hb dL_law_670 rfl ?_
        refine lv_bipush (v := 32) hx hb dL_law_671 (by decide) ?_
        refine lv_lshl hx hb dL_law_673 rfl ?_
        refine lv_topl (fun w219 ew219 => ?_)
        refine lv_aload_n hx hb dL_law_674 rfl (lv_at hl 0 rfl) ?_
        refine lv_iload_n hx hb dL_law_675 rfl (lv_at hl 3 rfl) ?_
        refine lv_iconst (v := 4) hx hb dL_law_676 (by decide) ?_
        refine lv_iadd hx hb dL_law_677 ?_
        refine lv_topi (fun y220 ey220 => ?_)
        obtain ⟨ty220, ry220⟩ := Rg_addx (a' := (4)) (b' := (3076)) (rfl : x3.toInt = _) (by decide : Int32.toInt 4 = 4) r3 (Rg_c (x := 4) (a := (4)) (b := (4)) (by decide)) (by decide)
        rw [← ey220] at ty220 ry220
        refine va_sld hx hb hX hbl hbA hH.2.2.2.1 (sc_in ty220 hi h6 (by decide)) dL_law_678 ?_
        refine lv_topi (fun y221 ey221 => ?_)
        refine lv_i2l (v := y221.toInt64) hx hb dL_law_679 rfl ?_
        refine lv_ldc2 (v := 4294967295) hx hb hown (hts _ kkl_L_28) dL_law_680 ?_
        refine lv_land hx hb dL_law_683 ?_
        refine lv_topl (fun w222 ew222 => ?_)
        refine lv_lor hx hb dL_law_684 ?_
        refine lv_topl (fun w223 ew223 => ?_)
        refine ca_L_62 hx hb hml hown hts hH (c_X10_constant oI oR mx kx (Rg_w (Rg_c (x := 0) (a := (0)) (b := (0)) (by decide)) (by decide)) (by exact uq)) hl.1 mx kx rfl (by decide) (Nat.le_of_ble_eq_true rfl) ⟨by decide, by decide⟩ dL_law_685 (fun y224 I224 J224 R224 H locs hp hH => ?_)
        obtain ⟨⟨oI, -, sc224⟩, eR224, ry224, hp224⟩ := hp
        obtain rfl : R = R224 := eR224.symm
        have sm : Sm C ms_L_law (I, J, R) (I224, J224, R) := sm.tr sc224 rfl
        have xm : XM L C I224 := XM.sm (u := (I, J, R)) (v := (I224, J224, R)) xm sc224 rfl rfl
        have xw : XW L C I224 := XW.sm (u := (I, J, R)) (v := (I224, J224, R)) xw sc224 rfl rfl
        have ow : Ow L C R := Ow.sm (u := (I, J, R)) (v := (I224, J224, R)) ow sc224 rfl
        have rel : RR L C x mo (I224, J224, R) := RR.sm (u := (I, J, R)) (v := (I224, J224, R)) rel oR sc224 rfl
        refine lv_pop hx hb dL_law_688 rfl ?_
        refine lv_aload_n hx hb dL_law_689 rfl (lv_at hl 2 rfl) ?_
        refine lv_aload_n hx hb dL_law_690 rfl (lv_at hl 0 rfl) ?_
        refine lv_iload_n hx hb dL_law_691 rfl (lv_at hl 3 rfl) ?_
        refine lv_iconst (v := 1) hx hb dL_law_692 (by decide) ?_
        refine lv_iadd hx hb dL_law_693 ?_
        refine lv_topi (fun y225 ey225 => ?_)
        obtain rfl : y210 = y225 := ey210.trans ey225.symm
        refine va_sld hx hb hX hbl hbA hH.2.2.2.1 (sc_in ty210 hi h6 (by decide)) dL_law_694 ?_
        refine lv_topi (fun y226 ey226 => ?_)
        obtain rfl : y211 = y226 := ey211.trans ey226.symm
        refine lv_aload_n hx hb dL_law_695 rfl (lv_at hl 0 rfl) ?_
        refine lv_iload_n hx hb dL_law_696 rfl (lv_at hl 3 rfl) ?_
        refine lv_iconst (v := 2) hx hb dL_law_697 (by decide) ?_
        refine lv_iadd hx hb dL_law_698 ?_
        refine lv_topi (fun y227 ey227 => ?_)
        obtain rfl : y212 = y227 := ey212.trans ey227.symm
        refine va_sld hx hb hX hbl hbA hH.2.2.2.1 (sc_in ty212 hi h6 (by decide)) dL_law_699 ?_
        refine lv_topi (fun y228 ey228 => ?_)
        obtain rfl : y213 = y228 := ey213.trans ey228.symm
        refine lv_if_eq (tgt := 707) hx hb dL_law_700 (by decide) (fun q229 => ?_) (fun q229 => ?_)
        rotate_left
        · exact Rg_no (Rg_nehi r216 (Rg_ne q229) (Rg_c (x := 0) (a := (0)) (b := (0)) (by decide)) (b' := (-1)) (by decide)) (by decide)
        have l230 := congrArg Int32.toInt q229
        refine lv_iconst (v := 0) hx hb dL_law_707 (by decide) ?_
        refine lv_aload_n hx hb dL_law_708 rfl (lv_at hl 0 rfl) ?_
        refine lv_iload_n hx hb dL_law_709 rfl (lv_at hl 3 rfl) ?_
        refine lv_iconst (v := 3) hx hb dL_law_710 (by decide) ?_
        refine lv_iadd hx hb dL_law_711 ?_
        refine lv_topi (fun y231 ey231 => ?_)
        obtain rfl : y217 = y231 := ey217.trans ey231.symm
        refine va_sld hx hb hX hbl hbA hH.2.2.2.1 (sc_in ty217 hi h6 (by decide)) dL_law_712 ?_
        refine lv_topi (fun y232 ey232 => ?_)
        obtain rfl : y218 = y232 := ey218.trans ey232.symm
        refine lv_i2l (v := y218.toInt64) hx hb dL_law_713 rfl ?_
        refine lv_bipush (v := 32) hx hb dL_law_714 (by decide) ?_
        refine lv_lshl hx hb dL_law_716 rfl ?_
        refine lv_topl (fun w233 ew233 => ?_)
        obtain rfl : w219 = w233 := ew219.trans ew233.symm
        refine lv_aload_n hx hb dL_law_717 rfl (lv_at hl 0 rfl) ?_
        refine lv_iload_n hx hb dL_law_718 rfl (lv_at hl 3 rfl) ?_
        refine lv_iconst (v := 4) hx hb dL_law_719 (by decide) ?_
        refine lv_iadd hx hb dL_law_720 ?_
        refine lv_topi (fun y234 ey234 => ?_)
        obtain rfl : y220 = y234 := ey220.trans ey234.symm
        refine va_sld hx hb hX hbl hbA hH.2.2.2.1 (sc_in ty220 hi h6 (by decide)) dL_law_721 ?_
        refine lv_topi (fun y235 ey235 => ?_)
        obtain rfl : y221 = y235 := ey221.trans ey235.symm
        refine lv_i2l (v := y221.toInt64) hx hb dL_law_722 rfl ?_
        refine lv_ldc2 (v := 4294967295) hx hb hown (hts _ kkl_L_28) dL_law_723 ?_
        refine lv_land hx hb dL_law_726 ?_
        refine lv_topl (fun w236 ew236 => ?_)
        obtain rfl : w222 = w236 := ew222.trans ew236.symm
        refine lv_lor hx hb dL_law_727 ?_
        refine lv_topl (fun w237 ew237 => ?_)
        obtain rfl : w223 = w237 := ew223.trans ew237.symm
        refine ca_L_66 hx hb hml hown hts hH (c_X11_constant oI oR mm km (Rg_w (Rg_c (x := 0) (a := (0)) (b := (0)) (by decide)) (by decide)) (by exact uq)) hl.1 mm km rfl (by decide) (Nat.le_of_ble_eq_true rfl) ⟨by decide, by decide⟩ dL_law_728 (fun y238 I238 J238 R238 H locs hp hH => ?_)
        obtain ⟨⟨oI, -, sc238⟩, eR238, ry238, hp238⟩ := hp
        obtain rfl : R = R238 := eR238.symm
        have sm : Sm C ms_L_law (I, J, R) (I238, J238, R) := sm.tr sc238 rfl
        have xm : XM L C I238 := XM.sm (u := (I224, J224, R)) (v := (I238, J238, R)) xm sc238 rfl rfl
        have xw : XW L C I238 := XW.sm (u := (I224, J224, R)) (v := (I238, J238, R)) xw sc238 rfl rfl
        have ow : Ow L C R := Ow.sm (u := (I224, J224, R)) (v := (I238, J238, R)) ow sc238 rfl
        have rel : RR L C x mo (I238, J238, R) := RR.sm (u := (I224, J224, R)) (v := (I238, J238, R)) rel oR sc238 rfl
        refine lv_pop hx hb dL_law_731 rfl ?_
        refine lv_goto (tgt := 1244) hx hb dL_law_732 (by decide) ?_
        exact L_1244 h6 I238 J238 R _ _ _ hH oI oR xm xw ow rel (lv_sub hl [0, 1, 2, 3] rfl)
      have l240 := Rg_ne q214
      refine lv_iconst (v := 1) hx hb dL_law_660 (by decide) ?_
      refine lv_goto (tgt := 665) hx hb dL_law_661 (by decide) ?_
      refine lv_aload_n hx hb dL_law_665 rfl (lv_at hl 0 rfl) ?_
      refine lv_iload_n hx hb dL_law_666 rfl (lv_at hl 3 rfl) ?_
      refine lv_iconst (v := 3) hx hb dL_law_667 (by decide) ?_
      refine lv_iadd hx hb dL_law_668 ?_
      refine lv_topi (fun y241 ey241 => ?_)
      obtain ⟨ty241, ry241⟩ := Rg_addx (a' := (3)) (b' := (3075)) (rfl : x3.toInt = _) (by decide : Int32.toInt 3 = 3) r3 (Rg_c (x := 3) (a := (3)) (b := (3)) (by decide)) (by decide)
      rw [← ey241] at ty241 ry241
      refine va_sld hx hb hX hbl hbA hH.2.2.2.1 (sc_in ty241 hi h6 (by decide)) dL_law_669 ?_
      refine lv_topi (fun y242 ey242 => ?_)
      refine lv_i2l (v := y242.toInt64) hx hb dL_law_670 rfl ?_
      refine lv_bipush (v := 32) hx hb dL_law_671 (by decide) ?_
      refine lv_lshl hx hb dL_law_673 rfl ?_
      refine lv_topl (fun w243 ew243 => ?_)
      refine lv_aload_n hx hb dL_law_674 rfl (lv_at hl 0 rfl) ?_
      refine lv_iload_n hx hb dL_law_675 rfl (lv_at hl 3 rfl) ?_
      refine lv_iconst (v := 4) hx hb dL_law_676 (by decide) ?_
      refine lv_iadd hx hb dL_law_677 ?_
      refine lv_topi (fun y244 ey244 => ?_)
      obtain ⟨ty244, ry244⟩ := Rg_addx (a' := (4)) (b' := (3076)) (rfl : x3.toInt = _) (by decide : Int32.toInt 4 = 4) r3 (Rg_c (x := 4) (a := (4)) (b := (4)) (by decide)) (by decide)
      rw [← ey244] at ty244 ry244
      refine va_sld hx hb hX hbl hbA hH.2.2.2.1 (sc_in ty244 hi h6 (by decide)) dL_law_678 ?_
      refine lv_topi (fun y245 ey245 => ?_)
      refine lv_i2l (v := y245.toInt64) hx hb dL_law_679 rfl ?_
      refine lv_ldc2 (v := 4294967295) hx hb hown (hts _ kkl_L_28) dL_law_680 ?_
      refine lv_land hx hb dL_law_683 ?_
      refine lv_topl (fun w246 ew246 => ?_)
      refine lv_lor hx hb dL_law_684 ?_
      refine lv_topl (fun w247 ew247 => ?_)
      refine ca_L_62 hx hb hml hown hts hH (c_X10_constant oI oR mx kx (Rg_w (Rg_c (x := 1) (a := (1)) (b := (1)) (by decide)) (by decide)) (by exact uq)) hl.1 mx kx rfl (by decide) (Nat.le_of_ble_eq_true rfl) ⟨by decide, by decide⟩ dL_law_685 (fun y248 I248 J248 R248 H locs hp hH => ?_)
      obtain ⟨⟨oI, -, sc248⟩, eR248, ry248, hp248⟩ := hp
      obtain rfl : R = R248 := eR248.symm
      have sm : Sm C ms_L_law (I, J, R) (I248, J248, R) := sm.tr sc248 rfl
      have xm : XM L C I248 := XM.sm (u := (I, J, R)) (v := (I248, J248, R)) xm sc248 rfl rfl
      have xw : XW L C I248 := XW.sm (u := (I, J, R)) (v := (I248, J248, R)) xw sc248 rfl rfl
      have ow : Ow L C R := Ow.sm (u := (I, J, R)) (v := (I248, J248, R)) ow sc248 rfl
      have rel : RR L C x mo (I248, J248, R) := RR.sm (u := (I, J, R)) (v := (I248, J248, R)) rel oR sc248 rfl
      refine lv_pop hx hb dL_law_688 rfl ?_
      refine lv_aload_n hx hb dL_law_689 rfl (lv_at hl 2 rfl) ?_
      refine lv_aload_n hx hb dL_law_690 rfl (lv_at hl 0 rfl) ?_
      refine lv_iload_n hx hb dL_law_691 rfl (lv_at hl 3 rfl) ?_
      refine lv_iconst (v := 1) hx hb dL_law_692 (by decide) ?_
      refine lv_iadd hx hb dL_law_693 ?_
      refine lv_topi (fun y249 ey249 => ?_)
      obtain rfl : y210 = y249 := ey210.trans ey249.symm
      refine va_sld hx hb hX hbl hbA hH.2.2.2.1 (sc_in ty210 hi h6 (by decide)) dL_law_694 ?_
      refine lv_topi (fun y250 ey250 => ?_)
      obtain rfl : y211 = y250 := ey211.trans ey250.symm
      refine lv_aload_n hx hb dL_law_695 rfl (lv_at hl 0 rfl) ?_
      refine lv_iload_n hx hb dL_law_696 rfl (lv_at hl 3 rfl) ?_
      refine lv_iconst (v := 2) hx hb dL_law_697 (by decide) ?_
      refine lv_iadd hx hb dL_law_698 ?_
      refine lv_topi (fun y251 ey251 => ?_)
      obtain rfl : y212 = y251 := ey212.trans ey251.symm
      refine va_sld hx hb hX hbl hbA hH.2.2.2.1 (sc_in ty212 hi h6 (by decide)) dL_law_699 ?_
      refine lv_topi (fun y252 ey252 => ?_)
      obtain rfl : y213 = y252 := ey213.trans ey252.symm
      refine lv_if_eq (tgt := 707) hx hb dL_law_700 (by decide) (fun q253 => ?_) (fun q253 => ?_)
      · exact absurd q253 q214
      have l255 := Rg_ne q253
      refine lv_iconst (v := 1) hx hb dL_law_703 (by decide) ?_
      refine lv_goto (tgt := 708) hx hb dL_law_704 (by decide) ?_
      refine lv_aload_n hx hb dL_law_708 rfl (lv_at hl 0 rfl) ?_
      refine lv_iload_n hx hb dL_law_709 rfl (lv_at hl 3 rfl) ?_
      refine lv_iconst (v := 3) hx hb dL_law_710 (by decide) ?_
      refine lv_iadd hx hb dL_law_711 ?_
      refine lv_topi (fun y256 ey256 => ?_)
      obtain rfl : y241 = y256 := ey241.trans ey256.symm
      refine va_sld hx hb hX hbl hbA hH.2.2.2.1 (sc_in ty241 hi h6 (by decide)) dL_law_712 ?_
      refine lv_topi (fun y257 ey257 => ?_)
      obtain rfl : y242 = y257 := ey242.trans ey257.symm
      refine lv_i2l (v := y242.toInt64) hx hb dL_law_713 rfl ?_
      refine lv_bipush (v := 32) hx hb dL_law_714 (by decide) ?_
      refine lv_lshl hx hb dL_law_716 rfl ?_
      refine lv_topl (fun w258 ew258 => ?_)
      obtain rfl : w243 = w258 := ew243.trans ew258.symm
      refine lv_aload_n hx hb dL_law_717 rfl (lv_at hl 0 rfl) ?_
      refine lv_iload_n hx hb dL_law_718 rfl (lv_at hl 3 rfl) ?_
      refine lv_iconst (v := 4) hx hb dL_law_719 (by decide) ?_
      refine lv_iadd hx hb dL_law_720 ?_
      refine lv_topi (fun y259 ey259 => ?_)
      obtain rfl : y244 = y259 := ey244.trans ey259.symm
      refine va_sld hx hb hX hbl hbA hH.2.2.2.1 (sc_in ty244 hi h6 (by decide)) dL_law_721 ?_
      refine lv_topi (fun y260 ey260 => ?_)
      obtain rfl : y245 = y260 := ey245.trans ey260.symm
      refine lv_i2l (v := y245.toInt64) hx hb dL_law_722 rfl ?_
      refine lv_ldc2 (v := 4294967295) hx hb hown (hts _ kkl_L_28) dL_law_723 ?_
      refine lv_land hx hb dL_law_726 ?_
      refine lv_topl (fun w261 ew261 => ?_)
      obtain rfl : w246 = w261 := ew246.trans ew261.symm
      refine lv_lor hx hb dL_law_727 ?_
      refine lv_topl (fun w262 ew262 => ?_)
      obtain rfl : w247 = w262 := ew247.trans ew262.symm
      refine ca_L_66 hx hb hml hown hts hH (c_X11_constant oI oR mm km (Rg_w (Rg_c (x := 1) (a := (1)) (b := (1)) (by decide)) (by decide)) (by exact uq)) hl.1 mm km rfl (by decide) (Nat.le_of_ble_eq_true rfl) ⟨by decide, by decide⟩ dL_law_728 (fun y263 I263 J263 R263 H locs hp hH => ?_)
      obtain ⟨⟨oI, -, sc263⟩, eR263, ry263, hp263⟩ := hp
      obtain rfl : R = R263 := eR263.symm
      have sm : Sm C ms_L_law (I, J, R) (I263, J263, R) := sm.tr sc263 rfl
      have xm : XM L C I263 := XM.sm (u := (I248, J248, R)) (v := (I263, J263, R)) xm sc263 rfl rfl
      have xw : XW L C I263 := XW.sm (u := (I248, J248, R)) (v := (I263, J263, R)) xw sc263 rfl rfl
      have ow : Ow L C R := Ow.sm (u := (I248, J248, R)) (v := (I263, J263, R)) ow sc263 rfl
      have rel : RR L C x mo (I263, J263, R) := RR.sm (u := (I248, J248, R)) (v := (I263, J263, R)) rel oR sc263 rfl
      refine lv_pop hx hb dL_law_731 rfl ?_
      refine lv_goto (tgt := 1244) hx hb dL_law_732 (by decide) ?_
      exact L_1244 h6 I263 J263 R _ _ _ hH oI oR xm xw ow rel (lv_sub hl [0, 1, 2, 3] rfl)
    · have r264 : Rg y4 (11) (11) := ⟨by rw [z5]; decide, by rw [z5]; decide⟩
      refine lv_tableIn (tgt := 735) hx hb dL_law_33 (by rw [z5]; decide) (by rw [z5]; decide) (by rw [z5]; rfl) (by decide) ?_
      refine lv_aload_n hx hb dL_law_735 rfl (lv_at hl 1 rfl) ?_
      refine lv_aload_n hx hb dL_law_736 rfl (lv_at hl 0 rfl) ?_
      refine lv_iload_n hx hb dL_law_737 rfl (lv_at hl 3 rfl) ?_
      refine lv_iconst (v := 1) hx hb dL_law_738 (by decide) ?_
      refine lv_iadd hx hb dL_law_739 ?_
      refine lv_topi (fun y265 ey265 => ?_)
      obtain ⟨ty265, ry265⟩ := Rg_addx (a' := (1)) (b' := (3073)) (rfl : x3.toInt = _) (by decide : Int32.toInt 1 = 1) r3 (Rg_c (x := 1) (a := (1)) (b := (1)) (by decide)) (by decide)
      rw [← ey265] at ty265 ry265
      refine va_sld hx hb hX hbl hbA hH.2.2.2.1 (sc_in ty265 hi h6 (by decide)) dL_law_740 ?_
      refine lv_topi (fun y266 ey266 => ?_)
      refine lv_aload_n hx hb dL_law_741 rfl (lv_at hl 0 rfl) ?_
      refine lv_iload_n hx hb dL_law_742 rfl (lv_at hl 3 rfl) ?_
      refine lv_iconst (v := 2) hx hb dL_law_743 (by decide) ?_
      refine lv_iadd hx hb dL_law_744 ?_
      refine lv_topi (fun y267 ey267 => ?_)
      obtain ⟨ty267, ry267⟩ := Rg_addx (a' := (2)) (b' := (3074)) (rfl : x3.toInt = _) (by decide : Int32.toInt 2 = 2) r3 (Rg_c (x := 2) (a := (2)) (b := (2)) (by decide)) (by decide)
      rw [← ey267] at ty267 ry267
      refine va_sld hx hb hX hbl hbA hH.2.2.2.1 (sc_in ty267 hi h6 (by decide)) dL_law_745 ?_
      refine lv_topi (fun y268 ey268 => ?_)
      refine lv_aload_n hx hb dL_law_746 rfl (lv_at hl 0 rfl) ?_
      refine lv_iload_n hx hb dL_law_747 rfl (lv_at hl 3 rfl) ?_
      refine lv_iconst (v := 3) hx hb dL_law_748 (by decide) ?_
      refine lv_iadd hx hb dL_law_749 ?_
      refine lv_topi (fun y269 ey269 => ?_)
      obtain ⟨ty269, ry269⟩ := Rg_addx (a' := (3)) (b' := (3075)) (rfl : x3.toInt = _) (by decide : Int32.toInt 3 = 3) r3 (Rg_c (x := 3) (a := (3)) (b := (3)) (by decide)) (by decide)
      rw [← ey269] at ty269 ry269
      refine va_sld hx hb hX hbl hbA hH.2.2.2.1 (sc_in ty269 hi h6 (by decide)) dL_law_750 ?_
      refine lv_topi (fun y270 ey270 => ?_)
      refine lv_aload_n hx hb dL_law_751 rfl (lv_at hl 0 rfl) ?_
      refine lv_iload_n hx hb dL_law_752 rfl (lv_at hl 3 rfl) ?_
      refine lv_iconst (v := 4) hx hb dL_law_753 (by decide) ?_
      refine lv_iadd hx hb dL_law_754 ?_
      refine lv_topi (fun y271 ey271 => ?_)
      obtain ⟨ty271, ry271⟩ := Rg_addx (a' := (4)) (b' := (3076)) (rfl : x3.toInt = _) (by decide : Int32.toInt 4 = 4) r3 (Rg_c (x := 4) (a := (4)) (b := (4)) (by decide)) (by decide)
      rw [← ey271] at ty271 ry271
      refine va_sld hx hb hX hbl hbA hH.2.2.2.1 (sc_in ty271 hi h6 (by decide)) dL_law_755 ?_
      refine lv_topi (fun y272 ey272 => ?_)
      refine ca_L_67 hx hb hml hown hts hH (c_X10_fit oI oR mx kx) hl.1 mx kx rfl (by decide) (Nat.le_of_ble_eq_true rfl) ⟨by decide, by decide⟩ dL_law_756 (fun y273 I273 J273 R273 H locs hp hH => ?_)
      obtain ⟨⟨oI, -, sc273⟩, eJ273, eR273⟩ := hp
      obtain rfl : J = J273 := eJ273.symm
      obtain rfl : R = R273 := eR273.symm
      have sm : Sm C ms_L_law (I, J, R) (I273, J, R) := sm.tr sc273 rfl
      have xm : XM L C I273 := XM.sm (u := (I, J, R)) (v := (I273, J, R)) xm sc273 rfl rfl
      have xw : XW L C I273 := XW.sm (u := (I, J, R)) (v := (I273, J, R)) xw sc273 rfl rfl
      have ow : Ow L C R := Ow.sm (u := (I, J, R)) (v := (I273, J, R)) ow sc273 rfl
      have rel : RR L C x mo (I273, J, R) := RR.sm (u := (I, J, R)) (v := (I273, J, R)) rel oR sc273 rfl
      refine lv_pop hx hb dL_law_759 rfl ?_
      refine lv_aload_n hx hb dL_law_760 rfl (lv_at hl 2 rfl) ?_
      refine lv_aload_n hx hb dL_law_761 rfl (lv_at hl 0 rfl) ?_
      refine lv_iload_n hx hb dL_law_762 rfl (lv_at hl 3 rfl) ?_
      refine lv_iconst (v := 1) hx hb dL_law_763 (by decide) ?_
      refine lv_iadd hx hb dL_law_764 ?_
      refine lv_topi (fun y274 ey274 => ?_)
      obtain rfl : y265 = y274 := ey265.trans ey274.symm
      refine va_sld hx hb hX hbl hbA hH.2.2.2.1 (sc_in ty265 hi h6 (by decide)) dL_law_765 ?_
      refine lv_topi (fun y275 ey275 => ?_)
      obtain rfl : y266 = y275 := ey266.trans ey275.symm
      refine lv_aload_n hx hb dL_law_766 rfl (lv_at hl 0 rfl) ?_
      refine lv_iload_n hx hb dL_law_767 rfl (lv_at hl 3 rfl) ?_
      refine lv_iconst (v := 2) hx hb dL_law_768 (by decide) ?_
      refine lv_iadd hx hb dL_law_769 ?_
      refine lv_topi (fun y276 ey276 => ?_)
      obtain rfl : y267 = y276 := ey267.trans ey276.symm
      refine va_sld hx hb hX hbl hbA hH.2.2.2.1 (sc_in ty267 hi h6 (by decide)) dL_law_770 ?_
      refine lv_topi (fun y277 ey277 => ?_)
      obtain rfl : y268 = y277 := ey268.trans ey277.symm
      refine lv_aload_n hx hb dL_law_771 rfl (lv_at hl 0 rfl) ?_
      refine lv_iload_n hx hb dL_law_772 rfl (lv_at hl 3 rfl) ?_
      refine lv_iconst (v := 3) hx hb dL_law_773 (by decide) ?_
      refine lv_iadd hx hb dL_law_774 ?_
      refine lv_topi (fun y278 ey278 => ?_)
      obtain rfl : y269 = y278 := ey269.trans ey278.symm
      refine va_sld hx hb hX hbl hbA hH.2.2.2.1 (sc_in ty269 hi h6 (by decide)) dL_law_775 ?_
      refine lv_topi (fun y279 ey279 => ?_)
      obtain rfl : y270 = y279 := ey270.trans ey279.symm
      refine lv_aload_n hx hb dL_law_776 rfl (lv_at hl 0 rfl) ?_
      refine lv_iload_n hx hb dL_law_777 rfl (lv_at hl 3 rfl) ?_
      refine lv_iconst (v := 4) hx hb dL_law_778 (by decide) ?_
      refine lv_iadd hx hb dL_law_779 ?_
      refine lv_topi (fun y280 ey280 => ?_)
      obtain rfl : y271 = y280 := ey271.trans ey280.symm
      refine va_sld hx hb hX hbl hbA hH.2.2.2.1 (sc_in ty271 hi h6 (by decide)) dL_law_780 ?_
      refine lv_topi (fun y281 ey281 => ?_)
      obtain rfl : y272 = y281 := ey272.trans ey281.symm
      refine ca_L_70 hx hb hml hown hts hH (c_X11_fit oI oR mm km) hl.1 mm km rfl (by decide) (Nat.le_of_ble_eq_true rfl) ⟨by decide, by decide⟩ dL_law_781 (fun y282 I282 J282 R282 H locs hp hH => ?_)
      obtain ⟨⟨oI, -, sc282⟩, eJ282, eR282⟩ := hp
      obtain rfl : J = J282 := eJ282.symm
      obtain rfl : R = R282 := eR282.symm
      have sm : Sm C ms_L_law (I, J, R) (I282, J, R) := sm.tr sc282 rfl
      have xm : XM L C I282 := XM.sm (u := (I273, J, R)) (v := (I282, J, R)) xm sc282 rfl rfl
      have xw : XW L C I282 := XW.sm (u := (I273, J, R)) (v := (I282, J, R)) xw sc282 rfl rfl
      have ow : Ow L C R := Ow.sm (u := (I273, J, R)) (v := (I282, J, R)) ow sc282 rfl
      have rel : RR L C x mo (I282, J, R) := RR.sm (u := (I273, J, R)) (v := (I282, J, R)) rel oR sc282 rfl
      refine lv_pop hx hb dL_law_784 rfl ?_
      refine lv_goto (tgt := 1244) hx hb dL_law_785 (by decide) ?_
      exact L_1244 h6 I282 J R _ _ _ hH oI oR xm xw ow rel (lv_sub hl [0, 1, 2, 3] rfl)
    · have r283 : Rg y4 (12) (12) := ⟨by rw [z5]; decide, by rw [z5]; decide⟩
      refine lv_tableIn (tgt := 788) hx hb dL_law_33 (by rw [z5]; decide) (by rw [z5]; decide) (by rw [z5]; rfl) (by decide) ?_
      refine lv_aload_n hx hb dL_law_788 rfl (lv_at hl 1 rfl) ?_
      refine lv_aload_n hx hb dL_law_789 rfl (lv_at hl 0 rfl) ?_
      refine lv_iload_n hx hb dL_law_790 rfl (lv_at hl 3 rfl) ?_
      refine lv_iconst (v := 1) hx hb dL_law_791 (by decide) ?_
      refine lv_iadd hx hb dL_law_792 ?_
      refine lv_topi (fun y284 ey284 => ?_)
      obtain ⟨ty284, ry284⟩ := Rg_addx (a' := (1)) (b' := (3073)) (rfl : x3.toInt = _) (by decide : Int32.toInt 1 = 1) r3 (Rg_c (x := 1) (a := (1)) (b := (1)) (by decide)) (by decide)
      rw [← ey284] at ty284 ry284
      refine va_sld hx hb hX hbl hbA hH.2.2.2.1 (sc_in ty284 hi h6 (by decide)) dL_law_793 ?_
      refine lv_topi (fun y285 ey285 => ?_)
      refine lv_aload_n hx hb dL_law_794 rfl (lv_at hl 0 rfl) ?_
      refine lv_iload_n hx hb dL_law_795 rfl (lv_at hl 3 rfl) ?_
      refine lv_iconst (v := 2) hx hb dL_law_796 (by decide) ?_
      refine lv_iadd hx hb dL_law_797 ?_
      refine lv_topi (fun y286 ey286 => ?_)
      obtain ⟨ty286, ry286⟩ := Rg_addx (a' := (2)) (b' := (3074)) (rfl : x3.toInt = _) (by decide : Int32.toInt 2 = 2) r3 (Rg_c (x := 2) (a := (2)) (b := (2)) (by decide)) (by decide)
      rw [← ey286] at ty286 ry286
      refine va_sld hx hb hX hbl hbA hH.2.2.2.1 (sc_in ty286 hi h6 (by decide)) dL_law_798 ?_
      refine lv_topi (fun y287 ey287 => ?_)
      refine ca_L_71 hx hb hml hown hts hH (c_X10_fits oI oR mx kx) hl.1 mx kx rfl (by decide) (Nat.le_of_ble_eq_true rfl) ⟨by decide, by decide⟩ dL_law_799 (fun y288 I288 J288 R288 H locs hp hH => ?_)
      obtain ⟨⟨oI, -, sc288⟩, eJ288, eR288⟩ := hp
      obtain rfl : J = J288 := eJ288.symm
      obtain rfl : R = R288 := eR288.symm
      have sm : Sm C ms_L_law (I, J, R) (I288, J, R) := sm.tr sc288 rfl
      have xm : XM L C I288 := XM.sm (u := (I, J, R)) (v := (I288, J, R)) xm sc288 rfl rfl
      have xw : XW L C I288 := XW.sm (u := (I, J, R)) (v := (I288, J, R)) xw sc288 rfl rfl
      have ow : Ow L C R := Ow.sm (u := (I, J, R)) (v := (I288, J, R)) ow sc288 rfl
      have rel : RR L C x mo (I288, J, R) := RR.sm (u := (I, J, R)) (v := (I288, J, R)) rel oR sc288 rfl
      refine lv_pop hx hb dL_law_802 rfl ?_
      refine lv_aload_n hx hb dL_law_803 rfl (lv_at hl 2 rfl) ?_
      refine lv_aload_n hx hb dL_law_804 rfl (lv_at hl 0 rfl) ?_
      refine lv_iload_n hx hb dL_law_805 rfl (lv_at hl 3 rfl) ?_
      refine lv_iconst (v := 1) hx hb dL_law_806 (by decide) ?_
      refine lv_iadd hx hb dL_law_807 ?_
      refine lv_topi (fun y289 ey289 => ?_)
      obtain rfl : y284 = y289 := ey284.trans ey289.symm
      refine va_sld hx hb hX hbl hbA hH.2.2.2.1 (sc_in ty284 hi h6 (by decide)) dL_law_808 ?_
      refine lv_topi (fun y290 ey290 => ?_)
      obtain rfl : y285 = y290 := ey285.trans ey290.symm
      refine lv_aload_n hx hb dL_law_809 rfl (lv_at hl 0 rfl) ?_
      refine lv_iload_n hx hb dL_law_810 rfl (lv_at hl 3 rfl) ?_
      refine lv_iconst (v := 2) hx hb dL_law_811 (by decide) ?_
      refine lv_iadd hx hb dL_law_812 ?_
      refine lv_topi (fun y291 ey291 => ?_)
      obtain rfl : y286 = y291 := ey286.trans ey291.symm
      refine va_sld hx hb hX hbl hbA hH.2.2.2.1 (sc_in ty286 hi h6 (by decide)) dL_law_813 ?_
      refine lv_topi (fun y292 ey292 => ?_)
      obtain rfl : y287 = y292 := ey287.trans ey292.symm
      refine ca_L_75 hx hb hml hown hts hH (c_X11_fits oI oR mm km) hl.1 mm km rfl (by decide) (Nat.le_of_ble_eq_true rfl) ⟨by decide, by decide⟩ dL_law_814 (fun y293 I293 J293 R293 H locs hp hH => ?_)
      obtain ⟨⟨oI, -, sc293⟩, eJ293, eR293, ry293⟩ := hp
      obtain rfl : J = J293 := eJ293.symm
      obtain rfl : R = R293 := eR293.symm
      have sm : Sm C ms_L_law (I, J, R) (I293, J, R) := sm.tr sc293 rfl
      have xm : XM L C I293 := XM.sm (u := (I288, J, R)) (v := (I293, J, R)) xm sc293 rfl rfl
      have xw : XW L C I293 := XW.sm (u := (I288, J, R)) (v := (I293, J, R)) xw sc293 rfl rfl
      have ow : Ow L C R := Ow.sm (u := (I288, J, R)) (v := (I293, J, R)) ow sc293 rfl
      have rel : RR L C x mo (I293, J, R) := RR.sm (u := (I288, J, R)) (v := (I293, J, R)) rel oR sc293 rfl
      refine lv_pop hx hb dL_law_817 rfl ?_
      refine lv_goto (tgt := 1244) hx hb dL_law_818 (by decide) ?_
      exact L_1244 h6 I293 J R _ _ _ hH oI oR xm xw ow rel (lv_sub hl [0, 1, 2, 3] rfl)
    · have r294 : Rg y4 (13) (13) := ⟨by rw [z5]; decide, by rw [z5]; decide⟩
      refine lv_tableIn (tgt := 821) hx hb dL_law_33 (by rw [z5]; decide) (by rw [z5]; decide) (by rw [z5]; rfl) (by decide) ?_
      refine lv_aload_n hx hb dL_law_821 rfl (lv_at hl 1 rfl) ?_
      refine lv_aload_n hx hb dL_law_822 rfl (lv_at hl 0 rfl) ?_
      refine lv_iload_n hx hb dL_law_823 rfl (lv_at hl 3 rfl) ?_
      refine lv_iconst (v := 1) hx hb dL_law_824 (by decide) ?_
      refine lv_iadd hx hb dL_law_825 ?_
      refine lv_topi (fun y295 ey295 => ?_)
      obtain ⟨ty295, ry295⟩ := Rg_addx (a' := (1)) (b' := (3073)) (rfl : x3.toInt = _) (by decide : Int32.toInt 1 = 1) r3 (Rg_c (x := 1) (a := (1)) (b := (1)) (by decide)) (by decide)
      rw [← ey295] at ty295 ry295
      refine va_sld hx hb hX hbl hbA hH.2.2.2.1 (sc_in ty295 hi h6 (by decide)) dL_law_826 ?_
      refine lv_topi (fun y296 ey296 => ?_)
      refine lv_aload_n hx hb dL_law_827 rfl (lv_at hl 0 rfl) ?_
      refine lv_iload_n hx hb dL_law_828 rfl (lv_at hl 3 rfl) ?_
      refine lv_iconst (v := 2) hx hb dL_law_829 (by decide) ?_
      refine lv_iadd hx hb dL_law_830 ?_
      refine lv_topi (fun y297 ey297 => ?_)
      obtain ⟨ty297, ry297⟩ := Rg_addx (a' := (2)) (b' := (3074)) (rfl : x3.toInt = _) (by decide : Int32.toInt 2 = 2) r3 (Rg_c (x := 2) (a := (2)) (b := (2)) (by decide)) (by decide)
      rw [← ey297] at ty297 ry297
      refine va_sld hx hb hX hbl hbA hH.2.2.2.1 (sc_in ty297 hi h6 (by decide)) dL_law_831 ?_
      refine lv_topi (fun y298 ey298 => ?_)
      refine ca_L_76 hx hb hml hown hts hH (c_X10_gap oI oR mx kx) hl.1 mx kx rfl (by decide) (Nat.le_of_ble_eq_true rfl) ⟨by decide, by decide⟩ dL_law_832 (fun y299 I299 J299 R299 H locs hp hH => ?_)
      obtain ⟨⟨oI, -, sc299⟩, eJ299, eR299, ry299⟩ := hp
      obtain rfl : J = J299 := eJ299.symm
      obtain rfl : R = R299 := eR299.symm
      have sm : Sm C ms_L_law (I, J, R) (I299, J, R) := sm.tr sc299 rfl
      have xm : XM L C I299 := XM.sm (u := (I, J, R)) (v := (I299, J, R)) xm sc299 rfl rfl
      have xw : XW L C I299 := XW.sm (u := (I, J, R)) (v := (I299, J, R)) xw sc299 rfl rfl
      have ow : Ow L C R := Ow.sm (u := (I, J, R)) (v := (I299, J, R)) ow sc299 rfl
      have rel : RR L C x mo (I299, J, R) := RR.sm (u := (I, J, R)) (v := (I299, J, R)) rel oR sc299 rfl
      refine lv_pop hx hb dL_law_835 rfl ?_
      refine lv_aload_n hx hb dL_law_836 rfl (lv_at hl 2 rfl) ?_
      refine lv_aload_n hx hb dL_law_837 rfl (lv_at hl 0 rfl) ?_
      refine lv_iload_n hx hb dL_law_838 rfl (lv_at hl 3 rfl) ?_
      refine lv_iconst (v := 1) hx hb dL_law_839 (by decide) ?_
      refine lv_iadd hx hb dL_law_840 ?_
      refine lv_topi (fun y300 ey300 => ?_)
      obtain rfl : y295 = y300 := ey295.trans ey300.symm
      refine va_sld hx hb hX hbl hbA hH.2.2.2.1 (sc_in ty295 hi h6 (by decide)) dL_law_841 ?_
      refine lv_topi (fun y301 ey301 => ?_)
      obtain rfl : y296 = y301 := ey296.trans ey301.symm
      refine lv_aload_n hx hb dL_law_842 rfl (lv_at hl 0 rfl) ?_
      refine lv_iload_n hx hb dL_law_843 rfl (lv_at hl 3 rfl) ?_
      refine lv_iconst (v := 2) hx hb dL_law_844 (by decide) ?_
      refine lv_iadd hx hb dL_law_845 ?_
      refine lv_topi (fun y302 ey302 => ?_)
      obtain rfl : y297 = y302 := ey297.trans ey302.symm
      refine va_sld hx hb hX hbl hbA hH.2.2.2.1 (sc_in ty297 hi h6 (by decide)) dL_law_846 ?_
      refine lv_topi (fun y303 ey303 => ?_)
      obtain rfl : y298 = y303 := ey298.trans ey303.symm
      refine ca_L_79 hx hb hml hown hts hH (c_X11_gap oI oR mm km) hl.1 mm km rfl (by decide) (Nat.le_of_ble_eq_true rfl) ⟨by decide, by decide⟩ dL_law_847 (fun y304 I304 J304 R304 H locs hp hH => ?_)
      obtain ⟨⟨oI, -, sc304⟩, eJ304, eR304, ry304⟩ := hp
      obtain rfl : J = J304 := eJ304.symm
      obtain rfl : R = R304 := eR304.symm
      have sm : Sm C ms_L_law (I, J, R) (I304, J, R) := sm.tr sc304 rfl
      have xm : XM L C I304 := XM.sm (u := (I299, J, R)) (v := (I304, J, R)) xm sc304 rfl rfl
      have xw : XW L C I304 := XW.sm (u := (I299, J, R)) (v := (I304, J, R)) xw sc304 rfl rfl
      have ow : Ow L C R := Ow.sm (u := (I299, J, R)) (v := (I304, J, R)) ow sc304 rfl
      have rel : RR L C x mo (I304, J, R) := RR.sm (u := (I299, J, R)) (v := (I304, J, R)) rel oR sc304 rfl
      refine lv_pop hx hb dL_law_850 rfl ?_
      refine lv_goto (tgt := 1244) hx hb dL_law_851 (by decide) ?_
      exact L_1244 h6 I304 J R _ _ _ hH oI oR xm xw ow rel (lv_sub hl [0, 1, 2, 3] rfl)
    · have r305 : Rg y4 (14) (14) := ⟨by rw [z5]; decide, by rw [z5]; decide⟩
      refine lv_tableIn (tgt := 854) hx hb dL_law_33 (by rw [z5]; decide) (by rw [z5]; decide) (by rw [z5]; rfl) (by decide) ?_
      refine lv_aload_n hx hb dL_law_854 rfl (lv_at hl 1 rfl) ?_
      refine lv_aload_n hx hb dL_law_855 rfl (lv_at hl 0 rfl) ?_
      refine lv_iload_n hx hb dL_law_856 rfl (lv_at hl 3 rfl) ?_
      refine lv_iconst (v := 1) hx hb dL_law_857 (by decide) ?_
      refine lv_iadd hx hb dL_law_858 ?_
      refine lv_topi (fun y306 ey306 => ?_)
      obtain ⟨ty306, ry306⟩ := Rg_addx (a' := (1)) (b' := (3073)) (rfl : x3.toInt = _) (by decide : Int32.toInt 1 = 1) r3 (Rg_c (x := 1) (a := (1)) (b := (1)) (by decide)) (by decide)
      rw [← ey306] at ty306 ry306
      refine va_sld hx hb hX hbl hbA hH.2.2.2.1 (sc_in ty306 hi h6 (by decide)) dL_law_859 ?_
      refine lv_topi (fun y307 ey307 => ?_)
      refine lv_aload_n hx hb dL_law_860 rfl (lv_at hl 0 rfl) ?_
      refine lv_iload_n hx hb dL_law_861 rfl (lv_at hl 3 rfl) ?_
      refine lv_iconst (v := 2) hx hb dL_law_862 (by decide) ?_
      refine lv_iadd hx hb dL_law_863 ?_
      refine lv_topi (fun y308 ey308 => ?_)
      obtain ⟨ty308, ry308⟩ := Rg_addx (a' := (2)) (b' := (3074)) (rfl : x3.toInt = _) (by decide : Int32.toInt 2 = 2) r3 (Rg_c (x := 2) (a := (2)) (b := (2)) (by decide)) (by decide)
      rw [← ey308] at ty308 ry308
      refine va_sld hx hb hX hbl hbA hH.2.2.2.1 (sc_in ty308 hi h6 (by decide)) dL_law_864 ?_
      refine lv_topi (fun y309 ey309 => ?_)
      refine lv_aload_n hx hb dL_law_865 rfl (lv_at hl 0 rfl) ?_
      refine lv_iload_n hx hb dL_law_866 rfl (lv_at hl 3 rfl) ?_
      refine lv_iconst (v := 3) hx hb dL_law_867 (by decide) ?_
      refine lv_iadd hx hb dL_law_868 ?_
      refine lv_topi (fun y310 ey310 => ?_)
      obtain ⟨ty310, ry310⟩ := Rg_addx (a' := (3)) (b' := (3075)) (rfl : x3.toInt = _) (by decide : Int32.toInt 3 = 3) r3 (Rg_c (x := 3) (a := (3)) (b := (3)) (by decide)) (by decide)
      rw [← ey310] at ty310 ry310
      refine va_sld hx hb hX hbl hbA hH.2.2.2.1 (sc_in ty310 hi h6 (by decide)) dL_law_869 ?_
      refine lv_topi (fun y311 ey311 => ?_)
      refine ca_L_80 hx hb hml hown hts hH (c_X10_way oI oR mx kx) hl.1 mx kx rfl (by decide) (Nat.le_of_ble_eq_true rfl) ⟨by decide, by decide⟩ dL_law_870 (fun y312 I312 J312 R312 H locs hp hH => ?_)
      obtain ⟨⟨oI, -, sc312⟩, eJ312, eR312⟩ := hp
      obtain rfl : J = J312 := eJ312.symm
      obtain rfl : R = R312 := eR312.symm
      have sm : Sm C ms_L_law (I, J, R) (I312, J, R) := sm.tr sc312 rfl
      have xm : XM L C I312 := XM.sm (u := (I, J, R)) (v := (I312, J, R)) xm sc312 rfl rfl
      have xw : XW L C I312 := XW.sm (u := (I, J, R)) (v := (I312, J, R)) xw sc312 rfl rfl
      have ow : Ow L C R := Ow.sm (u := (I, J, R)) (v := (I312, J, R)) ow sc312 rfl
      have rel : RR L C x mo (I312, J, R) := RR.sm (u := (I, J, R)) (v := (I312, J, R)) rel oR sc312 rfl
      refine lv_pop hx hb dL_law_873 rfl ?_
      refine lv_aload_n hx hb dL_law_874 rfl (lv_at hl 2 rfl) ?_
      refine lv_aload_n hx hb dL_law_875 rfl (lv_at hl 0 rfl) ?_
      refine lv_iload_n hx hb dL_law_876 rfl (lv_at hl 3 rfl) ?_
      refine lv_iconst (v := 1) hx hb dL_law_877 (by decide) ?_
      refine lv_iadd hx hb dL_law_878 ?_
      refine lv_topi (fun y313 ey313 => ?_)
      obtain rfl : y306 = y313 := ey306.trans ey313.symm
      refine va_sld hx hb hX hbl hbA hH.2.2.2.1 (sc_in ty306 hi h6 (by decide)) dL_law_879 ?_
      refine lv_topi (fun y314 ey314 => ?_)
      obtain rfl : y307 = y314 := ey307.trans ey314.symm
      refine lv_aload_n hx hb dL_law_880 rfl (lv_at hl 0 rfl) ?_
      refine lv_iload_n hx hb dL_law_881 rfl (lv_at hl 3 rfl) ?_
      refine lv_iconst (v := 2) hx hb dL_law_882 (by decide) ?_
      refine lv_iadd hx hb dL_law_883 ?_
      refine lv_topi (fun y315 ey315 => ?_)
      obtain rfl : y308 = y315 := ey308.trans ey315.symm
      refine va_sld hx hb hX hbl hbA hH.2.2.2.1 (sc_in ty308 hi h6 (by decide)) dL_law_884 ?_
      refine lv_topi (fun y316 ey316 => ?_)
      obtain rfl : y309 = y316 := ey309.trans ey316.symm
      refine lv_aload_n hx hb dL_law_885 rfl (lv_at hl 0 rfl) ?_
      refine lv_iload_n hx hb dL_law_886 rfl (lv_at hl 3 rfl) ?_
      refine lv_iconst (v := 3) hx hb dL_law_887 (by decide) ?_
      refine lv_iadd hx hb dL_law_888 ?_
      refine lv_topi (fun y317 ey317 => ?_)
      obtain rfl : y310 = y317 := ey310.trans ey317.symm
      refine va_sld hx hb hX hbl hbA hH.2.2.2.1 (sc_in ty310 hi h6 (by decide)) dL_law_889 ?_
      refine lv_topi (fun y318 ey318 => ?_)
      obtain rfl : y311 = y318 := ey311.trans ey318.symm
      refine ca_L_83 hx hb hml hown hts hH (c_X11_way oI oR mm km) hl.1 mm km rfl (by decide) (Nat.le_of_ble_eq_true rfl) ⟨by decide, by decide⟩ dL_law_890 (fun y319 I319 J319 R319 H locs hp hH => ?_)
      obtain ⟨⟨oI, -, sc319⟩, eJ319, eR319, ry319⟩ := hp
      obtain rfl : J = J319 := eJ319.symm
      obtain rfl : R = R319 := eR319.symm
      have sm : Sm C ms_L_law (I, J, R) (I319, J, R) := sm.tr sc319 rfl
      have xm : XM L C I319 := XM.sm (u := (I312, J, R)) (v := (I319, J, R)) xm sc319 rfl rfl
      have xw : XW L C I319 := XW.sm (u := (I312, J, R)) (v := (I319, J, R)) xw sc319 rfl rfl
      have ow : Ow L C R := Ow.sm (u := (I312, J, R)) (v := (I319, J, R)) ow sc319 rfl
      have rel : RR L C x mo (I319, J, R) := RR.sm (u := (I312, J, R)) (v := (I319, J, R)) rel oR sc319 rfl
      refine lv_pop hx hb dL_law_893 rfl ?_
      refine lv_goto (tgt := 1244) hx hb dL_law_894 (by decide) ?_
      exact L_1244 h6 I319 J R _ _ _ hH oI oR xm xw ow rel (lv_sub hl [0, 1, 2, 3] rfl)
    · have r320 : Rg y4 (15) (15) := ⟨by rw [z5]; decide, by rw [z5]; decide⟩
      refine lv_tableIn (tgt := 897) hx hb dL_law_33 (by rw [z5]; decide) (by rw [z5]; decide) (by rw [z5]; rfl) (by decide) ?_
      refine lv_aload_n hx hb dL_law_897 rfl (lv_at hl 1 rfl) ?_
      refine lv_aload_n hx hb dL_law_898 rfl (lv_at hl 0 rfl) ?_
      refine lv_iload_n hx hb dL_law_899 rfl (lv_at hl 3 rfl) ?_
      refine lv_iconst (v := 1) hx hb dL_law_900 (by decide) ?_
      refine lv_iadd hx hb dL_law_901 ?_
      refine lv_topi (fun y321 ey321 => ?_)
      obtain ⟨ty321, ry321⟩ := Rg_addx (a' := (1)) (b' := (3073)) (rfl : x3.toInt = _) (by decide : Int32.toInt 1 = 1) r3 (Rg_c (x := 1) (a := (1)) (b := (1)) (by decide)) (by decide)
      rw [← ey321] at ty321 ry321
      refine va_sld hx hb hX hbl hbA hH.2.2.2.1 (sc_in ty321 hi h6 (by decide)) dL_law_902 ?_
      refine lv_topi (fun y322 ey322 => ?_)
      refine ca_L_84 hx hb hml hown hts hH (c_X10_object oI oR mx kx (by exact uq)) hl.1 mx kx rfl (by decide) (Nat.le_of_ble_eq_true rfl) ⟨by decide, by decide⟩ dL_law_903 (fun y323 I323 J323 R323 H locs hp hH => ?_)
      obtain ⟨⟨oI, -, sc323⟩, eJ323, eR323, ry323, hp323⟩ := hp
      obtain rfl : J = J323 := eJ323.symm
      obtain rfl : R = R323 := eR323.symm
      have sm : Sm C ms_L_law (I, J, R) (I323, J, R) := sm.tr sc323 rfl
      have xm : XM L C I323 := XM.sm (u := (I, J, R)) (v := (I323, J, R)) xm sc323 rfl rfl
      have xw : XW L C I323 := XW.sm (u := (I, J, R)) (v := (I323, J, R)) xw sc323 rfl rfl
      have ow : Ow L C R := Ow.sm (u := (I, J, R)) (v := (I323, J, R)) ow sc323 rfl
      have rel : RR L C x mo (I323, J, R) := RR.sm (u := (I, J, R)) (v := (I323, J, R)) rel oR sc323 rfl
      refine lv_pop hx hb dL_law_906 rfl ?_
      refine lv_aload_n hx hb dL_law_907 rfl (lv_at hl 2 rfl) ?_
      refine lv_aload_n hx hb dL_law_908 rfl (lv_at hl 0 rfl) ?_
      refine lv_iload_n hx hb dL_law_909 rfl (lv_at hl 3 rfl) ?_
      refine lv_iconst (v := 1) hx hb dL_law_910 (by decide) ?_
      refine lv_iadd hx hb dL_law_911 ?_
      refine lv_topi (fun y324 ey324 => ?_)
      obtain rfl : y321 = y324 := ey321.trans ey324.symm
      refine va_sld hx hb hX hbl hbA hH.2.2.2.1 (sc_in ty321 hi h6 (by decide)) dL_law_912 ?_
      refine lv_topi (fun y325 ey325 => ?_)
      obtain rfl : y322 = y325 := ey322.trans ey325.symm
      refine ca_L_87 hx hb hml hown hts hH (c_X11_object oI oR mm km) hl.1 mm km rfl (by decide) (Nat.le_of_ble_eq_true rfl) ⟨by decide, by decide⟩ dL_law_913 (fun y326 I326 J326 R326 H locs hp hH => ?_)
      obtain ⟨⟨oI, -, sc326⟩, eJ326, eR326, ry326, hp326⟩ := hp
      obtain rfl : J = J326 := eJ326.symm
      obtain rfl : R = R326 := eR326.symm
      have sm : Sm C ms_L_law (I, J, R) (I326, J, R) := sm.tr sc326 rfl
      have xm : XM L C I326 := XM.sm (u := (I323, J, R)) (v := (I326, J, R)) xm sc326 rfl rfl
      have xw : XW L C I326 := XW.sm (u := (I323, J, R)) (v := (I326, J, R)) xw sc326 rfl rfl
      have ow : Ow L C R := Ow.sm (u := (I323, J, R)) (v := (I326, J, R)) ow sc326 rfl
      have rel : RR L C x mo (I326, J, R) := RR.sm (u := (I323, J, R)) (v := (I326, J, R)) rel oR sc326 rfl
      refine lv_pop hx hb dL_law_916 rfl ?_
      refine lv_goto (tgt := 1244) hx hb dL_law_917 (by decide) ?_
      exact L_1244 h6 I326 J R _ _ _ hH oI oR xm xw ow rel (lv_sub hl [0, 1, 2, 3] rfl)
    · have r327 : Rg y4 (16) (16) := ⟨by rw [z5]; decide, by rw [z5]; decide⟩
      refine lv_tableIn (tgt := 920) hx hb dL_law_33 (by rw [z5]; decide) (by rw [z5]; decide) (by rw [z5]; rfl) (by decide) ?_
      refine lv_aload_n hx hb dL_law_920 rfl (lv_at hl 1 rfl) ?_
      refine lv_aload_n hx hb dL_law_921 rfl (lv_at hl 0 rfl) ?_
      refine lv_iload_n hx hb dL_law_922 rfl (lv_at hl 3 rfl) ?_
      refine lv_iconst (v := 1) hx hb dL_law_923 (by decide) ?_
      refine lv_iadd hx hb dL_law_924 ?_
      refine lv_topi (fun y328 ey328 => ?_)
      obtain ⟨ty328, ry328⟩ := Rg_addx (a' := (1)) (b' := (3073)) (rfl : x3.toInt = _) (by decide : Int32.toInt 1 = 1) r3 (Rg_c (x := 1) (a := (1)) (b := (1)) (by decide)) (by decide)
      rw [← ey328] at ty328 ry328
      refine va_sld hx hb hX hbl hbA hH.2.2.2.1 (sc_in ty328 hi h6 (by decide)) dL_law_925 ?_
      refine lv_topi (fun y329 ey329 => ?_)
      refine lv_aload_n hx hb dL_law_926 rfl (lv_at hl 0 rfl) ?_
      refine lv_iload_n hx hb dL_law_927 rfl (lv_at hl 3 rfl) ?_
      refine lv_iconst (v := 2) hx hb dL_law_928 (by decide) ?_
      refine lv_iadd hx hb dL_law_929 ?_
      refine lv_topi (fun y330 ey330 => ?_)
      obtain ⟨ty330, ry330⟩ := Rg_addx (a' := (2)) (b' := (3074)) (rfl : x3.toInt = _) (by decide : Int32.toInt 2 = 2) r3 (Rg_c (x := 2) (a := (2)) (b := (2)) (by decide)) (by decide)
      rw [← ey330] at ty330 ry330
      refine va_sld hx hb hX hbl hbA hH.2.2.2.1 (sc_in ty330 hi h6 (by decide)) dL_law_930 ?_
      refine lv_topi (fun y331 ey331 => ?_)
      refine lv_aload_n hx hb dL_law_931 rfl (lv_at hl 0 rfl) ?_
      refine lv_iload_n hx hb dL_law_932 rfl (lv_at hl 3 rfl) ?_
      refine lv_iconst (v := 3) hx hb dL_law_933 (by decide) ?_
      refine lv_iadd hx hb dL_law_934 ?_
      refine lv_topi (fun y332 ey332 => ?_)
      obtain ⟨ty332, ry332⟩ := Rg_addx (a' := (3)) (b' := (3075)) (rfl : x3.toInt = _) (by decide : Int32.toInt 3 = 3) r3 (Rg_c (x := 3) (a := (3)) (b := (3)) (by decide)) (by decide)
      rw [← ey332] at ty332 ry332
      refine va_sld hx hb hX hbl hbA hH.2.2.2.1 (sc_in ty332 hi h6 (by decide)) dL_law_935 ?_
      refine lv_topi (fun y333 ey333 => ?_)
      refine lv_i2l (v := y333.toInt64) hx hb dL_law_936 rfl ?_
      refine lv_bipush (v := 32) hx hb dL_law_937 (by decide) ?_
      refine lv_lshl hx hb dL_law_939 rfl ?_
      refine lv_topl (fun w334 ew334 => ?_)
      refine lv_aload_n hx hb dL_law_940 rfl (lv_at hl 0 rfl) ?_
      refine lv_iload_n hx hb dL_law_941 rfl (lv_at hl 3 rfl) ?_
      refine lv_iconst (v := 4) hx hb dL_law_942 (by decide) ?_
      refine lv_iadd hx hb dL_law_943 ?_
      refine lv_topi (fun y335 ey335 => ?_)
      obtain ⟨ty335, ry335⟩ := Rg_addx (a' := (4)) (b' := (3076)) (rfl : x3.toInt = _) (by decide : Int32.toInt 4 = 4) r3 (Rg_c (x := 4) (a := (4)) (b := (4)) (by decide)) (by decide)
      rw [← ey335] at ty335 ry335
      refine va_sld hx hb hX hbl hbA hH.2.2.2.1 (sc_in ty335 hi h6 (by decide)) dL_law_944 ?_
      refine lv_topi (fun y336 ey336 => ?_)
      refine lv_i2l (v := y336.toInt64) hx hb dL_law_945 rfl ?_
      refine lv_ldc2 (v := 4294967295) hx hb hown (hts _ kkl_L_28) dL_law_946 ?_
      refine lv_land hx hb dL_law_949 ?_
      refine lv_topl (fun w337 ew337 => ?_)
      refine lv_lor hx hb dL_law_950 ?_
      refine lv_topl (fun w338 ew338 => ?_)
      refine ca_L_88 hx hb hml hown hts hH (c_X10_put oI oR mx kx (by exact uq)) hl.1 mx kx rfl (by decide) (Nat.le_of_ble_eq_true rfl) ⟨by decide, by decide⟩ dL_law_951 (fun y339 I339 J339 R339 H locs hp hH => ?_)
      obtain ⟨⟨-, -, sc339⟩, eI339, eR339, ry339, hp339⟩ := hp
      obtain rfl : I = I339 := eI339.symm
      obtain rfl : R = R339 := eR339.symm
      have sm : Sm C ms_L_law (I, J, R) (I, J339, R) := sm.tr sc339 rfl
      have xm : XM L C I := XM.sm (u := (I, J, R)) (v := (I, J339, R)) xm sc339 rfl rfl
      have xw : XW L C I := XW.sm (u := (I, J, R)) (v := (I, J339, R)) xw sc339 rfl rfl
      have ow : Ow L C R := Ow.sm (u := (I, J, R)) (v := (I, J339, R)) ow sc339 rfl
      have rel : RR L C x mo (I, J339, R) := RR.sm (u := (I, J, R)) (v := (I, J339, R)) rel oR sc339 rfl
      refine lv_pop hx hb dL_law_954 rfl ?_
      refine lv_aload_n hx hb dL_law_955 rfl (lv_at hl 2 rfl) ?_
      refine lv_aload_n hx hb dL_law_956 rfl (lv_at hl 0 rfl) ?_
      refine lv_iload_n hx hb dL_law_957 rfl (lv_at hl 3 rfl) ?_
      refine lv_iconst (v := 1) hx hb dL_law_958 (by decide) ?_
      refine lv_iadd hx hb dL_law_959 ?_
      refine lv_topi (fun y340 ey340 => ?_)
      obtain rfl : y328 = y340 := ey328.trans ey340.symm
      refine va_sld hx hb hX hbl hbA hH.2.2.2.1 (sc_in ty328 hi h6 (by decide)) dL_law_960 ?_
      refine lv_topi (fun y341 ey341 => ?_)
      obtain rfl : y329 = y341 := ey329.trans ey341.symm
      refine lv_aload_n hx hb dL_law_961 rfl (lv_at hl 0 rfl) ?_
      refine lv_iload_n hx hb dL_law_962 rfl (lv_at hl 3 rfl) ?_
      refine lv_iconst (v := 2) hx hb dL_law_963 (by decide) ?_
      refine lv_iadd hx hb dL_law_964 ?_
      refine lv_topi (fun y342 ey342 => ?_)
      obtain rfl : y330 = y342 := ey330.trans ey342.symm
      refine va_sld hx hb hX hbl hbA hH.2.2.2.1 (sc_in ty330 hi h6 (by decide)) dL_law_965 ?_
      refine lv_topi (fun y343 ey343 => ?_)
      obtain rfl : y331 = y343 := ey331.trans ey343.symm
      refine lv_aload_n hx hb dL_law_966 rfl (lv_at hl 0 rfl) ?_
      refine lv_iload_n hx hb dL_law_967 rfl (lv_at hl 3 rfl) ?_
      refine lv_iconst (v := 3) hx hb dL_law_968 (by decide) ?_
      refine lv_iadd hx hb dL_law_969 ?_
      refine lv_topi (fun y344 ey344 => ?_)
      obtain rfl : y332 = y344 := ey332.trans ey344.symm
      refine va_sld hx hb hX hbl hbA hH.2.2.2.1 (sc_in ty332 hi h6 (by decide)) dL_law_970 ?_
      refine lv_topi (fun y345 ey345 => ?_)
      obtain rfl : y333 = y345 := ey333.trans ey345.symm
      refine lv_i2l (v := y333.toInt64) hx hb dL_law_971 rfl ?_
      refine lv_bipush (v := 32) hx hb dL_law_972 (by decide) ?_
      refine lv_lshl hx hb dL_law_974 rfl ?_
      refine lv_topl (fun w346 ew346 => ?_)
      obtain rfl : w334 = w346 := ew334.trans ew346.symm
      refine lv_aload_n hx hb dL_law_975 rfl (lv_at hl 0 rfl) ?_
      refine lv_iload_n hx hb dL_law_976 rfl (lv_at hl 3 rfl) ?_
      refine lv_iconst (v := 4) hx hb dL_law_977 (by decide) ?_
      refine lv_iadd hx hb dL_law_978 ?_
      refine lv_topi (fun y347 ey347 => ?_)
      obtain rfl : y335 = y347 := ey335.trans ey347.symm
      refine va_sld hx hb hX hbl hbA hH.2.2.2.1 (sc_in ty335 hi h6 (by decide)) dL_law_979 ?_
      refine lv_topi (fun y348 ey348 => ?_)
      obtain rfl : y336 = y348 := ey336.trans ey348.symm
      refine lv_i2l (v := y336.toInt64) hx hb dL_law_980 rfl ?_
      refine lv_ldc2 (v := 4294967295) hx hb hown (hts _ kkl_L_28) dL_law_981 ?_
      refine lv_land hx hb dL_law_984 ?_
      refine lv_topl (fun w349 ew349 => ?_)
      obtain rfl : w337 = w349 := ew337.trans ew349.symm
      refine lv_lor hx hb dL_law_985 ?_
      refine lv_topl (fun w350 ew350 => ?_)
      obtain rfl : w338 = w350 := ew338.trans ew350.symm
      refine ca_L_91 hx hb hml hown hts hH (c_X11_put oI oR mm km) hl.1 mm km rfl (by decide) (Nat.le_of_ble_eq_true rfl) ⟨by decide, by decide⟩ dL_law_986 (fun y351 I351 J351 R351 H locs hp hH => ?_)
      obtain ⟨⟨oI, -, sc351⟩, eR351, ry351, hp351⟩ := hp
      obtain rfl : R = R351 := eR351.symm
      have sm : Sm C ms_L_law (I, J, R) (I351, J351, R) := sm.tr sc351 rfl
      have xm : XM L C I351 := XM.sm (u := (I, J339, R)) (v := (I351, J351, R)) xm sc351 rfl rfl
      have xw : XW L C I351 := XW.sm (u := (I, J339, R)) (v := (I351, J351, R)) xw sc351 rfl rfl
      have ow : Ow L C R := Ow.sm (u := (I, J339, R)) (v := (I351, J351, R)) ow sc351 rfl
      have rel : RR L C x mo (I351, J351, R) := RR.sm (u := (I, J339, R)) (v := (I351, J351, R)) rel oR sc351 rfl
      refine lv_pop hx hb dL_law_989 rfl ?_
      refine lv_goto (tgt := 1244) hx hb dL_law_990 (by decide) ?_
      exact L_1244 h6 I351 J351 R _ _ _ hH oI oR xm xw ow rel (lv_sub hl [0, 1, 2, 3] rfl)
    · have r352 : Rg y4 (17) (17) := ⟨by rw [z5]; decide, by rw [z5]; decide⟩
      refine lv_tableIn (tgt := 993) hx hb dL_law_33 (by rw [z5]; decide) (by rw [z5]; decide) (by rw [z5]; rfl) (by decide) ?_
      refine lv_aload_n hx hb dL_law_993 rfl (lv_at hl 1 rfl) ?_
      refine lv_aload_n hx hb dL_law_994 rfl (lv_at hl 0 rfl) ?_
      refine lv_iload_n hx hb dL_law_995 rfl (lv_at hl 3 rfl) ?_
      refine lv_iconst (v := 1) hx hb dL_law_996 (by decide) ?_
      refine lv_iadd hx hb dL_law_997 ?_
      refine lv_topi (fun y353 ey353 => ?_)
      obtain ⟨ty353, ry353⟩ := Rg_addx (a' := (1)) (b' := (3073)) (rfl : x3.toInt = _) (by decide : Int32.toInt 1 = 1) r3 (Rg_c (x := 1) (a := (1)) (b := (1)) (by decide)) (by decide)
      rw [← ey353] at ty353 ry353
      refine va_sld hx hb hX hbl hbA hH.2.2.2.1 (sc_in ty353 hi h6 (by decide)) dL_law_998 ?_
      refine lv_topi (fun y354 ey354 => ?_)
      refine lv_aload_n hx hb dL_law_999 rfl (lv_at hl 0 rfl) ?_
      refine lv_iload_n hx hb dL_law_1000 rfl (lv_at hl 3 rfl) ?_
      refine lv_iconst (v := 2) hx hb dL_law_1001 (by decide) ?_
      refine lv_iadd hx hb dL_law_1002 ?_
      refine lv_topi (fun y355 ey355 => ?_)
      obtain ⟨ty355, ry355⟩ := Rg_addx (a' := (2)) (b' := (3074)) (rfl : x3.toInt = _) (by decide : Int32.toInt 2 = 2) r3 (Rg_c (x := 2) (a := (2)) (b := (2)) (by decide)) (by decide)
      rw [← ey355] at ty355 ry355
      refine va_sld hx hb hX hbl hbA hH.2.2.2.1 (sc_in ty355 hi h6 (by decide)) dL_law_1003 ?_
      refine lv_topi (fun y356 ey356 => ?_)
      refine ca_L_92 hx hb hml hown hts hH (c_X10_field oI oR mx kx) hl.1 mx kx rfl (by decide) (Nat.le_of_ble_eq_true rfl) ⟨by decide, by decide⟩ dL_law_1004 (fun w357 I357 J357 R357 H locs hp hH => ?_)
      obtain ⟨eI357, eJ357, eR357⟩ := hp
      obtain rfl : I = I357 := eI357.symm
      obtain rfl : J = J357 := eJ357.symm
      obtain rfl : R = R357 := eR357.symm
      refine lv_pop2_2 hx hb dL_law_1007 rfl ?_
      refine lv_aload_n hx hb dL_law_1008 rfl (lv_at hl 2 rfl) ?_
      refine lv_aload_n hx hb dL_law_1009 rfl (lv_at hl 0 rfl) ?_
      refine lv_iload_n hx hb dL_law_1010 rfl (lv_at hl 3 rfl) ?_
      refine lv_iconst (v := 1) hx hb dL_law_1011 (by decide) ?_
      refine lv_iadd hx hb dL_law_1012 ?_
      refine lv_topi (fun y358 ey358 => ?_)
      obtain rfl : y353 = y358 := ey353.trans ey358.symm
      refine va_sld hx hb hX hbl hbA hH.2.2.2.1 (sc_in ty353 hi h6 (by decide)) dL_law_1013 ?_
      refine lv_topi (fun y359 ey359 => ?_)
      obtain rfl : y354 = y359 := ey354.trans ey359.symm
      refine lv_aload_n hx hb dL_law_1014 rfl (lv_at hl 0 rfl) ?_
      refine lv_iload_n hx hb dL_law_1015 rfl (lv_at hl 3 rfl) ?_
      refine lv_iconst (v := 2) hx hb dL_law_1016 (by decide) ?_
      refine lv_iadd hx hb dL_law_1017 ?_
      refine lv_topi (fun y360 ey360 => ?_)
      obtain rfl : y355 = y360 := ey355.trans ey360.symm
      refine va_sld hx hb hX hbl hbA hH.2.2.2.1 (sc_in ty355 hi h6 (by decide)) dL_law_1018 ?_
      refine lv_topi (fun y361 ey361 => ?_)
      obtain rfl : y356 = y361 := ey356.trans ey361.symm
      refine ca_L_96 hx hb hml hown hts hH (c_X11_field oI oR mm km) hl.1 mm km rfl (by decide) (Nat.le_of_ble_eq_true rfl) ⟨by decide, by decide⟩ dL_law_1019 (fun w362 I362 J362 R362 H locs hp hH => ?_)
      obtain ⟨⟨oI, -, sc362⟩, eJ362, eR362⟩ := hp
      obtain rfl : J = J362 := eJ362.symm
      obtain rfl : R = R362 := eR362.symm
      have sm : Sm C ms_L_law (I, J, R) (I362, J, R) := sm.tr sc362 rfl
      have xm : XM L C I362 := XM.sm (u := (I, J, R)) (v := (I362, J, R)) xm sc362 rfl rfl
      have xw : XW L C I362 := XW.sm (u := (I, J, R)) (v := (I362, J, R)) xw sc362 rfl rfl
      have ow : Ow L C R := Ow.sm (u := (I, J, R)) (v := (I362, J, R)) ow sc362 rfl
      have rel : RR L C x mo (I362, J, R) := RR.sm (u := (I, J, R)) (v := (I362, J, R)) rel oR sc362 rfl
      refine lv_pop2_2 hx hb dL_law_1022 rfl ?_
      refine lv_goto (tgt := 1244) hx hb dL_law_1023 (by decide) ?_
      exact L_1244 h6 I362 J R _ _ _ hH oI oR xm xw ow rel (lv_sub hl [0, 1, 2, 3] rfl)
    · have r363 : Rg y4 (18) (18) := ⟨by rw [z5]; decide, by rw [z5]; decide⟩
      refine lv_tableIn (tgt := 1026) hx hb dL_law_33 (by rw [z5]; decide) (by rw [z5]; decide) (by rw [z5]; rfl) (by decide) ?_
      refine lv_aload_n hx hb dL_law_1026 rfl (lv_at hl 1 rfl) ?_
      refine lv_aload_n hx hb dL_law_1027 rfl (lv_at hl 0 rfl) ?_
      refine lv_iload_n hx hb dL_law_1028 rfl (lv_at hl 3 rfl) ?_
      refine lv_iconst (v := 1) hx hb dL_law_1029 (by decide) ?_
      refine lv_iadd hx hb dL_law_1030 ?_
      refine lv_topi (fun y364 ey364 => ?_)
      obtain ⟨ty364, ry364⟩ := Rg_addx (a' := (1)) (b' := (3073)) (rfl : x3.toInt = _) (by decide : Int32.toInt 1 = 1) r3 (Rg_c (x := 1) (a := (1)) (b := (1)) (by decide)) (by decide)
      rw [← ey364] at ty364 ry364
      refine va_sld hx hb hX hbl hbA hH.2.2.2.1 (sc_in ty364 hi h6 (by decide)) dL_law_1031 ?_
      refine lv_topi (fun y365 ey365 => ?_)
      refine lv_aload_n hx hb dL_law_1032 rfl (lv_at hl 0 rfl) ?_
      refine lv_iload_n hx hb dL_law_1033 rfl (lv_at hl 3 rfl) ?_
      refine lv_iconst (v := 2) hx hb dL_law_1034 (by decide) ?_
      refine lv_iadd hx hb dL_law_1035 ?_
      refine lv_topi (fun y366 ey366 => ?_)
      obtain ⟨ty366, ry366⟩ := Rg_addx (a' := (2)) (b' := (3074)) (rfl : x3.toInt = _) (by decide : Int32.toInt 2 = 2) r3 (Rg_c (x := 2) (a := (2)) (b := (2)) (by decide)) (by decide)
      rw [← ey366] at ty366 ry366
      refine va_sld hx hb hX hbl hbA hH.2.2.2.1 (sc_in ty366 hi h6 (by decide)) dL_law_1036 ?_
      refine lv_topi (fun y367 ey367 => ?_)
      refine lv_i2l (v := y367.toInt64) hx hb dL_law_1037 rfl ?_
      refine lv_bipush (v := 32) hx hb dL_law_1038 (by decide) ?_
      refine lv_lshl hx hb dL_law_1040 rfl ?_
      refine lv_topl (fun w368 ew368 => ?_)
      refine lv_aload_n hx hb dL_law_1041 rfl (lv_at hl 0 rfl) ?_
      refine lv_iload_n hx hb dL_law_1042 rfl (lv_at hl 3 rfl) ?_
      refine lv_iconst (v := 3) hx hb dL_law_1043 (by decide) ?_
      refine lv_iadd hx hb dL_law_1044 ?_
      refine lv_topi (fun y369 ey369 => ?_)
      obtain ⟨ty369, ry369⟩ := Rg_addx (a' := (3)) (b' := (3075)) (rfl : x3.toInt = _) (by decide : Int32.toInt 3 = 3) r3 (Rg_c (x := 3) (a := (3)) (b := (3)) (by decide)) (by decide)
      rw [← ey369] at ty369 ry369
      refine va_sld hx hb hX hbl hbA hH.2.2.2.1 (sc_in ty369 hi h6 (by decide)) dL_law_1045 ?_
      refine lv_topi (fun y370 ey370 => ?_)
      refine lv_i2l (v := y370.toInt64) hx hb dL_law_1046 rfl ?_
      refine lv_ldc2 (v := 4294967295) hx hb hown (hts _ kkl_L_28) dL_law_1047 ?_
      refine lv_land hx hb dL_law_1050 ?_
      refine lv_topl (fun w371 ew371 => ?_)
      refine lv_lor hx hb dL_law_1051 ?_
      refine lv_topl (fun w372 ew372 => ?_)
      refine ca_L_97 hx hb hml hown hts hH (c_X10_hand oI oR mx kx) hl.1 mx kx rfl (by decide) (Nat.le_of_ble_eq_true rfl) ⟨by decide, by decide⟩ dL_law_1052 (fun y373 I373 J373 R373 H locs hp hH => ?_)
      obtain ⟨⟨-, -, sc373⟩, eI373, eR373, ry373, hp373⟩ := hp
      obtain rfl : I = I373 := eI373.symm
      obtain rfl : R = R373 := eR373.symm
      have sm : Sm C ms_L_law (I, J, R) (I, J373, R) := sm.tr sc373 rfl
      have xm : XM L C I := XM.sm (u := (I, J, R)) (v := (I, J373, R)) xm sc373 rfl rfl
      have xw : XW L C I := XW.sm (u := (I, J, R)) (v := (I, J373, R)) xw sc373 rfl rfl
      have ow : Ow L C R := Ow.sm (u := (I, J, R)) (v := (I, J373, R)) ow sc373 rfl
      have rel : RR L C x mo (I, J373, R) := RR.sm (u := (I, J, R)) (v := (I, J373, R)) rel oR sc373 rfl
      refine lv_pop hx hb dL_law_1055 rfl ?_
      refine lv_aload_n hx hb dL_law_1056 rfl (lv_at hl 2 rfl) ?_
      refine lv_aload_n hx hb dL_law_1057 rfl (lv_at hl 0 rfl) ?_
      refine lv_iload_n hx hb dL_law_1058 rfl (lv_at hl 3 rfl) ?_
      refine lv_iconst (v := 1) hx hb dL_law_1059 (by decide) ?_
      refine lv_iadd hx hb dL_law_1060 ?_
      refine lv_topi (fun y374 ey374 => ?_)
      obtain rfl : y364 = y374 := ey364.trans ey374.symm
      refine va_sld hx hb hX hbl hbA hH.2.2.2.1 (sc_in ty364 hi h6 (by decide)) dL_law_1061 ?_
      refine lv_topi (fun y375 ey375 => ?_)
      obtain rfl : y365 = y375 := ey365.trans ey375.symm
      refine lv_aload_n hx hb dL_law_1062 rfl (lv_at hl 0 rfl) ?_
      refine lv_iload_n hx hb dL_law_1063 rfl (lv_at hl 3 rfl) ?_
      refine lv_iconst (v := 2) hx hb dL_law_1064 (by decide) ?_
      refine lv_iadd hx hb dL_law_1065 ?_
      refine lv_topi (fun y376 ey376 => ?_)
      obtain rfl : y366 = y376 := ey366.trans ey376.symm
      refine va_sld hx hb hX hbl hbA hH.2.2.2.1 (sc_in ty366 hi h6 (by decide)) dL_law_1066 ?_
      refine lv_topi (fun y377 ey377 => ?_)
      obtain rfl : y367 = y377 := ey367.trans ey377.symm
      refine lv_i2l (v := y367.toInt64) hx hb dL_law_1067 rfl ?_
      refine lv_bipush (v := 32) hx hb dL_law_1068 (by decide) ?_
      refine lv_lshl hx hb dL_law_1070 rfl ?_
      refine lv_topl (fun w378 ew378 => ?_)
      obtain rfl : w368 = w378 := ew368.trans ew378.symm
      refine lv_aload_n hx hb dL_law_1071 rfl (lv_at hl 0 rfl) ?_
      refine lv_iload_n hx hb dL_law_1072 rfl (lv_at hl 3 rfl) ?_
      refine lv_iconst (v := 3) hx hb dL_law_1073 (by decide) ?_
      refine lv_iadd hx hb dL_law_1074 ?_
      refine lv_topi (fun y379 ey379 => ?_)
      obtain rfl : y369 = y379 := ey369.trans ey379.symm
      refine va_sld hx hb hX hbl hbA hH.2.2.2.1 (sc_in ty369 hi h6 (by decide)) dL_law_1075 ?_
      refine lv_topi (fun y380 ey380 => ?_)
      obtain rfl : y370 = y380 := ey370.trans ey380.symm
      refine lv_i2l (v := y370.toInt64) hx hb dL_law_1076 rfl ?_
      refine lv_ldc2 (v := 4294967295) hx hb hown (hts _ kkl_L_28) dL_law_1077 ?_
      refine lv_land hx hb dL_law_1080 ?_
      refine lv_topl (fun w381 ew381 => ?_)
      obtain rfl : w371 = w381 := ew371.trans ew381.symm
      refine lv_lor hx hb dL_law_1081 ?_
      refine lv_topl (fun w382 ew382 => ?_)
      obtain rfl : w372 = w382 := ew372.trans ew382.symm
      refine ca_L_101 hx hb hml hown hts hH (c_X11_hand oI oR mm km) hl.1 mm km rfl (by decide) (Nat.le_of_ble_eq_true rfl) ⟨by decide, by decide⟩ dL_law_1082 (fun y383 I383 J383 R383 H locs hp hH => ?_)
      obtain ⟨⟨oI, -, sc383⟩, eR383, ry383, hp383⟩ := hp
      obtain rfl : R = R383 := eR383.symm
      have sm : Sm C ms_L_law (I, J, R) (I383, J383, R) := sm.tr sc383 rfl
      have xm : XM L C I383 := XM.sm (u := (I, J373, R)) (v := (I383, J383, R)) xm sc383 rfl rfl
      have xw : XW L C I383 := XW.sm (u := (I, J373, R)) (v := (I383, J383, R)) xw sc383 rfl rfl
      have ow : Ow L C R := Ow.sm (u := (I, J373, R)) (v := (I383, J383, R)) ow sc383 rfl
      have rel : RR L C x mo (I383, J383, R) := RR.sm (u := (I, J373, R)) (v := (I383, J383, R)) rel oR sc383 rfl
      refine lv_pop hx hb dL_law_1085 rfl ?_
      refine lv_goto (tgt := 1244) hx hb dL_law_1086 (by decide) ?_
      exact L_1244 h6 I383 J383 R _ _ _ hH oI oR xm xw ow rel (lv_sub hl [0, 1, 2, 3] rfl)
    · have r384 : Rg y4 (19) (19) := ⟨by rw [z5]; decide, by rw [z5]; decide⟩
      refine lv_tableIn (tgt := 1089) hx hb dL_law_33 (by rw [z5]; decide) (by rw [z5]; decide) (by rw [z5]; rfl) (by decide) ?_
      refine lv_aload_n hx hb dL_law_1089 rfl (lv_at hl 1 rfl) ?_
      refine lv_aload_n hx hb dL_law_1090 rfl (lv_at hl 0 rfl) ?_
      refine lv_iload_n hx hb dL_law_1091 rfl (lv_at hl 3 rfl) ?_
      refine lv_iconst (v := 1) hx hb dL_law_1092 (by decide) ?_
      refine lv_iadd hx hb dL_law_1093 ?_
      refine lv_topi (fun y385 ey385 => ?_)
      obtain ⟨ty385, ry385⟩ := Rg_addx (a' := (1)) (b' := (3073)) (rfl : x3.toInt = _) (by decide : Int32.toInt 1 = 1) r3 (Rg_c (x := 1) (a := (1)) (b := (1)) (by decide)) (by decide)
      rw [← ey385] at ty385 ry385
      refine va_sld hx hb hX hbl hbA hH.2.2.2.1 (sc_in ty385 hi h6 (by decide)) dL_law_1094 ?_
      refine lv_topi (fun y386 ey386 => ?_)
      refine lv_aload_n hx hb dL_law_1095 rfl (lv_at hl 0 rfl) ?_
      refine lv_iload_n hx hb dL_law_1096 rfl (lv_at hl 3 rfl) ?_
      refine lv_iconst (v := 2) hx hb dL_law_1097 (by decide) ?_
      refine lv_iadd hx hb dL_law_1098 ?_
      refine lv_topi (fun y387 ey387 => ?_)
      obtain ⟨ty387, ry387⟩ := Rg_addx (a' := (2)) (b' := (3074)) (rfl : x3.toInt = _) (by decide : Int32.toInt 2 = 2) r3 (Rg_c (x := 2) (a := (2)) (b := (2)) (by decide)) (by decide)
      rw [← ey387] at ty387 ry387
      refine va_sld hx hb hX hbl hbA hH.2.2.2.1 (sc_in ty387 hi h6 (by decide)) dL_law_1099 ?_
      refine lv_topi (fun y388 ey388 => ?_)
      refine lv_aload_n hx hb dL_law_1100 rfl (lv_at hl 0 rfl) ?_
      refine lv_iload_n hx hb dL_law_1101 rfl (lv_at hl 3 rfl) ?_
      refine lv_iconst (v := 3) hx hb dL_law_1102 (by decide) ?_
      refine lv_iadd hx hb dL_law_1103 ?_
      refine lv_topi (fun y389 ey389 => ?_)
      obtain ⟨ty389, ry389⟩ := Rg_addx (a' := (3)) (b' := (3075)) (rfl : x3.toInt = _) (by decide : Int32.toInt 3 = 3) r3 (Rg_c (x := 3) (a := (3)) (b := (3)) (by decide)) (by decide)
      rw [← ey389] at ty389 ry389
      refine va_sld hx hb hX hbl hbA hH.2.2.2.1 (sc_in ty389 hi h6 (by decide)) dL_law_1104 ?_
      refine lv_topi (fun y390 ey390 => ?_)
      refine ca_L_102 hx hb hml hown hts hH (c_X10_call oI oR mx kx (by exact xm)) hl.1 mx kx rfl (by decide) (Nat.le_of_ble_eq_true rfl) ⟨by decide, by decide⟩ dL_law_1105 (fun y391 I391 J391 R391 H locs hp hH => ?_)
      obtain ⟨⟨oI, oR, sc391⟩, ry391⟩ := hp
      have sm : Sm C ms_L_law (I, J, R) (I391, J391, R391) := sm.tr sc391 rfl
      have xm : XM L C I391 := XM.sm (u := (I, J, R)) (v := (I391, J391, R391)) xm sc391 rfl rfl
      have xw : XW L C I391 := XW.sm (u := (I, J, R)) (v := (I391, J391, R391)) xw sc391 rfl rfl
      have ow : Ow L C R391 := Ow.sm (u := (I, J, R)) (v := (I391, J391, R391)) ow sc391 rfl
      have rel : RR L C x mo (I391, J391, R391) := RR.sm (u := (I, J, R)) (v := (I391, J391, R391)) rel oR sc391 rfl
      refine lv_pop hx hb dL_law_1108 rfl ?_
      refine lv_aload_n hx hb dL_law_1109 rfl (lv_at hl 2 rfl) ?_
      refine lv_aload_n hx hb dL_law_1110 rfl (lv_at hl 0 rfl) ?_
      refine lv_iload_n hx hb dL_law_1111 rfl (lv_at hl 3 rfl) ?_
      refine lv_iconst (v := 1) hx hb dL_law_1112 (by decide) ?_
      refine lv_iadd hx hb dL_law_1113 ?_
      refine lv_topi (fun y392 ey392 => ?_)
      obtain rfl : y385 = y392 := ey385.trans ey392.symm
      refine va_sld hx hb hX hbl hbA hH.2.2.2.1 (sc_in ty385 hi h6 (by decide)) dL_law_1114 ?_
      refine lv_topi (fun y393 ey393 => ?_)
      obtain rfl : y386 = y393 := ey386.trans ey393.symm
      refine lv_aload_n hx hb dL_law_1115 rfl (lv_at hl 0 rfl) ?_
      refine lv_iload_n hx hb dL_law_1116 rfl (lv_at hl 3 rfl) ?_
      refine lv_iconst (v := 2) hx hb dL_law_1117 (by decide) ?_
      refine lv_iadd hx hb dL_law_1118 ?_
      refine lv_topi (fun y394 ey394 => ?_)
      obtain rfl : y387 = y394 := ey387.trans ey394.symm
      refine va_sld hx hb hX hbl hbA hH.2.2.2.1 (sc_in ty387 hi h6 (by decide)) dL_law_1119 ?_
      refine lv_topi (fun y395 ey395 => ?_)
      obtain rfl : y388 = y395 := ey388.trans ey395.symm
      refine lv_aload_n hx hb dL_law_1120 rfl (lv_at hl 0 rfl) ?_
      refine lv_iload_n hx hb dL_law_1121 rfl (lv_at hl 3 rfl) ?_
      refine lv_iconst (v := 3) hx hb dL_law_1122 (by decide) ?_
      refine lv_iadd hx hb dL_law_1123 ?_
      refine lv_topi (fun y396 ey396 => ?_)
      obtain rfl : y389 = y396 := ey389.trans ey396.symm
      refine va_sld hx hb hX hbl hbA hH.2.2.2.1 (sc_in ty389 hi h6 (by decide)) dL_law_1124 ?_
      refine lv_topi (fun y397 ey397 => ?_)
      obtain rfl : y390 = y397 := ey390.trans ey397.symm
      refine ca_L_105 hx hb hml hown hts hH (c_X11_call oI oR mm km (by exact xw)) hl.1 mm km rfl (by decide) (Nat.le_of_ble_eq_true rfl) ⟨by decide, by decide⟩ dL_law_1125 (fun y398 I398 J398 R398 H locs hp hH => ?_)
      obtain ⟨⟨oI, -, sc398⟩, eR398⟩ := hp
      obtain rfl : R391 = R398 := eR398.symm
      have sm : Sm C ms_L_law (I, J, R) (I398, J398, R391) := sm.tr sc398 rfl
      have xm : XM L C I398 := XM.sm (u := (I391, J391, R391)) (v := (I398, J398, R391)) xm sc398 rfl rfl
      have xw : XW L C I398 := XW.sm (u := (I391, J391, R391)) (v := (I398, J398, R391)) xw sc398 rfl rfl
      have ow : Ow L C R391 := Ow.sm (u := (I391, J391, R391)) (v := (I398, J398, R391)) ow sc398 rfl
      have rel : RR L C x mo (I398, J398, R391) := RR.sm (u := (I391, J391, R391)) (v := (I398, J398, R391)) rel oR sc398 rfl
      refine lv_pop hx hb dL_law_1128 rfl ?_
      refine lv_goto (tgt := 1244) hx hb dL_law_1129 (by decide) ?_
      exact L_1244 h6 I398 J398 R391 _ _ _ hH oI oR xm xw ow rel (lv_sub hl [0, 1, 2, 3] rfl)
    · have r399 : Rg y4 (20) (20) := ⟨by rw [z5]; decide, by rw [z5]; decide⟩
      refine lv_tableIn (tgt := 1132) hx hb dL_law_33 (by rw [z5]; decide) (by rw [z5]; decide) (by rw [z5]; rfl) (by decide) ?_
      refine lv_aload_n hx hb dL_law_1132 rfl (lv_at hl 1 rfl) ?_
      refine lv_aload_n hx hb dL_law_1133 rfl (lv_at hl 0 rfl) ?_
      refine lv_iload_n hx hb dL_law_1134 rfl (lv_at hl 3 rfl) ?_
      refine lv_iconst (v := 1) hx hb dL_law_1135 (by decide) ?_
      refine lv_iadd hx hb dL_law_1136 ?_
      refine lv_topi (fun y400 ey400 => ?_)
      obtain ⟨ty400, ry400⟩ := Rg_addx (a' := (1)) (b' := (3073)) (rfl : x3.toInt = _) (by decide : Int32.toInt 1 = 1) r3 (Rg_c (x := 1) (a := (1)) (b := (1)) (by decide)) (by decide)
      rw [← ey400] at ty400 ry400
      refine va_sld hx hb hX hbl hbA hH.2.2.2.1 (sc_in ty400 hi h6 (by decide)) dL_law_1137 ?_
      refine lv_topi (fun y401 ey401 => ?_)
      refine lv_aload_n hx hb dL_law_1138 rfl (lv_at hl 0 rfl) ?_
      refine lv_iload_n hx hb dL_law_1139 rfl (lv_at hl 3 rfl) ?_
      refine lv_iconst (v := 2) hx hb dL_law_1140 (by decide) ?_
      refine lv_iadd hx hb dL_law_1141 ?_
      refine lv_topi (fun y402 ey402 => ?_)
      obtain ⟨ty402, ry402⟩ := Rg_addx (a' := (2)) (b' := (3074)) (rfl : x3.toInt = _) (by decide : Int32.toInt 2 = 2) r3 (Rg_c (x := 2) (a := (2)) (b := (2)) (by decide)) (by decide)
      rw [← ey402] at ty402 ry402
      refine va_sld hx hb hX hbl hbA hH.2.2.2.1 (sc_in ty402 hi h6 (by decide)) dL_law_1142 ?_
      refine lv_topi (fun y403 ey403 => ?_)
      refine lv_aload_n hx hb dL_law_1143 rfl (lv_at hl 0 rfl) ?_
      refine lv_iload_n hx hb dL_law_1144 rfl (lv_at hl 3 rfl) ?_
      refine lv_iconst (v := 3) hx hb dL_law_1145 (by decide) ?_
      refine lv_iadd hx hb dL_law_1146 ?_
      refine lv_topi (fun y404 ey404 => ?_)
      obtain ⟨ty404, ry404⟩ := Rg_addx (a' := (3)) (b' := (3075)) (rfl : x3.toInt = _) (by decide : Int32.toInt 3 = 3) r3 (Rg_c (x := 3) (a := (3)) (b := (3)) (by decide)) (by decide)
      rw [← ey404] at ty404 ry404
      refine va_sld hx hb hX hbl hbA hH.2.2.2.1 (sc_in ty404 hi h6 (by decide)) dL_law_1147 ?_
      refine lv_topi (fun y405 ey405 => ?_)
      refine lv_aload_n hx hb dL_law_1148 rfl (lv_at hl 0 rfl) ?_
      refine lv_iload_n hx hb dL_law_1149 rfl (lv_at hl 3 rfl) ?_
      refine lv_iconst (v := 4) hx hb dL_law_1150 (by decide) ?_
      refine lv_iadd hx hb dL_law_1151 ?_
      refine lv_topi (fun y406 ey406 => ?_)
      obtain ⟨ty406, ry406⟩ := Rg_addx (a' := (4)) (b' := (3076)) (rfl : x3.toInt = _) (by decide : Int32.toInt 4 = 4) r3 (Rg_c (x := 4) (a := (4)) (b := (4)) (by decide)) (by decide)
      rw [← ey406] at ty406 ry406
      refine va_sld hx hb hX hbl hbA hH.2.2.2.1 (sc_in ty406 hi h6 (by decide)) dL_law_1152 ?_
      refine lv_topi (fun y407 ey407 => ?_)
      refine ca_L_106 hx hb hml hown hts hH (c_X10_through oI oR mx kx (by exact xm)) hl.1 mx kx rfl (by decide) (Nat.le_of_ble_eq_true rfl) ⟨by decide, by decide⟩ dL_law_1153 (fun y408 I408 J408 R408 H locs hp hH => ?_)
      obtain ⟨⟨oI, oR, sc408⟩, ry408⟩ := hp
      have sm : Sm C ms_L_law (I, J, R) (I408, J408, R408) := sm.tr sc408 rfl
      have xm : XM L C I408 := XM.sm (u := (I, J, R)) (v := (I408, J408, R408)) xm sc408 rfl rfl
      have xw : XW L C I408 := XW.sm (u := (I, J, R)) (v := (I408, J408, R408)) xw sc408 rfl rfl
      have ow : Ow L C R408 := Ow.sm (u := (I, J, R)) (v := (I408, J408, R408)) ow sc408 rfl
      have rel : RR L C x mo (I408, J408, R408) := RR.sm (u := (I, J, R)) (v := (I408, J408, R408)) rel oR sc408 rfl
      refine lv_pop hx hb dL_law_1156 rfl ?_
      refine lv_aload_n hx hb dL_law_1157 rfl (lv_at hl 2 rfl) ?_
      refine lv_aload_n hx hb dL_law_1158 rfl (lv_at hl 0 rfl) ?_
      refine lv_iload_n hx hb dL_law_1159 rfl (lv_at hl 3 rfl) ?_
      refine lv_iconst (v := 1) hx hb dL_law_1160 (by decide) ?_
      refine lv_iadd hx hb dL_law_1161 ?_
      refine lv_topi (fun y409 ey409 => ?_)
      obtain rfl : y400 = y409 := ey400.trans ey409.symm
      refine va_sld hx hb hX hbl hbA hH.2.2.2.1 (sc_in ty400 hi h6 (by decide)) dL_law_1162 ?_
      refine lv_topi (fun y410 ey410 => ?_)
      obtain rfl : y401 = y410 := ey401.trans ey410.symm
      refine lv_aload_n hx hb dL_law_1163 rfl (lv_at hl 0 rfl) ?_
      refine lv_iload_n hx hb dL_law_1164 rfl (lv_at hl 3 rfl) ?_
      refine lv_iconst (v := 2) hx hb dL_law_1165 (by decide) ?_
      refine lv_iadd hx hb dL_law_1166 ?_
      refine lv_topi (fun y411 ey411 => ?_)
      obtain rfl : y402 = y411 := ey402.trans ey411.symm
      refine va_sld hx hb hX hbl hbA hH.2.2.2.1 (sc_in ty402 hi h6 (by decide)) dL_law_1167 ?_
      refine lv_topi (fun y412 ey412 => ?_)
      obtain rfl : y403 = y412 := ey403.trans ey412.symm
      refine lv_aload_n hx hb dL_law_1168 rfl (lv_at hl 0 rfl) ?_
      refine lv_iload_n hx hb dL_law_1169 rfl (lv_at hl 3 rfl) ?_
      refine lv_iconst (v := 3) hx hb dL_law_1170 (by decide) ?_
      refine lv_iadd hx hb dL_law_1171 ?_
      refine lv_topi (fun y413 ey413 => ?_)
      obtain rfl : y404 = y413 := ey404.trans ey413.symm
      refine va_sld hx hb hX hbl hbA hH.2.2.2.1 (sc_in ty404 hi h6 (by decide)) dL_law_1172 ?_
      refine lv_topi (fun y414 ey414 => ?_)
      obtain rfl : y405 = y414 := ey405.trans ey414.symm
      refine lv_aload_n hx hb dL_law_1173 rfl (lv_at hl 0 rfl) ?_
      refine lv_iload_n hx hb dL_law_1174 rfl (lv_at hl 3 rfl) ?_
      refine lv_iconst (v := 4) hx hb dL_law_1175 (by decide) ?_
      refine lv_iadd hx hb dL_law_1176 ?_
      refine lv_topi (fun y415 ey415 => ?_)
      obtain rfl : y406 = y415 := ey406.trans ey415.symm
      refine va_sld hx hb hX hbl hbA hH.2.2.2.1 (sc_in ty406 hi h6 (by decide)) dL_law_1177 ?_
      refine lv_topi (fun y416 ey416 => ?_)
      obtain rfl : y407 = y416 := ey407.trans ey416.symm
      refine ca_L_109 hx hb hml hown hts hH (c_X11_through oI oR mm km (by exact xw)) hl.1 mm km rfl (by decide) (Nat.le_of_ble_eq_true rfl) ⟨by decide, by decide⟩ dL_law_1178 (fun y417 I417 J417 R417 H locs hp hH => ?_)
      obtain ⟨⟨oI, -, sc417⟩, eR417⟩ := hp
      obtain rfl : R408 = R417 := eR417.symm
      have sm : Sm C ms_L_law (I, J, R) (I417, J417, R408) := sm.tr sc417 rfl
      have xm : XM L C I417 := XM.sm (u := (I408, J408, R408)) (v := (I417, J417, R408)) xm sc417 rfl rfl
      have xw : XW L C I417 := XW.sm (u := (I408, J408, R408)) (v := (I417, J417, R408)) xw sc417 rfl rfl
      have ow : Ow L C R408 := Ow.sm (u := (I408, J408, R408)) (v := (I417, J417, R408)) ow sc417 rfl
      have rel : RR L C x mo (I417, J417, R408) := RR.sm (u := (I408, J408, R408)) (v := (I417, J417, R408)) rel oR sc417 rfl
      refine lv_pop hx hb dL_law_1181 rfl ?_
      refine lv_goto (tgt := 1244) hx hb dL_law_1182 (by decide) ?_
      exact L_1244 h6 I417 J417 R408 _ _ _ hH oI oR xm xw ow rel (lv_sub hl [0, 1, 2, 3] rfl)
    · have r418 : Rg y4 (21) (21) := ⟨by rw [z5]; decide, by rw [z5]; decide⟩
      refine lv_tableIn (tgt := 1185) hx hb dL_law_33 (by rw [z5]; decide) (by rw [z5]; decide) (by rw [z5]; rfl) (by decide) ?_
      refine lv_aload_n hx hb dL_law_1185 rfl (lv_at hl 1 rfl) ?_
      refine ca_L_110 hx hb hml hown hts hH (c_X10_value oI oR mx kx) hl.1 mx kx rfl (by decide) (Nat.le_of_ble_eq_true rfl) ⟨by decide, by decide⟩ dL_law_1186 (fun w419 I419 J419 R419 H locs hp hH => ?_)
      obtain ⟨eI419, eJ419, eR419⟩ := hp
      obtain rfl : I = I419 := eI419.symm
      obtain rfl : J = J419 := eJ419.symm
      obtain rfl : R = R419 := eR419.symm
      refine lv_pop2_2 hx hb dL_law_1189 rfl ?_
      refine lv_aload_n hx hb dL_law_1190 rfl (lv_at hl 2 rfl) ?_
      refine ca_L_114 hx hb hml hown hts hH (c_X11_value oI oR mm km) hl.1 mm km rfl (by decide) (Nat.le_of_ble_eq_true rfl) ⟨by decide, by decide⟩ dL_law_1191 (fun w420 I420 J420 R420 H locs hp hH => ?_)
      obtain ⟨⟨oI, -, sc420⟩, eJ420, eR420⟩ := hp
      obtain rfl : J = J420 := eJ420.symm
      obtain rfl : R = R420 := eR420.symm
      have sm : Sm C ms_L_law (I, J, R) (I420, J, R) := sm.tr sc420 rfl
      have xm : XM L C I420 := XM.sm (u := (I, J, R)) (v := (I420, J, R)) xm sc420 rfl rfl
      have xw : XW L C I420 := XW.sm (u := (I, J, R)) (v := (I420, J, R)) xw sc420 rfl rfl
      have ow : Ow L C R := Ow.sm (u := (I, J, R)) (v := (I420, J, R)) ow sc420 rfl
      have rel : RR L C x mo (I420, J, R) := RR.sm (u := (I, J, R)) (v := (I420, J, R)) rel oR sc420 rfl
      refine lv_pop2_2 hx hb dL_law_1194 rfl ?_
      refine lv_goto (tgt := 1244) hx hb dL_law_1195 (by decide) ?_
      exact L_1244 h6 I420 J R _ _ _ hH oI oR xm xw ow rel (lv_sub hl [0, 1, 2, 3] rfl)
    · have r421 : Rg y4 (22) (22) := ⟨by rw [z5]; decide, by rw [z5]; decide⟩
      refine lv_tableIn (tgt := 1198) hx hb dL_law_33 (by rw [z5]; decide) (by rw [z5]; decide) (by rw [z5]; rfl) (by decide) ?_
      refine lv_aload_n hx hb dL_law_1198 rfl (lv_at hl 1 rfl) ?_
      refine lv_aload_n hx hb dL_law_1199 rfl (lv_at hl 0 rfl) ?_
      refine lv_iload_n hx hb dL_law_1200 rfl (lv_at hl 3 rfl) ?_
      refine lv_iconst (v := 1) hx hb dL_law_1201 (by decide) ?_
      refine lv_iadd hx hb dL_law_1202 ?_
      refine lv_topi (fun y422 ey422 => ?_)
      obtain ⟨ty422, ry422⟩ := Rg_addx (a' := (1)) (b' := (3073)) (rfl : x3.toInt = _) (by decide : Int32.toInt 1 = 1) r3 (Rg_c (x := 1) (a := (1)) (b := (1)) (by decide)) (by decide)
      rw [← ey422] at ty422 ry422
      refine va_sld hx hb hX hbl hbA hH.2.2.2.1 (sc_in ty422 hi h6 (by decide)) dL_law_1203 ?_
      refine lv_topi (fun y423 ey423 => ?_)
      refine ca_L_115 hx hb hml hown hts hH (c_X10_failed oI oR mx kx) hl.1 mx kx rfl (by decide) (Nat.le_of_ble_eq_true rfl) ⟨by decide, by decide⟩ dL_law_1204 (fun y424 I424 J424 R424 H locs hp hH => ?_)
      obtain ⟨eI424, eJ424, eR424⟩ := hp
      obtain rfl : I = I424 := eI424.symm
      obtain rfl : J = J424 := eJ424.symm
      obtain rfl : R = R424 := eR424.symm
      refine lv_pop hx hb dL_law_1207 rfl ?_
      refine lv_aload_n hx hb dL_law_1208 rfl (lv_at hl 2 rfl) ?_
      refine lv_aload_n hx hb dL_law_1209 rfl (lv_at hl 0 rfl) ?_
      refine lv_iload_n hx hb dL_law_1210 rfl (lv_at hl 3 rfl) ?_
      refine lv_iconst (v := 1) hx hb dL_law_1211 (by decide) ?_
      refine lv_iadd hx hb dL_law_1212 ?_
      refine lv_topi (fun y425 ey425 => ?_)
      obtain rfl : y422 = y425 := ey422.trans ey425.symm
      refine va_sld hx hb hX hbl hbA hH.2.2.2.1 (sc_in ty422 hi h6 (by decide)) dL_law_1213 ?_
      refine lv_topi (fun y426 ey426 => ?_)
      obtain rfl : y423 = y426 := ey423.trans ey426.symm
      refine ca_L_118 hx hb hml hown hts hH (c_X11_failed oI oR mm km) hl.1 mm km rfl (by decide) (Nat.le_of_ble_eq_true rfl) ⟨by decide, by decide⟩ dL_law_1214 (fun y427 I427 J427 R427 H locs hp hH => ?_)
      obtain ⟨⟨oI, -, sc427⟩, eJ427, eR427⟩ := hp
      obtain rfl : J = J427 := eJ427.symm
      obtain rfl : R = R427 := eR427.symm
      have sm : Sm C ms_L_law (I, J, R) (I427, J, R) := sm.tr sc427 rfl
      have xm : XM L C I427 := XM.sm (u := (I, J, R)) (v := (I427, J, R)) xm sc427 rfl rfl
      have xw : XW L C I427 := XW.sm (u := (I, J, R)) (v := (I427, J, R)) xw sc427 rfl rfl
      have ow : Ow L C R := Ow.sm (u := (I, J, R)) (v := (I427, J, R)) ow sc427 rfl
      have rel : RR L C x mo (I427, J, R) := RR.sm (u := (I, J, R)) (v := (I427, J, R)) rel oR sc427 rfl
      refine lv_pop hx hb dL_law_1217 rfl ?_
      refine lv_goto (tgt := 1244) hx hb dL_law_1218 (by decide) ?_
      exact L_1244 h6 I427 J R _ _ _ hH oI oR xm xw ow rel (lv_sub hl [0, 1, 2, 3] rfl)
    · have r428 : Rg y4 (23) (23) := ⟨by rw [z5]; decide, by rw [z5]; decide⟩
      refine lv_tableIn (tgt := 1221) hx hb dL_law_33 (by rw [z5]; decide) (by rw [z5]; decide) (by rw [z5]; rfl) (by decide) ?_
      refine lv_aload_n hx hb dL_law_1221 rfl (lv_at hl 1 rfl) ?_
      refine lv_aload_n hx hb dL_law_1222 rfl (lv_at hl 0 rfl) ?_
      refine lv_iload_n hx hb dL_law_1223 rfl (lv_at hl 3 rfl) ?_
      refine lv_iconst (v := 1) hx hb dL_law_1224 (by decide) ?_
      refine lv_iadd hx hb dL_law_1225 ?_
      refine lv_topi (fun y429 ey429 => ?_)
      obtain ⟨ty429, ry429⟩ := Rg_addx (a' := (1)) (b' := (3073)) (rfl : x3.toInt = _) (by decide : Int32.toInt 1 = 1) r3 (Rg_c (x := 1) (a := (1)) (b := (1)) (by decide)) (by decide)
      rw [← ey429] at ty429 ry429
      refine va_sld hx hb hX hbl hbA hH.2.2.2.1 (sc_in ty429 hi h6 (by decide)) dL_law_1226 ?_
      refine lv_topi (fun y430 ey430 => ?_)
      refine ca_L_119 hx hb hml hown hts hH (c_X10_count oI oR mx kx) hl.1 mx kx rfl (by decide) (Nat.le_of_ble_eq_true rfl) ⟨by decide, by decide⟩ dL_law_1227 (fun y431 I431 J431 R431 H locs hp hH => ?_)
      obtain ⟨eI431, eJ431, eR431⟩ := hp
      obtain rfl : I = I431 := eI431.symm
      obtain rfl : J = J431 := eJ431.symm
      obtain rfl : R = R431 := eR431.symm
      refine lv_pop hx hb dL_law_1230 rfl ?_
      refine lv_aload_n hx hb dL_law_1231 rfl (lv_at hl 2 rfl) ?_
      refine lv_aload_n hx hb dL_law_1232 rfl (lv_at hl 0 rfl) ?_
      refine lv_iload_n hx hb dL_law_1233 rfl (lv_at hl 3 rfl) ?_
      refine lv_iconst (v := 1) hx hb dL_law_1234 (by decide) ?_
      refine lv_iadd hx hb dL_law_1235 ?_
      refine lv_topi (fun y432 ey432 => ?_)
      obtain rfl : y429 = y432 := ey429.trans ey432.symm
      refine va_sld hx hb hX hbl hbA hH.2.2.2.1 (sc_in ty429 hi h6 (by decide)) dL_law_1236 ?_
      refine lv_topi (fun y433 ey433 => ?_)
      obtain rfl : y430 = y433 := ey430.trans ey433.symm
      refine ca_L_122 hx hb hml hown hts hH (c_X11_count oI oR mm km) hl.1 mm km rfl (by decide) (Nat.le_of_ble_eq_true rfl) ⟨by decide, by decide⟩ dL_law_1237 (fun y434 I434 J434 R434 H locs hp hH => ?_)
      obtain ⟨⟨oI, -, sc434⟩, eJ434, eR434⟩ := hp
      obtain rfl : J = J434 := eJ434.symm
      obtain rfl : R = R434 := eR434.symm
      have sm : Sm C ms_L_law (I, J, R) (I434, J, R) := sm.tr sc434 rfl
      have xm : XM L C I434 := XM.sm (u := (I, J, R)) (v := (I434, J, R)) xm sc434 rfl rfl
      have xw : XW L C I434 := XW.sm (u := (I, J, R)) (v := (I434, J, R)) xw sc434 rfl rfl
      have ow : Ow L C R := Ow.sm (u := (I, J, R)) (v := (I434, J, R)) ow sc434 rfl
      have rel : RR L C x mo (I434, J, R) := RR.sm (u := (I, J, R)) (v := (I434, J, R)) rel oR sc434 rfl
      refine lv_pop hx hb dL_law_1240 rfl ?_
      refine lv_goto (tgt := 1244) hx hb dL_law_1241 (by decide) ?_
      exact L_1244 h6 I434 J R _ _ _ hH oI oR xm xw ow rel (lv_sub hl [0, 1, 2, 3] rfl)
