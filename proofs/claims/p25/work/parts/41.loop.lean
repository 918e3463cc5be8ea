def ms_L_law : List Nat := [1, 71, 72, 73, 74, 196, 197, 256, 257, 258, 259, 260, 320, 321, 322, 324, 325, 326, 390, 391, 394, 395, 449, 514, 580, 581, 704, 705, 722, 725, 729, 730, 731, 732, 733, 734, 735, 741, 744, 745, 746, 751, 753, 758, 759, 2048, 2112, 2176, 2240, 2304, 2368, 2432, 2496, 2560, 2624, 2688, 2752, 2816, 2880, 2944, 3008, 3072, 3136, 3200, 3264, 3328, 3392, 3456, 3520, 4096, 4160, 4224, 4288, 4352, 4416, 4480, 4544, 4608, 4672, 4736, 4800, 4864, 4928, 4992, 5056, 5120, 5184, 5248, 5312, 5376, 5440, 5504, 5568, 5632, 5696, 5760, 5824, 5888, 5952, 6016, 6080, 6144, 6208, 6272, 6336, 6400]
set_option maxHeartbeats 8000000 in
set_option maxRecDepth 100000 in
theorem law_loop {p : Program} {l : Launch} {e : Env} {s : State} {m : MethodId} {below : List Frame} {meth : Method} {c : Code} {D : va_G} {cy : Nat → ClassId} {L : List Nat} {C : Nat → Nat} {b n0 : Nat} {xs : Nat → Int32} (hL : n0 ≤ 3072) (C0 : lw_At p s m meth c b n0 xs) (uq : Uq L C) {x mo : Nat} (mx : x ∈ L) (kx : C x = 10) (mm : mo ∈ L) (km : C mo = 11) :
    ∀ (n i : Nat) (x3 : Int32), i ≤ n0 → n0 + 1 ≤ i + n → x3.toInt = i → ∀ (I : hI) (J : hJ) (R : hR) (H : Heap) (locs : List Loc) (ls : Array Slot), Hp D cy L C s.heap.size s s.heap I J R H locs → OkI L C I → OkR L C R → XM L C I → XW L C I → Ow L C R → RXC L C x mo (I, J, R) → lv_has ls 4 [(0, .ref b), (1, .ref x), (2, .ref mo), (3, .int x3)] → W p l e room_1 s m #[Value.ref b] below meth c H locs 474 16845 (lw_Z below #[Value.ref b] s) (F0 m 18 ls []) := by
  obtain ⟨hx, hb, hr, hml, hown, hts0, hX, hbl, hlocks, hgv⟩ := C0
  have hts : ∀ w ∈ wG, w.before #[Value.ref b] s = true := fun w h => hts0 w (List.mem_filter.mp h).1
  have hown : s.vm.findClass RL = some m.cls := hown
  have hbA : ¬ (fun q : Nat => s.heap.size ≤ q) b := Nat.not_le.mpr hbl
  intro n
  induction n with
  | zero => intro i x3 h1 h2; exact absurd h2 (by omega)
  | succ n ih =>
    intro i x3 hi0 hin hi I J R H locs ls hH oI oR xm xw ow rel hl
    have r3 : Rg x3 (0) (3072) := ⟨by omega, by omega⟩
    have sm : Sm C ms_L_law (I, J, R) (I, J, R) := Sm.rf
    have L_1244 : i + 6 ≤ n0 → ∀ (I : hI) (J : hJ) (R : hR) (H : Heap) (locs : List Loc) (ls : Array Slot), Hp D cy L C s.heap.size s s.heap I J R H locs → OkI L C I → OkR L C R → XM L C I → XW L C I → Ow L C R → RXC L C x mo (I, J, R) → lv_has ls 4 [(0, .ref b), (1, .ref x), (2, .ref mo), (3, .int x3)] → W p l e room_1 s m #[Value.ref b] below meth c H locs 474 16845 (lw_Z below #[Value.ref b] s) (F0 m 1244 ls []) := by
      intro h6 I J R H locs ls hH oI oR xm xw ow rel hl
      have r9 : Rg x3 (0) (3066) := ⟨by omega, by omega⟩
      have oI0 := oI
      have oR0 := oR
      have ow0 := ow
      have rel0 := rel
      have xm0 := xm
      have xw0 := xw
      obtain ⟨y435, ey435⟩ : ∃ y : Int32, y = x3 + 6 := ⟨_, rfl⟩
      obtain ⟨ty435, ry435⟩ := Rg_addx (a' := (6)) (b' := (3072)) (rfl : x3.toInt = _) (by decide : Int32.toInt 6 = 6) r9 (Rg_c (x := 6) (a := (6)) (b := (6)) (by decide)) (by decide)
      rw [← ey435] at ty435 ry435
      refine lv_iinc (v := y435) (lv' := [(3, .int y435), (0, .ref b), (1, .ref x), (2, .ref mo)]) hx hb dL_law_1244 hl (k := 3) rfl (by rw [ey435]; rfl) (by decide) rfl (fun ls hl => ?_)
      refine lv_goto (tgt := 18) hx hb dL_law_1247 (by decide) ?_
      exact ih (i + 6) y435 (by omega) (by omega) (by rw [ty435]; omega) I J R _ _ _ hH oI oR xm xw ow rel (lv_sub hl [1, 2, 3, 0] rfl)
    have oI0 := oI
    have oR0 := oR
    have ow0 := ow
    have rel0 := rel
    have xm0 := xm
    have xw0 := xw
    refine lv_iload_n hx hb dL_law_18 rfl (lv_at hl 3 rfl) ?_
    refine lv_aload_n hx hb dL_law_19 rfl (lv_at hl 0 rfl) ?_
    refine va_slen hx hb hX hbl hbA hH.2.2.2.1 dL_law_20 ?_
    refine lv_topi (fun ln eln => ?_)
    have rln : Rg ln (0) (3072) := by rw [eln]; exact sc_len hL
    have tln : ln.toInt = n0 := by rw [eln]; exact sc_lenI hL
    refine lv_bipush (v := 6) hx hb dL_law_21 (by decide) ?_
    refine lv_isub hx hb dL_law_23 ?_
    refine lv_topi (fun y1 ey1 => ?_)
    obtain ⟨ty1, ry1⟩ := Rg_subx (a' := (-6)) (b' := (3066)) (rfl : ln.toInt = _) (by decide : Int32.toInt 6 = 6) rln (Rg_c (x := 6) (a := (6)) (b := (6)) (by decide)) (by decide)
    rw [← ey1] at ty1 ry1
    refine lv_icmp_gt (tgt := 1250) hx hb dL_law_24 (by decide) (fun q2 => ?_) (fun q2 => ?_)
    · refine lv_iconst (v := 1) hx hb dL_law_1250 (by decide) ?_
      refine va_forget (fun q hq => hH.2.2.2.1.2.2 q hq) ?_
      refine W.widen (k := 600000) (n := 7302249) (by decide) (by decide) ?_
      exact lw_ret hx hb hr hlocks dL_law_1251
    have h6 : i + 6 ≤ n0 := by have a1 := Rg_nlt q2; rw [ty1] at a1; omega
    refine lv_aload_n hx hb dL_law_27 rfl (lv_at hl 0 rfl) ?_
    refine lv_iload_n hx hb dL_law_28 rfl (lv_at hl 3 rfl) ?_
    refine va_sld hx hb hX hbl hbA hH.2.2.2.1 (sc_in0 hi h6) dL_law_29 ?_
    refine lv_topi (fun y3 ey3 => ?_)
    refine lv_bipush (v := 31) hx hb dL_law_30 (by decide) ?_
    refine lv_iand hx hb dL_law_32 ?_
    refine lv_topi (fun y4 ey4 => ?_)
    have ry4 : Rg y4 0 31 := by rw [ey4]; exact Rg_and31 _
    rcases (show (y4.toInt < 0 ∨ 23 < y4.toInt) ∨ y4.toInt = 0 ∨ y4.toInt = 1 ∨ y4.toInt = 2 ∨ y4.toInt = 3 ∨ y4.toInt = 4 ∨ y4.toInt = 5 ∨ y4.toInt = 6 ∨ y4.toInt = 7 ∨ y4.toInt = 8 ∨ y4.toInt = 9 ∨ y4.toInt = 10 ∨ y4.toInt = 11 ∨ y4.toInt = 12 ∨ y4.toInt = 13 ∨ y4.toInt = 14 ∨ y4.toInt = 15 ∨ y4.toInt = 16 ∨ y4.toInt = 17 ∨ y4.toInt = 18 ∨ y4.toInt = 19 ∨ y4.toInt = 20 ∨ y4.toInt = 21 ∨ y4.toInt = 22 ∨ y4.toInt = 23 by have z51 := ry4.1; have z52 := ry4.2; omega) with z5 | z5 | z5 | z5 | z5 | z5 | z5 | z5 | z5 | z5 | z5 | z5 | z5 | z5 | z5 | z5 | z5 | z5 | z5 | z5 | z5 | z5 | z5 | z5 | z5
    · refine lv_tableOut (tgt := 1244) hx hb dL_law_33 z5 (by decide) ?_
      exact L_1244 h6 I J R _ _ _ hH oI oR xm xw ow rel (lv_sub hl [0, 1, 2, 3] rfl)
    · have r6 : Rg y4 (0) (0) := ⟨by rw [z5]; decide, by rw [z5]; decide⟩
      refine lv_tableIn (tgt := 144) hx hb dL_law_33 (by rw [z5]; decide) (by rw [z5]; decide) (by rw [z5]; rfl) (by decide) ?_
      refine lv_aload_n hx hb dL_law_144 rfl (lv_at hl 1 rfl) ?_
      refine lv_aload_n hx hb dL_law_145 rfl (lv_at hl 0 rfl) ?_
      refine lv_iload_n hx hb dL_law_146 rfl (lv_at hl 3 rfl) ?_
      refine lv_iconst (v := 1) hx hb dL_law_147 (by decide) ?_
      refine lv_iadd hx hb dL_law_148 ?_
      refine lv_topi (fun y7 ey7 => ?_)
      obtain ⟨ty7, ry7⟩ := Rg_addx (a' := (1)) (b' := (3073)) (rfl : x3.toInt = _) (by decide : Int32.toInt 1 = 1) r3 (Rg_c (x := 1) (a := (1)) (b := (1)) (by decide)) (by decide)
      rw [← ey7] at ty7 ry7
      refine va_sld hx hb hX hbl hbA hH.2.2.2.1 (sc_in ty7 hi h6 (by decide)) dL_law_149 ?_
      refine lv_topi (fun y8 ey8 => ?_)
      refine lv_aload_n hx hb dL_law_150 rfl (lv_at hl 0 rfl) ?_
      refine lv_iload_n hx hb dL_law_151 rfl (lv_at hl 3 rfl) ?_
      refine lv_iconst (v := 2) hx hb dL_law_152 (by decide) ?_
      refine lv_iadd hx hb dL_law_153 ?_
      refine lv_topi (fun y9 ey9 => ?_)
      obtain ⟨ty9, ry9⟩ := Rg_addx (a' := (2)) (b' := (3074)) (rfl : x3.toInt = _) (by decide : Int32.toInt 2 = 2) r3 (Rg_c (x := 2) (a := (2)) (b := (2)) (by decide)) (by decide)
      rw [← ey9] at ty9 ry9
      refine va_sld hx hb hX hbl hbA hH.2.2.2.1 (sc_in ty9 hi h6 (by decide)) dL_law_154 ?_
      refine lv_topi (fun y10 ey10 => ?_)
      refine lv_aload_n hx hb dL_law_155 rfl (lv_at hl 0 rfl) ?_
      refine lv_iload_n hx hb dL_law_156 rfl (lv_at hl 3 rfl) ?_
      refine lv_iconst (v := 3) hx hb dL_law_157 (by decide) ?_
      refine lv_iadd hx hb dL_law_158 ?_
      refine lv_topi (fun y11 ey11 => ?_)
      obtain ⟨ty11, ry11⟩ := Rg_addx (a' := (3)) (b' := (3075)) (rfl : x3.toInt = _) (by decide : Int32.toInt 3 = 3) r3 (Rg_c (x := 3) (a := (3)) (b := (3)) (by decide)) (by decide)
      rw [← ey11] at ty11 ry11
      refine va_sld hx hb hX hbl hbA hH.2.2.2.1 (sc_in ty11 hi h6 (by decide)) dL_law_159 ?_
      refine lv_topi (fun y12 ey12 => ?_)
      refine lv_aload_n hx hb dL_law_160 rfl (lv_at hl 0 rfl) ?_
      refine lv_iload_n hx hb dL_law_161 rfl (lv_at hl 3 rfl) ?_
      refine lv_iconst (v := 4) hx hb dL_law_162 (by decide) ?_
      refine lv_iadd hx hb dL_law_163 ?_
      refine lv_topi (fun y13 ey13 => ?_)
      obtain ⟨ty13, ry13⟩ := Rg_addx (a' := (4)) (b' := (3076)) (rfl : x3.toInt = _) (by decide : Int32.toInt 4 = 4) r3 (Rg_c (x := 4) (a := (4)) (b := (4)) (by decide)) (by decide)
      rw [← ey13] at ty13 ry13
      refine va_sld hx hb hX hbl hbA hH.2.2.2.1 (sc_in ty13 hi h6 (by decide)) dL_law_164 ?_
      refine lv_topi (fun y14 ey14 => ?_)
      refine ca_L_13 hx hb hml hown hts hH (c_X10_rule oI oR mx kx (by exact uq)) hl.1 mx kx rfl (by decide) (Nat.le_of_ble_eq_true rfl) ⟨by decide, by decide⟩ dL_law_165 (fun y15 I15 J15 R15 H locs hp hH => ?_)
      obtain ⟨⟨oI, -, sc15⟩, eJ15, eR15, ry15, hp15, hf15⟩ := hp
      obtain rfl : J = J15 := eJ15.symm
      obtain rfl : R = R15 := eR15.symm
      have sm : Sm C ms_L_law (I, J, R) (I15, J, R) := sm.tr sc15 rfl
      have xm : XM L C I15 := XM.sm (u := (I, J, R)) (v := (I15, J, R)) xm sc15 rfl rfl
      have xw : XW L C I15 := XW.sm (u := (I, J, R)) (v := (I15, J, R)) xw sc15 rfl rfl
      have ow : Ow L C R := Ow.sm (u := (I, J, R)) (v := (I15, J, R)) ow sc15 rfl
      have oI1 := oI
      have oR1 := oR
      refine lv_pop hx hb dL_law_168 rfl ?_
      refine lv_aload_n hx hb dL_law_169 rfl (lv_at hl 2 rfl) ?_
      refine lv_aload_n hx hb dL_law_170 rfl (lv_at hl 0 rfl) ?_
      refine lv_iload_n hx hb dL_law_171 rfl (lv_at hl 3 rfl) ?_
      refine lv_iconst (v := 1) hx hb dL_law_172 (by decide) ?_
      refine lv_iadd hx hb dL_law_173 ?_
      refine lv_topi (fun y16 ey16 => ?_)
      obtain rfl : y7 = y16 := ey7.trans ey16.symm
      refine va_sld hx hb hX hbl hbA hH.2.2.2.1 (sc_in ty7 hi h6 (by decide)) dL_law_174 ?_
      refine lv_topi (fun y17 ey17 => ?_)
      obtain rfl : y8 = y17 := ey8.trans ey17.symm
      refine lv_aload_n hx hb dL_law_175 rfl (lv_at hl 0 rfl) ?_
      refine lv_iload_n hx hb dL_law_176 rfl (lv_at hl 3 rfl) ?_
      refine lv_iconst (v := 2) hx hb dL_law_177 (by decide) ?_
      refine lv_iadd hx hb dL_law_178 ?_
      refine lv_topi (fun y18 ey18 => ?_)
      obtain rfl : y9 = y18 := ey9.trans ey18.symm
      refine va_sld hx hb hX hbl hbA hH.2.2.2.1 (sc_in ty9 hi h6 (by decide)) dL_law_179 ?_
      refine lv_topi (fun y19 ey19 => ?_)
      obtain rfl : y10 = y19 := ey10.trans ey19.symm
      refine lv_aload_n hx hb dL_law_180 rfl (lv_at hl 0 rfl) ?_
      refine lv_iload_n hx hb dL_law_181 rfl (lv_at hl 3 rfl) ?_
      refine lv_iconst (v := 3) hx hb dL_law_182 (by decide) ?_
      refine lv_iadd hx hb dL_law_183 ?_
      refine lv_topi (fun y20 ey20 => ?_)
      obtain rfl : y11 = y20 := ey11.trans ey20.symm
      refine va_sld hx hb hX hbl hbA hH.2.2.2.1 (sc_in ty11 hi h6 (by decide)) dL_law_184 ?_
      refine lv_topi (fun y21 ey21 => ?_)
      obtain rfl : y12 = y21 := ey12.trans ey21.symm
      refine lv_aload_n hx hb dL_law_185 rfl (lv_at hl 0 rfl) ?_
      refine lv_iload_n hx hb dL_law_186 rfl (lv_at hl 3 rfl) ?_
      refine lv_iconst (v := 4) hx hb dL_law_187 (by decide) ?_
      refine lv_iadd hx hb dL_law_188 ?_
      refine lv_topi (fun y22 ey22 => ?_)
      obtain rfl : y13 = y22 := ey13.trans ey22.symm
      refine va_sld hx hb hX hbl hbA hH.2.2.2.1 (sc_in ty13 hi h6 (by decide)) dL_law_189 ?_
      refine lv_topi (fun y23 ey23 => ?_)
      obtain rfl : y14 = y23 := ey14.trans ey23.symm
      refine ca_L_17 hx hb hml hown hts hH (c_X11_rule oI oR mm km (by exact uq)) hl.1 mm km rfl (by decide) (Nat.le_of_ble_eq_true rfl) ⟨by decide, by decide⟩ dL_law_190 (fun y24 I24 J24 R24 H locs hp hH => ?_)
      obtain ⟨⟨oI, -, sc24⟩, eJ24, eR24, ry24, hp24, hf24⟩ := hp
      obtain rfl : J = J24 := eJ24.symm
      obtain rfl : R = R24 := eR24.symm
      have sm : Sm C ms_L_law (I, J, R) (I24, J, R) := sm.tr sc24 rfl
      have xm : XM L C I24 := XM.sm (u := (I15, J, R)) (v := (I24, J, R)) xm sc24 rfl rfl
      have xw : XW L C I24 := XW.sm (u := (I15, J, R)) (v := (I24, J, R)) xw sc24 rfl rfl
      have ow : Ow L C R := Ow.sm (u := (I15, J, R)) (v := (I24, J, R)) ow sc24 rfl
      have rr24 := st_rule uq mx kx mm km oI0 oR0 ow0 rel0 hf15 sc15 oI1 oR1 hf24 sc24 oI oR
      have rel : RXC L C x mo (I24, J, R) := rr24.1
      refine lv_pop hx hb dL_law_193 rfl ?_
      refine lv_goto (tgt := 1244) hx hb dL_law_194 (by decide) ?_
      exact L_1244 h6 I24 J R _ _ _ hH oI oR xm xw ow rel (lv_sub hl [0, 1, 2, 3] rfl)
    · have r25 : Rg y4 (1) (1) := ⟨by rw [z5]; decide, by rw [z5]; decide⟩
      refine lv_tableIn (tgt := 197) hx hb dL_law_33 (by rw [z5]; decide) (by rw [z5]; decide) (by rw [z5]; rfl) (by decide) ?_
      refine lv_aload_n hx hb dL_law_197 rfl (lv_at hl 1 rfl) ?_
      refine lv_aload_n hx hb dL_law_198 rfl (lv_at hl 0 rfl) ?_
      refine lv_iload_n hx hb dL_law_199 rfl (lv_at hl 3 rfl) ?_
      refine lv_iconst (v := 1) hx hb dL_law_200 (by decide) ?_
      refine lv_iadd hx hb dL_law_201 ?_
      refine lv_topi (fun y26 ey26 => ?_)
      obtain ⟨ty26, ry26⟩ := Rg_addx (a' := (1)) (b' := (3073)) (rfl : x3.toInt = _) (by decide : Int32.toInt 1 = 1) r3 (Rg_c (x := 1) (a := (1)) (b := (1)) (by decide)) (by decide)
      rw [← ey26] at ty26 ry26
      refine va_sld hx hb hX hbl hbA hH.2.2.2.1 (sc_in ty26 hi h6 (by decide)) dL_law_202 ?_
      refine lv_topi (fun y27 ey27 => ?_)
      refine ca_L_18 hx hb hml hown hts hH (c_X10_drop oI oR mx kx (by exact uq)) hl.1 mx kx rfl (by decide) (Nat.le_of_ble_eq_true rfl) ⟨by decide, by decide⟩ dL_law_203 (fun y28 I28 J28 R28 H locs hp hH => ?_)
      obtain ⟨⟨oI, -, sc28⟩, eJ28, eR28, ry28, hp28, hf28⟩ := hp
      obtain rfl : J = J28 := eJ28.symm
      obtain rfl : R = R28 := eR28.symm
      have sm : Sm C ms_L_law (I, J, R) (I28, J, R) := sm.tr sc28 rfl
      have xm : XM L C I28 := XM.sm (u := (I, J, R)) (v := (I28, J, R)) xm sc28 rfl rfl
      have xw : XW L C I28 := XW.sm (u := (I, J, R)) (v := (I28, J, R)) xw sc28 rfl rfl
      have ow : Ow L C R := Ow.sm (u := (I, J, R)) (v := (I28, J, R)) ow sc28 rfl
      have oI1 := oI
      have oR1 := oR
      refine lv_pop hx hb dL_law_206 rfl ?_
      refine lv_aload_n hx hb dL_law_207 rfl (lv_at hl 2 rfl) ?_
      refine lv_aload_n hx hb dL_law_208 rfl (lv_at hl 0 rfl) ?_
      refine lv_iload_n hx hb dL_law_209 rfl (lv_at hl 3 rfl) ?_
      refine lv_iconst (v := 1) hx hb dL_law_210 (by decide) ?_
      refine lv_iadd hx hb dL_law_211 ?_
      refine lv_topi (fun y29 ey29 => ?_)
      obtain rfl : y26 = y29 := ey26.trans ey29.symm
      refine va_sld hx hb hX hbl hbA hH.2.2.2.1 (sc_in ty26 hi h6 (by decide)) dL_law_212 ?_
      refine lv_topi (fun y30 ey30 => ?_)
      obtain rfl : y27 = y30 := ey27.trans ey30.symm
      refine ca_L_22 hx hb hml hown hts hH (c_X11_drop oI oR mm km (by exact uq)) hl.1 mm km rfl (by decide) (Nat.le_of_ble_eq_true rfl) ⟨by decide, by decide⟩ dL_law_213 (fun y31 I31 J31 R31 H locs hp hH => ?_)
      obtain ⟨⟨oI, -, sc31⟩, eJ31, eR31, ry31, hp31, hf31⟩ := hp
      obtain rfl : J = J31 := eJ31.symm
      obtain rfl : R = R31 := eR31.symm
      have sm : Sm C ms_L_law (I, J, R) (I31, J, R) := sm.tr sc31 rfl
      have xm : XM L C I31 := XM.sm (u := (I28, J, R)) (v := (I31, J, R)) xm sc31 rfl rfl
      have xw : XW L C I31 := XW.sm (u := (I28, J, R)) (v := (I31, J, R)) xw sc31 rfl rfl
      have ow : Ow L C R := Ow.sm (u := (I28, J, R)) (v := (I31, J, R)) ow sc31 rfl
      have rr31 := st_drop uq mx kx mm km oI0 oR0 ow0 rel0 hf28 sc28 oI1 oR1 hf31 sc31 oI oR
      have rel : RXC L C x mo (I31, J, R) := rr31.1
      refine lv_pop hx hb dL_law_216 rfl ?_
      refine lv_goto (tgt := 1244) hx hb dL_law_217 (by decide) ?_
      exact L_1244 h6 I31 J R _ _ _ hH oI oR xm xw ow rel (lv_sub hl [0, 1, 2, 3] rfl)
    · have r32 : Rg y4 (2) (2) := ⟨by rw [z5]; decide, by rw [z5]; decide⟩
      refine lv_tableIn (tgt := 220) hx hb dL_law_33 (by rw [z5]; decide) (by rw [z5]; decide) (by rw [z5]; rfl) (by decide) ?_
      refine lv_aload_n hx hb dL_law_220 rfl (lv_at hl 1 rfl) ?_
      refine lv_aload_n hx hb dL_law_221 rfl (lv_at hl 0 rfl) ?_
      refine lv_iload_n hx hb dL_law_222 rfl (lv_at hl 3 rfl) ?_
      refine lv_iconst (v := 1) hx hb dL_law_223 (by decide) ?_
      refine lv_iadd hx hb dL_law_224 ?_
      refine lv_topi (fun y33 ey33 => ?_)
      obtain ⟨ty33, ry33⟩ := Rg_addx (a' := (1)) (b' := (3073)) (rfl : x3.toInt = _) (by decide : Int32.toInt 1 = 1) r3 (Rg_c (x := 1) (a := (1)) (b := (1)) (by decide)) (by decide)
      rw [← ey33] at ty33 ry33
      refine va_sld hx hb hX hbl hbA hH.2.2.2.1 (sc_in ty33 hi h6 (by decide)) dL_law_225 ?_
      refine lv_topi (fun y34 ey34 => ?_)
      refine lv_aload_n hx hb dL_law_226 rfl (lv_at hl 0 rfl) ?_
      refine lv_iload_n hx hb dL_law_227 rfl (lv_at hl 3 rfl) ?_
      refine lv_iconst (v := 2) hx hb dL_law_228 (by decide) ?_
      refine lv_iadd hx hb dL_law_229 ?_
      refine lv_topi (fun y35 ey35 => ?_)
      obtain ⟨ty35, ry35⟩ := Rg_addx (a' := (2)) (b' := (3074)) (rfl : x3.toInt = _) (by decide : Int32.toInt 2 = 2) r3 (Rg_c (x := 2) (a := (2)) (b := (2)) (by decide)) (by decide)
      rw [← ey35] at ty35 ry35
      refine va_sld hx hb hX hbl hbA hH.2.2.2.1 (sc_in ty35 hi h6 (by decide)) dL_law_230 ?_
      refine lv_topi (fun y36 ey36 => ?_)
      refine lv_aload_n hx hb dL_law_231 rfl (lv_at hl 0 rfl) ?_
      refine lv_iload_n hx hb dL_law_232 rfl (lv_at hl 3 rfl) ?_
      refine lv_iconst (v := 3) hx hb dL_law_233 (by decide) ?_
      refine lv_iadd hx hb dL_law_234 ?_
      refine lv_topi (fun y37 ey37 => ?_)
      obtain ⟨ty37, ry37⟩ := Rg_addx (a' := (3)) (b' := (3075)) (rfl : x3.toInt = _) (by decide : Int32.toInt 3 = 3) r3 (Rg_c (x := 3) (a := (3)) (b := (3)) (by decide)) (by decide)
      rw [← ey37] at ty37 ry37
      refine va_sld hx hb hX hbl hbA hH.2.2.2.1 (sc_in ty37 hi h6 (by decide)) dL_law_235 ?_
      refine lv_topi (fun y38 ey38 => ?_)
      refine ca_L_23 hx hb hml hown hts hH (c_X10_turning oI oR mx kx) hl.1 mx kx rfl (by decide) (Nat.le_of_ble_eq_true rfl) ⟨by decide, by decide⟩ dL_law_236 (fun y39 I39 J39 R39 H locs hp hH => ?_)
      obtain ⟨eI39, eJ39, eR39⟩ := hp
      obtain rfl : I = I39 := eI39.symm
      obtain rfl : J = J39 := eJ39.symm
      obtain rfl : R = R39 := eR39.symm
      refine lv_pop hx hb dL_law_239 rfl ?_
      refine lv_aload_n hx hb dL_law_240 rfl (lv_at hl 2 rfl) ?_
      refine lv_aload_n hx hb dL_law_241 rfl (lv_at hl 0 rfl) ?_
      refine lv_iload_n hx hb dL_law_242 rfl (lv_at hl 3 rfl) ?_
      refine lv_iconst (v := 1) hx hb dL_law_243 (by decide) ?_
      refine lv_iadd hx hb dL_law_244 ?_
      refine lv_topi (fun y40 ey40 => ?_)
      obtain rfl : y33 = y40 := ey33.trans ey40.symm
      refine va_sld hx hb hX hbl hbA hH.2.2.2.1 (sc_in ty33 hi h6 (by decide)) dL_law_245 ?_
      refine lv_topi (fun y41 ey41 => ?_)
      obtain rfl : y34 = y41 := ey34.trans ey41.symm
      refine lv_aload_n hx hb dL_law_246 rfl (lv_at hl 0 rfl) ?_
      refine lv_iload_n hx hb dL_law_247 rfl (lv_at hl 3 rfl) ?_
      refine lv_iconst (v := 2) hx hb dL_law_248 (by decide) ?_
      refine lv_iadd hx hb dL_law_249 ?_
      refine lv_topi (fun y42 ey42 => ?_)
      obtain rfl : y35 = y42 := ey35.trans ey42.symm
      refine va_sld hx hb hX hbl hbA hH.2.2.2.1 (sc_in ty35 hi h6 (by decide)) dL_law_250 ?_
      refine lv_topi (fun y43 ey43 => ?_)
      obtain rfl : y36 = y43 := ey36.trans ey43.symm
      refine lv_aload_n hx hb dL_law_251 rfl (lv_at hl 0 rfl) ?_
      refine lv_iload_n hx hb dL_law_252 rfl (lv_at hl 3 rfl) ?_
      refine lv_iconst (v := 3) hx hb dL_law_253 (by decide) ?_
      refine lv_iadd hx hb dL_law_254 ?_
      refine lv_topi (fun y44 ey44 => ?_)
      obtain rfl : y37 = y44 := ey37.trans ey44.symm
      refine va_sld hx hb hX hbl hbA hH.2.2.2.1 (sc_in ty37 hi h6 (by decide)) dL_law_255 ?_
      refine lv_topi (fun y45 ey45 => ?_)
      obtain rfl : y38 = y45 := ey38.trans ey45.symm
      refine ca_L_27 hx hb hml hown hts hH (c_X11_turning oI oR mm km) hl.1 mm km rfl (by decide) (Nat.le_of_ble_eq_true rfl) ⟨by decide, by decide⟩ dL_law_256 (fun y46 I46 J46 R46 H locs hp hH => ?_)
      obtain ⟨⟨oI, -, sc46⟩, eJ46, eR46, ry46⟩ := hp
      obtain rfl : J = J46 := eJ46.symm
      obtain rfl : R = R46 := eR46.symm
      have sm : Sm C ms_L_law (I, J, R) (I46, J, R) := sm.tr sc46 rfl
      have xm : XM L C I46 := XM.sm (u := (I, J, R)) (v := (I46, J, R)) xm sc46 rfl rfl
      have xw : XW L C I46 := XW.sm (u := (I, J, R)) (v := (I46, J, R)) xw sc46 rfl rfl
      have ow : Ow L C R := Ow.sm (u := (I, J, R)) (v := (I46, J, R)) ow sc46 rfl
      have rel : RXC L C x mo (I46, J, R) := RXC.sm (u := (I, J, R)) (v := (I46, J, R)) rel oI oR sc46 rfl
      refine lv_pop hx hb dL_law_259 rfl ?_
      refine lv_goto (tgt := 1244) hx hb dL_law_260 (by decide) ?_
      exact L_1244 h6 I46 J R _ _ _ hH oI oR xm xw ow rel (lv_sub hl [0, 1, 2, 3] rfl)
    · have r47 : Rg y4 (3) (3) := ⟨by rw [z5]; decide, by rw [z5]; decide⟩
      refine lv_tableIn (tgt := 263) hx hb dL_law_33 (by rw [z5]; decide) (by rw [z5]; decide) (by rw [z5]; rfl) (by decide) ?_
      refine lv_aload_n hx hb dL_law_263 rfl (lv_at hl 1 rfl) ?_
      refine lv_aload_n hx hb dL_law_264 rfl (lv_at hl 0 rfl) ?_
      refine lv_iload_n hx hb dL_law_265 rfl (lv_at hl 3 rfl) ?_
      refine lv_iconst (v := 1) hx hb dL_law_266 (by decide) ?_
      refine lv_iadd hx hb dL_law_267 ?_
      refine lv_topi (fun y48 ey48 => ?_)
      obtain ⟨ty48, ry48⟩ := Rg_addx (a' := (1)) (b' := (3073)) (rfl : x3.toInt = _) (by decide : Int32.toInt 1 = 1) r3 (Rg_c (x := 1) (a := (1)) (b := (1)) (by decide)) (by decide)
      rw [← ey48] at ty48 ry48
      refine va_sld hx hb hX hbl hbA hH.2.2.2.1 (sc_in ty48 hi h6 (by decide)) dL_law_268 ?_
      refine lv_topi (fun y49 ey49 => ?_)
      refine lv_aload_n hx hb dL_law_269 rfl (lv_at hl 0 rfl) ?_
      refine lv_iload_n hx hb dL_law_270 rfl (lv_at hl 3 rfl) ?_
      refine lv_iconst (v := 2) hx hb dL_law_271 (by decide) ?_
      refine lv_iadd hx hb dL_law_272 ?_
      refine lv_topi (fun y50 ey50 => ?_)
      obtain ⟨ty50, ry50⟩ := Rg_addx (a' := (2)) (b' := (3074)) (rfl : x3.toInt = _) (by decide : Int32.toInt 2 = 2) r3 (Rg_c (x := 2) (a := (2)) (b := (2)) (by decide)) (by decide)
      rw [← ey50] at ty50 ry50
      refine va_sld hx hb hX hbl hbA hH.2.2.2.1 (sc_in ty50 hi h6 (by decide)) dL_law_273 ?_
      refine lv_topi (fun y51 ey51 => ?_)
      refine lv_aload_n hx hb dL_law_274 rfl (lv_at hl 0 rfl) ?_
      refine lv_iload_n hx hb dL_law_275 rfl (lv_at hl 3 rfl) ?_
      refine lv_iconst (v := 3) hx hb dL_law_276 (by decide) ?_
      refine lv_iadd hx hb dL_law_277 ?_
      refine lv_topi (fun y52 ey52 => ?_)
      obtain ⟨ty52, ry52⟩ := Rg_addx (a' := (3)) (b' := (3075)) (rfl : x3.toInt = _) (by decide : Int32.toInt 3 = 3) r3 (Rg_c (x := 3) (a := (3)) (b := (3)) (by decide)) (by decide)
      rw [← ey52] at ty52 ry52
      refine va_sld hx hb hX hbl hbA hH.2.2.2.1 (sc_in ty52 hi h6 (by decide)) dL_law_278 ?_
      refine lv_topi (fun y53 ey53 => ?_)
      refine lv_i2l (v := y53.toInt64) hx hb dL_law_279 rfl ?_
      refine lv_bipush (v := 32) hx hb dL_law_280 (by decide) ?_
      refine lv_lshl hx hb dL_law_282 rfl ?_
      refine lv_topl (fun w54 ew54 => ?_)
      refine lv_aload_n hx hb dL_law_283 rfl (lv_at hl 0 rfl) ?_
      refine lv_iload_n hx hb dL_law_284 rfl (lv_at hl 3 rfl) ?_
      refine lv_iconst (v := 4) hx hb dL_law_285 (by decide) ?_
      refine lv_iadd hx hb dL_law_286 ?_
      refine lv_topi (fun y55 ey55 => ?_)
      obtain ⟨ty55, ry55⟩ := Rg_addx (a' := (4)) (b' := (3076)) (rfl : x3.toInt = _) (by decide : Int32.toInt 4 = 4) r3 (Rg_c (x := 4) (a := (4)) (b := (4)) (by decide)) (by decide)
      rw [← ey55] at ty55 ry55
      refine va_sld hx hb hX hbl hbA hH.2.2.2.1 (sc_in ty55 hi h6 (by decide)) dL_law_287 ?_
      refine lv_topi (fun y56 ey56 => ?_)
      refine lv_i2l (v := y56.toInt64) hx hb dL_law_288 rfl ?_
      refine lv_ldc2 (v := 4294967295) hx hb hown (hts _ kkl_L_28) dL_law_289 ?_
      refine lv_land hx hb dL_law_292 ?_
      refine lv_topl (fun w57 ew57 => ?_)
      refine lv_lor hx hb dL_law_293 ?_
      refine lv_topl (fun w58 ew58 => ?_)
      refine ca_L_30 hx hb hml hown hts hH (c_X10_turn oI oR mx kx) hl.1 mx kx rfl (by decide) (Nat.le_of_ble_eq_true rfl) ⟨by decide, by decide⟩ dL_law_294 (fun y59 I59 J59 R59 H locs hp hH => ?_)
      obtain ⟨⟨oI, -, sc59⟩, eR59, ry59, hf59⟩ := hp
      obtain rfl : R = R59 := eR59.symm
      have sm : Sm C ms_L_law (I, J, R) (I59, J59, R) := sm.tr sc59 rfl
      have xm : XM L C I59 := XM.sm (u := (I, J, R)) (v := (I59, J59, R)) xm sc59 rfl rfl
      have xw : XW L C I59 := XW.sm (u := (I, J, R)) (v := (I59, J59, R)) xw sc59 rfl rfl
      have ow : Ow L C R := Ow.sm (u := (I, J, R)) (v := (I59, J59, R)) ow sc59 rfl
      have oI1 := oI
      have oR1 := oR
      refine lv_pop hx hb dL_law_297 rfl ?_
      refine lv_aload_n hx hb dL_law_298 rfl (lv_at hl 2 rfl) ?_
      refine lv_aload_n hx hb dL_law_299 rfl (lv_at hl 0 rfl) ?_
      refine lv_iload_n hx hb dL_law_300 rfl (lv_at hl 3 rfl) ?_
      refine lv_iconst (v := 1) hx hb dL_law_301 (by decide) ?_
      refine lv_iadd hx hb dL_law_302 ?_
      refine lv_topi (fun y60 ey60 => ?_)
      obtain rfl : y48 = y60 := ey48.trans ey60.symm
      refine va_sld hx hb hX hbl hbA hH.2.2.2.1 (sc_in ty48 hi h6 (by decide)) dL_law_303 ?_
      refine lv_topi (fun y61 ey61 => ?_)
      obtain rfl : y49 = y61 := ey49.trans ey61.symm
      refine lv_aload_n hx hb dL_law_304 rfl (lv_at hl 0 rfl) ?_
      refine lv_iload_n hx hb dL_law_305 rfl (lv_at hl 3 rfl) ?_
      refine lv_iconst (v := 2) hx hb dL_law_306 (by decide) ?_
      refine lv_iadd hx hb dL_law_307 ?_
      refine lv_topi (fun y62 ey62 => ?_)
      obtain rfl : y50 = y62 := ey50.trans ey62.symm
      refine va_sld hx hb hX hbl hbA hH.2.2.2.1 (sc_in ty50 hi h6 (by decide)) dL_law_308 ?_
      refine lv_topi (fun y63 ey63 => ?_)
      obtain rfl : y51 = y63 := ey51.trans ey63.symm
      refine lv_aload_n hx hb dL_law_309 rfl (lv_at hl 0 rfl) ?_
      refine lv_iload_n hx hb dL_law_310 rfl (lv_at hl 3 rfl) ?_
      refine lv_iconst (v := 3) hx hb dL_law_311 (by decide) ?_
      refine lv_iadd hx hb dL_law_312 ?_
      refine lv_topi (fun y64 ey64 => ?_)
      obtain rfl : y52 = y64 := ey52.trans ey64.symm
      refine va_sld hx hb hX hbl hbA hH.2.2.2.1 (sc_in ty52 hi h6 (by decide)) dL_law_313 ?_
      refine lv_topi (fun y65 ey65 => ?_)
      obtain rfl : y53 = y65 := ey53.trans ey65.symm
      refine lv_i2l (v := y53.toInt64) hx hb dL_law_314 rfl ?_
      refine lv_bipush (v := 32) hx hb dL_law_315 (by decide) ?_
      refine lv_lshl hx hb dL_law_317 rfl ?_
      refine lv_topl (fun w66 ew66 => ?_)
      obtain rfl : w54 = w66 := ew54.trans ew66.symm
      refine lv_aload_n hx hb dL_law_318 rfl (lv_at hl 0 rfl) ?_
      refine lv_iload_n hx hb dL_law_319 rfl (lv_at hl 3 rfl) ?_
      refine lv_iconst (v := 4) hx hb dL_law_320 (by decide) ?_
      refine lv_iadd hx hb dL_law_321 ?_
      refine lv_topi (fun y67 ey67 => ?_)
      obtain rfl : y55 = y67 := ey55.trans ey67.symm
      refine va_sld hx hb hX hbl hbA hH.2.2.2.1 (sc_in ty55 hi h6 (by decide)) dL_law_322 ?_
      refine lv_topi (fun y68 ey68 => ?_)
      obtain rfl : y56 = y68 := ey56.trans ey68.symm
      refine lv_i2l (v := y56.toInt64) hx hb dL_law_323 rfl ?_
      refine lv_ldc2 (v := 4294967295) hx hb hown (hts _ kkl_L_28) dL_law_324 ?_
      refine lv_land hx hb dL_law_327 ?_
      refine lv_topl (fun w69 ew69 => ?_)
      obtain rfl : w57 = w69 := ew57.trans ew69.symm
      refine lv_lor hx hb dL_law_328 ?_
      refine lv_topl (fun w70 ew70 => ?_)
      obtain rfl : w58 = w70 := ew58.trans ew70.symm
      refine ca_L_34 hx hb hml hown hts hH (c_X11_turn oI oR mm km) hl.1 mm km rfl (by decide) (Nat.le_of_ble_eq_true rfl) ⟨by decide, by decide⟩ dL_law_329 (fun y71 I71 J71 R71 H locs hp hH => ?_)
      obtain ⟨⟨oI, -, sc71⟩, eR71, ry71, hf71⟩ := hp
      obtain rfl : R = R71 := eR71.symm
      have sm : Sm C ms_L_law (I, J, R) (I71, J71, R) := sm.tr sc71 rfl
      have xm : XM L C I71 := XM.sm (u := (I59, J59, R)) (v := (I71, J71, R)) xm sc71 rfl rfl
      have xw : XW L C I71 := XW.sm (u := (I59, J59, R)) (v := (I71, J71, R)) xw sc71 rfl rfl
      have ow : Ow L C R := Ow.sm (u := (I59, J59, R)) (v := (I71, J71, R)) ow sc71 rfl
      have rr71 := st_turn uq mx kx mm km oI0 oR0 ow0 rel0 hf59 sc59 oI1 oR1 hf71 sc71 oI oR
      have rel : RXC L C x mo (I71, J71, R) := rr71.1
      refine lv_pop hx hb dL_law_332 rfl ?_
      refine lv_goto (tgt := 1244) hx hb dL_law_333 (by decide) ?_
      exact L_1244 h6 I71 J71 R _ _ _ hH oI oR xm xw ow rel (lv_sub hl [0, 1, 2, 3] rfl)
    · have r72 : Rg y4 (4) (4) := ⟨by rw [z5]; decide, by rw [z5]; decide⟩
      refine lv_tableIn (tgt := 336) hx hb dL_law_33 (by rw [z5]; decide) (by rw [z5]; decide) (by rw [z5]; rfl) (by decide) ?_
      refine lv_aload_n hx hb dL_law_336 rfl (lv_at hl 1 rfl) ?_
      refine lv_aload_n hx hb dL_law_337 rfl (lv_at hl 0 rfl) ?_
      refine lv_iload_n hx hb dL_law_338 rfl (lv_at hl 3 rfl) ?_
      refine lv_iconst (v := 1) hx hb dL_law_339 (by decide) ?_
      refine lv_iadd hx hb dL_law_340 ?_
      refine lv_topi (fun y73 ey73 => ?_)
      obtain ⟨ty73, ry73⟩ := Rg_addx (a' := (1)) (b' := (3073)) (rfl : x3.toInt = _) (by decide : Int32.toInt 1 = 1) r3 (Rg_c (x := 1) (a := (1)) (b := (1)) (by decide)) (by decide)
      rw [← ey73] at ty73 ry73
      refine va_sld hx hb hX hbl hbA hH.2.2.2.1 (sc_in ty73 hi h6 (by decide)) dL_law_341 ?_
      refine lv_topi (fun y74 ey74 => ?_)
      refine lv_aload_n hx hb dL_law_342 rfl (lv_at hl 0 rfl) ?_
      refine lv_iload_n hx hb dL_law_343 rfl (lv_at hl 3 rfl) ?_
      refine lv_iconst (v := 2) hx hb dL_law_344 (by decide) ?_
      refine lv_iadd hx hb dL_law_345 ?_
      refine lv_topi (fun y75 ey75 => ?_)
      obtain ⟨ty75, ry75⟩ := Rg_addx (a' := (2)) (b' := (3074)) (rfl : x3.toInt = _) (by decide : Int32.toInt 2 = 2) r3 (Rg_c (x := 2) (a := (2)) (b := (2)) (by decide)) (by decide)
      rw [← ey75] at ty75 ry75
      refine va_sld hx hb hX hbl hbA hH.2.2.2.1 (sc_in ty75 hi h6 (by decide)) dL_law_346 ?_
      refine lv_topi (fun y76 ey76 => ?_)
      refine lv_aload_n hx hb dL_law_347 rfl (lv_at hl 0 rfl) ?_
      refine lv_iload_n hx hb dL_law_348 rfl (lv_at hl 3 rfl) ?_
      refine lv_iconst (v := 3) hx hb dL_law_349 (by decide) ?_
      refine lv_iadd hx hb dL_law_350 ?_
      refine lv_topi (fun y77 ey77 => ?_)
      obtain ⟨ty77, ry77⟩ := Rg_addx (a' := (3)) (b' := (3075)) (rfl : x3.toInt = _) (by decide : Int32.toInt 3 = 3) r3 (Rg_c (x := 3) (a := (3)) (b := (3)) (by decide)) (by decide)
      rw [← ey77] at ty77 ry77
      refine va_sld hx hb hX hbl hbA hH.2.2.2.1 (sc_in ty77 hi h6 (by decide)) dL_law_351 ?_
      refine lv_topi (fun y78 ey78 => ?_)
      refine ca_L_35 hx hb hml hown hts hH (c_X10_ask oI oR mx kx (by exact xm)) hl.1 mx kx rfl (by decide) (Nat.le_of_ble_eq_true rfl) ⟨by decide, by decide⟩ dL_law_352 (fun y79 I79 J79 R79 H locs hp hH => ?_)
      obtain ⟨⟨oI, -, sc79⟩, eJ79, eR79, ry79, hp79, hf79⟩ := hp
      obtain rfl : J = J79 := eJ79.symm
      obtain rfl : R = R79 := eR79.symm
      have sm : Sm C ms_L_law (I, J, R) (I79, J, R) := sm.tr sc79 rfl
      have xm : XM L C I79 := hp79
      have xw : XW L C I79 := XW.sm (u := (I, J, R)) (v := (I79, J, R)) xw sc79 rfl rfl
      have ow : Ow L C R := Ow.sm (u := (I, J, R)) (v := (I79, J, R)) ow sc79 rfl
      have oI1 := oI
      have oR1 := oR
      refine lv_pop hx hb dL_law_355 rfl ?_
      refine lv_aload_n hx hb dL_law_356 rfl (lv_at hl 2 rfl) ?_
      refine lv_aload_n hx hb dL_law_357 rfl (lv_at hl 0 rfl) ?_
      refine lv_iload_n hx hb dL_law_358 rfl (lv_at hl 3 rfl) ?_
      refine lv_iconst (v := 1) hx hb dL_law_359 (by decide) ?_
      refine lv_iadd hx hb dL_law_360 ?_
      refine lv_topi (fun y80 ey80 => ?_)
      obtain rfl : y73 = y80 := ey73.trans ey80.symm
      refine va_sld hx hb hX hbl hbA hH.2.2.2.1 (sc_in ty73 hi h6 (by decide)) dL_law_361 ?_
      refine lv_topi (fun y81 ey81 => ?_)
      obtain rfl : y74 = y81 := ey74.trans ey81.symm
      refine lv_aload_n hx hb dL_law_362 rfl (lv_at hl 0 rfl) ?_
      refine lv_iload_n hx hb dL_law_363 rfl (lv_at hl 3 rfl) ?_
      refine lv_iconst (v := 2) hx hb dL_law_364 (by decide) ?_
      refine lv_iadd hx hb dL_law_365 ?_
      refine lv_topi (fun y82 ey82 => ?_)
      obtain rfl : y75 = y82 := ey75.trans ey82.symm
      refine va_sld hx hb hX hbl hbA hH.2.2.2.1 (sc_in ty75 hi h6 (by decide)) dL_law_366 ?_
      refine lv_topi (fun y83 ey83 => ?_)
      obtain rfl : y76 = y83 := ey76.trans ey83.symm
      refine lv_aload_n hx hb dL_law_367 rfl (lv_at hl 0 rfl) ?_
      refine lv_iload_n hx hb dL_law_368 rfl (lv_at hl 3 rfl) ?_
      refine lv_iconst (v := 3) hx hb dL_law_369 (by decide) ?_
      refine lv_iadd hx hb dL_law_370 ?_
      refine lv_topi (fun y84 ey84 => ?_)
      obtain rfl : y77 = y84 := ey77.trans ey84.symm
      refine va_sld hx hb hX hbl hbA hH.2.2.2.1 (sc_in ty77 hi h6 (by decide)) dL_law_371 ?_
      refine lv_topi (fun y85 ey85 => ?_)
      obtain rfl : y78 = y85 := ey78.trans ey85.symm
      refine ca_L_38 hx hb hml hown hts hH (c_X11_ask oI oR mm km (by exact xw) (by exact uq)) hl.1 mm km rfl (by decide) (Nat.le_of_ble_eq_true rfl) ⟨by decide, by decide⟩ dL_law_372 (fun y86 I86 J86 R86 H locs hp hH => ?_)
      obtain ⟨⟨oI, -, sc86⟩, eJ86, eR86, ry86, hp86, hf86⟩ := hp
      obtain rfl : J = J86 := eJ86.symm
      obtain rfl : R = R86 := eR86.symm
      have sm : Sm C ms_L_law (I, J, R) (I86, J, R) := sm.tr sc86 rfl
      have xm : XM L C I86 := XM.sm (u := (I79, J, R)) (v := (I86, J, R)) xm sc86 rfl rfl
      have xw : XW L C I86 := hp86
      have ow : Ow L C R := Ow.sm (u := (I79, J, R)) (v := (I86, J, R)) ow sc86 rfl
      have rr86 := st_ask uq mx kx mm km oI0 oR0 ow0 rel0 hf79 sc79 oI1 oR1 hf86 sc86 oI oR
      have rel : RXC L C x mo (I86, J, R) := rr86.1
      refine lv_pop hx hb dL_law_375 rfl ?_
      refine lv_goto (tgt := 1244) hx hb dL_law_376 (by decide) ?_
      exact L_1244 h6 I86 J R _ _ _ hH oI oR xm xw ow rel (lv_sub hl [0, 1, 2, 3] rfl)
    · have r87 : Rg y4 (5) (5) := ⟨by rw [z5]; decide, by rw [z5]; decide⟩
      refine lv_tableIn (tgt := 379) hx hb dL_law_33 (by rw [z5]; decide) (by rw [z5]; decide) (by rw [z5]; rfl) (by decide) ?_
      refine lv_aload_n hx hb dL_law_379 rfl (lv_at hl 1 rfl) ?_
      refine lv_aload_n hx hb dL_law_380 rfl (lv_at hl 0 rfl) ?_
      refine lv_iload_n hx hb dL_law_381 rfl (lv_at hl 3 rfl) ?_
      refine lv_iconst (v := 1) hx hb dL_law_382 (by decide) ?_
      refine lv_iadd hx hb dL_law_383 ?_
      refine lv_topi (fun y88 ey88 => ?_)
      obtain ⟨ty88, ry88⟩ := Rg_addx (a' := (1)) (b' := (3073)) (rfl : x3.toInt = _) (by decide : Int32.toInt 1 = 1) r3 (Rg_c (x := 1) (a := (1)) (b := (1)) (by decide)) (by decide)
      rw [← ey88] at ty88 ry88
      refine va_sld hx hb hX hbl hbA hH.2.2.2.1 (sc_in ty88 hi h6 (by decide)) dL_law_384 ?_
      refine lv_topi (fun y89 ey89 => ?_)
      refine lv_aload_n hx hb dL_law_385 rfl (lv_at hl 0 rfl) ?_
      refine lv_iload_n hx hb dL_law_386 rfl (lv_at hl 3 rfl) ?_
      refine lv_iconst (v := 2) hx hb dL_law_387 (by decide) ?_
      refine lv_iadd hx hb dL_law_388 ?_
      refine lv_topi (fun y90 ey90 => ?_)
      obtain ⟨ty90, ry90⟩ := Rg_addx (a' := (2)) (b' := (3074)) (rfl : x3.toInt = _) (by decide : Int32.toInt 2 = 2) r3 (Rg_c (x := 2) (a := (2)) (b := (2)) (by decide)) (by decide)
      rw [← ey90] at ty90 ry90
      refine va_sld hx hb hX hbl hbA hH.2.2.2.1 (sc_in ty90 hi h6 (by decide)) dL_law_389 ?_
      refine lv_topi (fun y91 ey91 => ?_)
      refine lv_aload_n hx hb dL_law_390 rfl (lv_at hl 0 rfl) ?_
      refine lv_iload_n hx hb dL_law_391 rfl (lv_at hl 3 rfl) ?_
      refine lv_iconst (v := 3) hx hb dL_law_392 (by decide) ?_
      refine lv_iadd hx hb dL_law_393 ?_
      refine lv_topi (fun y92 ey92 => ?_)
      obtain ⟨ty92, ry92⟩ := Rg_addx (a' := (3)) (b' := (3075)) (rfl : x3.toInt = _) (by decide : Int32.toInt 3 = 3) r3 (Rg_c (x := 3) (a := (3)) (b := (3)) (by decide)) (by decide)
      rw [← ey92] at ty92 ry92
      refine va_sld hx hb hX hbl hbA hH.2.2.2.1 (sc_in ty92 hi h6 (by decide)) dL_law_394 ?_
      refine lv_topi (fun y93 ey93 => ?_)
      refine ca_L_39 hx hb hml hown hts hH (c_X10_offer oI oR mx kx (by exact xm)) hl.1 mx kx rfl (by decide) (Nat.le_of_ble_eq_true rfl) ⟨by decide, by decide⟩ dL_law_395 (fun y94 I94 J94 R94 H locs hp hH => ?_)
      obtain ⟨⟨oI, -, sc94⟩, eJ94, eR94, ry94, hp94, hf94⟩ := hp
      obtain rfl : J = J94 := eJ94.symm
      obtain rfl : R = R94 := eR94.symm
      have sm : Sm C ms_L_law (I, J, R) (I94, J, R) := sm.tr sc94 rfl
      have xm : XM L C I94 := hp94
      have xw : XW L C I94 := XW.sm (u := (I, J, R)) (v := (I94, J, R)) xw sc94 rfl rfl
      have ow : Ow L C R := Ow.sm (u := (I, J, R)) (v := (I94, J, R)) ow sc94 rfl
      have oI1 := oI
      have oR1 := oR
      refine lv_pop hx hb dL_law_398 rfl ?_
      refine lv_aload_n hx hb dL_law_399 rfl (lv_at hl 2 rfl) ?_
      refine lv_aload_n hx hb dL_law_400 rfl (lv_at hl 0 rfl) ?_
      refine lv_iload_n hx hb dL_law_401 rfl (lv_at hl 3 rfl) ?_
      refine lv_iconst (v := 1) hx hb dL_law_402 (by decide) ?_
      refine lv_iadd hx hb dL_law_403 ?_
      refine lv_topi (fun y95 ey95 => ?_)
      obtain rfl : y88 = y95 := ey88.trans ey95.symm
      refine va_sld hx hb hX hbl hbA hH.2.2.2.1 (sc_in ty88 hi h6 (by decide)) dL_law_404 ?_
      refine lv_topi (fun y96 ey96 => ?_)
      obtain rfl : y89 = y96 := ey89.trans ey96.symm
      refine lv_aload_n hx hb dL_law_405 rfl (lv_at hl 0 rfl) ?_
      refine lv_iload_n hx hb dL_law_406 rfl (lv_at hl 3 rfl) ?_
      refine lv_iconst (v := 2) hx hb dL_law_407 (by decide) ?_
      refine lv_iadd hx hb dL_law_408 ?_
      refine lv_topi (fun y97 ey97 => ?_)
      obtain rfl : y90 = y97 := ey90.trans ey97.symm
      refine va_sld hx hb hX hbl hbA hH.2.2.2.1 (sc_in ty90 hi h6 (by decide)) dL_law_409 ?_
      refine lv_topi (fun y98 ey98 => ?_)
      obtain rfl : y91 = y98 := ey91.trans ey98.symm
      refine lv_aload_n hx hb dL_law_410 rfl (lv_at hl 0 rfl) ?_
      refine lv_iload_n hx hb dL_law_411 rfl (lv_at hl 3 rfl) ?_
      refine lv_iconst (v := 3) hx hb dL_law_412 (by decide) ?_
      refine lv_iadd hx hb dL_law_413 ?_
      refine lv_topi (fun y99 ey99 => ?_)
      obtain rfl : y92 = y99 := ey92.trans ey99.symm
      refine va_sld hx hb hX hbl hbA hH.2.2.2.1 (sc_in ty92 hi h6 (by decide)) dL_law_414 ?_
      refine lv_topi (fun y100 ey100 => ?_)
      obtain rfl : y93 = y100 := ey93.trans ey100.symm
      refine ca_L_42 hx hb hml hown hts hH (c_X11_offer oI oR mm km (by exact xw) (by exact uq)) hl.1 mm km rfl (by decide) (Nat.le_of_ble_eq_true rfl) ⟨by decide, by decide⟩ dL_law_415 (fun y101 I101 J101 R101 H locs hp hH => ?_)
      obtain ⟨⟨oI, -, sc101⟩, eJ101, eR101, ry101, hp101, hf101⟩ := hp
      obtain rfl : J = J101 := eJ101.symm
      obtain rfl : R = R101 := eR101.symm
      have sm : Sm C ms_L_law (I, J, R) (I101, J, R) := sm.tr sc101 rfl
      have xm : XM L C I101 := XM.sm (u := (I94, J, R)) (v := (I101, J, R)) xm sc101 rfl rfl
      have xw : XW L C I101 := hp101
      have ow : Ow L C R := Ow.sm (u := (I94, J, R)) (v := (I101, J, R)) ow sc101 rfl
      have rr101 := st_offer uq mx kx mm km oI0 oR0 ow0 rel0 hf94 sc94 oI1 oR1 hf101 sc101 oI oR
      have rel : RXC L C x mo (I101, J, R) := rr101.1
      refine lv_pop hx hb dL_law_418 rfl ?_
      refine lv_goto (tgt := 1244) hx hb dL_law_419 (by decide) ?_
      exact L_1244 h6 I101 J R _ _ _ hH oI oR xm xw ow rel (lv_sub hl [0, 1, 2, 3] rfl)
    · have r102 : Rg y4 (6) (6) := ⟨by rw [z5]; decide, by rw [z5]; decide⟩
      refine lv_tableIn (tgt := 422) hx hb dL_law_33 (by rw [z5]; decide) (by rw [z5]; decide) (by rw [z5]; rfl) (by decide) ?_
      refine lv_aload_n hx hb dL_law_422 rfl (lv_at hl 1 rfl) ?_
      refine lv_aload_n hx hb dL_law_423 rfl (lv_at hl 0 rfl) ?_
      refine lv_iload_n hx hb dL_law_424 rfl (lv_at hl 3 rfl) ?_
      refine lv_iconst (v := 1) hx hb dL_law_425 (by decide) ?_
      refine lv_iadd hx hb dL_law_426 ?_
      refine lv_topi (fun y103 ey103 => ?_)
      obtain ⟨ty103, ry103⟩ := Rg_addx (a' := (1)) (b' := (3073)) (rfl : x3.toInt = _) (by decide : Int32.toInt 1 = 1) r3 (Rg_c (x := 1) (a := (1)) (b := (1)) (by decide)) (by decide)
      rw [← ey103] at ty103 ry103
      refine va_sld hx hb hX hbl hbA hH.2.2.2.1 (sc_in ty103 hi h6 (by decide)) dL_law_427 ?_
      refine lv_topi (fun y104 ey104 => ?_)
      refine lv_aload_n hx hb dL_law_428 rfl (lv_at hl 0 rfl) ?_
      refine lv_iload_n hx hb dL_law_429 rfl (lv_at hl 3 rfl) ?_
      refine lv_iconst (v := 2) hx hb dL_law_430 (by decide) ?_
      refine lv_iadd hx hb dL_law_431 ?_
      refine lv_topi (fun y105 ey105 => ?_)
      obtain ⟨ty105, ry105⟩ := Rg_addx (a' := (2)) (b' := (3074)) (rfl : x3.toInt = _) (by decide : Int32.toInt 2 = 2) r3 (Rg_c (x := 2) (a := (2)) (b := (2)) (by decide)) (by decide)
      rw [← ey105] at ty105 ry105
      refine va_sld hx hb hX hbl hbA hH.2.2.2.1 (sc_in ty105 hi h6 (by decide)) dL_law_432 ?_
      refine lv_topi (fun y106 ey106 => ?_)
      refine lv_aload_n hx hb dL_law_433 rfl (lv_at hl 0 rfl) ?_
      refine lv_iload_n hx hb dL_law_434 rfl (lv_at hl 3 rfl) ?_
      refine lv_iconst (v := 3) hx hb dL_law_435 (by decide) ?_
      refine lv_iadd hx hb dL_law_436 ?_
      refine lv_topi (fun y107 ey107 => ?_)
      obtain ⟨ty107, ry107⟩ := Rg_addx (a' := (3)) (b' := (3075)) (rfl : x3.toInt = _) (by decide : Int32.toInt 3 = 3) r3 (Rg_c (x := 3) (a := (3)) (b := (3)) (by decide)) (by decide)
      rw [← ey107] at ty107 ry107
      refine va_sld hx hb hX hbl hbA hH.2.2.2.1 (sc_in ty107 hi h6 (by decide)) dL_law_437 ?_
      refine lv_topi (fun y108 ey108 => ?_)
      refine lv_aload_n hx hb dL_law_438 rfl (lv_at hl 0 rfl) ?_
      refine lv_iload_n hx hb dL_law_439 rfl (lv_at hl 3 rfl) ?_
      refine lv_iconst (v := 4) hx hb dL_law_440 (by decide) ?_
      refine lv_iadd hx hb dL_law_441 ?_
      refine lv_topi (fun y109 ey109 => ?_)
      obtain ⟨ty109, ry109⟩ := Rg_addx (a' := (4)) (b' := (3076)) (rfl : x3.toInt = _) (by decide : Int32.toInt 4 = 4) r3 (Rg_c (x := 4) (a := (4)) (b := (4)) (by decide)) (by decide)
      rw [← ey109] at ty109 ry109
      refine va_sld hx hb hX hbl hbA hH.2.2.2.1 (sc_in ty109 hi h6 (by decide)) dL_law_442 ?_
      refine lv_topi (fun y110 ey110 => ?_)
      refine lv_aload_n hx hb dL_law_443 rfl (lv_at hl 0 rfl) ?_
      refine lv_iload_n hx hb dL_law_444 rfl (lv_at hl 3 rfl) ?_
      refine lv_iconst (v := 5) hx hb dL_law_445 (by decide) ?_
      refine lv_iadd hx hb dL_law_446 ?_
      refine lv_topi (fun y111 ey111 => ?_)
      obtain ⟨ty111, ry111⟩ := Rg_addx (a' := (5)) (b' := (3077)) (rfl : x3.toInt = _) (by decide : Int32.toInt 5 = 5) r3 (Rg_c (x := 5) (a := (5)) (b := (5)) (by decide)) (by decide)
      rw [← ey111] at ty111 ry111
      refine va_sld hx hb hX hbl hbA hH.2.2.2.1 (sc_in ty111 hi h6 (by decide)) dL_law_447 ?_
      refine lv_topi (fun y112 ey112 => ?_)
      refine ca_L_43 hx hb hml hown hts hH (c_X10_work oI oR mx kx (by exact xm)) hl.1 mx kx rfl (by decide) (Nat.le_of_ble_eq_true rfl) ⟨by decide, by decide⟩ dL_law_448 (fun y113 I113 J113 R113 H locs hp hH => ?_)
      obtain ⟨⟨oI, -, sc113⟩, eJ113, eR113, ry113, hp113, hf113⟩ := hp
      obtain rfl : J = J113 := eJ113.symm
      obtain rfl : R = R113 := eR113.symm
      have sm : Sm C ms_L_law (I, J, R) (I113, J, R) := sm.tr sc113 rfl
      have xm : XM L C I113 := hp113
      have xw : XW L C I113 := XW.sm (u := (I, J, R)) (v := (I113, J, R)) xw sc113 rfl rfl
      have ow : Ow L C R := Ow.sm (u := (I, J, R)) (v := (I113, J, R)) ow sc113 rfl
      have oI1 := oI
      have oR1 := oR
      refine lv_pop hx hb dL_law_451 rfl ?_
      refine lv_aload_n hx hb dL_law_452 rfl (lv_at hl 2 rfl) ?_
      refine lv_aload_n hx hb dL_law_453 rfl (lv_at hl 0 rfl) ?_
      refine lv_iload_n hx hb dL_law_454 rfl (lv_at hl 3 rfl) ?_
      refine lv_iconst (v := 1) hx hb dL_law_455 (by decide) ?_
      refine lv_iadd hx hb dL_law_456 ?_
      refine lv_topi (fun y114 ey114 => ?_)
      obtain rfl : y103 = y114 := ey103.trans ey114.symm
      refine va_sld hx hb hX hbl hbA hH.2.2.2.1 (sc_in ty103 hi h6 (by decide)) dL_law_457 ?_
      refine lv_topi (fun y115 ey115 => ?_)
      obtain rfl : y104 = y115 := ey104.trans ey115.symm
      refine lv_aload_n hx hb dL_law_458 rfl (lv_at hl 0 rfl) ?_
      refine lv_iload_n hx hb dL_law_459 rfl (lv_at hl 3 rfl) ?_
      refine lv_iconst (v := 2) hx hb dL_law_460 (by decide) ?_
      refine lv_iadd hx hb dL_law_461 ?_
      refine lv_topi (fun y116 ey116 => ?_)
      obtain rfl : y105 = y116 := ey105.trans ey116.symm
      refine va_sld hx hb hX hbl hbA hH.2.2.2.1 (sc_in ty105 hi h6 (by decide)) dL_law_462 ?_
      refine lv_topi (fun y117 ey117 => ?_)
      obtain rfl : y106 = y117 := ey106.trans ey117.symm
      refine lv_aload_n hx hb dL_law_463 rfl (lv_at hl 0 rfl) ?_
      refine lv_iload_n hx hb dL_law_464 rfl (lv_at hl 3 rfl) ?_
      refine lv_iconst (v := 3) hx hb dL_law_465 (by decide) ?_
      refine lv_iadd hx hb dL_law_466 ?_
      refine lv_topi (fun y118 ey118 => ?_)
      obtain rfl : y107 = y118 := ey107.trans ey118.symm
      refine va_sld hx hb hX hbl hbA hH.2.2.2.1 (sc_in ty107 hi h6 (by decide)) dL_law_467 ?_
      refine lv_topi (fun y119 ey119 => ?_)
      obtain rfl : y108 = y119 := ey108.trans ey119.symm
      refine lv_aload_n hx hb dL_law_468 rfl (lv_at hl 0 rfl) ?_
      refine lv_iload_n hx hb dL_law_469 rfl (lv_at hl 3 rfl) ?_
      refine lv_iconst (v := 4) hx hb dL_law_470 (by decide) ?_
      refine lv_iadd hx hb dL_law_471 ?_
      refine lv_topi (fun y120 ey120 => ?_)
      obtain rfl : y109 = y120 := ey109.trans ey120.symm
      refine va_sld hx hb hX hbl hbA hH.2.2.2.1 (sc_in ty109 hi h6 (by decide)) dL_law_472 ?_
      refine lv_topi (fun y121 ey121 => ?_)
      obtain rfl : y110 = y121 := ey110.trans ey121.symm
      refine lv_aload_n hx hb dL_law_473 rfl (lv_at hl 0 rfl) ?_
      refine lv_iload_n hx hb dL_law_474 rfl (lv_at hl 3 rfl) ?_
      refine lv_iconst (v := 5) hx hb dL_law_475 (by decide) ?_
      refine lv_iadd hx hb dL_law_476 ?_
      refine lv_topi (fun y122 ey122 => ?_)
      obtain rfl : y111 = y122 := ey111.trans ey122.symm
      refine va_sld hx hb hX hbl hbA hH.2.2.2.1 (sc_in ty111 hi h6 (by decide)) dL_law_477 ?_
      refine lv_topi (fun y123 ey123 => ?_)
      obtain rfl : y112 = y123 := ey112.trans ey123.symm
      refine ca_L_47 hx hb hml hown hts hH (c_X11_work oI oR mm km (by exact xw) (by exact uq)) hl.1 mm km rfl (by decide) (Nat.le_of_ble_eq_true rfl) ⟨by decide, by decide⟩ dL_law_478 (fun y124 I124 J124 R124 H locs hp hH => ?_)
      obtain ⟨⟨oI, -, sc124⟩, eJ124, eR124, ry124, hp124, hf124⟩ := hp
      obtain rfl : J = J124 := eJ124.symm
      obtain rfl : R = R124 := eR124.symm
      have sm : Sm C ms_L_law (I, J, R) (I124, J, R) := sm.tr sc124 rfl
      have xm : XM L C I124 := XM.sm (u := (I113, J, R)) (v := (I124, J, R)) xm sc124 rfl rfl
      have xw : XW L C I124 := hp124
      have ow : Ow L C R := Ow.sm (u := (I113, J, R)) (v := (I124, J, R)) ow sc124 rfl
      have rr124 := st_work uq mx kx mm km oI0 oR0 ow0 rel0 hf113 sc113 oI1 oR1 hf124 sc124 oI oR
      have rel : RXC L C x mo (I124, J, R) := rr124.1
      refine lv_pop hx hb dL_law_481 rfl ?_
      refine lv_goto (tgt := 1244) hx hb dL_law_482 (by decide) ?_
      exact L_1244 h6 I124 J R _ _ _ hH oI oR xm xw ow rel (lv_sub hl [0, 1, 2, 3] rfl)
    · have r125 : Rg y4 (7) (7) := ⟨by rw [z5]; decide, by rw [z5]; decide⟩
      refine lv_tableIn (tgt := 485) hx hb dL_law_33 (by rw [z5]; decide) (by rw [z5]; decide) (by rw [z5]; rfl) (by decide) ?_
      refine lv_aload_n hx hb dL_law_485 rfl (lv_at hl 1 rfl) ?_
      refine lv_aload_n hx hb dL_law_486 rfl (lv_at hl 0 rfl) ?_
      refine lv_iload_n hx hb dL_law_487 rfl (lv_at hl 3 rfl) ?_
      refine lv_iconst (v := 1) hx hb dL_law_488 (by decide) ?_
      refine lv_iadd hx hb dL_law_489 ?_
      refine lv_topi (fun y126 ey126 => ?_)
      obtain ⟨ty126, ry126⟩ := Rg_addx (a' := (1)) (b' := (3073)) (rfl : x3.toInt = _) (by decide : Int32.toInt 1 = 1) r3 (Rg_c (x := 1) (a := (1)) (b := (1)) (by decide)) (by decide)
      rw [← ey126] at ty126 ry126
      refine va_sld hx hb hX hbl hbA hH.2.2.2.1 (sc_in ty126 hi h6 (by decide)) dL_law_490 ?_
      refine lv_topi (fun y127 ey127 => ?_)
      refine lv_aload_n hx hb dL_law_491 rfl (lv_at hl 0 rfl) ?_
      refine lv_iload_n hx hb dL_law_492 rfl (lv_at hl 3 rfl) ?_
      refine lv_iconst (v := 2) hx hb dL_law_493 (by decide) ?_
      refine lv_iadd hx hb dL_law_494 ?_
      refine lv_topi (fun y128 ey128 => ?_)
      obtain ⟨ty128, ry128⟩ := Rg_addx (a' := (2)) (b' := (3074)) (rfl : x3.toInt = _) (by decide : Int32.toInt 2 = 2) r3 (Rg_c (x := 2) (a := (2)) (b := (2)) (by decide)) (by decide)
      rw [← ey128] at ty128 ry128
      refine va_sld hx hb hX hbl hbA hH.2.2.2.1 (sc_in ty128 hi h6 (by decide)) dL_law_495 ?_
      refine lv_topi (fun y129 ey129 => ?_)
      refine lv_aload_n hx hb dL_law_496 rfl (lv_at hl 0 rfl) ?_
      refine lv_iload_n hx hb dL_law_497 rfl (lv_at hl 3 rfl) ?_
      refine lv_iconst (v := 3) hx hb dL_law_498 (by decide) ?_
      refine lv_iadd hx hb dL_law_499 ?_
      refine lv_topi (fun y130 ey130 => ?_)
      obtain ⟨ty130, ry130⟩ := Rg_addx (a' := (3)) (b' := (3075)) (rfl : x3.toInt = _) (by decide : Int32.toInt 3 = 3) r3 (Rg_c (x := 3) (a := (3)) (b := (3)) (by decide)) (by decide)
      rw [← ey130] at ty130 ry130
      refine va_sld hx hb hX hbl hbA hH.2.2.2.1 (sc_in ty130 hi h6 (by decide)) dL_law_500 ?_
      refine lv_topi (fun y131 ey131 => ?_)
      refine lv_aload_n hx hb dL_law_501 rfl (lv_at hl 0 rfl) ?_
      refine lv_iload_n hx hb dL_law_502 rfl (lv_at hl 3 rfl) ?_
      refine lv_iconst (v := 4) hx hb dL_law_503 (by decide) ?_
      refine lv_iadd hx hb dL_law_504 ?_
      refine lv_topi (fun y132 ey132 => ?_)
      obtain ⟨ty132, ry132⟩ := Rg_addx (a' := (4)) (b' := (3076)) (rfl : x3.toInt = _) (by decide : Int32.toInt 4 = 4) r3 (Rg_c (x := 4) (a := (4)) (b := (4)) (by decide)) (by decide)
      rw [← ey132] at ty132 ry132
      refine va_sld hx hb hX hbl hbA hH.2.2.2.1 (sc_in ty132 hi h6 (by decide)) dL_law_505 ?_
      refine lv_topi (fun y133 ey133 => ?_)
      refine ca_L_48 hx hb hml hown hts hH (c_X10_times oI oR mx kx) hl.1 mx kx rfl (by decide) (Nat.le_of_ble_eq_true rfl) ⟨by decide, by decide⟩ dL_law_506 (fun y134 I134 J134 R134 H locs hp hH => ?_)
      obtain ⟨⟨oI, -, sc134⟩, eJ134, eR134, ry134, hf134⟩ := hp
      obtain rfl : J = J134 := eJ134.symm
      obtain rfl : R = R134 := eR134.symm
      have sm : Sm C ms_L_law (I, J, R) (I134, J, R) := sm.tr sc134 rfl
      have xm : XM L C I134 := XM.sm (u := (I, J, R)) (v := (I134, J, R)) xm sc134 rfl rfl
      have xw : XW L C I134 := XW.sm (u := (I, J, R)) (v := (I134, J, R)) xw sc134 rfl rfl
      have ow : Ow L C R := Ow.sm (u := (I, J, R)) (v := (I134, J, R)) ow sc134 rfl
      have oI1 := oI
      have oR1 := oR
      refine lv_pop hx hb dL_law_509 rfl ?_
      refine lv_aload_n hx hb dL_law_510 rfl (lv_at hl 2 rfl) ?_
      refine lv_aload_n hx hb dL_law_511 rfl (lv_at hl 0 rfl) ?_
      refine lv_iload_n hx hb dL_law_512 rfl (lv_at hl 3 rfl) ?_
      refine lv_iconst (v := 1) hx hb dL_law_513 (by decide) ?_
      refine lv_iadd hx hb dL_law_514 ?_
      refine lv_topi (fun y135 ey135 => ?_)
      obtain rfl : y126 = y135 := ey126.trans ey135.symm
      refine va_sld hx hb hX hbl hbA hH.2.2.2.1 (sc_in ty126 hi h6 (by decide)) dL_law_515 ?_
      refine lv_topi (fun y136 ey136 => ?_)
      obtain rfl : y127 = y136 := ey127.trans ey136.symm
      refine lv_aload_n hx hb dL_law_516 rfl (lv_at hl 0 rfl) ?_
      refine lv_iload_n hx hb dL_law_517 rfl (lv_at hl 3 rfl) ?_
      refine lv_iconst (v := 2) hx hb dL_law_518 (by decide) ?_
      refine lv_iadd hx hb dL_law_519 ?_
      refine lv_topi (fun y137 ey137 => ?_)
      obtain rfl : y128 = y137 := ey128.trans ey137.symm
      refine va_sld hx hb hX hbl hbA hH.2.2.2.1 (sc_in ty128 hi h6 (by decide)) dL_law_520 ?_
      refine lv_topi (fun y138 ey138 => ?_)
      obtain rfl : y129 = y138 := ey129.trans ey138.symm
      refine lv_aload_n hx hb dL_law_521 rfl (lv_at hl 0 rfl) ?_
      refine lv_iload_n hx hb dL_law_522 rfl (lv_at hl 3 rfl) ?_
      refine lv_iconst (v := 3) hx hb dL_law_523 (by decide) ?_
      refine lv_iadd hx hb dL_law_524 ?_
      refine lv_topi (fun y139 ey139 => ?_)
      obtain rfl : y130 = y139 := ey130.trans ey139.symm
      refine va_sld hx hb hX hbl hbA hH.2.2.2.1 (sc_in ty130 hi h6 (by decide)) dL_law_525 ?_
      refine lv_topi (fun y140 ey140 => ?_)
      obtain rfl : y131 = y140 := ey131.trans ey140.symm
      refine lv_aload_n hx hb dL_law_526 rfl (lv_at hl 0 rfl) ?_
      refine lv_iload_n hx hb dL_law_527 rfl (lv_at hl 3 rfl) ?_
      refine lv_iconst (v := 4) hx hb dL_law_528 (by decide) ?_
      refine lv_iadd hx hb dL_law_529 ?_
      refine lv_topi (fun y141 ey141 => ?_)
      obtain rfl : y132 = y141 := ey132.trans ey141.symm
      refine va_sld hx hb hX hbl hbA hH.2.2.2.1 (sc_in ty132 hi h6 (by decide)) dL_law_530 ?_
      refine lv_topi (fun y142 ey142 => ?_)
      obtain rfl : y133 = y142 := ey133.trans ey142.symm
      refine ca_L_51 hx hb hml hown hts hH (c_X11_times oI oR mm km) hl.1 mm km rfl (by decide) (Nat.le_of_ble_eq_true rfl) ⟨by decide, by decide⟩ dL_law_531 (fun y143 I143 J143 R143 H locs hp hH => ?_)
      obtain ⟨⟨oI, -, sc143⟩, eJ143, eR143, ry143, hf143⟩ := hp
      obtain rfl : J = J143 := eJ143.symm
      obtain rfl : R = R143 := eR143.symm
      have sm : Sm C ms_L_law (I, J, R) (I143, J, R) := sm.tr sc143 rfl
      have xm : XM L C I143 := XM.sm (u := (I134, J, R)) (v := (I143, J, R)) xm sc143 rfl rfl
      have xw : XW L C I143 := XW.sm (u := (I134, J, R)) (v := (I143, J, R)) xw sc143 rfl rfl
      have ow : Ow L C R := Ow.sm (u := (I134, J, R)) (v := (I143, J, R)) ow sc143 rfl
      have rr143 := st_times uq mx kx mm km oI0 oR0 ow0 rel0 hf134 sc134 oI1 oR1 hf143 sc143 oI oR
      have rel : RXC L C x mo (I143, J, R) := rr143.1
      refine lv_pop hx hb dL_law_534 rfl ?_
      refine lv_goto (tgt := 1244) hx hb dL_law_535 (by decide) ?_
      exact L_1244 h6 I143 J R _ _ _ hH oI oR xm xw ow rel (lv_sub hl [0, 1, 2, 3] rfl)
    · have r144 : Rg y4 (8) (8) := ⟨by rw [z5]; decide, by rw [z5]; decide⟩
      refine lv_tableIn (tgt := 538) hx hb dL_law_33 (by rw [z5]; decide) (by rw [z5]; decide) (by rw [z5]; rfl) (by decide) ?_
      refine lv_aload_n hx hb dL_law_538 rfl (lv_at hl 1 rfl) ?_
      refine lv_aload_n hx hb dL_law_539 rfl (lv_at hl 0 rfl) ?_
      refine lv_iload_n hx hb dL_law_540 rfl (lv_at hl 3 rfl) ?_
      refine lv_iconst (v := 1) hx hb dL_law_541 (by decide) ?_
      refine lv_iadd hx hb dL_law_542 ?_
      refine lv_topi (fun y145 ey145 => ?_)
      obtain ⟨ty145, ry145⟩ := Rg_addx (a' := (1)) (b' := (3073)) (rfl : x3.toInt = _) (by decide : Int32.toInt 1 = 1) r3 (Rg_c (x := 1) (a := (1)) (b := (1)) (by decide)) (by decide)
      rw [← ey145] at ty145 ry145
      refine va_sld hx hb hX hbl hbA hH.2.2.2.1 (sc_in ty145 hi h6 (by decide)) dL_law_543 ?_
      refine lv_topi (fun y146 ey146 => ?_)
      refine lv_if_eq (tgt := 551) hx hb dL_law_544 (by decide) (fun q147 => ?_) (fun q147 => ?_)
      · have l148 := congrArg Int32.toInt q147
        have r149 : Rg y146 (0) (0) := Rg_both (Rg_any y146) (Rg_eqv q147 (Rg_c (x := 0) (a := (0)) (b := (0)) (by decide))) (by decide)
        refine lv_iconst (v := 0) hx hb dL_law_551 (by decide) ?_
        refine lv_aload_n hx hb dL_law_552 rfl (lv_at hl 0 rfl) ?_
        refine lv_iload_n hx hb dL_law_553 rfl (lv_at hl 3 rfl) ?_
        refine lv_iconst (v := 2) hx hb dL_law_554 (by decide) ?_
        refine lv_iadd hx hb dL_law_555 ?_
        refine lv_topi (fun y150 ey150 => ?_)
        obtain ⟨ty150, ry150⟩ := Rg_addx (a' := (2)) (b' := (3074)) (rfl : x3.toInt = _) (by decide : Int32.toInt 2 = 2) r3 (Rg_c (x := 2) (a := (2)) (b := (2)) (by decide)) (by decide)
        rw [← ey150] at ty150 ry150
        refine va_sld hx hb hX hbl hbA hH.2.2.2.1 (sc_in ty150 hi h6 (by decide)) dL_law_556 ?_
        refine lv_topi (fun y151 ey151 => ?_)
        refine ca_L_52 hx hb hml hown hts hH (c_X10_strip oI oR mx kx (Rg_w (Rg_c (x := 0) (a := (0)) (b := (0)) (by decide)) (by decide))) hl.1 mx kx rfl (by decide) (Nat.le_of_ble_eq_true rfl) ⟨by decide, by decide⟩ dL_law_557 (fun y152 I152 J152 R152 H locs hp hH => ?_)
        obtain ⟨⟨oI, -, sc152⟩, eJ152, eR152, ry152, hf152⟩ := hp
        obtain rfl : J = J152 := eJ152.symm
        obtain rfl : R = R152 := eR152.symm
        have sm : Sm C ms_L_law (I, J, R) (I152, J, R) := sm.tr sc152 rfl
        have xm : XM L C I152 := XM.sm (u := (I, J, R)) (v := (I152, J, R)) xm sc152 rfl rfl
        have xw : XW L C I152 := XW.sm (u := (I, J, R)) (v := (I152, J, R)) xw sc152 rfl rfl
        have ow : Ow L C R := Ow.sm (u := (I, J, R)) (v := (I152, J, R)) ow sc152 rfl
        have oI1 := oI
        have oR1 := oR
        refine lv_pop hx hb dL_law_560 rfl ?_
        refine lv_aload_n hx hb dL_law_561 rfl (lv_at hl 2 rfl) ?_
        refine lv_aload_n hx hb dL_law_562 rfl (lv_at hl 0 rfl) ?_
        refine lv_iload_n hx hb dL_law_563 rfl (lv_at hl 3 rfl) ?_
        refine lv_iconst (v := 1) hx hb dL_law_564 (by decide) ?_
        refine lv_iadd hx hb dL_law_565 ?_
        refine lv_topi (fun y153 ey153 => ?_)
        obtain rfl : y145 = y153 := ey145.trans ey153.symm
        refine va_sld hx hb hX hbl hbA hH.2.2.2.1 (sc_in ty145 hi h6 (by decide)) dL_law_566 ?_
        refine lv_topi (fun y154 ey154 => ?_)
        obtain rfl : y146 = y154 := ey146.trans ey154.symm
        refine lv_if_eq (tgt := 574) hx hb dL_law_567 (by decide) (fun q155 => ?_) (fun q155 => ?_)
        rotate_left
        · exact Rg_no (Rg_nehi r149 (Rg_ne q155) (Rg_c (x := 0) (a := (0)) (b := (0)) (by decide)) (b' := (-1)) (by decide)) (by decide)
        have l156 := congrArg Int32.toInt q155
        refine lv_iconst (v := 0) hx hb dL_law_574 (by decide) ?_
        refine lv_aload_n hx hb dL_law_575 rfl (lv_at hl 0 rfl) ?_
        refine lv_iload_n hx hb dL_law_576 rfl (lv_at hl 3 rfl) ?_
        refine lv_iconst (v := 2) hx hb dL_law_577 (by decide) ?_
        refine lv_iadd hx hb dL_law_578 ?_
        refine lv_topi (fun y157 ey157 => ?_)
        obtain rfl : y150 = y157 := ey150.trans ey157.symm
        refine va_sld hx hb hX hbl hbA hH.2.2.2.1 (sc_in ty150 hi h6 (by decide)) dL_law_579 ?_
        refine lv_topi (fun y158 ey158 => ?_)
        obtain rfl : y151 = y158 := ey151.trans ey158.symm
        refine ca_L_56 hx hb hml hown hts hH (c_X11_strip oI oR mm km (Rg_w (Rg_c (x := 0) (a := (0)) (b := (0)) (by decide)) (by decide))) hl.1 mm km rfl (by decide) (Nat.le_of_ble_eq_true rfl) ⟨by decide, by decide⟩ dL_law_580 (fun y159 I159 J159 R159 H locs hp hH => ?_)
        obtain ⟨⟨oI, -, sc159⟩, eJ159, eR159, ry159, hf159⟩ := hp
        obtain rfl : J = J159 := eJ159.symm
        obtain rfl : R = R159 := eR159.symm
        have sm : Sm C ms_L_law (I, J, R) (I159, J, R) := sm.tr sc159 rfl
        have xm : XM L C I159 := XM.sm (u := (I152, J, R)) (v := (I159, J, R)) xm sc159 rfl rfl
        have xw : XW L C I159 := XW.sm (u := (I152, J, R)) (v := (I159, J, R)) xw sc159 rfl rfl
        have ow : Ow L C R := Ow.sm (u := (I152, J, R)) (v := (I159, J, R)) ow sc159 rfl
        have rr159 := st_strip uq mx kx mm km oI0 oR0 ow0 rel0 hf152 sc152 oI1 oR1 hf159 sc159 oI oR
        have rel : RXC L C x mo (I159, J, R) := rr159.1
        refine lv_pop hx hb dL_law_583 rfl ?_
        refine lv_goto (tgt := 1244) hx hb dL_law_584 (by decide) ?_
        exact L_1244 h6 I159 J R _ _ _ hH oI oR xm xw ow rel (lv_sub hl [0, 1, 2, 3] rfl)
      have l161 := Rg_ne q147
      refine lv_iconst (v := 1) hx hb dL_law_547 (by decide) ?_
      refine lv_goto (tgt := 552) hx hb dL_law_548 (by decide) ?_
      refine lv_aload_n hx hb dL_law_552 rfl (lv_at hl 0 rfl) ?_
      refine lv_iload_n hx hb dL_law_553 rfl (lv_at hl 3 rfl) ?_
      refine lv_iconst (v := 2) hx hb dL_law_554 (by decide) ?_
      refine lv_iadd hx hb dL_law_555 ?_
      refine lv_topi (fun y162 ey162 => ?_)
      obtain ⟨ty162, ry162⟩ := Rg_addx (a' := (2)) (b' := (3074)) (rfl : x3.toInt = _) (by decide : Int32.toInt 2 = 2) r3 (Rg_c (x := 2) (a := (2)) (b := (2)) (by decide)) (by decide)
      rw [← ey162] at ty162 ry162
      refine va_sld hx hb hX hbl hbA hH.2.2.2.1 (sc_in ty162 hi h6 (by decide)) dL_law_556 ?_
      refine lv_topi (fun y163 ey163 => ?_)
      refine ca_L_52 hx hb hml hown hts hH (c_X10_strip oI oR mx kx (Rg_w (Rg_c (x := 1) (a := (1)) (b := (1)) (by decide)) (by decide))) hl.1 mx kx rfl (by decide) (Nat.le_of_ble_eq_true rfl) ⟨by decide, by decide⟩ dL_law_557 (fun y164 I164 J164 R164 H locs hp hH => ?_)
      obtain ⟨⟨oI, -, sc164⟩, eJ164, eR164, ry164, hf164⟩ := hp
      obtain rfl : J = J164 := eJ164.symm
      obtain rfl : R = R164 := eR164.symm
      have sm : Sm C ms_L_law (I, J, R) (I164, J, R) := sm.tr sc164 rfl
      have xm : XM L C I164 := XM.sm (u := (I, J, R)) (v := (I164, J, R)) xm sc164 rfl rfl
      have xw : XW L C I164 := XW.sm (u := (I, J, R)) (v := (I164, J, R)) xw sc164 rfl rfl
      have ow : Ow L C R := Ow.sm (u := (I, J, R)) (v := (I164, J, R)) ow sc164 rfl
      have oI1 := oI
      have oR1 := oR
      refine lv_pop hx hb dL_law_560 rfl ?_
      refine lv_aload_n hx hb dL_law_561 rfl (lv_at hl 2 rfl) ?_
      refine lv_aload_n hx hb dL_law_562 rfl (lv_at hl 0 rfl) ?_
      refine lv_iload_n hx hb dL_law_563 rfl (lv_at hl 3 rfl) ?_
      refine lv_iconst (v := 1) hx hb dL_law_564 (by decide) ?_
      refine lv_iadd hx hb dL_law_565 ?_
      refine lv_topi (fun y165 ey165 => ?_)
      obtain rfl : y145 = y165 := ey145.trans ey165.symm
      refine va_sld hx hb hX hbl hbA hH.2.2.2.1 (sc_in ty145 hi h6 (by decide)) dL_law_566 ?_
      refine lv_topi (fun y166 ey166 => ?_)
      obtain rfl : y146 = y166 := ey146.trans ey166.symm
      refine lv_if_eq (tgt := 574) hx hb dL_law_567 (by decide) (fun q167 => ?_) (fun q167 => ?_)
      · exact absurd q167 q147
      have l169 := Rg_ne q167
      refine lv_iconst (v := 1) hx hb dL_law_570 (by decide) ?_
      refine lv_goto (tgt := 575) hx hb dL_law_571 (by decide) ?_
      refine lv_aload_n hx hb dL_law_575 rfl (lv_at hl 0 rfl) ?_
      refine lv_iload_n hx hb dL_law_576 rfl (lv_at hl 3 rfl) ?_
      refine lv_iconst (v := 2) hx hb dL_law_577 (by decide) ?_
      refine lv_iadd hx hb dL_law_578 ?_
      refine lv_topi (fun y170 ey170 => ?_)
      obtain rfl : y162 = y170 := ey162.trans ey170.symm
      refine va_sld hx hb hX hbl hbA hH.2.2.2.1 (sc_in ty162 hi h6 (by decide)) dL_law_579 ?_
      refine lv_topi (fun y171 ey171 => ?_)
      obtain rfl : y163 = y171 := ey163.trans ey171.symm
      refine ca_L_56 hx hb hml hown hts hH (c_X11_strip oI oR mm km (Rg_w (Rg_c (x := 1) (a := (1)) (b := (1)) (by decide)) (by decide))) hl.1 mm km rfl (by decide) (Nat.le_of_ble_eq_true rfl) ⟨by decide, by decide⟩ dL_law_580 (fun y172 I172 J172 R172 H locs hp hH => ?_)
      obtain ⟨⟨oI, -, sc172⟩, eJ172, eR172, ry172, hf172⟩ := hp
      obtain rfl : J = J172 := eJ172.symm
      obtain rfl : R = R172 := eR172.symm
      have sm : Sm C ms_L_law (I, J, R) (I172, J, R) := sm.tr sc172 rfl
      have xm : XM L C I172 := XM.sm (u := (I164, J, R)) (v := (I172, J, R)) xm sc172 rfl rfl
      have xw : XW L C I172 := XW.sm (u := (I164, J, R)) (v := (I172, J, R)) xw sc172 rfl rfl
      have ow : Ow L C R := Ow.sm (u := (I164, J, R)) (v := (I172, J, R)) ow sc172 rfl
      have rr172 := st_strip uq mx kx mm km oI0 oR0 ow0 rel0 hf164 sc164 oI1 oR1 hf172 sc172 oI oR
      have rel : RXC L C x mo (I172, J, R) := rr172.1
      refine lv_pop hx hb dL_law_583 rfl ?_
      refine lv_goto (tgt := 1244) hx hb dL_law_584 (by decide) ?_
      exact L_1244 h6 I172 J R _ _ _ hH oI oR xm xw ow rel (lv_sub hl [0, 1, 2, 3] rfl)
    · have r173 : Rg y4 (9) (9) := ⟨by rw [z5]; decide, by rw [z5]; decide⟩
      refine lv_tableIn (tgt := 587) hx hb dL_law_33 (by rw [z5]; decide) (by rw [z5]; decide) (by rw [z5]; rfl) (by decide) ?_
      refine lv_aload_n hx hb dL_law_587 rfl (lv_at hl 1 rfl) ?_
      refine lv_aload_n hx hb dL_law_588 rfl (lv_at hl 0 rfl) ?_
      refine lv_iload_n hx hb dL_law_589 rfl (lv_at hl 3 rfl) ?_
      refine lv_iconst (v := 1) hx hb dL_law_590 (by decide) ?_
      refine lv_iadd hx hb dL_law_591 ?_
      refine lv_topi (fun y174 ey174 => ?_)
      obtain ⟨ty174, ry174⟩ := Rg_addx (a' := (1)) (b' := (3073)) (rfl : x3.toInt = _) (by decide : Int32.toInt 1 = 1) r3 (Rg_c (x := 1) (a := (1)) (b := (1)) (by decide)) (by decide)
      rw [← ey174] at ty174 ry174
      refine va_sld hx hb hX hbl hbA hH.2.2.2.1 (sc_in ty174 hi h6 (by decide)) dL_law_592 ?_
      refine lv_topi (fun y175 ey175 => ?_)
      refine lv_aload_n hx hb dL_law_593 rfl (lv_at hl 0 rfl) ?_
      refine lv_iload_n hx hb dL_law_594 rfl (lv_at hl 3 rfl) ?_
      refine lv_iconst (v := 2) hx hb dL_law_595 (by decide) ?_
      refine lv_iadd hx hb dL_law_596 ?_
      refine lv_topi (fun y176 ey176 => ?_)
      obtain ⟨ty176, ry176⟩ := Rg_addx (a' := (2)) (b' := (3074)) (rfl : x3.toInt = _) (by decide : Int32.toInt 2 = 2) r3 (Rg_c (x := 2) (a := (2)) (b := (2)) (by decide)) (by decide)
      rw [← ey176] at ty176 ry176
      refine va_sld hx hb hX hbl hbA hH.2.2.2.1 (sc_in ty176 hi h6 (by decide)) dL_law_597 ?_
      refine lv_topi (fun y177 ey177 => ?_)
      refine lv_aload_n hx hb dL_law_598 rfl (lv_at hl 0 rfl) ?_
      refine lv_iload_n hx hb dL_law_599 rfl (lv_at hl 3 rfl) ?_
      refine lv_iconst (v := 3) hx hb dL_law_600 (by decide) ?_
      refine lv_iadd hx hb dL_law_601 ?_
      refine lv_topi (fun y178 ey178 => ?_)
      obtain ⟨ty178, ry178⟩ := Rg_addx (a' := (3)) (b' := (3075)) (rfl : x3.toInt = _) (by decide : Int32.toInt 3 = 3) r3 (Rg_c (x := 3) (a := (3)) (b := (3)) (by decide)) (by decide)
      rw [← ey178] at ty178 ry178
      refine va_sld hx hb hX hbl hbA hH.2.2.2.1 (sc_in ty178 hi h6 (by decide)) dL_law_602 ?_
      refine lv_topi (fun y179 ey179 => ?_)
      refine lv_if_eq (tgt := 610) hx hb dL_law_603 (by decide) (fun q180 => ?_) (fun q180 => ?_)
      · have l181 := congrArg Int32.toInt q180
        have r182 : Rg y179 (0) (0) := Rg_both (Rg_any y179) (Rg_eqv q180 (Rg_c (x := 0) (a := (0)) (b := (0)) (by decide))) (by decide)
        refine lv_iconst (v := 0) hx hb dL_law_610 (by decide) ?_
        refine ca_L_57 hx hb hml hown hts hH (c_X10_alias oI oR mx kx (Rg_w (Rg_c (x := 0) (a := (0)) (b := (0)) (by decide)) (by decide))) hl.1 mx kx rfl (by decide) (Nat.le_of_ble_eq_true rfl) ⟨by decide, by decide⟩ dL_law_611 (fun y183 I183 J183 R183 H locs hp hH => ?_)
        obtain ⟨⟨oI, -, sc183⟩, eJ183, eR183, ry183, hf183⟩ := hp
        obtain rfl : J = J183 := eJ183.symm
        obtain rfl : R = R183 := eR183.symm
        have sm : Sm C ms_L_law (I, J, R) (I183, J, R) := sm.tr sc183 rfl
        have xm : XM L C I183 := XM.sm (u := (I, J, R)) (v := (I183, J, R)) xm sc183 rfl rfl
        have xw : XW L C I183 := XW.sm (u := (I, J, R)) (v := (I183, J, R)) xw sc183 rfl rfl
        have ow : Ow L C R := Ow.sm (u := (I, J, R)) (v := (I183, J, R)) ow sc183 rfl
        have oI1 := oI
        have oR1 := oR
        refine lv_pop hx hb dL_law_614 rfl ?_
        refine lv_aload_n hx hb dL_law_615 rfl (lv_at hl 2 rfl) ?_
        refine lv_aload_n hx hb dL_law_616 rfl (lv_at hl 0 rfl) ?_
        refine lv_iload_n hx hb dL_law_617 rfl (lv_at hl 3 rfl) ?_
        refine lv_iconst (v := 1) hx hb dL_law_618 (by decide) ?_
        refine lv_iadd hx hb dL_law_619 ?_
        refine lv_topi (fun y184 ey184 => ?_)
        obtain rfl : y174 = y184 := ey174.trans ey184.symm
        refine va_sld hx hb hX hbl hbA hH.2.2.2.1 (sc_in ty174 hi h6 (by decide)) dL_law_620 ?_
        refine lv_topi (fun y185 ey185 => ?_)
        obtain rfl : y175 = y185 := ey175.trans ey185.symm
        refine lv_aload_n hx hb dL_law_621 rfl (lv_at hl 0 rfl) ?_
        refine lv_iload_n hx hb dL_law_622 rfl (lv_at hl 3 rfl) ?_
        refine lv_iconst (v := 2) hx hb dL_law_623 (by decide) ?_
        refine lv_iadd hx hb dL_law_624 ?_
        refine lv_topi (fun y186 ey186 => ?_)
        obtain rfl : y176 = y186 := ey176.trans ey186.symm
        refine va_sld hx hb hX hbl hbA hH.2.2.2.1 (sc_in ty176 hi h6 (by decide)) dL_law_625 ?_
        refine lv_topi (fun y187 ey187 => ?_)
        obtain rfl : y177 = y187 := ey177.trans ey187.symm
        refine lv_aload_n hx hb dL_law_626 rfl (lv_at hl 0 rfl) ?_
        refine lv_iload_n hx hb dL_law_627 rfl (lv_at hl 3 rfl) ?_
        refine lv_iconst (v := 3) hx hb dL_law_628 (by decide) ?_
        refine lv_iadd hx hb dL_law_629 ?_
        refine lv_topi (fun y188 ey188 => ?_)
        obtain rfl : y178 = y188 := ey178.trans ey188.symm
        refine va_sld hx hb hX hbl hbA hH.2.2.2.1 (sc_in ty178 hi h6 (by decide)) dL_law_630 ?_
        refine lv_topi (fun y189 ey189 => ?_)
        obtain rfl : y179 = y189 := ey179.trans ey189.symm
        refine lv_if_eq (tgt := 638) hx hb dL_law_631 (by decide) (fun q190 => ?_) (fun q190 => ?_)
        rotate_left
        · exact Rg_no (Rg_nehi r182 (Rg_ne q190) (Rg_c (x := 0) (a := (0)) (b := (0)) (by decide)) (b' := (-1)) (by decide)) (by decide)
        have l191 := congrArg Int32.toInt q190
        refine lv_iconst (v := 0) hx hb dL_law_638 (by decide) ?_
        refine ca_L_61 hx hb hml hown hts hH (c_X11_alias oI oR mm km (Rg_w (Rg_c (x := 0) (a := (0)) (b := (0)) (by decide)) (by decide))) hl.1 mm km rfl (by decide) (Nat.le_of_ble_eq_true rfl) ⟨by decide, by decide⟩ dL_law_639 (fun y192 I192 J192 R192 H locs hp hH => ?_)
        obtain ⟨⟨oI, -, sc192⟩, eJ192, eR192, ry192, hf192⟩ := hp
        obtain rfl : J = J192 := eJ192.symm
        obtain rfl : R = R192 := eR192.symm
        have sm : Sm C ms_L_law (I, J, R) (I192, J, R) := sm.tr sc192 rfl
        have xm : XM L C I192 := XM.sm (u := (I183, J, R)) (v := (I192, J, R)) xm sc192 rfl rfl
        have xw : XW L C I192 := XW.sm (u := (I183, J, R)) (v := (I192, J, R)) xw sc192 rfl rfl
        have ow : Ow L C R := Ow.sm (u := (I183, J, R)) (v := (I192, J, R)) ow sc192 rfl
        have rr192 := st_alias uq mx kx mm km (by decide) oI0 oR0 ow0 rel0 hf183 sc183 oI1 oR1 hf192 sc192 oI oR
        have rel : RXC L C x mo (I192, J, R) := rr192.1
        refine lv_pop hx hb dL_law_642 rfl ?_
        refine lv_goto (tgt := 1244) hx hb dL_law_643 (by decide) ?_
        exact L_1244 h6 I192 J R _ _ _ hH oI oR xm xw ow rel (lv_sub hl [0, 1, 2, 3] rfl)
      have l194 := Rg_ne q180
      refine lv_iconst (v := 1) hx hb dL_law_606 (by decide) ?_
      refine lv_goto (tgt := 611) hx hb dL_law_607 (by decide) ?_
      refine ca_L_57 hx hb hml hown hts hH (c_X10_alias oI oR mx kx (Rg_w (Rg_c (x := 1) (a := (1)) (b := (1)) (by decide)) (by decide))) hl.1 mx kx rfl (by decide) (Nat.le_of_ble_eq_true rfl) ⟨by decide, by decide⟩ dL_law_611 (fun y195 I195 J195 R195 H locs hp hH => ?_)
      obtain ⟨⟨oI, -, sc195⟩, eJ195, eR195, ry195, hf195⟩ := hp
      obtain rfl : J = J195 := eJ195.symm
      obtain rfl : R = R195 := eR195.symm
      have sm : Sm C ms_L_law (I, J, R) (I195, J, R) := sm.tr sc195 rfl
      have xm : XM L C I195 := XM.sm (u := (I, J, R)) (v := (I195, J, R)) xm sc195 rfl rfl
      have xw : XW L C I195 := XW.sm (u := (I, J, R)) (v := (I195, J, R)) xw sc195 rfl rfl
      have ow : Ow L C R := Ow.sm (u := (I, J, R)) (v := (I195, J, R)) ow sc195 rfl
      have oI1 := oI
      have oR1 := oR
      refine lv_pop hx hb dL_law_614 rfl ?_
      refine lv_aload_n hx hb dL_law_615 rfl (lv_at hl 2 rfl) ?_
      refine lv_aload_n hx hb dL_law_616 rfl (lv_at hl 0 rfl) ?_
      refine lv_iload_n hx hb dL_law_617 rfl (lv_at hl 3 rfl) ?_
      refine lv_iconst (v := 1) hx hb dL_law_618 (by decide) ?_
      refine lv_iadd hx hb dL_law_619 ?_
      refine lv_topi (fun y196 ey196 => ?_)
      obtain rfl : y174 = y196 := ey174.trans ey196.symm
      refine va_sld hx hb hX hbl hbA hH.2.2.2.1 (sc_in ty174 hi h6 (by decide)) dL_law_620 ?_
      refine lv_topi (fun y197 ey197 => ?_)
      obtain rfl : y175 = y197 := ey175.trans ey197.symm
      refine lv_aload_n hx hb dL_law_621 rfl (lv_at hl 0 rfl) ?_
      refine lv_iload_n hx hb dL_law_622 rfl (lv_at hl 3 rfl) ?_
      refine lv_iconst (v := 2) hx hb dL_law_623 (by decide) ?_
      refine lv_iadd hx hb dL_law_624 ?_
      refine lv_topi (fun y198 ey198 => ?_)
      obtain rfl : y176 = y198 := ey176.trans ey198.symm
      refine va_sld hx hb hX hbl hbA hH.2.2.2.1 (sc_in ty176 hi h6 (by decide)) dL_law_625 ?_
      refine lv_topi (fun y199 ey199 => ?_)
      obtain rfl : y177 = y199 := ey177.trans ey199.symm
      refine lv_aload_n hx hb dL_law_626 rfl (lv_at hl 0 rfl) ?_
      refine lv_iload_n hx hb dL_law_627 rfl (lv_at hl 3 rfl) ?_
      refine lv_iconst (v := 3) hx hb dL_law_628 (by decide) ?_
      refine lv_iadd hx hb dL_law_629 ?_
      refine lv_topi (fun y200 ey200 => ?_)
      obtain rfl : y178 = y200 := ey178.trans ey200.symm
      refine va_sld hx hb hX hbl hbA hH.2.2.2.1 (sc_in ty178 hi h6 (by decide)) dL_law_630 ?_
      refine lv_topi (fun y201 ey201 => ?_)
      obtain rfl : y179 = y201 := ey179.trans ey201.symm
      refine lv_if_eq (tgt := 638) hx hb dL_law_631 (by decide) (fun q202 => ?_) (fun q202 => ?_)
      · exact absurd q202 q180
      have l204 := Rg_ne q202
      refine lv_iconst (v := 1) hx hb dL_law_634 (by decide) ?_
      refine lv_goto (tgt := 639) hx hb dL_law_635 (by decide) ?_
      refine ca_L_61 hx hb hml hown hts hH (c_X11_alias oI oR mm km (Rg_w (Rg_c (x := 1) (a := (1)) (b := (1)) (by decide)) (by decide))) hl.1 mm km rfl (by decide) (Nat.le_of_ble_eq_true rfl) ⟨by decide, by decide⟩ dL_law_639 (fun y205 I205 J205 R205 H locs hp hH => ?_)
      obtain ⟨⟨oI, -, sc205⟩, eJ205, eR205, ry205, hf205⟩ := hp
      obtain rfl : J = J205 := eJ205.symm
      obtain rfl : R = R205 := eR205.symm
      have sm : Sm C ms_L_law (I, J, R) (I205, J, R) := sm.tr sc205 rfl
      have xm : XM L C I205 := XM.sm (u := (I195, J, R)) (v := (I205, J, R)) xm sc205 rfl rfl
      have xw : XW L C I205 := XW.sm (u := (I195, J, R)) (v := (I205, J, R)) xw sc205 rfl rfl
      have ow : Ow L C R := Ow.sm (u := (I195, J, R)) (v := (I205, J, R)) ow sc205 rfl
      have rr205 := st_alias uq mx kx mm km (by decide) oI0 oR0 ow0 rel0 hf195 sc195 oI1 oR1 hf205 sc205 oI oR
      have rel : RXC L C x mo (I205, J, R) := rr205.1
      refine lv_pop hx hb dL_law_642 rfl ?_
      refine lv_goto (tgt := 1244) hx hb dL_law_643 (by decide) ?_
      exact L_1244 h6 I205 J R _ _ _ hH oI oR xm xw ow rel (lv_sub hl [0, 1, 2, 3] rfl)
    · have r206 : Rg y4 (10) (10) := ⟨by rw [z5]; decide, by rw [z5]; decide⟩
      refine lv_tableIn (tgt := 646) hx hb dL_law_33 (by rw [z5]; decide) (by rw [z5]; decide) (by rw [z5]; rfl) (by decide) ?_
      refine lv_aload_n hx hb dL_law_646 rfl (lv_at hl 1 rfl) ?_
      refine lv_aload_n hx hb dL_law_647 rfl (lv_at hl 0 rfl) ?_
      refine lv_iload_n hx hb dL_law_648 rfl (lv_at hl 3 rfl) ?_
      refine lv_iconst (v := 1) hx hb dL_law_649 (by decide) ?_
      refine lv_iadd hx hb dL_law_650 ?_
      refine lv_topi (fun y207 ey207 => ?_)
      obtain ⟨ty207, ry207⟩ := Rg_addx (a' := (1)) (b' := (3073)) (rfl : x3.toInt = _) (by decide : Int32.toInt 1 = 1) r3 (Rg_c (x := 1) (a := (1)) (b := (1)) (by decide)) (by decide)
      rw [← ey207] at ty207 ry207
      refine va_sld hx hb hX hbl hbA hH.2.2.2.1 (sc_in ty207 hi h6 (by decide)) dL_law_651 ?_
      refine lv_topi (fun y208 ey208 => ?_)
      refine lv_aload_n hx hb dL_law_652 rfl (lv_at hl 0 rfl) ?_
      refine lv_iload_n hx hb dL_law_653 rfl (lv_at hl 3 rfl) ?_
      refine lv_iconst (v := 2) hx hb dL_law_654 (by decide) ?_
      refine lv_iadd hx hb dL_law_655 ?_
      refine lv_topi (fun y209 ey209 => ?_)
      obtain ⟨ty209, ry209⟩ := Rg_addx (a' := (2)) (b' := (3074)) (rfl : x3.toInt = _) (by decide : Int32.toInt 2 = 2) r3 (Rg_c (x := 2) (a := (2)) (b := (2)) (by decide)) (by decide)
      rw [← ey209] at ty209 ry209
      refine va_sld hx hb hX hbl hbA hH.2.2.2.1 (sc_in ty209 hi h6 (by decide)) dL_law_656 ?_
      refine lv_topi (fun y210 ey210 => ?_)
      refine lv_if_eq (tgt := 664) hx hb dL_law_657 (by decide) (fun q211 => ?_) (fun q211 => ?_)
      · have l212 := congrArg Int32.toInt q211
        have r213 : Rg y210 (0) (0) := Rg_both (Rg_any y210) (Rg_eqv q211 (Rg_c (x := 0) (a := (0)) (b := (0)) (by decide))) (by decide)
        refine lv_iconst (v := 0) hx hb dL_law_664 (by decide) ?_
        refine lv_aload_n hx hb dL_law_665 rfl (lv_at hl 0 rfl) ?_
        refine lv_iload_n hx hb dL_law_666 rfl (lv_at hl 3 rfl) ?_
        refine lv_iconst (v := 3) hx hb dL_law_667 (by decide) ?_
        refine lv_iadd hx hb dL_law_668 ?_
        refine lv_topi (fun y214 ey214 => ?_)
        obtain ⟨ty214, ry214⟩ := Rg_addx (a' := (3)) (b' := (3075)) (rfl : x3.toInt = _) (by decide : Int32.toInt 3 = 3) r3 (Rg_c (x := 3) (a := (3)) (b := (3)) (by decide)) (by decide)
        rw [← ey214] at ty214 ry214
        refine va_sld hx hb hX hbl hbA hH.2.2.2.1 (sc_in ty214 hi h6 (by decide)) dL_law_669 ?_
        refine lv_topi (fun y215 ey215 => ?_)
        refine lv_i2l (v := y215.toInt64) hx hb dL_law_670 rfl ?_
        refine lv_bipush (v := 32) hx hb dL_law_671 (by decide) ?_
        refine lv_lshl hx hb dL_law_673 rfl ?_
        refine lv_topl (fun w216 ew216 => ?_)
        refine lv_aload_n hx hb dL_law_674 rfl (lv_at hl 0 rfl) ?_
        refine lv_iload_n hx hb dL_law_675 rfl (lv_at hl 3 rfl) ?_
        refine lv_iconst (v := 4) hx hb dL_law_676 (by decide) ?_
        refine lv_iadd hx hb dL_law_677 ?_
        refine lv_topi (fun y217 ey217 => ?_)
        obtain ⟨ty217, ry217⟩ := Rg_addx (a' := (4)) (b' := (3076)) (rfl : x3.toInt = _) (by decide : Int32.toInt 4 = 4) r3 (Rg_c (x := 4) (a := (4)) (b := (4)) (by decide)) (by decide)
        rw [← ey217] at ty217 ry217
        refine va_sld hx hb hX hbl hbA hH.2.2.2.1 (sc_in ty217 hi h6 (by decide)) dL_law_678 ?_
        refine lv_topi (fun y218 ey218 => ?_)
        refine lv_i2l (v := y218.toInt64) hx hb dL_law_679 rfl ?_
        refine lv_ldc2 (v := 4294967295) hx hb hown (hts _ kkl_L_28) dL_law_680 ?_
        refine lv_land hx hb dL_law_683 ?_
        refine lv_topl (fun w219 ew219 => ?_)
        refine lv_lor hx hb dL_law_684 ?_
        refine lv_topl (fun w220 ew220 => ?_)
        refine ca_L_62 hx hb hml hown hts hH (c_X10_constant oI oR mx kx (Rg_w (Rg_c (x := 0) (a := (0)) (b := (0)) (by decide)) (by decide)) (by exact uq)) hl.1 mx kx rfl (by decide) (Nat.le_of_ble_eq_true rfl) ⟨by decide, by decide⟩ dL_law_685 (fun y221 I221 J221 R221 H locs hp hH => ?_)
        obtain ⟨⟨oI, -, sc221⟩, eR221, ry221, hp221, hf221⟩ := hp
        obtain rfl : R = R221 := eR221.symm
        have sm : Sm C ms_L_law (I, J, R) (I221, J221, R) := sm.tr sc221 rfl
        have xm : XM L C I221 := XM.sm (u := (I, J, R)) (v := (I221, J221, R)) xm sc221 rfl rfl
        have xw : XW L C I221 := XW.sm (u := (I, J, R)) (v := (I221, J221, R)) xw sc221 rfl rfl
        have ow : Ow L C R := Ow.sm (u := (I, J, R)) (v := (I221, J221, R)) ow sc221 rfl
        have oI1 := oI
        have oR1 := oR
        refine lv_pop hx hb dL_law_688 rfl ?_
        refine lv_aload_n hx hb dL_law_689 rfl (lv_at hl 2 rfl) ?_
        refine lv_aload_n hx hb dL_law_690 rfl (lv_at hl 0 rfl) ?_
        refine lv_iload_n hx hb dL_law_691 rfl (lv_at hl 3 rfl) ?_
        refine lv_iconst (v := 1) hx hb dL_law_692 (by decide) ?_
        refine lv_iadd hx hb dL_law_693 ?_
        refine lv_topi (fun y222 ey222 => ?_)
        obtain rfl : y207 = y222 := ey207.trans ey222.symm
        refine va_sld hx hb hX hbl hbA hH.2.2.2.1 (sc_in ty207 hi h6 (by decide)) dL_law_694 ?_
        refine lv_topi (fun y223 ey223 => ?_)
        obtain rfl : y208 = y223 := ey208.trans ey223.symm
        refine lv_aload_n hx hb dL_law_695 rfl (lv_at hl 0 rfl) ?_
        refine lv_iload_n hx hb dL_law_696 rfl (lv_at hl 3 rfl) ?_
        refine lv_iconst (v := 2) hx hb dL_law_697 (by decide) ?_
        refine lv_iadd hx hb dL_law_698 ?_
        refine lv_topi (fun y224 ey224 => ?_)
        obtain rfl : y209 = y224 := ey209.trans ey224.symm
        refine va_sld hx hb hX hbl hbA hH.2.2.2.1 (sc_in ty209 hi h6 (by decide)) dL_law_699 ?_
        refine lv_topi (fun y225 ey225 => ?_)
        obtain rfl : y210 = y225 := ey210.trans ey225.symm
        refine lv_if_eq (tgt := 707) hx hb dL_law_700 (by decide) (fun q226 => ?_) (fun q226 => ?_)
        rotate_left
        · exact Rg_no (Rg_nehi r213 (Rg_ne q226) (Rg_c (x := 0) (a := (0)) (b := (0)) (by decide)) (b' := (-1)) (by decide)) (by decide)
        have l227 := congrArg Int32.toInt q226
        refine lv_iconst (v := 0) hx hb dL_law_707 (by decide) ?_
        refine lv_aload_n hx hb dL_law_708 rfl (lv_at hl 0 rfl) ?_
        refine lv_iload_n hx hb dL_law_709 rfl (lv_at hl 3 rfl) ?_
        refine lv_iconst (v := 3) hx hb dL_law_710 (by decide) ?_
        refine lv_iadd hx hb dL_law_711 ?_
        refine lv_topi (fun y228 ey228 => ?_)
        obtain rfl : y214 = y228 := ey214.trans ey228.symm
        refine va_sld hx hb hX hbl hbA hH.2.2.2.1 (sc_in ty214 hi h6 (by decide)) dL_law_712 ?_
        refine lv_topi (fun y229 ey229 => ?_)
        obtain rfl : y215 = y229 := ey215.trans ey229.symm
        refine lv_i2l (v := y215.toInt64) hx hb dL_law_713 rfl ?_
        refine lv_bipush (v := 32) hx hb dL_law_714 (by decide) ?_
        refine lv_lshl hx hb dL_law_716 rfl ?_
        refine lv_topl (fun w230 ew230 => ?_)
        obtain rfl : w216 = w230 := ew216.trans ew230.symm
        refine lv_aload_n hx hb dL_law_717 rfl (lv_at hl 0 rfl) ?_
        refine lv_iload_n hx hb dL_law_718 rfl (lv_at hl 3 rfl) ?_
        refine lv_iconst (v := 4) hx hb dL_law_719 (by decide) ?_
        refine lv_iadd hx hb dL_law_720 ?_
        refine lv_topi (fun y231 ey231 => ?_)
        obtain rfl : y217 = y231 := ey217.trans ey231.symm
        refine va_sld hx hb hX hbl hbA hH.2.2.2.1 (sc_in ty217 hi h6 (by decide)) dL_law_721 ?_
        refine lv_topi (fun y232 ey232 => ?_)
        obtain rfl : y218 = y232 := ey218.trans ey232.symm
        refine lv_i2l (v := y218.toInt64) hx hb dL_law_722 rfl ?_
        refine lv_ldc2 (v := 4294967295) hx hb hown (hts _ kkl_L_28) dL_law_723 ?_
        refine lv_land hx hb dL_law_726 ?_
        refine lv_topl (fun w233 ew233 => ?_)
        obtain rfl : w219 = w233 := ew219.trans ew233.symm
        refine lv_lor hx hb dL_law_727 ?_
        refine lv_topl (fun w234 ew234 => ?_)
        obtain rfl : w220 = w234 := ew220.trans ew234.symm
        refine ca_L_66 hx hb hml hown hts hH (c_X11_constant oI oR mm km (Rg_w (Rg_c (x := 0) (a := (0)) (b := (0)) (by decide)) (by decide)) (by exact uq)) hl.1 mm km rfl (by decide) (Nat.le_of_ble_eq_true rfl) ⟨by decide, by decide⟩ dL_law_728 (fun y235 I235 J235 R235 H locs hp hH => ?_)
        obtain ⟨⟨oI, -, sc235⟩, eR235, ry235, hp235, hf235⟩ := hp
        obtain rfl : R = R235 := eR235.symm
        have sm : Sm C ms_L_law (I, J, R) (I235, J235, R) := sm.tr sc235 rfl
        have xm : XM L C I235 := XM.sm (u := (I221, J221, R)) (v := (I235, J235, R)) xm sc235 rfl rfl
        have xw : XW L C I235 := XW.sm (u := (I221, J221, R)) (v := (I235, J235, R)) xw sc235 rfl rfl
        have ow : Ow L C R := Ow.sm (u := (I221, J221, R)) (v := (I235, J235, R)) ow sc235 rfl
        have rr235 := st_constant uq mx kx mm km oI0 oR0 ow0 rel0 hf221 sc221 oI1 oR1 hf235 sc235 oI oR
        have rel : RXC L C x mo (I235, J235, R) := rr235.1
        refine lv_pop hx hb dL_law_731 rfl ?_
        refine lv_goto (tgt := 1244) hx hb dL_law_732 (by decide) ?_
        exact L_1244 h6 I235 J235 R _ _ _ hH oI oR xm xw ow rel (lv_sub hl [0, 1, 2, 3] rfl)
      have l237 := Rg_ne q211
      refine lv_iconst (v := 1) hx hb dL_law_660 (by decide) ?_
      refine lv_goto (tgt := 665) hx hb dL_law_661 (by decide) ?_
      refine lv_aload_n hx hb dL_law_665 rfl (lv_at hl 0 rfl) ?_
      refine lv_iload_n hx hb dL_law_666 rfl (lv_at hl 3 rfl) ?_
      refine lv_iconst (v := 3) hx hb dL_law_667 (by decide) ?_
      refine lv_iadd hx hb dL_law_668 ?_
      refine lv_topi (fun y238 ey238 => ?_)
      obtain ⟨ty238, ry238⟩ := Rg_addx (a' := (3)) (b' := (3075)) (rfl : x3.toInt = _) (by decide : Int32.toInt 3 = 3) r3 (Rg_c (x := 3) (a := (3)) (b := (3)) (by decide)) (by decide)
      rw [← ey238] at ty238 ry238
      refine va_sld hx hb hX hbl hbA hH.2.2.2.1 (sc_in ty238 hi h6 (by decide)) dL_law_669 ?_
      refine lv_topi (fun y239 ey239 => ?_)
      refine lv_i2l (v := y239.toInt64) hx hb dL_law_670 rfl ?_
      refine lv_bipush (v := 32) hx hb dL_law_671 (by decide) ?_
      refine lv_lshl hx hb dL_law_673 rfl ?_
      refine lv_topl (fun w240 ew240 => ?_)
      refine lv_aload_n hx hb dL_law_674 rfl (lv_at hl 0 rfl) ?_
      refine lv_iload_n hx hb dL_law_675 rfl (lv_at hl 3 rfl) ?_
      refine lv_iconst (v := 4) hx hb dL_law_676 (by decide) ?_
      refine lv_iadd hx hb dL_law_677 ?_
      refine lv_topi (fun y241 ey241 => ?_)
      obtain ⟨ty241, ry241⟩ := Rg_addx (a' := (4)) (b' := (3076)) (rfl : x3.toInt = _) (by decide : Int32.toInt 4 = 4) r3 (Rg_c (x := 4) (a := (4)) (b := (4)) (by decide)) (by decide)
      rw [← ey241] at ty241 ry241
      refine va_sld hx hb hX hbl hbA hH.2.2.2.1 (sc_in ty241 hi h6 (by decide)) dL_law_678 ?_
      refine lv_topi (fun y242 ey242 => ?_)
      refine lv_i2l (v := y242.toInt64) hx hb dL_law_679 rfl ?_
      refine lv_ldc2 (v := 4294967295) hx hb hown (hts _ kkl_L_28) dL_law_680 ?_
      refine lv_land hx hb dL_law_683 ?_
      refine lv_topl (fun w243 ew243 => ?_)
      refine lv_lor hx hb dL_law_684 ?_
      refine lv_topl (fun w244 ew244 => ?_)
      refine ca_L_62 hx hb hml hown hts hH (c_X10_constant oI oR mx kx (Rg_w (Rg_c (x := 1) (a := (1)) (b := (1)) (by decide)) (by decide)) (by exact uq)) hl.1 mx kx rfl (by decide) (Nat.le_of_ble_eq_true rfl) ⟨by decide, by decide⟩ dL_law_685 (fun y245 I245 J245 R245 H locs hp hH => ?_)
      obtain ⟨⟨oI, -, sc245⟩, eR245, ry245, hp245, hf245⟩ := hp
      obtain rfl : R = R245 := eR245.symm
      have sm : Sm C ms_L_law (I, J, R) (I245, J245, R) := sm.tr sc245 rfl
      have xm : XM L C I245 := XM.sm (u := (I, J, R)) (v := (I245, J245, R)) xm sc245 rfl rfl
      have xw : XW L C I245 := XW.sm (u := (I, J, R)) (v := (I245, J245, R)) xw sc245 rfl rfl
      have ow : Ow L C R := Ow.sm (u := (I, J, R)) (v := (I245, J245, R)) ow sc245 rfl
      have oI1 := oI
      have oR1 := oR
      refine lv_pop hx hb dL_law_688 rfl ?_
      refine lv_aload_n hx hb dL_law_689 rfl (lv_at hl 2 rfl) ?_
      refine lv_aload_n hx hb dL_law_690 rfl (lv_at hl 0 rfl) ?_
      refine lv_iload_n hx hb dL_law_691 rfl (lv_at hl 3 rfl) ?_
      refine lv_iconst (v := 1) hx hb dL_law_692 (by decide) ?_
      refine lv_iadd hx hb dL_law_693 ?_
      refine lv_topi (fun y246 ey246 => ?_)
      obtain rfl : y207 = y246 := ey207.trans ey246.symm
      refine va_sld hx hb hX hbl hbA hH.2.2.2.1 (sc_in ty207 hi h6 (by decide)) dL_law_694 ?_
      refine lv_topi (fun y247 ey247 => ?_)
      obtain rfl : y208 = y247 := ey208.trans ey247.symm
      refine lv_aload_n hx hb dL_law_695 rfl (lv_at hl 0 rfl) ?_
      refine lv_iload_n hx hb dL_law_696 rfl (lv_at hl 3 rfl) ?_
      refine lv_iconst (v := 2) hx hb dL_law_697 (by decide) ?_
      refine lv_iadd hx hb dL_law_698 ?_
      refine lv_topi (fun y248 ey248 => ?_)
      obtain rfl : y209 = y248 := ey209.trans ey248.symm
      refine va_sld hx hb hX hbl hbA hH.2.2.2.1 (sc_in ty209 hi h6 (by decide)) dL_law_699 ?_
      refine lv_topi (fun y249 ey249 => ?_)
      obtain rfl : y210 = y249 := ey210.trans ey249.symm
      refine lv_if_eq (tgt := 707) hx hb dL_law_700 (by decide) (fun q250 => ?_) (fun q250 => ?_)
      · exact absurd q250 q211
      have l252 := Rg_ne q250
      refine lv_iconst (v := 1) hx hb dL_law_703 (by decide) ?_
      refine lv_goto (tgt := 708) hx hb dL_law_704 (by decide) ?_
      refine lv_aload_n hx hb dL_law_708 rfl (lv_at hl 0 rfl) ?_
      refine lv_iload_n hx hb dL_law_709 rfl (lv_at hl 3 rfl) ?_
      refine lv_iconst (v := 3) hx hb dL_law_710 (by decide) ?_
      refine lv_iadd hx hb dL_law_711 ?_
      refine lv_topi (fun y253 ey253 => ?_)
      obtain rfl : y238 = y253 := ey238.trans ey253.symm
      refine va_sld hx hb hX hbl hbA hH.2.2.2.1 (sc_in ty238 hi h6 (by decide)) dL_law_712 ?_
      refine lv_topi (fun y254 ey254 => ?_)
      obtain rfl : y239 = y254 := ey239.trans ey254.symm
      refine lv_i2l (v := y239.toInt64) hx hb dL_law_713 rfl ?_
      refine lv_bipush (v := 32) hx hb dL_law_714 (by decide) ?_
      refine lv_lshl hx hb dL_law_716 rfl ?_
      refine lv_topl (fun w255 ew255 => ?_)
      obtain rfl : w240 = w255 := ew240.trans ew255.symm
      refine lv_aload_n hx hb dL_law_717 rfl (lv_at hl 0 rfl) ?_
      refine lv_iload_n hx hb dL_law_718 rfl (lv_at hl 3 rfl) ?_
      refine lv_iconst (v := 4) hx hb dL_law_719 (by decide) ?_
      refine lv_iadd hx hb dL_law_720 ?_
      refine lv_topi (fun y256 ey256 => ?_)
      obtain rfl : y241 = y256 := ey241.trans ey256.symm
      refine va_sld hx hb hX hbl hbA hH.2.2.2.1 (sc_in ty241 hi h6 (by decide)) dL_law_721 ?_
      refine lv_topi (fun y257 ey257 => ?_)
      obtain rfl : y242 = y257 := ey242.trans ey257.symm
      refine lv_i2l (v := y242.toInt64) hx hb dL_law_722 rfl ?_
      refine lv_ldc2 (v := 4294967295) hx hb hown (hts _ kkl_L_28) dL_law_723 ?_
      refine lv_land hx hb dL_law_726 ?_
      refine lv_topl (fun w258 ew258 => ?_)
      obtain rfl : w243 = w258 := ew243.trans ew258.symm
      refine lv_lor hx hb dL_law_727 ?_
      refine lv_topl (fun w259 ew259 => ?_)
      obtain rfl : w244 = w259 := ew244.trans ew259.symm
      refine ca_L_66 hx hb hml hown hts hH (c_X11_constant oI oR mm km (Rg_w (Rg_c (x := 1) (a := (1)) (b := (1)) (by decide)) (by decide)) (by exact uq)) hl.1 mm km rfl (by decide) (Nat.le_of_ble_eq_true rfl) ⟨by decide, by decide⟩ dL_law_728 (fun y260 I260 J260 R260 H locs hp hH => ?_)
      obtain ⟨⟨oI, -, sc260⟩, eR260, ry260, hp260, hf260⟩ := hp
      obtain rfl : R = R260 := eR260.symm
      have sm : Sm C ms_L_law (I, J, R) (I260, J260, R) := sm.tr sc260 rfl
      have xm : XM L C I260 := XM.sm (u := (I245, J245, R)) (v := (I260, J260, R)) xm sc260 rfl rfl
      have xw : XW L C I260 := XW.sm (u := (I245, J245, R)) (v := (I260, J260, R)) xw sc260 rfl rfl
      have ow : Ow L C R := Ow.sm (u := (I245, J245, R)) (v := (I260, J260, R)) ow sc260 rfl
      have rr260 := st_constant uq mx kx mm km oI0 oR0 ow0 rel0 hf245 sc245 oI1 oR1 hf260 sc260 oI oR
      have rel : RXC L C x mo (I260, J260, R) := rr260.1
      refine lv_pop hx hb dL_law_731 rfl ?_
      refine lv_goto (tgt := 1244) hx hb dL_law_732 (by decide) ?_
      exact L_1244 h6 I260 J260 R _ _ _ hH oI oR xm xw ow rel (lv_sub hl [0, 1, 2, 3] rfl)
    · have r261 : Rg y4 (11) (11) := ⟨by rw [z5]; decide, by rw [z5]; decide⟩
      refine lv_tableIn (tgt := 735) hx hb dL_law_33 (by rw [z5]; decide) (by rw [z5]; decide) (by rw [z5]; rfl) (by decide) ?_
      refine lv_aload_n hx hb dL_law_735 rfl (lv_at hl 1 rfl) ?_
      refine lv_aload_n hx hb dL_law_736 rfl (lv_at hl 0 rfl) ?_
      refine lv_iload_n hx hb dL_law_737 rfl (lv_at hl 3 rfl) ?_
      refine lv_iconst (v := 1) hx hb dL_law_738 (by decide) ?_
      refine lv_iadd hx hb dL_law_739 ?_
      refine lv_topi (fun y262 ey262 => ?_)
      obtain ⟨ty262, ry262⟩ := Rg_addx (a' := (1)) (b' := (3073)) (rfl : x3.toInt = _) (by decide : Int32.toInt 1 = 1) r3 (Rg_c (x := 1) (a := (1)) (b := (1)) (by decide)) (by decide)
      rw [← ey262] at ty262 ry262
      refine va_sld hx hb hX hbl hbA hH.2.2.2.1 (sc_in ty262 hi h6 (by decide)) dL_law_740 ?_
      refine lv_topi (fun y263 ey263 => ?_)
      refine lv_aload_n hx hb dL_law_741 rfl (lv_at hl 0 rfl) ?_
      refine lv_iload_n hx hb dL_law_742 rfl (lv_at hl 3 rfl) ?_
      refine lv_iconst (v := 2) hx hb dL_law_743 (by decide) ?_
      refine lv_iadd hx hb dL_law_744 ?_
      refine lv_topi (fun y264 ey264 => ?_)
      obtain ⟨ty264, ry264⟩ := Rg_addx (a' := (2)) (b' := (3074)) (rfl : x3.toInt = _) (by decide : Int32.toInt 2 = 2) r3 (Rg_c (x := 2) (a := (2)) (b := (2)) (by decide)) (by decide)
      rw [← ey264] at ty264 ry264
      refine va_sld hx hb hX hbl hbA hH.2.2.2.1 (sc_in ty264 hi h6 (by decide)) dL_law_745 ?_
      refine lv_topi (fun y265 ey265 => ?_)
      refine lv_aload_n hx hb dL_law_746 rfl (lv_at hl 0 rfl) ?_
      refine lv_iload_n hx hb dL_law_747 rfl (lv_at hl 3 rfl) ?_
      refine lv_iconst (v := 3) hx hb dL_law_748 (by decide) ?_
      refine lv_iadd hx hb dL_law_749 ?_
      refine lv_topi (fun y266 ey266 => ?_)
      obtain ⟨ty266, ry266⟩ := Rg_addx (a' := (3)) (b' := (3075)) (rfl : x3.toInt = _) (by decide : Int32.toInt 3 = 3) r3 (Rg_c (x := 3) (a := (3)) (b := (3)) (by decide)) (by decide)
      rw [← ey266] at ty266 ry266
      refine va_sld hx hb hX hbl hbA hH.2.2.2.1 (sc_in ty266 hi h6 (by decide)) dL_law_750 ?_
      refine lv_topi (fun y267 ey267 => ?_)
      refine lv_aload_n hx hb dL_law_751 rfl (lv_at hl 0 rfl) ?_
      refine lv_iload_n hx hb dL_law_752 rfl (lv_at hl 3 rfl) ?_
      refine lv_iconst (v := 4) hx hb dL_law_753 (by decide) ?_
      refine lv_iadd hx hb dL_law_754 ?_
      refine lv_topi (fun y268 ey268 => ?_)
      obtain ⟨ty268, ry268⟩ := Rg_addx (a' := (4)) (b' := (3076)) (rfl : x3.toInt = _) (by decide : Int32.toInt 4 = 4) r3 (Rg_c (x := 4) (a := (4)) (b := (4)) (by decide)) (by decide)
      rw [← ey268] at ty268 ry268
      refine va_sld hx hb hX hbl hbA hH.2.2.2.1 (sc_in ty268 hi h6 (by decide)) dL_law_755 ?_
      refine lv_topi (fun y269 ey269 => ?_)
      refine ca_L_67 hx hb hml hown hts hH (c_X10_fit oI oR mx kx) hl.1 mx kx rfl (by decide) (Nat.le_of_ble_eq_true rfl) ⟨by decide, by decide⟩ dL_law_756 (fun y270 I270 J270 R270 H locs hp hH => ?_)
      obtain ⟨⟨oI, -, sc270⟩, eJ270, eR270⟩ := hp
      obtain rfl : J = J270 := eJ270.symm
      obtain rfl : R = R270 := eR270.symm
      have sm : Sm C ms_L_law (I, J, R) (I270, J, R) := sm.tr sc270 rfl
      have xm : XM L C I270 := XM.sm (u := (I, J, R)) (v := (I270, J, R)) xm sc270 rfl rfl
      have xw : XW L C I270 := XW.sm (u := (I, J, R)) (v := (I270, J, R)) xw sc270 rfl rfl
      have ow : Ow L C R := Ow.sm (u := (I, J, R)) (v := (I270, J, R)) ow sc270 rfl
      have rel : RXC L C x mo (I270, J, R) := RXC.sm (u := (I, J, R)) (v := (I270, J, R)) rel oI oR sc270 rfl
      refine lv_pop hx hb dL_law_759 rfl ?_
      refine lv_aload_n hx hb dL_law_760 rfl (lv_at hl 2 rfl) ?_
      refine lv_aload_n hx hb dL_law_761 rfl (lv_at hl 0 rfl) ?_
      refine lv_iload_n hx hb dL_law_762 rfl (lv_at hl 3 rfl) ?_
      refine lv_iconst (v := 1) hx hb dL_law_763 (by decide) ?_
      refine lv_iadd hx hb dL_law_764 ?_
      refine lv_topi (fun y271 ey271 => ?_)
      obtain rfl : y262 = y271 := ey262.trans ey271.symm
      refine va_sld hx hb hX hbl hbA hH.2.2.2.1 (sc_in ty262 hi h6 (by decide)) dL_law_765 ?_
      refine lv_topi (fun y272 ey272 => ?_)
      obtain rfl : y263 = y272 := ey263.trans ey272.symm
      refine lv_aload_n hx hb dL_law_766 rfl (lv_at hl 0 rfl) ?_
      refine lv_iload_n hx hb dL_law_767 rfl (lv_at hl 3 rfl) ?_
      refine lv_iconst (v := 2) hx hb dL_law_768 (by decide) ?_
      refine lv_iadd hx hb dL_law_769 ?_
      refine lv_topi (fun y273 ey273 => ?_)
      obtain rfl : y264 = y273 := ey264.trans ey273.symm
      refine va_sld hx hb hX hbl hbA hH.2.2.2.1 (sc_in ty264 hi h6 (by decide)) dL_law_770 ?_
      refine lv_topi (fun y274 ey274 => ?_)
      obtain rfl : y265 = y274 := ey265.trans ey274.symm
      refine lv_aload_n hx hb dL_law_771 rfl (lv_at hl 0 rfl) ?_
      refine lv_iload_n hx hb dL_law_772 rfl (lv_at hl 3 rfl) ?_
      refine lv_iconst (v := 3) hx hb dL_law_773 (by decide) ?_
      refine lv_iadd hx hb dL_law_774 ?_
      refine lv_topi (fun y275 ey275 => ?_)
      obtain rfl : y266 = y275 := ey266.trans ey275.symm
      refine va_sld hx hb hX hbl hbA hH.2.2.2.1 (sc_in ty266 hi h6 (by decide)) dL_law_775 ?_
      refine lv_topi (fun y276 ey276 => ?_)
      obtain rfl : y267 = y276 := ey267.trans ey276.symm
      refine lv_aload_n hx hb dL_law_776 rfl (lv_at hl 0 rfl) ?_
      refine lv_iload_n hx hb dL_law_777 rfl (lv_at hl 3 rfl) ?_
      refine lv_iconst (v := 4) hx hb dL_law_778 (by decide) ?_
      refine lv_iadd hx hb dL_law_779 ?_
      refine lv_topi (fun y277 ey277 => ?_)
      obtain rfl : y268 = y277 := ey268.trans ey277.symm
      refine va_sld hx hb hX hbl hbA hH.2.2.2.1 (sc_in ty268 hi h6 (by decide)) dL_law_780 ?_
      refine lv_topi (fun y278 ey278 => ?_)
      obtain rfl : y269 = y278 := ey269.trans ey278.symm
      refine ca_L_70 hx hb hml hown hts hH (c_X11_fit oI oR mm km) hl.1 mm km rfl (by decide) (Nat.le_of_ble_eq_true rfl) ⟨by decide, by decide⟩ dL_law_781 (fun y279 I279 J279 R279 H locs hp hH => ?_)
      obtain ⟨⟨oI, -, sc279⟩, eJ279, eR279⟩ := hp
      obtain rfl : J = J279 := eJ279.symm
      obtain rfl : R = R279 := eR279.symm
      have sm : Sm C ms_L_law (I, J, R) (I279, J, R) := sm.tr sc279 rfl
      have xm : XM L C I279 := XM.sm (u := (I270, J, R)) (v := (I279, J, R)) xm sc279 rfl rfl
      have xw : XW L C I279 := XW.sm (u := (I270, J, R)) (v := (I279, J, R)) xw sc279 rfl rfl
      have ow : Ow L C R := Ow.sm (u := (I270, J, R)) (v := (I279, J, R)) ow sc279 rfl
      have rel : RXC L C x mo (I279, J, R) := RXC.sm (u := (I270, J, R)) (v := (I279, J, R)) rel oI oR sc279 rfl
      refine lv_pop hx hb dL_law_784 rfl ?_
      refine lv_goto (tgt := 1244) hx hb dL_law_785 (by decide) ?_
      exact L_1244 h6 I279 J R _ _ _ hH oI oR xm xw ow rel (lv_sub hl [0, 1, 2, 3] rfl)
    · have r280 : Rg y4 (12) (12) := ⟨by rw [z5]; decide, by rw [z5]; decide⟩
      refine lv_tableIn (tgt := 788) hx hb dL_law_33 (by rw [z5]; decide) (by rw [z5]; decide) (by rw [z5]; rfl) (by decide) ?_
      refine lv_aload_n hx hb dL_law_788 rfl (lv_at hl 1 rfl) ?_
      refine lv_aload_n hx hb dL_law_789 rfl (lv_at hl 0 rfl) ?_
      refine lv_iload_n hx hb dL_law_790 rfl (lv_at hl 3 rfl) ?_
      refine lv_iconst (v := 1) hx hb dL_law_791 (by decide) ?_
      refine lv_iadd hx hb dL_law_792 ?_
      refine lv_topi (fun y281 ey281 => ?_)
      obtain ⟨ty281, ry281⟩ := Rg_addx (a' := (1)) (b' := (3073)) (rfl : x3.toInt = _) (by decide : Int32.toInt 1 = 1) r3 (Rg_c (x := 1) (a := (1)) (b := (1)) (by decide)) (by decide)
      rw [← ey281] at ty281 ry281
      refine va_sld hx hb hX hbl hbA hH.2.2.2.1 (sc_in ty281 hi h6 (by decide)) dL_law_793 ?_
      refine lv_topi (fun y282 ey282 => ?_)
      refine lv_aload_n hx hb dL_law_794 rfl (lv_at hl 0 rfl) ?_
      refine lv_iload_n hx hb dL_law_795 rfl (lv_at hl 3 rfl) ?_
      refine lv_iconst (v := 2) hx hb dL_law_796 (by decide) ?_
      refine lv_iadd hx hb dL_law_797 ?_
      refine lv_topi (fun y283 ey283 => ?_)
      obtain ⟨ty283, ry283⟩ := Rg_addx (a' := (2)) (b' := (3074)) (rfl : x3.toInt = _) (by decide : Int32.toInt 2 = 2) r3 (Rg_c (x := 2) (a := (2)) (b := (2)) (by decide)) (by decide)
      rw [← ey283] at ty283 ry283
      refine va_sld hx hb hX hbl hbA hH.2.2.2.1 (sc_in ty283 hi h6 (by decide)) dL_law_798 ?_
      refine lv_topi (fun y284 ey284 => ?_)
      refine ca_L_71 hx hb hml hown hts hH (c_X10_fits oI oR mx kx) hl.1 mx kx rfl (by decide) (Nat.le_of_ble_eq_true rfl) ⟨by decide, by decide⟩ dL_law_799 (fun y285 I285 J285 R285 H locs hp hH => ?_)
      obtain ⟨⟨oI, -, sc285⟩, eJ285, eR285⟩ := hp
      obtain rfl : J = J285 := eJ285.symm
      obtain rfl : R = R285 := eR285.symm
      have sm : Sm C ms_L_law (I, J, R) (I285, J, R) := sm.tr sc285 rfl
      have xm : XM L C I285 := XM.sm (u := (I, J, R)) (v := (I285, J, R)) xm sc285 rfl rfl
      have xw : XW L C I285 := XW.sm (u := (I, J, R)) (v := (I285, J, R)) xw sc285 rfl rfl
      have ow : Ow L C R := Ow.sm (u := (I, J, R)) (v := (I285, J, R)) ow sc285 rfl
      have rel : RXC L C x mo (I285, J, R) := RXC.sm (u := (I, J, R)) (v := (I285, J, R)) rel oI oR sc285 rfl
      refine lv_pop hx hb dL_law_802 rfl ?_
      refine lv_aload_n hx hb dL_law_803 rfl (lv_at hl 2 rfl) ?_
      refine lv_aload_n hx hb dL_law_804 rfl (lv_at hl 0 rfl) ?_
      refine lv_iload_n hx hb dL_law_805 rfl (lv_at hl 3 rfl) ?_
      refine lv_iconst (v := 1) hx hb dL_law_806 (by decide) ?_
      refine lv_iadd hx hb dL_law_807 ?_
      refine lv_topi (fun y286 ey286 => ?_)
      obtain rfl : y281 = y286 := ey281.trans ey286.symm
      refine va_sld hx hb hX hbl hbA hH.2.2.2.1 (sc_in ty281 hi h6 (by decide)) dL_law_808 ?_
      refine lv_topi (fun y287 ey287 => ?_)
      obtain rfl : y282 = y287 := ey282.trans ey287.symm
      refine lv_aload_n hx hb dL_law_809 rfl (lv_at hl 0 rfl) ?_
      refine lv_iload_n hx hb dL_law_810 rfl (lv_at hl 3 rfl) ?_
      refine lv_iconst (v := 2) hx hb dL_law_811 (by decide) ?_
      refine lv_iadd hx hb dL_law_812 ?_
      refine lv_topi (fun y288 ey288 => ?_)
      obtain rfl : y283 = y288 := ey283.trans ey288.symm
      refine va_sld hx hb hX hbl hbA hH.2.2.2.1 (sc_in ty283 hi h6 (by decide)) dL_law_813 ?_
      refine lv_topi (fun y289 ey289 => ?_)
      obtain rfl : y284 = y289 := ey284.trans ey289.symm
      refine ca_L_75 hx hb hml hown hts hH (c_X11_fits oI oR mm km) hl.1 mm km rfl (by decide) (Nat.le_of_ble_eq_true rfl) ⟨by decide, by decide⟩ dL_law_814 (fun y290 I290 J290 R290 H locs hp hH => ?_)
      obtain ⟨⟨oI, -, sc290⟩, eJ290, eR290, ry290⟩ := hp
      obtain rfl : J = J290 := eJ290.symm
      obtain rfl : R = R290 := eR290.symm
      have sm : Sm C ms_L_law (I, J, R) (I290, J, R) := sm.tr sc290 rfl
      have xm : XM L C I290 := XM.sm (u := (I285, J, R)) (v := (I290, J, R)) xm sc290 rfl rfl
      have xw : XW L C I290 := XW.sm (u := (I285, J, R)) (v := (I290, J, R)) xw sc290 rfl rfl
      have ow : Ow L C R := Ow.sm (u := (I285, J, R)) (v := (I290, J, R)) ow sc290 rfl
      have rel : RXC L C x mo (I290, J, R) := RXC.sm (u := (I285, J, R)) (v := (I290, J, R)) rel oI oR sc290 rfl
      refine lv_pop hx hb dL_law_817 rfl ?_
      refine lv_goto (tgt := 1244) hx hb dL_law_818 (by decide) ?_
      exact L_1244 h6 I290 J R _ _ _ hH oI oR xm xw ow rel (lv_sub hl [0, 1, 2, 3] rfl)
    · have r291 : Rg y4 (13) (13) := ⟨by rw [z5]; decide, by rw [z5]; decide⟩
      refine lv_tableIn (tgt := 821) hx hb dL_law_33 (by rw [z5]; decide) (by rw [z5]; decide) (by rw [z5]; rfl) (by decide) ?_
      refine lv_aload_n hx hb dL_law_821 rfl (lv_at hl 1 rfl) ?_
      refine lv_aload_n hx hb dL_law_822 rfl (lv_at hl 0 rfl) ?_
      refine lv_iload_n hx hb dL_law_823 rfl (lv_at hl 3 rfl) ?_
      refine lv_iconst (v := 1) hx hb dL_law_824 (by decide) ?_
      refine lv_iadd hx hb dL_law_825 ?_
      refine lv_topi (fun y292 ey292 => ?_)
      obtain ⟨ty292, ry292⟩ := Rg_addx (a' := (1)) (b' := (3073)) (rfl : x3.toInt = _) (by decide : Int32.toInt 1 = 1) r3 (Rg_c (x := 1) (a := (1)) (b := (1)) (by decide)) (by decide)
      rw [← ey292] at ty292 ry292
      refine va_sld hx hb hX hbl hbA hH.2.2.2.1 (sc_in ty292 hi h6 (by decide)) dL_law_826 ?_
      refine lv_topi (fun y293 ey293 => ?_)
      refine lv_aload_n hx hb dL_law_827 rfl (lv_at hl 0 rfl) ?_
      refine lv_iload_n hx hb dL_law_828 rfl (lv_at hl 3 rfl) ?_
      refine lv_iconst (v := 2) hx hb dL_law_829 (by decide) ?_
      refine lv_iadd hx hb dL_law_830 ?_
      refine lv_topi (fun y294 ey294 => ?_)
      obtain ⟨ty294, ry294⟩ := Rg_addx (a' := (2)) (b' := (3074)) (rfl : x3.toInt = _) (by decide : Int32.toInt 2 = 2) r3 (Rg_c (x := 2) (a := (2)) (b := (2)) (by decide)) (by decide)
      rw [← ey294] at ty294 ry294
      refine va_sld hx hb hX hbl hbA hH.2.2.2.1 (sc_in ty294 hi h6 (by decide)) dL_law_831 ?_
      refine lv_topi (fun y295 ey295 => ?_)
      refine ca_L_76 hx hb hml hown hts hH (c_X10_gap oI oR mx kx) hl.1 mx kx rfl (by decide) (Nat.le_of_ble_eq_true rfl) ⟨by decide, by decide⟩ dL_law_832 (fun y296 I296 J296 R296 H locs hp hH => ?_)
      obtain ⟨⟨oI, -, sc296⟩, eJ296, eR296, ry296⟩ := hp
      obtain rfl : J = J296 := eJ296.symm
      obtain rfl : R = R296 := eR296.symm
      have sm : Sm C ms_L_law (I, J, R) (I296, J, R) := sm.tr sc296 rfl
      have xm : XM L C I296 := XM.sm (u := (I, J, R)) (v := (I296, J, R)) xm sc296 rfl rfl
      have xw : XW L C I296 := XW.sm (u := (I, J, R)) (v := (I296, J, R)) xw sc296 rfl rfl
      have ow : Ow L C R := Ow.sm (u := (I, J, R)) (v := (I296, J, R)) ow sc296 rfl
      have rel : RXC L C x mo (I296, J, R) := RXC.sm (u := (I, J, R)) (v := (I296, J, R)) rel oI oR sc296 rfl
      refine lv_pop hx hb dL_law_835 rfl ?_
      refine lv_aload_n hx hb dL_law_836 rfl (lv_at hl 2 rfl) ?_
      refine lv_aload_n hx hb dL_law_837 rfl (lv_at hl 0 rfl) ?_
      refine lv_iload_n hx hb dL_law_838 rfl (lv_at hl 3 rfl) ?_
      refine lv_iconst (v := 1) hx hb dL_law_839 (by decide) ?_
      refine lv_iadd hx hb dL_law_840 ?_
      refine lv_topi (fun y297 ey297 => ?_)
      obtain rfl : y292 = y297 := ey292.trans ey297.symm
      refine va_sld hx hb hX hbl hbA hH.2.2.2.1 (sc_in ty292 hi h6 (by decide)) dL_law_841 ?_
      refine lv_topi (fun y298 ey298 => ?_)
      obtain rfl : y293 = y298 := ey293.trans ey298.symm
      refine lv_aload_n hx hb dL_law_842 rfl (lv_at hl 0 rfl) ?_
      refine lv_iload_n hx hb dL_law_843 rfl (lv_at hl 3 rfl) ?_
      refine lv_iconst (v := 2) hx hb dL_law_844 (by decide) ?_
      refine lv_iadd hx hb dL_law_845 ?_
      refine lv_topi (fun y299 ey299 => ?_)
      obtain rfl : y294 = y299 := ey294.trans ey299.symm
      refine va_sld hx hb hX hbl hbA hH.2.2.2.1 (sc_in ty294 hi h6 (by decide)) dL_law_846 ?_
      refine lv_topi (fun y300 ey300 => ?_)
      obtain rfl : y295 = y300 := ey295.trans ey300.symm
      refine ca_L_79 hx hb hml hown hts hH (c_X11_gap oI oR mm km) hl.1 mm km rfl (by decide) (Nat.le_of_ble_eq_true rfl) ⟨by decide, by decide⟩ dL_law_847 (fun y301 I301 J301 R301 H locs hp hH => ?_)
      obtain ⟨⟨oI, -, sc301⟩, eJ301, eR301, ry301⟩ := hp
      obtain rfl : J = J301 := eJ301.symm
      obtain rfl : R = R301 := eR301.symm
      have sm : Sm C ms_L_law (I, J, R) (I301, J, R) := sm.tr sc301 rfl
      have xm : XM L C I301 := XM.sm (u := (I296, J, R)) (v := (I301, J, R)) xm sc301 rfl rfl
      have xw : XW L C I301 := XW.sm (u := (I296, J, R)) (v := (I301, J, R)) xw sc301 rfl rfl
      have ow : Ow L C R := Ow.sm (u := (I296, J, R)) (v := (I301, J, R)) ow sc301 rfl
      have rel : RXC L C x mo (I301, J, R) := RXC.sm (u := (I296, J, R)) (v := (I301, J, R)) rel oI oR sc301 rfl
      refine lv_pop hx hb dL_law_850 rfl ?_
      refine lv_goto (tgt := 1244) hx hb dL_law_851 (by decide) ?_
      exact L_1244 h6 I301 J R _ _ _ hH oI oR xm xw ow rel (lv_sub hl [0, 1, 2, 3] rfl)
    · have r302 : Rg y4 (14) (14) := ⟨by rw [z5]; decide, by rw [z5]; decide⟩
      refine lv_tableIn (tgt := 854) hx hb dL_law_33 (by rw [z5]; decide) (by rw [z5]; decide) (by rw [z5]; rfl) (by decide) ?_
      refine lv_aload_n hx hb dL_law_854 rfl (lv_at hl 1 rfl) ?_
      refine lv_aload_n hx hb dL_law_855 rfl (lv_at hl 0 rfl) ?_
      refine lv_iload_n hx hb dL_law_856 rfl (lv_at hl 3 rfl) ?_
      refine lv_iconst (v := 1) hx hb dL_law_857 (by decide) ?_
      refine lv_iadd hx hb dL_law_858 ?_
      refine lv_topi (fun y303 ey303 => ?_)
      obtain ⟨ty303, ry303⟩ := Rg_addx (a' := (1)) (b' := (3073)) (rfl : x3.toInt = _) (by decide : Int32.toInt 1 = 1) r3 (Rg_c (x := 1) (a := (1)) (b := (1)) (by decide)) (by decide)
      rw [← ey303] at ty303 ry303
      refine va_sld hx hb hX hbl hbA hH.2.2.2.1 (sc_in ty303 hi h6 (by decide)) dL_law_859 ?_
      refine lv_topi (fun y304 ey304 => ?_)
      refine lv_aload_n hx hb dL_law_860 rfl (lv_at hl 0 rfl) ?_
      refine lv_iload_n hx hb dL_law_861 rfl (lv_at hl 3 rfl) ?_
      refine lv_iconst (v := 2) hx hb dL_law_862 (by decide) ?_
      refine lv_iadd hx hb dL_law_863 ?_
      refine lv_topi (fun y305 ey305 => ?_)
      obtain ⟨ty305, ry305⟩ := Rg_addx (a' := (2)) (b' := (3074)) (rfl : x3.toInt = _) (by decide : Int32.toInt 2 = 2) r3 (Rg_c (x := 2) (a := (2)) (b := (2)) (by decide)) (by decide)
      rw [← ey305] at ty305 ry305
      refine va_sld hx hb hX hbl hbA hH.2.2.2.1 (sc_in ty305 hi h6 (by decide)) dL_law_864 ?_
      refine lv_topi (fun y306 ey306 => ?_)
      refine lv_aload_n hx hb dL_law_865 rfl (lv_at hl 0 rfl) ?_
      refine lv_iload_n hx hb dL_law_866 rfl (lv_at hl 3 rfl) ?_
      refine lv_iconst (v := 3) hx hb dL_law_867 (by decide) ?_
      refine lv_iadd hx hb dL_law_868 ?_
      refine lv_topi (fun y307 ey307 => ?_)
      obtain ⟨ty307, ry307⟩ := Rg_addx (a' := (3)) (b' := (3075)) (rfl : x3.toInt = _) (by decide : Int32.toInt 3 = 3) r3 (Rg_c (x := 3) (a := (3)) (b := (3)) (by decide)) (by decide)
      rw [← ey307] at ty307 ry307
      refine va_sld hx hb hX hbl hbA hH.2.2.2.1 (sc_in ty307 hi h6 (by decide)) dL_law_869 ?_
      refine lv_topi (fun y308 ey308 => ?_)
      refine ca_L_80 hx hb hml hown hts hH (c_X10_way oI oR mx kx) hl.1 mx kx rfl (by decide) (Nat.le_of_ble_eq_true rfl) ⟨by decide, by decide⟩ dL_law_870 (fun y309 I309 J309 R309 H locs hp hH => ?_)
      obtain ⟨⟨oI, -, sc309⟩, eJ309, eR309, hf309⟩ := hp
      obtain rfl : J = J309 := eJ309.symm
      obtain rfl : R = R309 := eR309.symm
      have sm : Sm C ms_L_law (I, J, R) (I309, J, R) := sm.tr sc309 rfl
      have xm : XM L C I309 := XM.sm (u := (I, J, R)) (v := (I309, J, R)) xm sc309 rfl rfl
      have xw : XW L C I309 := XW.sm (u := (I, J, R)) (v := (I309, J, R)) xw sc309 rfl rfl
      have ow : Ow L C R := Ow.sm (u := (I, J, R)) (v := (I309, J, R)) ow sc309 rfl
      have oI1 := oI
      have oR1 := oR
      refine lv_pop hx hb dL_law_873 rfl ?_
      refine lv_aload_n hx hb dL_law_874 rfl (lv_at hl 2 rfl) ?_
      refine lv_aload_n hx hb dL_law_875 rfl (lv_at hl 0 rfl) ?_
      refine lv_iload_n hx hb dL_law_876 rfl (lv_at hl 3 rfl) ?_
      refine lv_iconst (v := 1) hx hb dL_law_877 (by decide) ?_
      refine lv_iadd hx hb dL_law_878 ?_
      refine lv_topi (fun y310 ey310 => ?_)
      obtain rfl : y303 = y310 := ey303.trans ey310.symm
      refine va_sld hx hb hX hbl hbA hH.2.2.2.1 (sc_in ty303 hi h6 (by decide)) dL_law_879 ?_
      refine lv_topi (fun y311 ey311 => ?_)
      obtain rfl : y304 = y311 := ey304.trans ey311.symm
      refine lv_aload_n hx hb dL_law_880 rfl (lv_at hl 0 rfl) ?_
      refine lv_iload_n hx hb dL_law_881 rfl (lv_at hl 3 rfl) ?_
      refine lv_iconst (v := 2) hx hb dL_law_882 (by decide) ?_
      refine lv_iadd hx hb dL_law_883 ?_
      refine lv_topi (fun y312 ey312 => ?_)
      obtain rfl : y305 = y312 := ey305.trans ey312.symm
      refine va_sld hx hb hX hbl hbA hH.2.2.2.1 (sc_in ty305 hi h6 (by decide)) dL_law_884 ?_
      refine lv_topi (fun y313 ey313 => ?_)
      obtain rfl : y306 = y313 := ey306.trans ey313.symm
      refine lv_aload_n hx hb dL_law_885 rfl (lv_at hl 0 rfl) ?_
      refine lv_iload_n hx hb dL_law_886 rfl (lv_at hl 3 rfl) ?_
      refine lv_iconst (v := 3) hx hb dL_law_887 (by decide) ?_
      refine lv_iadd hx hb dL_law_888 ?_
      refine lv_topi (fun y314 ey314 => ?_)
      obtain rfl : y307 = y314 := ey307.trans ey314.symm
      refine va_sld hx hb hX hbl hbA hH.2.2.2.1 (sc_in ty307 hi h6 (by decide)) dL_law_889 ?_
      refine lv_topi (fun y315 ey315 => ?_)
      obtain rfl : y308 = y315 := ey308.trans ey315.symm
      refine ca_L_83 hx hb hml hown hts hH (c_X11_way oI oR mm km) hl.1 mm km rfl (by decide) (Nat.le_of_ble_eq_true rfl) ⟨by decide, by decide⟩ dL_law_890 (fun y316 I316 J316 R316 H locs hp hH => ?_)
      obtain ⟨⟨oI, -, sc316⟩, eJ316, eR316, ry316, hf316⟩ := hp
      obtain rfl : J = J316 := eJ316.symm
      obtain rfl : R = R316 := eR316.symm
      have sm : Sm C ms_L_law (I, J, R) (I316, J, R) := sm.tr sc316 rfl
      have xm : XM L C I316 := XM.sm (u := (I309, J, R)) (v := (I316, J, R)) xm sc316 rfl rfl
      have xw : XW L C I316 := XW.sm (u := (I309, J, R)) (v := (I316, J, R)) xw sc316 rfl rfl
      have ow : Ow L C R := Ow.sm (u := (I309, J, R)) (v := (I316, J, R)) ow sc316 rfl
      have rr316 := st_way uq mx kx mm km oI0 oR0 ow0 rel0 hf309 sc309 oI1 oR1 hf316 sc316 oI oR
      have rel : RXC L C x mo (I316, J, R) := rr316.1
      refine lv_pop hx hb dL_law_893 rfl ?_
      refine lv_goto (tgt := 1244) hx hb dL_law_894 (by decide) ?_
      exact L_1244 h6 I316 J R _ _ _ hH oI oR xm xw ow rel (lv_sub hl [0, 1, 2, 3] rfl)
    · have r317 : Rg y4 (15) (15) := ⟨by rw [z5]; decide, by rw [z5]; decide⟩
      refine lv_tableIn (tgt := 897) hx hb dL_law_33 (by rw [z5]; decide) (by rw [z5]; decide) (by rw [z5]; rfl) (by decide) ?_
      refine lv_aload_n hx hb dL_law_897 rfl (lv_at hl 1 rfl) ?_
      refine lv_aload_n hx hb dL_law_898 rfl (lv_at hl 0 rfl) ?_
      refine lv_iload_n hx hb dL_law_899 rfl (lv_at hl 3 rfl) ?_
      refine lv_iconst (v := 1) hx hb dL_law_900 (by decide) ?_
      refine lv_iadd hx hb dL_law_901 ?_
      refine lv_topi (fun y318 ey318 => ?_)
      obtain ⟨ty318, ry318⟩ := Rg_addx (a' := (1)) (b' := (3073)) (rfl : x3.toInt = _) (by decide : Int32.toInt 1 = 1) r3 (Rg_c (x := 1) (a := (1)) (b := (1)) (by decide)) (by decide)
      rw [← ey318] at ty318 ry318
      refine va_sld hx hb hX hbl hbA hH.2.2.2.1 (sc_in ty318 hi h6 (by decide)) dL_law_902 ?_
      refine lv_topi (fun y319 ey319 => ?_)
      refine ca_L_84 hx hb hml hown hts hH (c_X10_object oI oR mx kx (by exact uq)) hl.1 mx kx rfl (by decide) (Nat.le_of_ble_eq_true rfl) ⟨by decide, by decide⟩ dL_law_903 (fun y320 I320 J320 R320 H locs hp hH => ?_)
      obtain ⟨⟨oI, -, sc320⟩, eJ320, eR320, ry320, hp320, hf320⟩ := hp
      obtain rfl : J = J320 := eJ320.symm
      obtain rfl : R = R320 := eR320.symm
      have sm : Sm C ms_L_law (I, J, R) (I320, J, R) := sm.tr sc320 rfl
      have xm : XM L C I320 := XM.sm (u := (I, J, R)) (v := (I320, J, R)) xm sc320 rfl rfl
      have xw : XW L C I320 := XW.sm (u := (I, J, R)) (v := (I320, J, R)) xw sc320 rfl rfl
      have ow : Ow L C R := Ow.sm (u := (I, J, R)) (v := (I320, J, R)) ow sc320 rfl
      have oI1 := oI
      have oR1 := oR
      refine lv_pop hx hb dL_law_906 rfl ?_
      refine lv_aload_n hx hb dL_law_907 rfl (lv_at hl 2 rfl) ?_
      refine lv_aload_n hx hb dL_law_908 rfl (lv_at hl 0 rfl) ?_
      refine lv_iload_n hx hb dL_law_909 rfl (lv_at hl 3 rfl) ?_
      refine lv_iconst (v := 1) hx hb dL_law_910 (by decide) ?_
      refine lv_iadd hx hb dL_law_911 ?_
      refine lv_topi (fun y321 ey321 => ?_)
      obtain rfl : y318 = y321 := ey318.trans ey321.symm
      refine va_sld hx hb hX hbl hbA hH.2.2.2.1 (sc_in ty318 hi h6 (by decide)) dL_law_912 ?_
      refine lv_topi (fun y322 ey322 => ?_)
      obtain rfl : y319 = y322 := ey319.trans ey322.symm
      refine ca_L_87 hx hb hml hown hts hH (c_X11_object oI oR mm km) hl.1 mm km rfl (by decide) (Nat.le_of_ble_eq_true rfl) ⟨by decide, by decide⟩ dL_law_913 (fun y323 I323 J323 R323 H locs hp hH => ?_)
      obtain ⟨⟨oI, -, sc323⟩, eJ323, eR323, ry323, hp323, hf323⟩ := hp
      obtain rfl : J = J323 := eJ323.symm
      obtain rfl : R = R323 := eR323.symm
      have sm : Sm C ms_L_law (I, J, R) (I323, J, R) := sm.tr sc323 rfl
      have xm : XM L C I323 := XM.sm (u := (I320, J, R)) (v := (I323, J, R)) xm sc323 rfl rfl
      have xw : XW L C I323 := XW.sm (u := (I320, J, R)) (v := (I323, J, R)) xw sc323 rfl rfl
      have ow : Ow L C R := Ow.sm (u := (I320, J, R)) (v := (I323, J, R)) ow sc323 rfl
      have rr323 := st_object uq mx kx mm km oI0 oR0 ow0 rel0 hf320 sc320 oI1 oR1 hf323 sc323 oI oR
      have rel : RXC L C x mo (I323, J, R) := rr323.1
      refine lv_pop hx hb dL_law_916 rfl ?_
      refine lv_goto (tgt := 1244) hx hb dL_law_917 (by decide) ?_
      exact L_1244 h6 I323 J R _ _ _ hH oI oR xm xw ow rel (lv_sub hl [0, 1, 2, 3] rfl)
    · have r324 : Rg y4 (16) (16) := ⟨by rw [z5]; decide, by rw [z5]; decide⟩
      refine lv_tableIn (tgt := 920) hx hb dL_law_33 (by rw [z5]; decide) (by rw [z5]; decide) (by rw [z5]; rfl) (by decide) ?_
      refine lv_aload_n hx hb dL_law_920 rfl (lv_at hl 1 rfl) ?_
      refine lv_aload_n hx hb dL_law_921 rfl (lv_at hl 0 rfl) ?_
      refine lv_iload_n hx hb dL_law_922 rfl (lv_at hl 3 rfl) ?_
      refine lv_iconst (v := 1) hx hb dL_law_923 (by decide) ?_
      refine lv_iadd hx hb dL_law_924 ?_
      refine lv_topi (fun y325 ey325 => ?_)
      obtain ⟨ty325, ry325⟩ := Rg_addx (a' := (1)) (b' := (3073)) (rfl : x3.toInt = _) (by decide : Int32.toInt 1 = 1) r3 (Rg_c (x := 1) (a := (1)) (b := (1)) (by decide)) (by decide)
      rw [← ey325] at ty325 ry325
      refine va_sld hx hb hX hbl hbA hH.2.2.2.1 (sc_in ty325 hi h6 (by decide)) dL_law_925 ?_
      refine lv_topi (fun y326 ey326 => ?_)
      refine lv_aload_n hx hb dL_law_926 rfl (lv_at hl 0 rfl) ?_
      refine lv_iload_n hx hb dL_law_927 rfl (lv_at hl 3 rfl) ?_
      refine lv_iconst (v := 2) hx hb dL_law_928 (by decide) ?_
      refine lv_iadd hx hb dL_law_929 ?_
      refine lv_topi (fun y327 ey327 => ?_)
      obtain ⟨ty327, ry327⟩ := Rg_addx (a' := (2)) (b' := (3074)) (rfl : x3.toInt = _) (by decide : Int32.toInt 2 = 2) r3 (Rg_c (x := 2) (a := (2)) (b := (2)) (by decide)) (by decide)
      rw [← ey327] at ty327 ry327
      refine va_sld hx hb hX hbl hbA hH.2.2.2.1 (sc_in ty327 hi h6 (by decide)) dL_law_930 ?_
      refine lv_topi (fun y328 ey328 => ?_)
      refine lv_aload_n hx hb dL_law_931 rfl (lv_at hl 0 rfl) ?_
      refine lv_iload_n hx hb dL_law_932 rfl (lv_at hl 3 rfl) ?_
      refine lv_iconst (v := 3) hx hb dL_law_933 (by decide) ?_
      refine lv_iadd hx hb dL_law_934 ?_
      refine lv_topi (fun y329 ey329 => ?_)
      obtain ⟨ty329, ry329⟩ := Rg_addx (a' := (3)) (b' := (3075)) (rfl : x3.toInt = _) (by decide : Int32.toInt 3 = 3) r3 (Rg_c (x := 3) (a := (3)) (b := (3)) (by decide)) (by decide)
      rw [← ey329] at ty329 ry329
      refine va_sld hx hb hX hbl hbA hH.2.2.2.1 (sc_in ty329 hi h6 (by decide)) dL_law_935 ?_
      refine lv_topi (fun y330 ey330 => ?_)
      refine lv_i2l (v := y330.toInt64) hx hb dL_law_936 rfl ?_
      refine lv_bipush (v := 32) hx hb dL_law_937 (by decide) ?_
      refine lv_lshl hx hb dL_law_939 rfl ?_
      refine lv_topl (fun w331 ew331 => ?_)
      refine lv_aload_n hx hb dL_law_940 rfl (lv_at hl 0 rfl) ?_
      refine lv_iload_n hx hb dL_law_941 rfl (lv_at hl 3 rfl) ?_
      refine lv_iconst (v := 4) hx hb dL_law_942 (by decide) ?_
      refine lv_iadd hx hb dL_law_943 ?_
      refine lv_topi (fun y332 ey332 => ?_)
      obtain ⟨ty332, ry332⟩ := Rg_addx (a' := (4)) (b' := (3076)) (rfl : x3.toInt = _) (by decide : Int32.toInt 4 = 4) r3 (Rg_c (x := 4) (a := (4)) (b := (4)) (by decide)) (by decide)
      rw [← ey332] at ty332 ry332
      refine va_sld hx hb hX hbl hbA hH.2.2.2.1 (sc_in ty332 hi h6 (by decide)) dL_law_944 ?_
      refine lv_topi (fun y333 ey333 => ?_)
      refine lv_i2l (v := y333.toInt64) hx hb dL_law_945 rfl ?_
      refine lv_ldc2 (v := 4294967295) hx hb hown (hts _ kkl_L_28) dL_law_946 ?_
      refine lv_land hx hb dL_law_949 ?_
      refine lv_topl (fun w334 ew334 => ?_)
      refine lv_lor hx hb dL_law_950 ?_
      refine lv_topl (fun w335 ew335 => ?_)
      refine ca_L_88 hx hb hml hown hts hH (c_X10_put oI oR mx kx (by exact uq)) hl.1 mx kx rfl (by decide) (Nat.le_of_ble_eq_true rfl) ⟨by decide, by decide⟩ dL_law_951 (fun y336 I336 J336 R336 H locs hp hH => ?_)
      obtain ⟨⟨-, -, sc336⟩, eI336, eR336, ry336, hp336, hf336⟩ := hp
      obtain rfl : I = I336 := eI336.symm
      obtain rfl : R = R336 := eR336.symm
      have sm : Sm C ms_L_law (I, J, R) (I, J336, R) := sm.tr sc336 rfl
      have xm : XM L C I := XM.sm (u := (I, J, R)) (v := (I, J336, R)) xm sc336 rfl rfl
      have xw : XW L C I := XW.sm (u := (I, J, R)) (v := (I, J336, R)) xw sc336 rfl rfl
      have ow : Ow L C R := Ow.sm (u := (I, J, R)) (v := (I, J336, R)) ow sc336 rfl
      have oI1 := oI
      have oR1 := oR
      refine lv_pop hx hb dL_law_954 rfl ?_
      refine lv_aload_n hx hb dL_law_955 rfl (lv_at hl 2 rfl) ?_
      refine lv_aload_n hx hb dL_law_956 rfl (lv_at hl 0 rfl) ?_
      refine lv_iload_n hx hb dL_law_957 rfl (lv_at hl 3 rfl) ?_
      refine lv_iconst (v := 1) hx hb dL_law_958 (by decide) ?_
      refine lv_iadd hx hb dL_law_959 ?_
      refine lv_topi (fun y337 ey337 => ?_)
      obtain rfl : y325 = y337 := ey325.trans ey337.symm
      refine va_sld hx hb hX hbl hbA hH.2.2.2.1 (sc_in ty325 hi h6 (by decide)) dL_law_960 ?_
      refine lv_topi (fun y338 ey338 => ?_)
      obtain rfl : y326 = y338 := ey326.trans ey338.symm
      refine lv_aload_n hx hb dL_law_961 rfl (lv_at hl 0 rfl) ?_
      refine lv_iload_n hx hb dL_law_962 rfl (lv_at hl 3 rfl) ?_
      refine lv_iconst (v := 2) hx hb dL_law_963 (by decide) ?_
      refine lv_iadd hx hb dL_law_964 ?_
      refine lv_topi (fun y339 ey339 => ?_)
      obtain rfl : y327 = y339 := ey327.trans ey339.symm
      refine va_sld hx hb hX hbl hbA hH.2.2.2.1 (sc_in ty327 hi h6 (by decide)) dL_law_965 ?_
      refine lv_topi (fun y340 ey340 => ?_)
      obtain rfl : y328 = y340 := ey328.trans ey340.symm
      refine lv_aload_n hx hb dL_law_966 rfl (lv_at hl 0 rfl) ?_
      refine lv_iload_n hx hb dL_law_967 rfl (lv_at hl 3 rfl) ?_
      refine lv_iconst (v := 3) hx hb dL_law_968 (by decide) ?_
      refine lv_iadd hx hb dL_law_969 ?_
      refine lv_topi (fun y341 ey341 => ?_)
      obtain rfl : y329 = y341 := ey329.trans ey341.symm
      refine va_sld hx hb hX hbl hbA hH.2.2.2.1 (sc_in ty329 hi h6 (by decide)) dL_law_970 ?_
      refine lv_topi (fun y342 ey342 => ?_)
      obtain rfl : y330 = y342 := ey330.trans ey342.symm
      refine lv_i2l (v := y330.toInt64) hx hb dL_law_971 rfl ?_
      refine lv_bipush (v := 32) hx hb dL_law_972 (by decide) ?_
      refine lv_lshl hx hb dL_law_974 rfl ?_
      refine lv_topl (fun w343 ew343 => ?_)
      obtain rfl : w331 = w343 := ew331.trans ew343.symm
      refine lv_aload_n hx hb dL_law_975 rfl (lv_at hl 0 rfl) ?_
      refine lv_iload_n hx hb dL_law_976 rfl (lv_at hl 3 rfl) ?_
      refine lv_iconst (v := 4) hx hb dL_law_977 (by decide) ?_
      refine lv_iadd hx hb dL_law_978 ?_
      refine lv_topi (fun y344 ey344 => ?_)
      obtain rfl : y332 = y344 := ey332.trans ey344.symm
      refine va_sld hx hb hX hbl hbA hH.2.2.2.1 (sc_in ty332 hi h6 (by decide)) dL_law_979 ?_
      refine lv_topi (fun y345 ey345 => ?_)
      obtain rfl : y333 = y345 := ey333.trans ey345.symm
      refine lv_i2l (v := y333.toInt64) hx hb dL_law_980 rfl ?_
      refine lv_ldc2 (v := 4294967295) hx hb hown (hts _ kkl_L_28) dL_law_981 ?_
      refine lv_land hx hb dL_law_984 ?_
      refine lv_topl (fun w346 ew346 => ?_)
      obtain rfl : w334 = w346 := ew334.trans ew346.symm
      refine lv_lor hx hb dL_law_985 ?_
      refine lv_topl (fun w347 ew347 => ?_)
      obtain rfl : w335 = w347 := ew335.trans ew347.symm
      refine ca_L_91 hx hb hml hown hts hH (c_X11_put oI oR mm km) hl.1 mm km rfl (by decide) (Nat.le_of_ble_eq_true rfl) ⟨by decide, by decide⟩ dL_law_986 (fun y348 I348 J348 R348 H locs hp hH => ?_)
      obtain ⟨⟨oI, -, sc348⟩, eR348, ry348, hp348, hf348⟩ := hp
      obtain rfl : R = R348 := eR348.symm
      have sm : Sm C ms_L_law (I, J, R) (I348, J348, R) := sm.tr sc348 rfl
      have xm : XM L C I348 := XM.sm (u := (I, J336, R)) (v := (I348, J348, R)) xm sc348 rfl rfl
      have xw : XW L C I348 := XW.sm (u := (I, J336, R)) (v := (I348, J348, R)) xw sc348 rfl rfl
      have ow : Ow L C R := Ow.sm (u := (I, J336, R)) (v := (I348, J348, R)) ow sc348 rfl
      have rr348 := st_put uq mx kx mm km oI0 oR0 ow0 rel0 hf336 sc336 oI1 oR1 hf348 sc348 oI oR
      have rel : RXC L C x mo (I348, J348, R) := rr348.1
      refine lv_pop hx hb dL_law_989 rfl ?_
      refine lv_goto (tgt := 1244) hx hb dL_law_990 (by decide) ?_
      exact L_1244 h6 I348 J348 R _ _ _ hH oI oR xm xw ow rel (lv_sub hl [0, 1, 2, 3] rfl)
    · have r349 : Rg y4 (17) (17) := ⟨by rw [z5]; decide, by rw [z5]; decide⟩
      refine lv_tableIn (tgt := 993) hx hb dL_law_33 (by rw [z5]; decide) (by rw [z5]; decide) (by rw [z5]; rfl) (by decide) ?_
      refine lv_aload_n hx hb dL_law_993 rfl (lv_at hl 1 rfl) ?_
      refine lv_aload_n hx hb dL_law_994 rfl (lv_at hl 0 rfl) ?_
      refine lv_iload_n hx hb dL_law_995 rfl (lv_at hl 3 rfl) ?_
      refine lv_iconst (v := 1) hx hb dL_law_996 (by decide) ?_
      refine lv_iadd hx hb dL_law_997 ?_
      refine lv_topi (fun y350 ey350 => ?_)
      obtain ⟨ty350, ry350⟩ := Rg_addx (a' := (1)) (b' := (3073)) (rfl : x3.toInt = _) (by decide : Int32.toInt 1 = 1) r3 (Rg_c (x := 1) (a := (1)) (b := (1)) (by decide)) (by decide)
      rw [← ey350] at ty350 ry350
      refine va_sld hx hb hX hbl hbA hH.2.2.2.1 (sc_in ty350 hi h6 (by decide)) dL_law_998 ?_
      refine lv_topi (fun y351 ey351 => ?_)
      refine lv_aload_n hx hb dL_law_999 rfl (lv_at hl 0 rfl) ?_
      refine lv_iload_n hx hb dL_law_1000 rfl (lv_at hl 3 rfl) ?_
      refine lv_iconst (v := 2) hx hb dL_law_1001 (by decide) ?_
      refine lv_iadd hx hb dL_law_1002 ?_
      refine lv_topi (fun y352 ey352 => ?_)
      obtain ⟨ty352, ry352⟩ := Rg_addx (a' := (2)) (b' := (3074)) (rfl : x3.toInt = _) (by decide : Int32.toInt 2 = 2) r3 (Rg_c (x := 2) (a := (2)) (b := (2)) (by decide)) (by decide)
      rw [← ey352] at ty352 ry352
      refine va_sld hx hb hX hbl hbA hH.2.2.2.1 (sc_in ty352 hi h6 (by decide)) dL_law_1003 ?_
      refine lv_topi (fun y353 ey353 => ?_)
      refine ca_L_92 hx hb hml hown hts hH (c_X10_field oI oR mx kx) hl.1 mx kx rfl (by decide) (Nat.le_of_ble_eq_true rfl) ⟨by decide, by decide⟩ dL_law_1004 (fun w354 I354 J354 R354 H locs hp hH => ?_)
      obtain ⟨eI354, eJ354, eR354, hf354⟩ := hp
      obtain rfl : I = I354 := eI354.symm
      obtain rfl : J = J354 := eJ354.symm
      obtain rfl : R = R354 := eR354.symm
      refine lv_pop2_2 hx hb dL_law_1007 rfl ?_
      refine lv_aload_n hx hb dL_law_1008 rfl (lv_at hl 2 rfl) ?_
      refine lv_aload_n hx hb dL_law_1009 rfl (lv_at hl 0 rfl) ?_
      refine lv_iload_n hx hb dL_law_1010 rfl (lv_at hl 3 rfl) ?_
      refine lv_iconst (v := 1) hx hb dL_law_1011 (by decide) ?_
      refine lv_iadd hx hb dL_law_1012 ?_
      refine lv_topi (fun y355 ey355 => ?_)
      obtain rfl : y350 = y355 := ey350.trans ey355.symm
      refine va_sld hx hb hX hbl hbA hH.2.2.2.1 (sc_in ty350 hi h6 (by decide)) dL_law_1013 ?_
      refine lv_topi (fun y356 ey356 => ?_)
      obtain rfl : y351 = y356 := ey351.trans ey356.symm
      refine lv_aload_n hx hb dL_law_1014 rfl (lv_at hl 0 rfl) ?_
      refine lv_iload_n hx hb dL_law_1015 rfl (lv_at hl 3 rfl) ?_
      refine lv_iconst (v := 2) hx hb dL_law_1016 (by decide) ?_
      refine lv_iadd hx hb dL_law_1017 ?_
      refine lv_topi (fun y357 ey357 => ?_)
      obtain rfl : y352 = y357 := ey352.trans ey357.symm
      refine va_sld hx hb hX hbl hbA hH.2.2.2.1 (sc_in ty352 hi h6 (by decide)) dL_law_1018 ?_
      refine lv_topi (fun y358 ey358 => ?_)
      obtain rfl : y353 = y358 := ey353.trans ey358.symm
      refine ca_L_96 hx hb hml hown hts hH (c_X11_field oI oR mm km) hl.1 mm km rfl (by decide) (Nat.le_of_ble_eq_true rfl) ⟨by decide, by decide⟩ dL_law_1019 (fun w359 I359 J359 R359 H locs hp hH => ?_)
      obtain ⟨⟨oI, -, sc359⟩, eJ359, eR359, hf359⟩ := hp
      obtain rfl : J = J359 := eJ359.symm
      obtain rfl : R = R359 := eR359.symm
      have sm : Sm C ms_L_law (I, J, R) (I359, J, R) := sm.tr sc359 rfl
      have xm : XM L C I359 := XM.sm (u := (I, J, R)) (v := (I359, J, R)) xm sc359 rfl rfl
      have xw : XW L C I359 := XW.sm (u := (I, J, R)) (v := (I359, J, R)) xw sc359 rfl rfl
      have ow : Ow L C R := Ow.sm (u := (I, J, R)) (v := (I359, J, R)) ow sc359 rfl
      have rel : RXC L C x mo (I359, J, R) := RXC.sm (u := (I, J, R)) (v := (I359, J, R)) rel oI oR sc359 rfl
      refine lv_pop2_2 hx hb dL_law_1022 rfl ?_
      refine lv_goto (tgt := 1244) hx hb dL_law_1023 (by decide) ?_
      exact L_1244 h6 I359 J R _ _ _ hH oI oR xm xw ow rel (lv_sub hl [0, 1, 2, 3] rfl)
    · have r360 : Rg y4 (18) (18) := ⟨by rw [z5]; decide, by rw [z5]; decide⟩
      refine lv_tableIn (tgt := 1026) hx hb dL_law_33 (by rw [z5]; decide) (by rw [z5]; decide) (by rw [z5]; rfl) (by decide) ?_
      refine lv_aload_n hx hb dL_law_1026 rfl (lv_at hl 1 rfl) ?_
      refine lv_aload_n hx hb dL_law_1027 rfl (lv_at hl 0 rfl) ?_
      refine lv_iload_n hx hb dL_law_1028 rfl (lv_at hl 3 rfl) ?_
      refine lv_iconst (v := 1) hx hb dL_law_1029 (by decide) ?_
      refine lv_iadd hx hb dL_law_1030 ?_
      refine lv_topi (fun y361 ey361 => ?_)
      obtain ⟨ty361, ry361⟩ := Rg_addx (a' := (1)) (b' := (3073)) (rfl : x3.toInt = _) (by decide : Int32.toInt 1 = 1) r3 (Rg_c (x := 1) (a := (1)) (b := (1)) (by decide)) (by decide)
      rw [← ey361] at ty361 ry361
      refine va_sld hx hb hX hbl hbA hH.2.2.2.1 (sc_in ty361 hi h6 (by decide)) dL_law_1031 ?_
      refine lv_topi (fun y362 ey362 => ?_)
      refine lv_aload_n hx hb dL_law_1032 rfl (lv_at hl 0 rfl) ?_
      refine lv_iload_n hx hb dL_law_1033 rfl (lv_at hl 3 rfl) ?_
      refine lv_iconst (v := 2) hx hb dL_law_1034 (by decide) ?_
      refine lv_iadd hx hb dL_law_1035 ?_
      refine lv_topi (fun y363 ey363 => ?_)
      obtain ⟨ty363, ry363⟩ := Rg_addx (a' := (2)) (b' := (3074)) (rfl : x3.toInt = _) (by decide : Int32.toInt 2 = 2) r3 (Rg_c (x := 2) (a := (2)) (b := (2)) (by decide)) (by decide)
      rw [← ey363] at ty363 ry363
      refine va_sld hx hb hX hbl hbA hH.2.2.2.1 (sc_in ty363 hi h6 (by decide)) dL_law_1036 ?_
      refine lv_topi (fun y364 ey364 => ?_)
      refine lv_i2l (v := y364.toInt64) hx hb dL_law_1037 rfl ?_
      refine lv_bipush (v := 32) hx hb dL_law_1038 (by decide) ?_
      refine lv_lshl hx hb dL_law_1040 rfl ?_
      refine lv_topl (fun w365 ew365 => ?_)
      refine lv_aload_n hx hb dL_law_1041 rfl (lv_at hl 0 rfl) ?_
      refine lv_iload_n hx hb dL_law_1042 rfl (lv_at hl 3 rfl) ?_
      refine lv_iconst (v := 3) hx hb dL_law_1043 (by decide) ?_
      refine lv_iadd hx hb dL_law_1044 ?_
      refine lv_topi (fun y366 ey366 => ?_)
      obtain ⟨ty366, ry366⟩ := Rg_addx (a' := (3)) (b' := (3075)) (rfl : x3.toInt = _) (by decide : Int32.toInt 3 = 3) r3 (Rg_c (x := 3) (a := (3)) (b := (3)) (by decide)) (by decide)
      rw [← ey366] at ty366 ry366
      refine va_sld hx hb hX hbl hbA hH.2.2.2.1 (sc_in ty366 hi h6 (by decide)) dL_law_1045 ?_
      refine lv_topi (fun y367 ey367 => ?_)
      refine lv_i2l (v := y367.toInt64) hx hb dL_law_1046 rfl ?_
      refine lv_ldc2 (v := 4294967295) hx hb hown (hts _ kkl_L_28) dL_law_1047 ?_
      refine lv_land hx hb dL_law_1050 ?_
      refine lv_topl (fun w368 ew368 => ?_)
      refine lv_lor hx hb dL_law_1051 ?_
      refine lv_topl (fun w369 ew369 => ?_)
      refine ca_L_97 hx hb hml hown hts hH (c_X10_hand oI oR mx kx) hl.1 mx kx rfl (by decide) (Nat.le_of_ble_eq_true rfl) ⟨by decide, by decide⟩ dL_law_1052 (fun y370 I370 J370 R370 H locs hp hH => ?_)
      obtain ⟨⟨-, -, sc370⟩, eI370, eR370, ry370, hp370, hf370⟩ := hp
      obtain rfl : I = I370 := eI370.symm
      obtain rfl : R = R370 := eR370.symm
      have sm : Sm C ms_L_law (I, J, R) (I, J370, R) := sm.tr sc370 rfl
      have xm : XM L C I := XM.sm (u := (I, J, R)) (v := (I, J370, R)) xm sc370 rfl rfl
      have xw : XW L C I := XW.sm (u := (I, J, R)) (v := (I, J370, R)) xw sc370 rfl rfl
      have ow : Ow L C R := Ow.sm (u := (I, J, R)) (v := (I, J370, R)) ow sc370 rfl
      have oI1 := oI
      have oR1 := oR
      refine lv_pop hx hb dL_law_1055 rfl ?_
      refine lv_aload_n hx hb dL_law_1056 rfl (lv_at hl 2 rfl) ?_
      refine lv_aload_n hx hb dL_law_1057 rfl (lv_at hl 0 rfl) ?_
      refine lv_iload_n hx hb dL_law_1058 rfl (lv_at hl 3 rfl) ?_
      refine lv_iconst (v := 1) hx hb dL_law_1059 (by decide) ?_
      refine lv_iadd hx hb dL_law_1060 ?_
      refine lv_topi (fun y371 ey371 => ?_)
      obtain rfl : y361 = y371 := ey361.trans ey371.symm
      refine va_sld hx hb hX hbl hbA hH.2.2.2.1 (sc_in ty361 hi h6 (by decide)) dL_law_1061 ?_
      refine lv_topi (fun y372 ey372 => ?_)
      obtain rfl : y362 = y372 := ey362.trans ey372.symm
      refine lv_aload_n hx hb dL_law_1062 rfl (lv_at hl 0 rfl) ?_
      refine lv_iload_n hx hb dL_law_1063 rfl (lv_at hl 3 rfl) ?_
      refine lv_iconst (v := 2) hx hb dL_law_1064 (by decide) ?_
      refine lv_iadd hx hb dL_law_1065 ?_
      refine lv_topi (fun y373 ey373 => ?_)
      obtain rfl : y363 = y373 := ey363.trans ey373.symm
      refine va_sld hx hb hX hbl hbA hH.2.2.2.1 (sc_in ty363 hi h6 (by decide)) dL_law_1066 ?_
      refine lv_topi (fun y374 ey374 => ?_)
      obtain rfl : y364 = y374 := ey364.trans ey374.symm
      refine lv_i2l (v := y364.toInt64) hx hb dL_law_1067 rfl ?_
      refine lv_bipush (v := 32) hx hb dL_law_1068 (by decide) ?_
      refine lv_lshl hx hb dL_law_1070 rfl ?_
      refine lv_topl (fun w375 ew375 => ?_)
      obtain rfl : w365 = w375 := ew365.trans ew375.symm
      refine lv_aload_n hx hb dL_law_1071 rfl (lv_at hl 0 rfl) ?_
      refine lv_iload_n hx hb dL_law_1072 rfl (lv_at hl 3 rfl) ?_
      refine lv_iconst (v := 3) hx hb dL_law_1073 (by decide) ?_
      refine lv_iadd hx hb dL_law_1074 ?_
      refine lv_topi (fun y376 ey376 => ?_)
      obtain rfl : y366 = y376 := ey366.trans ey376.symm
      refine va_sld hx hb hX hbl hbA hH.2.2.2.1 (sc_in ty366 hi h6 (by decide)) dL_law_1075 ?_
      refine lv_topi (fun y377 ey377 => ?_)
      obtain rfl : y367 = y377 := ey367.trans ey377.symm
      refine lv_i2l (v := y367.toInt64) hx hb dL_law_1076 rfl ?_
      refine lv_ldc2 (v := 4294967295) hx hb hown (hts _ kkl_L_28) dL_law_1077 ?_
      refine lv_land hx hb dL_law_1080 ?_
      refine lv_topl (fun w378 ew378 => ?_)
      obtain rfl : w368 = w378 := ew368.trans ew378.symm
      refine lv_lor hx hb dL_law_1081 ?_
      refine lv_topl (fun w379 ew379 => ?_)
      obtain rfl : w369 = w379 := ew369.trans ew379.symm
      refine ca_L_101 hx hb hml hown hts hH (c_X11_hand oI oR mm km) hl.1 mm km rfl (by decide) (Nat.le_of_ble_eq_true rfl) ⟨by decide, by decide⟩ dL_law_1082 (fun y380 I380 J380 R380 H locs hp hH => ?_)
      obtain ⟨⟨oI, -, sc380⟩, eR380, ry380, hp380, hf380⟩ := hp
      obtain rfl : R = R380 := eR380.symm
      have sm : Sm C ms_L_law (I, J, R) (I380, J380, R) := sm.tr sc380 rfl
      have xm : XM L C I380 := XM.sm (u := (I, J370, R)) (v := (I380, J380, R)) xm sc380 rfl rfl
      have xw : XW L C I380 := XW.sm (u := (I, J370, R)) (v := (I380, J380, R)) xw sc380 rfl rfl
      have ow : Ow L C R := Ow.sm (u := (I, J370, R)) (v := (I380, J380, R)) ow sc380 rfl
      have rr380 := st_hand uq mx kx mm km oI0 oR0 ow0 rel0 hf370 sc370 oI1 oR1 hf380 sc380 oI oR
      have rel : RXC L C x mo (I380, J380, R) := rr380.1
      refine lv_pop hx hb dL_law_1085 rfl ?_
      refine lv_goto (tgt := 1244) hx hb dL_law_1086 (by decide) ?_
      exact L_1244 h6 I380 J380 R _ _ _ hH oI oR xm xw ow rel (lv_sub hl [0, 1, 2, 3] rfl)
    · have r381 : Rg y4 (19) (19) := ⟨by rw [z5]; decide, by rw [z5]; decide⟩
      refine lv_tableIn (tgt := 1089) hx hb dL_law_33 (by rw [z5]; decide) (by rw [z5]; decide) (by rw [z5]; rfl) (by decide) ?_
      refine lv_aload_n hx hb dL_law_1089 rfl (lv_at hl 1 rfl) ?_
      refine lv_aload_n hx hb dL_law_1090 rfl (lv_at hl 0 rfl) ?_
      refine lv_iload_n hx hb dL_law_1091 rfl (lv_at hl 3 rfl) ?_
      refine lv_iconst (v := 1) hx hb dL_law_1092 (by decide) ?_
      refine lv_iadd hx hb dL_law_1093 ?_
      refine lv_topi (fun y382 ey382 => ?_)
      obtain ⟨ty382, ry382⟩ := Rg_addx (a' := (1)) (b' := (3073)) (rfl : x3.toInt = _) (by decide : Int32.toInt 1 = 1) r3 (Rg_c (x := 1) (a := (1)) (b := (1)) (by decide)) (by decide)
      rw [← ey382] at ty382 ry382
      refine va_sld hx hb hX hbl hbA hH.2.2.2.1 (sc_in ty382 hi h6 (by decide)) dL_law_1094 ?_
      refine lv_topi (fun y383 ey383 => ?_)
      refine lv_aload_n hx hb dL_law_1095 rfl (lv_at hl 0 rfl) ?_
      refine lv_iload_n hx hb dL_law_1096 rfl (lv_at hl 3 rfl) ?_
      refine lv_iconst (v := 2) hx hb dL_law_1097 (by decide) ?_
      refine lv_iadd hx hb dL_law_1098 ?_
      refine lv_topi (fun y384 ey384 => ?_)
      obtain ⟨ty384, ry384⟩ := Rg_addx (a' := (2)) (b' := (3074)) (rfl : x3.toInt = _) (by decide : Int32.toInt 2 = 2) r3 (Rg_c (x := 2) (a := (2)) (b := (2)) (by decide)) (by decide)
      rw [← ey384] at ty384 ry384
      refine va_sld hx hb hX hbl hbA hH.2.2.2.1 (sc_in ty384 hi h6 (by decide)) dL_law_1099 ?_
      refine lv_topi (fun y385 ey385 => ?_)
      refine lv_aload_n hx hb dL_law_1100 rfl (lv_at hl 0 rfl) ?_
      refine lv_iload_n hx hb dL_law_1101 rfl (lv_at hl 3 rfl) ?_
      refine lv_iconst (v := 3) hx hb dL_law_1102 (by decide) ?_
      refine lv_iadd hx hb dL_law_1103 ?_
      refine lv_topi (fun y386 ey386 => ?_)
      obtain ⟨ty386, ry386⟩ := Rg_addx (a' := (3)) (b' := (3075)) (rfl : x3.toInt = _) (by decide : Int32.toInt 3 = 3) r3 (Rg_c (x := 3) (a := (3)) (b := (3)) (by decide)) (by decide)
      rw [← ey386] at ty386 ry386
      refine va_sld hx hb hX hbl hbA hH.2.2.2.1 (sc_in ty386 hi h6 (by decide)) dL_law_1104 ?_
      refine lv_topi (fun y387 ey387 => ?_)
      refine ca_L_102 hx hb hml hown hts hH (c_X10_call oI oR mx kx (by exact xm)) hl.1 mx kx rfl (by decide) (Nat.le_of_ble_eq_true rfl) ⟨by decide, by decide⟩ dL_law_1105 (fun y388 I388 J388 R388 H locs hp hH => ?_)
      obtain ⟨⟨oI, oR, sc388⟩, ry388, hf388⟩ := hp
      have sm : Sm C ms_L_law (I, J, R) (I388, J388, R388) := sm.tr sc388 rfl
      have xm : XM L C I388 := XM.sm (u := (I, J, R)) (v := (I388, J388, R388)) xm sc388 rfl rfl
      have xw : XW L C I388 := XW.sm (u := (I, J, R)) (v := (I388, J388, R388)) xw sc388 rfl rfl
      have ow : Ow L C R388 := Ow.sm (u := (I, J, R)) (v := (I388, J388, R388)) ow sc388 rfl
      have oI1 := oI
      have oR1 := oR
      refine lv_pop hx hb dL_law_1108 rfl ?_
      refine lv_aload_n hx hb dL_law_1109 rfl (lv_at hl 2 rfl) ?_
      refine lv_aload_n hx hb dL_law_1110 rfl (lv_at hl 0 rfl) ?_
      refine lv_iload_n hx hb dL_law_1111 rfl (lv_at hl 3 rfl) ?_
      refine lv_iconst (v := 1) hx hb dL_law_1112 (by decide) ?_
      refine lv_iadd hx hb dL_law_1113 ?_
      refine lv_topi (fun y389 ey389 => ?_)
      obtain rfl : y382 = y389 := ey382.trans ey389.symm
      refine va_sld hx hb hX hbl hbA hH.2.2.2.1 (sc_in ty382 hi h6 (by decide)) dL_law_1114 ?_
      refine lv_topi (fun y390 ey390 => ?_)
      obtain rfl : y383 = y390 := ey383.trans ey390.symm
      refine lv_aload_n hx hb dL_law_1115 rfl (lv_at hl 0 rfl) ?_
      refine lv_iload_n hx hb dL_law_1116 rfl (lv_at hl 3 rfl) ?_
      refine lv_iconst (v := 2) hx hb dL_law_1117 (by decide) ?_
      refine lv_iadd hx hb dL_law_1118 ?_
      refine lv_topi (fun y391 ey391 => ?_)
      obtain rfl : y384 = y391 := ey384.trans ey391.symm
      refine va_sld hx hb hX hbl hbA hH.2.2.2.1 (sc_in ty384 hi h6 (by decide)) dL_law_1119 ?_
      refine lv_topi (fun y392 ey392 => ?_)
      obtain rfl : y385 = y392 := ey385.trans ey392.symm
      refine lv_aload_n hx hb dL_law_1120 rfl (lv_at hl 0 rfl) ?_
      refine lv_iload_n hx hb dL_law_1121 rfl (lv_at hl 3 rfl) ?_
      refine lv_iconst (v := 3) hx hb dL_law_1122 (by decide) ?_
      refine lv_iadd hx hb dL_law_1123 ?_
      refine lv_topi (fun y393 ey393 => ?_)
      obtain rfl : y386 = y393 := ey386.trans ey393.symm
      refine va_sld hx hb hX hbl hbA hH.2.2.2.1 (sc_in ty386 hi h6 (by decide)) dL_law_1124 ?_
      refine lv_topi (fun y394 ey394 => ?_)
      obtain rfl : y387 = y394 := ey387.trans ey394.symm
      refine ca_L_105 hx hb hml hown hts hH (c_X11_call oI oR mm km (by exact xw)) hl.1 mm km rfl (by decide) (Nat.le_of_ble_eq_true rfl) ⟨by decide, by decide⟩ dL_law_1125 (fun y395 I395 J395 R395 H locs hp hH => ?_)
      obtain ⟨⟨oI, -, sc395⟩, eR395, hf395⟩ := hp
      obtain rfl : R388 = R395 := eR395.symm
      have sm : Sm C ms_L_law (I, J, R) (I395, J395, R388) := sm.tr sc395 rfl
      have xm : XM L C I395 := XM.sm (u := (I388, J388, R388)) (v := (I395, J395, R388)) xm sc395 rfl rfl
      have xw : XW L C I395 := XW.sm (u := (I388, J388, R388)) (v := (I395, J395, R388)) xw sc395 rfl rfl
      have ow : Ow L C R388 := Ow.sm (u := (I388, J388, R388)) (v := (I395, J395, R388)) ow sc395 rfl
      have rr395 := st_call uq mx kx mm km oI0 oR0 ow0 rel0 hf388 sc388 oI1 oR1 hf395 sc395 oI oR
      have rel : RXC L C x mo (I395, J395, R388) := rr395.1
      refine lv_pop hx hb dL_law_1128 rfl ?_
      refine lv_goto (tgt := 1244) hx hb dL_law_1129 (by decide) ?_
      exact L_1244 h6 I395 J395 R388 _ _ _ hH oI oR xm xw ow rel (lv_sub hl [0, 1, 2, 3] rfl)
    · have r396 : Rg y4 (20) (20) := ⟨by rw [z5]; decide, by rw [z5]; decide⟩
      refine lv_tableIn (tgt := 1132) hx hb dL_law_33 (by rw [z5]; decide) (by rw [z5]; decide) (by rw [z5]; rfl) (by decide) ?_
      refine lv_aload_n hx hb dL_law_1132 rfl (lv_at hl 1 rfl) ?_
      refine lv_aload_n hx hb dL_law_1133 rfl (lv_at hl 0 rfl) ?_
      refine lv_iload_n hx hb dL_law_1134 rfl (lv_at hl 3 rfl) ?_
      refine lv_iconst (v := 1) hx hb dL_law_1135 (by decide) ?_
      refine lv_iadd hx hb dL_law_1136 ?_
      refine lv_topi (fun y397 ey397 => ?_)
      obtain ⟨ty397, ry397⟩ := Rg_addx (a' := (1)) (b' := (3073)) (rfl : x3.toInt = _) (by decide : Int32.toInt 1 = 1) r3 (Rg_c (x := 1) (a := (1)) (b := (1)) (by decide)) (by decide)
      rw [← ey397] at ty397 ry397
      refine va_sld hx hb hX hbl hbA hH.2.2.2.1 (sc_in ty397 hi h6 (by decide)) dL_law_1137 ?_
      refine lv_topi (fun y398 ey398 => ?_)
      refine lv_aload_n hx hb dL_law_1138 rfl (lv_at hl 0 rfl) ?_
      refine lv_iload_n hx hb dL_law_1139 rfl (lv_at hl 3 rfl) ?_
      refine lv_iconst (v := 2) hx hb dL_law_1140 (by decide) ?_
      refine lv_iadd hx hb dL_law_1141 ?_
      refine lv_topi (fun y399 ey399 => ?_)
      obtain ⟨ty399, ry399⟩ := Rg_addx (a' := (2)) (b' := (3074)) (rfl : x3.toInt = _) (by decide : Int32.toInt 2 = 2) r3 (Rg_c (x := 2) (a := (2)) (b := (2)) (by decide)) (by decide)
      rw [← ey399] at ty399 ry399
      refine va_sld hx hb hX hbl hbA hH.2.2.2.1 (sc_in ty399 hi h6 (by decide)) dL_law_1142 ?_
      refine lv_topi (fun y400 ey400 => ?_)
      refine lv_aload_n hx hb dL_law_1143 rfl (lv_at hl 0 rfl) ?_
      refine lv_iload_n hx hb dL_law_1144 rfl (lv_at hl 3 rfl) ?_
      refine lv_iconst (v := 3) hx hb dL_law_1145 (by decide) ?_
      refine lv_iadd hx hb dL_law_1146 ?_
      refine lv_topi (fun y401 ey401 => ?_)
      obtain ⟨ty401, ry401⟩ := Rg_addx (a' := (3)) (b' := (3075)) (rfl : x3.toInt = _) (by decide : Int32.toInt 3 = 3) r3 (Rg_c (x := 3) (a := (3)) (b := (3)) (by decide)) (by decide)
      rw [← ey401] at ty401 ry401
      refine va_sld hx hb hX hbl hbA hH.2.2.2.1 (sc_in ty401 hi h6 (by decide)) dL_law_1147 ?_
      refine lv_topi (fun y402 ey402 => ?_)
      refine lv_aload_n hx hb dL_law_1148 rfl (lv_at hl 0 rfl) ?_
      refine lv_iload_n hx hb dL_law_1149 rfl (lv_at hl 3 rfl) ?_
      refine lv_iconst (v := 4) hx hb dL_law_1150 (by decide) ?_
      refine lv_iadd hx hb dL_law_1151 ?_
      refine lv_topi (fun y403 ey403 => ?_)
      obtain ⟨ty403, ry403⟩ := Rg_addx (a' := (4)) (b' := (3076)) (rfl : x3.toInt = _) (by decide : Int32.toInt 4 = 4) r3 (Rg_c (x := 4) (a := (4)) (b := (4)) (by decide)) (by decide)
      rw [← ey403] at ty403 ry403
      refine va_sld hx hb hX hbl hbA hH.2.2.2.1 (sc_in ty403 hi h6 (by decide)) dL_law_1152 ?_
      refine lv_topi (fun y404 ey404 => ?_)
      refine ca_L_106 hx hb hml hown hts hH (c_X10_through oI oR mx kx (by exact xm)) hl.1 mx kx rfl (by decide) (Nat.le_of_ble_eq_true rfl) ⟨by decide, by decide⟩ dL_law_1153 (fun y405 I405 J405 R405 H locs hp hH => ?_)
      obtain ⟨⟨oI, oR, sc405⟩, ry405, hf405⟩ := hp
      have sm : Sm C ms_L_law (I, J, R) (I405, J405, R405) := sm.tr sc405 rfl
      have xm : XM L C I405 := XM.sm (u := (I, J, R)) (v := (I405, J405, R405)) xm sc405 rfl rfl
      have xw : XW L C I405 := XW.sm (u := (I, J, R)) (v := (I405, J405, R405)) xw sc405 rfl rfl
      have ow : Ow L C R405 := Ow.sm (u := (I, J, R)) (v := (I405, J405, R405)) ow sc405 rfl
      have oI1 := oI
      have oR1 := oR
      refine lv_pop hx hb dL_law_1156 rfl ?_
      refine lv_aload_n hx hb dL_law_1157 rfl (lv_at hl 2 rfl) ?_
      refine lv_aload_n hx hb dL_law_1158 rfl (lv_at hl 0 rfl) ?_
      refine lv_iload_n hx hb dL_law_1159 rfl (lv_at hl 3 rfl) ?_
      refine lv_iconst (v := 1) hx hb dL_law_1160 (by decide) ?_
      refine lv_iadd hx hb dL_law_1161 ?_
      refine lv_topi (fun y406 ey406 => ?_)
      obtain rfl : y397 = y406 := ey397.trans ey406.symm
      refine va_sld hx hb hX hbl hbA hH.2.2.2.1 (sc_in ty397 hi h6 (by decide)) dL_law_1162 ?_
      refine lv_topi (fun y407 ey407 => ?_)
      obtain rfl : y398 = y407 := ey398.trans ey407.symm
      refine lv_aload_n hx hb dL_law_1163 rfl (lv_at hl 0 rfl) ?_
      refine lv_iload_n hx hb dL_law_1164 rfl (lv_at hl 3 rfl) ?_
      refine lv_iconst (v := 2) hx hb dL_law_1165 (by decide) ?_
      refine lv_iadd hx hb dL_law_1166 ?_
      refine lv_topi (fun y408 ey408 => ?_)
      obtain rfl : y399 = y408 := ey399.trans ey408.symm
      refine va_sld hx hb hX hbl hbA hH.2.2.2.1 (sc_in ty399 hi h6 (by decide)) dL_law_1167 ?_
      refine lv_topi (fun y409 ey409 => ?_)
      obtain rfl : y400 = y409 := ey400.trans ey409.symm
      refine lv_aload_n hx hb dL_law_1168 rfl (lv_at hl 0 rfl) ?_
      refine lv_iload_n hx hb dL_law_1169 rfl (lv_at hl 3 rfl) ?_
      refine lv_iconst (v := 3) hx hb dL_law_1170 (by decide) ?_
      refine lv_iadd hx hb dL_law_1171 ?_
      refine lv_topi (fun y410 ey410 => ?_)
      obtain rfl : y401 = y410 := ey401.trans ey410.symm
      refine va_sld hx hb hX hbl hbA hH.2.2.2.1 (sc_in ty401 hi h6 (by decide)) dL_law_1172 ?_
      refine lv_topi (fun y411 ey411 => ?_)
      obtain rfl : y402 = y411 := ey402.trans ey411.symm
      refine lv_aload_n hx hb dL_law_1173 rfl (lv_at hl 0 rfl) ?_
      refine lv_iload_n hx hb dL_law_1174 rfl (lv_at hl 3 rfl) ?_
      refine lv_iconst (v := 4) hx hb dL_law_1175 (by decide) ?_
      refine lv_iadd hx hb dL_law_1176 ?_
      refine lv_topi (fun y412 ey412 => ?_)
      obtain rfl : y403 = y412 := ey403.trans ey412.symm
      refine va_sld hx hb hX hbl hbA hH.2.2.2.1 (sc_in ty403 hi h6 (by decide)) dL_law_1177 ?_
      refine lv_topi (fun y413 ey413 => ?_)
      obtain rfl : y404 = y413 := ey404.trans ey413.symm
      refine ca_L_109 hx hb hml hown hts hH (c_X11_through oI oR mm km (by exact xw)) hl.1 mm km rfl (by decide) (Nat.le_of_ble_eq_true rfl) ⟨by decide, by decide⟩ dL_law_1178 (fun y414 I414 J414 R414 H locs hp hH => ?_)
      obtain ⟨⟨oI, -, sc414⟩, eR414, hf414⟩ := hp
      obtain rfl : R405 = R414 := eR414.symm
      have sm : Sm C ms_L_law (I, J, R) (I414, J414, R405) := sm.tr sc414 rfl
      have xm : XM L C I414 := XM.sm (u := (I405, J405, R405)) (v := (I414, J414, R405)) xm sc414 rfl rfl
      have xw : XW L C I414 := XW.sm (u := (I405, J405, R405)) (v := (I414, J414, R405)) xw sc414 rfl rfl
      have ow : Ow L C R405 := Ow.sm (u := (I405, J405, R405)) (v := (I414, J414, R405)) ow sc414 rfl
      have rr414 := st_through uq mx kx mm km oI0 oR0 ow0 rel0 hf405 sc405 oI1 oR1 hf414 sc414 oI oR
      have rel : RXC L C x mo (I414, J414, R405) := rr414.1
      refine lv_pop hx hb dL_law_1181 rfl ?_
      refine lv_goto (tgt := 1244) hx hb dL_law_1182 (by decide) ?_
      exact L_1244 h6 I414 J414 R405 _ _ _ hH oI oR xm xw ow rel (lv_sub hl [0, 1, 2, 3] rfl)
    · have r415 : Rg y4 (21) (21) := ⟨by rw [z5]; decide, by rw [z5]; decide⟩
      refine lv_tableIn (tgt := 1185) hx hb dL_law_33 (by rw [z5]; decide) (by rw [z5]; decide) (by rw [z5]; rfl) (by decide) ?_
      refine lv_aload_n hx hb dL_law_1185 rfl (lv_at hl 1 rfl) ?_
      refine ca_L_110 hx hb hml hown hts hH (c_X10_value oI oR mx kx) hl.1 mx kx rfl (by decide) (Nat.le_of_ble_eq_true rfl) ⟨by decide, by decide⟩ dL_law_1186 (fun w416 I416 J416 R416 H locs hp hH => ?_)
      obtain ⟨eI416, eJ416, eR416, hf416⟩ := hp
      obtain rfl : I = I416 := eI416.symm
      obtain rfl : J = J416 := eJ416.symm
      obtain rfl : R = R416 := eR416.symm
      refine lv_pop2_2 hx hb dL_law_1189 rfl ?_
      refine lv_aload_n hx hb dL_law_1190 rfl (lv_at hl 2 rfl) ?_
      refine ca_L_114 hx hb hml hown hts hH (c_X11_value oI oR mm km) hl.1 mm km rfl (by decide) (Nat.le_of_ble_eq_true rfl) ⟨by decide, by decide⟩ dL_law_1191 (fun w417 I417 J417 R417 H locs hp hH => ?_)
      obtain ⟨⟨oI, -, sc417⟩, eJ417, eR417, hf417⟩ := hp
      obtain rfl : J = J417 := eJ417.symm
      obtain rfl : R = R417 := eR417.symm
      have sm : Sm C ms_L_law (I, J, R) (I417, J, R) := sm.tr sc417 rfl
      have xm : XM L C I417 := XM.sm (u := (I, J, R)) (v := (I417, J, R)) xm sc417 rfl rfl
      have xw : XW L C I417 := XW.sm (u := (I, J, R)) (v := (I417, J, R)) xw sc417 rfl rfl
      have ow : Ow L C R := Ow.sm (u := (I, J, R)) (v := (I417, J, R)) ow sc417 rfl
      have rel : RXC L C x mo (I417, J, R) := RXC.sm (u := (I, J, R)) (v := (I417, J, R)) rel oI oR sc417 rfl
      refine lv_pop2_2 hx hb dL_law_1194 rfl ?_
      refine lv_goto (tgt := 1244) hx hb dL_law_1195 (by decide) ?_
      exact L_1244 h6 I417 J R _ _ _ hH oI oR xm xw ow rel (lv_sub hl [0, 1, 2, 3] rfl)
    · have r418 : Rg y4 (22) (22) := ⟨by rw [z5]; decide, by rw [z5]; decide⟩
      refine lv_tableIn (tgt := 1198) hx hb dL_law_33 (by rw [z5]; decide) (by rw [z5]; decide) (by rw [z5]; rfl) (by decide) ?_
      refine lv_aload_n hx hb dL_law_1198 rfl (lv_at hl 1 rfl) ?_
      refine lv_aload_n hx hb dL_law_1199 rfl (lv_at hl 0 rfl) ?_
      refine lv_iload_n hx hb dL_law_1200 rfl (lv_at hl 3 rfl) ?_
      refine lv_iconst (v := 1) hx hb dL_law_1201 (by decide) ?_
      refine lv_iadd hx hb dL_law_1202 ?_
      refine lv_topi (fun y419 ey419 => ?_)
      obtain ⟨ty419, ry419⟩ := Rg_addx (a' := (1)) (b' := (3073)) (rfl : x3.toInt = _) (by decide : Int32.toInt 1 = 1) r3 (Rg_c (x := 1) (a := (1)) (b := (1)) (by decide)) (by decide)
      rw [← ey419] at ty419 ry419
      refine va_sld hx hb hX hbl hbA hH.2.2.2.1 (sc_in ty419 hi h6 (by decide)) dL_law_1203 ?_
      refine lv_topi (fun y420 ey420 => ?_)
      refine ca_L_115 hx hb hml hown hts hH (c_X10_failed oI oR mx kx) hl.1 mx kx rfl (by decide) (Nat.le_of_ble_eq_true rfl) ⟨by decide, by decide⟩ dL_law_1204 (fun y421 I421 J421 R421 H locs hp hH => ?_)
      obtain ⟨eI421, eJ421, eR421⟩ := hp
      obtain rfl : I = I421 := eI421.symm
      obtain rfl : J = J421 := eJ421.symm
      obtain rfl : R = R421 := eR421.symm
      refine lv_pop hx hb dL_law_1207 rfl ?_
      refine lv_aload_n hx hb dL_law_1208 rfl (lv_at hl 2 rfl) ?_
      refine lv_aload_n hx hb dL_law_1209 rfl (lv_at hl 0 rfl) ?_
      refine lv_iload_n hx hb dL_law_1210 rfl (lv_at hl 3 rfl) ?_
      refine lv_iconst (v := 1) hx hb dL_law_1211 (by decide) ?_
      refine lv_iadd hx hb dL_law_1212 ?_
      refine lv_topi (fun y422 ey422 => ?_)
      obtain rfl : y419 = y422 := ey419.trans ey422.symm
      refine va_sld hx hb hX hbl hbA hH.2.2.2.1 (sc_in ty419 hi h6 (by decide)) dL_law_1213 ?_
      refine lv_topi (fun y423 ey423 => ?_)
      obtain rfl : y420 = y423 := ey420.trans ey423.symm
      refine ca_L_118 hx hb hml hown hts hH (c_X11_failed oI oR mm km) hl.1 mm km rfl (by decide) (Nat.le_of_ble_eq_true rfl) ⟨by decide, by decide⟩ dL_law_1214 (fun y424 I424 J424 R424 H locs hp hH => ?_)
      obtain ⟨⟨oI, -, sc424⟩, eJ424, eR424⟩ := hp
      obtain rfl : J = J424 := eJ424.symm
      obtain rfl : R = R424 := eR424.symm
      have sm : Sm C ms_L_law (I, J, R) (I424, J, R) := sm.tr sc424 rfl
      have xm : XM L C I424 := XM.sm (u := (I, J, R)) (v := (I424, J, R)) xm sc424 rfl rfl
      have xw : XW L C I424 := XW.sm (u := (I, J, R)) (v := (I424, J, R)) xw sc424 rfl rfl
      have ow : Ow L C R := Ow.sm (u := (I, J, R)) (v := (I424, J, R)) ow sc424 rfl
      have rel : RXC L C x mo (I424, J, R) := RXC.sm (u := (I, J, R)) (v := (I424, J, R)) rel oI oR sc424 rfl
      refine lv_pop hx hb dL_law_1217 rfl ?_
      refine lv_goto (tgt := 1244) hx hb dL_law_1218 (by decide) ?_
      exact L_1244 h6 I424 J R _ _ _ hH oI oR xm xw ow rel (lv_sub hl [0, 1, 2, 3] rfl)
    · have r425 : Rg y4 (23) (23) := ⟨by rw [z5]; decide, by rw [z5]; decide⟩
      refine lv_tableIn (tgt := 1221) hx hb dL_law_33 (by rw [z5]; decide) (by rw [z5]; decide) (by rw [z5]; rfl) (by decide) ?_
      refine lv_aload_n hx hb dL_law_1221 rfl (lv_at hl 1 rfl) ?_
      refine lv_aload_n hx hb dL_law_1222 rfl (lv_at hl 0 rfl) ?_
      refine lv_iload_n hx hb dL_law_1223 rfl (lv_at hl 3 rfl) ?_
      refine lv_iconst (v := 1) hx hb dL_law_1224 (by decide) ?_
      refine lv_iadd hx hb dL_law_1225 ?_
      refine lv_topi (fun y426 ey426 => ?_)
      obtain ⟨ty426, ry426⟩ := Rg_addx (a' := (1)) (b' := (3073)) (rfl : x3.toInt = _) (by decide : Int32.toInt 1 = 1) r3 (Rg_c (x := 1) (a := (1)) (b := (1)) (by decide)) (by decide)
      rw [← ey426] at ty426 ry426
      refine va_sld hx hb hX hbl hbA hH.2.2.2.1 (sc_in ty426 hi h6 (by decide)) dL_law_1226 ?_
      refine lv_topi (fun y427 ey427 => ?_)
      refine ca_L_119 hx hb hml hown hts hH (c_X10_count oI oR mx kx) hl.1 mx kx rfl (by decide) (Nat.le_of_ble_eq_true rfl) ⟨by decide, by decide⟩ dL_law_1227 (fun y428 I428 J428 R428 H locs hp hH => ?_)
      obtain ⟨eI428, eJ428, eR428, hf428⟩ := hp
      obtain rfl : I = I428 := eI428.symm
      obtain rfl : J = J428 := eJ428.symm
      obtain rfl : R = R428 := eR428.symm
      have oI1 := oI
      have oR1 := oR
      refine lv_aload_n hx hb dL_law_1230 rfl (lv_at hl 2 rfl) ?_
      refine lv_aload_n hx hb dL_law_1231 rfl (lv_at hl 0 rfl) ?_
      refine lv_iload_n hx hb dL_law_1232 rfl (lv_at hl 3 rfl) ?_
      refine lv_iconst (v := 1) hx hb dL_law_1233 (by decide) ?_
      refine lv_iadd hx hb dL_law_1234 ?_
      refine lv_topi (fun y429 ey429 => ?_)
      obtain rfl : y426 = y429 := ey426.trans ey429.symm
      refine va_sld hx hb hX hbl hbA hH.2.2.2.1 (sc_in ty426 hi h6 (by decide)) dL_law_1235 ?_
      refine lv_topi (fun y430 ey430 => ?_)
      obtain rfl : y427 = y430 := ey427.trans ey430.symm
      refine ca_L_122 hx hb hml hown hts hH (c_X11_count oI oR mm km) hl.1 mm km rfl (by decide) (Nat.le_of_ble_eq_true rfl) ⟨by decide, by decide⟩ dL_law_1236 (fun y431 I431 J431 R431 H locs hp hH => ?_)
      obtain ⟨⟨oI, -, sc431⟩, eJ431, eR431, hf431⟩ := hp
      obtain rfl : J = J431 := eJ431.symm
      obtain rfl : R = R431 := eR431.symm
      have sm : Sm C ms_L_law (I, J, R) (I431, J, R) := sm.tr sc431 rfl
      have xm : XM L C I431 := XM.sm (u := (I, J, R)) (v := (I431, J, R)) xm sc431 rfl rfl
      have xw : XW L C I431 := XW.sm (u := (I, J, R)) (v := (I431, J, R)) xw sc431 rfl rfl
      have ow : Ow L C R := Ow.sm (u := (I, J, R)) (v := (I431, J, R)) ow sc431 rfl
      have rr431 := st_count uq mx kx mm km oI0 oR0 ow0 rel0 hf428 oI1 oR1 hf431 sc431 oI oR
      have rel : RXC L C x mo (I431, J, R) := rr431.1
      refine lv_icmp_eq (tgt := 1244) hx hb dL_law_1239 (by decide) (fun q432 => ?_) (fun q432 => ?_)
      · have l433 := congrArg Int32.toInt q432
        exact L_1244 h6 I431 J R _ _ _ hH oI oR xm xw ow rel (lv_sub hl [0, 1, 2, 3] rfl)
      have l434 := Rg_ne q432
      refine lv_iconst (v := 0) hx hb dL_law_1242 (by decide) ?_
      exfalso
      exact absurd rr431.2 (by assumption)
