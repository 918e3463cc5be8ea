def ms_L_law : List Nat := [1, 71, 72, 73, 74, 196, 197, 256, 257, 258, 259, 260, 320, 321, 322, 324, 325, 326, 390, 391, 394, 395, 449, 514, 580, 581, 704, 705, 722, 725, 729, 730, 731, 732, 733, 734, 735, 741, 744, 745, 746, 751, 753, 758, 759, 2048, 2112, 2176, 2240, 2304, 2368, 2432, 2496, 2560, 2624, 2688, 2752, 2816, 2880, 2944, 3008, 3072, 3136, 3200, 3264, 3328, 3392, 3456, 3520, 4096, 4160, 4224, 4288, 4352, 4416, 4480, 4544, 4608, 4672, 4736, 4800, 4864, 4928, 4992, 5056, 5120, 5184, 5248, 5312, 5376, 5440, 5504, 5568, 5632, 5696, 5760, 5824, 5888, 5952, 6016, 6080, 6144, 6208, 6272, 6336, 6400]
set_option maxHeartbeats 8000000 in
set_option maxRecDepth 100000 in
theorem law_loop {p : Program} {l : Launch} {e : Env} {s : State} {m : MethodId} {below : List Frame} {meth : Method} {c : Code} {D : va_G} {cy : Nat → ClassId} {L : List Nat} {C : Nat → Nat} {b n0 : Nat} {xs : Nat → Int32} (hL : n0 ≤ 3072) (C0 : lw_At p s m meth c b n0 xs) (uq : Uq L C) {x mo : Nat} (mx : x ∈ L) (kx : C x = 10) (mm : mo ∈ L) (km : C mo = 11) {th : Nat} (mth : th ∈ L) (kth : C th = 8) :
    ∀ (n i : Nat) (x3 : Int32), i ≤ n0 → n0 + 1 ≤ i + n → x3.toInt = i → ∀ (I : hI) (J : hJ) (R : hR) (H : Heap) (locs : List Loc) (ls : Array Slot), Hp D cy L C s.heap.size s s.heap I J R H locs → OkI L C I → OkR L C R → XM L C I → XW L C I → R x 6 = some th → I th 2 = I mo 21 → lv_has ls 4 [(0, .ref b), (1, .ref x), (2, .ref mo), (3, .int x3)] → W p l e room_1 s m #[Value.ref b] below meth c H locs 474 16845 (lw_Z below #[Value.ref b] s) (F0 m 18 ls []) := by
  obtain ⟨hx, hb, hr, hml, hown, hts0, hX, hbl, hlocks, hgv⟩ := C0
  have hts : ∀ w ∈ wG, w.before #[Value.ref b] s = true := fun w h => hts0 w (List.mem_filter.mp h).1
  have hown : s.vm.findClass RL = some m.cls := hown
  have hbA : ¬ (fun q : Nat => s.heap.size ≤ q) b := Nat.not_le.mpr hbl
  intro n
  induction n with
  | zero => intro i x3 h1 h2; exact absurd h2 (by omega)
  | succ n ih =>
    intro i x3 hi0 hin hi I J R H locs ls hH oI oR xm xw fr0 fe1 hl
    have r3 : Rg x3 (0) (3072) := ⟨by omega, by omega⟩
    have sm : Sm C ms_L_law (I, J, R) (I, J, R) := Sm.rf
    have L_1244 : i + 6 ≤ n0 → ∀ (I : hI) (J : hJ) (R : hR) (H : Heap) (locs : List Loc) (ls : Array Slot), Hp D cy L C s.heap.size s s.heap I J R H locs → OkI L C I → OkR L C R → XM L C I → XW L C I → R x 6 = some th → I th 2 = I mo 21 → lv_has ls 4 [(0, .ref b), (1, .ref x), (2, .ref mo), (3, .int x3)] → W p l e room_1 s m #[Value.ref b] below meth c H locs 474 16845 (lw_Z below #[Value.ref b] s) (F0 m 1244 ls []) := by
      intro h6 I J R H locs ls hH oI oR xm xw fr0 fe1 hl
      have r9 : Rg x3 (0) (3066) := ⟨by omega, by omega⟩
      obtain ⟨vv1, fb1⟩ : ∃ z, I mo 21 = z := ⟨_, rfl⟩
      have fa1 : I th 2 = vv1 := fe1.trans fb1
      obtain ⟨y450, ey450⟩ : ∃ y : Int32, y = x3 + 6 := ⟨_, rfl⟩
      obtain ⟨ty450, ry450⟩ := Rg_addx (a' := (6)) (b' := (3072)) (rfl : x3.toInt = _) (by decide : Int32.toInt 6 = 6) r9 (Rg_c (x := 6) (a := (6)) (b := (6)) (by decide)) (by decide)
      rw [← ey450] at ty450 ry450
      refine lv_iinc (v := y450) (lv' := [(3, .int y450), (0, .ref b), (1, .ref x), (2, .ref mo)]) hx hb dL_law_1244 hl (k := 3) rfl (by rw [ey450]; rfl) (by decide) rfl (fun ls hl => ?_)
      refine lv_goto (tgt := 18) hx hb dL_law_1247 (by decide) ?_
      exact ih (i + 6) y450 (by omega) (by omega) (by rw [ty450]; omega) I J R _ _ _ hH oI oR xm xw fr0 (fa1.trans fb1.symm) (lv_sub hl [1, 2, 3, 0] rfl)
    obtain ⟨vv1, fb1⟩ : ∃ z, I mo 21 = z := ⟨_, rfl⟩
    have fa1 : I th 2 = vv1 := fe1.trans fb1
    refine lv_iload_n hx hb dL_law_18 rfl (lv_at hl 3 rfl) ?_
    refine lv_aload_n hx hb dL_law_19 rfl (lv_at hl 0 rfl) ?_
    refine va_slen hx hb hX hbl hbA hH.2.2.2.1 dL_law_20 ?_
    refine lv_topi (fun ln eln => ?_)
    have rln : Rg ln (0) (3072) := by rw [eln]; exact sc_len hL
    have tln : ln.toInt = n0 := by rw [eln]; exact sc_lenI hL
    refine lv_bipush (v := 6) hx hb dL_law_21 (by decide) ?_
    refine lv_isub hx hb dL_law_23 ?_
    refine lv_topi (fun y1 ey1 => ?_)
    obtain ⟨ty1, ry1⟩ := Rg_subx (a' := (-6)) (b' := (3066)) (rfl : ln.toInt = _) (by decide : Int32.toInt 6 = 6) rln (Rg_c (x := 6) (a := (6)) (b := (6)) (by decide)) (by decide)
    rw [← ey1] at ty1 ry1
    refine lv_icmp_gt (tgt := 1250) hx hb dL_law_24 (by decide) (fun q2 => ?_) (fun q2 => ?_)
    · refine lv_iconst (v := 1) hx hb dL_law_1250 (by decide) ?_
      refine va_forget (fun q hq => hH.2.2.2.1.2.2 q hq) ?_
      refine W.widen (k := 600000) (n := 7302249) (by decide) (by decide) ?_
      exact lw_ret hx hb hr hlocks dL_law_1251
    have h6 : i + 6 ≤ n0 := by have a1 := Rg_nlt q2; rw [ty1] at a1; omega
    refine lv_aload_n hx hb dL_law_27 rfl (lv_at hl 0 rfl) ?_
    refine lv_iload_n hx hb dL_law_28 rfl (lv_at hl 3 rfl) ?_
    refine va_sld hx hb hX hbl hbA hH.2.2.2.1 (sc_in0 hi h6) dL_law_29 ?_
    refine lv_topi (fun y3 ey3 => ?_)
    refine lv_bipush (v := 31) hx hb dL_law_30 (by decide) ?_
    refine lv_iand hx hb dL_law_32 ?_
    refine lv_topi (fun y4 ey4 => ?_)
    have ry4 : Rg y4 0 31 := by rw [ey4]; exact Rg_and31 _
    rcases (show (y4.toInt < 0 ∨ 23 < y4.toInt) ∨ y4.toInt = 0 ∨ y4.toInt = 1 ∨ y4.toInt = 2 ∨ y4.toInt = 3 ∨ y4.toInt = 4 ∨ y4.toInt = 5 ∨ y4.toInt = 6 ∨ y4.toInt = 7 ∨ y4.toInt = 8 ∨ y4.toInt = 9 ∨ y4.toInt = 10 ∨ y4.toInt = 11 ∨ y4.toInt = 12 ∨ y4.toInt = 13 ∨ y4.toInt = 14 ∨ y4.toInt = 15 ∨ y4.toInt = 16 ∨ y4.toInt = 17 ∨ y4.toInt = 18 ∨ y4.toInt = 19 ∨ y4.toInt = 20 ∨ y4.toInt = 21 ∨ y4.toInt = 22 ∨ y4.toInt = 23 by have z51 := ry4.1; have z52 := ry4.2; omega) with z5 | z5 | z5 | z5 | z5 | z5 | z5 | z5 | z5 | z5 | z5 | z5 | z5 | z5 | z5 | z5 | z5 | z5 | z5 | z5 | z5 | z5 | z5 | z5 | z5
    · refine lv_tableOut (tgt := 1244) hx hb dL_law_33 z5 (by decide) ?_
      exact L_1244 h6 I J R _ _ _ hH oI oR xm xw fr0 (fa1.trans fb1.symm) (lv_sub hl [0, 1, 2, 3] rfl)
    · have r6 : Rg y4 (0) (0) := ⟨by rw [z5]; decide, by rw [z5]; decide⟩
      refine lv_tableIn (tgt := 144) hx hb dL_law_33 (by rw [z5]; decide) (by rw [z5]; decide) (by rw [z5]; rfl) (by decide) ?_
      refine lv_aload_n hx hb dL_law_144 rfl (lv_at hl 1 rfl) ?_
      refine lv_aload_n hx hb dL_law_145 rfl (lv_at hl 0 rfl) ?_
      refine lv_iload_n hx hb dL_law_146 rfl (lv_at hl 3 rfl) ?_
      refine lv_iconst (v := 1) hx hb dL_law_147 (by decide) ?_
      refine lv_iadd hx hb dL_law_148 ?_
      refine lv_topi (fun y7 ey7 => ?_)
      obtain ⟨ty7, ry7⟩ := Rg_addx (a' := (1)) (b' := (3073)) (rfl : x3.toInt = _) (by decide : Int32.toInt 1 = 1) r3 (Rg_c (x := 1) (a := (1)) (b := (1)) (by decide)) (by decide)
      rw [← ey7] at ty7 ry7
      refine va_sld hx hb hX hbl hbA hH.2.2.2.1 (sc_in ty7 hi h6 (by decide)) dL_law_149 ?_
      refine lv_topi (fun y8 ey8 => ?_)
      refine lv_aload_n hx hb dL_law_150 rfl (lv_at hl 0 rfl) ?_
      refine lv_iload_n hx hb dL_law_151 rfl (lv_at hl 3 rfl) ?_
      refine lv_iconst (v := 2) hx hb dL_law_152 (by decide) ?_
      refine lv_iadd hx hb dL_law_153 ?_
      refine lv_topi (fun y9 ey9 => ?_)
      obtain ⟨ty9, ry9⟩ := Rg_addx (a' := (2)) (b' := (3074)) (rfl : x3.toInt = _) (by decide : Int32.toInt 2 = 2) r3 (Rg_c (x := 2) (a := (2)) (b := (2)) (by decide)) (by decide)
      rw [← ey9] at ty9 ry9
      refine va_sld hx hb hX hbl hbA hH.2.2.2.1 (sc_in ty9 hi h6 (by decide)) dL_law_154 ?_
      refine lv_topi (fun y10 ey10 => ?_)
      refine lv_aload_n hx hb dL_law_155 rfl (lv_at hl 0 rfl) ?_
      refine lv_iload_n hx hb dL_law_156 rfl (lv_at hl 3 rfl) ?_
      refine lv_iconst (v := 3) hx hb dL_law_157 (by decide) ?_
      refine lv_iadd hx hb dL_law_158 ?_
      refine lv_topi (fun y11 ey11 => ?_)
      obtain ⟨ty11, ry11⟩ := Rg_addx (a' := (3)) (b' := (3075)) (rfl : x3.toInt = _) (by decide : Int32.toInt 3 = 3) r3 (Rg_c (x := 3) (a := (3)) (b := (3)) (by decide)) (by decide)
      rw [← ey11] at ty11 ry11
      refine va_sld hx hb hX hbl hbA hH.2.2.2.1 (sc_in ty11 hi h6 (by decide)) dL_law_159 ?_
      refine lv_topi (fun y12 ey12 => ?_)
      refine lv_aload_n hx hb dL_law_160 rfl (lv_at hl 0 rfl) ?_
      refine lv_iload_n hx hb dL_law_161 rfl (lv_at hl 3 rfl) ?_
      refine lv_iconst (v := 4) hx hb dL_law_162 (by decide) ?_
      refine lv_iadd hx hb dL_law_163 ?_
      refine lv_topi (fun y13 ey13 => ?_)
      obtain ⟨ty13, ry13⟩ := Rg_addx (a' := (4)) (b' := (3076)) (rfl : x3.toInt = _) (by decide : Int32.toInt 4 = 4) r3 (Rg_c (x := 4) (a := (4)) (b := (4)) (by decide)) (by decide)
      rw [← ey13] at ty13 ry13
      refine va_sld hx hb hX hbl hbA hH.2.2.2.1 (sc_in ty13 hi h6 (by decide)) dL_law_164 ?_
      refine lv_topi (fun y14 ey14 => ?_)
      refine ca_L_13 hx hb hml hown hts hH (c_X10_rule oI oR mx kx) hl.1 mx kx rfl (by decide) (Nat.le_of_ble_eq_true rfl) ⟨by decide, by decide⟩ dL_law_165 (fun y15 I15 J15 R15 H locs hp hH => ?_)
      obtain ⟨⟨oI, -, sc15⟩, eJ15, eR15, ry15⟩ := hp
      obtain rfl : J = J15 := eJ15.symm
      obtain rfl : R = R15 := eR15.symm
      have sm : Sm C ms_L_law (I, J, R) (I15, J, R) := sm.tr sc15 rfl
      have xm : XM L C I15 := XM.sm (u := (I, J, R)) (v := (I15, J, R)) xm sc15 rfl rfl
      have xw : XW L C I15 := XW.sm (u := (I, J, R)) (v := (I15, J, R)) xw sc15 rfl rfl
      have fr0o := fr0
      have fr0 : R x 6 = some th := (sc15 x 6 (by rw [kx]; decide)).2.2.trans fr0
      have fa1o := fa1
      have fb1o := fb1
      have fa1 : I15 th 2 = vv1 := (sc15 th 2 (by rw [kth]; decide)).1.trans fa1
      have fb1 : I15 mo 21 = vv1 := (sc15 mo 21 (by rw [km]; decide)).1.trans fb1
      refine lv_pop hx hb dL_law_168 rfl ?_
      refine lv_aload_n hx hb dL_law_169 rfl (lv_at hl 2 rfl) ?_
      refine lv_aload_n hx hb dL_law_170 rfl (lv_at hl 0 rfl) ?_
      refine lv_iload_n hx hb dL_law_171 rfl (lv_at hl 3 rfl) ?_
      refine lv_iconst (v := 1) hx hb dL_law_172 (by decide) ?_
      refine lv_iadd hx hb dL_law_173 ?_
      refine lv_topi (fun y16 ey16 => ?_)
      obtain rfl : y7 = y16 := ey7.trans ey16.symm
      refine va_sld hx hb hX hbl hbA hH.2.2.2.1 (sc_in ty7 hi h6 (by decide)) dL_law_174 ?_
      refine lv_topi (fun y17 ey17 => ?_)
      obtain rfl : y8 = y17 := ey8.trans ey17.symm
      refine lv_aload_n hx hb dL_law_175 rfl (lv_at hl 0 rfl) ?_
      refine lv_iload_n hx hb dL_law_176 rfl (lv_at hl 3 rfl) ?_
      refine lv_iconst (v := 2) hx hb dL_law_177 (by decide) ?_
      refine lv_iadd hx hb dL_law_178 ?_
      refine lv_topi (fun y18 ey18 => ?_)
      obtain rfl : y9 = y18 := ey9.trans ey18.symm
      refine va_sld hx hb hX hbl hbA hH.2.2.2.1 (sc_in ty9 hi h6 (by decide)) dL_law_179 ?_
      refine lv_topi (fun y19 ey19 => ?_)
      obtain rfl : y10 = y19 := ey10.trans ey19.symm
      refine lv_aload_n hx hb dL_law_180 rfl (lv_at hl 0 rfl) ?_
      refine lv_iload_n hx hb dL_law_181 rfl (lv_at hl 3 rfl) ?_
      refine lv_iconst (v := 3) hx hb dL_law_182 (by decide) ?_
      refine lv_iadd hx hb dL_law_183 ?_
      refine lv_topi (fun y20 ey20 => ?_)
      obtain rfl : y11 = y20 := ey11.trans ey20.symm
      refine va_sld hx hb hX hbl hbA hH.2.2.2.1 (sc_in ty11 hi h6 (by decide)) dL_law_184 ?_
      refine lv_topi (fun y21 ey21 => ?_)
      obtain rfl : y12 = y21 := ey12.trans ey21.symm
      refine lv_aload_n hx hb dL_law_185 rfl (lv_at hl 0 rfl) ?_
      refine lv_iload_n hx hb dL_law_186 rfl (lv_at hl 3 rfl) ?_
      refine lv_iconst (v := 4) hx hb dL_law_187 (by decide) ?_
      refine lv_iadd hx hb dL_law_188 ?_
      refine lv_topi (fun y22 ey22 => ?_)
      obtain rfl : y13 = y22 := ey13.trans ey22.symm
      refine va_sld hx hb hX hbl hbA hH.2.2.2.1 (sc_in ty13 hi h6 (by decide)) dL_law_189 ?_
      refine lv_topi (fun y23 ey23 => ?_)
      obtain rfl : y14 = y23 := ey14.trans ey23.symm
      refine ca_L_17 hx hb hml hown hts hH (c_X11_rule oI oR mm km) hl.1 mm km rfl (by decide) (Nat.le_of_ble_eq_true rfl) ⟨by decide, by decide⟩ dL_law_190 (fun y24 I24 J24 R24 H locs hp hH => ?_)
      obtain ⟨⟨oI, -, sc24⟩, eJ24, eR24, ry24⟩ := hp
      obtain rfl : J = J24 := eJ24.symm
      obtain rfl : R = R24 := eR24.symm
      have sm : Sm C ms_L_law (I, J, R) (I24, J, R) := sm.tr sc24 rfl
      have xm : XM L C I24 := XM.sm (u := (I15, J, R)) (v := (I24, J, R)) xm sc24 rfl rfl
      have xw : XW L C I24 := XW.sm (u := (I15, J, R)) (v := (I24, J, R)) xw sc24 rfl rfl
      have fr0o := fr0
      have fr0 : R x 6 = some th := (sc24 x 6 (by rw [kx]; decide)).2.2.trans fr0
      have fa1o := fa1
      have fb1o := fb1
      have fa1 : I24 th 2 = vv1 := (sc24 th 2 (by rw [kth]; decide)).1.trans fa1
      have fb1 : I24 mo 21 = vv1 := (sc24 mo 21 (by rw [km]; decide)).1.trans fb1
      refine lv_pop hx hb dL_law_193 rfl ?_
      refine lv_goto (tgt := 1244) hx hb dL_law_194 (by decide) ?_
      exact L_1244 h6 I24 J R _ _ _ hH oI oR xm xw fr0 (fa1.trans fb1.symm) (lv_sub hl [0, 1, 2, 3] rfl)
    · have r25 : Rg y4 (1) (1) := ⟨by rw [z5]; decide, by rw [z5]; decide⟩
      refine lv_tableIn (tgt := 197) hx hb dL_law_33 (by rw [z5]; decide) (by rw [z5]; decide) (by rw [z5]; rfl) (by decide) ?_
      refine lv_aload_n hx hb dL_law_197 rfl (lv_at hl 1 rfl) ?_
      refine lv_aload_n hx hb dL_law_198 rfl (lv_at hl 0 rfl) ?_
      refine lv_iload_n hx hb dL_law_199 rfl (lv_at hl 3 rfl) ?_
      refine lv_iconst (v := 1) hx hb dL_law_200 (by decide) ?_
      refine lv_iadd hx hb dL_law_201 ?_
      refine lv_topi (fun y26 ey26 => ?_)
      obtain ⟨ty26, ry26⟩ := Rg_addx (a' := (1)) (b' := (3073)) (rfl : x3.toInt = _) (by decide : Int32.toInt 1 = 1) r3 (Rg_c (x := 1) (a := (1)) (b := (1)) (by decide)) (by decide)
      rw [← ey26] at ty26 ry26
      refine va_sld hx hb hX hbl hbA hH.2.2.2.1 (sc_in ty26 hi h6 (by decide)) dL_law_202 ?_
      refine lv_topi (fun y27 ey27 => ?_)
      refine ca_L_18 hx hb hml hown hts hH (c_X10_drop oI oR mx kx) hl.1 mx kx rfl (by decide) (Nat.le_of_ble_eq_true rfl) ⟨by decide, by decide⟩ dL_law_203 (fun y28 I28 J28 R28 H locs hp hH => ?_)
      obtain ⟨⟨oI, -, sc28⟩, eJ28, eR28, ry28⟩ := hp
      obtain rfl : J = J28 := eJ28.symm
      obtain rfl : R = R28 := eR28.symm
      have sm : Sm C ms_L_law (I, J, R) (I28, J, R) := sm.tr sc28 rfl
      have xm : XM L C I28 := XM.sm (u := (I, J, R)) (v := (I28, J, R)) xm sc28 rfl rfl
      have xw : XW L C I28 := XW.sm (u := (I, J, R)) (v := (I28, J, R)) xw sc28 rfl rfl
      have fr0o := fr0
      have fr0 : R x 6 = some th := (sc28 x 6 (by rw [kx]; decide)).2.2.trans fr0
      have fa1o := fa1
      have fb1o := fb1
      have fa1 : I28 th 2 = vv1 := (sc28 th 2 (by rw [kth]; decide)).1.trans fa1
      have fb1 : I28 mo 21 = vv1 := (sc28 mo 21 (by rw [km]; decide)).1.trans fb1
      refine lv_pop hx hb dL_law_206 rfl ?_
      refine lv_aload_n hx hb dL_law_207 rfl (lv_at hl 2 rfl) ?_
      refine lv_aload_n hx hb dL_law_208 rfl (lv_at hl 0 rfl) ?_
      refine lv_iload_n hx hb dL_law_209 rfl (lv_at hl 3 rfl) ?_
      refine lv_iconst (v := 1) hx hb dL_law_210 (by decide) ?_
      refine lv_iadd hx hb dL_law_211 ?_
      refine lv_topi (fun y29 ey29 => ?_)
      obtain rfl : y26 = y29 := ey26.trans ey29.symm
      refine va_sld hx hb hX hbl hbA hH.2.2.2.1 (sc_in ty26 hi h6 (by decide)) dL_law_212 ?_
      refine lv_topi (fun y30 ey30 => ?_)
      obtain rfl : y27 = y30 := ey27.trans ey30.symm
      refine ca_L_22 hx hb hml hown hts hH (c_X11_drop oI oR mm km) hl.1 mm km rfl (by decide) (Nat.le_of_ble_eq_true rfl) ⟨by decide, by decide⟩ dL_law_213 (fun y31 I31 J31 R31 H locs hp hH => ?_)
      obtain ⟨⟨oI, -, sc31⟩, eJ31, eR31, ry31⟩ := hp
      obtain rfl : J = J31 := eJ31.symm
      obtain rfl : R = R31 := eR31.symm
      have sm : Sm C ms_L_law (I, J, R) (I31, J, R) := sm.tr sc31 rfl
      have xm : XM L C I31 := XM.sm (u := (I28, J, R)) (v := (I31, J, R)) xm sc31 rfl rfl
      have xw : XW L C I31 := XW.sm (u := (I28, J, R)) (v := (I31, J, R)) xw sc31 rfl rfl
      have fr0o := fr0
      have fr0 : R x 6 = some th := (sc31 x 6 (by rw [kx]; decide)).2.2.trans fr0
      have fa1o := fa1
      have fb1o := fb1
      have fa1 : I31 th 2 = vv1 := (sc31 th 2 (by rw [kth]; decide)).1.trans fa1
      have fb1 : I31 mo 21 = vv1 := (sc31 mo 21 (by rw [km]; decide)).1.trans fb1
      refine lv_pop hx hb dL_law_216 rfl ?_
      refine lv_goto (tgt := 1244) hx hb dL_law_217 (by decide) ?_
      exact L_1244 h6 I31 J R _ _ _ hH oI oR xm xw fr0 (fa1.trans fb1.symm) (lv_sub hl [0, 1, 2, 3] rfl)
    · have r32 : Rg y4 (2) (2) := ⟨by rw [z5]; decide, by rw [z5]; decide⟩
      refine lv_tableIn (tgt := 220) hx hb dL_law_33 (by rw [z5]; decide) (by rw [z5]; decide) (by rw [z5]; rfl) (by decide) ?_
      refine lv_aload_n hx hb dL_law_220 rfl (lv_at hl 1 rfl) ?_
      refine lv_aload_n hx hb dL_law_221 rfl (lv_at hl 0 rfl) ?_
      refine lv_iload_n hx hb dL_law_222 rfl (lv_at hl 3 rfl) ?_
      refine lv_iconst (v := 1) hx hb dL_law_223 (by decide) ?_
      refine lv_iadd hx hb dL_law_224 ?_
      refine lv_topi (fun y33 ey33 => ?_)
      obtain ⟨ty33, ry33⟩ := Rg_addx (a' := (1)) (b' := (3073)) (rfl : x3.toInt = _) (by decide : Int32.toInt 1 = 1) r3 (Rg_c (x := 1) (a := (1)) (b := (1)) (by decide)) (by decide)
      rw [← ey33] at ty33 ry33
      refine va_sld hx hb hX hbl hbA hH.2.2.2.1 (sc_in ty33 hi h6 (by decide)) dL_law_225 ?_
      refine lv_topi (fun y34 ey34 => ?_)
      refine lv_aload_n hx hb dL_law_226 rfl (lv_at hl 0 rfl) ?_
      refine lv_iload_n hx hb dL_law_227 rfl (lv_at hl 3 rfl) ?_
      refine lv_iconst (v := 2) hx hb dL_law_228 (by decide) ?_
      refine lv_iadd hx hb dL_law_229 ?_
      refine lv_topi (fun y35 ey35 => ?_)
      obtain ⟨ty35, ry35⟩ := Rg_addx (a' := (2)) (b' := (3074)) (rfl : x3.toInt = _) (by decide : Int32.toInt 2 = 2) r3 (Rg_c (x := 2) (a := (2)) (b := (2)) (by decide)) (by decide)
      rw [← ey35] at ty35 ry35
      refine va_sld hx hb hX hbl hbA hH.2.2.2.1 (sc_in ty35 hi h6 (by decide)) dL_law_230 ?_
      refine lv_topi (fun y36 ey36 => ?_)
      refine lv_aload_n hx hb dL_law_231 rfl (lv_at hl 0 rfl) ?_
      refine lv_iload_n hx hb dL_law_232 rfl (lv_at hl 3 rfl) ?_
      refine lv_iconst (v := 3) hx hb dL_law_233 (by decide) ?_
      refine lv_iadd hx hb dL_law_234 ?_
      refine lv_topi (fun y37 ey37 => ?_)
      obtain ⟨ty37, ry37⟩ := Rg_addx (a' := (3)) (b' := (3075)) (rfl : x3.toInt = _) (by decide : Int32.toInt 3 = 3) r3 (Rg_c (x := 3) (a := (3)) (b := (3)) (by decide)) (by decide)
      rw [← ey37] at ty37 ry37
      refine va_sld hx hb hX hbl hbA hH.2.2.2.1 (sc_in ty37 hi h6 (by decide)) dL_law_235 ?_
      refine lv_topi (fun y38 ey38 => ?_)
      refine ca_L_23 hx hb hml hown hts hH (c_X10_turning oI oR mx kx) hl.1 mx kx rfl (by decide) (Nat.le_of_ble_eq_true rfl) ⟨by decide, by decide⟩ dL_law_236 (fun y39 I39 J39 R39 H locs hp hH => ?_)
      obtain ⟨eI39, eJ39, eR39⟩ := hp
      obtain rfl : I = I39 := eI39.symm
      obtain rfl : J = J39 := eJ39.symm
      obtain rfl : R = R39 := eR39.symm
      refine lv_pop hx hb dL_law_239 rfl ?_
      refine lv_aload_n hx hb dL_law_240 rfl (lv_at hl 2 rfl) ?_
      refine lv_aload_n hx hb dL_law_241 rfl (lv_at hl 0 rfl) ?_
      refine lv_iload_n hx hb dL_law_242 rfl (lv_at hl 3 rfl) ?_
      refine lv_iconst (v := 1) hx hb dL_law_243 (by decide) ?_
      refine lv_iadd hx hb dL_law_244 ?_
      refine lv_topi (fun y40 ey40 => ?_)
      obtain rfl : y33 = y40 := ey33.trans ey40.symm
      refine va_sld hx hb hX hbl hbA hH.2.2.2.1 (sc_in ty33 hi h6 (by decide)) dL_law_245 ?_
      refine lv_topi (fun y41 ey41 => ?_)
      obtain rfl : y34 = y41 := ey34.trans ey41.symm
      refine lv_aload_n hx hb dL_law_246 rfl (lv_at hl 0 rfl) ?_
      refine lv_iload_n hx hb dL_law_247 rfl (lv_at hl 3 rfl) ?_
      refine lv_iconst (v := 2) hx hb dL_law_248 (by decide) ?_
      refine lv_iadd hx hb dL_law_249 ?_
      refine lv_topi (fun y42 ey42 => ?_)
      obtain rfl : y35 = y42 := ey35.trans ey42.symm
      refine va_sld hx hb hX hbl hbA hH.2.2.2.1 (sc_in ty35 hi h6 (by decide)) dL_law_250 ?_
      refine lv_topi (fun y43 ey43 => ?_)
      obtain rfl : y36 = y43 := ey36.trans ey43.symm
      refine lv_aload_n hx hb dL_law_251 rfl (lv_at hl 0 rfl) ?_
      refine lv_iload_n hx hb dL_law_252 rfl (lv_at hl 3 rfl) ?_
      refine lv_iconst (v := 3) hx hb dL_law_253 (by decide) ?_
      refine lv_iadd hx hb dL_law_254 ?_
      refine lv_topi (fun y44 ey44 => ?_)
      obtain rfl : y37 = y44 := ey37.trans ey44.symm
      refine va_sld hx hb hX hbl hbA hH.2.2.2.1 (sc_in ty37 hi h6 (by decide)) dL_law_255 ?_
      refine lv_topi (fun y45 ey45 => ?_)
      obtain rfl : y38 = y45 := ey38.trans ey45.symm
      refine ca_L_27 hx hb hml hown hts hH (c_X11_turning oI oR mm km) hl.1 mm km rfl (by decide) (Nat.le_of_ble_eq_true rfl) ⟨by decide, by decide⟩ dL_law_256 (fun y46 I46 J46 R46 H locs hp hH => ?_)
      obtain ⟨⟨oI, -, sc46⟩, eJ46, eR46, ry46⟩ := hp
      obtain rfl : J = J46 := eJ46.symm
      obtain rfl : R = R46 := eR46.symm
      have sm : Sm C ms_L_law (I, J, R) (I46, J, R) := sm.tr sc46 rfl
      have xm : XM L C I46 := XM.sm (u := (I, J, R)) (v := (I46, J, R)) xm sc46 rfl rfl
      have xw : XW L C I46 := XW.sm (u := (I, J, R)) (v := (I46, J, R)) xw sc46 rfl rfl
      have fr0o := fr0
      have fr0 : R x 6 = some th := (sc46 x 6 (by rw [kx]; decide)).2.2.trans fr0
      have fa1o := fa1
      have fb1o := fb1
      have fa1 : I46 th 2 = vv1 := (sc46 th 2 (by rw [kth]; decide)).1.trans fa1
      have fb1 : I46 mo 21 = vv1 := (sc46 mo 21 (by rw [km]; decide)).1.trans fb1
      refine lv_pop hx hb dL_law_259 rfl ?_
      refine lv_goto (tgt := 1244) hx hb dL_law_260 (by decide) ?_
      exact L_1244 h6 I46 J R _ _ _ hH oI oR xm xw fr0 (fa1.trans fb1.symm) (lv_sub hl [0, 1, 2, 3] rfl)
    · have r47 : Rg y4 (3) (3) := ⟨by rw [z5]; decide, by rw [z5]; decide⟩
      refine lv_tableIn (tgt := 263) hx hb dL_law_33 (by rw [z5]; decide) (by rw [z5]; decide) (by rw [z5]; rfl) (by decide) ?_
      refine lv_aload_n hx hb dL_law_263 rfl (lv_at hl 1 rfl) ?_
      refine lv_aload_n hx hb dL_law_264 rfl (lv_at hl 0 rfl) ?_
      refine lv_iload_n hx hb dL_law_265 rfl (lv_at hl 3 rfl) ?_
      refine lv_iconst (v := 1) hx hb dL_law_266 (by decide) ?_
      refine lv_iadd hx hb dL_law_267 ?_
      refine lv_topi (fun y48 ey48 => ?_)
      obtain ⟨ty48, ry48⟩ := Rg_addx (a' := (1)) (b' := (3073)) (rfl : x3.toInt = _) (by decide : Int32.toInt 1 = 1) r3 (Rg_c (x := 1) (a := (1)) (b := (1)) (by decide)) (by decide)
      rw [← ey48] at ty48 ry48
      refine va_sld hx hb hX hbl hbA hH.2.2.2.1 (sc_in ty48 hi h6 (by decide)) dL_law_268 ?_
      refine lv_topi (fun y49 ey49 => ?_)
      refine lv_aload_n hx hb dL_law_269 rfl (lv_at hl 0 rfl) ?_
      refine lv_iload_n hx hb dL_law_270 rfl (lv_at hl 3 rfl) ?_
      refine lv_iconst (v := 2) hx hb dL_law_271 (by decide) ?_
      refine lv_iadd hx hb dL_law_272 ?_
      refine lv_topi (fun y50 ey50 => ?_)
      obtain ⟨ty50, ry50⟩ := Rg_addx (a' := (2)) (b' := (3074)) (rfl : x3.toInt = _) (by decide : Int32.toInt 2 = 2) r3 (Rg_c (x := 2) (a := (2)) (b := (2)) (by decide)) (by decide)
      rw [← ey50] at ty50 ry50
      refine va_sld hx hb hX hbl hbA hH.2.2.2.1 (sc_in ty50 hi h6 (by decide)) dL_law_273 ?_
      refine lv_topi (fun y51 ey51 => ?_)
      refine lv_aload_n hx hb dL_law_274 rfl (lv_at hl 0 rfl) ?_
      refine lv_iload_n hx hb dL_law_275 rfl (lv_at hl 3 rfl) ?_
      refine lv_iconst (v := 3) hx hb dL_law_276 (by decide) ?_
      refine lv_iadd hx hb dL_law_277 ?_
      refine lv_topi (fun y52 ey52 => ?_)
      obtain ⟨ty52, ry52⟩ := Rg_addx (a' := (3)) (b' := (3075)) (rfl : x3.toInt = _) (by decide : Int32.toInt 3 = 3) r3 (Rg_c (x := 3) (a := (3)) (b := (3)) (by decide)) (by decide)
      rw [← ey52] at ty52 ry52
      refine va_sld hx hb hX hbl hbA hH.2.2.2.1 (sc_in ty52 hi h6 (by decide)) dL_law_278 ?_
      refine lv_topi (fun y53 ey53 => ?_)
      refine lv_i2l (v := y53.toInt64) hx hb dL_law_279 rfl ?_
      refine lv_bipush (v := 32) hx hb dL_law_280 (by decide) ?_
      refine lv_lshl hx hb dL_law_282 rfl ?_
      refine lv_topl (fun w54 ew54 => ?_)
      refine lv_aload_n hx hb dL_law_283 rfl (lv_at hl 0 rfl) ?_
      refine lv_iload_n hx hb dL_law_284 rfl (lv_at hl 3 rfl) ?_
      refine lv_iconst (v := 4) hx hb dL_law_285 (by decide) ?_
      refine lv_iadd hx hb dL_law_286 ?_
      refine lv_topi (fun y55 ey55 => ?_)
      obtain ⟨ty55, ry55⟩ := Rg_addx (a' := (4)) (b' := (3076)) (rfl : x3.toInt = _) (by decide : Int32.toInt 4 = 4) r3 (Rg_c (x := 4) (a := (4)) (b := (4)) (by decide)) (by decide)
      rw [← ey55] at ty55 ry55
      refine va_sld hx hb hX hbl hbA hH.2.2.2.1 (sc_in ty55 hi h6 (by decide)) dL_law_287 ?_
      refine lv_topi (fun y56 ey56 => ?_)
      refine lv_i2l (v := y56.toInt64) hx hb dL_law_288 rfl ?_
      refine lv_ldc2 (v := 4294967295) hx hb hown (hts _ kkl_L_28) dL_law_289 ?_
      refine lv_land hx hb dL_law_292 ?_
      refine lv_topl (fun w57 ew57 => ?_)
      refine lv_lor hx hb dL_law_293 ?_
      refine lv_topl (fun w58 ew58 => ?_)
      refine ca_L_30 hx hb hml hown hts hH (c_X10_turn oI oR mx kx) hl.1 mx kx rfl (by decide) (Nat.le_of_ble_eq_true rfl) ⟨by decide, by decide⟩ dL_law_294 (fun y59 I59 J59 R59 H locs hp hH => ?_)
      obtain ⟨⟨oI, -, sc59⟩, eR59, ry59⟩ := hp
      obtain rfl : R = R59 := eR59.symm
      have sm : Sm C ms_L_law (I, J, R) (I59, J59, R) := sm.tr sc59 rfl
      have xm : XM L C I59 := XM.sm (u := (I, J, R)) (v := (I59, J59, R)) xm sc59 rfl rfl
      have xw : XW L C I59 := XW.sm (u := (I, J, R)) (v := (I59, J59, R)) xw sc59 rfl rfl
      have fr0o := fr0
      have fr0 : R x 6 = some th := (sc59 x 6 (by rw [kx]; decide)).2.2.trans fr0
      have fa1o := fa1
      have fb1o := fb1
      have fa1 : I59 th 2 = vv1 := (sc59 th 2 (by rw [kth]; decide)).1.trans fa1
      have fb1 : I59 mo 21 = vv1 := (sc59 mo 21 (by rw [km]; decide)).1.trans fb1
      refine lv_pop hx hb dL_law_297 rfl ?_
      refine lv_aload_n hx hb dL_law_298 rfl (lv_at hl 2 rfl) ?_
      refine lv_aload_n hx hb dL_law_299 rfl (lv_at hl 0 rfl) ?_
      refine lv_iload_n hx hb dL_law_300 rfl (lv_at hl 3 rfl) ?_
      refine lv_iconst (v := 1) hx hb dL_law_301 (by decide) ?_
      refine lv_iadd hx hb dL_law_302 ?_
      refine lv_topi (fun y60 ey60 => ?_)
      obtain rfl : y48 = y60 := ey48.trans ey60.symm
      refine va_sld hx hb hX hbl hbA hH.2.2.2.1 (sc_in ty48 hi h6 (by decide)) dL_law_303 ?_
      refine lv_topi (fun y61 ey61 => ?_)
      obtain rfl : y49 = y61 := ey49.trans ey61.symm
      refine lv_aload_n hx hb dL_law_304 rfl (lv_at hl 0 rfl) ?_
      refine lv_iload_n hx hb dL_law_305 rfl (lv_at hl 3 rfl) ?_
      refine lv_iconst (v := 2) hx hb dL_law_306 (by decide) ?_
      refine lv_iadd hx hb dL_law_307 ?_
      refine lv_topi (fun y62 ey62 => ?_)
      obtain rfl : y50 = y62 := ey50.trans ey62.symm
      refine va_sld hx hb hX hbl hbA hH.2.2.2.1 (sc_in ty50 hi h6 (by decide)) dL_law_308 ?_
      refine lv_topi (fun y63 ey63 => ?_)
      obtain rfl : y51 = y63 := ey51.trans ey63.symm
      refine lv_aload_n hx hb dL_law_309 rfl (lv_at hl 0 rfl) ?_
      refine lv_iload_n hx hb dL_law_310 rfl (lv_at hl 3 rfl) ?_
      refine lv_iconst (v := 3) hx hb dL_law_311 (by decide) ?_
      refine lv_iadd hx hb dL_law_312 ?_
      refine lv_topi (fun y64 ey64 => ?_)
      obtain rfl : y52 = y64 := ey52.trans ey64.symm
      refine va_sld hx hb hX hbl hbA hH.2.2.2.1 (sc_in ty52 hi h6 (by decide)) dL_law_313 ?_
      refine lv_topi (fun y65 ey65 => ?_)
      obtain rfl : y53 = y65 := ey53.trans ey65.symm
      refine lv_i2l (v := y53.toInt64) hx hb dL_law_314 rfl ?_
      refine lv_bipush (v := 32) hx hb dL_law_315 (by decide) ?_
      refine lv_lshl hx hb dL_law_317 rfl ?_
      refine lv_topl (fun w66 ew66 => ?_)
      refine lv_aload_n hx hb dL_law_318 rfl (lv_at hl 0 rfl) ?_
      refine lv_iload_n hx hb dL_law_319 rfl (lv_at hl 3 rfl) ?_
      refine lv_iconst (v := 4) hx hb dL_law_320 (by decide) ?_
      refine lv_iadd hx hb dL_law_321 ?_
      refine lv_topi (fun y67 ey67 => ?_)
      obtain rfl : y55 = y67 := ey55.trans ey67.symm
      refine va_sld hx hb hX hbl hbA hH.2.2.2.1 (sc_in ty55 hi h6 (by decide)) dL_law_322 ?_
      refine lv_topi (fun y68 ey68 => ?_)
      obtain rfl : y56 = y68 := ey56.trans ey68.symm
      refine lv_i2l (v := y56.toInt64) hx hb dL_law_323 rfl ?_
      refine lv_ldc2 (v := 4294967295) hx hb hown (hts _ kkl_L_28) dL_law_324 ?_
      refine lv_land hx hb dL_law_327 ?_
      refine lv_topl (fun w69 ew69 => ?_)
      refine lv_lor hx hb dL_law_328 ?_
      refine lv_topl (fun w70 ew70 => ?_)
      refine ca_L_34 hx hb hml hown hts hH (c_X11_turn oI oR mm km) hl.1 mm km rfl (by decide) (Nat.le_of_ble_eq_true rfl) ⟨by decide, by decide⟩ dL_law_329 (fun y71 I71 J71 R71 H locs hp hH => ?_)
      obtain ⟨⟨oI, -, sc71⟩, eR71, ry71⟩ := hp
      obtain rfl : R = R71 := eR71.symm
      have sm : Sm C ms_L_law (I, J, R) (I71, J71, R) := sm.tr sc71 rfl
      have xm : XM L C I71 := XM.sm (u := (I59, J59, R)) (v := (I71, J71, R)) xm sc71 rfl rfl
      have xw : XW L C I71 := XW.sm (u := (I59, J59, R)) (v := (I71, J71, R)) xw sc71 rfl rfl
      have fr0o := fr0
      have fr0 : R x 6 = some th := (sc71 x 6 (by rw [kx]; decide)).2.2.trans fr0
      have fa1o := fa1
      have fb1o := fb1
      have fa1 : I71 th 2 = vv1 := (sc71 th 2 (by rw [kth]; decide)).1.trans fa1
      have fb1 : I71 mo 21 = vv1 := (sc71 mo 21 (by rw [km]; decide)).1.trans fb1
      refine lv_pop hx hb dL_law_332 rfl ?_
      refine lv_goto (tgt := 1244) hx hb dL_law_333 (by decide) ?_
      exact L_1244 h6 I71 J71 R _ _ _ hH oI oR xm xw fr0 (fa1.trans fb1.symm) (lv_sub hl [0, 1, 2, 3] rfl)
    · have r72 : Rg y4 (4) (4) := ⟨by rw [z5]; decide, by rw [z5]; decide⟩
      refine lv_tableIn (tgt := 336) hx hb dL_law_33 (by rw [z5]; decide) (by rw [z5]; decide) (by rw [z5]; rfl) (by decide) ?_
      refine lv_aload_n hx hb dL_law_336 rfl (lv_at hl 1 rfl) ?_
      refine lv_aload_n hx hb dL_law_337 rfl (lv_at hl 0 rfl) ?_
      refine lv_iload_n hx hb dL_law_338 rfl (lv_at hl 3 rfl) ?_
      refine lv_iconst (v := 1) hx hb dL_law_339 (by decide) ?_
      refine lv_iadd hx hb dL_law_340 ?_
      refine lv_topi (fun y73 ey73 => ?_)
      obtain ⟨ty73, ry73⟩ := Rg_addx (a' := (1)) (b' := (3073)) (rfl : x3.toInt = _) (by decide : Int32.toInt 1 = 1) r3 (Rg_c (x := 1) (a := (1)) (b := (1)) (by decide)) (by decide)
      rw [← ey73] at ty73 ry73
      refine va_sld hx hb hX hbl hbA hH.2.2.2.1 (sc_in ty73 hi h6 (by decide)) dL_law_341 ?_
      refine lv_topi (fun y74 ey74 => ?_)
      refine lv_aload_n hx hb dL_law_342 rfl (lv_at hl 0 rfl) ?_
      refine lv_iload_n hx hb dL_law_343 rfl (lv_at hl 3 rfl) ?_
      refine lv_iconst (v := 2) hx hb dL_law_344 (by decide) ?_
      refine lv_iadd hx hb dL_law_345 ?_
      refine lv_topi (fun y75 ey75 => ?_)
      obtain ⟨ty75, ry75⟩ := Rg_addx (a' := (2)) (b' := (3074)) (rfl : x3.toInt = _) (by decide : Int32.toInt 2 = 2) r3 (Rg_c (x := 2) (a := (2)) (b := (2)) (by decide)) (by decide)
      rw [← ey75] at ty75 ry75
      refine va_sld hx hb hX hbl hbA hH.2.2.2.1 (sc_in ty75 hi h6 (by decide)) dL_law_346 ?_
      refine lv_topi (fun y76 ey76 => ?_)
      refine lv_aload_n hx hb dL_law_347 rfl (lv_at hl 0 rfl) ?_
      refine lv_iload_n hx hb dL_law_348 rfl (lv_at hl 3 rfl) ?_
      refine lv_iconst (v := 3) hx hb dL_law_349 (by decide) ?_
      refine lv_iadd hx hb dL_law_350 ?_
      refine lv_topi (fun y77 ey77 => ?_)
      obtain ⟨ty77, ry77⟩ := Rg_addx (a' := (3)) (b' := (3075)) (rfl : x3.toInt = _) (by decide : Int32.toInt 3 = 3) r3 (Rg_c (x := 3) (a := (3)) (b := (3)) (by decide)) (by decide)
      rw [← ey77] at ty77 ry77
      refine va_sld hx hb hX hbl hbA hH.2.2.2.1 (sc_in ty77 hi h6 (by decide)) dL_law_351 ?_
      refine lv_topi (fun y78 ey78 => ?_)
      refine ca_L_35 hx hb hml hown hts hH (c_X10_ask oI oR mx kx (by exact xm)) hl.1 mx kx rfl (by decide) (Nat.le_of_ble_eq_true rfl) ⟨by decide, by decide⟩ dL_law_352 (fun y79 I79 J79 R79 H locs hp hH => ?_)
      obtain ⟨⟨oI, -, sc79⟩, eJ79, eR79, ry79, hp79⟩ := hp
      obtain rfl : J = J79 := eJ79.symm
      obtain rfl : R = R79 := eR79.symm
      have sm : Sm C ms_L_law (I, J, R) (I79, J, R) := sm.tr sc79 rfl
      have xm : XM L C I79 := hp79
      have xw : XW L C I79 := XW.sm (u := (I, J, R)) (v := (I79, J, R)) xw sc79 rfl rfl
      have fr0o := fr0
      have fr0 : R x 6 = some th := (sc79 x 6 (by rw [kx]; decide)).2.2.trans fr0
      have fa1o := fa1
      have fb1o := fb1
      have fa1 : I79 th 2 = vv1 := (sc79 th 2 (by rw [kth]; decide)).1.trans fa1
      have fb1 : I79 mo 21 = vv1 := (sc79 mo 21 (by rw [km]; decide)).1.trans fb1
      refine lv_pop hx hb dL_law_355 rfl ?_
      refine lv_aload_n hx hb dL_law_356 rfl (lv_at hl 2 rfl) ?_
      refine lv_aload_n hx hb dL_law_357 rfl (lv_at hl 0 rfl) ?_
      refine lv_iload_n hx hb dL_law_358 rfl (lv_at hl 3 rfl) ?_
      refine lv_iconst (v := 1) hx hb dL_law_359 (by decide) ?_
      refine lv_iadd hx hb dL_law_360 ?_
      refine lv_topi (fun y80 ey80 => ?_)
      obtain rfl : y73 = y80 := ey73.trans ey80.symm
      refine va_sld hx hb hX hbl hbA hH.2.2.2.1 (sc_in ty73 hi h6 (by decide)) dL_law_361 ?_
      refine lv_topi (fun y81 ey81 => ?_)
      obtain rfl : y74 = y81 := ey74.trans ey81.symm
      refine lv_aload_n hx hb dL_law_362 rfl (lv_at hl 0 rfl) ?_
      refine lv_iload_n hx hb dL_law_363 rfl (lv_at hl 3 rfl) ?_
      refine lv_iconst (v := 2) hx hb dL_law_364 (by decide) ?_
      refine lv_iadd hx hb dL_law_365 ?_
      refine lv_topi (fun y82 ey82 => ?_)
      obtain rfl : y75 = y82 := ey75.trans ey82.symm
      refine va_sld hx hb hX hbl hbA hH.2.2.2.1 (sc_in ty75 hi h6 (by decide)) dL_law_366 ?_
      refine lv_topi (fun y83 ey83 => ?_)
      obtain rfl : y76 = y83 := ey76.trans ey83.symm
      refine lv_aload_n hx hb dL_law_367 rfl (lv_at hl 0 rfl) ?_
      refine lv_iload_n hx hb dL_law_368 rfl (lv_at hl 3 rfl) ?_
      refine lv_iconst (v := 3) hx hb dL_law_369 (by decide) ?_
      refine lv_iadd hx hb dL_law_370 ?_
      refine lv_topi (fun y84 ey84 => ?_)
      obtain rfl : y77 = y84 := ey77.trans ey84.symm
      refine va_sld hx hb hX hbl hbA hH.2.2.2.1 (sc_in ty77 hi h6 (by decide)) dL_law_371 ?_
      refine lv_topi (fun y85 ey85 => ?_)
      obtain rfl : y78 = y85 := ey78.trans ey85.symm
      refine ca_L_38 hx hb hml hown hts hH (c_X11_ask oI oR mm km (by exact xw) (by exact uq)) hl.1 mm km rfl (by decide) (Nat.le_of_ble_eq_true rfl) ⟨by decide, by decide⟩ dL_law_372 (fun y86 I86 J86 R86 H locs hp hH => ?_)
      obtain ⟨⟨oI, -, sc86⟩, eJ86, eR86, ry86, hp86⟩ := hp
      obtain rfl : J = J86 := eJ86.symm
      obtain rfl : R = R86 := eR86.symm
      have sm : Sm C ms_L_law (I, J, R) (I86, J, R) := sm.tr sc86 rfl
      have xm : XM L C I86 := XM.sm (u := (I79, J, R)) (v := (I86, J, R)) xm sc86 rfl rfl
      have xw : XW L C I86 := hp86
      have fr0o := fr0
      have fr0 : R x 6 = some th := (sc86 x 6 (by rw [kx]; decide)).2.2.trans fr0
      have fa1o := fa1
      have fb1o := fb1
      have fa1 : I86 th 2 = vv1 := (sc86 th 2 (by rw [kth]; decide)).1.trans fa1
      have fb1 : I86 mo 21 = vv1 := (sc86 mo 21 (by rw [km]; decide)).1.trans fb1
      refine lv_pop hx hb dL_law_375 rfl ?_
      refine lv_goto (tgt := 1244) hx hb dL_law_376 (by decide) ?_
      exact L_1244 h6 I86 J R _ _ _ hH oI oR xm xw fr0 (fa1.trans fb1.symm) (lv_sub hl [0, 1, 2, 3] rfl)
    · have r87 : Rg y4 (5) (5) := ⟨by rw [z5]; decide, by rw [z5]; decide⟩
      refine lv_tableIn (tgt := 379) hx hb dL_law_33 (by rw [z5]; decide) (by rw [z5]; decide) (by rw [z5]; rfl) (by decide) ?_
      refine lv_aload_n hx hb dL_law_379 rfl (lv_at hl 1 rfl) ?_
      refine lv_aload_n hx hb dL_law_380 rfl (lv_at hl 0 rfl) ?_
      refine lv_iload_n hx hb dL_law_381 rfl (lv_at hl 3 rfl) ?_
      refine lv_iconst (v := 1) hx hb dL_law_382 (by decide) ?_
      refine lv_iadd hx hb dL_law_383 ?_
      refine lv_topi (fun y88 ey88 => ?_)
      obtain ⟨ty88, ry88⟩ := Rg_addx (a' := (1)) (b' := (3073)) (rfl : x3.toInt = _) (by decide : Int32.toInt 1 = 1) r3 (Rg_c (x := 1) (a := (1)) (b := (1)) (by decide)) (by decide)
      rw [← ey88] at ty88 ry88
      refine va_sld hx hb hX hbl hbA hH.2.2.2.1 (sc_in ty88 hi h6 (by decide)) dL_law_384 ?_
      refine lv_topi (fun y89 ey89 => ?_)
      refine lv_aload_n hx hb dL_law_385 rfl (lv_at hl 0 rfl) ?_
      refine lv_iload_n hx hb dL_law_386 rfl (lv_at hl 3 rfl) ?_
      refine lv_iconst (v := 2) hx hb dL_law_387 (by decide) ?_
      refine lv_iadd hx hb dL_law_388 ?_
      refine lv_topi (fun y90 ey90 => ?_)
      obtain ⟨ty90, ry90⟩ := Rg_addx (a' := (2)) (b' := (3074)) (rfl : x3.toInt = _) (by decide : Int32.toInt 2 = 2) r3 (Rg_c (x := 2) (a := (2)) (b := (2)) (by decide)) (by decide)
      rw [← ey90] at ty90 ry90
      refine va_sld hx hb hX hbl hbA hH.2.2.2.1 (sc_in ty90 hi h6 (by decide)) dL_law_389 ?_
      refine lv_topi (fun y91 ey91 => ?_)
      refine lv_aload_n hx hb dL_law_390 rfl (lv_at hl 0 rfl) ?_
      refine lv_iload_n hx hb dL_law_391 rfl (lv_at hl 3 rfl) ?_
      refine lv_iconst (v := 3) hx hb dL_law_392 (by decide) ?_
      refine lv_iadd hx hb dL_law_393 ?_
      refine lv_topi (fun y92 ey92 => ?_)
      obtain ⟨ty92, ry92⟩ := Rg_addx (a' := (3)) (b' := (3075)) (rfl : x3.toInt = _) (by decide : Int32.toInt 3 = 3) r3 (Rg_c (x := 3) (a := (3)) (b := (3)) (by decide)) (by decide)
      rw [← ey92] at ty92 ry92
      refine va_sld hx hb hX hbl hbA hH.2.2.2.1 (sc_in ty92 hi h6 (by decide)) dL_law_394 ?_
      refine lv_topi (fun y93 ey93 => ?_)
      refine ca_L_39 hx hb hml hown hts hH (c_X10_offer oI oR mx kx (by exact xm)) hl.1 mx kx rfl (by decide) (Nat.le_of_ble_eq_true rfl) ⟨by decide, by decide⟩ dL_law_395 (fun y94 I94 J94 R94 H locs hp hH => ?_)
      obtain ⟨⟨oI, -, sc94⟩, eJ94, eR94, ry94, hp94⟩ := hp
      obtain rfl : J = J94 := eJ94.symm
      obtain rfl : R = R94 := eR94.symm
      have sm : Sm C ms_L_law (I, J, R) (I94, J, R) := sm.tr sc94 rfl
      have xm : XM L C I94 := hp94
      have xw : XW L C I94 := XW.sm (u := (I, J, R)) (v := (I94, J, R)) xw sc94 rfl rfl
      have fr0o := fr0
      have fr0 : R x 6 = some th := (sc94 x 6 (by rw [kx]; decide)).2.2.trans fr0
      have fa1o := fa1
      have fb1o := fb1
      have fa1 : I94 th 2 = vv1 := (sc94 th 2 (by rw [kth]; decide)).1.trans fa1
      have fb1 : I94 mo 21 = vv1 := (sc94 mo 21 (by rw [km]; decide)).1.trans fb1
      refine lv_pop hx hb dL_law_398 rfl ?_
      refine lv_aload_n hx hb dL_law_399 rfl (lv_at hl 2 rfl) ?_
      refine lv_aload_n hx hb dL_law_400 rfl (lv_at hl 0 rfl) ?_
      refine lv_iload_n hx hb dL_law_401 rfl (lv_at hl 3 rfl) ?_
      refine lv_iconst (v := 1) hx hb dL_law_402 (by decide) ?_
      refine lv_iadd hx hb dL_law_403 ?_
      refine lv_topi (fun y95 ey95 => ?_)
      obtain rfl : y88 = y95 := ey88.trans ey95.symm
      refine va_sld hx hb hX hbl hbA hH.2.2.2.1 (sc_in ty88 hi h6 (by decide)) dL_law_404 ?_
      refine lv_topi (fun y96 ey96 => ?_)
      obtain rfl : y89 = y96 := ey89.trans ey96.symm
      refine lv_aload_n hx hb dL_law_405 rfl (lv_at hl 0 rfl) ?_
      refine lv_iload_n hx hb dL_law_406 rfl (lv_at hl 3 rfl) ?_
      refine lv_iconst (v := 2) hx hb dL_law_407 (by decide) ?_
      refine lv_iadd hx hb dL_law_408 ?_
      refine lv_topi (fun y97 ey97 => ?_)
      obtain rfl : y90 = y97 := ey90.trans ey97.symm
      refine va_sld hx hb hX hbl hbA hH.2.2.2.1 (sc_in ty90 hi h6 (by decide)) dL_law_409 ?_
      refine lv_topi (fun y98 ey98 => ?_)
      obtain rfl : y91 = y98 := ey91.trans ey98.symm
      refine lv_aload_n hx hb dL_law_410 rfl (lv_at hl 0 rfl) ?_
      refine lv_iload_n hx hb dL_law_411 rfl (lv_at hl 3 rfl) ?_
      refine lv_iconst (v := 3) hx hb dL_law_412 (by decide) ?_
      refine lv_iadd hx hb dL_law_413 ?_
      refine lv_topi (fun y99 ey99 => ?_)
      obtain rfl : y92 = y99 := ey92.trans ey99.symm
      refine va_sld hx hb hX hbl hbA hH.2.2.2.1 (sc_in ty92 hi h6 (by decide)) dL_law_414 ?_
      refine lv_topi (fun y100 ey100 => ?_)
      obtain rfl : y93 = y100 := ey93.trans ey100.symm
      refine ca_L_42 hx hb hml hown hts hH (c_X11_offer oI oR mm km (by exact xw) (by exact uq)) hl.1 mm km rfl (by decide) (Nat.le_of_ble_eq_true rfl) ⟨by decide, by decide⟩ dL_law_415 (fun y101 I101 J101 R101 H locs hp hH => ?_)
      obtain ⟨⟨oI, -, sc101⟩, eJ101, eR101, ry101, hp101⟩ := hp
      obtain rfl : J = J101 := eJ101.symm
      obtain rfl : R = R101 := eR101.symm
      have sm : Sm C ms_L_law (I, J, R) (I101, J, R) := sm.tr sc101 rfl
      have xm : XM L C I101 := XM.sm (u := (I94, J, R)) (v := (I101, J, R)) xm sc101 rfl rfl
      have xw : XW L C I101 := hp101
      have fr0o := fr0
      have fr0 : R x 6 = some th := (sc101 x 6 (by rw [kx]; decide)).2.2.trans fr0
      have fa1o := fa1
      have fb1o := fb1
      have fa1 : I101 th 2 = vv1 := (sc101 th 2 (by rw [kth]; decide)).1.trans fa1
      have fb1 : I101 mo 21 = vv1 := (sc101 mo 21 (by rw [km]; decide)).1.trans fb1
      refine lv_pop hx hb dL_law_418 rfl ?_
      refine lv_goto (tgt := 1244) hx hb dL_law_419 (by decide) ?_
      exact L_1244 h6 I101 J R _ _ _ hH oI oR xm xw fr0 (fa1.trans fb1.symm) (lv_sub hl [0, 1, 2, 3] rfl)
    · have r102 : Rg y4 (6) (6) := ⟨by rw [z5]; decide, by rw [z5]; decide⟩
      refine lv_tableIn (tgt := 422) hx hb dL_law_33 (by rw [z5]; decide) (by rw [z5]; decide) (by rw [z5]; rfl) (by decide) ?_
      refine lv_aload_n hx hb dL_law_422 rfl (lv_at hl 1 rfl) ?_
      refine lv_aload_n hx hb dL_law_423 rfl (lv_at hl 0 rfl) ?_
      refine lv_iload_n hx hb dL_law_424 rfl (lv_at hl 3 rfl) ?_
      refine lv_iconst (v := 1) hx hb dL_law_425 (by decide) ?_
      refine lv_iadd hx hb dL_law_426 ?_
      refine lv_topi (fun y103 ey103 => ?_)
      obtain ⟨ty103, ry103⟩ := Rg_addx (a' := (1)) (b' := (3073)) (rfl : x3.toInt = _) (by decide : Int32.toInt 1 = 1) r3 (Rg_c (x := 1) (a := (1)) (b := (1)) (by decide)) (by decide)
      rw [← ey103] at ty103 ry103
      refine va_sld hx hb hX hbl hbA hH.2.2.2.1 (sc_in ty103 hi h6 (by decide)) dL_law_427 ?_
      refine lv_topi (fun y104 ey104 => ?_)
      refine lv_aload_n hx hb dL_law_428 rfl (lv_at hl 0 rfl) ?_
      refine lv_iload_n hx hb dL_law_429 rfl (lv_at hl 3 rfl) ?_
      refine lv_iconst (v := 2) hx hb dL_law_430 (by decide) ?_
      refine lv_iadd hx hb dL_law_431 ?_
      refine lv_topi (fun y105 ey105 => ?_)
      obtain ⟨ty105, ry105⟩ := Rg_addx (a' := (2)) (b' := (3074)) (rfl : x3.toInt = _) (by decide : Int32.toInt 2 = 2) r3 (Rg_c (x := 2) (a := (2)) (b := (2)) (by decide)) (by decide)
      rw [← ey105] at ty105 ry105
      refine va_sld hx hb hX hbl hbA hH.2.2.2.1 (sc_in ty105 hi h6 (by decide)) dL_law_432 ?_
      refine lv_topi (fun y106 ey106 => ?_)
      refine lv_aload_n hx hb dL_law_433 rfl (lv_at hl 0 rfl) ?_
      refine lv_iload_n hx hb dL_law_434 rfl (lv_at hl 3 rfl) ?_
      refine lv_iconst (v := 3) hx hb dL_law_435 (by decide) ?_
      refine lv_iadd hx hb dL_law_436 ?_
      refine lv_topi (fun y107 ey107 => ?_)
      obtain ⟨ty107, ry107⟩ := Rg_addx (a' := (3)) (b' := (3075)) (rfl : x3.toInt = _) (by decide : Int32.toInt 3 = 3) r3 (Rg_c (x := 3) (a := (3)) (b := (3)) (by decide)) (by decide)
      rw [← ey107] at ty107 ry107
      refine va_sld hx hb hX hbl hbA hH.2.2.2.1 (sc_in ty107 hi h6 (by decide)) dL_law_437 ?_
      refine lv_topi (fun y108 ey108 => ?_)
      refine lv_aload_n hx hb dL_law_438 rfl (lv_at hl 0 rfl) ?_
      refine lv_iload_n hx hb dL_law_439 rfl (lv_at hl 3 rfl) ?_
      refine lv_iconst (v := 4) hx hb dL_law_440 (by decide) ?_
      refine lv_iadd hx hb dL_law_441 ?_
      refine lv_topi (fun y109 ey109 => ?_)
      obtain ⟨ty109, ry109⟩ := Rg_addx (a' := (4)) (b' := (3076)) (rfl : x3.toInt = _) (by decide : Int32.toInt 4 = 4) r3 (Rg_c (x := 4) (a := (4)) (b := (4)) (by decide)) (by decide)
      rw [← ey109] at ty109 ry109
      refine va_sld hx hb hX hbl hbA hH.2.2.2.1 (sc_in ty109 hi h6 (by decide)) dL_law_442 ?_
      refine lv_topi (fun y110 ey110 => ?_)
      refine lv_aload_n hx hb dL_law_443 rfl (lv_at hl 0 rfl) ?_
      refine lv_iload_n hx hb dL_law_444 rfl (lv_at hl 3 rfl) ?_
      refine lv_iconst (v := 5) hx hb dL_law_445 (by decide) ?_
      refine lv_iadd hx hb dL_law_446 ?_
      refine lv_topi (fun y111 ey111 => ?_)
      obtain ⟨ty111, ry111⟩ := Rg_addx (a' := (5)) (b' := (3077)) (rfl : x3.toInt = _) (by decide : Int32.toInt 5 = 5) r3 (Rg_c (x := 5) (a := (5)) (b := (5)) (by decide)) (by decide)
      rw [← ey111] at ty111 ry111
      refine va_sld hx hb hX hbl hbA hH.2.2.2.1 (sc_in ty111 hi h6 (by decide)) dL_law_447 ?_
      refine lv_topi (fun y112 ey112 => ?_)
      refine ca_L_43 hx hb hml hown hts hH (c_X10_work oI oR mx kx (by exact xm)) hl.1 mx kx rfl (by decide) (Nat.le_of_ble_eq_true rfl) ⟨by decide, by decide⟩ dL_law_448 (fun y113 I113 J113 R113 H locs hp hH => ?_)
      obtain ⟨⟨oI, -, sc113⟩, eJ113, eR113, ry113, hp113⟩ := hp
      obtain rfl : J = J113 := eJ113.symm
      obtain rfl : R = R113 := eR113.symm
      have sm : Sm C ms_L_law (I, J, R) (I113, J, R) := sm.tr sc113 rfl
      have xm : XM L C I113 := hp113
      have xw : XW L C I113 := XW.sm (u := (I, J, R)) (v := (I113, J, R)) xw sc113 rfl rfl
      have fr0o := fr0
      have fr0 : R x 6 = some th := (sc113 x 6 (by rw [kx]; decide)).2.2.trans fr0
      have fa1o := fa1
      have fb1o := fb1
      have fa1 : I113 th 2 = vv1 := (sc113 th 2 (by rw [kth]; decide)).1.trans fa1
      have fb1 : I113 mo 21 = vv1 := (sc113 mo 21 (by rw [km]; decide)).1.trans fb1
      refine lv_pop hx hb dL_law_451 rfl ?_
      refine lv_aload_n hx hb dL_law_452 rfl (lv_at hl 2 rfl) ?_
      refine lv_aload_n hx hb dL_law_453 rfl (lv_at hl 0 rfl) ?_
      refine lv_iload_n hx hb dL_law_454 rfl (lv_at hl 3 rfl) ?_
      refine lv_iconst (v := 1) hx hb dL_law_455 (by decide) ?_
      refine lv_iadd hx hb dL_law_456 ?_
      refine lv_topi (fun y114 ey114 => ?_)
      obtain rfl : y103 = y114 := ey103.trans ey114.symm
      refine va_sld hx hb hX hbl hbA hH.2.2.2.1 (sc_in ty103 hi h6 (by decide)) dL_law_457 ?_
      refine lv_topi (fun y115 ey115 => ?_)
      obtain rfl : y104 = y115 := ey104.trans ey115.symm
      refine lv_aload_n hx hb dL_law_458 rfl (lv_at hl 0 rfl) ?_
      refine lv_iload_n hx hb dL_law_459 rfl (lv_at hl 3 rfl) ?_
      refine lv_iconst (v := 2) hx hb dL_law_460 (by decide) ?_
      refine lv_iadd hx hb dL_law_461 ?_
      refine lv_topi (fun y116 ey116 => ?_)
      obtain rfl : y105 = y116 := ey105.trans ey116.symm
      refine va_sld hx hb hX hbl hbA hH.2.2.2.1 (sc_in ty105 hi h6 (by decide)) dL_law_462 ?_
      refine lv_topi (fun y117 ey117 => ?_)
      obtain rfl : y106 = y117 := ey106.trans ey117.symm
      refine lv_aload_n hx hb dL_law_463 rfl (lv_at hl 0 rfl) ?_
      refine lv_iload_n hx hb dL_law_464 rfl (lv_at hl 3 rfl) ?_
      refine lv_iconst (v := 3) hx hb dL_law_465 (by decide) ?_
      refine lv_iadd hx hb dL_law_466 ?_
      refine lv_topi (fun y118 ey118 => ?_)
      obtain rfl : y107 = y118 := ey107.trans ey118.symm
      refine va_sld hx hb hX hbl hbA hH.2.2.2.1 (sc_in ty107 hi h6 (by decide)) dL_law_467 ?_
      refine lv_topi (fun y119 ey119 => ?_)
      obtain rfl : y108 = y119 := ey108.trans ey119.symm
      refine lv_aload_n hx hb dL_law_468 rfl (lv_at hl 0 rfl) ?_
      refine lv_iload_n hx hb dL_law_469 rfl (lv_at hl 3 rfl) ?_
      refine lv_iconst (v := 4) hx hb dL_law_470 (by decide) ?_
      refine lv_iadd hx hb dL_law_471 ?_
      refine lv_topi (fun y120 ey120 => ?_)
      obtain rfl : y109 = y120 := ey109.trans ey120.symm
      refine va_sld hx hb hX hbl hbA hH.2.2.2.1 (sc_in ty109 hi h6 (by decide)) dL_law_472 ?_
      refine lv_topi (fun y121 ey121 => ?_)
      obtain rfl : y110 = y121 := ey110.trans ey121.symm
      refine lv_aload_n hx hb dL_law_473 rfl (lv_at hl 0 rfl) ?_
      refine lv_iload_n hx hb dL_law_474 rfl (lv_at hl 3 rfl) ?_
      refine lv_iconst (v := 5) hx hb dL_law_475 (by decide) ?_
      refine lv_iadd hx hb dL_law_476 ?_
      refine lv_topi (fun y122 ey122 => ?_)
      obtain rfl : y111 = y122 := ey111.trans ey122.symm
      refine va_sld hx hb hX hbl hbA hH.2.2.2.1 (sc_in ty111 hi h6 (by decide)) dL_law_477 ?_
      refine lv_topi (fun y123 ey123 => ?_)
      obtain rfl : y112 = y123 := ey112.trans ey123.symm
      refine ca_L_47 hx hb hml hown hts hH (c_X11_work oI oR mm km (by exact xw) (by exact uq)) hl.1 mm km rfl (by decide) (Nat.le_of_ble_eq_true rfl) ⟨by decide, by decide⟩ dL_law_478 (fun y124 I124 J124 R124 H locs hp hH => ?_)
      obtain ⟨⟨oI, -, sc124⟩, eJ124, eR124, ry124, hp124⟩ := hp
      obtain rfl : J = J124 := eJ124.symm
      obtain rfl : R = R124 := eR124.symm
      have sm : Sm C ms_L_law (I, J, R) (I124, J, R) := sm.tr sc124 rfl
      have xm : XM L C I124 := XM.sm (u := (I113, J, R)) (v := (I124, J, R)) xm sc124 rfl rfl
      have xw : XW L C I124 := hp124
      have fr0o := fr0
      have fr0 : R x 6 = some th := (sc124 x 6 (by rw [kx]; decide)).2.2.trans fr0
      have fa1o := fa1
      have fb1o := fb1
      have fa1 : I124 th 2 = vv1 := (sc124 th 2 (by rw [kth]; decide)).1.trans fa1
      have fb1 : I124 mo 21 = vv1 := (sc124 mo 21 (by rw [km]; decide)).1.trans fb1
      refine lv_pop hx hb dL_law_481 rfl ?_
      refine lv_goto (tgt := 1244) hx hb dL_law_482 (by decide) ?_
      exact L_1244 h6 I124 J R _ _ _ hH oI oR xm xw fr0 (fa1.trans fb1.symm) (lv_sub hl [0, 1, 2, 3] rfl)
    · have r125 : Rg y4 (7) (7) := ⟨by rw [z5]; decide, by rw [z5]; decide⟩
      refine lv_tableIn (tgt := 485) hx hb dL_law_33 (by rw [z5]; decide) (by rw [z5]; decide) (by rw [z5]; rfl) (by decide) ?_
      refine lv_aload_n hx hb dL_law_485 rfl (lv_at hl 1 rfl) ?_
      refine lv_aload_n hx hb dL_law_486 rfl (lv_at hl 0 rfl) ?_
      refine lv_iload_n hx hb dL_law_487 rfl (lv_at hl 3 rfl) ?_
      refine lv_iconst (v := 1) hx hb dL_law_488 (by decide) ?_
      refine lv_iadd hx hb dL_law_489 ?_
      refine lv_topi (fun y126 ey126 => ?_)
      obtain ⟨ty126, ry126⟩ := Rg_addx (a' := (1)) (b' := (3073)) (rfl : x3.toInt = _) (by decide : Int32.toInt 1 = 1) r3 (Rg_c (x := 1) (a := (1)) (b := (1)) (by decide)) (by decide)
      rw [← ey126] at ty126 ry126
      refine va_sld hx hb hX hbl hbA hH.2.2.2.1 (sc_in ty126 hi h6 (by decide)) dL_law_490 ?_
      refine lv_topi (fun y127 ey127 => ?_)
      refine lv_aload_n hx hb dL_law_491 rfl (lv_at hl 0 rfl) ?_
      refine lv_iload_n hx hb dL_law_492 rfl (lv_at hl 3 rfl) ?_
      refine lv_iconst (v := 2) hx hb dL_law_493 (by decide) ?_
      refine lv_iadd hx hb dL_law_494 ?_
      refine lv_topi (fun y128 ey128 => ?_)
      obtain ⟨ty128, ry128⟩ := Rg_addx (a' := (2)) (b' := (3074)) (rfl : x3.toInt = _) (by decide : Int32.toInt 2 = 2) r3 (Rg_c (x := 2) (a := (2)) (b := (2)) (by decide)) (by decide)
      rw [← ey128] at ty128 ry128
      refine va_sld hx hb hX hbl hbA hH.2.2.2.1 (sc_in ty128 hi h6 (by decide)) dL_law_495 ?_
      refine lv_topi (fun y129 ey129 => ?_)
      refine lv_aload_n hx hb dL_law_496 rfl (lv_at hl 0 rfl) ?_
      refine lv_iload_n hx hb dL_law_497 rfl (lv_at hl 3 rfl) ?_
      refine lv_iconst (v := 3) hx hb dL_law_498 (by decide) ?_
      refine lv_iadd hx hb dL_law_499 ?_
      refine lv_topi (fun y130 ey130 => ?_)
      obtain ⟨ty130, ry130⟩ := Rg_addx (a' := (3)) (b' := (3075)) (rfl : x3.toInt = _) (by decide : Int32.toInt 3 = 3) r3 (Rg_c (x := 3) (a := (3)) (b := (3)) (by decide)) (by decide)
      rw [← ey130] at ty130 ry130
      refine va_sld hx hb hX hbl hbA hH.2.2.2.1 (sc_in ty130 hi h6 (by decide)) dL_law_500 ?_
      refine lv_topi (fun y131 ey131 => ?_)
      refine lv_aload_n hx hb dL_law_501 rfl (lv_at hl 0 rfl) ?_
      refine lv_iload_n hx hb dL_law_502 rfl (lv_at hl 3 rfl) ?_
      refine lv_iconst (v := 4) hx hb dL_law_503 (by decide) ?_
      refine lv_iadd hx hb dL_law_504 ?_
      refine lv_topi (fun y132 ey132 => ?_)
      obtain ⟨ty132, ry132⟩ := Rg_addx (a' := (4)) (b' := (3076)) (rfl : x3.toInt = _) (by decide : Int32.toInt 4 = 4) r3 (Rg_c (x := 4) (a := (4)) (b := (4)) (by decide)) (by decide)
      rw [← ey132] at ty132 ry132
      refine va_sld hx hb hX hbl hbA hH.2.2.2.1 (sc_in ty132 hi h6 (by decide)) dL_law_505 ?_
      refine lv_topi (fun y133 ey133 => ?_)
      refine ca_L_48 hx hb hml hown hts hH (c_X10_times oI oR mx kx) hl.1 mx kx rfl (by decide) (Nat.le_of_ble_eq_true rfl) ⟨by decide, by decide⟩ dL_law_506 (fun y134 I134 J134 R134 H locs hp hH => ?_)
      obtain ⟨⟨oI, -, sc134⟩, eJ134, eR134, ry134⟩ := hp
      obtain rfl : J = J134 := eJ134.symm
      obtain rfl : R = R134 := eR134.symm
      have sm : Sm C ms_L_law (I, J, R) (I134, J, R) := sm.tr sc134 rfl
      have xm : XM L C I134 := XM.sm (u := (I, J, R)) (v := (I134, J, R)) xm sc134 rfl rfl
      have xw : XW L C I134 := XW.sm (u := (I, J, R)) (v := (I134, J, R)) xw sc134 rfl rfl
      have fr0o := fr0
      have fr0 : R x 6 = some th := (sc134 x 6 (by rw [kx]; decide)).2.2.trans fr0
      have fa1o := fa1
      have fb1o := fb1
      have fa1 : I134 th 2 = vv1 := (sc134 th 2 (by rw [kth]; decide)).1.trans fa1
      have fb1 : I134 mo 21 = vv1 := (sc134 mo 21 (by rw [km]; decide)).1.trans fb1
      refine lv_pop hx hb dL_law_509 rfl ?_
      refine lv_aload_n hx hb dL_law_510 rfl (lv_at hl 2 rfl) ?_
      refine lv_aload_n hx hb dL_law_511 rfl (lv_at hl 0 rfl) ?_
      refine lv_iload_n hx hb dL_law_512 rfl (lv_at hl 3 rfl) ?_
      refine lv_iconst (v := 1) hx hb dL_law_513 (by decide) ?_
      refine lv_iadd hx hb dL_law_514 ?_
      refine lv_topi (fun y135 ey135 => ?_)
      obtain rfl : y126 = y135 := ey126.trans ey135.symm
      refine va_sld hx hb hX hbl hbA hH.2.2.2.1 (sc_in ty126 hi h6 (by decide)) dL_law_515 ?_
      refine lv_topi (fun y136 ey136 => ?_)
      obtain rfl : y127 = y136 := ey127.trans ey136.symm
      refine lv_aload_n hx hb dL_law_516 rfl (lv_at hl 0 rfl) ?_
      refine lv_iload_n hx hb dL_law_517 rfl (lv_at hl 3 rfl) ?_
      refine lv_iconst (v := 2) hx hb dL_law_518 (by decide) ?_
      refine lv_iadd hx hb dL_law_519 ?_
      refine lv_topi (fun y137 ey137 => ?_)
      obtain rfl : y128 = y137 := ey128.trans ey137.symm
      refine va_sld hx hb hX hbl hbA hH.2.2.2.1 (sc_in ty128 hi h6 (by decide)) dL_law_520 ?_
      refine lv_topi (fun y138 ey138 => ?_)
      obtain rfl : y129 = y138 := ey129.trans ey138.symm
      refine lv_aload_n hx hb dL_law_521 rfl (lv_at hl 0 rfl) ?_
      refine lv_iload_n hx hb dL_law_522 rfl (lv_at hl 3 rfl) ?_
      refine lv_iconst (v := 3) hx hb dL_law_523 (by decide) ?_
      refine lv_iadd hx hb dL_law_524 ?_
      refine lv_topi (fun y139 ey139 => ?_)
      obtain rfl : y130 = y139 := ey130.trans ey139.symm
      refine va_sld hx hb hX hbl hbA hH.2.2.2.1 (sc_in ty130 hi h6 (by decide)) dL_law_525 ?_
      refine lv_topi (fun y140 ey140 => ?_)
      obtain rfl : y131 = y140 := ey131.trans ey140.symm
      refine lv_aload_n hx hb dL_law_526 rfl (lv_at hl 0 rfl) ?_
      refine lv_iload_n hx hb dL_law_527 rfl (lv_at hl 3 rfl) ?_
      refine lv_iconst (v := 4) hx hb dL_law_528 (by decide) ?_
      refine lv_iadd hx hb dL_law_529 ?_
      refine lv_topi (fun y141 ey141 => ?_)
      obtain rfl : y132 = y141 := ey132.trans ey141.symm
      refine va_sld hx hb hX hbl hbA hH.2.2.2.1 (sc_in ty132 hi h6 (by decide)) dL_law_530 ?_
      refine lv_topi (fun y142 ey142 => ?_)
      obtain rfl : y133 = y142 := ey133.trans ey142.symm
      refine ca_L_51 hx hb hml hown hts hH (c_X11_times oI oR mm km) hl.1 mm km rfl (by decide) (Nat.le_of_ble_eq_true rfl) ⟨by decide, by decide⟩ dL_law_531 (fun y143 I143 J143 R143 H locs hp hH => ?_)
      obtain ⟨⟨oI, -, sc143⟩, eJ143, eR143, ry143⟩ := hp
      obtain rfl : J = J143 := eJ143.symm
      obtain rfl : R = R143 := eR143.symm
      have sm : Sm C ms_L_law (I, J, R) (I143, J, R) := sm.tr sc143 rfl
      have xm : XM L C I143 := XM.sm (u := (I134, J, R)) (v := (I143, J, R)) xm sc143 rfl rfl
      have xw : XW L C I143 := XW.sm (u := (I134, J, R)) (v := (I143, J, R)) xw sc143 rfl rfl
      have fr0o := fr0
      have fr0 : R x 6 = some th := (sc143 x 6 (by rw [kx]; decide)).2.2.trans fr0
      have fa1o := fa1
      have fb1o := fb1
      have fa1 : I143 th 2 = vv1 := (sc143 th 2 (by rw [kth]; decide)).1.trans fa1
      have fb1 : I143 mo 21 = vv1 := (sc143 mo 21 (by rw [km]; decide)).1.trans fb1
      refine lv_pop hx hb dL_law_534 rfl ?_
      refine lv_goto (tgt := 1244) hx hb dL_law_535 (by decide) ?_
      exact L_1244 h6 I143 J R _ _ _ hH oI oR xm xw fr0 (fa1.trans fb1.symm) (lv_sub hl [0, 1, 2, 3] rfl)
    · have r144 : Rg y4 (8) (8) := ⟨by rw [z5]; decide, by rw [z5]; decide⟩
      refine lv_tableIn (tgt := 538) hx hb dL_law_33 (by rw [z5]; decide) (by rw [z5]; decide) (by rw [z5]; rfl) (by decide) ?_
      refine lv_aload_n hx hb dL_law_538 rfl (lv_at hl 1 rfl) ?_
      refine lv_aload_n hx hb dL_law_539 rfl (lv_at hl 0 rfl) ?_
      refine lv_iload_n hx hb dL_law_540 rfl (lv_at hl 3 rfl) ?_
      refine lv_iconst (v := 1) hx hb dL_law_541 (by decide) ?_
      refine lv_iadd hx hb dL_law_542 ?_
      refine lv_topi (fun y145 ey145 => ?_)
      obtain ⟨ty145, ry145⟩ := Rg_addx (a' := (1)) (b' := (3073)) (rfl : x3.toInt = _) (by decide : Int32.toInt 1 = 1) r3 (Rg_c (x := 1) (a := (1)) (b := (1)) (by decide)) (by decide)
      rw [← ey145] at ty145 ry145
      refine va_sld hx hb hX hbl hbA hH.2.2.2.1 (sc_in ty145 hi h6 (by decide)) dL_law_543 ?_
      refine lv_topi (fun y146 ey146 => ?_)
      refine lv_if_eq (tgt := 551) hx hb dL_law_544 (by decide) (fun q147 => ?_) (fun q147 => ?_)
      · have l148 := congrArg Int32.toInt q147
        have r149 : Rg y146 (0) (0) := Rg_both (Rg_any y146) (Rg_eqv q147 (Rg_c (x := 0) (a := (0)) (b := (0)) (by decide))) (by decide)
        refine lv_iconst (v := 0) hx hb dL_law_551 (by decide) ?_
        refine lv_aload_n hx hb dL_law_552 rfl (lv_at hl 0 rfl) ?_
        refine lv_iload_n hx hb dL_law_553 rfl (lv_at hl 3 rfl) ?_
        refine lv_iconst (v := 2) hx hb dL_law_554 (by decide) ?_
        refine lv_iadd hx hb dL_law_555 ?_
        refine lv_topi (fun y150 ey150 => ?_)
        obtain ⟨ty150, ry150⟩ := Rg_addx (a' := (2)) (b' := (3074)) (rfl : x3.toInt = _) (by decide : Int32.toInt 2 = 2) r3 (Rg_c (x := 2) (a := (2)) (b := (2)) (by decide)) (by decide)
        rw [← ey150] at ty150 ry150
        refine va_sld hx hb hX hbl hbA hH.2.2.2.1 (sc_in ty150 hi h6 (by decide)) dL_law_556 ?_
        refine lv_topi (fun y151 ey151 => ?_)
        refine ca_L_52 hx hb hml hown hts hH (c_X10_strip oI oR mx kx (Rg_w (Rg_c (x := 0) (a := (0)) (b := (0)) (by decide)) (by decide))) hl.1 mx kx rfl (by decide) (Nat.le_of_ble_eq_true rfl) ⟨by decide, by decide⟩ dL_law_557 (fun y152 I152 J152 R152 H locs hp hH => ?_)
        obtain ⟨⟨oI, -, sc152⟩, eJ152, eR152, ry152⟩ := hp
        obtain rfl : J = J152 := eJ152.symm
        obtain rfl : R = R152 := eR152.symm
        have sm : Sm C ms_L_law (I, J, R) (I152, J, R) := sm.tr sc152 rfl
        have xm : XM L C I152 := XM.sm (u := (I, J, R)) (v := (I152, J, R)) xm sc152 rfl rfl
        have xw : XW L C I152 := XW.sm (u := (I, J, R)) (v := (I152, J, R)) xw sc152 rfl rfl
        have fr0o := fr0
        have fr0 : R x 6 = some th := (sc152 x 6 (by rw [kx]; decide)).2.2.trans fr0
        have fa1o := fa1
        have fb1o := fb1
        have fa1 : I152 th 2 = vv1 := (sc152 th 2 (by rw [kth]; decide)).1.trans fa1
        have fb1 : I152 mo 21 = vv1 := (sc152 mo 21 (by rw [km]; decide)).1.trans fb1
        refine lv_pop hx hb dL_law_560 rfl ?_
        refine lv_aload_n hx hb dL_law_561 rfl (lv_at hl 2 rfl) ?_
        refine lv_aload_n hx hb dL_law_562 rfl (lv_at hl 0 rfl) ?_
        refine lv_iload_n hx hb dL_law_563 rfl (lv_at hl 3 rfl) ?_
        refine lv_iconst (v := 1) hx hb dL_law_564 (by decide) ?_
        refine lv_iadd hx hb dL_law_565 ?_
        refine lv_topi (fun y153 ey153 => ?_)
        obtain rfl : y145 = y153 := ey145.trans ey153.symm
        refine va_sld hx hb hX hbl hbA hH.2.2.2.1 (sc_in ty145 hi h6 (by decide)) dL_law_566 ?_
        refine lv_topi (fun y154 ey154 => ?_)
        obtain rfl : y146 = y154 := ey146.trans ey154.symm
        refine lv_if_eq (tgt := 574) hx hb dL_law_567 (by decide) (fun q155 => ?_) (fun q155 => ?_)
        rotate_left
        · exact Rg_no (Rg_nehi r149 (Rg_ne q155) (Rg_c (x := 0) (a := (0)) (b := (0)) (by decide)) (b' := (-1)) (by decide)) (by decide)
        have l156 := congrArg Int32.toInt q155
        refine lv_iconst (v := 0) hx hb dL_law_574 (by decide) ?_
        refine lv_aload_n hx hb dL_law_575 rfl (lv_at hl 0 rfl) ?_
        refine lv_iload_n hx hb dL_law_576 rfl (lv_at hl 3 rfl) ?_
        refine lv_iconst (v := 2) hx hb dL_law_577 (by decide) ?_
        refine lv_iadd hx hb dL_law_578 ?_
        refine lv_topi (fun y157 ey157 => ?_)
        obtain rfl : y150 = y157 := ey150.trans ey157.symm
        refine va_sld hx hb hX hbl hbA hH.2.2.2.1 (sc_in ty150 hi h6 (by decide)) dL_law_579 ?_
        refine lv_topi (fun y158 ey158 => ?_)
        obtain rfl : y151 = y158 := ey151.trans ey158.symm
        refine ca_L_56 hx hb hml hown hts hH (c_X11_strip oI oR mm km (Rg_w (Rg_c (x := 0) (a := (0)) (b := (0)) (by decide)) (by decide))) hl.1 mm km rfl (by decide) (Nat.le_of_ble_eq_true rfl) ⟨by decide, by decide⟩ dL_law_580 (fun y159 I159 J159 R159 H locs hp hH => ?_)
        obtain ⟨⟨oI, -, sc159⟩, eJ159, eR159, ry159⟩ := hp
        obtain rfl : J = J159 := eJ159.symm
        obtain rfl : R = R159 := eR159.symm
        have sm : Sm C ms_L_law (I, J, R) (I159, J, R) := sm.tr sc159 rfl
        have xm : XM L C I159 := XM.sm (u := (I152, J, R)) (v := (I159, J, R)) xm sc159 rfl rfl
        have xw : XW L C I159 := XW.sm (u := (I152, J, R)) (v := (I159, J, R)) xw sc159 rfl rfl
        have fr0o := fr0
        have fr0 : R x 6 = some th := (sc159 x 6 (by rw [kx]; decide)).2.2.trans fr0
        have fa1o := fa1
        have fb1o := fb1
        have fa1 : I159 th 2 = vv1 := (sc159 th 2 (by rw [kth]; decide)).1.trans fa1
        have fb1 : I159 mo 21 = vv1 := (sc159 mo 21 (by rw [km]; decide)).1.trans fb1
        refine lv_pop hx hb dL_law_583 rfl ?_
        refine lv_goto (tgt := 1244) hx hb dL_law_584 (by decide) ?_
        exact L_1244 h6 I159 J R _ _ _ hH oI oR xm xw fr0 (fa1.trans fb1.symm) (lv_sub hl [0, 1, 2, 3] rfl)
      have l161 := Rg_ne q147
      refine lv_iconst (v := 1) hx hb dL_law_547 (by decide) ?_
      refine lv_goto (tgt := 552) hx hb dL_law_548 (by decide) ?_
      refine lv_aload_n hx hb dL_law_552 rfl (lv_at hl 0 rfl) ?_
      refine lv_iload_n hx hb dL_law_553 rfl (lv_at hl 3 rfl) ?_
      refine lv_iconst (v := 2) hx hb dL_law_554 (by decide) ?_
      refine lv_iadd hx hb dL_law_555 ?_
      refine lv_topi (fun y162 ey162 => ?_)
      obtain ⟨ty162, ry162⟩ := Rg_addx (a' := (2)) (b' := (3074)) (rfl : x3.toInt = _) (by decide : Int32.toInt 2 = 2) r3 (Rg_c (x := 2) (a := (2)) (b := (2)) (by decide)) (by decide)
      rw [← ey162] at ty162 ry162
      refine va_sld hx hb hX hbl hbA hH.2.2.2.1 (sc_in ty162 hi h6 (by decide)) dL_law_556 ?_
      refine lv_topi (fun y163 ey163 => ?_)
      refine ca_L_52 hx hb hml hown hts hH (c_X10_strip oI oR mx kx (Rg_w (Rg_c (x := 1) (a := (1)) (b := (1)) (by decide)) (by decide))) hl.1 mx kx rfl (by decide) (Nat.le_of_ble_eq_true rfl) ⟨by decide, by decide⟩ dL_law_557 (fun y164 I164 J164 R164 H locs hp hH => ?_)
      obtain ⟨⟨oI, -, sc164⟩, eJ164, eR164, ry164⟩ := hp
      obtain rfl : J = J164 := eJ164.symm
      obtain rfl : R = R164 := eR164.symm
      have sm : Sm C ms_L_law (I, J, R) (I164, J, R) := sm.tr sc164 rfl
      have xm : XM L C I164 := XM.sm (u := (I, J, R)) (v := (I164, J, R)) xm sc164 rfl rfl
      have xw : XW L C I164 := XW.sm (u := (I, J, R)) (v := (I164, J, R)) xw sc164 rfl rfl
      have fr0o := fr0
      have fr0 : R x 6 = some th := (sc164 x 6 (by rw [kx]; decide)).2.2.trans fr0
      have fa1o := fa1
      have fb1o := fb1
      have fa1 : I164 th 2 = vv1 := (sc164 th 2 (by rw [kth]; decide)).1.trans fa1
      have fb1 : I164 mo 21 = vv1 := (sc164 mo 21 (by rw [km]; decide)).1.trans fb1
      refine lv_pop hx hb dL_law_560 rfl ?_
      refine lv_aload_n hx hb dL_law_561 rfl (lv_at hl 2 rfl) ?_
      refine lv_aload_n hx hb dL_law_562 rfl (lv_at hl 0 rfl) ?_
      refine lv_iload_n hx hb dL_law_563 rfl (lv_at hl 3 rfl) ?_
      refine lv_iconst (v := 1) hx hb dL_law_564 (by decide) ?_
      refine lv_iadd hx hb dL_law_565 ?_
      refine lv_topi (fun y165 ey165 => ?_)
      obtain rfl : y145 = y165 := ey145.trans ey165.symm
      refine va_sld hx hb hX hbl hbA hH.2.2.2.1 (sc_in ty145 hi h6 (by decide)) dL_law_566 ?_
      refine lv_topi (fun y166 ey166 => ?_)
      obtain rfl : y146 = y166 := ey146.trans ey166.symm
      refine lv_if_eq (tgt := 574) hx hb dL_law_567 (by decide) (fun q167 => ?_) (fun q167 => ?_)
      · have l168 := congrArg Int32.toInt q167
        have r169 : Rg y146 (0) (0) := Rg_both (Rg_any y146) (Rg_eqv q167 (Rg_c (x := 0) (a := (0)) (b := (0)) (by decide))) (by decide)
        refine lv_iconst (v := 0) hx hb dL_law_574 (by decide) ?_
        refine lv_aload_n hx hb dL_law_575 rfl (lv_at hl 0 rfl) ?_
        refine lv_iload_n hx hb dL_law_576 rfl (lv_at hl 3 rfl) ?_
        refine lv_iconst (v := 2) hx hb dL_law_577 (by decide) ?_
        refine lv_iadd hx hb dL_law_578 ?_
        refine lv_topi (fun y170 ey170 => ?_)
        obtain rfl : y162 = y170 := ey162.trans ey170.symm
        refine va_sld hx hb hX hbl hbA hH.2.2.2.1 (sc_in ty162 hi h6 (by decide)) dL_law_579 ?_
        refine lv_topi (fun y171 ey171 => ?_)
        obtain rfl : y163 = y171 := ey163.trans ey171.symm
        refine ca_L_56 hx hb hml hown hts hH (c_X11_strip oI oR mm km (Rg_w (Rg_c (x := 0) (a := (0)) (b := (0)) (by decide)) (by decide))) hl.1 mm km rfl (by decide) (Nat.le_of_ble_eq_true rfl) ⟨by decide, by decide⟩ dL_law_580 (fun y172 I172 J172 R172 H locs hp hH => ?_)
        obtain ⟨⟨oI, -, sc172⟩, eJ172, eR172, ry172⟩ := hp
        obtain rfl : J = J172 := eJ172.symm
        obtain rfl : R = R172 := eR172.symm
        have sm : Sm C ms_L_law (I, J, R) (I172, J, R) := sm.tr sc172 rfl
        have xm : XM L C I172 := XM.sm (u := (I164, J, R)) (v := (I172, J, R)) xm sc172 rfl rfl
        have xw : XW L C I172 := XW.sm (u := (I164, J, R)) (v := (I172, J, R)) xw sc172 rfl rfl
        have fr0o := fr0
        have fr0 : R x 6 = some th := (sc172 x 6 (by rw [kx]; decide)).2.2.trans fr0
        have fa1o := fa1
        have fb1o := fb1
        have fa1 : I172 th 2 = vv1 := (sc172 th 2 (by rw [kth]; decide)).1.trans fa1
        have fb1 : I172 mo 21 = vv1 := (sc172 mo 21 (by rw [km]; decide)).1.trans fb1
        refine lv_pop hx hb dL_law_583 rfl ?_
        refine lv_goto (tgt := 1244) hx hb dL_law_584 (by decide) ?_
        exact L_1244 h6 I172 J R _ _ _ hH oI oR xm xw fr0 (fa1.trans fb1.symm) (lv_sub hl [0, 1, 2, 3] rfl)
      have l173 := Rg_ne q167
      refine lv_iconst (v := 1) hx hb dL_law_570 (by decide) ?_
      refine lv_goto (tgt := 575) hx hb dL_law_571 (by decide) ?_
      refine lv_aload_n hx hb dL_law_575 rfl (lv_at hl 0 rfl) ?_
      refine lv_iload_n hx hb dL_law_576 rfl (lv_at hl 3 rfl) ?_
      refine lv_iconst (v := 2) hx hb dL_law_577 (by decide) ?_
      refine lv_iadd hx hb dL_law_578 ?_
      refine lv_topi (fun y174 ey174 => ?_)
      obtain rfl : y162 = y174 := ey162.trans ey174.symm
      refine va_sld hx hb hX hbl hbA hH.2.2.2.1 (sc_in ty162 hi h6 (by decide)) dL_law_579 ?_
      refine lv_topi (fun y175 ey175 => ?_)
      obtain rfl : y163 = y175 := ey163.trans ey175.symm
      refine ca_L_56 hx hb hml hown hts hH (c_X11_strip oI oR mm km (Rg_w (Rg_c (x := 1) (a := (1)) (b := (1)) (by decide)) (by decide))) hl.1 mm km rfl (by decide) (Nat.le_of_ble_eq_true rfl) ⟨by decide, by decide⟩ dL_law_580 (fun y176 I176 J176 R176 H locs hp hH => ?_)
      obtain ⟨⟨oI, -, sc176⟩, eJ176, eR176, ry176⟩ := hp
      obtain rfl : J = J176 := eJ176.symm
      obtain rfl : R = R176 := eR176.symm
      have sm : Sm C ms_L_law (I, J, R) (I176, J, R) := sm.tr sc176 rfl
      have xm : XM L C I176 := XM.sm (u := (I164, J, R)) (v := (I176, J, R)) xm sc176 rfl rfl
      have xw : XW L C I176 := XW.sm (u := (I164, J, R)) (v := (I176, J, R)) xw sc176 rfl rfl
      have fr0o := fr0
      have fr0 : R x 6 = some th := (sc176 x 6 (by rw [kx]; decide)).2.2.trans fr0
      have fa1o := fa1
      have fb1o := fb1
      have fa1 : I176 th 2 = vv1 := (sc176 th 2 (by rw [kth]; decide)).1.trans fa1
      have fb1 : I176 mo 21 = vv1 := (sc176 mo 21 (by rw [km]; decide)).1.trans fb1
      refine lv_pop hx hb dL_law_583 rfl ?_
      refine lv_goto (tgt := 1244) hx hb dL_law_584 (by decide) ?_
      exact L_1244 h6 I176 J R _ _ _ hH oI oR xm xw fr0 (fa1.trans fb1.symm) (lv_sub hl [0, 1, 2, 3] rfl)
    · have r177 : Rg y4 (9) (9) := ⟨by rw [z5]; decide, by rw [z5]; decide⟩
      refine lv_tableIn (tgt := 587) hx hb dL_law_33 (by rw [z5]; decide) (by rw [z5]; decide) (by rw [z5]; rfl) (by decide) ?_
      refine lv_aload_n hx hb dL_law_587 rfl (lv_at hl 1 rfl) ?_
      refine lv_aload_n hx hb dL_law_588 rfl (lv_at hl 0 rfl) ?_
      refine lv_iload_n hx hb dL_law_589 rfl (lv_at hl 3 rfl) ?_
      refine lv_iconst (v := 1) hx hb dL_law_590 (by decide) ?_
      refine lv_iadd hx hb dL_law_591 ?_
      refine lv_topi (fun y178 ey178 => ?_)
      obtain ⟨ty178, ry178⟩ := Rg_addx (a' := (1)) (b' := (3073)) (rfl : x3.toInt = _) (by decide : Int32.toInt 1 = 1) r3 (Rg_c (x := 1) (a := (1)) (b := (1)) (by decide)) (by decide)
      rw [← ey178] at ty178 ry178
      refine va_sld hx hb hX hbl hbA hH.2.2.2.1 (sc_in ty178 hi h6 (by decide)) dL_law_592 ?_
      refine lv_topi (fun y179 ey179 => ?_)
      refine lv_aload_n hx hb dL_law_593 rfl (lv_at hl 0 rfl) ?_
      refine lv_iload_n hx hb dL_law_594 rfl (lv_at hl 3 rfl) ?_
      refine lv_iconst (v := 2) hx hb dL_law_595 (by decide) ?_
      refine lv_iadd hx hb dL_law_596 ?_
      refine lv_topi (fun y180 ey180 => ?_)
      obtain ⟨ty180, ry180⟩ := Rg_addx (a' := (2)) (b' := (3074)) (rfl : x3.toInt = _) (by decide : Int32.toInt 2 = 2) r3 (Rg_c (x := 2) (a := (2)) (b := (2)) (by decide)) (by decide)
      rw [← ey180] at ty180 ry180
      refine va_sld hx hb hX hbl hbA hH.2.2.2.1 (sc_in ty180 hi h6 (by decide)) dL_law_597 ?_
      refine lv_topi (fun y181 ey181 => ?_)
      refine lv_aload_n hx hb dL_law_598 rfl (lv_at hl 0 rfl) ?_
      refine lv_iload_n hx hb dL_law_599 rfl (lv_at hl 3 rfl) ?_
      refine lv_iconst (v := 3) hx hb dL_law_600 (by decide) ?_
      refine lv_iadd hx hb dL_law_601 ?_
      refine lv_topi (fun y182 ey182 => ?_)
      obtain ⟨ty182, ry182⟩ := Rg_addx (a' := (3)) (b' := (3075)) (rfl : x3.toInt = _) (by decide : Int32.toInt 3 = 3) r3 (Rg_c (x := 3) (a := (3)) (b := (3)) (by decide)) (by decide)
      rw [← ey182] at ty182 ry182
      refine va_sld hx hb hX hbl hbA hH.2.2.2.1 (sc_in ty182 hi h6 (by decide)) dL_law_602 ?_
      refine lv_topi (fun y183 ey183 => ?_)
      refine lv_if_eq (tgt := 610) hx hb dL_law_603 (by decide) (fun q184 => ?_) (fun q184 => ?_)
      · have l185 := congrArg Int32.toInt q184
        have r186 : Rg y183 (0) (0) := Rg_both (Rg_any y183) (Rg_eqv q184 (Rg_c (x := 0) (a := (0)) (b := (0)) (by decide))) (by decide)
        refine lv_iconst (v := 0) hx hb dL_law_610 (by decide) ?_
        refine ca_L_57 hx hb hml hown hts hH (c_X10_alias oI oR mx kx (Rg_w (Rg_c (x := 0) (a := (0)) (b := (0)) (by decide)) (by decide))) hl.1 mx kx rfl (by decide) (Nat.le_of_ble_eq_true rfl) ⟨by decide, by decide⟩ dL_law_611 (fun y187 I187 J187 R187 H locs hp hH => ?_)
        obtain ⟨⟨oI, -, sc187⟩, eJ187, eR187, ry187⟩ := hp
        obtain rfl : J = J187 := eJ187.symm
        obtain rfl : R = R187 := eR187.symm
        have sm : Sm C ms_L_law (I, J, R) (I187, J, R) := sm.tr sc187 rfl
        have xm : XM L C I187 := XM.sm (u := (I, J, R)) (v := (I187, J, R)) xm sc187 rfl rfl
        have xw : XW L C I187 := XW.sm (u := (I, J, R)) (v := (I187, J, R)) xw sc187 rfl rfl
        have fr0o := fr0
        have fr0 : R x 6 = some th := (sc187 x 6 (by rw [kx]; decide)).2.2.trans fr0
        have fa1o := fa1
        have fb1o := fb1
        have fa1 : I187 th 2 = vv1 := (sc187 th 2 (by rw [kth]; decide)).1.trans fa1
        have fb1 : I187 mo 21 = vv1 := (sc187 mo 21 (by rw [km]; decide)).1.trans fb1
        refine lv_pop hx hb dL_law_614 rfl ?_
        refine lv_aload_n hx hb dL_law_615 rfl (lv_at hl 2 rfl) ?_
        refine lv_aload_n hx hb dL_law_616 rfl (lv_at hl 0 rfl) ?_
        refine lv_iload_n hx hb dL_law_617 rfl (lv_at hl 3 rfl) ?_
        refine lv_iconst (v := 1) hx hb dL_law_618 (by decide) ?_
        refine lv_iadd hx hb dL_law_619 ?_
        refine lv_topi (fun y188 ey188 => ?_)
        obtain rfl : y178 = y188 := ey178.trans ey188.symm
        refine va_sld hx hb hX hbl hbA hH.2.2.2.1 (sc_in ty178 hi h6 (by decide)) dL_law_620 ?_
        refine lv_topi (fun y189 ey189 => ?_)
        obtain rfl : y179 = y189 := ey179.trans ey189.symm
        refine lv_aload_n hx hb dL_law_621 rfl (lv_at hl 0 rfl) ?_
        refine lv_iload_n hx hb dL_law_622 rfl (lv_at hl 3 rfl) ?_
        refine lv_iconst (v := 2) hx hb dL_law_623 (by decide) ?_
        refine lv_iadd hx hb dL_law_624 ?_
        refine lv_topi (fun y190 ey190 => ?_)
        obtain rfl : y180 = y190 := ey180.trans ey190.symm
        refine va_sld hx hb hX hbl hbA hH.2.2.2.1 (sc_in ty180 hi h6 (by decide)) dL_law_625 ?_
        refine lv_topi (fun y191 ey191 => ?_)
        obtain rfl : y181 = y191 := ey181.trans ey191.symm
        refine lv_aload_n hx hb dL_law_626 rfl (lv_at hl 0 rfl) ?_
        refine lv_iload_n hx hb dL_law_627 rfl (lv_at hl 3 rfl) ?_
        refine lv_iconst (v := 3) hx hb dL_law_628 (by decide) ?_
        refine lv_iadd hx hb dL_law_629 ?_
        refine lv_topi (fun y192 ey192 => ?_)
        obtain rfl : y182 = y192 := ey182.trans ey192.symm
        refine va_sld hx hb hX hbl hbA hH.2.2.2.1 (sc_in ty182 hi h6 (by decide)) dL_law_630 ?_
        refine lv_topi (fun y193 ey193 => ?_)
        obtain rfl : y183 = y193 := ey183.trans ey193.symm
        refine lv_if_eq (tgt := 638) hx hb dL_law_631 (by decide) (fun q194 => ?_) (fun q194 => ?_)
        rotate_left
        · exact Rg_no (Rg_nehi r186 (Rg_ne q194) (Rg_c (x := 0) (a := (0)) (b := (0)) (by decide)) (b' := (-1)) (by decide)) (by decide)
        have l195 := congrArg Int32.toInt q194
        refine lv_iconst (v := 0) hx hb dL_law_638 (by decide) ?_
        refine ca_L_61 hx hb hml hown hts hH (c_X11_alias oI oR mm km (Rg_w (Rg_c (x := 0) (a := (0)) (b := (0)) (by decide)) (by decide))) hl.1 mm km rfl (by decide) (Nat.le_of_ble_eq_true rfl) ⟨by decide, by decide⟩ dL_law_639 (fun y196 I196 J196 R196 H locs hp hH => ?_)
        obtain ⟨⟨oI, -, sc196⟩, eJ196, eR196, ry196⟩ := hp
        obtain rfl : J = J196 := eJ196.symm
        obtain rfl : R = R196 := eR196.symm
        have sm : Sm C ms_L_law (I, J, R) (I196, J, R) := sm.tr sc196 rfl
        have xm : XM L C I196 := XM.sm (u := (I187, J, R)) (v := (I196, J, R)) xm sc196 rfl rfl
        have xw : XW L C I196 := XW.sm (u := (I187, J, R)) (v := (I196, J, R)) xw sc196 rfl rfl
        have fr0o := fr0
        have fr0 : R x 6 = some th := (sc196 x 6 (by rw [kx]; decide)).2.2.trans fr0
        have fa1o := fa1
        have fb1o := fb1
        have fa1 : I196 th 2 = vv1 := (sc196 th 2 (by rw [kth]; decide)).1.trans fa1
        have fb1 : I196 mo 21 = vv1 := (sc196 mo 21 (by rw [km]; decide)).1.trans fb1
        refine lv_pop hx hb dL_law_642 rfl ?_
        refine lv_goto (tgt := 1244) hx hb dL_law_643 (by decide) ?_
        exact L_1244 h6 I196 J R _ _ _ hH oI oR xm xw fr0 (fa1.trans fb1.symm) (lv_sub hl [0, 1, 2, 3] rfl)
      have l198 := Rg_ne q184
      refine lv_iconst (v := 1) hx hb dL_law_606 (by decide) ?_
      refine lv_goto (tgt := 611) hx hb dL_law_607 (by decide) ?_
      refine ca_L_57 hx hb hml hown hts hH (c_X10_alias oI oR mx kx (Rg_w (Rg_c (x := 1) (a := (1)) (b := (1)) (by decide)) (by decide))) hl.1 mx kx rfl (by decide) (Nat.le_of_ble_eq_true rfl) ⟨by decide, by decide⟩ dL_law_611 (fun y199 I199 J199 R199 H locs hp hH => ?_)
      obtain ⟨⟨oI, -, sc199⟩, eJ199, eR199, ry199⟩ := hp
      obtain rfl : J = J199 := eJ199.symm
      obtain rfl : R = R199 := eR199.symm
      have sm : Sm C ms_L_law (I, J, R) (I199, J, R) := sm.tr sc199 rfl
      have xm : XM L C I199 := XM.sm (u := (I, J, R)) (v := (I199, J, R)) xm sc199 rfl rfl
      have xw : XW L C I199 := XW.sm (u := (I, J, R)) (v := (I199, J, R)) xw sc199 rfl rfl
      have fr0o := fr0
      have fr0 : R x 6 = some th := (sc199 x 6 (by rw [kx]; decide)).2.2.trans fr0
      have fa1o := fa1
      have fb1o := fb1
      have fa1 : I199 th 2 = vv1 := (sc199 th 2 (by rw [kth]; decide)).1.trans fa1
      have fb1 : I199 mo 21 = vv1 := (sc199 mo 21 (by rw [km]; decide)).1.trans fb1
      refine lv_pop hx hb dL_law_614 rfl ?_
      refine lv_aload_n hx hb dL_law_615 rfl (lv_at hl 2 rfl) ?_
      refine lv_aload_n hx hb dL_law_616 rfl (lv_at hl 0 rfl) ?_
      refine lv_iload_n hx hb dL_law_617 rfl (lv_at hl 3 rfl) ?_
      refine lv_iconst (v := 1) hx hb dL_law_618 (by decide) ?_
      refine lv_iadd hx hb dL_law_619 ?_
      refine lv_topi (fun y200 ey200 => ?_)
      obtain rfl : y178 = y200 := ey178.trans ey200.symm
      refine va_sld hx hb hX hbl hbA hH.2.2.2.1 (sc_in ty178 hi h6 (by decide)) dL_law_620 ?_
      refine lv_topi (fun y201 ey201 => ?_)
      obtain rfl : y179 = y201 := ey179.trans ey201.symm
      refine lv_aload_n hx hb dL_law_621 rfl (lv_at hl 0 rfl) ?_
      refine lv_iload_n hx hb dL_law_622 rfl (lv_at hl 3 rfl) ?_
      refine lv_iconst (v := 2) hx hb dL_law_623 (by decide) ?_
      refine lv_iadd hx hb dL_law_624 ?_
      refine lv_topi (fun y202 ey202 => ?_)
      obtain rfl : y180 = y202 := ey180.trans ey202.symm
      refine va_sld hx hb hX hbl hbA hH.2.2.2.1 (sc_in ty180 hi h6 (by decide)) dL_law_625 ?_
      refine lv_topi (fun y203 ey203 => ?_)
      obtain rfl : y181 = y203 := ey181.trans ey203.symm
      refine lv_aload_n hx hb dL_law_626 rfl (lv_at hl 0 rfl) ?_
      refine lv_iload_n hx hb dL_law_627 rfl (lv_at hl 3 rfl) ?_
      refine lv_iconst (v := 3) hx hb dL_law_628 (by decide) ?_
      refine lv_iadd hx hb dL_law_629 ?_
      refine lv_topi (fun y204 ey204 => ?_)
      obtain rfl : y182 = y204 := ey182.trans ey204.symm
      refine va_sld hx hb hX hbl hbA hH.2.2.2.1 (sc_in ty182 hi h6 (by decide)) dL_law_630 ?_
      refine lv_topi (fun y205 ey205 => ?_)
      obtain rfl : y183 = y205 := ey183.trans ey205.symm
      refine lv_if_eq (tgt := 638) hx hb dL_law_631 (by decide) (fun q206 => ?_) (fun q206 => ?_)
      · have l207 := congrArg Int32.toInt q206
        have r208 : Rg y183 (0) (0) := Rg_both (Rg_any y183) (Rg_eqv q206 (Rg_c (x := 0) (a := (0)) (b := (0)) (by decide))) (by decide)
        refine lv_iconst (v := 0) hx hb dL_law_638 (by decide) ?_
        refine ca_L_61 hx hb hml hown hts hH (c_X11_alias oI oR mm km (Rg_w (Rg_c (x := 0) (a := (0)) (b := (0)) (by decide)) (by decide))) hl.1 mm km rfl (by decide) (Nat.le_of_ble_eq_true rfl) ⟨by decide, by decide⟩ dL_law_639 (fun y209 I209 J209 R209 H locs hp hH => ?_)
        obtain ⟨⟨oI, -, sc209⟩, eJ209, eR209, ry209⟩ := hp
        obtain rfl : J = J209 := eJ209.symm
        obtain rfl : R = R209 := eR209.symm
        have sm : Sm C ms_L_law (I, J, R) (I209, J, R) := sm.tr sc209 rfl
        have xm : XM L C I209 := XM.sm (u := (I199, J, R)) (v := (I209, J, R)) xm sc209 rfl rfl
        have xw : XW L C I209 := XW.sm (u := (I199, J, R)) (v := (I209, J, R)) xw sc209 rfl rfl
        have fr0o := fr0
        have fr0 : R x 6 = some th := (sc209 x 6 (by rw [kx]; decide)).2.2.trans fr0
        have fa1o := fa1
        have fb1o := fb1
        have fa1 : I209 th 2 = vv1 := (sc209 th 2 (by rw [kth]; decide)).1.trans fa1
        have fb1 : I209 mo 21 = vv1 := (sc209 mo 21 (by rw [km]; decide)).1.trans fb1
        refine lv_pop hx hb dL_law_642 rfl ?_
        refine lv_goto (tgt := 1244) hx hb dL_law_643 (by decide) ?_
        exact L_1244 h6 I209 J R _ _ _ hH oI oR xm xw fr0 (fa1.trans fb1.symm) (lv_sub hl [0, 1, 2, 3] rfl)
      have l210 := Rg_ne q206
      refine lv_iconst (v := 1) hx hb dL_law_634 (by decide) ?_
      refine lv_goto (tgt := 639) hx hb dL_law_635 (by decide) ?_
      refine ca_L_61 hx hb hml hown hts hH (c_X11_alias oI oR mm km (Rg_w (Rg_c (x := 1) (a := (1)) (b := (1)) (by decide)) (by decide))) hl.1 mm km rfl (by decide) (Nat.le_of_ble_eq_true rfl) ⟨by decide, by decide⟩ dL_law_639 (fun y211 I211 J211 R211 H locs hp hH => ?_)
      obtain ⟨⟨oI, -, sc211⟩, eJ211, eR211, ry211⟩ := hp
      obtain rfl : J = J211 := eJ211.symm
      obtain rfl : R = R211 := eR211.symm
      have sm : Sm C ms_L_law (I, J, R) (I211, J, R) := sm.tr sc211 rfl
      have xm : XM L C I211 := XM.sm (u := (I199, J, R)) (v := (I211, J, R)) xm sc211 rfl rfl
      have xw : XW L C I211 := XW.sm (u := (I199, J, R)) (v := (I211, J, R)) xw sc211 rfl rfl
      have fr0o := fr0
      have fr0 : R x 6 = some th := (sc211 x 6 (by rw [kx]; decide)).2.2.trans fr0
      have fa1o := fa1
      have fb1o := fb1
      have fa1 : I211 th 2 = vv1 := (sc211 th 2 (by rw [kth]; decide)).1.trans fa1
      have fb1 : I211 mo 21 = vv1 := (sc211 mo 21 (by rw [km]; decide)).1.trans fb1
      refine lv_pop hx hb dL_law_642 rfl ?_
      refine lv_goto (tgt := 1244) hx hb dL_law_643 (by decide) ?_
      exact L_1244 h6 I211 J R _ _ _ hH oI oR xm xw fr0 (fa1.trans fb1.symm) (lv_sub hl [0, 1, 2, 3] rfl)
    · have r212 : Rg y4 (10) (10) := ⟨by rw [z5]; decide, by rw [z5]; decide⟩
      refine lv_tableIn (tgt := 646) hx hb dL_law_33 (by rw [z5]; decide) (by rw [z5]; decide) (by rw [z5]; rfl) (by decide) ?_
      refine lv_aload_n hx hb dL_law_646 rfl (lv_at hl 1 rfl) ?_
      refine lv_aload_n hx hb dL_law_647 rfl (lv_at hl 0 rfl) ?_
      refine lv_iload_n hx hb dL_law_648 rfl (lv_at hl 3 rfl) ?_
      refine lv_iconst (v := 1) hx hb dL_law_649 (by decide) ?_
      refine lv_iadd hx hb dL_law_650 ?_
      refine lv_topi (fun y213 ey213 => ?_)
      obtain ⟨ty213, ry213⟩ := Rg_addx (a' := (1)) (b' := (3073)) (rfl : x3.toInt = _) (by decide : Int32.toInt 1 = 1) r3 (Rg_c (x := 1) (a := (1)) (b := (1)) (by decide)) (by decide)
      rw [← ey213] at ty213 ry213
      refine va_sld hx hb hX hbl hbA hH.2.2.2.1 (sc_in ty213 hi h6 (by decide)) dL_law_651 ?_
      refine lv_topi (fun y214 ey214 => ?_)
      refine lv_aload_n hx hb dL_law_652 rfl (lv_at hl 0 rfl) ?_
      refine lv_iload_n hx hb dL_law_653 rfl (lv_at hl 3 rfl) ?_
      refine lv_iconst (v := 2) hx hb dL_law_654 (by decide) ?_
      refine lv_iadd hx hb dL_law_655 ?_
      refine lv_topi (fun y215 ey215 => ?_)
      obtain ⟨ty215, ry215⟩ := Rg_addx (a' := (2)) (b' := (3074)) (rfl : x3.toInt = _) (by decide : Int32.toInt 2 = 2) r3 (Rg_c (x := 2) (a := (2)) (b := (2)) (by decide)) (by decide)
      rw [← ey215] at ty215 ry215
      refine va_sld hx hb hX hbl hbA hH.2.2.2.1 (sc_in ty215 hi h6 (by decide)) dL_law_656 ?_
      refine lv_topi (fun y216 ey216 => ?_)
      refine lv_if_eq (tgt := 664) hx hb dL_law_657 (by decide) (fun q217 => ?_) (fun q217 => ?_)
      · have l218 := congrArg Int32.toInt q217
        have r219 : Rg y216 (0) (0) := Rg_both (Rg_any y216) (Rg_eqv q217 (Rg_c (x := 0) (a := (0)) (b := (0)) (by decide))) (by decide)
        refine lv_iconst (v := 0) hx hb dL_law_664 (by decide) ?_
        refine lv_aload_n hx hb dL_law_665 rfl (lv_at hl 0 rfl) ?_
        refine lv_iload_n hx hb dL_law_666 rfl (lv_at hl 3 rfl) ?_
        refine lv_iconst (v := 3) hx hb dL_law_667 (by decide) ?_
        refine lv_iadd hx hb dL_law_668 ?_
        refine lv_topi (fun y220 ey220 => ?_)
        obtain ⟨ty220, ry220⟩ := Rg_addx (a' := (3)) (b' := (3075)) (rfl : x3.toInt = _) (by decide : Int32.toInt 3 = 3) r3 (Rg_c (x := 3) (a := (3)) (b := (3)) (by decide)) (by decide)
        rw [← ey220] at ty220 ry220
        refine va_sld hx hb hX hbl hbA hH.2.2.2.1 (sc_in ty220 hi h6 (by decide)) dL_law_669 ?_
        refine lv_topi (fun y221 ey221 => ?_)
        refine lv_i2l (v := y221.toInt64) hx hb dL_law_670 rfl ?_
        refine lv_bipush (v := 32) hx hb dL_law_671 (by decide) ?_
        refine lv_lshl hx hb dL_law_673 rfl ?_
        refine lv_topl (fun w222 ew222 => ?_)
        refine lv_aload_n hx hb dL_law_674 rfl (lv_at hl 0 rfl) ?_
        refine lv_iload_n hx hb dL_law_675 rfl (lv_at hl 3 rfl) ?_
        refine lv_iconst (v := 4) hx hb dL_law_676 (by decide) ?_
        refine lv_iadd hx hb dL_law_677 ?_
        refine lv_topi (fun y223 ey223 => ?_)
        obtain ⟨ty223, ry223⟩ := Rg_addx (a' := (4)) (b' := (3076)) (rfl : x3.toInt = _) (by decide : Int32.toInt 4 = 4) r3 (Rg_c (x := 4) (a := (4)) (b := (4)) (by decide)) (by decide)
        rw [← ey223] at ty223 ry223
        refine va_sld hx hb hX hbl hbA hH.2.2.2.1 (sc_in ty223 hi h6 (by decide)) dL_law_678 ?_
        refine lv_topi (fun y224 ey224 => ?_)
        refine lv_i2l (v := y224.toInt64) hx hb dL_law_679 rfl ?_
        refine lv_ldc2 (v := 4294967295) hx hb hown (hts _ kkl_L_28) dL_law_680 ?_
        refine lv_land hx hb dL_law_683 ?_
        refine lv_topl (fun w225 ew225 => ?_)
        refine lv_lor hx hb dL_law_684 ?_
        refine lv_topl (fun w226 ew226 => ?_)
        refine ca_L_62 hx hb hml hown hts hH (c_X10_constant oI oR mx kx (Rg_w (Rg_c (x := 0) (a := (0)) (b := (0)) (by decide)) (by decide))) hl.1 mx kx rfl (by decide) (Nat.le_of_ble_eq_true rfl) ⟨by decide, by decide⟩ dL_law_685 (fun y227 I227 J227 R227 H locs hp hH => ?_)
        obtain ⟨⟨oI, -, sc227⟩, eR227, ry227⟩ := hp
        obtain rfl : R = R227 := eR227.symm
        have sm : Sm C ms_L_law (I, J, R) (I227, J227, R) := sm.tr sc227 rfl
        have xm : XM L C I227 := XM.sm (u := (I, J, R)) (v := (I227, J227, R)) xm sc227 rfl rfl
        have xw : XW L C I227 := XW.sm (u := (I, J, R)) (v := (I227, J227, R)) xw sc227 rfl rfl
        have fr0o := fr0
        have fr0 : R x 6 = some th := (sc227 x 6 (by rw [kx]; decide)).2.2.trans fr0
        have fa1o := fa1
        have fb1o := fb1
        have fa1 : I227 th 2 = vv1 := (sc227 th 2 (by rw [kth]; decide)).1.trans fa1
        have fb1 : I227 mo 21 = vv1 := (sc227 mo 21 (by rw [km]; decide)).1.trans fb1
        refine lv_pop hx hb dL_law_688 rfl ?_
        refine lv_aload_n hx hb dL_law_689 rfl (lv_at hl 2 rfl) ?_
        refine lv_aload_n hx hb dL_law_690 rfl (lv_at hl 0 rfl) ?_
        refine lv_iload_n hx hb dL_law_691 rfl (lv_at hl 3 rfl) ?_
        refine lv_iconst (v := 1) hx hb dL_law_692 (by decide) ?_
        refine lv_iadd hx hb dL_law_693 ?_
        refine lv_topi (fun y228 ey228 => ?_)
        obtain rfl : y213 = y228 := ey213.trans ey228.symm
        refine va_sld hx hb hX hbl hbA hH.2.2.2.1 (sc_in ty213 hi h6 (by decide)) dL_law_694 ?_
        refine lv_topi (fun y229 ey229 => ?_)
        obtain rfl : y214 = y229 := ey214.trans ey229.symm
        refine lv_aload_n hx hb dL_law_695 rfl (lv_at hl 0 rfl) ?_
        refine lv_iload_n hx hb dL_law_696 rfl (lv_at hl 3 rfl) ?_
        refine lv_iconst (v := 2) hx hb dL_law_697 (by decide) ?_
        refine lv_iadd hx hb dL_law_698 ?_
        refine lv_topi (fun y230 ey230 => ?_)
        obtain rfl : y215 = y230 := ey215.trans ey230.symm
        refine va_sld hx hb hX hbl hbA hH.2.2.2.1 (sc_in ty215 hi h6 (by decide)) dL_law_699 ?_
        refine lv_topi (fun y231 ey231 => ?_)
        obtain rfl : y216 = y231 := ey216.trans ey231.symm
        refine lv_if_eq (tgt := 707) hx hb dL_law_700 (by decide) (fun q232 => ?_) (fun q232 => ?_)
        rotate_left
        · exact Rg_no (Rg_nehi r219 (Rg_ne q232) (Rg_c (x := 0) (a := (0)) (b := (0)) (by decide)) (b' := (-1)) (by decide)) (by decide)
        have l233 := congrArg Int32.toInt q232
        refine lv_iconst (v := 0) hx hb dL_law_707 (by decide) ?_
        refine lv_aload_n hx hb dL_law_708 rfl (lv_at hl 0 rfl) ?_
        refine lv_iload_n hx hb dL_law_709 rfl (lv_at hl 3 rfl) ?_
        refine lv_iconst (v := 3) hx hb dL_law_710 (by decide) ?_
        refine lv_iadd hx hb dL_law_711 ?_
        refine lv_topi (fun y234 ey234 => ?_)
        obtain rfl : y220 = y234 := ey220.trans ey234.symm
        refine va_sld hx hb hX hbl hbA hH.2.2.2.1 (sc_in ty220 hi h6 (by decide)) dL_law_712 ?_
        refine lv_topi (fun y235 ey235 => ?_)
        obtain rfl : y221 = y235 := ey221.trans ey235.symm
        refine lv_i2l (v := y221.toInt64) hx hb dL_law_713 rfl ?_
        refine lv_bipush (v := 32) hx hb dL_law_714 (by decide) ?_
        refine lv_lshl hx hb dL_law_716 rfl ?_
        refine lv_topl (fun w236 ew236 => ?_)
        refine lv_aload_n hx hb dL_law_717 rfl (lv_at hl 0 rfl) ?_
        refine lv_iload_n hx hb dL_law_718 rfl (lv_at hl 3 rfl) ?_
        refine lv_iconst (v := 4) hx hb dL_law_719 (by decide) ?_
        refine lv_iadd hx hb dL_law_720 ?_
        refine lv_topi (fun y237 ey237 => ?_)
        obtain rfl : y223 = y237 := ey223.trans ey237.symm
        refine va_sld hx hb hX hbl hbA hH.2.2.2.1 (sc_in ty223 hi h6 (by decide)) dL_law_721 ?_
        refine lv_topi (fun y238 ey238 => ?_)
        obtain rfl : y224 = y238 := ey224.trans ey238.symm
        refine lv_i2l (v := y224.toInt64) hx hb dL_law_722 rfl ?_
        refine lv_ldc2 (v := 4294967295) hx hb hown (hts _ kkl_L_28) dL_law_723 ?_
        refine lv_land hx hb dL_law_726 ?_
        refine lv_topl (fun w239 ew239 => ?_)
        refine lv_lor hx hb dL_law_727 ?_
        refine lv_topl (fun w240 ew240 => ?_)
        refine ca_L_66 hx hb hml hown hts hH (c_X11_constant oI oR mm km (Rg_w (Rg_c (x := 0) (a := (0)) (b := (0)) (by decide)) (by decide))) hl.1 mm km rfl (by decide) (Nat.le_of_ble_eq_true rfl) ⟨by decide, by decide⟩ dL_law_728 (fun y241 I241 J241 R241 H locs hp hH => ?_)
        obtain ⟨⟨oI, -, sc241⟩, eR241, ry241⟩ := hp
        obtain rfl : R = R241 := eR241.symm
        have sm : Sm C ms_L_law (I, J, R) (I241, J241, R) := sm.tr sc241 rfl
        have xm : XM L C I241 := XM.sm (u := (I227, J227, R)) (v := (I241, J241, R)) xm sc241 rfl rfl
        have xw : XW L C I241 := XW.sm (u := (I227, J227, R)) (v := (I241, J241, R)) xw sc241 rfl rfl
        have fr0o := fr0
        have fr0 : R x 6 = some th := (sc241 x 6 (by rw [kx]; decide)).2.2.trans fr0
        have fa1o := fa1
        have fb1o := fb1
        have fa1 : I241 th 2 = vv1 := (sc241 th 2 (by rw [kth]; decide)).1.trans fa1
        have fb1 : I241 mo 21 = vv1 := (sc241 mo 21 (by rw [km]; decide)).1.trans fb1
        refine lv_pop hx hb dL_law_731 rfl ?_
        refine lv_goto (tgt := 1244) hx hb dL_law_732 (by decide) ?_
        exact L_1244 h6 I241 J241 R _ _ _ hH oI oR xm xw fr0 (fa1.trans fb1.symm) (lv_sub hl [0, 1, 2, 3] rfl)
      have l243 := Rg_ne q217
      refine lv_iconst (v := 1) hx hb dL_law_660 (by decide) ?_
      refine lv_goto (tgt := 665) hx hb dL_law_661 (by decide) ?_
      refine lv_aload_n hx hb dL_law_665 rfl (lv_at hl 0 rfl) ?_
      refine lv_iload_n hx hb dL_law_666 rfl (lv_at hl 3 rfl) ?_
      refine lv_iconst (v := 3) hx hb dL_law_667 (by decide) ?_
      refine lv_iadd hx hb dL_law_668 ?_
      refine lv_topi (fun y244 ey244 => ?_)
      obtain ⟨ty244, ry244⟩ := Rg_addx (a' := (3)) (b' := (3075)) (rfl : x3.toInt = _) (by decide : Int32.toInt 3 = 3) r3 (Rg_c (x := 3) (a := (3)) (b := (3)) (by decide)) (by decide)
      rw [← ey244] at ty244 ry244
      refine va_sld hx hb hX hbl hbA hH.2.2.2.1 (sc_in ty244 hi h6 (by decide)) dL_law_669 ?_
      refine lv_topi (fun y245 ey245 => ?_)
      refine lv_i2l (v := y245.toInt64) hx hb dL_law_670 rfl ?_
      refine lv_bipush (v := 32) hx hb dL_law_671 (by decide) ?_
      refine lv_lshl hx hb dL_law_673 rfl ?_
      refine lv_topl (fun w246 ew246 => ?_)
      refine lv_aload_n hx hb dL_law_674 rfl (lv_at hl 0 rfl) ?_
      refine lv_iload_n hx hb dL_law_675 rfl (lv_at hl 3 rfl) ?_
      refine lv_iconst (v := 4) hx hb dL_law_676 (by decide) ?_
      refine lv_iadd hx hb dL_law_677 ?_
      refine lv_topi (fun y247 ey247 => ?_)
      obtain ⟨ty247, ry247⟩ := Rg_addx (a' := (4)) (b' := (3076)) (rfl : x3.toInt = _) (by decide : Int32.toInt 4 = 4) r3 (Rg_c (x := 4) (a := (4)) (b := (4)) (by decide)) (by decide)
      rw [← ey247] at ty247 ry247
      refine va_sld hx hb hX hbl hbA hH.2.2.2.1 (sc_in ty247 hi h6 (by decide)) dL_law_678 ?_
      refine lv_topi (fun y248 ey248 => ?_)
      refine lv_i2l (v := y248.toInt64) hx hb dL_law_679 rfl ?_
      refine lv_ldc2 (v := 4294967295) hx hb hown (hts _ kkl_L_28) dL_law_680 ?_
      refine lv_land hx hb dL_law_683 ?_
      refine lv_topl (fun w249 ew249 => ?_)
      refine lv_lor hx hb dL_law_684 ?_
      refine lv_topl (fun w250 ew250 => ?_)
      refine ca_L_62 hx hb hml hown hts hH (c_X10_constant oI oR mx kx (Rg_w (Rg_c (x := 1) (a := (1)) (b := (1)) (by decide)) (by decide))) hl.1 mx kx rfl (by decide) (Nat.le_of_ble_eq_true rfl) ⟨by decide, by decide⟩ dL_law_685 (fun y251 I251 J251 R251 H locs hp hH => ?_)
      obtain ⟨⟨oI, -, sc251⟩, eR251, ry251⟩ := hp
      obtain rfl : R = R251 := eR251.symm
      have sm : Sm C ms_L_law (I, J, R) (I251, J251, R) := sm.tr sc251 rfl
      have xm : XM L C I251 := XM.sm (u := (I, J, R)) (v := (I251, J251, R)) xm sc251 rfl rfl
      have xw : XW L C I251 := XW.sm (u := (I, J, R)) (v := (I251, J251, R)) xw sc251 rfl rfl
      have fr0o := fr0
      have fr0 : R x 6 = some th := (sc251 x 6 (by rw [kx]; decide)).2.2.trans fr0
      have fa1o := fa1
      have fb1o := fb1
      have fa1 : I251 th 2 = vv1 := (sc251 th 2 (by rw [kth]; decide)).1.trans fa1
      have fb1 : I251 mo 21 = vv1 := (sc251 mo 21 (by rw [km]; decide)).1.trans fb1
      refine lv_pop hx hb dL_law_688 rfl ?_
      refine lv_aload_n hx hb dL_law_689 rfl (lv_at hl 2 rfl) ?_
      refine lv_aload_n hx hb dL_law_690 rfl (lv_at hl 0 rfl) ?_
      refine lv_iload_n hx hb dL_law_691 rfl (lv_at hl 3 rfl) ?_
      refine lv_iconst (v := 1) hx hb dL_law_692 (by decide) ?_
      refine lv_iadd hx hb dL_law_693 ?_
      refine lv_topi (fun y252 ey252 => ?_)
      obtain rfl : y213 = y252 := ey213.trans ey252.symm
      refine va_sld hx hb hX hbl hbA hH.2.2.2.1 (sc_in ty213 hi h6 (by decide)) dL_law_694 ?_
      refine lv_topi (fun y253 ey253 => ?_)
      obtain rfl : y214 = y253 := ey214.trans ey253.symm
      refine lv_aload_n hx hb dL_law_695 rfl (lv_at hl 0 rfl) ?_
      refine lv_iload_n hx hb dL_law_696 rfl (lv_at hl 3 rfl) ?_
      refine lv_iconst (v := 2) hx hb dL_law_697 (by decide) ?_
      refine lv_iadd hx hb dL_law_698 ?_
      refine lv_topi (fun y254 ey254 => ?_)
      obtain rfl : y215 = y254 := ey215.trans ey254.symm
      refine va_sld hx hb hX hbl hbA hH.2.2.2.1 (sc_in ty215 hi h6 (by decide)) dL_law_699 ?_
      refine lv_topi (fun y255 ey255 => ?_)
      obtain rfl : y216 = y255 := ey216.trans ey255.symm
      refine lv_if_eq (tgt := 707) hx hb dL_law_700 (by decide) (fun q256 => ?_) (fun q256 => ?_)
      · have l257 := congrArg Int32.toInt q256
        have r258 : Rg y216 (0) (0) := Rg_both (Rg_any y216) (Rg_eqv q256 (Rg_c (x := 0) (a := (0)) (b := (0)) (by decide))) (by decide)
        refine lv_iconst (v := 0) hx hb dL_law_707 (by decide) ?_
        refine lv_aload_n hx hb dL_law_708 rfl (lv_at hl 0 rfl) ?_
        refine lv_iload_n hx hb dL_law_709 rfl (lv_at hl 3 rfl) ?_
        refine lv_iconst (v := 3) hx hb dL_law_710 (by decide) ?_
        refine lv_iadd hx hb dL_law_711 ?_
        refine lv_topi (fun y259 ey259 => ?_)
        obtain rfl : y244 = y259 := ey244.trans ey259.symm
        refine va_sld hx hb hX hbl hbA hH.2.2.2.1 (sc_in ty244 hi h6 (by decide)) dL_law_712 ?_
        refine lv_topi (fun y260 ey260 => ?_)
        obtain rfl : y245 = y260 := ey245.trans ey260.symm
        refine lv_i2l (v := y245.toInt64) hx hb dL_law_713 rfl ?_
        refine lv_bipush (v := 32) hx hb dL_law_714 (by decide) ?_
        refine lv_lshl hx hb dL_law_716 rfl ?_
        refine lv_topl (fun w261 ew261 => ?_)
        refine lv_aload_n hx hb dL_law_717 rfl (lv_at hl 0 rfl) ?_
        refine lv_iload_n hx hb dL_law_718 rfl (lv_at hl 3 rfl) ?_
        refine lv_iconst (v := 4) hx hb dL_law_719 (by decide) ?_
        refine lv_iadd hx hb dL_law_720 ?_
        refine lv_topi (fun y262 ey262 => ?_)
        obtain rfl : y247 = y262 := ey247.trans ey262.symm
        refine va_sld hx hb hX hbl hbA hH.2.2.2.1 (sc_in ty247 hi h6 (by decide)) dL_law_721 ?_
        refine lv_topi (fun y263 ey263 => ?_)
        obtain rfl : y248 = y263 := ey248.trans ey263.symm
        refine lv_i2l (v := y248.toInt64) hx hb dL_law_722 rfl ?_
        refine lv_ldc2 (v := 4294967295) hx hb hown (hts _ kkl_L_28) dL_law_723 ?_
        refine lv_land hx hb dL_law_726 ?_
        refine lv_topl (fun w264 ew264 => ?_)
        refine lv_lor hx hb dL_law_727 ?_
        refine lv_topl (fun w265 ew265 => ?_)
        refine ca_L_66 hx hb hml hown hts hH (c_X11_constant oI oR mm km (Rg_w (Rg_c (x := 0) (a := (0)) (b := (0)) (by decide)) (by decide))) hl.1 mm km rfl (by decide) (Nat.le_of_ble_eq_true rfl) ⟨by decide, by decide⟩ dL_law_728 (fun y266 I266 J266 R266 H locs hp hH => ?_)
        obtain ⟨⟨oI, -, sc266⟩, eR266, ry266⟩ := hp
        obtain rfl : R = R266 := eR266.symm
        have sm : Sm C ms_L_law (I, J, R) (I266, J266, R) := sm.tr sc266 rfl
        have xm : XM L C I266 := XM.sm (u := (I251, J251, R)) (v := (I266, J266, R)) xm sc266 rfl rfl
        have xw : XW L C I266 := XW.sm (u := (I251, J251, R)) (v := (I266, J266, R)) xw sc266 rfl rfl
        have fr0o := fr0
        have fr0 : R x 6 = some th := (sc266 x 6 (by rw [kx]; decide)).2.2.trans fr0
        have fa1o := fa1
        have fb1o := fb1
        have fa1 : I266 th 2 = vv1 := (sc266 th 2 (by rw [kth]; decide)).1.trans fa1
        have fb1 : I266 mo 21 = vv1 := (sc266 mo 21 (by rw [km]; decide)).1.trans fb1
        refine lv_pop hx hb dL_law_731 rfl ?_
        refine lv_goto (tgt := 1244) hx hb dL_law_732 (by decide) ?_
        exact L_1244 h6 I266 J266 R _ _ _ hH oI oR xm xw fr0 (fa1.trans fb1.symm) (lv_sub hl [0, 1, 2, 3] rfl)
      have l267 := Rg_ne q256
      refine lv_iconst (v := 1) hx hb dL_law_703 (by decide) ?_
      refine lv_goto (tgt := 708) hx hb dL_law_704 (by decide) ?_
      refine lv_aload_n hx hb dL_law_708 rfl (lv_at hl 0 rfl) ?_
      refine lv_iload_n hx hb dL_law_709 rfl (lv_at hl 3 rfl) ?_
      refine lv_iconst (v := 3) hx hb dL_law_710 (by decide) ?_
      refine lv_iadd hx hb dL_law_711 ?_
      refine lv_topi (fun y268 ey268 => ?_)
      obtain rfl : y244 = y268 := ey244.trans ey268.symm
      refine va_sld hx hb hX hbl hbA hH.2.2.2.1 (sc_in ty244 hi h6 (by decide)) dL_law_712 ?_
      refine lv_topi (fun y269 ey269 => ?_)
      obtain rfl : y245 = y269 := ey245.trans ey269.symm
      refine lv_i2l (v := y245.toInt64) hx hb dL_law_713 rfl ?_
      refine lv_bipush (v := 32) hx hb dL_law_714 (by decide) ?_
      refine lv_lshl hx hb dL_law_716 rfl ?_
      refine lv_topl (fun w270 ew270 => ?_)
      refine lv_aload_n hx hb dL_law_717 rfl (lv_at hl 0 rfl) ?_
      refine lv_iload_n hx hb dL_law_718 rfl (lv_at hl 3 rfl) ?_
      refine lv_iconst (v := 4) hx hb dL_law_719 (by decide) ?_
      refine lv_iadd hx hb dL_law_720 ?_
      refine lv_topi (fun y271 ey271 => ?_)
      obtain rfl : y247 = y271 := ey247.trans ey271.symm
      refine va_sld hx hb hX hbl hbA hH.2.2.2.1 (sc_in ty247 hi h6 (by decide)) dL_law_721 ?_
      refine lv_topi (fun y272 ey272 => ?_)
      obtain rfl : y248 = y272 := ey248.trans ey272.symm
      refine lv_i2l (v := y248.toInt64) hx hb dL_law_722 rfl ?_
      refine lv_ldc2 (v := 4294967295) hx hb hown (hts _ kkl_L_28) dL_law_723 ?_
      refine lv_land hx hb dL_law_726 ?_
      refine lv_topl (fun w273 ew273 => ?_)
      refine lv_lor hx hb dL_law_727 ?_
      refine lv_topl (fun w274 ew274 => ?_)
      refine ca_L_66 hx hb hml hown hts hH (c_X11_constant oI oR mm km (Rg_w (Rg_c (x := 1) (a := (1)) (b := (1)) (by decide)) (by decide))) hl.1 mm km rfl (by decide) (Nat.le_of_ble_eq_true rfl) ⟨by decide, by decide⟩ dL_law_728 (fun y275 I275 J275 R275 H locs hp hH => ?_)
      obtain ⟨⟨oI, -, sc275⟩, eR275, ry275⟩ := hp
      obtain rfl : R = R275 := eR275.symm
      have sm : Sm C ms_L_law (I, J, R) (I275, J275, R) := sm.tr sc275 rfl
      have xm : XM L C I275 := XM.sm (u := (I251, J251, R)) (v := (I275, J275, R)) xm sc275 rfl rfl
      have xw : XW L C I275 := XW.sm (u := (I251, J251, R)) (v := (I275, J275, R)) xw sc275 rfl rfl
      have fr0o := fr0
      have fr0 : R x 6 = some th := (sc275 x 6 (by rw [kx]; decide)).2.2.trans fr0
      have fa1o := fa1
      have fb1o := fb1
      have fa1 : I275 th 2 = vv1 := (sc275 th 2 (by rw [kth]; decide)).1.trans fa1
      have fb1 : I275 mo 21 = vv1 := (sc275 mo 21 (by rw [km]; decide)).1.trans fb1
      refine lv_pop hx hb dL_law_731 rfl ?_
      refine lv_goto (tgt := 1244) hx hb dL_law_732 (by decide) ?_
      exact L_1244 h6 I275 J275 R _ _ _ hH oI oR xm xw fr0 (fa1.trans fb1.symm) (lv_sub hl [0, 1, 2, 3] rfl)
    · have r276 : Rg y4 (11) (11) := ⟨by rw [z5]; decide, by rw [z5]; decide⟩
      refine lv_tableIn (tgt := 735) hx hb dL_law_33 (by rw [z5]; decide) (by rw [z5]; decide) (by rw [z5]; rfl) (by decide) ?_
      refine lv_aload_n hx hb dL_law_735 rfl (lv_at hl 1 rfl) ?_
      refine lv_aload_n hx hb dL_law_736 rfl (lv_at hl 0 rfl) ?_
      refine lv_iload_n hx hb dL_law_737 rfl (lv_at hl 3 rfl) ?_
      refine lv_iconst (v := 1) hx hb dL_law_738 (by decide) ?_
      refine lv_iadd hx hb dL_law_739 ?_
      refine lv_topi (fun y277 ey277 => ?_)
      obtain ⟨ty277, ry277⟩ := Rg_addx (a' := (1)) (b' := (3073)) (rfl : x3.toInt = _) (by decide : Int32.toInt 1 = 1) r3 (Rg_c (x := 1) (a := (1)) (b := (1)) (by decide)) (by decide)
      rw [← ey277] at ty277 ry277
      refine va_sld hx hb hX hbl hbA hH.2.2.2.1 (sc_in ty277 hi h6 (by decide)) dL_law_740 ?_
      refine lv_topi (fun y278 ey278 => ?_)
      refine lv_aload_n hx hb dL_law_741 rfl (lv_at hl 0 rfl) ?_
      refine lv_iload_n hx hb dL_law_742 rfl (lv_at hl 3 rfl) ?_
      refine lv_iconst (v := 2) hx hb dL_law_743 (by decide) ?_
      refine lv_iadd hx hb dL_law_744 ?_
      refine lv_topi (fun y279 ey279 => ?_)
      obtain ⟨ty279, ry279⟩ := Rg_addx (a' := (2)) (b' := (3074)) (rfl : x3.toInt = _) (by decide : Int32.toInt 2 = 2) r3 (Rg_c (x := 2) (a := (2)) (b := (2)) (by decide)) (by decide)
      rw [← ey279] at ty279 ry279
      refine va_sld hx hb hX hbl hbA hH.2.2.2.1 (sc_in ty279 hi h6 (by decide)) dL_law_745 ?_
      refine lv_topi (fun y280 ey280 => ?_)
      refine lv_aload_n hx hb dL_law_746 rfl (lv_at hl 0 rfl) ?_
      refine lv_iload_n hx hb dL_law_747 rfl (lv_at hl 3 rfl) ?_
      refine lv_iconst (v := 3) hx hb dL_law_748 (by decide) ?_
      refine lv_iadd hx hb dL_law_749 ?_
      refine lv_topi (fun y281 ey281 => ?_)
      obtain ⟨ty281, ry281⟩ := Rg_addx (a' := (3)) (b' := (3075)) (rfl : x3.toInt = _) (by decide : Int32.toInt 3 = 3) r3 (Rg_c (x := 3) (a := (3)) (b := (3)) (by decide)) (by decide)
      rw [← ey281] at ty281 ry281
      refine va_sld hx hb hX hbl hbA hH.2.2.2.1 (sc_in ty281 hi h6 (by decide)) dL_law_750 ?_
      refine lv_topi (fun y282 ey282 => ?_)
      refine lv_aload_n hx hb dL_law_751 rfl (lv_at hl 0 rfl) ?_
      refine lv_iload_n hx hb dL_law_752 rfl (lv_at hl 3 rfl) ?_
      refine lv_iconst (v := 4) hx hb dL_law_753 (by decide) ?_
      refine lv_iadd hx hb dL_law_754 ?_
      refine lv_topi (fun y283 ey283 => ?_)
      obtain ⟨ty283, ry283⟩ := Rg_addx (a' := (4)) (b' := (3076)) (rfl : x3.toInt = _) (by decide : Int32.toInt 4 = 4) r3 (Rg_c (x := 4) (a := (4)) (b := (4)) (by decide)) (by decide)
      rw [← ey283] at ty283 ry283
      refine va_sld hx hb hX hbl hbA hH.2.2.2.1 (sc_in ty283 hi h6 (by decide)) dL_law_755 ?_
      refine lv_topi (fun y284 ey284 => ?_)
      refine ca_L_67 hx hb hml hown hts hH (c_X10_fit oI oR mx kx) hl.1 mx kx rfl (by decide) (Nat.le_of_ble_eq_true rfl) ⟨by decide, by decide⟩ dL_law_756 (fun y285 I285 J285 R285 H locs hp hH => ?_)
      obtain ⟨⟨oI, -, sc285⟩, eJ285, eR285⟩ := hp
      obtain rfl : J = J285 := eJ285.symm
      obtain rfl : R = R285 := eR285.symm
      have sm : Sm C ms_L_law (I, J, R) (I285, J, R) := sm.tr sc285 rfl
      have xm : XM L C I285 := XM.sm (u := (I, J, R)) (v := (I285, J, R)) xm sc285 rfl rfl
      have xw : XW L C I285 := XW.sm (u := (I, J, R)) (v := (I285, J, R)) xw sc285 rfl rfl
      have fr0o := fr0
      have fr0 : R x 6 = some th := (sc285 x 6 (by rw [kx]; decide)).2.2.trans fr0
      have fa1o := fa1
      have fb1o := fb1
      have fa1 : I285 th 2 = vv1 := (sc285 th 2 (by rw [kth]; decide)).1.trans fa1
      have fb1 : I285 mo 21 = vv1 := (sc285 mo 21 (by rw [km]; decide)).1.trans fb1
      refine lv_pop hx hb dL_law_759 rfl ?_
      refine lv_aload_n hx hb dL_law_760 rfl (lv_at hl 2 rfl) ?_
      refine lv_aload_n hx hb dL_law_761 rfl (lv_at hl 0 rfl) ?_
      refine lv_iload_n hx hb dL_law_762 rfl (lv_at hl 3 rfl) ?_
      refine lv_iconst (v := 1) hx hb dL_law_763 (by decide) ?_
      refine lv_iadd hx hb dL_law_764 ?_
      refine lv_topi (fun y286 ey286 => ?_)
      obtain rfl : y277 = y286 := ey277.trans ey286.symm
      refine va_sld hx hb hX hbl hbA hH.2.2.2.1 (sc_in ty277 hi h6 (by decide)) dL_law_765 ?_
      refine lv_topi (fun y287 ey287 => ?_)
      obtain rfl : y278 = y287 := ey278.trans ey287.symm
      refine lv_aload_n hx hb dL_law_766 rfl (lv_at hl 0 rfl) ?_
      refine lv_iload_n hx hb dL_law_767 rfl (lv_at hl 3 rfl) ?_
      refine lv_iconst (v := 2) hx hb dL_law_768 (by decide) ?_
      refine lv_iadd hx hb dL_law_769 ?_
      refine lv_topi (fun y288 ey288 => ?_)
      obtain rfl : y279 = y288 := ey279.trans ey288.symm
      refine va_sld hx hb hX hbl hbA hH.2.2.2.1 (sc_in ty279 hi h6 (by decide)) dL_law_770 ?_
      refine lv_topi (fun y289 ey289 => ?_)
      obtain rfl : y280 = y289 := ey280.trans ey289.symm
      refine lv_aload_n hx hb dL_law_771 rfl (lv_at hl 0 rfl) ?_
      refine lv_iload_n hx hb dL_law_772 rfl (lv_at hl 3 rfl) ?_
      refine lv_iconst (v := 3) hx hb dL_law_773 (by decide) ?_
      refine lv_iadd hx hb dL_law_774 ?_
      refine lv_topi (fun y290 ey290 => ?_)
      obtain rfl : y281 = y290 := ey281.trans ey290.symm
      refine va_sld hx hb hX hbl hbA hH.2.2.2.1 (sc_in ty281 hi h6 (by decide)) dL_law_775 ?_
      refine lv_topi (fun y291 ey291 => ?_)
      obtain rfl : y282 = y291 := ey282.trans ey291.symm
      refine lv_aload_n hx hb dL_law_776 rfl (lv_at hl 0 rfl) ?_
      refine lv_iload_n hx hb dL_law_777 rfl (lv_at hl 3 rfl) ?_
      refine lv_iconst (v := 4) hx hb dL_law_778 (by decide) ?_
      refine lv_iadd hx hb dL_law_779 ?_
      refine lv_topi (fun y292 ey292 => ?_)
      obtain rfl : y283 = y292 := ey283.trans ey292.symm
      refine va_sld hx hb hX hbl hbA hH.2.2.2.1 (sc_in ty283 hi h6 (by decide)) dL_law_780 ?_
      refine lv_topi (fun y293 ey293 => ?_)
      obtain rfl : y284 = y293 := ey284.trans ey293.symm
      refine ca_L_70 hx hb hml hown hts hH (c_X11_fit oI oR mm km) hl.1 mm km rfl (by decide) (Nat.le_of_ble_eq_true rfl) ⟨by decide, by decide⟩ dL_law_781 (fun y294 I294 J294 R294 H locs hp hH => ?_)
      obtain ⟨⟨oI, -, sc294⟩, eJ294, eR294⟩ := hp
      obtain rfl : J = J294 := eJ294.symm
      obtain rfl : R = R294 := eR294.symm
      have sm : Sm C ms_L_law (I, J, R) (I294, J, R) := sm.tr sc294 rfl
      have xm : XM L C I294 := XM.sm (u := (I285, J, R)) (v := (I294, J, R)) xm sc294 rfl rfl
      have xw : XW L C I294 := XW.sm (u := (I285, J, R)) (v := (I294, J, R)) xw sc294 rfl rfl
      have fr0o := fr0
      have fr0 : R x 6 = some th := (sc294 x 6 (by rw [kx]; decide)).2.2.trans fr0
      have fa1o := fa1
      have fb1o := fb1
      have fa1 : I294 th 2 = vv1 := (sc294 th 2 (by rw [kth]; decide)).1.trans fa1
      have fb1 : I294 mo 21 = vv1 := (sc294 mo 21 (by rw [km]; decide)).1.trans fb1
      refine lv_pop hx hb dL_law_784 rfl ?_
      refine lv_goto (tgt := 1244) hx hb dL_law_785 (by decide) ?_
      exact L_1244 h6 I294 J R _ _ _ hH oI oR xm xw fr0 (fa1.trans fb1.symm) (lv_sub hl [0, 1, 2, 3] rfl)
    · have r295 : Rg y4 (12) (12) := ⟨by rw [z5]; decide, by rw [z5]; decide⟩
      refine lv_tableIn (tgt := 788) hx hb dL_law_33 (by rw [z5]; decide) (by rw [z5]; decide) (by rw [z5]; rfl) (by decide) ?_
      refine lv_aload_n hx hb dL_law_788 rfl (lv_at hl 1 rfl) ?_
      refine lv_aload_n hx hb dL_law_789 rfl (lv_at hl 0 rfl) ?_
      refine lv_iload_n hx hb dL_law_790 rfl (lv_at hl 3 rfl) ?_
      refine lv_iconst (v := 1) hx hb dL_law_791 (by decide) ?_
      refine lv_iadd hx hb dL_law_792 ?_
      refine lv_topi (fun y296 ey296 => ?_)
      obtain ⟨ty296, ry296⟩ := Rg_addx (a' := (1)) (b' := (3073)) (rfl : x3.toInt = _) (by decide : Int32.toInt 1 = 1) r3 (Rg_c (x := 1) (a := (1)) (b := (1)) (by decide)) (by decide)
      rw [← ey296] at ty296 ry296
      refine va_sld hx hb hX hbl hbA hH.2.2.2.1 (sc_in ty296 hi h6 (by decide)) dL_law_793 ?_
      refine lv_topi (fun y297 ey297 => ?_)
      refine lv_aload_n hx hb dL_law_794 rfl (lv_at hl 0 rfl) ?_
      refine lv_iload_n hx hb dL_law_795 rfl (lv_at hl 3 rfl) ?_
      refine lv_iconst (v := 2) hx hb dL_law_796 (by decide) ?_
      refine lv_iadd hx hb dL_law_797 ?_
      refine lv_topi (fun y298 ey298 => ?_)
      obtain ⟨ty298, ry298⟩ := Rg_addx (a' := (2)) (b' := (3074)) (rfl : x3.toInt = _) (by decide : Int32.toInt 2 = 2) r3 (Rg_c (x := 2) (a := (2)) (b := (2)) (by decide)) (by decide)
      rw [← ey298] at ty298 ry298
      refine va_sld hx hb hX hbl hbA hH.2.2.2.1 (sc_in ty298 hi h6 (by decide)) dL_law_798 ?_
      refine lv_topi (fun y299 ey299 => ?_)
      refine ca_L_71 hx hb hml hown hts hH (c_X10_fits oI oR mx kx) hl.1 mx kx rfl (by decide) (Nat.le_of_ble_eq_true rfl) ⟨by decide, by decide⟩ dL_law_799 (fun y300 I300 J300 R300 H locs hp hH => ?_)
      obtain ⟨⟨oI, -, sc300⟩, eJ300, eR300⟩ := hp
      obtain rfl : J = J300 := eJ300.symm
      obtain rfl : R = R300 := eR300.symm
      have sm : Sm C ms_L_law (I, J, R) (I300, J, R) := sm.tr sc300 rfl
      have xm : XM L C I300 := XM.sm (u := (I, J, R)) (v := (I300, J, R)) xm sc300 rfl rfl
      have xw : XW L C I300 := XW.sm (u := (I, J, R)) (v := (I300, J, R)) xw sc300 rfl rfl
      have fr0o := fr0
      have fr0 : R x 6 = some th := (sc300 x 6 (by rw [kx]; decide)).2.2.trans fr0
      have fa1o := fa1
      have fb1o := fb1
      have fa1 : I300 th 2 = vv1 := (sc300 th 2 (by rw [kth]; decide)).1.trans fa1
      have fb1 : I300 mo 21 = vv1 := (sc300 mo 21 (by rw [km]; decide)).1.trans fb1
      refine lv_pop hx hb dL_law_802 rfl ?_
      refine lv_aload_n hx hb dL_law_803 rfl (lv_at hl 2 rfl) ?_
      refine lv_aload_n hx hb dL_law_804 rfl (lv_at hl 0 rfl) ?_
      refine lv_iload_n hx hb dL_law_805 rfl (lv_at hl 3 rfl) ?_
      refine lv_iconst (v := 1) hx hb dL_law_806 (by decide) ?_
      refine lv_iadd hx hb dL_law_807 ?_
      refine lv_topi (fun y301 ey301 => ?_)
      obtain rfl : y296 = y301 := ey296.trans ey301.symm
      refine va_sld hx hb hX hbl hbA hH.2.2.2.1 (sc_in ty296 hi h6 (by decide)) dL_law_808 ?_
      refine lv_topi (fun y302 ey302 => ?_)
      obtain rfl : y297 = y302 := ey297.trans ey302.symm
      refine lv_aload_n hx hb dL_law_809 rfl (lv_at hl 0 rfl) ?_
      refine lv_iload_n hx hb dL_law_810 rfl (lv_at hl 3 rfl) ?_
      refine lv_iconst (v := 2) hx hb dL_law_811 (by decide) ?_
      refine lv_iadd hx hb dL_law_812 ?_
      refine lv_topi (fun y303 ey303 => ?_)
      obtain rfl : y298 = y303 := ey298.trans ey303.symm
      refine va_sld hx hb hX hbl hbA hH.2.2.2.1 (sc_in ty298 hi h6 (by decide)) dL_law_813 ?_
      refine lv_topi (fun y304 ey304 => ?_)
      obtain rfl : y299 = y304 := ey299.trans ey304.symm
      refine ca_L_75 hx hb hml hown hts hH (c_X11_fits oI oR mm km) hl.1 mm km rfl (by decide) (Nat.le_of_ble_eq_true rfl) ⟨by decide, by decide⟩ dL_law_814 (fun y305 I305 J305 R305 H locs hp hH => ?_)
      obtain ⟨⟨oI, -, sc305⟩, eJ305, eR305, ry305⟩ := hp
      obtain rfl : J = J305 := eJ305.symm
      obtain rfl : R = R305 := eR305.symm
      have sm : Sm C ms_L_law (I, J, R) (I305, J, R) := sm.tr sc305 rfl
      have xm : XM L C I305 := XM.sm (u := (I300, J, R)) (v := (I305, J, R)) xm sc305 rfl rfl
      have xw : XW L C I305 := XW.sm (u := (I300, J, R)) (v := (I305, J, R)) xw sc305 rfl rfl
      have fr0o := fr0
      have fr0 : R x 6 = some th := (sc305 x 6 (by rw [kx]; decide)).2.2.trans fr0
      have fa1o := fa1
      have fb1o := fb1
      have fa1 : I305 th 2 = vv1 := (sc305 th 2 (by rw [kth]; decide)).1.trans fa1
      have fb1 : I305 mo 21 = vv1 := (sc305 mo 21 (by rw [km]; decide)).1.trans fb1
      refine lv_pop hx hb dL_law_817 rfl ?_
      refine lv_goto (tgt := 1244) hx hb dL_law_818 (by decide) ?_
      exact L_1244 h6 I305 J R _ _ _ hH oI oR xm xw fr0 (fa1.trans fb1.symm) (lv_sub hl [0, 1, 2, 3] rfl)
    · have r306 : Rg y4 (13) (13) := ⟨by rw [z5]; decide, by rw [z5]; decide⟩
      refine lv_tableIn (tgt := 821) hx hb dL_law_33 (by rw [z5]; decide) (by rw [z5]; decide) (by rw [z5]; rfl) (by decide) ?_
      refine lv_aload_n hx hb dL_law_821 rfl (lv_at hl 1 rfl) ?_
      refine lv_aload_n hx hb dL_law_822 rfl (lv_at hl 0 rfl) ?_
      refine lv_iload_n hx hb dL_law_823 rfl (lv_at hl 3 rfl) ?_
      refine lv_iconst (v := 1) hx hb dL_law_824 (by decide) ?_
      refine lv_iadd hx hb dL_law_825 ?_
      refine lv_topi (fun y307 ey307 => ?_)
      obtain ⟨ty307, ry307⟩ := Rg_addx (a' := (1)) (b' := (3073)) (rfl : x3.toInt = _) (by decide : Int32.toInt 1 = 1) r3 (Rg_c (x := 1) (a := (1)) (b := (1)) (by decide)) (by decide)
      rw [← ey307] at ty307 ry307
      refine va_sld hx hb hX hbl hbA hH.2.2.2.1 (sc_in ty307 hi h6 (by decide)) dL_law_826 ?_
      refine lv_topi (fun y308 ey308 => ?_)
      refine lv_aload_n hx hb dL_law_827 rfl (lv_at hl 0 rfl) ?_
      refine lv_iload_n hx hb dL_law_828 rfl (lv_at hl 3 rfl) ?_
      refine lv_iconst (v := 2) hx hb dL_law_829 (by decide) ?_
      refine lv_iadd hx hb dL_law_830 ?_
      refine lv_topi (fun y309 ey309 => ?_)
      obtain ⟨ty309, ry309⟩ := Rg_addx (a' := (2)) (b' := (3074)) (rfl : x3.toInt = _) (by decide : Int32.toInt 2 = 2) r3 (Rg_c (x := 2) (a := (2)) (b := (2)) (by decide)) (by decide)
      rw [← ey309] at ty309 ry309
      refine va_sld hx hb hX hbl hbA hH.2.2.2.1 (sc_in ty309 hi h6 (by decide)) dL_law_831 ?_
      refine lv_topi (fun y310 ey310 => ?_)
      refine ca_L_76 hx hb hml hown hts hH (c_X10_gap oI oR mx kx) hl.1 mx kx rfl (by decide) (Nat.le_of_ble_eq_true rfl) ⟨by decide, by decide⟩ dL_law_832 (fun y311 I311 J311 R311 H locs hp hH => ?_)
      obtain ⟨⟨oI, -, sc311⟩, eJ311, eR311, ry311⟩ := hp
      obtain rfl : J = J311 := eJ311.symm
      obtain rfl : R = R311 := eR311.symm
      have sm : Sm C ms_L_law (I, J, R) (I311, J, R) := sm.tr sc311 rfl
      have xm : XM L C I311 := XM.sm (u := (I, J, R)) (v := (I311, J, R)) xm sc311 rfl rfl
      have xw : XW L C I311 := XW.sm (u := (I, J, R)) (v := (I311, J, R)) xw sc311 rfl rfl
      have fr0o := fr0
      have fr0 : R x 6 = some th := (sc311 x 6 (by rw [kx]; decide)).2.2.trans fr0
      have fa1o := fa1
      have fb1o := fb1
      have fa1 : I311 th 2 = vv1 := (sc311 th 2 (by rw [kth]; decide)).1.trans fa1
      have fb1 : I311 mo 21 = vv1 := (sc311 mo 21 (by rw [km]; decide)).1.trans fb1
      refine lv_pop hx hb dL_law_835 rfl ?_
      refine lv_aload_n hx hb dL_law_836 rfl (lv_at hl 2 rfl) ?_
      refine lv_aload_n hx hb dL_law_837 rfl (lv_at hl 0 rfl) ?_
      refine lv_iload_n hx hb dL_law_838 rfl (lv_at hl 3 rfl) ?_
      refine lv_iconst (v := 1) hx hb dL_law_839 (by decide) ?_
      refine lv_iadd hx hb dL_law_840 ?_
      refine lv_topi (fun y312 ey312 => ?_)
      obtain rfl : y307 = y312 := ey307.trans ey312.symm
      refine va_sld hx hb hX hbl hbA hH.2.2.2.1 (sc_in ty307 hi h6 (by decide)) dL_law_841 ?_
      refine lv_topi (fun y313 ey313 => ?_)
      obtain rfl : y308 = y313 := ey308.trans ey313.symm
      refine lv_aload_n hx hb dL_law_842 rfl (lv_at hl 0 rfl) ?_
      refine lv_iload_n hx hb dL_law_843 rfl (lv_at hl 3 rfl) ?_
      refine lv_iconst (v := 2) hx hb dL_law_844 (by decide) ?_
      refine lv_iadd hx hb dL_law_845 ?_
      refine lv_topi (fun y314 ey314 => ?_)
      obtain rfl : y309 = y314 := ey309.trans ey314.symm
      refine va_sld hx hb hX hbl hbA hH.2.2.2.1 (sc_in ty309 hi h6 (by decide)) dL_law_846 ?_
      refine lv_topi (fun y315 ey315 => ?_)
      obtain rfl : y310 = y315 := ey310.trans ey315.symm
      refine ca_L_79 hx hb hml hown hts hH (c_X11_gap oI oR mm km) hl.1 mm km rfl (by decide) (Nat.le_of_ble_eq_true rfl) ⟨by decide, by decide⟩ dL_law_847 (fun y316 I316 J316 R316 H locs hp hH => ?_)
      obtain ⟨⟨oI, -, sc316⟩, eJ316, eR316, ry316⟩ := hp
      obtain rfl : J = J316 := eJ316.symm
      obtain rfl : R = R316 := eR316.symm
      have sm : Sm C ms_L_law (I, J, R) (I316, J, R) := sm.tr sc316 rfl
      have xm : XM L C I316 := XM.sm (u := (I311, J, R)) (v := (I316, J, R)) xm sc316 rfl rfl
      have xw : XW L C I316 := XW.sm (u := (I311, J, R)) (v := (I316, J, R)) xw sc316 rfl rfl
      have fr0o := fr0
      have fr0 : R x 6 = some th := (sc316 x 6 (by rw [kx]; decide)).2.2.trans fr0
      have fa1o := fa1
      have fb1o := fb1
      have fa1 : I316 th 2 = vv1 := (sc316 th 2 (by rw [kth]; decide)).1.trans fa1
      have fb1 : I316 mo 21 = vv1 := (sc316 mo 21 (by rw [km]; decide)).1.trans fb1
      refine lv_pop hx hb dL_law_850 rfl ?_
      refine lv_goto (tgt := 1244) hx hb dL_law_851 (by decide) ?_
      exact L_1244 h6 I316 J R _ _ _ hH oI oR xm xw fr0 (fa1.trans fb1.symm) (lv_sub hl [0, 1, 2, 3] rfl)
    · have r317 : Rg y4 (14) (14) := ⟨by rw [z5]; decide, by rw [z5]; decide⟩
      refine lv_tableIn (tgt := 854) hx hb dL_law_33 (by rw [z5]; decide) (by rw [z5]; decide) (by rw [z5]; rfl) (by decide) ?_
      refine lv_aload_n hx hb dL_law_854 rfl (lv_at hl 1 rfl) ?_
      refine lv_aload_n hx hb dL_law_855 rfl (lv_at hl 0 rfl) ?_
      refine lv_iload_n hx hb dL_law_856 rfl (lv_at hl 3 rfl) ?_
      refine lv_iconst (v := 1) hx hb dL_law_857 (by decide) ?_
      refine lv_iadd hx hb dL_law_858 ?_
      refine lv_topi (fun y318 ey318 => ?_)
      obtain ⟨ty318, ry318⟩ := Rg_addx (a' := (1)) (b' := (3073)) (rfl : x3.toInt = _) (by decide : Int32.toInt 1 = 1) r3 (Rg_c (x := 1) (a := (1)) (b := (1)) (by decide)) (by decide)
      rw [← ey318] at ty318 ry318
      refine va_sld hx hb hX hbl hbA hH.2.2.2.1 (sc_in ty318 hi h6 (by decide)) dL_law_859 ?_
      refine lv_topi (fun y319 ey319 => ?_)
      refine lv_aload_n hx hb dL_law_860 rfl (lv_at hl 0 rfl) ?_
      refine lv_iload_n hx hb dL_law_861 rfl (lv_at hl 3 rfl) ?_
      refine lv_iconst (v := 2) hx hb dL_law_862 (by decide) ?_
      refine lv_iadd hx hb dL_law_863 ?_
      refine lv_topi (fun y320 ey320 => ?_)
      obtain ⟨ty320, ry320⟩ := Rg_addx (a' := (2)) (b' := (3074)) (rfl : x3.toInt = _) (by decide : Int32.toInt 2 = 2) r3 (Rg_c (x := 2) (a := (2)) (b := (2)) (by decide)) (by decide)
      rw [← ey320] at ty320 ry320
      refine va_sld hx hb hX hbl hbA hH.2.2.2.1 (sc_in ty320 hi h6 (by decide)) dL_law_864 ?_
      refine lv_topi (fun y321 ey321 => ?_)
      refine lv_aload_n hx hb dL_law_865 rfl (lv_at hl 0 rfl) ?_
      refine lv_iload_n hx hb dL_law_866 rfl (lv_at hl 3 rfl) ?_
      refine lv_iconst (v := 3) hx hb dL_law_867 (by decide) ?_
      refine lv_iadd hx hb dL_law_868 ?_
      refine lv_topi (fun y322 ey322 => ?_)
      obtain ⟨ty322, ry322⟩ := Rg_addx (a' := (3)) (b' := (3075)) (rfl : x3.toInt = _) (by decide : Int32.toInt 3 = 3) r3 (Rg_c (x := 3) (a := (3)) (b := (3)) (by decide)) (by decide)
      rw [← ey322] at ty322 ry322
      refine va_sld hx hb hX hbl hbA hH.2.2.2.1 (sc_in ty322 hi h6 (by decide)) dL_law_869 ?_
      refine lv_topi (fun y323 ey323 => ?_)
      refine ca_L_80 hx hb hml hown hts hH (c_X10_way oI oR mx kx) hl.1 mx kx rfl (by decide) (Nat.le_of_ble_eq_true rfl) ⟨by decide, by decide⟩ dL_law_870 (fun y324 I324 J324 R324 H locs hp hH => ?_)
      obtain ⟨⟨oI, -, sc324⟩, eJ324, eR324⟩ := hp
      obtain rfl : J = J324 := eJ324.symm
      obtain rfl : R = R324 := eR324.symm
      have sm : Sm C ms_L_law (I, J, R) (I324, J, R) := sm.tr sc324 rfl
      have xm : XM L C I324 := XM.sm (u := (I, J, R)) (v := (I324, J, R)) xm sc324 rfl rfl
      have xw : XW L C I324 := XW.sm (u := (I, J, R)) (v := (I324, J, R)) xw sc324 rfl rfl
      have fr0o := fr0
      have fr0 : R x 6 = some th := (sc324 x 6 (by rw [kx]; decide)).2.2.trans fr0
      have fa1o := fa1
      have fb1o := fb1
      have fa1 : I324 th 2 = vv1 := (sc324 th 2 (by rw [kth]; decide)).1.trans fa1
      have fb1 : I324 mo 21 = vv1 := (sc324 mo 21 (by rw [km]; decide)).1.trans fb1
      refine lv_pop hx hb dL_law_873 rfl ?_
      refine lv_aload_n hx hb dL_law_874 rfl (lv_at hl 2 rfl) ?_
      refine lv_aload_n hx hb dL_law_875 rfl (lv_at hl 0 rfl) ?_
      refine lv_iload_n hx hb dL_law_876 rfl (lv_at hl 3 rfl) ?_
      refine lv_iconst (v := 1) hx hb dL_law_877 (by decide) ?_
      refine lv_iadd hx hb dL_law_878 ?_
      refine lv_topi (fun y325 ey325 => ?_)
      obtain rfl : y318 = y325 := ey318.trans ey325.symm
      refine va_sld hx hb hX hbl hbA hH.2.2.2.1 (sc_in ty318 hi h6 (by decide)) dL_law_879 ?_
      refine lv_topi (fun y326 ey326 => ?_)
      obtain rfl : y319 = y326 := ey319.trans ey326.symm
      refine lv_aload_n hx hb dL_law_880 rfl (lv_at hl 0 rfl) ?_
      refine lv_iload_n hx hb dL_law_881 rfl (lv_at hl 3 rfl) ?_
      refine lv_iconst (v := 2) hx hb dL_law_882 (by decide) ?_
      refine lv_iadd hx hb dL_law_883 ?_
      refine lv_topi (fun y327 ey327 => ?_)
      obtain rfl : y320 = y327 := ey320.trans ey327.symm
      refine va_sld hx hb hX hbl hbA hH.2.2.2.1 (sc_in ty320 hi h6 (by decide)) dL_law_884 ?_
      refine lv_topi (fun y328 ey328 => ?_)
      obtain rfl : y321 = y328 := ey321.trans ey328.symm
      refine lv_aload_n hx hb dL_law_885 rfl (lv_at hl 0 rfl) ?_
      refine lv_iload_n hx hb dL_law_886 rfl (lv_at hl 3 rfl) ?_
      refine lv_iconst (v := 3) hx hb dL_law_887 (by decide) ?_
      refine lv_iadd hx hb dL_law_888 ?_
      refine lv_topi (fun y329 ey329 => ?_)
      obtain rfl : y322 = y329 := ey322.trans ey329.symm
      refine va_sld hx hb hX hbl hbA hH.2.2.2.1 (sc_in ty322 hi h6 (by decide)) dL_law_889 ?_
      refine lv_topi (fun y330 ey330 => ?_)
      obtain rfl : y323 = y330 := ey323.trans ey330.symm
      refine ca_L_83 hx hb hml hown hts hH (c_X11_way oI oR mm km) hl.1 mm km rfl (by decide) (Nat.le_of_ble_eq_true rfl) ⟨by decide, by decide⟩ dL_law_890 (fun y331 I331 J331 R331 H locs hp hH => ?_)
      obtain ⟨⟨oI, -, sc331⟩, eJ331, eR331, ry331⟩ := hp
      obtain rfl : J = J331 := eJ331.symm
      obtain rfl : R = R331 := eR331.symm
      have sm : Sm C ms_L_law (I, J, R) (I331, J, R) := sm.tr sc331 rfl
      have xm : XM L C I331 := XM.sm (u := (I324, J, R)) (v := (I331, J, R)) xm sc331 rfl rfl
      have xw : XW L C I331 := XW.sm (u := (I324, J, R)) (v := (I331, J, R)) xw sc331 rfl rfl
      have fr0o := fr0
      have fr0 : R x 6 = some th := (sc331 x 6 (by rw [kx]; decide)).2.2.trans fr0
      have fa1o := fa1
      have fb1o := fb1
      have fa1 : I331 th 2 = vv1 := (sc331 th 2 (by rw [kth]; decide)).1.trans fa1
      have fb1 : I331 mo 21 = vv1 := (sc331 mo 21 (by rw [km]; decide)).1.trans fb1
      refine lv_pop hx hb dL_law_893 rfl ?_
      refine lv_goto (tgt := 1244) hx hb dL_law_894 (by decide) ?_
      exact L_1244 h6 I331 J R _ _ _ hH oI oR xm xw fr0 (fa1.trans fb1.symm) (lv_sub hl [0, 1, 2, 3] rfl)
    · have r332 : Rg y4 (15) (15) := ⟨by rw [z5]; decide, by rw [z5]; decide⟩
      refine lv_tableIn (tgt := 897) hx hb dL_law_33 (by rw [z5]; decide) (by rw [z5]; decide) (by rw [z5]; rfl) (by decide) ?_
      refine lv_aload_n hx hb dL_law_897 rfl (lv_at hl 1 rfl) ?_
      refine lv_aload_n hx hb dL_law_898 rfl (lv_at hl 0 rfl) ?_
      refine lv_iload_n hx hb dL_law_899 rfl (lv_at hl 3 rfl) ?_
      refine lv_iconst (v := 1) hx hb dL_law_900 (by decide) ?_
      refine lv_iadd hx hb dL_law_901 ?_
      refine lv_topi (fun y333 ey333 => ?_)
      obtain ⟨ty333, ry333⟩ := Rg_addx (a' := (1)) (b' := (3073)) (rfl : x3.toInt = _) (by decide : Int32.toInt 1 = 1) r3 (Rg_c (x := 1) (a := (1)) (b := (1)) (by decide)) (by decide)
      rw [← ey333] at ty333 ry333
      refine va_sld hx hb hX hbl hbA hH.2.2.2.1 (sc_in ty333 hi h6 (by decide)) dL_law_902 ?_
      refine lv_topi (fun y334 ey334 => ?_)
      refine ca_L_84 hx hb hml hown hts hH (c_X10_object oI oR mx kx) hl.1 mx kx rfl (by decide) (Nat.le_of_ble_eq_true rfl) ⟨by decide, by decide⟩ dL_law_903 (fun y335 I335 J335 R335 H locs hp hH => ?_)
      obtain ⟨⟨oI, -, sc335⟩, eJ335, eR335, ry335, hp335⟩ := hp
      obtain rfl : J = J335 := eJ335.symm
      obtain rfl : R = R335 := eR335.symm
      have sm : Sm C ms_L_law (I, J, R) (I335, J, R) := sm.tr sc335 rfl
      have xm : XM L C I335 := XM.sm (u := (I, J, R)) (v := (I335, J, R)) xm sc335 rfl rfl
      have xw : XW L C I335 := XW.sm (u := (I, J, R)) (v := (I335, J, R)) xw sc335 rfl rfl
      have fr0o := fr0
      have fr0 : R x 6 = some th := (sc335 x 6 (by rw [kx]; decide)).2.2.trans fr0
      have fa1o := fa1
      have fb1o := fb1
      have fb1 : I335 mo 21 = vv1 := (sc335 mo 21 (by rw [km]; decide)).1.trans fb1
      have h335 := hp335 th fr0
      rw [fa1] at h335
      have ra335 := h335.1
      have fa1 : I335 th 2 = (objF vv1 y334).2 := h335.2
      refine lv_pop hx hb dL_law_906 rfl ?_
      refine lv_aload_n hx hb dL_law_907 rfl (lv_at hl 2 rfl) ?_
      refine lv_aload_n hx hb dL_law_908 rfl (lv_at hl 0 rfl) ?_
      refine lv_iload_n hx hb dL_law_909 rfl (lv_at hl 3 rfl) ?_
      refine lv_iconst (v := 1) hx hb dL_law_910 (by decide) ?_
      refine lv_iadd hx hb dL_law_911 ?_
      refine lv_topi (fun y336 ey336 => ?_)
      obtain rfl : y333 = y336 := ey333.trans ey336.symm
      refine va_sld hx hb hX hbl hbA hH.2.2.2.1 (sc_in ty333 hi h6 (by decide)) dL_law_912 ?_
      refine lv_topi (fun y337 ey337 => ?_)
      obtain rfl : y334 = y337 := ey334.trans ey337.symm
      refine ca_L_87 hx hb hml hown hts hH (c_X11_object oI oR mm km) hl.1 mm km rfl (by decide) (Nat.le_of_ble_eq_true rfl) ⟨by decide, by decide⟩ dL_law_913 (fun y338 I338 J338 R338 H locs hp hH => ?_)
      obtain ⟨⟨oI, -, sc338⟩, eJ338, eR338, ry338, hp338⟩ := hp
      obtain rfl : J = J338 := eJ338.symm
      obtain rfl : R = R338 := eR338.symm
      have sm : Sm C ms_L_law (I, J, R) (I338, J, R) := sm.tr sc338 rfl
      have xm : XM L C I338 := XM.sm (u := (I335, J, R)) (v := (I338, J, R)) xm sc338 rfl rfl
      have xw : XW L C I338 := XW.sm (u := (I335, J, R)) (v := (I338, J, R)) xw sc338 rfl rfl
      have fr0o := fr0
      have fr0 : R x 6 = some th := (sc338 x 6 (by rw [kx]; decide)).2.2.trans fr0
      have fa1o := fa1
      have fb1o := fb1
      have fa1 : I338 th 2 = (objF vv1 y334).2 := (sc338 th 2 (by rw [kth]; decide)).1.trans fa1
      have h338 := hp338
      rw [fb1] at h338
      have rb338 := h338.1
      have fb1 : I338 mo 21 = (objF vv1 y334).2 := h338.2
      refine lv_pop hx hb dL_law_916 rfl ?_
      refine lv_goto (tgt := 1244) hx hb dL_law_917 (by decide) ?_
      exact L_1244 h6 I338 J R _ _ _ hH oI oR xm xw fr0 (fa1.trans fb1.symm) (lv_sub hl [0, 1, 2, 3] rfl)
    · have r339 : Rg y4 (16) (16) := ⟨by rw [z5]; decide, by rw [z5]; decide⟩
      refine lv_tableIn (tgt := 920) hx hb dL_law_33 (by rw [z5]; decide) (by rw [z5]; decide) (by rw [z5]; rfl) (by decide) ?_
      refine lv_aload_n hx hb dL_law_920 rfl (lv_at hl 1 rfl) ?_
      refine lv_aload_n hx hb dL_law_921 rfl (lv_at hl 0 rfl) ?_
      refine lv_iload_n hx hb dL_law_922 rfl (lv_at hl 3 rfl) ?_
      refine lv_iconst (v := 1) hx hb dL_law_923 (by decide) ?_
      refine lv_iadd hx hb dL_law_924 ?_
      refine lv_topi (fun y340 ey340 => ?_)
      obtain ⟨ty340, ry340⟩ := Rg_addx (a' := (1)) (b' := (3073)) (rfl : x3.toInt = _) (by decide : Int32.toInt 1 = 1) r3 (Rg_c (x := 1) (a := (1)) (b := (1)) (by decide)) (by decide)
      rw [← ey340] at ty340 ry340
      refine va_sld hx hb hX hbl hbA hH.2.2.2.1 (sc_in ty340 hi h6 (by decide)) dL_law_925 ?_
      refine lv_topi (fun y341 ey341 => ?_)
      refine lv_aload_n hx hb dL_law_926 rfl (lv_at hl 0 rfl) ?_
      refine lv_iload_n hx hb dL_law_927 rfl (lv_at hl 3 rfl) ?_
      refine lv_iconst (v := 2) hx hb dL_law_928 (by decide) ?_
      refine lv_iadd hx hb dL_law_929 ?_
      refine lv_topi (fun y342 ey342 => ?_)
      obtain ⟨ty342, ry342⟩ := Rg_addx (a' := (2)) (b' := (3074)) (rfl : x3.toInt = _) (by decide : Int32.toInt 2 = 2) r3 (Rg_c (x := 2) (a := (2)) (b := (2)) (by decide)) (by decide)
      rw [← ey342] at ty342 ry342
      refine va_sld hx hb hX hbl hbA hH.2.2.2.1 (sc_in ty342 hi h6 (by decide)) dL_law_930 ?_
      refine lv_topi (fun y343 ey343 => ?_)
      refine lv_aload_n hx hb dL_law_931 rfl (lv_at hl 0 rfl) ?_
      refine lv_iload_n hx hb dL_law_932 rfl (lv_at hl 3 rfl) ?_
      refine lv_iconst (v := 3) hx hb dL_law_933 (by decide) ?_
      refine lv_iadd hx hb dL_law_934 ?_
      refine lv_topi (fun y344 ey344 => ?_)
      obtain ⟨ty344, ry344⟩ := Rg_addx (a' := (3)) (b' := (3075)) (rfl : x3.toInt = _) (by decide : Int32.toInt 3 = 3) r3 (Rg_c (x := 3) (a := (3)) (b := (3)) (by decide)) (by decide)
      rw [← ey344] at ty344 ry344
      refine va_sld hx hb hX hbl hbA hH.2.2.2.1 (sc_in ty344 hi h6 (by decide)) dL_law_935 ?_
      refine lv_topi (fun y345 ey345 => ?_)
      refine lv_i2l (v := y345.toInt64) hx hb dL_law_936 rfl ?_
      refine lv_bipush (v := 32) hx hb dL_law_937 (by decide) ?_
      refine lv_lshl hx hb dL_law_939 rfl ?_
      refine lv_topl (fun w346 ew346 => ?_)
      refine lv_aload_n hx hb dL_law_940 rfl (lv_at hl 0 rfl) ?_
      refine lv_iload_n hx hb dL_law_941 rfl (lv_at hl 3 rfl) ?_
      refine lv_iconst (v := 4) hx hb dL_law_942 (by decide) ?_
      refine lv_iadd hx hb dL_law_943 ?_
      refine lv_topi (fun y347 ey347 => ?_)
      obtain ⟨ty347, ry347⟩ := Rg_addx (a' := (4)) (b' := (3076)) (rfl : x3.toInt = _) (by decide : Int32.toInt 4 = 4) r3 (Rg_c (x := 4) (a := (4)) (b := (4)) (by decide)) (by decide)
      rw [← ey347] at ty347 ry347
      refine va_sld hx hb hX hbl hbA hH.2.2.2.1 (sc_in ty347 hi h6 (by decide)) dL_law_944 ?_
      refine lv_topi (fun y348 ey348 => ?_)
      refine lv_i2l (v := y348.toInt64) hx hb dL_law_945 rfl ?_
      refine lv_ldc2 (v := 4294967295) hx hb hown (hts _ kkl_L_28) dL_law_946 ?_
      refine lv_land hx hb dL_law_949 ?_
      refine lv_topl (fun w349 ew349 => ?_)
      refine lv_lor hx hb dL_law_950 ?_
      refine lv_topl (fun w350 ew350 => ?_)
      refine ca_L_88 hx hb hml hown hts hH (c_X10_put oI oR mx kx) hl.1 mx kx rfl (by decide) (Nat.le_of_ble_eq_true rfl) ⟨by decide, by decide⟩ dL_law_951 (fun y351 I351 J351 R351 H locs hp hH => ?_)
      obtain ⟨⟨-, -, sc351⟩, eI351, eR351, ry351, hp351⟩ := hp
      obtain rfl : I = I351 := eI351.symm
      obtain rfl : R = R351 := eR351.symm
      have sm : Sm C ms_L_law (I, J, R) (I, J351, R) := sm.tr sc351 rfl
      have xm : XM L C I := XM.sm (u := (I, J, R)) (v := (I, J351, R)) xm sc351 rfl rfl
      have xw : XW L C I := XW.sm (u := (I, J, R)) (v := (I, J351, R)) xw sc351 rfl rfl
      have fr0o := fr0
      have fr0 : R x 6 = some th := (sc351 x 6 (by rw [kx]; decide)).2.2.trans fr0
      have fa1o := fa1
      have fb1o := fb1
      have fa1 : I th 2 = vv1 := (sc351 th 2 (by rw [kth]; decide)).1.trans fa1
      have fb1 : I mo 21 = vv1 := (sc351 mo 21 (by rw [km]; decide)).1.trans fb1
      have ra351 := hp351 th fr0o
      rw [fa1o] at ra351
      refine lv_aload_n hx hb dL_law_954 rfl (lv_at hl 2 rfl) ?_
      refine lv_aload_n hx hb dL_law_955 rfl (lv_at hl 0 rfl) ?_
      refine lv_iload_n hx hb dL_law_956 rfl (lv_at hl 3 rfl) ?_
      refine lv_iconst (v := 1) hx hb dL_law_957 (by decide) ?_
      refine lv_iadd hx hb dL_law_958 ?_
      refine lv_topi (fun y352 ey352 => ?_)
      obtain rfl : y340 = y352 := ey340.trans ey352.symm
      refine va_sld hx hb hX hbl hbA hH.2.2.2.1 (sc_in ty340 hi h6 (by decide)) dL_law_959 ?_
      refine lv_topi (fun y353 ey353 => ?_)
      obtain rfl : y341 = y353 := ey341.trans ey353.symm
      refine lv_aload_n hx hb dL_law_960 rfl (lv_at hl 0 rfl) ?_
      refine lv_iload_n hx hb dL_law_961 rfl (lv_at hl 3 rfl) ?_
      refine lv_iconst (v := 2) hx hb dL_law_962 (by decide) ?_
      refine lv_iadd hx hb dL_law_963 ?_
      refine lv_topi (fun y354 ey354 => ?_)
      obtain rfl : y342 = y354 := ey342.trans ey354.symm
      refine va_sld hx hb hX hbl hbA hH.2.2.2.1 (sc_in ty342 hi h6 (by decide)) dL_law_964 ?_
      refine lv_topi (fun y355 ey355 => ?_)
      obtain rfl : y343 = y355 := ey343.trans ey355.symm
      refine lv_aload_n hx hb dL_law_965 rfl (lv_at hl 0 rfl) ?_
      refine lv_iload_n hx hb dL_law_966 rfl (lv_at hl 3 rfl) ?_
      refine lv_iconst (v := 3) hx hb dL_law_967 (by decide) ?_
      refine lv_iadd hx hb dL_law_968 ?_
      refine lv_topi (fun y356 ey356 => ?_)
      obtain rfl : y344 = y356 := ey344.trans ey356.symm
      refine va_sld hx hb hX hbl hbA hH.2.2.2.1 (sc_in ty344 hi h6 (by decide)) dL_law_969 ?_
      refine lv_topi (fun y357 ey357 => ?_)
      obtain rfl : y345 = y357 := ey345.trans ey357.symm
      refine lv_i2l (v := y345.toInt64) hx hb dL_law_970 rfl ?_
      refine lv_bipush (v := 32) hx hb dL_law_971 (by decide) ?_
      refine lv_lshl hx hb dL_law_973 rfl ?_
      refine lv_topl (fun w358 ew358 => ?_)
      refine lv_aload_n hx hb dL_law_974 rfl (lv_at hl 0 rfl) ?_
      refine lv_iload_n hx hb dL_law_975 rfl (lv_at hl 3 rfl) ?_
      refine lv_iconst (v := 4) hx hb dL_law_976 (by decide) ?_
      refine lv_iadd hx hb dL_law_977 ?_
      refine lv_topi (fun y359 ey359 => ?_)
      obtain rfl : y347 = y359 := ey347.trans ey359.symm
      refine va_sld hx hb hX hbl hbA hH.2.2.2.1 (sc_in ty347 hi h6 (by decide)) dL_law_978 ?_
      refine lv_topi (fun y360 ey360 => ?_)
      obtain rfl : y348 = y360 := ey348.trans ey360.symm
      refine lv_i2l (v := y348.toInt64) hx hb dL_law_979 rfl ?_
      refine lv_ldc2 (v := 4294967295) hx hb hown (hts _ kkl_L_28) dL_law_980 ?_
      refine lv_land hx hb dL_law_983 ?_
      refine lv_topl (fun w361 ew361 => ?_)
      refine lv_lor hx hb dL_law_984 ?_
      refine lv_topl (fun w362 ew362 => ?_)
      refine ca_L_91 hx hb hml hown hts hH (c_X11_put oI oR mm km) hl.1 mm km rfl (by decide) (Nat.le_of_ble_eq_true rfl) ⟨by decide, by decide⟩ dL_law_985 (fun y363 I363 J363 R363 H locs hp hH => ?_)
      obtain ⟨⟨oI, -, sc363⟩, eR363, ry363, hp363⟩ := hp
      obtain rfl : R = R363 := eR363.symm
      have sm : Sm C ms_L_law (I, J, R) (I363, J363, R) := sm.tr sc363 rfl
      have xm : XM L C I363 := XM.sm (u := (I, J351, R)) (v := (I363, J363, R)) xm sc363 rfl rfl
      have xw : XW L C I363 := XW.sm (u := (I, J351, R)) (v := (I363, J363, R)) xw sc363 rfl rfl
      have fr0o := fr0
      have fr0 : R x 6 = some th := (sc363 x 6 (by rw [kx]; decide)).2.2.trans fr0
      have fa1o := fa1
      have fb1o := fb1
      have fa1 : I363 th 2 = vv1 := (sc363 th 2 (by rw [kth]; decide)).1.trans fa1
      have fb1 : I363 mo 21 = vv1 := (sc363 mo 21 (by rw [km]; decide)).1.trans fb1
      have rb363 := hp363
      rw [fb1o] at rb363
      refine lv_icmp_eq (tgt := 1244) hx hb dL_law_988 (by decide) (fun q364 => ?_) (fun q364 => ?_)
      · have l365 := congrArg Int32.toInt q364
        exact L_1244 h6 I363 J363 R _ _ _ hH oI oR xm xw fr0 (fa1.trans fb1.symm) (lv_sub hl [0, 1, 2, 3] rfl)
      have l366 := Rg_ne q364
      refine lv_iconst (v := 0) hx hb dL_law_991 (by decide) ?_
      exfalso
      exact absurd (ra351.trans rb363.symm) (by assumption)
    · have r367 : Rg y4 (17) (17) := ⟨by rw [z5]; decide, by rw [z5]; decide⟩
      refine lv_tableIn (tgt := 993) hx hb dL_law_33 (by rw [z5]; decide) (by rw [z5]; decide) (by rw [z5]; rfl) (by decide) ?_
      refine lv_aload_n hx hb dL_law_993 rfl (lv_at hl 1 rfl) ?_
      refine lv_aload_n hx hb dL_law_994 rfl (lv_at hl 0 rfl) ?_
      refine lv_iload_n hx hb dL_law_995 rfl (lv_at hl 3 rfl) ?_
      refine lv_iconst (v := 1) hx hb dL_law_996 (by decide) ?_
      refine lv_iadd hx hb dL_law_997 ?_
      refine lv_topi (fun y368 ey368 => ?_)
      obtain ⟨ty368, ry368⟩ := Rg_addx (a' := (1)) (b' := (3073)) (rfl : x3.toInt = _) (by decide : Int32.toInt 1 = 1) r3 (Rg_c (x := 1) (a := (1)) (b := (1)) (by decide)) (by decide)
      rw [← ey368] at ty368 ry368
      refine va_sld hx hb hX hbl hbA hH.2.2.2.1 (sc_in ty368 hi h6 (by decide)) dL_law_998 ?_
      refine lv_topi (fun y369 ey369 => ?_)
      refine lv_aload_n hx hb dL_law_999 rfl (lv_at hl 0 rfl) ?_
      refine lv_iload_n hx hb dL_law_1000 rfl (lv_at hl 3 rfl) ?_
      refine lv_iconst (v := 2) hx hb dL_law_1001 (by decide) ?_
      refine lv_iadd hx hb dL_law_1002 ?_
      refine lv_topi (fun y370 ey370 => ?_)
      obtain ⟨ty370, ry370⟩ := Rg_addx (a' := (2)) (b' := (3074)) (rfl : x3.toInt = _) (by decide : Int32.toInt 2 = 2) r3 (Rg_c (x := 2) (a := (2)) (b := (2)) (by decide)) (by decide)
      rw [← ey370] at ty370 ry370
      refine va_sld hx hb hX hbl hbA hH.2.2.2.1 (sc_in ty370 hi h6 (by decide)) dL_law_1003 ?_
      refine lv_topi (fun y371 ey371 => ?_)
      refine ca_L_92 hx hb hml hown hts hH (c_X10_field oI oR mx kx) hl.1 mx kx rfl (by decide) (Nat.le_of_ble_eq_true rfl) ⟨by decide, by decide⟩ dL_law_1004 (fun w372 I372 J372 R372 H locs hp hH => ?_)
      obtain ⟨eI372, eJ372, eR372⟩ := hp
      obtain rfl : I = I372 := eI372.symm
      obtain rfl : J = J372 := eJ372.symm
      obtain rfl : R = R372 := eR372.symm
      refine lv_pop2_2 hx hb dL_law_1007 rfl ?_
      refine lv_aload_n hx hb dL_law_1008 rfl (lv_at hl 2 rfl) ?_
      refine lv_aload_n hx hb dL_law_1009 rfl (lv_at hl 0 rfl) ?_
      refine lv_iload_n hx hb dL_law_1010 rfl (lv_at hl 3 rfl) ?_
      refine lv_iconst (v := 1) hx hb dL_law_1011 (by decide) ?_
      refine lv_iadd hx hb dL_law_1012 ?_
      refine lv_topi (fun y373 ey373 => ?_)
      obtain rfl : y368 = y373 := ey368.trans ey373.symm
      refine va_sld hx hb hX hbl hbA hH.2.2.2.1 (sc_in ty368 hi h6 (by decide)) dL_law_1013 ?_
      refine lv_topi (fun y374 ey374 => ?_)
      obtain rfl : y369 = y374 := ey369.trans ey374.symm
      refine lv_aload_n hx hb dL_law_1014 rfl (lv_at hl 0 rfl) ?_
      refine lv_iload_n hx hb dL_law_1015 rfl (lv_at hl 3 rfl) ?_
      refine lv_iconst (v := 2) hx hb dL_law_1016 (by decide) ?_
      refine lv_iadd hx hb dL_law_1017 ?_
      refine lv_topi (fun y375 ey375 => ?_)
      obtain rfl : y370 = y375 := ey370.trans ey375.symm
      refine va_sld hx hb hX hbl hbA hH.2.2.2.1 (sc_in ty370 hi h6 (by decide)) dL_law_1018 ?_
      refine lv_topi (fun y376 ey376 => ?_)
      obtain rfl : y371 = y376 := ey371.trans ey376.symm
      refine ca_L_96 hx hb hml hown hts hH (c_X11_field oI oR mm km) hl.1 mm km rfl (by decide) (Nat.le_of_ble_eq_true rfl) ⟨by decide, by decide⟩ dL_law_1019 (fun w377 I377 J377 R377 H locs hp hH => ?_)
      obtain ⟨⟨oI, -, sc377⟩, eJ377, eR377⟩ := hp
      obtain rfl : J = J377 := eJ377.symm
      obtain rfl : R = R377 := eR377.symm
      have sm : Sm C ms_L_law (I, J, R) (I377, J, R) := sm.tr sc377 rfl
      have xm : XM L C I377 := XM.sm (u := (I, J, R)) (v := (I377, J, R)) xm sc377 rfl rfl
      have xw : XW L C I377 := XW.sm (u := (I, J, R)) (v := (I377, J, R)) xw sc377 rfl rfl
      have fr0o := fr0
      have fr0 : R x 6 = some th := (sc377 x 6 (by rw [kx]; decide)).2.2.trans fr0
      have fa1o := fa1
      have fb1o := fb1
      have fa1 : I377 th 2 = vv1 := (sc377 th 2 (by rw [kth]; decide)).1.trans fa1
      have fb1 : I377 mo 21 = vv1 := (sc377 mo 21 (by rw [km]; decide)).1.trans fb1
      refine lv_pop2_2 hx hb dL_law_1022 rfl ?_
      refine lv_goto (tgt := 1244) hx hb dL_law_1023 (by decide) ?_
      exact L_1244 h6 I377 J R _ _ _ hH oI oR xm xw fr0 (fa1.trans fb1.symm) (lv_sub hl [0, 1, 2, 3] rfl)
    · have r378 : Rg y4 (18) (18) := ⟨by rw [z5]; decide, by rw [z5]; decide⟩
      refine lv_tableIn (tgt := 1026) hx hb dL_law_33 (by rw [z5]; decide) (by rw [z5]; decide) (by rw [z5]; rfl) (by decide) ?_
      refine lv_aload_n hx hb dL_law_1026 rfl (lv_at hl 1 rfl) ?_
      refine lv_aload_n hx hb dL_law_1027 rfl (lv_at hl 0 rfl) ?_
      refine lv_iload_n hx hb dL_law_1028 rfl (lv_at hl 3 rfl) ?_
      refine lv_iconst (v := 1) hx hb dL_law_1029 (by decide) ?_
      refine lv_iadd hx hb dL_law_1030 ?_
      refine lv_topi (fun y379 ey379 => ?_)
      obtain ⟨ty379, ry379⟩ := Rg_addx (a' := (1)) (b' := (3073)) (rfl : x3.toInt = _) (by decide : Int32.toInt 1 = 1) r3 (Rg_c (x := 1) (a := (1)) (b := (1)) (by decide)) (by decide)
      rw [← ey379] at ty379 ry379
      refine va_sld hx hb hX hbl hbA hH.2.2.2.1 (sc_in ty379 hi h6 (by decide)) dL_law_1031 ?_
      refine lv_topi (fun y380 ey380 => ?_)
      refine lv_aload_n hx hb dL_law_1032 rfl (lv_at hl 0 rfl) ?_
      refine lv_iload_n hx hb dL_law_1033 rfl (lv_at hl 3 rfl) ?_
      refine lv_iconst (v := 2) hx hb dL_law_1034 (by decide) ?_
      refine lv_iadd hx hb dL_law_1035 ?_
      refine lv_topi (fun y381 ey381 => ?_)
      obtain ⟨ty381, ry381⟩ := Rg_addx (a' := (2)) (b' := (3074)) (rfl : x3.toInt = _) (by decide : Int32.toInt 2 = 2) r3 (Rg_c (x := 2) (a := (2)) (b := (2)) (by decide)) (by decide)
      rw [← ey381] at ty381 ry381
      refine va_sld hx hb hX hbl hbA hH.2.2.2.1 (sc_in ty381 hi h6 (by decide)) dL_law_1036 ?_
      refine lv_topi (fun y382 ey382 => ?_)
      refine lv_i2l (v := y382.toInt64) hx hb dL_law_1037 rfl ?_
      refine lv_bipush (v := 32) hx hb dL_law_1038 (by decide) ?_
      refine lv_lshl hx hb dL_law_1040 rfl ?_
      refine lv_topl (fun w383 ew383 => ?_)
      refine lv_aload_n hx hb dL_law_1041 rfl (lv_at hl 0 rfl) ?_
      refine lv_iload_n hx hb dL_law_1042 rfl (lv_at hl 3 rfl) ?_
      refine lv_iconst (v := 3) hx hb dL_law_1043 (by decide) ?_
      refine lv_iadd hx hb dL_law_1044 ?_
      refine lv_topi (fun y384 ey384 => ?_)
      obtain ⟨ty384, ry384⟩ := Rg_addx (a' := (3)) (b' := (3075)) (rfl : x3.toInt = _) (by decide : Int32.toInt 3 = 3) r3 (Rg_c (x := 3) (a := (3)) (b := (3)) (by decide)) (by decide)
      rw [← ey384] at ty384 ry384
      refine va_sld hx hb hX hbl hbA hH.2.2.2.1 (sc_in ty384 hi h6 (by decide)) dL_law_1045 ?_
      refine lv_topi (fun y385 ey385 => ?_)
      refine lv_i2l (v := y385.toInt64) hx hb dL_law_1046 rfl ?_
      refine lv_ldc2 (v := 4294967295) hx hb hown (hts _ kkl_L_28) dL_law_1047 ?_
      refine lv_land hx hb dL_law_1050 ?_
      refine lv_topl (fun w386 ew386 => ?_)
      refine lv_lor hx hb dL_law_1051 ?_
      refine lv_topl (fun w387 ew387 => ?_)
      refine ca_L_97 hx hb hml hown hts hH (c_X10_hand oI oR mx kx) hl.1 mx kx rfl (by decide) (Nat.le_of_ble_eq_true rfl) ⟨by decide, by decide⟩ dL_law_1052 (fun y388 I388 J388 R388 H locs hp hH => ?_)
      obtain ⟨⟨-, -, sc388⟩, eI388, eR388, ry388, hp388⟩ := hp
      obtain rfl : I = I388 := eI388.symm
      obtain rfl : R = R388 := eR388.symm
      have sm : Sm C ms_L_law (I, J, R) (I, J388, R) := sm.tr sc388 rfl
      have xm : XM L C I := XM.sm (u := (I, J, R)) (v := (I, J388, R)) xm sc388 rfl rfl
      have xw : XW L C I := XW.sm (u := (I, J, R)) (v := (I, J388, R)) xw sc388 rfl rfl
      have fr0o := fr0
      have fr0 : R x 6 = some th := (sc388 x 6 (by rw [kx]; decide)).2.2.trans fr0
      have fa1o := fa1
      have fb1o := fb1
      have fa1 : I th 2 = vv1 := (sc388 th 2 (by rw [kth]; decide)).1.trans fa1
      have fb1 : I mo 21 = vv1 := (sc388 mo 21 (by rw [km]; decide)).1.trans fb1
      refine lv_pop hx hb dL_law_1055 rfl ?_
      refine lv_aload_n hx hb dL_law_1056 rfl (lv_at hl 2 rfl) ?_
      refine lv_aload_n hx hb dL_law_1057 rfl (lv_at hl 0 rfl) ?_
      refine lv_iload_n hx hb dL_law_1058 rfl (lv_at hl 3 rfl) ?_
      refine lv_iconst (v := 1) hx hb dL_law_1059 (by decide) ?_
      refine lv_iadd hx hb dL_law_1060 ?_
      refine lv_topi (fun y389 ey389 => ?_)
      obtain rfl : y379 = y389 := ey379.trans ey389.symm
      refine va_sld hx hb hX hbl hbA hH.2.2.2.1 (sc_in ty379 hi h6 (by decide)) dL_law_1061 ?_
      refine lv_topi (fun y390 ey390 => ?_)
      obtain rfl : y380 = y390 := ey380.trans ey390.symm
      refine lv_aload_n hx hb dL_law_1062 rfl (lv_at hl 0 rfl) ?_
      refine lv_iload_n hx hb dL_law_1063 rfl (lv_at hl 3 rfl) ?_
      refine lv_iconst (v := 2) hx hb dL_law_1064 (by decide) ?_
      refine lv_iadd hx hb dL_law_1065 ?_
      refine lv_topi (fun y391 ey391 => ?_)
      obtain rfl : y381 = y391 := ey381.trans ey391.symm
      refine va_sld hx hb hX hbl hbA hH.2.2.2.1 (sc_in ty381 hi h6 (by decide)) dL_law_1066 ?_
      refine lv_topi (fun y392 ey392 => ?_)
      obtain rfl : y382 = y392 := ey382.trans ey392.symm
      refine lv_i2l (v := y382.toInt64) hx hb dL_law_1067 rfl ?_
      refine lv_bipush (v := 32) hx hb dL_law_1068 (by decide) ?_
      refine lv_lshl hx hb dL_law_1070 rfl ?_
      refine lv_topl (fun w393 ew393 => ?_)
      refine lv_aload_n hx hb dL_law_1071 rfl (lv_at hl 0 rfl) ?_
      refine lv_iload_n hx hb dL_law_1072 rfl (lv_at hl 3 rfl) ?_
      refine lv_iconst (v := 3) hx hb dL_law_1073 (by decide) ?_
      refine lv_iadd hx hb dL_law_1074 ?_
      refine lv_topi (fun y394 ey394 => ?_)
      obtain rfl : y384 = y394 := ey384.trans ey394.symm
      refine va_sld hx hb hX hbl hbA hH.2.2.2.1 (sc_in ty384 hi h6 (by decide)) dL_law_1075 ?_
      refine lv_topi (fun y395 ey395 => ?_)
      obtain rfl : y385 = y395 := ey385.trans ey395.symm
      refine lv_i2l (v := y385.toInt64) hx hb dL_law_1076 rfl ?_
      refine lv_ldc2 (v := 4294967295) hx hb hown (hts _ kkl_L_28) dL_law_1077 ?_
      refine lv_land hx hb dL_law_1080 ?_
      refine lv_topl (fun w396 ew396 => ?_)
      refine lv_lor hx hb dL_law_1081 ?_
      refine lv_topl (fun w397 ew397 => ?_)
      refine ca_L_101 hx hb hml hown hts hH (c_X11_hand oI oR mm km) hl.1 mm km rfl (by decide) (Nat.le_of_ble_eq_true rfl) ⟨by decide, by decide⟩ dL_law_1082 (fun y398 I398 J398 R398 H locs hp hH => ?_)
      obtain ⟨⟨oI, -, sc398⟩, eR398, ry398, hp398⟩ := hp
      obtain rfl : R = R398 := eR398.symm
      have sm : Sm C ms_L_law (I, J, R) (I398, J398, R) := sm.tr sc398 rfl
      have xm : XM L C I398 := XM.sm (u := (I, J388, R)) (v := (I398, J398, R)) xm sc398 rfl rfl
      have xw : XW L C I398 := XW.sm (u := (I, J388, R)) (v := (I398, J398, R)) xw sc398 rfl rfl
      have fr0o := fr0
      have fr0 : R x 6 = some th := (sc398 x 6 (by rw [kx]; decide)).2.2.trans fr0
      have fa1o := fa1
      have fb1o := fb1
      have fa1 : I398 th 2 = vv1 := (sc398 th 2 (by rw [kth]; decide)).1.trans fa1
      have fb1 : I398 mo 21 = vv1 := (sc398 mo 21 (by rw [km]; decide)).1.trans fb1
      refine lv_pop hx hb dL_law_1085 rfl ?_
      refine lv_goto (tgt := 1244) hx hb dL_law_1086 (by decide) ?_
      exact L_1244 h6 I398 J398 R _ _ _ hH oI oR xm xw fr0 (fa1.trans fb1.symm) (lv_sub hl [0, 1, 2, 3] rfl)
    · have r399 : Rg y4 (19) (19) := ⟨by rw [z5]; decide, by rw [z5]; decide⟩
      refine lv_tableIn (tgt := 1089) hx hb dL_law_33 (by rw [z5]; decide) (by rw [z5]; decide) (by rw [z5]; rfl) (by decide) ?_
      refine lv_aload_n hx hb dL_law_1089 rfl (lv_at hl 1 rfl) ?_
      refine lv_aload_n hx hb dL_law_1090 rfl (lv_at hl 0 rfl) ?_
      refine lv_iload_n hx hb dL_law_1091 rfl (lv_at hl 3 rfl) ?_
      refine lv_iconst (v := 1) hx hb dL_law_1092 (by decide) ?_
      refine lv_iadd hx hb dL_law_1093 ?_
      refine lv_topi (fun y400 ey400 => ?_)
      obtain ⟨ty400, ry400⟩ := Rg_addx (a' := (1)) (b' := (3073)) (rfl : x3.toInt = _) (by decide : Int32.toInt 1 = 1) r3 (Rg_c (x := 1) (a := (1)) (b := (1)) (by decide)) (by decide)
      rw [← ey400] at ty400 ry400
      refine va_sld hx hb hX hbl hbA hH.2.2.2.1 (sc_in ty400 hi h6 (by decide)) dL_law_1094 ?_
      refine lv_topi (fun y401 ey401 => ?_)
      refine lv_aload_n hx hb dL_law_1095 rfl (lv_at hl 0 rfl) ?_
      refine lv_iload_n hx hb dL_law_1096 rfl (lv_at hl 3 rfl) ?_
      refine lv_iconst (v := 2) hx hb dL_law_1097 (by decide) ?_
      refine lv_iadd hx hb dL_law_1098 ?_
      refine lv_topi (fun y402 ey402 => ?_)
      obtain ⟨ty402, ry402⟩ := Rg_addx (a' := (2)) (b' := (3074)) (rfl : x3.toInt = _) (by decide : Int32.toInt 2 = 2) r3 (Rg_c (x := 2) (a := (2)) (b := (2)) (by decide)) (by decide)
      rw [← ey402] at ty402 ry402
      refine va_sld hx hb hX hbl hbA hH.2.2.2.1 (sc_in ty402 hi h6 (by decide)) dL_law_1099 ?_
      refine lv_topi (fun y403 ey403 => ?_)
      refine lv_aload_n hx hb dL_law_1100 rfl (lv_at hl 0 rfl) ?_
      refine lv_iload_n hx hb dL_law_1101 rfl (lv_at hl 3 rfl) ?_
      refine lv_iconst (v := 3) hx hb dL_law_1102 (by decide) ?_
      refine lv_iadd hx hb dL_law_1103 ?_
      refine lv_topi (fun y404 ey404 => ?_)
      obtain ⟨ty404, ry404⟩ := Rg_addx (a' := (3)) (b' := (3075)) (rfl : x3.toInt = _) (by decide : Int32.toInt 3 = 3) r3 (Rg_c (x := 3) (a := (3)) (b := (3)) (by decide)) (by decide)
      rw [← ey404] at ty404 ry404
      refine va_sld hx hb hX hbl hbA hH.2.2.2.1 (sc_in ty404 hi h6 (by decide)) dL_law_1104 ?_
      refine lv_topi (fun y405 ey405 => ?_)
      refine ca_L_102 hx hb hml hown hts hH (c_X10_call oI oR mx kx (by exact xm)) hl.1 mx kx rfl (by decide) (Nat.le_of_ble_eq_true rfl) ⟨by decide, by decide⟩ dL_law_1105 (fun y406 I406 J406 R406 H locs hp hH => ?_)
      obtain ⟨⟨oI, oR, sc406⟩, ry406⟩ := hp
      have sm : Sm C ms_L_law (I, J, R) (I406, J406, R406) := sm.tr sc406 rfl
      have xm : XM L C I406 := XM.sm (u := (I, J, R)) (v := (I406, J406, R406)) xm sc406 rfl rfl
      have xw : XW L C I406 := XW.sm (u := (I, J, R)) (v := (I406, J406, R406)) xw sc406 rfl rfl
      have fr0o := fr0
      have fr0 : R406 x 6 = some th := (sc406 x 6 (by rw [kx]; decide)).2.2.trans fr0
      have fa1o := fa1
      have fb1o := fb1
      have fa1 : I406 th 2 = vv1 := (sc406 th 2 (by rw [kth]; decide)).1.trans fa1
      have fb1 : I406 mo 21 = vv1 := (sc406 mo 21 (by rw [km]; decide)).1.trans fb1
      refine lv_pop hx hb dL_law_1108 rfl ?_
      refine lv_aload_n hx hb dL_law_1109 rfl (lv_at hl 2 rfl) ?_
      refine lv_aload_n hx hb dL_law_1110 rfl (lv_at hl 0 rfl) ?_
      refine lv_iload_n hx hb dL_law_1111 rfl (lv_at hl 3 rfl) ?_
      refine lv_iconst (v := 1) hx hb dL_law_1112 (by decide) ?_
      refine lv_iadd hx hb dL_law_1113 ?_
      refine lv_topi (fun y407 ey407 => ?_)
      obtain rfl : y400 = y407 := ey400.trans ey407.symm
      refine va_sld hx hb hX hbl hbA hH.2.2.2.1 (sc_in ty400 hi h6 (by decide)) dL_law_1114 ?_
      refine lv_topi (fun y408 ey408 => ?_)
      obtain rfl : y401 = y408 := ey401.trans ey408.symm
      refine lv_aload_n hx hb dL_law_1115 rfl (lv_at hl 0 rfl) ?_
      refine lv_iload_n hx hb dL_law_1116 rfl (lv_at hl 3 rfl) ?_
      refine lv_iconst (v := 2) hx hb dL_law_1117 (by decide) ?_
      refine lv_iadd hx hb dL_law_1118 ?_
      refine lv_topi (fun y409 ey409 => ?_)
      obtain rfl : y402 = y409 := ey402.trans ey409.symm
      refine va_sld hx hb hX hbl hbA hH.2.2.2.1 (sc_in ty402 hi h6 (by decide)) dL_law_1119 ?_
      refine lv_topi (fun y410 ey410 => ?_)
      obtain rfl : y403 = y410 := ey403.trans ey410.symm
      refine lv_aload_n hx hb dL_law_1120 rfl (lv_at hl 0 rfl) ?_
      refine lv_iload_n hx hb dL_law_1121 rfl (lv_at hl 3 rfl) ?_
      refine lv_iconst (v := 3) hx hb dL_law_1122 (by decide) ?_
      refine lv_iadd hx hb dL_law_1123 ?_
      refine lv_topi (fun y411 ey411 => ?_)
      obtain rfl : y404 = y411 := ey404.trans ey411.symm
      refine va_sld hx hb hX hbl hbA hH.2.2.2.1 (sc_in ty404 hi h6 (by decide)) dL_law_1124 ?_
      refine lv_topi (fun y412 ey412 => ?_)
      obtain rfl : y405 = y412 := ey405.trans ey412.symm
      refine ca_L_105 hx hb hml hown hts hH (c_X11_call oI oR mm km (by exact xw)) hl.1 mm km rfl (by decide) (Nat.le_of_ble_eq_true rfl) ⟨by decide, by decide⟩ dL_law_1125 (fun y413 I413 J413 R413 H locs hp hH => ?_)
      obtain ⟨⟨oI, -, sc413⟩, eR413⟩ := hp
      obtain rfl : R406 = R413 := eR413.symm
      have sm : Sm C ms_L_law (I, J, R) (I413, J413, R406) := sm.tr sc413 rfl
      have xm : XM L C I413 := XM.sm (u := (I406, J406, R406)) (v := (I413, J413, R406)) xm sc413 rfl rfl
      have xw : XW L C I413 := XW.sm (u := (I406, J406, R406)) (v := (I413, J413, R406)) xw sc413 rfl rfl
      have fr0o := fr0
      have fr0 : R406 x 6 = some th := (sc413 x 6 (by rw [kx]; decide)).2.2.trans fr0
      have fa1o := fa1
      have fb1o := fb1
      have fa1 : I413 th 2 = vv1 := (sc413 th 2 (by rw [kth]; decide)).1.trans fa1
      have fb1 : I413 mo 21 = vv1 := (sc413 mo 21 (by rw [km]; decide)).1.trans fb1
      refine lv_pop hx hb dL_law_1128 rfl ?_
      refine lv_goto (tgt := 1244) hx hb dL_law_1129 (by decide) ?_
      exact L_1244 h6 I413 J413 R406 _ _ _ hH oI oR xm xw fr0 (fa1.trans fb1.symm) (lv_sub hl [0, 1, 2, 3] rfl)
    · have r414 : Rg y4 (20) (20) := ⟨by rw [z5]; decide, by rw [z5]; decide⟩
      refine lv_tableIn (tgt := 1132) hx hb dL_law_33 (by rw [z5]; decide) (by rw [z5]; decide) (by rw [z5]; rfl) (by decide) ?_
      refine lv_aload_n hx hb dL_law_1132 rfl (lv_at hl 1 rfl) ?_
      refine lv_aload_n hx hb dL_law_1133 rfl (lv_at hl 0 rfl) ?_
      refine lv_iload_n hx hb dL_law_1134 rfl (lv_at hl 3 rfl) ?_
      refine lv_iconst (v := 1) hx hb dL_law_1135 (by decide) ?_
      refine lv_iadd hx hb dL_law_1136 ?_
      refine lv_topi (fun y415 ey415 => ?_)
      obtain ⟨ty415, ry415⟩ := Rg_addx (a' := (1)) (b' := (3073)) (rfl : x3.toInt = _) (by decide : Int32.toInt 1 = 1) r3 (Rg_c (x := 1) (a := (1)) (b := (1)) (by decide)) (by decide)
      rw [← ey415] at ty415 ry415
      refine va_sld hx hb hX hbl hbA hH.2.2.2.1 (sc_in ty415 hi h6 (by decide)) dL_law_1137 ?_
      refine lv_topi (fun y416 ey416 => ?_)
      refine lv_aload_n hx hb dL_law_1138 rfl (lv_at hl 0 rfl) ?_
      refine lv_iload_n hx hb dL_law_1139 rfl (lv_at hl 3 rfl) ?_
      refine lv_iconst (v := 2) hx hb dL_law_1140 (by decide) ?_
      refine lv_iadd hx hb dL_law_1141 ?_
      refine lv_topi (fun y417 ey417 => ?_)
      obtain ⟨ty417, ry417⟩ := Rg_addx (a' := (2)) (b' := (3074)) (rfl : x3.toInt = _) (by decide : Int32.toInt 2 = 2) r3 (Rg_c (x := 2) (a := (2)) (b := (2)) (by decide)) (by decide)
      rw [← ey417] at ty417 ry417
      refine va_sld hx hb hX hbl hbA hH.2.2.2.1 (sc_in ty417 hi h6 (by decide)) dL_law_1142 ?_
      refine lv_topi (fun y418 ey418 => ?_)
      refine lv_aload_n hx hb dL_law_1143 rfl (lv_at hl 0 rfl) ?_
      refine lv_iload_n hx hb dL_law_1144 rfl (lv_at hl 3 rfl) ?_
      refine lv_iconst (v := 3) hx hb dL_law_1145 (by decide) ?_
      refine lv_iadd hx hb dL_law_1146 ?_
      refine lv_topi (fun y419 ey419 => ?_)
      obtain ⟨ty419, ry419⟩ := Rg_addx (a' := (3)) (b' := (3075)) (rfl : x3.toInt = _) (by decide : Int32.toInt 3 = 3) r3 (Rg_c (x := 3) (a := (3)) (b := (3)) (by decide)) (by decide)
      rw [← ey419] at ty419 ry419
      refine va_sld hx hb hX hbl hbA hH.2.2.2.1 (sc_in ty419 hi h6 (by decide)) dL_law_1147 ?_
      refine lv_topi (fun y420 ey420 => ?_)
      refine lv_aload_n hx hb dL_law_1148 rfl (lv_at hl 0 rfl) ?_
      refine lv_iload_n hx hb dL_law_1149 rfl (lv_at hl 3 rfl) ?_
      refine lv_iconst (v := 4) hx hb dL_law_1150 (by decide) ?_
      refine lv_iadd hx hb dL_law_1151 ?_
      refine lv_topi (fun y421 ey421 => ?_)
      obtain ⟨ty421, ry421⟩ := Rg_addx (a' := (4)) (b' := (3076)) (rfl : x3.toInt = _) (by decide : Int32.toInt 4 = 4) r3 (Rg_c (x := 4) (a := (4)) (b := (4)) (by decide)) (by decide)
      rw [← ey421] at ty421 ry421
      refine va_sld hx hb hX hbl hbA hH.2.2.2.1 (sc_in ty421 hi h6 (by decide)) dL_law_1152 ?_
      refine lv_topi (fun y422 ey422 => ?_)
      refine ca_L_106 hx hb hml hown hts hH (c_X10_through oI oR mx kx (by exact xm)) hl.1 mx kx rfl (by decide) (Nat.le_of_ble_eq_true rfl) ⟨by decide, by decide⟩ dL_law_1153 (fun y423 I423 J423 R423 H locs hp hH => ?_)
      obtain ⟨⟨oI, oR, sc423⟩, ry423⟩ := hp
      have sm : Sm C ms_L_law (I, J, R) (I423, J423, R423) := sm.tr sc423 rfl
      have xm : XM L C I423 := XM.sm (u := (I, J, R)) (v := (I423, J423, R423)) xm sc423 rfl rfl
      have xw : XW L C I423 := XW.sm (u := (I, J, R)) (v := (I423, J423, R423)) xw sc423 rfl rfl
      have fr0o := fr0
      have fr0 : R423 x 6 = some th := (sc423 x 6 (by rw [kx]; decide)).2.2.trans fr0
      have fa1o := fa1
      have fb1o := fb1
      have fa1 : I423 th 2 = vv1 := (sc423 th 2 (by rw [kth]; decide)).1.trans fa1
      have fb1 : I423 mo 21 = vv1 := (sc423 mo 21 (by rw [km]; decide)).1.trans fb1
      refine lv_pop hx hb dL_law_1156 rfl ?_
      refine lv_aload_n hx hb dL_law_1157 rfl (lv_at hl 2 rfl) ?_
      refine lv_aload_n hx hb dL_law_1158 rfl (lv_at hl 0 rfl) ?_
      refine lv_iload_n hx hb dL_law_1159 rfl (lv_at hl 3 rfl) ?_
      refine lv_iconst (v := 1) hx hb dL_law_1160 (by decide) ?_
      refine lv_iadd hx hb dL_law_1161 ?_
      refine lv_topi (fun y424 ey424 => ?_)
      obtain rfl : y415 = y424 := ey415.trans ey424.symm
      refine va_sld hx hb hX hbl hbA hH.2.2.2.1 (sc_in ty415 hi h6 (by decide)) dL_law_1162 ?_
      refine lv_topi (fun y425 ey425 => ?_)
      obtain rfl : y416 = y425 := ey416.trans ey425.symm
      refine lv_aload_n hx hb dL_law_1163 rfl (lv_at hl 0 rfl) ?_
      refine lv_iload_n hx hb dL_law_1164 rfl (lv_at hl 3 rfl) ?_
      refine lv_iconst (v := 2) hx hb dL_law_1165 (by decide) ?_
      refine lv_iadd hx hb dL_law_1166 ?_
      refine lv_topi (fun y426 ey426 => ?_)
      obtain rfl : y417 = y426 := ey417.trans ey426.symm
      refine va_sld hx hb hX hbl hbA hH.2.2.2.1 (sc_in ty417 hi h6 (by decide)) dL_law_1167 ?_
      refine lv_topi (fun y427 ey427 => ?_)
      obtain rfl : y418 = y427 := ey418.trans ey427.symm
      refine lv_aload_n hx hb dL_law_1168 rfl (lv_at hl 0 rfl) ?_
      refine lv_iload_n hx hb dL_law_1169 rfl (lv_at hl 3 rfl) ?_
      refine lv_iconst (v := 3) hx hb dL_law_1170 (by decide) ?_
      refine lv_iadd hx hb dL_law_1171 ?_
      refine lv_topi (fun y428 ey428 => ?_)
      obtain rfl : y419 = y428 := ey419.trans ey428.symm
      refine va_sld hx hb hX hbl hbA hH.2.2.2.1 (sc_in ty419 hi h6 (by decide)) dL_law_1172 ?_
      refine lv_topi (fun y429 ey429 => ?_)
      obtain rfl : y420 = y429 := ey420.trans ey429.symm
      refine lv_aload_n hx hb dL_law_1173 rfl (lv_at hl 0 rfl) ?_
      refine lv_iload_n hx hb dL_law_1174 rfl (lv_at hl 3 rfl) ?_
      refine lv_iconst (v := 4) hx hb dL_law_1175 (by decide) ?_
      refine lv_iadd hx hb dL_law_1176 ?_
      refine lv_topi (fun y430 ey430 => ?_)
      obtain rfl : y421 = y430 := ey421.trans ey430.symm
      refine va_sld hx hb hX hbl hbA hH.2.2.2.1 (sc_in ty421 hi h6 (by decide)) dL_law_1177 ?_
      refine lv_topi (fun y431 ey431 => ?_)
      obtain rfl : y422 = y431 := ey422.trans ey431.symm
      refine ca_L_109 hx hb hml hown hts hH (c_X11_through oI oR mm km (by exact xw)) hl.1 mm km rfl (by decide) (Nat.le_of_ble_eq_true rfl) ⟨by decide, by decide⟩ dL_law_1178 (fun y432 I432 J432 R432 H locs hp hH => ?_)
      obtain ⟨⟨oI, -, sc432⟩, eR432⟩ := hp
      obtain rfl : R423 = R432 := eR432.symm
      have sm : Sm C ms_L_law (I, J, R) (I432, J432, R423) := sm.tr sc432 rfl
      have xm : XM L C I432 := XM.sm (u := (I423, J423, R423)) (v := (I432, J432, R423)) xm sc432 rfl rfl
      have xw : XW L C I432 := XW.sm (u := (I423, J423, R423)) (v := (I432, J432, R423)) xw sc432 rfl rfl
      have fr0o := fr0
      have fr0 : R423 x 6 = some th := (sc432 x 6 (by rw [kx]; decide)).2.2.trans fr0
      have fa1o := fa1
      have fb1o := fb1
      have fa1 : I432 th 2 = vv1 := (sc432 th 2 (by rw [kth]; decide)).1.trans fa1
      have fb1 : I432 mo 21 = vv1 := (sc432 mo 21 (by rw [km]; decide)).1.trans fb1
      refine lv_pop hx hb dL_law_1181 rfl ?_
      refine lv_goto (tgt := 1244) hx hb dL_law_1182 (by decide) ?_
      exact L_1244 h6 I432 J432 R423 _ _ _ hH oI oR xm xw fr0 (fa1.trans fb1.symm) (lv_sub hl [0, 1, 2, 3] rfl)
    · have r433 : Rg y4 (21) (21) := ⟨by rw [z5]; decide, by rw [z5]; decide⟩
      refine lv_tableIn (tgt := 1185) hx hb dL_law_33 (by rw [z5]; decide) (by rw [z5]; decide) (by rw [z5]; rfl) (by decide) ?_
      refine lv_aload_n hx hb dL_law_1185 rfl (lv_at hl 1 rfl) ?_
      refine ca_L_110 hx hb hml hown hts hH (c_X10_value oI oR mx kx) hl.1 mx kx rfl (by decide) (Nat.le_of_ble_eq_true rfl) ⟨by decide, by decide⟩ dL_law_1186 (fun w434 I434 J434 R434 H locs hp hH => ?_)
      obtain ⟨eI434, eJ434, eR434⟩ := hp
      obtain rfl : I = I434 := eI434.symm
      obtain rfl : J = J434 := eJ434.symm
      obtain rfl : R = R434 := eR434.symm
      refine lv_pop2_2 hx hb dL_law_1189 rfl ?_
      refine lv_aload_n hx hb dL_law_1190 rfl (lv_at hl 2 rfl) ?_
      refine ca_L_114 hx hb hml hown hts hH (c_X11_value oI oR mm km) hl.1 mm km rfl (by decide) (Nat.le_of_ble_eq_true rfl) ⟨by decide, by decide⟩ dL_law_1191 (fun w435 I435 J435 R435 H locs hp hH => ?_)
      obtain ⟨⟨oI, -, sc435⟩, eJ435, eR435⟩ := hp
      obtain rfl : J = J435 := eJ435.symm
      obtain rfl : R = R435 := eR435.symm
      have sm : Sm C ms_L_law (I, J, R) (I435, J, R) := sm.tr sc435 rfl
      have xm : XM L C I435 := XM.sm (u := (I, J, R)) (v := (I435, J, R)) xm sc435 rfl rfl
      have xw : XW L C I435 := XW.sm (u := (I, J, R)) (v := (I435, J, R)) xw sc435 rfl rfl
      have fr0o := fr0
      have fr0 : R x 6 = some th := (sc435 x 6 (by rw [kx]; decide)).2.2.trans fr0
      have fa1o := fa1
      have fb1o := fb1
      have fa1 : I435 th 2 = vv1 := (sc435 th 2 (by rw [kth]; decide)).1.trans fa1
      have fb1 : I435 mo 21 = vv1 := (sc435 mo 21 (by rw [km]; decide)).1.trans fb1
      refine lv_pop2_2 hx hb dL_law_1194 rfl ?_
      refine lv_goto (tgt := 1244) hx hb dL_law_1195 (by decide) ?_
      exact L_1244 h6 I435 J R _ _ _ hH oI oR xm xw fr0 (fa1.trans fb1.symm) (lv_sub hl [0, 1, 2, 3] rfl)
    · have r436 : Rg y4 (22) (22) := ⟨by rw [z5]; decide, by rw [z5]; decide⟩
      refine lv_tableIn (tgt := 1198) hx hb dL_law_33 (by rw [z5]; decide) (by rw [z5]; decide) (by rw [z5]; rfl) (by decide) ?_
      refine lv_aload_n hx hb dL_law_1198 rfl (lv_at hl 1 rfl) ?_
      refine lv_aload_n hx hb dL_law_1199 rfl (lv_at hl 0 rfl) ?_
      refine lv_iload_n hx hb dL_law_1200 rfl (lv_at hl 3 rfl) ?_
      refine lv_iconst (v := 1) hx hb dL_law_1201 (by decide) ?_
      refine lv_iadd hx hb dL_law_1202 ?_
      refine lv_topi (fun y437 ey437 => ?_)
      obtain ⟨ty437, ry437⟩ := Rg_addx (a' := (1)) (b' := (3073)) (rfl : x3.toInt = _) (by decide : Int32.toInt 1 = 1) r3 (Rg_c (x := 1) (a := (1)) (b := (1)) (by decide)) (by decide)
      rw [← ey437] at ty437 ry437
      refine va_sld hx hb hX hbl hbA hH.2.2.2.1 (sc_in ty437 hi h6 (by decide)) dL_law_1203 ?_
      refine lv_topi (fun y438 ey438 => ?_)
      refine ca_L_115 hx hb hml hown hts hH (c_X10_failed oI oR mx kx) hl.1 mx kx rfl (by decide) (Nat.le_of_ble_eq_true rfl) ⟨by decide, by decide⟩ dL_law_1204 (fun y439 I439 J439 R439 H locs hp hH => ?_)
      obtain ⟨eI439, eJ439, eR439⟩ := hp
      obtain rfl : I = I439 := eI439.symm
      obtain rfl : J = J439 := eJ439.symm
      obtain rfl : R = R439 := eR439.symm
      refine lv_pop hx hb dL_law_1207 rfl ?_
      refine lv_aload_n hx hb dL_law_1208 rfl (lv_at hl 2 rfl) ?_
      refine lv_aload_n hx hb dL_law_1209 rfl (lv_at hl 0 rfl) ?_
      refine lv_iload_n hx hb dL_law_1210 rfl (lv_at hl 3 rfl) ?_
      refine lv_iconst (v := 1) hx hb dL_law_1211 (by decide) ?_
      refine lv_iadd hx hb dL_law_1212 ?_
      refine lv_topi (fun y440 ey440 => ?_)
      obtain rfl : y437 = y440 := ey437.trans ey440.symm
      refine va_sld hx hb hX hbl hbA hH.2.2.2.1 (sc_in ty437 hi h6 (by decide)) dL_law_1213 ?_
      refine lv_topi (fun y441 ey441 => ?_)
      obtain rfl : y438 = y441 := ey438.trans ey441.symm
      refine ca_L_118 hx hb hml hown hts hH (c_X11_failed oI oR mm km) hl.1 mm km rfl (by decide) (Nat.le_of_ble_eq_true rfl) ⟨by decide, by decide⟩ dL_law_1214 (fun y442 I442 J442 R442 H locs hp hH => ?_)
      obtain ⟨⟨oI, -, sc442⟩, eJ442, eR442⟩ := hp
      obtain rfl : J = J442 := eJ442.symm
      obtain rfl : R = R442 := eR442.symm
      have sm : Sm C ms_L_law (I, J, R) (I442, J, R) := sm.tr sc442 rfl
      have xm : XM L C I442 := XM.sm (u := (I, J, R)) (v := (I442, J, R)) xm sc442 rfl rfl
      have xw : XW L C I442 := XW.sm (u := (I, J, R)) (v := (I442, J, R)) xw sc442 rfl rfl
      have fr0o := fr0
      have fr0 : R x 6 = some th := (sc442 x 6 (by rw [kx]; decide)).2.2.trans fr0
      have fa1o := fa1
      have fb1o := fb1
      have fa1 : I442 th 2 = vv1 := (sc442 th 2 (by rw [kth]; decide)).1.trans fa1
      have fb1 : I442 mo 21 = vv1 := (sc442 mo 21 (by rw [km]; decide)).1.trans fb1
      refine lv_pop hx hb dL_law_1217 rfl ?_
      refine lv_goto (tgt := 1244) hx hb dL_law_1218 (by decide) ?_
      exact L_1244 h6 I442 J R _ _ _ hH oI oR xm xw fr0 (fa1.trans fb1.symm) (lv_sub hl [0, 1, 2, 3] rfl)
    · have r443 : Rg y4 (23) (23) := ⟨by rw [z5]; decide, by rw [z5]; decide⟩
      refine lv_tableIn (tgt := 1221) hx hb dL_law_33 (by rw [z5]; decide) (by rw [z5]; decide) (by rw [z5]; rfl) (by decide) ?_
      refine lv_aload_n hx hb dL_law_1221 rfl (lv_at hl 1 rfl) ?_
      refine lv_aload_n hx hb dL_law_1222 rfl (lv_at hl 0 rfl) ?_
      refine lv_iload_n hx hb dL_law_1223 rfl (lv_at hl 3 rfl) ?_
      refine lv_iconst (v := 1) hx hb dL_law_1224 (by decide) ?_
      refine lv_iadd hx hb dL_law_1225 ?_
      refine lv_topi (fun y444 ey444 => ?_)
      obtain ⟨ty444, ry444⟩ := Rg_addx (a' := (1)) (b' := (3073)) (rfl : x3.toInt = _) (by decide : Int32.toInt 1 = 1) r3 (Rg_c (x := 1) (a := (1)) (b := (1)) (by decide)) (by decide)
      rw [← ey444] at ty444 ry444
      refine va_sld hx hb hX hbl hbA hH.2.2.2.1 (sc_in ty444 hi h6 (by decide)) dL_law_1226 ?_
      refine lv_topi (fun y445 ey445 => ?_)
      refine ca_L_119 hx hb hml hown hts hH (c_X10_count oI oR mx kx) hl.1 mx kx rfl (by decide) (Nat.le_of_ble_eq_true rfl) ⟨by decide, by decide⟩ dL_law_1227 (fun y446 I446 J446 R446 H locs hp hH => ?_)
      obtain ⟨eI446, eJ446, eR446⟩ := hp
      obtain rfl : I = I446 := eI446.symm
      obtain rfl : J = J446 := eJ446.symm
      obtain rfl : R = R446 := eR446.symm
      refine lv_pop hx hb dL_law_1230 rfl ?_
      refine lv_aload_n hx hb dL_law_1231 rfl (lv_at hl 2 rfl) ?_
      refine lv_aload_n hx hb dL_law_1232 rfl (lv_at hl 0 rfl) ?_
      refine lv_iload_n hx hb dL_law_1233 rfl (lv_at hl 3 rfl) ?_
      refine lv_iconst (v := 1) hx hb dL_law_1234 (by decide) ?_
      refine lv_iadd hx hb dL_law_1235 ?_
      refine lv_topi (fun y447 ey447 => ?_)
      obtain rfl : y444 = y447 := ey444.trans ey447.symm
      refine va_sld hx hb hX hbl hbA hH.2.2.2.1 (sc_in ty444 hi h6 (by decide)) dL_law_1236 ?_
      refine lv_topi (fun y448 ey448 => ?_)
      obtain rfl : y445 = y448 := ey445.trans ey448.symm
      refine ca_L_122 hx hb hml hown hts hH (c_X11_count oI oR mm km) hl.1 mm km rfl (by decide) (Nat.le_of_ble_eq_true rfl) ⟨by decide, by decide⟩ dL_law_1237 (fun y449 I449 J449 R449 H locs hp hH => ?_)
      obtain ⟨⟨oI, -, sc449⟩, eJ449, eR449⟩ := hp
      obtain rfl : J = J449 := eJ449.symm
      obtain rfl : R = R449 := eR449.symm
      have sm : Sm C ms_L_law (I, J, R) (I449, J, R) := sm.tr sc449 rfl
      have xm : XM L C I449 := XM.sm (u := (I, J, R)) (v := (I449, J, R)) xm sc449 rfl rfl
      have xw : XW L C I449 := XW.sm (u := (I, J, R)) (v := (I449, J, R)) xw sc449 rfl rfl
      have fr0o := fr0
      have fr0 : R x 6 = some th := (sc449 x 6 (by rw [kx]; decide)).2.2.trans fr0
      have fa1o := fa1
      have fb1o := fb1
      have fa1 : I449 th 2 = vv1 := (sc449 th 2 (by rw [kth]; decide)).1.trans fa1
      have fb1 : I449 mo 21 = vv1 := (sc449 mo 21 (by rw [km]; decide)).1.trans fb1
      refine lv_pop hx hb dL_law_1240 rfl ?_
      refine lv_goto (tgt := 1244) hx hb dL_law_1241 (by decide) ?_
      exact L_1244 h6 I449 J R _ _ _ hH oI oR xm xw fr0 (fa1.trans fb1.symm) (lv_sub hl [0, 1, 2, 3] rfl)
