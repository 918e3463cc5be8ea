noncomputable def B_X11_nextPlaces_9 (a0 : Nat) (x1 : Int32) (y2 : Int32) (y1 : Int32) (n38 : Nat) (n10 : Nat) (k_9 : hI → hJ → hR → Int32 → (Int32 × hU)) (I_9 : hI) (J : hJ) (R : hR) (x2_9 : Int32) : Int32 × hU :=
  (if x2_9 < (0 : Int32) then (if (0 : Int32) ≤ x2_9 then default else ((0 : Int32), (I_9, J, R))) else nm (I_9 n38 (Int32.toNatClampNeg x2_9)) fun y11 => (if y11 = (4 : Int32) then nm (u2 I_9 n38 (Int32.toNatClampNeg x2_9) (0 : Int32)) fun I23 => nm (x2_9 + (-1 : Int32)) fun y24 => k_9 I23 J R y24 else (if (0 : Int32) ≤ x2_9 then nm (y11 + (1 : Int32)) fun y18 => nm (u2 I_9 n38 (Int32.toNatClampNeg x2_9) y18) fun I19 => ((1 : Int32), (I19, J, R)) else default)))
noncomputable def F_X11_nextPlaces_9 (a0 : Nat) (x1 : Int32) (y2 : Int32) (y1 : Int32) (n38 : Nat) (n10 : Nat) : Nat → hI → hJ → hR → Int32 → (Int32 × hU) := fun n => Nat.rec (motive := fun _ => hI → hJ → hR → Int32 → (Int32 × hU)) (fun _ _ _ _ => default) (fun _ k => B_X11_nextPlaces_9 a0 x1 y2 y1 n38 n10 k) n
theorem F_X11_nextPlaces_9_s {a0 : Nat} {x1 : Int32} {y2 : Int32} {y1 : Int32} {n38 : Nat} {n10 : Nat} {n : Nat} {I_9 : hI} {J : hJ} {R : hR} {x2_9 : Int32} : F_X11_nextPlaces_9 a0 x1 y2 y1 n38 n10 (n + 1)  I_9 J R x2_9 = B_X11_nextPlaces_9 a0 x1 y2 y1 n38 n10 (F_X11_nextPlaces_9 a0 x1 y2 y1 n38 n10 n)  I_9 J R x2_9 := rfl
noncomputable def F_X11_nextPlaces (a0 : Nat) (x1 : Int32) (I : hI) (J : hJ) (R : hR) : Int32 × hU :=
  nm ((R a0 38).getD 0) fun n38 => nm ((R a0 10).getD 0) fun n10 => nm (I n10 (Int32.toNatClampNeg x1)) fun y1 => nm (y1 - (1 : Int32)) fun y2 => F_X11_nextPlaces_9 a0 x1 y2 y1 n38 n10 ((y2.toInt + 1).toNat + 1) I J R y2
def ms_X11_nextPlaces : List Nat := [5760]
set_option maxHeartbeats 4000000 in
set_option maxRecDepth 100000 in
theorem c_X11_nextPlaces {l : Launch} {D : va_G} {cy : Nat → ClassId} {L : List Nat} {C : Nat → Nat} {b0 : Nat} {I : hI} {J : hJ} {R : hR} {a0 : Nat} {x1 : Int32} (oI : OkI L C I) (oR : OkR L C R) (m0 : a0 ∈ L) (k0 : C a0 = 11) (h1 : Rg x1 (0) (119)) : CI l yX11_nextPlaces cX11_nextPlaces 3 .boolean 0 D cy L C b0 [.ref a0, .int x1] (I, J, R) (fun r v => Ps L C ms_X11_nextPlaces (I, J, R) v ∧ v.2.1 = J ∧ v.2.2 = R ∧ Rg r (0) (1) ∧ ((r = 1 ∧ ∀ b, R a0 38 = some b → val4 (I b) < val4 (v.1 b)) ∨ r = 0) ∧ F_X11_nextPlaces a0 x1 I J R = (r, v)) := by
  refine CI.mkZ (plainFor_of_name (by decide)) (Nat.le_of_ble_eq_true rfl) ?_
  intro p e s m args below meth c ls Q hF ret hH hl
  obtain ⟨hx, hb, -, hml, hown, hts, -⟩ := hF
  have hl : lv_has ls 3 [(0, .ref a0), (1, .int x1)] := hl
  have hH : Hp D cy L C b0 s s.heap I J R s.heap [] := hH
  have sm : Sm C ms_X11_nextPlaces (I, J, R) (I, J, R) := Sm.rf
  obtain ⟨TT0, hT⟩ : ∃ TT0, TT0 = F_X11_nextPlaces a0 x1 I J R := ⟨_, rfl⟩
  have hv := hT
  unfold F_X11_nextPlaces at hv
  obtain ⟨n38, mn38, vn38, kn38⟩ := rf_11_38 oR m0 k0
  replace hv := fnR hv vn38
  obtain ⟨n10, mn10, vn10, kn10⟩ := rf_11_10 oR m0 k0
  replace hv := fnR hv vn10
  refine lv_aload_n hx hb dX11_nextPlaces_0 rfl (lv_at hl 0 rfl) ?_
  refine gf_11_10 vn10 hx hb hts hown hH m0 k0 rfl kf_X11_35 dX11_nextPlaces_1 ?_
  refine lv_iload_n hx hb dX11_nextPlaces_4 rfl (lv_at hl 1 rfl) ?_
  refine ld_72 hx hb hH mn10 kn10 (Rg_in h1 (by decide)) dX11_nextPlaces_5 ?_
  refine lv_topi (fun y1 ey1 => ?_)
  have ry1 : Rg y1 (0) (4) := by rw [ey1]; exact rd_72 oI mn10 kn10 (Rg_in h1 (by decide))
  replace hv := fnS hv ey1
  refine lv_iconst (v := 1) hx hb dX11_nextPlaces_6 (by decide) ?_
  refine lv_isub hx hb dX11_nextPlaces_7 ?_
  refine lv_topi (fun y2 ey2 => ?_)
  replace hv := fnS hv ey2
  obtain ⟨ty2, ry2⟩ := Rg_subx (a' := (-1)) (b' := (3)) (rfl : y1.toInt = _) (by decide : Int32.toInt 1 = 1) ry1 (Rg_c (x := 1) (a := (1)) (b := (1)) (by decide)) (by decide)
  rw [← ey2] at ty2 ry2
  refine lv_istore_n (lv' := [(2, .int y2), (0, .ref a0), (1, .int x1)]) hx hb dX11_nextPlaces_8 rfl hl (by decide) rfl (fun ls hl => ?_)
  have L_9 : ∀ (n_9 : Nat) (I_9 : hI) (H : Heap) (locs : List Loc) (ls : Array Slot) (x2_9 : Int32), (x2_9.toInt + 1).toNat < n_9 → Hp D cy L C b0 s s.heap I_9 J R H locs → TT0 = F_X11_nextPlaces_9 a0 x1 y2 y1 n38 n10 n_9 I_9 J R x2_9 → OkI L C I_9 → Sm C ms_X11_nextPlaces (I, J, R) (I_9, J, R) → Rg x2_9 (-1) (3) → (val4 (I_9 n38) + p5 (Int32.toInt x2_9) = val4 (I n38) + p5 ((I n10 x1.toNatClampNeg).toInt - 1)) → lv_has ls 3 [(0, .ref a0), (2, .int x2_9)] → W p l e (rmD 0) s m args below meth c H locs 0 0 Q (F0 m 9 ls []) := by
    intro n_9
    induction n_9 with
    | zero => intro I_9 H locs ls x2_9 h; exact absurd h (Nat.not_lt_zero _)
    | succ n_9 ih_9 =>
      intro I_9 H locs ls x2_9 hn_9 hH hv oI sm r2_9 g0_9 hl
      replace hv := hv.trans F_X11_nextPlaces_9_s
      unfold B_X11_nextPlaces_9 at hv
      refine lv_iload_n hx hb dX11_nextPlaces_9 rfl (lv_at hl 1 rfl) ?_
      refine lv_if_lt (tgt := 36) hx hb dX11_nextPlaces_10 (by decide) (fun q3 => ?_) (fun q3 => ?_)
      · replace hv := fnP hv q3
        have l4 := Rg_lt q3
        have r5 : Rg x2_9 (-1) (-1) := Rg_ult r2_9 (Rg_lt q3) (Rg_c (x := 0) (a := (0)) (b := (0)) (by decide)) (by decide)
        refine lv_iload_n hx hb dX11_nextPlaces_36 rfl (lv_at hl 1 rfl) ?_
        refine lv_if_ge (tgt := 42) hx hb dX11_nextPlaces_37 (by decide) (fun q6 => ?_) (fun q6 => ?_)
        · replace hv := fnP hv q6
          exact Rg_no (Rg_ule (Rg_c (x := 0) (a := (0)) (b := (0)) (by decide)) (Rg_le q6) r5 (b' := (-1)) (by decide)) (by decide)
        replace hv := fnN hv q6
        have l8 := Rg_nle q6
        refine lv_iconst (v := 0) hx hb dX11_nextPlaces_40 (by decide) ?_
        exact ret (0) _ _ _ _ _ _ _ dX11_nextPlaces_41 hH (Rg_01 (Rg_w (Rg_c (x := 0) (a := (0)) (b := (0)) (by decide)) (by decide))) ⟨⟨oI, oR, sm⟩, rfl, rfl, (Rg_w (Rg_c (x := 0) (a := (0)) (b := (0)) (by decide)) (by decide)), (by exact Or.inr rfl), (hT.symm.trans hv)⟩
      replace hv := fnN hv q3
      have l9 := Rg_nlt q3
      have r10 : Rg x2_9 (0) (3) := Rg_lle r2_9 (Rg_nlt q3) (Rg_c (x := 0) (a := (0)) (b := (0)) (by decide)) (by decide)
      refine lv_aload_n hx hb dX11_nextPlaces_13 rfl (lv_at hl 0 rfl) ?_
      refine gf_11_38 vn38 hx hb hts hown hH m0 k0 rfl kf_X11_90 dX11_nextPlaces_14 ?_
      refine lv_iload_n hx hb dX11_nextPlaces_17 rfl (lv_at hl 1 rfl) ?_
      refine ld_90 hx hb hH mn38 kn38 (Rg_in r10 (by decide)) dX11_nextPlaces_18 ?_
      refine lv_topi (fun y11 ey11 => ?_)
      have ry11 : Rg y11 (0) (4) := by rw [ey11]; exact rd_90 oI mn38 kn38 (Rg_in r10 (by decide))
      replace hv := fnS hv ey11
      refine lv_iconst (v := 4) hx hb dX11_nextPlaces_19 (by decide) ?_
      refine lv_icmp_ne (tgt := 36) hx hb dX11_nextPlaces_20 (by decide) (fun q12 => ?_) (fun q12 => ?_)
      rotate_left
      · replace hv := fnP hv q12
        have l21 := congrArg Int32.toInt q12
        have r22 : Rg y11 (4) (4) := Rg_both ry11 (Rg_eqv q12 (Rg_c (x := 4) (a := (4)) (b := (4)) (by decide))) (by decide)
        refine lv_aload_n hx hb dX11_nextPlaces_23 rfl (lv_at hl 0 rfl) ?_
        refine gf_11_38 vn38 hx hb hts hown hH m0 k0 rfl kf_X11_90 dX11_nextPlaces_24 ?_
        refine lv_iload_n hx hb dX11_nextPlaces_27 rfl (lv_at hl 1 rfl) ?_
        refine lv_iconst (v := 0) hx hb dX11_nextPlaces_28 (by decide) ?_
        refine st_90 hx hb hH mn38 kn38 (Rg_in r10 (by decide)) dX11_nextPlaces_29 (fun I23 H locs eI23 hH => ?_)
        replace hv := fnS hv eI23
        have oI : OkI L C I23 := by rw [eI23]; exact wr_90 oI kn38 (Rg_w (Rg_c (x := 0) (a := (0)) (b := (0)) (by decide)) (by decide))
        have sm : Sm C ms_X11_nextPlaces (I, J, R) (I23, J, R) := by rw [eI23]; exact sm.stI kn38 (mC_arr (by decide) rfl)
        obtain ⟨y24, ey24⟩ : ∃ y : Int32, y = x2_9 + (-1) := ⟨_, rfl⟩
        replace hv := fnS hv ey24
        obtain ⟨ty24, ry24⟩ := Rg_addx (a' := (-1)) (b' := (2)) (rfl : x2_9.toInt = _) (by decide : Int32.toInt (-1) = -1) r10 (Rg_c (x := (-1)) (a := (-1)) (b := (-1)) (by decide)) (by decide)
        rw [← ey24] at ty24 ry24
        refine lv_iinc (v := y24) (lv' := [(2, .int y24), (0, .ref a0)]) hx hb dX11_nextPlaces_30 hl (k := 1) rfl (by rw [ey24]; rfl) (by decide) rfl (fun ls hl => ?_)
        refine lv_goto (tgt := 9) hx hb dX11_nextPlaces_33 (by decide) ?_
        exact ih_9 I23 _ _ _ y24 (lp_dn hn_9 ty24 r10 (by decide)) hH hv oI sm (Rg_w ry24 (by decide)) (by rw [eI23, val4_up (Rg_w r10 (by decide)), ← ey11, p5_down (Rg_w (a' := 0) (b' := 3) r10 (by decide)).1 (Rg_w (a' := 0) (b' := 3) r10 (by decide)).2 ty24, show Int32.toInt 0 = 0 by decide, Rg_eq r22]; have g := g0_9; omega) (lv_sub hl [1, 0] rfl)
      replace hv := fnN hv q12
      have l13 := Rg_ne q12
      have r14 : Rg y11 (0) (3) := Rg_nehi ry11 (Rg_ne q12) (Rg_c (x := 4) (a := (4)) (b := (4)) (by decide)) (by decide)
      refine lv_iload_n hx hb dX11_nextPlaces_36 rfl (lv_at hl 1 rfl) ?_
      refine lv_if_ge (tgt := 42) hx hb dX11_nextPlaces_37 (by decide) (fun q15 => ?_) (fun q15 => ?_)
      rotate_left
      · replace hv := fnN hv q15
        exact Rg_no (Rg_ult r10 (Rg_nle q15) (Rg_c (x := 0) (a := (0)) (b := (0)) (by decide)) (b' := (-1)) (by decide)) (by decide)
      replace hv := fnP hv q15
      have l16 := Rg_le q15
      refine lv_aload_n hx hb dX11_nextPlaces_42 rfl (lv_at hl 0 rfl) ?_
      refine gf_11_38 vn38 hx hb hts hown hH m0 k0 rfl kf_X11_90 dX11_nextPlaces_43 ?_
      refine lv_iload_n hx hb dX11_nextPlaces_46 rfl (lv_at hl 1 rfl) ?_
      refine lv_dup2_11 hx hb dX11_nextPlaces_47 rfl rfl ?_
      refine ld_90 hx hb hH mn38 kn38 (Rg_in r10 (by decide)) dX11_nextPlaces_48 ?_
      refine lv_topi (fun y17 ey17 => ?_)
      obtain rfl : y11 = y17 := ey11.trans ey17.symm
      refine lv_iconst (v := 1) hx hb dX11_nextPlaces_49 (by decide) ?_
      refine lv_iadd hx hb dX11_nextPlaces_50 ?_
      refine lv_topi (fun y18 ey18 => ?_)
      replace hv := fnS hv ey18
      obtain ⟨ty18, ry18⟩ := Rg_addx (a' := (1)) (b' := (4)) (rfl : y11.toInt = _) (by decide : Int32.toInt 1 = 1) r14 (Rg_c (x := 1) (a := (1)) (b := (1)) (by decide)) (by decide)
      rw [← ey18] at ty18 ry18
      refine st_90 hx hb hH mn38 kn38 (Rg_in r10 (by decide)) dX11_nextPlaces_51 (fun I19 H locs eI19 hH => ?_)
      replace hv := fnS hv eI19
      have oI : OkI L C I19 := by rw [eI19]; exact wr_90 oI kn38 (Rg_w ry18 (by decide))
      have sm : Sm C ms_X11_nextPlaces (I, J, R) (I19, J, R) := by rw [eI19]; exact sm.stI kn38 (mC_arr (by decide) rfl)
      refine lv_iconst (v := 1) hx hb dX11_nextPlaces_52 (by decide) ?_
      exact ret (1) _ _ _ _ _ _ _ dX11_nextPlaces_53 hH (Rg_01 (Rg_w (Rg_c (x := 1) (a := (1)) (b := (1)) (by decide)) (by decide))) ⟨⟨oI, oR, sm⟩, rfl, rfl, (Rg_w (Rg_c (x := 1) (a := (1)) (b := (1)) (by decide)) (by decide)), (by refine Or.inl ⟨rfl, fun b hb => ?_⟩; obtain rfl : n38 = b := Option.some.inj (vn38.symm.trans hb); show val4 (I n38) < val4 (I19 n38); rw [eI19, val4_up r10, ← ey11, ty18]; have p1 := p5_pos (Int32.toInt x2_9); have p2 := p5_pos ((I n10 x1.toNatClampNeg).toInt - 1); have g := g0_9; have e9 : (Int32.toInt y11 + 1 - Int32.toInt y11) * p5 (Int32.toInt x2_9) = p5 (Int32.toInt x2_9) := (by rw [show Int32.toInt y11 + 1 - Int32.toInt y11 = 1 by omega, Int.one_mul]); rw [e9]; omega), (hT.symm.trans hv)⟩
  exact L_9 ((y2.toInt + 1).toNat + 1) I _ _ _ y2 (Nat.lt_succ_self _) hH hv oI sm ry2 (by rw [ty2, ey1]) (lv_sub hl [1, 0] rfl)
noncomputable def F_X11_serve_150 (a0 : Nat) (x1 : Int32) (x2 : Int32) (y5 : Int32) (y4 : Int32) (n38 : Nat) (b3 : Nat) (x3_91 : Int32) (x4_91 : Int32) (k_91 : hI → hJ → hR → Int32 → Int32 → (Int32 × hU)) (I_150 : hI) (J : hJ) (R : hR) : Int32 × hU :=
  nmU (F_X11_nextPlaces a0 x2 I_150 J R) fun y6 I6 _ _ => (if y6 = (1 : Int32) then k_91 I6 J R x3_91 (1 : Int32) else k_91 I6 J R x3_91 (0 : Int32))
noncomputable def B_X11_serve_124 (a0 : Nat) (x1 : Int32) (x2 : Int32) (y5 : Int32) (y4 : Int32) (n38 : Nat) (b3 : Nat) (x3_91 : Int32) (x4_91 : Int32) (k_91 : hI → hJ → hR → Int32 → Int32 → (Int32 × hU)) (k_124 : hI → hJ → hR → Int32 → (Int32 × hU)) (I_124 : hI) (J : hJ) (R : hR) (x6_124 : Int32) : Int32 × hU :=
  (if (4 : Int32) ≤ x6_124 then F_X11_serve_150 a0 x1 x2 y5 y4 n38 b3 x3_91 x4_91 k_91 I_124 J R else nm ((R a0 39).getD 0) fun b10 => nm (I_124 n38 (Int32.toNatClampNeg x6_124)) fun y11 => nm (u2 I_124 b10 (Int32.toNatClampNeg x6_124) y11) fun I12 => nm (x6_124 + (1 : Int32)) fun y13 => k_124 I12 J R y13)
noncomputable def F_X11_serve_124 (a0 : Nat) (x1 : Int32) (x2 : Int32) (y5 : Int32) (y4 : Int32) (n38 : Nat) (b3 : Nat) (x3_91 : Int32) (x4_91 : Int32) (k_91 : hI → hJ → hR → Int32 → Int32 → (Int32 × hU)) : Nat → hI → hJ → hR → Int32 → (Int32 × hU) := fun n => Nat.rec (motive := fun _ => hI → hJ → hR → Int32 → (Int32 × hU)) (fun _ _ _ _ => default) (fun _ k => B_X11_serve_124 a0 x1 x2 y5 y4 n38 b3 x3_91 x4_91 k_91 k) n
theorem F_X11_serve_124_s {a0 : Nat} {x1 : Int32} {x2 : Int32} {y5 : Int32} {y4 : Int32} {n38 : Nat} {b3 : Nat} {x3_91 : Int32} {x4_91 : Int32} {k_91 : hI → hJ → hR → Int32 → Int32 → (Int32 × hU)} {n : Nat} {I_124 : hI} {J : hJ} {R : hR} {x6_124 : Int32} : F_X11_serve_124 a0 x1 x2 y5 y4 n38 b3 x3_91 x4_91 k_91 (n + 1)  I_124 J R x6_124 = B_X11_serve_124 a0 x1 x2 y5 y4 n38 b3 x3_91 x4_91 k_91 (F_X11_serve_124 a0 x1 x2 y5 y4 n38 b3 x3_91 x4_91 k_91 n)  I_124 J R x6_124 := rfl
noncomputable def B_X11_serve_91 (a0 : Nat) (x1 : Int32) (x2 : Int32) (y5 : Int32) (y4 : Int32) (n38 : Nat) (b3 : Nat) (k_91 : hI → hJ → hR → Int32 → Int32 → (Int32 × hU)) (I_91 : hI) (J : hJ) (R : hR) (x3_91 : Int32) (x4_91 : Int32) : Int32 × hU :=
  (if x4_91 = (0 : Int32) then nm (I_91 a0 40) fun y16 => (y16, (I_91, J, R)) else nm (F_X11_costOf a0 x1 x2 I_91 J R) fun y18 => nm (y18 + x3_91) fun y19 => nm (I_91 a0 40) fun y20 => (if y20 ≤ y19 then F_X11_serve_150 a0 x1 x2 y5 y4 n38 b3 x3_91 x4_91 k_91 I_91 J R else nm (u2 I_91 a0 40 y19) fun I24 => F_X11_serve_124 a0 x1 x2 y5 y4 n38 b3 x3_91 x4_91 k_91 ((4 - (0 : Int32).toInt).toNat + 1) I24 J R (0 : Int32)))
noncomputable def F_X11_serve_91 (a0 : Nat) (x1 : Int32) (x2 : Int32) (y5 : Int32) (y4 : Int32) (n38 : Nat) (b3 : Nat) : Nat → hI → hJ → hR → Int32 → Int32 → (Int32 × hU) := fun n => Nat.rec (motive := fun _ => hI → hJ → hR → Int32 → Int32 → (Int32 × hU)) (fun _ _ _ _ _ => default) (fun _ k => B_X11_serve_91 a0 x1 x2 y5 y4 n38 b3 k) n
theorem F_X11_serve_91_s {a0 : Nat} {x1 : Int32} {x2 : Int32} {y5 : Int32} {y4 : Int32} {n38 : Nat} {b3 : Nat} {n : Nat} {I_91 : hI} {J : hJ} {R : hR} {x3_91 : Int32} {x4_91 : Int32} : F_X11_serve_91 a0 x1 x2 y5 y4 n38 b3 (n + 1)  I_91 J R x3_91 x4_91 = B_X11_serve_91 a0 x1 x2 y5 y4 n38 b3 (F_X11_serve_91 a0 x1 x2 y5 y4 n38 b3 n)  I_91 J R x3_91 x4_91 := rfl
noncomputable def B_X11_serve_68 (a0 : Nat) (x1 : Int32) (x2 : Int32) (y5 : Int32) (y4 : Int32) (n38 : Nat) (b3 : Nat) (k_68 : hI → hJ → hR → Int32 → Int32 → (Int32 × hU)) (I_68 : hI) (J : hJ) (R : hR) (x3_68 : Int32) (x4_68 : Int32) : Int32 × hU :=
  (if (4 : Int32) ≤ x4_68 then F_X11_serve_91 a0 x1 x2 y5 y4 n38 b3 ((if (1 : Int32) = 0 then 0 else (626 - val4 (I_68 n38)).toNat) + 1) I_68 J R x3_68 (1 : Int32) else nm (u2 I_68 n38 (Int32.toNatClampNeg x4_68) (0 : Int32)) fun I29 => nm (x4_68 + (1 : Int32)) fun y30 => k_68 I29 J R x3_68 y30)
noncomputable def F_X11_serve_68 (a0 : Nat) (x1 : Int32) (x2 : Int32) (y5 : Int32) (y4 : Int32) (n38 : Nat) (b3 : Nat) : Nat → hI → hJ → hR → Int32 → Int32 → (Int32 × hU) := fun n => Nat.rec (motive := fun _ => hI → hJ → hR → Int32 → Int32 → (Int32 × hU)) (fun _ _ _ _ _ => default) (fun _ k => B_X11_serve_68 a0 x1 x2 y5 y4 n38 b3 k) n
theorem F_X11_serve_68_s {a0 : Nat} {x1 : Int32} {x2 : Int32} {y5 : Int32} {y4 : Int32} {n38 : Nat} {b3 : Nat} {n : Nat} {I_68 : hI} {J : hJ} {R : hR} {x3_68 : Int32} {x4_68 : Int32} : F_X11_serve_68 a0 x1 x2 y5 y4 n38 b3 (n + 1)  I_68 J R x3_68 x4_68 = B_X11_serve_68 a0 x1 x2 y5 y4 n38 b3 (F_X11_serve_68 a0 x1 x2 y5 y4 n38 b3 n)  I_68 J R x3_68 x4_68 := rfl
noncomputable def F_X11_serve_55 (a0 : Nat) (x1 : Int32) (x2 : Int32) (y5 : Int32) (y4 : Int32) (n38 : Nat) (b3 : Nat) (I_55 : hI) (J : hJ) (R : hR) (xs0_55 : Int32) : Int32 × hU :=
  (if xs0_55 = (1000000 : Int32) then ((1000000 : Int32), (I_55, J, R)) else F_X11_serve_68 a0 x1 x2 y5 y4 n38 b3 ((4 - (0 : Int32).toInt).toNat + 1) I_55 J R xs0_55 (0 : Int32))
noncomputable def F_X11_serve (a0 : Nat) (x1 : Int32) (x2 : Int32) (I : hI) (J : hJ) (R : hR) : Int32 × hU :=
  nm ((R a0 38).getD 0) fun n38 => nm (u2 I a0 40 (1000000 : Int32)) fun I1 => nm ((R a0 9).getD 0) fun b3 => nm (I1 b3 (Int32.toNatClampNeg x1)) fun y4 => nm (I1 b3 (Int32.toNatClampNeg x2)) fun y5 => (if y4 = y5 then F_X11_serve_55 a0 x1 x2 y5 y4 n38 b3 I1 J R (0 : Int32) else nm ((R a0 17).getD 0) fun b35 => nm ((100 : Int32) * y4) fun y37 => nm (y37 + y5) fun y39 => nm (I1 b35 (Int32.toNatClampNeg y39)) fun y40 => (if y40 = (0 : Int32) then F_X11_serve_55 a0 x1 x2 y5 y4 n38 b3 I1 J R (1000000 : Int32) else F_X11_serve_55 a0 x1 x2 y5 y4 n38 b3 I1 J R (2 : Int32)))
def ms_X11_serve : List Nat := [744, 5760, 5824]
set_option maxHeartbeats 4000000 in
set_option maxRecDepth 100000 in
theorem c_X11_serve {l : Launch} {D : va_G} {cy : Nat → ClassId} {L : List Nat} {C : Nat → Nat} {b0 : Nat} {I : hI} {J : hJ} {R : hR} {a0 : Nat} {x1 : Int32} {x2 : Int32} (oI : OkI L C I) (oR : OkR L C R) (m0 : a0 ∈ L) (k0 : C a0 = 11) (h1 : Rg x1 (0) (119)) (h2 : Rg x2 (0) (119)) : CI l yX11_serve cX11_serve 7 .int 1 D cy L C b0 [.ref a0, .int x1, .int x2] (I, J, R) (fun r v => Ps L C ms_X11_serve (I, J, R) v ∧ v.2.1 = J ∧ v.2.2 = R ∧ F_X11_serve a0 x1 x2 I J R = (r, v)) := by
  refine CI.mkI (plainFor_of_name (by decide)) (Nat.le_of_ble_eq_true rfl) ?_
  intro p e s m args below meth c ls Q hF ret hH hl
  obtain ⟨hx, hb, -, hml, hown, hts, -⟩ := hF
  have hl : lv_has ls 7 [(0, .ref a0), (1, .int x1), (2, .int x2)] := hl
  have hH : Hp D cy L C b0 s s.heap I J R s.heap [] := hH
  have sm : Sm C ms_X11_serve (I, J, R) (I, J, R) := Sm.rf
  obtain ⟨TT0, hT⟩ : ∃ TT0, TT0 = F_X11_serve a0 x1 x2 I J R := ⟨_, rfl⟩
  have hv := hT
  unfold F_X11_serve at hv
  obtain ⟨n38, mn38, vn38, kn38⟩ := rf_11_38 oR m0 k0
  replace hv := fnR hv vn38
  refine lv_aload_n hx hb dX11_serve_0 rfl (lv_at hl 0 rfl) ?_
  refine lv_ldc (v := 1000000) hx hb hown (hts _ kk_X11_180) dX11_serve_1 ?_
  refine pf_11_40 hx hb hts hown hH m0 k0 rfl kf_X11_242 dX11_serve_3 (fun I1 H locs eI1 hH => ?_)
  replace hv := fnS hv eI1
  have oI : OkI L C I1 := by rw [eI1]; exact wf_11_40 oI k0 (Rg_w (Rg_c (x := 1000000) (a := (1000000)) (b := (1000000)) (by decide)) (by decide))
  have sm : Sm C ms_X11_serve (I, J, R) (I1, J, R) := by rw [eI1]; exact sm.stI k0 (mC_obj (by decide) rfl)
  have f2 : 1000000 = I1 a0 40 := by rw [eI1, u2_at]
  refine lv_aload_n hx hb dX11_serve_6 rfl (lv_at hl 0 rfl) ?_
  obtain ⟨b3, mb3, vb3, kb3⟩ := rf_11_9 oR m0 k0
  replace hv := fnR hv vb3
  refine gf_11_9 vb3 hx hb hts hown hH m0 k0 rfl kf_X11_32 dX11_serve_7 ?_
  refine lv_iload_n hx hb dX11_serve_10 rfl (lv_at hl 1 rfl) ?_
  refine ld_71 hx hb hH mb3 kb3 (Rg_in h1 (by decide)) dX11_serve_11 ?_
  refine lv_topi (fun y4 ey4 => ?_)
  have ry4 : Rg y4 (0) (99) := by rw [ey4]; exact rd_71 oI mb3 kb3 (Rg_in h1 (by decide))
  replace hv := fnS hv ey4
  refine lv_aload_n hx hb dX11_serve_12 rfl (lv_at hl 0 rfl) ?_
  refine gf_11_9 vb3 hx hb hts hown hH m0 k0 rfl kf_X11_32 dX11_serve_13 ?_
  refine lv_iload_n hx hb dX11_serve_16 rfl (lv_at hl 2 rfl) ?_
  refine ld_71 hx hb hH mb3 kb3 (Rg_in h2 (by decide)) dX11_serve_17 ?_
  refine lv_topi (fun y5 ey5 => ?_)
  have ry5 : Rg y5 (0) (99) := by rw [ey5]; exact rd_71 oI mb3 kb3 (Rg_in h2 (by decide))
  replace hv := fnS hv ey5
  have L_91 : ∀ (n_91 : Nat) (I_91 : hI) (H : Heap) (locs : List Loc) (ls : Array Slot) (x3_91 : Int32) (x4_91 : Int32), (if (x4_91 : Int32) = 0 then 0 else (626 - val4 (I_91 n38)).toNat) < n_91 → Hp D cy L C b0 s s.heap I_91 J R H locs → TT0 = F_X11_serve_91 a0 x1 x2 y5 y4 n38 b3 n_91 I_91 J R x3_91 x4_91 → OkI L C I_91 → Sm C ms_X11_serve (I, J, R) (I_91, J, R) → Rg x1 (0) (119) → Rg x2 (0) (119) → Rg x3_91 (0) (999999) → Rg x4_91 (0) (1) → lv_has ls 7 [(0, .ref a0), (1, .int x1), (2, .int x2), (3, .int x3_91), (4, .int x4_91)] → W p l e (rmD 1) s m args below meth c H locs 0 0 Q (F0 m 91 ls []) := by
    intro n_91
    induction n_91 with
    | zero => intro I_91 H locs ls x3_91 x4_91 h; exact absurd h (Nat.not_lt_zero _)
    | succ n_91 ih_91 =>
      intro I_91 H locs ls x3_91 x4_91 hn_91 hH hv oI sm r1_91 r2_91 r3_91 r4_91 hl
      replace hv := hv.trans F_X11_serve_91_s
      unfold B_X11_serve_91 at hv
      have L_150 : ∀ (I_150 : hI) (H : Heap) (locs : List Loc) (ls : Array Slot), Hp D cy L C b0 s s.heap I_150 J R H locs → TT0 = F_X11_serve_150 a0 x1 x2 y5 y4 n38 b3 x3_91 x4_91 (F_X11_serve_91 a0 x1 x2 y5 y4 n38 b3 n_91) I_150 J R → OkI L C I_150 → Sm C ms_X11_serve (I, J, R) (I_150, J, R) → Rg x1 (0) (119) → Rg x2 (0) (119) → Rg x3_91 (0) (999999) → I_150 n38 = I_91 n38 → (¬ x4_91 = 0) → (val4 (I_91 n38) ≤ 624) → lv_has ls 7 [(0, .ref a0), (1, .int x1), (2, .int x2), (3, .int x3_91)] → W p l e (rmD 1) s m args below meth c H locs 0 0 Q (F0 m 150 ls []) := by
        intro I_150 H locs ls hH hv oI sm r1_150 r2_150 r3_150 g0_150 g1_150 g2_150 hl
        unfold F_X11_serve_150 at hv
        refine lv_aload_n hx hb dX11_serve_150 rfl (lv_at hl 0 rfl) ?_
        refine lv_iload_n hx hb dX11_serve_151 rfl (lv_at hl 2 rfl) ?_
        refine ca_X11_249 hx hb hml hown hts hH (c_X11_nextPlaces oI oR m0 k0 r2_150) hl.1 m0 k0 rfl (by decide) (Nat.le_of_ble_eq_true rfl) ⟨Nat.zero_le _, Nat.zero_le _⟩ dX11_serve_152 (fun y6 I6 J6 R6 H locs hp hH => ?_)
        obtain ⟨⟨oI, -, sc6⟩, eJ6, eR6, ry6, hp6, hf6⟩ := hp
        obtain rfl : J = J6 := eJ6.symm
        obtain rfl : R = R6 := eR6.symm
        replace hv := fnC hv hf6
        have sm : Sm C ms_X11_serve (I, J, R) (I6, J, R) := sm.tr sc6 rfl
        have kp6 : I_150 n38 = I_91 n38 := g0_150
        rcases hp6 with ⟨rfl, hq6⟩ | rfl
        · replace hv := fnP hv rfl
          refine lv_istore (lv' := [(4, .int 1), (0, .ref a0), (1, .int x1), (2, .int x2), (3, .int x3_91)]) hx hb dX11_serve_155 hl (by decide) rfl (fun ls hl => ?_)
          refine lv_goto (tgt := 91) hx hb dX11_serve_157 (by decide) ?_
          exact ih_91 I6 _ _ _ x3_91 1 (by have h1 := hn_91; rw [if_neg g1_150] at h1; rw [if_neg (by decide)]; have h2 : val4 (I_150 n38) < val4 (I6 n38) := hq6 _ vn38; rw [kp6] at h2; have h3 := (val4_le oI mn38 kn38).2; omega) hH hv oI sm r1_150 r2_150 r3_150 (Rg_w (Rg_c (x := 1) (a := (1)) (b := (1)) (by decide)) (by decide)) (lv_sub hl [1, 2, 3, 4, 0] rfl)
        replace hv := fnN hv (by decide)
        refine lv_istore (lv' := [(4, .int 0), (0, .ref a0), (1, .int x1), (2, .int x2), (3, .int x3_91)]) hx hb dX11_serve_155 hl (by decide) rfl (fun ls hl => ?_)
        refine lv_goto (tgt := 91) hx hb dX11_serve_157 (by decide) ?_
        exact ih_91 I6 _ _ _ x3_91 0 (by have h1 := hn_91; rw [if_neg g1_150] at h1; rw [if_pos rfl]; have h2 := g2_150; omega) hH hv oI sm r1_150 r2_150 r3_150 (Rg_w (Rg_c (x := 0) (a := (0)) (b := (0)) (by decide)) (by decide)) (lv_sub hl [1, 2, 3, 4, 0] rfl)
      have L_124 : ∀ (n_124 : Nat) (I_124 : hI) (H : Heap) (locs : List Loc) (ls : Array Slot) (x6_124 : Int32), (4 - x6_124.toInt).toNat < n_124 → Hp D cy L C b0 s s.heap I_124 J R H locs → TT0 = F_X11_serve_124 a0 x1 x2 y5 y4 n38 b3 x3_91 x4_91 (F_X11_serve_91 a0 x1 x2 y5 y4 n38 b3 n_91) n_124 I_124 J R x6_124 → OkI L C I_124 → Sm C ms_X11_serve (I, J, R) (I_124, J, R) → Rg x1 (0) (119) → Rg x2 (0) (119) → Rg x3_91 (0) (999999) → Rg x6_124 (0) (4) → I_124 n38 = I_91 n38 → (¬ x4_91 = 0) → (val4 (I_91 n38) ≤ 624) → lv_has ls 7 [(0, .ref a0), (1, .int x1), (2, .int x2), (3, .int x3_91), (6, .int x6_124)] → W p l e (rmD 1) s m args below meth c H locs 0 0 Q (F0 m 124 ls []) := by
        intro n_124
        induction n_124 with
        | zero => intro I_124 H locs ls x6_124 h; exact absurd h (Nat.not_lt_zero _)
        | succ n_124 ih_124 =>
          intro I_124 H locs ls x6_124 hn_124 hH hv oI sm r1_124 r2_124 r3_124 r6_124 g0_124 g1_124 g2_124 hl
          replace hv := hv.trans F_X11_serve_124_s
          unfold B_X11_serve_124 at hv
          refine lv_iload hx hb dX11_serve_124 (lv_at hl 4 rfl) ?_
          refine lv_iconst (v := 4) hx hb dX11_serve_126 (by decide) ?_
          refine lv_icmp_ge (tgt := 150) hx hb dX11_serve_127 (by decide) (fun q7 => ?_) (fun q7 => ?_)
          · replace hv := fnP hv q7
            have r8 : Rg x6_124 (4) (4) := Rg_lle r6_124 (Rg_le q7) (Rg_c (x := 4) (a := (4)) (b := (4)) (by decide)) (by decide)
            exact L_150 I_124 _ _ _ hH hv oI sm r1_124 r2_124 r3_124 g0_124 (by exact g1_124) (by exact g2_124) (lv_sub hl [0, 1, 2, 3] rfl)
          replace hv := fnN hv q7
          have r9 : Rg x6_124 (0) (3) := Rg_ult r6_124 (Rg_nle q7) (Rg_c (x := 4) (a := (4)) (b := (4)) (by decide)) (by decide)
          refine lv_aload_n hx hb dX11_serve_130 rfl (lv_at hl 0 rfl) ?_
          obtain ⟨b10, mb10, vb10, kb10⟩ := rf_11_39 oR m0 k0
          replace hv := fnR hv vb10
          refine gf_11_39 vb10 hx hb hts hown hH m0 k0 rfl kf_X11_93 dX11_serve_131 ?_
          refine lv_iload hx hb dX11_serve_134 (lv_at hl 4 rfl) ?_
          refine lv_aload_n hx hb dX11_serve_136 rfl (lv_at hl 0 rfl) ?_
          refine gf_11_38 vn38 hx hb hts hown hH m0 k0 rfl kf_X11_90 dX11_serve_137 ?_
          refine lv_iload hx hb dX11_serve_140 (lv_at hl 4 rfl) ?_
          refine ld_90 hx hb hH mn38 kn38 (Rg_in r9 (by decide)) dX11_serve_142 ?_
          refine lv_topi (fun y11 ey11 => ?_)
          have ry11 : Rg y11 (0) (4) := by rw [ey11]; exact rd_90 oI mn38 kn38 (Rg_in r9 (by decide))
          replace hv := fnS hv ey11
          refine st_91 hx hb hH mb10 kb10 (Rg_in r9 (by decide)) dX11_serve_143 (fun I12 H locs eI12 hH => ?_)
          replace hv := fnS hv eI12
          have oI : OkI L C I12 := by rw [eI12]; exact wr_91 oI kb10 ry11
          have sm : Sm C ms_X11_serve (I, J, R) (I12, J, R) := by rw [eI12]; exact sm.stI kb10 (mC_arr (by decide) rfl)
          obtain ⟨y13, ey13⟩ : ∃ y : Int32, y = x6_124 + 1 := ⟨_, rfl⟩
          replace hv := fnS hv ey13
          obtain ⟨ty13, ry13⟩ := Rg_addx (a' := (1)) (b' := (4)) (rfl : x6_124.toInt = _) (by decide : Int32.toInt 1 = 1) r9 (Rg_c (x := 1) (a := (1)) (b := (1)) (by decide)) (by decide)
          rw [← ey13] at ty13 ry13
          refine lv_iinc (v := y13) (lv' := [(6, .int y13), (0, .ref a0), (1, .int x1), (2, .int x2), (3, .int x3_91)]) hx hb dX11_serve_144 hl (k := 4) rfl (by rw [ey13]; rfl) (by decide) rfl (fun ls hl => ?_)
          refine lv_goto (tgt := 124) hx hb dX11_serve_147 (by decide) ?_
          exact ih_124 I12 _ _ _ y13 (lp_up hn_124 ty13 (Rg_ltc r9 (by decide))) hH hv oI sm r1_124 r2_124 r3_124 (Rg_w ry13 (by decide)) (Eq.trans ((congrFun eI12 n38).trans (u2_ne (ne_role kn38 kb10 (by decide)))) g0_124) (by exact g1_124) (by exact g2_124) (lv_sub hl [1, 2, 3, 4, 0] rfl)
      refine lv_iload hx hb dX11_serve_91 (lv_at hl 4 rfl) ?_
      refine lv_if_eq (tgt := 160) hx hb dX11_serve_93 (by decide) (fun q14 => ?_) (fun q14 => ?_)
      · replace hv := fnP hv q14
        have r15 : Rg x4_91 (0) (0) := Rg_both r4_91 (Rg_eqv q14 (Rg_c (x := 0) (a := (0)) (b := (0)) (by decide))) (by decide)
        refine lv_aload_n hx hb dX11_serve_160 rfl (lv_at hl 0 rfl) ?_
        refine gf_11_40 hx hb hts hown hH m0 k0 rfl kf_X11_242 dX11_serve_161 ?_
        refine lv_topi (fun y16 ey16 => ?_)
        replace hv := fnS hv ey16
        exact ret (y16) _ _ _ _ _ _ _ dX11_serve_164 hH ⟨⟨oI, oR, sm⟩, rfl, rfl, (hT.symm.trans hv)⟩
      replace hv := fnN hv q14
      have r17 : Rg x4_91 (1) (1) := Rg_nelo r4_91 (Rg_ne q14) (Rg_c (x := 0) (a := (0)) (b := (0)) (by decide)) (by decide)
      have vb_91 := val4_le oI mn38 kn38
      refine lv_aload_n hx hb dX11_serve_96 rfl (lv_at hl 0 rfl) ?_
      refine lv_iload_n hx hb dX11_serve_97 rfl (lv_at hl 1 rfl) ?_
      refine lv_iload_n hx hb dX11_serve_98 rfl (lv_at hl 2 rfl) ?_
      refine ca_X11_245 hx hb hml hown hts hH (c_X11_costOf oI oR m0 k0 r1_91 r2_91) hl.1 m0 k0 rfl (by decide) (Nat.le_of_ble_eq_true rfl) ⟨Nat.zero_le _, Nat.zero_le _⟩ dX11_serve_99 (fun y18 I18 J18 R18 H locs hp hH => ?_)
      obtain ⟨eI18, eJ18, eR18, hf18⟩ := hp
      obtain rfl : I_91 = I18 := eI18.symm
      obtain rfl : J = J18 := eJ18.symm
      obtain rfl : R = R18 := eR18.symm
      replace hv := fnS hv hf18.symm
      refine lv_iload_n hx hb dX11_serve_102 rfl (lv_at hl 3 rfl) ?_
      refine lv_iadd hx hb dX11_serve_103 ?_
      refine lv_topi (fun y19 ey19 => ?_)
      replace hv := fnS hv ey19
      refine lv_istore (lv' := [(5, .int y19), (0, .ref a0), (1, .int x1), (2, .int x2), (3, .int x3_91), (4, .int x4_91)]) hx hb dX11_serve_104 hl (by decide) rfl (fun ls hl => ?_)
      refine lv_iload hx hb dX11_serve_106 (lv_at hl 0 rfl) ?_
      refine lv_aload_n hx hb dX11_serve_108 rfl (lv_at hl 1 rfl) ?_
      refine gf_11_40 hx hb hts hown hH m0 k0 rfl kf_X11_242 dX11_serve_109 ?_
      refine lv_topi (fun y20 ey20 => ?_)
      replace hv := fnS hv ey20
      refine lv_icmp_ge (tgt := 150) hx hb dX11_serve_112 (by decide) (fun q21 => ?_) (fun q21 => ?_)
      · replace hv := fnP hv q21
        exact L_150 I_91 _ _ _ hH hv oI sm r1_91 r2_91 r3_91 rfl (by exact Rg_ne0 r17 (by decide)) (by exact vb_91.2) (lv_sub hl [1, 2, 3, 4] rfl)
      replace hv := fnN hv q21
      have r22 : Rg y19 (-2147483648) (2147483646) := Rg_ult (Rg_any y19) (Rg_nle q21) (Rg_any y20) (by decide)
      have r23 : Rg y20 (-2147483647) (2147483647) := Rg_llt (Rg_any y20) (Rg_nle q21) (Rg_any y19) (by decide)
      refine lv_aload_n hx hb dX11_serve_115 rfl (lv_at hl 1 rfl) ?_
      refine lv_iload hx hb dX11_serve_116 (lv_at hl 0 rfl) ?_
      refine pf_11_40 hx hb hts hown hH m0 k0 rfl kf_X11_242 dX11_serve_118 (fun I24 H locs eI24 hH => ?_)
      replace hv := fnS hv eI24
      have oI : OkI L C I24 := by rw [eI24]; exact wf_11_40 oI k0 (Rg_w r22 (by decide))
      have sm : Sm C ms_X11_serve (I, J, R) (I24, J, R) := by rw [eI24]; exact sm.stI k0 (mC_obj (by decide) rfl)
      have f25 : y19 = I24 a0 40 := by rw [eI24, u2_at]
      refine lv_iconst (v := 0) hx hb dX11_serve_121 (by decide) ?_
      refine lv_istore (lv' := [(6, .int 0), (5, .int y19), (0, .ref a0), (1, .int x1), (2, .int x2), (3, .int x3_91), (4, .int x4_91)]) hx hb dX11_serve_122 hl (by decide) rfl (fun ls hl => ?_)
      exact L_124 ((4 - (0 : Int32).toInt).toNat + 1) I24 _ _ _ 0 (Nat.lt_succ_self _) hH hv oI sm r1_91 r2_91 r3_91 (Rg_w (Rg_c (x := 0) (a := (0)) (b := (0)) (by decide)) (by decide)) (Eq.trans ((congrFun eI24 n38).trans (u2_ne (ne_role kn38 k0 (by decide)))) rfl) (by exact Rg_ne0 r17 (by decide)) (by exact vb_91.2) (lv_sub hl [2, 3, 4, 5, 0] rfl)
  have L_68 : ∀ (n_68 : Nat) (I_68 : hI) (H : Heap) (locs : List Loc) (ls : Array Slot) (x3_68 : Int32) (x4_68 : Int32), (4 - x4_68.toInt).toNat < n_68 → Hp D cy L C b0 s s.heap I_68 J R H locs → TT0 = F_X11_serve_68 a0 x1 x2 y5 y4 n38 b3 n_68 I_68 J R x3_68 x4_68 → OkI L C I_68 → Sm C ms_X11_serve (I, J, R) (I_68, J, R) → Rg x1 (0) (119) → Rg x2 (0) (119) → Rg x3_68 (0) (999999) → Rg x4_68 (0) (4) → lv_has ls 7 [(0, .ref a0), (1, .int x1), (2, .int x2), (3, .int x3_68), (4, .int x4_68)] → W p l e (rmD 1) s m args below meth c H locs 0 0 Q (F0 m 68 ls []) := by
    intro n_68
    induction n_68 with
    | zero => intro I_68 H locs ls x3_68 x4_68 h; exact absurd h (Nat.not_lt_zero _)
    | succ n_68 ih_68 =>
      intro I_68 H locs ls x3_68 x4_68 hn_68 hH hv oI sm r1_68 r2_68 r3_68 r4_68 hl
      replace hv := hv.trans F_X11_serve_68_s
      unfold B_X11_serve_68 at hv
      refine lv_iload hx hb dX11_serve_68 (lv_at hl 4 rfl) ?_
      refine lv_iconst (v := 4) hx hb dX11_serve_70 (by decide) ?_
      refine lv_icmp_ge (tgt := 88) hx hb dX11_serve_71 (by decide) (fun q26 => ?_) (fun q26 => ?_)
      · replace hv := fnP hv q26
        have r27 : Rg x4_68 (4) (4) := Rg_lle r4_68 (Rg_le q26) (Rg_c (x := 4) (a := (4)) (b := (4)) (by decide)) (by decide)
        refine lv_iconst (v := 1) hx hb dX11_serve_88 (by decide) ?_
        refine lv_istore (lv' := [(4, .int 1), (0, .ref a0), (1, .int x1), (2, .int x2), (3, .int x3_68)]) hx hb dX11_serve_89 hl (by decide) rfl (fun ls hl => ?_)
        exact L_91 ((if (1 : Int32) = 0 then 0 else (626 - val4 (I_68 n38)).toNat) + 1) I_68 _ _ _ x3_68 1 (Nat.lt_succ_self _) hH hv oI sm r1_68 r2_68 r3_68 (Rg_w (Rg_c (x := 1) (a := (1)) (b := (1)) (by decide)) (by decide)) (lv_sub hl [1, 2, 3, 4, 0] rfl)
      replace hv := fnN hv q26
      have r28 : Rg x4_68 (0) (3) := Rg_ult r4_68 (Rg_nle q26) (Rg_c (x := 4) (a := (4)) (b := (4)) (by decide)) (by decide)
      refine lv_aload_n hx hb dX11_serve_74 rfl (lv_at hl 0 rfl) ?_
      refine gf_11_38 vn38 hx hb hts hown hH m0 k0 rfl kf_X11_90 dX11_serve_75 ?_
      refine lv_iload hx hb dX11_serve_78 (lv_at hl 4 rfl) ?_
      refine lv_iconst (v := 0) hx hb dX11_serve_80 (by decide) ?_
      refine st_90 hx hb hH mn38 kn38 (Rg_in r28 (by decide)) dX11_serve_81 (fun I29 H locs eI29 hH => ?_)
      replace hv := fnS hv eI29
      have oI : OkI L C I29 := by rw [eI29]; exact wr_90 oI kn38 (Rg_w (Rg_c (x := 0) (a := (0)) (b := (0)) (by decide)) (by decide))
      have sm : Sm C ms_X11_serve (I, J, R) (I29, J, R) := by rw [eI29]; exact sm.stI kn38 (mC_arr (by decide) rfl)
      obtain ⟨y30, ey30⟩ : ∃ y : Int32, y = x4_68 + 1 := ⟨_, rfl⟩
      replace hv := fnS hv ey30
      obtain ⟨ty30, ry30⟩ := Rg_addx (a' := (1)) (b' := (4)) (rfl : x4_68.toInt = _) (by decide : Int32.toInt 1 = 1) r28 (Rg_c (x := 1) (a := (1)) (b := (1)) (by decide)) (by decide)
      rw [← ey30] at ty30 ry30
      refine lv_iinc (v := y30) (lv' := [(4, .int y30), (0, .ref a0), (1, .int x1), (2, .int x2), (3, .int x3_68)]) hx hb dX11_serve_82 hl (k := 4) rfl (by rw [ey30]; rfl) (by decide) rfl (fun ls hl => ?_)
      refine lv_goto (tgt := 68) hx hb dX11_serve_85 (by decide) ?_
      exact ih_68 I29 _ _ _ x3_68 y30 (lp_up hn_68 ty30 (Rg_ltc r28 (by decide))) hH hv oI sm r1_68 r2_68 r3_68 (Rg_w ry30 (by decide)) (lv_sub hl [1, 2, 3, 4, 0] rfl)
  have L_55 : ∀ (I_55 : hI) (H : Heap) (locs : List Loc) (ls : Array Slot) (xs0_55 : Int32), Hp D cy L C b0 s s.heap I_55 J R H locs → TT0 = F_X11_serve_55 a0 x1 x2 y5 y4 n38 b3 I_55 J R xs0_55 → OkI L C I_55 → Sm C ms_X11_serve (I, J, R) (I_55, J, R) → Rg xs0_55 (0) (1000000) → Rg x1 (0) (119) → Rg x2 (0) (119) → lv_has ls 7 [(0, .ref a0), (1, .int x1), (2, .int x2)] → W p l e (rmD 1) s m args below meth c H locs 0 0 Q (F0 m 55 ls [.int xs0_55]) := by
    intro I_55 H locs ls xs0_55 hH hv oI sm rs0_55 r1_55 r2_55 hl
    unfold F_X11_serve_55 at hv
    refine lv_istore_n (lv' := [(3, .int xs0_55), (0, .ref a0), (1, .int x1), (2, .int x2)]) hx hb dX11_serve_55 rfl hl (by decide) rfl (fun ls hl => ?_)
    refine lv_iload_n hx hb dX11_serve_56 rfl (lv_at hl 0 rfl) ?_
    refine lv_ldc (v := 1000000) hx hb hown (hts _ kk_X11_180) dX11_serve_57 ?_
    refine lv_icmp_ne (tgt := 65) hx hb dX11_serve_59 (by decide) (fun q31 => ?_) (fun q31 => ?_)
    rotate_left
    · replace hv := fnP hv q31
      have r33 : Rg xs0_55 (1000000) (1000000) := Rg_both rs0_55 (Rg_eqv q31 (Rg_c (x := 1000000) (a := (1000000)) (b := (1000000)) (by decide))) (by decide)
      refine lv_ldc (v := 1000000) hx hb hown (hts _ kk_X11_180) dX11_serve_62 ?_
      exact ret (1000000) _ _ _ _ _ _ _ dX11_serve_64 hH ⟨⟨oI, oR, sm⟩, rfl, rfl, (hT.symm.trans hv)⟩
    replace hv := fnN hv q31
    have r32 : Rg xs0_55 (0) (999999) := Rg_nehi rs0_55 (Rg_ne q31) (Rg_c (x := 1000000) (a := (1000000)) (b := (1000000)) (by decide)) (by decide)
    refine lv_iconst (v := 0) hx hb dX11_serve_65 (by decide) ?_
    refine lv_istore (lv' := [(4, .int 0), (3, .int xs0_55), (0, .ref a0), (1, .int x1), (2, .int x2)]) hx hb dX11_serve_66 hl (by decide) rfl (fun ls hl => ?_)
    exact L_68 ((4 - (0 : Int32).toInt).toNat + 1) I_55 _ _ _ xs0_55 0 (Nat.lt_succ_self _) hH hv oI sm r1_55 r2_55 r32 (Rg_w (Rg_c (x := 0) (a := (0)) (b := (0)) (by decide)) (by decide)) (lv_sub hl [2, 3, 4, 1, 0] rfl)
  refine lv_icmp_ne (tgt := 25) hx hb dX11_serve_18 (by decide) (fun q34 => ?_) (fun q34 => ?_)
  rotate_left
  · replace hv := fnP hv q34
    refine lv_iconst (v := 0) hx hb dX11_serve_21 (by decide) ?_
    refine lv_goto (tgt := 55) hx hb dX11_serve_22 (by decide) ?_
    exact L_55 I1 _ _ _ 0 hH hv oI sm (Rg_w (Rg_c (x := 0) (a := (0)) (b := (0)) (by decide)) (by decide)) h1 h2 (lv_sub hl [0, 1, 2] rfl)
  replace hv := fnN hv q34
  refine lv_aload_n hx hb dX11_serve_25 rfl (lv_at hl 0 rfl) ?_
  obtain ⟨b35, mb35, vb35, kb35⟩ := rf_11_17 oR m0 k0
  replace hv := fnR hv vb35
  refine gf_11_17 vb35 hx hb hts hown hH m0 k0 rfl kf_X11_56 dX11_serve_26 ?_
  refine lv_bipush (v := 100) hx hb dX11_serve_29 (by decide) ?_
  refine lv_aload_n hx hb dX11_serve_31 rfl (lv_at hl 0 rfl) ?_
  refine gf_11_9 vb3 hx hb hts hown hH m0 k0 rfl kf_X11_32 dX11_serve_32 ?_
  refine lv_iload_n hx hb dX11_serve_35 rfl (lv_at hl 1 rfl) ?_
  refine ld_71 hx hb hH mb3 kb3 (Rg_in h1 (by decide)) dX11_serve_36 ?_
  refine lv_topi (fun y36 ey36 => ?_)
  obtain rfl : y4 = y36 := ey4.trans ey36.symm
  refine lv_imul hx hb dX11_serve_37 ?_
  refine lv_topi (fun y37 ey37 => ?_)
  replace hv := fnS hv ey37
  obtain ⟨ty37, ry37⟩ := Rg_mulx (a' := (0)) (b' := (9900)) (by decide : Int32.toInt 100 = 100) (rfl : y4.toInt = _) (Rg_c (x := 100) (a := (100)) (b := (100)) (by decide)) ry4 (by decide)
  rw [← ey37] at ty37 ry37
  refine lv_aload_n hx hb dX11_serve_38 rfl (lv_at hl 0 rfl) ?_
  refine gf_11_9 vb3 hx hb hts hown hH m0 k0 rfl kf_X11_32 dX11_serve_39 ?_
  refine lv_iload_n hx hb dX11_serve_42 rfl (lv_at hl 2 rfl) ?_
  refine ld_71 hx hb hH mb3 kb3 (Rg_in h2 (by decide)) dX11_serve_43 ?_
  refine lv_topi (fun y38 ey38 => ?_)
  obtain rfl : y5 = y38 := ey5.trans ey38.symm
  refine lv_iadd hx hb dX11_serve_44 ?_
  refine lv_topi (fun y39 ey39 => ?_)
  replace hv := fnS hv ey39
  obtain ⟨ty39, ry39⟩ := Rg_addx (a' := (0)) (b' := (9999)) (rfl : y37.toInt = _) (rfl : y5.toInt = _) ry37 ry5 (by decide)
  rw [← ey39] at ty39 ry39
  refine ld_79 hx hb hH mb35 kb35 (Rg_in ry39 (by decide)) dX11_serve_45 ?_
  refine lv_topi (fun y40 ey40 => ?_)
  have ry40 : Rg y40 (0) (1) := by rw [ey40]; exact rd_79 oI mb35 kb35 (Rg_in ry39 (by decide))
  replace hv := fnS hv ey40
  refine lv_if_eq (tgt := 53) hx hb dX11_serve_46 (by decide) (fun q41 => ?_) (fun q41 => ?_)
  · replace hv := fnP hv q41
    have r42 : Rg y40 (0) (0) := Rg_both ry40 (Rg_eqv q41 (Rg_c (x := 0) (a := (0)) (b := (0)) (by decide))) (by decide)
    refine lv_ldc (v := 1000000) hx hb hown (hts _ kk_X11_180) dX11_serve_53 ?_
    exact L_55 I1 _ _ _ 1000000 hH hv oI sm (Rg_w (Rg_c (x := 1000000) (a := (1000000)) (b := (1000000)) (by decide)) (by decide)) h1 h2 (lv_sub hl [0, 1, 2] rfl)
  replace hv := fnN hv q41
  have r43 : Rg y40 (1) (1) := Rg_nelo ry40 (Rg_ne q41) (Rg_c (x := 0) (a := (0)) (b := (0)) (by decide)) (by decide)
  refine lv_iconst (v := 2) hx hb dX11_serve_49 (by decide) ?_
  refine lv_goto (tgt := 55) hx hb dX11_serve_50 (by decide) ?_
  exact L_55 I1 _ _ _ 2 hH hv oI sm (Rg_w (Rg_c (x := 2) (a := (2)) (b := (2)) (by decide)) (by decide)) h1 h2 (lv_sub hl [0, 1, 2] rfl)
noncomputable def F_X11_findFit_100 (a0 : Nat) (x1 : Int32) (x2 : Int32) (I_100 : hI) (J : hJ) (R : hR) (xs0_100 : Int32) : Int32 × hU :=
  (xs0_100, (I_100, J, R))
noncomputable def F_X11_findFit_80 (a0 : Nat) (x1 : Int32) (x2 : Int32) (x3_8 : Int32) (k_8 : hI → hJ → hR → Int32 → (Int32 × hU)) (I_80 : hI) (J : hJ) (R : hR) : Int32 × hU :=
  nm (x3_8 + (1 : Int32)) fun y3 => k_8 I_80 J R y3
noncomputable def B_X11_findFit_54 (a0 : Nat) (x1 : Int32) (x2 : Int32) (x3_8 : Int32) (k_8 : hI → hJ → hR → Int32 → (Int32 × hU)) (k_54 : hI → hJ → hR → Int32 → (Int32 × hU)) (I_54 : hI) (J : hJ) (R : hR) (x5_54 : Int32) : Int32 × hU :=
  (if (4 : Int32) ≤ x5_54 then F_X11_findFit_80 a0 x1 x2 x3_8 k_8 I_54 J R else nm ((R a0 43).getD 0) fun b7 => nm ((R a0 39).getD 0) fun b8 => nm (I_54 b8 (Int32.toNatClampNeg x5_54)) fun y9 => nm (u2 I_54 b7 (Int32.toNatClampNeg x5_54) y9) fun I10 => nm (x5_54 + (1 : Int32)) fun y11 => k_54 I10 J R y11)
noncomputable def F_X11_findFit_54 (a0 : Nat) (x1 : Int32) (x2 : Int32) (x3_8 : Int32) (k_8 : hI → hJ → hR → Int32 → (Int32 × hU)) : Nat → hI → hJ → hR → Int32 → (Int32 × hU) := fun n => Nat.rec (motive := fun _ => hI → hJ → hR → Int32 → (Int32 × hU)) (fun _ _ _ _ => default) (fun _ k => B_X11_findFit_54 a0 x1 x2 x3_8 k_8 k) n
theorem F_X11_findFit_54_s {a0 : Nat} {x1 : Int32} {x2 : Int32} {x3_8 : Int32} {k_8 : hI → hJ → hR → Int32 → (Int32 × hU)} {n : Nat} {I_54 : hI} {J : hJ} {R : hR} {x5_54 : Int32} : F_X11_findFit_54 a0 x1 x2 x3_8 k_8 (n + 1)  I_54 J R x5_54 = B_X11_findFit_54 a0 x1 x2 x3_8 k_8 (F_X11_findFit_54 a0 x1 x2 x3_8 k_8 n)  I_54 J R x5_54 := rfl
noncomputable def B_X11_findFit_8 (a0 : Nat) (x1 : Int32) (x2 : Int32) (k_8 : hI → hJ → hR → Int32 → (Int32 × hU)) (I_8 : hI) (J : hJ) (R : hR) (x3_8 : Int32) : Int32 × hU :=
  nm ((R a0 8).getD 0) fun b12 => nm (I_8 b12 (Int32.toNatClampNeg x2)) fun y13 => (if y13 ≤ x3_8 then nm (I_8 a0 41) fun y15 => (if (1000000 : Int32) ≤ y15 then F_X11_findFit_100 a0 x1 x2 I_8 J R (0 : Int32) else F_X11_findFit_100 a0 x1 x2 I_8 J R (1 : Int32)) else nm ((6 : Int32) * x2) fun y21 => nm (y21 + x3_8) fun y22 => nmU (F_X11_serve a0 x1 y22 I_8 J R) fun y23 I23 _ _ => nm (I23 a0 41) fun y24 => (if y24 ≤ y23 then F_X11_findFit_80 a0 x1 x2 x3_8 k_8 I23 J R else nm (u2 I23 a0 41 y23) fun I28 => nm (u2 I28 a0 42 x3_8) fun I30 => F_X11_findFit_54 a0 x1 x2 x3_8 k_8 ((4 - (0 : Int32).toInt).toNat + 1) I30 J R (0 : Int32)))
noncomputable def F_X11_findFit_8 (a0 : Nat) (x1 : Int32) (x2 : Int32) : Nat → hI → hJ → hR → Int32 → (Int32 × hU) := fun n => Nat.rec (motive := fun _ => hI → hJ → hR → Int32 → (Int32 × hU)) (fun _ _ _ _ => default) (fun _ k => B_X11_findFit_8 a0 x1 x2 k) n
theorem F_X11_findFit_8_s {a0 : Nat} {x1 : Int32} {x2 : Int32} {n : Nat} {I_8 : hI} {J : hJ} {R : hR} {x3_8 : Int32} : F_X11_findFit_8 a0 x1 x2 (n + 1)  I_8 J R x3_8 = B_X11_findFit_8 a0 x1 x2 (F_X11_findFit_8 a0 x1 x2 n)  I_8 J R x3_8 := rfl
noncomputable def F_X11_findFit (a0 : Nat) (x1 : Int32) (x2 : Int32) (I : hI) (J : hJ) (R : hR) : Int32 × hU :=
  nm (u2 I a0 41 (1000000 : Int32)) fun I1 => F_X11_findFit_8 a0 x1 x2 ((6 - (0 : Int32).toInt).toNat + 1) I1 J R (0 : Int32)
def ms_X11_findFit : List Nat := [744, 745, 746, 5760, 5824, 5888]
set_option maxHeartbeats 4000000 in
set_option maxRecDepth 100000 in
theorem c_X11_findFit {l : Launch} {D : va_G} {cy : Nat → ClassId} {L : List Nat} {C : Nat → Nat} {b0 : Nat} {I : hI} {J : hJ} {R : hR} {a0 : Nat} {x1 : Int32} {x2 : Int32} (oI : OkI L C I) (oR : OkR L C R) (m0 : a0 ∈ L) (k0 : C a0 = 11) (h1 : Rg x1 (0) (119)) (h2 : Rg x2 (0) (19)) : CI l yX11_findFit cX11_findFit 6 .boolean 2 D cy L C b0 [.ref a0, .int x1, .int x2] (I, J, R) (fun r v => Ps L C ms_X11_findFit (I, J, R) v ∧ v.2.1 = J ∧ v.2.2 = R ∧ Rg r (0) (1) ∧ F_X11_findFit a0 x1 x2 I J R = (r, v)) := by
  refine CI.mkZ (plainFor_of_name (by decide)) (Nat.le_of_ble_eq_true rfl) ?_
  intro p e s m args below meth c ls Q hF ret hH hl
  obtain ⟨hx, hb, -, hml, hown, hts, -⟩ := hF
  have hl : lv_has ls 6 [(0, .ref a0), (1, .int x1), (2, .int x2)] := hl
  have hH : Hp D cy L C b0 s s.heap I J R s.heap [] := hH
  have sm : Sm C ms_X11_findFit (I, J, R) (I, J, R) := Sm.rf
  obtain ⟨TT0, hT⟩ : ∃ TT0, TT0 = F_X11_findFit a0 x1 x2 I J R := ⟨_, rfl⟩
  have hv := hT
  unfold F_X11_findFit at hv
  refine lv_aload_n hx hb dX11_findFit_0 rfl (lv_at hl 0 rfl) ?_
  refine lv_ldc (v := 1000000) hx hb hown (hts _ kk_X11_180) dX11_findFit_1 ?_
  refine pf_11_41 hx hb hts hown hH m0 k0 rfl kf_X11_253 dX11_findFit_3 (fun I1 H locs eI1 hH => ?_)
  replace hv := fnS hv eI1
  have oI : OkI L C I1 := by rw [eI1]; exact wf_11_41 oI k0 (Rg_w (Rg_c (x := 1000000) (a := (1000000)) (b := (1000000)) (by decide)) (by decide))
  have sm : Sm C ms_X11_findFit (I, J, R) (I1, J, R) := by rw [eI1]; exact sm.stI k0 (mC_obj (by decide) rfl)
  have f2 : 1000000 = I1 a0 41 := by rw [eI1, u2_at]
  refine lv_iconst (v := 0) hx hb dX11_findFit_6 (by decide) ?_
  refine lv_istore_n (lv' := [(3, .int 0), (0, .ref a0), (1, .int x1), (2, .int x2)]) hx hb dX11_findFit_7 rfl hl (by decide) rfl (fun ls hl => ?_)
  have L_100 : ∀ (I_100 : hI) (H : Heap) (locs : List Loc) (ls : Array Slot) (xs0_100 : Int32), Hp D cy L C b0 s s.heap I_100 J R H locs → TT0 = F_X11_findFit_100 a0 x1 x2 I_100 J R xs0_100 → OkI L C I_100 → Sm C ms_X11_findFit (I, J, R) (I_100, J, R) → Rg xs0_100 (0) (1) → lv_has ls 6 [] → W p l e (rmD 2) s m args below meth c H locs 0 0 Q (F0 m 100 ls [.int xs0_100]) := by
    intro I_100 H locs ls xs0_100 hH hv oI sm rs0_100 hl
    unfold F_X11_findFit_100 at hv
    exact ret (xs0_100) _ _ _ _ _ _ _ dX11_findFit_100 hH (Rg_01 (Rg_w rs0_100 (by decide))) ⟨⟨oI, oR, sm⟩, rfl, rfl, rs0_100, (hT.symm.trans hv)⟩
  have L_8 : ∀ (n_8 : Nat) (I_8 : hI) (H : Heap) (locs : List Loc) (ls : Array Slot) (x3_8 : Int32), (6 - x3_8.toInt).toNat < n_8 → Hp D cy L C b0 s s.heap I_8 J R H locs → TT0 = F_X11_findFit_8 a0 x1 x2 n_8 I_8 J R x3_8 → OkI L C I_8 → Sm C ms_X11_findFit (I, J, R) (I_8, J, R) → Rg x1 (0) (119) → Rg x2 (0) (19) → Rg x3_8 (0) (6) → lv_has ls 6 [(0, .ref a0), (1, .int x1), (2, .int x2), (3, .int x3_8)] → W p l e (rmD 2) s m args below meth c H locs 0 0 Q (F0 m 8 ls []) := by
    intro n_8
    induction n_8 with
    | zero => intro I_8 H locs ls x3_8 h; exact absurd h (Nat.not_lt_zero _)
    | succ n_8 ih_8 =>
      intro I_8 H locs ls x3_8 hn_8 hH hv oI sm r1_8 r2_8 r3_8 hl
      replace hv := hv.trans F_X11_findFit_8_s
      unfold B_X11_findFit_8 at hv
      have L_80 : ∀ (I_80 : hI) (H : Heap) (locs : List Loc) (ls : Array Slot), Hp D cy L C b0 s s.heap I_80 J R H locs → TT0 = F_X11_findFit_80 a0 x1 x2 x3_8 (F_X11_findFit_8 a0 x1 x2 n_8) I_80 J R → OkI L C I_80 → Sm C ms_X11_findFit (I, J, R) (I_80, J, R) → Rg x1 (0) (119) → Rg x2 (0) (19) → Rg x3_8 (0) (5) → lv_has ls 6 [(0, .ref a0), (1, .int x1), (2, .int x2), (3, .int x3_8)] → W p l e (rmD 2) s m args below meth c H locs 0 0 Q (F0 m 80 ls []) := by
        intro I_80 H locs ls hH hv oI sm r1_80 r2_80 r3_80 hl
        unfold F_X11_findFit_80 at hv
        obtain ⟨y3, ey3⟩ : ∃ y : Int32, y = x3_8 + 1 := ⟨_, rfl⟩
        replace hv := fnS hv ey3
        obtain ⟨ty3, ry3⟩ := Rg_addx (a' := (1)) (b' := (6)) (rfl : x3_8.toInt = _) (by decide : Int32.toInt 1 = 1) r3_80 (Rg_c (x := 1) (a := (1)) (b := (1)) (by decide)) (by decide)
        rw [← ey3] at ty3 ry3
        refine lv_iinc (v := y3) (lv' := [(3, .int y3), (0, .ref a0), (1, .int x1), (2, .int x2)]) hx hb dX11_findFit_80 hl (k := 3) rfl (by rw [ey3]; rfl) (by decide) rfl (fun ls hl => ?_)
        refine lv_goto (tgt := 8) hx hb dX11_findFit_83 (by decide) ?_
        exact ih_8 I_80 _ _ _ y3 (lp_up hn_8 ty3 (Rg_ltc r3_80 (by decide))) hH hv oI sm r1_80 r2_80 (Rg_w ry3 (by decide)) (lv_sub hl [1, 2, 3, 0] rfl)
      have L_54 : ∀ (n_54 : Nat) (I_54 : hI) (H : Heap) (locs : List Loc) (ls : Array Slot) (x5_54 : Int32), (4 - x5_54.toInt).toNat < n_54 → Hp D cy L C b0 s s.heap I_54 J R H locs → TT0 = F_X11_findFit_54 a0 x1 x2 x3_8 (F_X11_findFit_8 a0 x1 x2 n_8) n_54 I_54 J R x5_54 → OkI L C I_54 → Sm C ms_X11_findFit (I, J, R) (I_54, J, R) → Rg x1 (0) (119) → Rg x2 (0) (19) → Rg x3_8 (0) (5) → Rg x5_54 (0) (4) → lv_has ls 6 [(0, .ref a0), (1, .int x1), (2, .int x2), (3, .int x3_8), (5, .int x5_54)] → W p l e (rmD 2) s m args below meth c H locs 0 0 Q (F0 m 54 ls []) := by
        intro n_54
        induction n_54 with
        | zero => intro I_54 H locs ls x5_54 h; exact absurd h (Nat.not_lt_zero _)
        | succ n_54 ih_54 =>
          intro I_54 H locs ls x5_54 hn_54 hH hv oI sm r1_54 r2_54 r3_54 r5_54 hl
          replace hv := hv.trans F_X11_findFit_54_s
          unfold B_X11_findFit_54 at hv
          refine lv_iload hx hb dX11_findFit_54 (lv_at hl 4 rfl) ?_
          refine lv_iconst (v := 4) hx hb dX11_findFit_56 (by decide) ?_
          refine lv_icmp_ge (tgt := 80) hx hb dX11_findFit_57 (by decide) (fun q4 => ?_) (fun q4 => ?_)
          · replace hv := fnP hv q4
            have r5 : Rg x5_54 (4) (4) := Rg_lle r5_54 (Rg_le q4) (Rg_c (x := 4) (a := (4)) (b := (4)) (by decide)) (by decide)
            exact L_80 I_54 _ _ _ hH hv oI sm r1_54 r2_54 r3_54 (lv_sub hl [0, 1, 2, 3] rfl)
          replace hv := fnN hv q4
          have r6 : Rg x5_54 (0) (3) := Rg_ult r5_54 (Rg_nle q4) (Rg_c (x := 4) (a := (4)) (b := (4)) (by decide)) (by decide)
          refine lv_aload_n hx hb dX11_findFit_60 rfl (lv_at hl 0 rfl) ?_
          obtain ⟨b7, mb7, vb7, kb7⟩ := rf_11_43 oR m0 k0
          replace hv := fnR hv vb7
          refine gf_11_43 vb7 hx hb hts hown hH m0 k0 rfl kf_X11_96 dX11_findFit_61 ?_
          refine lv_iload hx hb dX11_findFit_64 (lv_at hl 4 rfl) ?_
          refine lv_aload_n hx hb dX11_findFit_66 rfl (lv_at hl 0 rfl) ?_
          obtain ⟨b8, mb8, vb8, kb8⟩ := rf_11_39 oR m0 k0
          replace hv := fnR hv vb8
          refine gf_11_39 vb8 hx hb hts hown hH m0 k0 rfl kf_X11_93 dX11_findFit_67 ?_
          refine lv_iload hx hb dX11_findFit_70 (lv_at hl 4 rfl) ?_
          refine ld_91 hx hb hH mb8 kb8 (Rg_in r6 (by decide)) dX11_findFit_72 ?_
          refine lv_topi (fun y9 ey9 => ?_)
          have ry9 : Rg y9 (0) (4) := by rw [ey9]; exact rd_91 oI mb8 kb8 (Rg_in r6 (by decide))
          replace hv := fnS hv ey9
          refine st_92 hx hb hH mb7 kb7 (Rg_in r6 (by decide)) dX11_findFit_73 (fun I10 H locs eI10 hH => ?_)
          replace hv := fnS hv eI10
          have oI : OkI L C I10 := by rw [eI10]; exact wr_92 oI kb7 ry9
          have sm : Sm C ms_X11_findFit (I, J, R) (I10, J, R) := by rw [eI10]; exact sm.stI kb7 (mC_arr (by decide) rfl)
          obtain ⟨y11, ey11⟩ : ∃ y : Int32, y = x5_54 + 1 := ⟨_, rfl⟩
          replace hv := fnS hv ey11
          obtain ⟨ty11, ry11⟩ := Rg_addx (a' := (1)) (b' := (4)) (rfl : x5_54.toInt = _) (by decide : Int32.toInt 1 = 1) r6 (Rg_c (x := 1) (a := (1)) (b := (1)) (by decide)) (by decide)
          rw [← ey11] at ty11 ry11
          refine lv_iinc (v := y11) (lv' := [(5, .int y11), (0, .ref a0), (1, .int x1), (2, .int x2), (3, .int x3_8)]) hx hb dX11_findFit_74 hl (k := 4) rfl (by rw [ey11]; rfl) (by decide) rfl (fun ls hl => ?_)
          refine lv_goto (tgt := 54) hx hb dX11_findFit_77 (by decide) ?_
          exact ih_54 I10 _ _ _ y11 (lp_up hn_54 ty11 (Rg_ltc r6 (by decide))) hH hv oI sm r1_54 r2_54 r3_54 (Rg_w ry11 (by decide)) (lv_sub hl [1, 2, 3, 4, 0] rfl)
      refine lv_iload_n hx hb dX11_findFit_8 rfl (lv_at hl 3 rfl) ?_
      refine lv_aload_n hx hb dX11_findFit_9 rfl (lv_at hl 0 rfl) ?_
      obtain ⟨b12, mb12, vb12, kb12⟩ := rf_11_8 oR m0 k0
      replace hv := fnR hv vb12
      refine gf_11_8 vb12 hx hb hts hown hH m0 k0 rfl kf_X11_29 dX11_findFit_10 ?_
      refine lv_iload_n hx hb dX11_findFit_13 rfl (lv_at hl 2 rfl) ?_
      refine ld_70 hx hb hH mb12 kb12 (Rg_in r2_8 (by decide)) dX11_findFit_14 ?_
      refine lv_topi (fun y13 ey13 => ?_)
      have ry13 : Rg y13 (0) (6) := by rw [ey13]; exact rd_70 oI mb12 kb12 (Rg_in r2_8 (by decide))
      replace hv := fnS hv ey13
      refine lv_icmp_ge (tgt := 86) hx hb dX11_findFit_15 (by decide) (fun q14 => ?_) (fun q14 => ?_)
      · replace hv := fnP hv q14
        refine lv_aload_n hx hb dX11_findFit_86 rfl (lv_at hl 0 rfl) ?_
        refine gf_11_41 hx hb hts hown hH m0 k0 rfl kf_X11_253 dX11_findFit_87 ?_
        refine lv_topi (fun y15 ey15 => ?_)
        replace hv := fnS hv ey15
        refine lv_ldc (v := 1000000) hx hb hown (hts _ kk_X11_180) dX11_findFit_90 ?_
        refine lv_icmp_ge (tgt := 99) hx hb dX11_findFit_92 (by decide) (fun q16 => ?_) (fun q16 => ?_)
        · replace hv := fnP hv q16
          have r17 : Rg y15 (1000000) (2147483647) := Rg_lle (Rg_any y15) (Rg_le q16) (Rg_c (x := 1000000) (a := (1000000)) (b := (1000000)) (by decide)) (by decide)
          refine lv_iconst (v := 0) hx hb dX11_findFit_99 (by decide) ?_
          exact L_100 I_8 _ _ _ 0 hH hv oI sm (Rg_w (Rg_c (x := 0) (a := (0)) (b := (0)) (by decide)) (by decide)) (lv_sub hl [] rfl)
        replace hv := fnN hv q16
        have r18 : Rg y15 (-2147483648) (999999) := Rg_ult (Rg_any y15) (Rg_nle q16) (Rg_c (x := 1000000) (a := (1000000)) (b := (1000000)) (by decide)) (by decide)
        refine lv_iconst (v := 1) hx hb dX11_findFit_95 (by decide) ?_
        refine lv_goto (tgt := 100) hx hb dX11_findFit_96 (by decide) ?_
        exact L_100 I_8 _ _ _ 1 hH hv oI sm (Rg_w (Rg_c (x := 1) (a := (1)) (b := (1)) (by decide)) (by decide)) (lv_sub hl [] rfl)
      replace hv := fnN hv q14
      have r19 : Rg x3_8 (0) (5) := Rg_ult r3_8 (Rg_nle q14) ry13 (by decide)
      have r20 : Rg y13 (1) (6) := Rg_llt ry13 (Rg_nle q14) r3_8 (by decide)
      refine lv_aload_n hx hb dX11_findFit_18 rfl (lv_at hl 0 rfl) ?_
      refine lv_iload_n hx hb dX11_findFit_19 rfl (lv_at hl 1 rfl) ?_
      refine lv_bipush (v := 6) hx hb dX11_findFit_20 (by decide) ?_
      refine lv_iload_n hx hb dX11_findFit_22 rfl (lv_at hl 2 rfl) ?_
      refine lv_imul hx hb dX11_findFit_23 ?_
      refine lv_topi (fun y21 ey21 => ?_)
      replace hv := fnS hv ey21
      obtain ⟨ty21, ry21⟩ := Rg_mulx (a' := (0)) (b' := (114)) (by decide : Int32.toInt 6 = 6) (rfl : x2.toInt = _) (Rg_c (x := 6) (a := (6)) (b := (6)) (by decide)) r2_8 (by decide)
      rw [← ey21] at ty21 ry21
      refine lv_iload_n hx hb dX11_findFit_24 rfl (lv_at hl 3 rfl) ?_
      refine lv_iadd hx hb dX11_findFit_25 ?_
      refine lv_topi (fun y22 ey22 => ?_)
      replace hv := fnS hv ey22
      obtain ⟨ty22, ry22⟩ := Rg_addx (a' := (0)) (b' := (119)) (rfl : y21.toInt = _) (rfl : x3_8.toInt = _) ry21 r19 (by decide)
      rw [← ey22] at ty22 ry22
      refine ca_X11_256 hx hb hml hown hts hH (c_X11_serve oI oR m0 k0 r1_8 ry22) hl.1 m0 k0 rfl (by decide) (Nat.le_of_ble_eq_true rfl) ⟨Nat.zero_le _, Nat.zero_le _⟩ dX11_findFit_26 (fun y23 I23 J23 R23 H locs hp hH => ?_)
      obtain ⟨⟨oI, -, sc23⟩, eJ23, eR23, hf23⟩ := hp
      obtain rfl : J = J23 := eJ23.symm
      obtain rfl : R = R23 := eR23.symm
      replace hv := fnC hv hf23
      have sm : Sm C ms_X11_findFit (I, J, R) (I23, J, R) := sm.tr sc23 rfl
      refine lv_istore (lv' := [(4, .int y23), (0, .ref a0), (1, .int x1), (2, .int x2), (3, .int x3_8)]) hx hb dX11_findFit_29 hl (by decide) rfl (fun ls hl => ?_)
      refine lv_iload hx hb dX11_findFit_31 (lv_at hl 0 rfl) ?_
      refine lv_aload_n hx hb dX11_findFit_33 rfl (lv_at hl 1 rfl) ?_
      refine gf_11_41 hx hb hts hown hH m0 k0 rfl kf_X11_253 dX11_findFit_34 ?_
      refine lv_topi (fun y24 ey24 => ?_)
      replace hv := fnS hv ey24
      refine lv_icmp_ge (tgt := 80) hx hb dX11_findFit_37 (by decide) (fun q25 => ?_) (fun q25 => ?_)
      · replace hv := fnP hv q25
        exact L_80 I23 _ _ _ hH hv oI sm r1_8 r2_8 r19 (lv_sub hl [1, 2, 3, 4] rfl)
      replace hv := fnN hv q25
      have r26 : Rg y23 (-2147483648) (2147483646) := Rg_ult (Rg_any y23) (Rg_nle q25) (Rg_any y24) (by decide)
      have r27 : Rg y24 (-2147483647) (2147483647) := Rg_llt (Rg_any y24) (Rg_nle q25) (Rg_any y23) (by decide)
      refine lv_aload_n hx hb dX11_findFit_40 rfl (lv_at hl 1 rfl) ?_
      refine lv_iload hx hb dX11_findFit_41 (lv_at hl 0 rfl) ?_
      refine pf_11_41 hx hb hts hown hH m0 k0 rfl kf_X11_253 dX11_findFit_43 (fun I28 H locs eI28 hH => ?_)
      replace hv := fnS hv eI28
      have oI : OkI L C I28 := by rw [eI28]; exact wf_11_41 oI k0 (Rg_w r26 (by decide))
      have sm : Sm C ms_X11_findFit (I, J, R) (I28, J, R) := by rw [eI28]; exact sm.stI k0 (mC_obj (by decide) rfl)
      have f29 : y23 = I28 a0 41 := by rw [eI28, u2_at]
      refine lv_aload_n hx hb dX11_findFit_46 rfl (lv_at hl 1 rfl) ?_
      refine lv_iload_n hx hb dX11_findFit_47 rfl (lv_at hl 4 rfl) ?_
      refine pf_11_42 hx hb hts hown hH m0 k0 rfl kf_X11_259 dX11_findFit_48 (fun I30 H locs eI30 hH => ?_)
      replace hv := fnS hv eI30
      have oI : OkI L C I30 := by rw [eI30]; exact wf_11_42 oI k0 r19
      have sm : Sm C ms_X11_findFit (I, J, R) (I30, J, R) := by rw [eI30]; exact sm.stI k0 (mC_obj (by decide) rfl)
      have f31 : x3_8 = I30 a0 42 := by rw [eI30, u2_at]
      refine lv_iconst (v := 0) hx hb dX11_findFit_51 (by decide) ?_
      refine lv_istore (lv' := [(5, .int 0), (4, .int y23), (0, .ref a0), (1, .int x1), (2, .int x2), (3, .int x3_8)]) hx hb dX11_findFit_52 hl (by decide) rfl (fun ls hl => ?_)
      exact L_54 ((4 - (0 : Int32).toInt).toNat + 1) I30 _ _ _ 0 (Nat.lt_succ_self _) hH hv oI sm r1_8 r2_8 r19 (Rg_w (Rg_c (x := 0) (a := (0)) (b := (0)) (by decide)) (by decide)) (lv_sub hl [2, 3, 4, 5, 0] rfl)
  exact L_8 ((6 - (0 : Int32).toInt).toNat + 1) I1 _ _ _ 0 (Nat.lt_succ_self _) hH hv oI sm h1 h2 (Rg_w (Rg_c (x := 0) (a := (0)) (b := (0)) (by decide)) (by decide)) (lv_sub hl [1, 2, 3, 0] rfl)
def ms_X11_fit : List Nat := [704, 744, 745, 746, 5440, 5504, 5568, 5632, 5696, 5760, 5824, 5888]
set_option maxHeartbeats 4000000 in
set_option maxRecDepth 100000 in
theorem c_X11_fit {l : Launch} {D : va_G} {cy : Nat → ClassId} {L : List Nat} {C : Nat → Nat} {b0 : Nat} {I : hI} {J : hJ} {R : hR} {a0 : Nat} {x1 : Int32} {x2 : Int32} {x3 : Int32} {x4 : Int32} (oI : OkI L C I) (oR : OkR L C R) (m0 : a0 ∈ L) (k0 : C a0 = 11) : CI l yX11_fit cX11_fit 5 .int 3 D cy L C b0 [.ref a0, .int x1, .int x2, .int x3, .int x4] (I, J, R) (fun r v => Ps L C ms_X11_fit (I, J, R) v ∧ v.2.1 = J ∧ v.2.2 = R) := by
  refine CI.mkI (plainFor_of_name (by decide)) (Nat.le_of_ble_eq_true rfl) ?_
  intro p e s m args below meth c ls Q hF ret hH hl
  obtain ⟨hx, hb, -, hml, hown, hts, -⟩ := hF
  have hl : lv_has ls 5 [(0, .ref a0), (1, .int x1), (2, .int x2), (3, .int x3), (4, .int x4)] := hl
  have hH : Hp D cy L C b0 s s.heap I J R s.heap [] := hH
  have sm : Sm C ms_X11_fit (I, J, R) (I, J, R) := Sm.rf
  refine lv_aload_n hx hb dX11_fit_0 rfl (lv_at hl 0 rfl) ?_
  refine lv_iconst (v := 0) hx hb dX11_fit_1 (by decide) ?_
  refine pf_11_0 hx hb hts hown hH m0 k0 rfl kf_X11_131 dX11_fit_2 (fun I1 H locs eI1 hH => ?_)
  have oI : OkI L C I1 := by rw [eI1]; exact wf_11_0 oI k0 (Rg_w (Rg_c (x := 0) (a := (0)) (b := (0)) (by decide)) (by decide))
  have sm : Sm C ms_X11_fit (I, J, R) (I1, J, R) := by rw [eI1]; exact sm.stI k0 (mC_obj (by decide) rfl)
  have f2 : 0 = I1 a0 0 := by rw [eI1, u2_at]
  refine lv_iload_n hx hb dX11_fit_5 rfl (lv_at hl 1 rfl) ?_
  refine lv_i2l (v := x1.toInt64) hx hb dX11_fit_6 rfl ?_
  refine lv_lconst (v := 0) hx hb dX11_fit_7 (by decide) ?_
  refine lv_ldc2 (v := 9) hx hb hown (hts _ kkl_X11_221) dX11_fit_8 ?_
  refine ca_X11_138 hx hb hml hown hts hH (c_X11_in ) hl.1 (by decide) (Nat.le_of_ble_eq_true rfl) ⟨Nat.zero_le _, Nat.zero_le _⟩ dX11_fit_11 (fun y3 I3 J3 R3 H locs hp hH => ?_)
  obtain ⟨eI3, eJ3, eR3, ry3, hp3, hf3⟩ := hp
  obtain rfl : I1 = I3 := eI3.symm
  obtain rfl : J = J3 := eJ3.symm
  obtain rfl : R = R3 := eR3.symm
  rcases hp3 with ⟨rfl, hq3⟩ | ⟨rfl, hq3⟩
  rotate_left
  · refine lv_if_eq (tgt := 42) hx hb dX11_fit_14 (by decide) (fun q71 => ?_) (fun q71 => ?_)
    rotate_left
    · exact absurd rfl q71
    refine lv_bipush (v := (-3)) hx hb dX11_fit_42 (by decide) ?_
    exact ret ((-3)) _ _ _ _ _ _ _ dX11_fit_44 hH ⟨⟨oI, oR, sm⟩, rfl, rfl⟩
  have l4 : Int32.toInt 0 ≤ x1.toInt := in_cl hq3.1 (by decide)
  have r5 : Rg x1 (0) (2147483647) := Rg_lle (Rg_any x1) l4 (Rg_c (x := 0) (a := (0)) (b := (0)) (by decide)) (by decide)
  have l6 : x1.toInt ≤ Int32.toInt 9 := in_lc hq3.2 (by decide)
  have r7 : Rg x1 (0) (9) := Rg_ule r5 l6 (Rg_c (x := 9) (a := (9)) (b := (9)) (by decide)) (by decide)
  refine lv_if_eq (tgt := 42) hx hb dX11_fit_14 (by decide) (fun q8 => ?_) (fun q8 => ?_)
  · exact absurd q8 (by decide)
  refine lv_iload_n hx hb dX11_fit_17 rfl (lv_at hl 3 rfl) ?_
  refine lv_i2l (v := x3.toInt64) hx hb dX11_fit_18 rfl ?_
  refine lv_lconst (v := 0) hx hb dX11_fit_19 (by decide) ?_
  refine lv_ldc2 (v := 19) hx hb hown (hts _ kkl_X11_262) dX11_fit_20 ?_
  refine ca_X11_138 hx hb hml hown hts hH (c_X11_in ) hl.1 (by decide) (Nat.le_of_ble_eq_true rfl) ⟨Nat.zero_le _, Nat.zero_le _⟩ dX11_fit_23 (fun y9 I9 J9 R9 H locs hp hH => ?_)
  obtain ⟨eI9, eJ9, eR9, ry9, hp9, hf9⟩ := hp
  obtain rfl : I1 = I9 := eI9.symm
  obtain rfl : J = J9 := eJ9.symm
  obtain rfl : R = R9 := eR9.symm
  rcases hp9 with ⟨rfl, hq9⟩ | ⟨rfl, hq9⟩
  rotate_left
  · refine lv_if_eq (tgt := 42) hx hb dX11_fit_26 (by decide) (fun q70 => ?_) (fun q70 => ?_)
    rotate_left
    · exact absurd rfl q70
    refine lv_bipush (v := (-3)) hx hb dX11_fit_42 (by decide) ?_
    exact ret ((-3)) _ _ _ _ _ _ _ dX11_fit_44 hH ⟨⟨oI, oR, sm⟩, rfl, rfl⟩
  have l10 : Int32.toInt 0 ≤ x3.toInt := in_cl hq9.1 (by decide)
  have r11 : Rg x3 (0) (2147483647) := Rg_lle (Rg_any x3) l10 (Rg_c (x := 0) (a := (0)) (b := (0)) (by decide)) (by decide)
  have l12 : x3.toInt ≤ Int32.toInt 19 := in_lc hq9.2 (by decide)
  have r13 : Rg x3 (0) (19) := Rg_ule r11 l12 (Rg_c (x := 19) (a := (19)) (b := (19)) (by decide)) (by decide)
  refine lv_if_eq (tgt := 42) hx hb dX11_fit_26 (by decide) (fun q14 => ?_) (fun q14 => ?_)
  · exact absurd q14 (by decide)
  refine lv_iload hx hb dX11_fit_29 (lv_at hl 4 rfl) ?_
  refine lv_i2l (v := x4.toInt64) hx hb dX11_fit_31 rfl ?_
  refine lv_lconst (v := 0) hx hb dX11_fit_32 (by decide) ?_
  refine lv_ldc2 (v := 5) hx hb hown (hts _ kkl_X11_264) dX11_fit_33 ?_
  refine ca_X11_138 hx hb hml hown hts hH (c_X11_in ) hl.1 (by decide) (Nat.le_of_ble_eq_true rfl) ⟨Nat.zero_le _, Nat.zero_le _⟩ dX11_fit_36 (fun y15 I15 J15 R15 H locs hp hH => ?_)
  obtain ⟨eI15, eJ15, eR15, ry15, hp15, hf15⟩ := hp
  obtain rfl : I1 = I15 := eI15.symm
  obtain rfl : J = J15 := eJ15.symm
  obtain rfl : R = R15 := eR15.symm
  rcases hp15 with ⟨rfl, hq15⟩ | ⟨rfl, hq15⟩
  rotate_left
  · refine lv_if_ne (tgt := 45) hx hb dX11_fit_39 (by decide) (fun q69 => ?_) (fun q69 => ?_)
    · exact absurd rfl q69
    refine lv_bipush (v := (-3)) hx hb dX11_fit_42 (by decide) ?_
    exact ret ((-3)) _ _ _ _ _ _ _ dX11_fit_44 hH ⟨⟨oI, oR, sm⟩, rfl, rfl⟩
  have l16 : Int32.toInt 0 ≤ x4.toInt := in_cl hq15.1 (by decide)
  have r17 : Rg x4 (0) (2147483647) := Rg_lle (Rg_any x4) l16 (Rg_c (x := 0) (a := (0)) (b := (0)) (by decide)) (by decide)
  have l18 : x4.toInt ≤ Int32.toInt 5 := in_lc hq15.2 (by decide)
  have r19 : Rg x4 (0) (5) := Rg_ule r17 l18 (Rg_c (x := 5) (a := (5)) (b := (5)) (by decide)) (by decide)
  refine lv_if_ne (tgt := 45) hx hb dX11_fit_39 (by decide) (fun q20 => ?_) (fun q20 => ?_)
  rotate_left
  · exact absurd q20 (by decide)
  refine lv_aload_n hx hb dX11_fit_45 rfl (lv_at hl 0 rfl) ?_
  refine lv_bipush (v := 10) hx hb dX11_fit_46 (by decide) ?_
  refine lv_iload_n hx hb dX11_fit_48 rfl (lv_at hl 1 rfl) ?_
  refine lv_iadd hx hb dX11_fit_49 ?_
  refine lv_topi (fun y21 ey21 => ?_)
  obtain ⟨ty21, ry21⟩ := Rg_addx (a' := (10)) (b' := (19)) (by decide : Int32.toInt 10 = 10) (rfl : x1.toInt = _) (Rg_c (x := 10) (a := (10)) (b := (10)) (by decide)) r7 (by decide)
  rw [← ey21] at ty21 ry21
  refine lv_iload_n hx hb dX11_fit_50 rfl (lv_at hl 2 rfl) ?_
  refine ca_X11_235 hx hb hml hown hts hH (c_X11_isMember oI oR m0 k0 (Rg_w ry21 (by decide))) hl.1 m0 k0 rfl (by decide) (Nat.le_of_ble_eq_true rfl) ⟨Nat.zero_le _, Nat.zero_le _⟩ dX11_fit_51 (fun y22 I22 J22 R22 H locs hp hH => ?_)
  obtain ⟨eI22, eJ22, eR22, ry22, hp22, hf22⟩ := hp
  obtain rfl : I1 = I22 := eI22.symm
  obtain rfl : J = J22 := eJ22.symm
  obtain rfl : R = R22 := eR22.symm
  rcases hp22 with ⟨rfl, hq22⟩ | rfl
  rotate_left
  · refine lv_if_ne (tgt := 60) hx hb dX11_fit_54 (by decide) (fun q68 => ?_) (fun q68 => ?_)
    · exact absurd rfl q68
    refine lv_bipush (v := (-2)) hx hb dX11_fit_57 (by decide) ?_
    exact ret ((-2)) _ _ _ _ _ _ _ dX11_fit_59 hH ⟨⟨oI, oR, sm⟩, rfl, rfl⟩
  have r23 : Rg x2 (0) (5) := Rg_both (Rg_any x2) ⟨hq22.1, hq22.2⟩ (by decide)
  refine lv_if_ne (tgt := 60) hx hb dX11_fit_54 (by decide) (fun q24 => ?_) (fun q24 => ?_)
  rotate_left
  · exact absurd q24 (by decide)
  refine lv_aload_n hx hb dX11_fit_60 rfl (lv_at hl 0 rfl) ?_
  refine ca_X11_189 hx hb hml hown hts hH (c_X11_measure oI oR m0 k0) hl.1 m0 k0 rfl (by decide) (Nat.le_of_ble_eq_true rfl) ⟨Nat.zero_le _, Nat.zero_le _⟩ dX11_fit_61 (fun I25 J25 R25 H locs hp hH => ?_)
  obtain ⟨⟨oI, -, sc25⟩, eJ25, eR25, hf25⟩ := hp
  obtain rfl : J = J25 := eJ25.symm
  obtain rfl : R = R25 := eR25.symm
  have sm : Sm C ms_X11_fit (I, J, R) (I25, J, R) := sm.tr sc25 rfl
  refine lv_aload_n hx hb dX11_fit_64 rfl (lv_at hl 0 rfl) ?_
  refine lv_bipush (v := 6) hx hb dX11_fit_65 (by decide) ?_
  refine lv_bipush (v := 10) hx hb dX11_fit_67 (by decide) ?_
  refine lv_iload_n hx hb dX11_fit_69 rfl (lv_at hl 1 rfl) ?_
  refine lv_iadd hx hb dX11_fit_70 ?_
  refine lv_topi (fun y26 ey26 => ?_)
  obtain rfl : y21 = y26 := ey21.trans ey26.symm
  refine lv_imul hx hb dX11_fit_71 ?_
  refine lv_topi (fun y27 ey27 => ?_)
  obtain ⟨ty27, ry27⟩ := Rg_mulx (a' := (60)) (b' := (114)) (by decide : Int32.toInt 6 = 6) (rfl : y21.toInt = _) (Rg_c (x := 6) (a := (6)) (b := (6)) (by decide)) ry21 (by decide)
  rw [← ey27] at ty27 ry27
  refine lv_iload_n hx hb dX11_fit_72 rfl (lv_at hl 2 rfl) ?_
  refine lv_iadd hx hb dX11_fit_73 ?_
  refine lv_topi (fun y28 ey28 => ?_)
  obtain ⟨ty28, ry28⟩ := Rg_addx (a' := (60)) (b' := (119)) (rfl : y27.toInt = _) (rfl : x2.toInt = _) ry27 r23 (by decide)
  rw [← ey28] at ty28 ry28
  refine lv_iload_n hx hb dX11_fit_74 rfl (lv_at hl 3 rfl) ?_
  refine ca_X11_266 hx hb hml hown hts hH (c_X11_findFit oI oR m0 k0 (Rg_w ry28 (by decide)) r13) hl.1 m0 k0 rfl (by decide) (Nat.le_of_ble_eq_true rfl) ⟨Nat.zero_le _, Nat.zero_le _⟩ dX11_fit_75 (fun y29 I29 J29 R29 H locs hp hH => ?_)
  obtain ⟨⟨oI, -, sc29⟩, eJ29, eR29, ry29, hf29⟩ := hp
  obtain rfl : J = J29 := eJ29.symm
  obtain rfl : R = R29 := eR29.symm
  have sm : Sm C ms_X11_fit (I, J, R) (I29, J, R) := sm.tr sc29 rfl
  refine lv_if_ne (tgt := 84) hx hb dX11_fit_78 (by decide) (fun q30 => ?_) (fun q30 => ?_)
  rotate_left
  · have l66 := congrArg Int32.toInt q30
    have r67 : Rg y29 (0) (0) := Rg_both ry29 (Rg_eqv q30 (Rg_c (x := 0) (a := (0)) (b := (0)) (by decide))) (by decide)
    refine lv_bipush (v := (-6)) hx hb dX11_fit_81 (by decide) ?_
    exact ret ((-6)) _ _ _ _ _ _ _ dX11_fit_83 hH ⟨⟨oI, oR, sm⟩, rfl, rfl⟩
  have l31 := Rg_ne q30
  have r32 : Rg y29 (1) (1) := Rg_nelo ry29 (Rg_ne q30) (Rg_c (x := 0) (a := (0)) (b := (0)) (by decide)) (by decide)
  refine lv_iload hx hb dX11_fit_84 (lv_at hl 4 rfl) ?_
  refine lv_iconst (v := 2) hx hb dX11_fit_86 (by decide) ?_
  refine lv_icmp_ge (tgt := 107) hx hb dX11_fit_87 (by decide) (fun q33 => ?_) (fun q33 => ?_)
  rotate_left
  · have l57 := Rg_nle q33
    have r58 : Rg x4 (0) (1) := Rg_ult r19 (Rg_nle q33) (Rg_c (x := 2) (a := (2)) (b := (2)) (by decide)) (by decide)
    refine lv_iload hx hb dX11_fit_90 (lv_at hl 4 rfl) ?_
    refine lv_if_ne (tgt := 102) hx hb dX11_fit_92 (by decide) (fun q59 => ?_) (fun q59 => ?_)
    · have l60 := Rg_ne q59
      have r61 : Rg x4 (1) (1) := Rg_nelo r58 (Rg_ne q59) (Rg_c (x := 0) (a := (0)) (b := (0)) (by decide)) (by decide)
      refine lv_aload_n hx hb dX11_fit_102 rfl (lv_at hl 0 rfl) ?_
      refine gf_11_42 hx hb hts hown hH m0 k0 rfl kf_X11_259 dX11_fit_103 ?_
      refine lv_topi (fun y62 ey62 => ?_)
      have ry62 : Rg y62 (0) (5) := by rw [ey62]; exact rf_11_42 oI m0 k0
      exact ret (y62) _ _ _ _ _ _ _ dX11_fit_106 hH ⟨⟨oI, oR, sm⟩, rfl, rfl⟩
    have l63 := congrArg Int32.toInt q59
    have r64 : Rg x4 (0) (0) := Rg_both r58 (Rg_eqv q59 (Rg_c (x := 0) (a := (0)) (b := (0)) (by decide))) (by decide)
    refine lv_aload_n hx hb dX11_fit_95 rfl (lv_at hl 0 rfl) ?_
    refine gf_11_41 hx hb hts hown hH m0 k0 rfl kf_X11_253 dX11_fit_96 ?_
    refine lv_topi (fun y65 ey65 => ?_)
    refine lv_goto (tgt := 106) hx hb dX11_fit_99 (by decide) ?_
    exact ret (y65) _ _ _ _ _ _ _ dX11_fit_106 hH ⟨⟨oI, oR, sm⟩, rfl, rfl⟩
  have l34 := Rg_le q33
  have r35 : Rg x4 (2) (5) := Rg_lle r19 (Rg_le q33) (Rg_c (x := 2) (a := (2)) (b := (2)) (by decide)) (by decide)
  refine lv_iload hx hb dX11_fit_107 (lv_at hl 4 rfl) ?_
  refine lv_iconst (v := 2) hx hb dX11_fit_109 (by decide) ?_
  refine lv_isub hx hb dX11_fit_110 ?_
  refine lv_topi (fun y36 ey36 => ?_)
  obtain ⟨ty36, ry36⟩ := Rg_subx (a' := (0)) (b' := (3)) (rfl : x4.toInt = _) (by decide : Int32.toInt 2 = 2) r35 (Rg_c (x := 2) (a := (2)) (b := (2)) (by decide)) (by decide)
  rw [← ey36] at ty36 ry36
  refine lv_aload_n hx hb dX11_fit_111 rfl (lv_at hl 0 rfl) ?_
  obtain ⟨b37, mb37, vb37, kb37⟩ := rf_11_10 oR m0 k0
  refine gf_11_10 vb37 hx hb hts hown hH m0 k0 rfl kf_X11_35 dX11_fit_112 ?_
  refine lv_bipush (v := 6) hx hb dX11_fit_115 (by decide) ?_
  refine lv_iload_n hx hb dX11_fit_117 rfl (lv_at hl 3 rfl) ?_
  refine lv_imul hx hb dX11_fit_118 ?_
  refine lv_topi (fun y38 ey38 => ?_)
  obtain ⟨ty38, ry38⟩ := Rg_mulx (a' := (0)) (b' := (114)) (by decide : Int32.toInt 6 = 6) (rfl : x3.toInt = _) (Rg_c (x := 6) (a := (6)) (b := (6)) (by decide)) r13 (by decide)
  rw [← ey38] at ty38 ry38
  refine lv_aload_n hx hb dX11_fit_119 rfl (lv_at hl 0 rfl) ?_
  refine gf_11_42 hx hb hts hown hH m0 k0 rfl kf_X11_259 dX11_fit_120 ?_
  refine lv_topi (fun y39 ey39 => ?_)
  have ry39 : Rg y39 (0) (5) := by rw [ey39]; exact rf_11_42 oI m0 k0
  refine lv_iadd hx hb dX11_fit_123 ?_
  refine lv_topi (fun y40 ey40 => ?_)
  obtain ⟨ty40, ry40⟩ := Rg_addx (a' := (0)) (b' := (119)) (rfl : y38.toInt = _) (rfl : y39.toInt = _) ry38 ry39 (by decide)
  rw [← ey40] at ty40 ry40
  refine ld_72 hx hb hH mb37 kb37 (Rg_in ry40 (by decide)) dX11_fit_124 ?_
  refine lv_topi (fun y41 ey41 => ?_)
  have ry41 : Rg y41 (0) (4) := by rw [ey41]; exact rd_72 oI mb37 kb37 (Rg_in ry40 (by decide))
  refine lv_icmp_lt (tgt := 132) hx hb dX11_fit_125 (by decide) (fun q42 => ?_) (fun q42 => ?_)
  rotate_left
  · have l55 := Rg_nlt q42
    have r56 : Rg y41 (0) (3) := Rg_ule ry41 (Rg_nlt q42) ry36 (by decide)
    refine lv_iconst (v := (-1)) hx hb dX11_fit_128 (by decide) ?_
    refine lv_goto (tgt := 159) hx hb dX11_fit_129 (by decide) ?_
    exact ret ((-1)) _ _ _ _ _ _ _ dX11_fit_159 hH ⟨⟨oI, oR, sm⟩, rfl, rfl⟩
  have l43 := Rg_lt q42
  have r44 : Rg y41 (1) (4) := Rg_llt ry41 (Rg_lt q42) ry36 (by decide)
  refine lv_aload_n hx hb dX11_fit_132 rfl (lv_at hl 0 rfl) ?_
  obtain ⟨b45, mb45, vb45, kb45⟩ := rf_11_43 oR m0 k0
  refine gf_11_43 vb45 hx hb hts hown hH m0 k0 rfl kf_X11_96 dX11_fit_133 ?_
  refine lv_iload hx hb dX11_fit_136 (lv_at hl 4 rfl) ?_
  refine lv_iconst (v := 2) hx hb dX11_fit_138 (by decide) ?_
  refine lv_isub hx hb dX11_fit_139 ?_
  refine lv_topi (fun y46 ey46 => ?_)
  obtain rfl : y36 = y46 := ey36.trans ey46.symm
  refine ld_92 hx hb hH mb45 kb45 (Rg_in ry36 (by decide)) dX11_fit_140 ?_
  refine lv_topi (fun y47 ey47 => ?_)
  have ry47 : Rg y47 (0) (4) := by rw [ey47]; exact rd_92 oI mb45 kb45 (Rg_in ry36 (by decide))
  refine lv_iconst (v := 4) hx hb dX11_fit_141 (by decide) ?_
  refine lv_icmp_ne (tgt := 150) hx hb dX11_fit_142 (by decide) (fun q48 => ?_) (fun q48 => ?_)
  rotate_left
  · have l53 := congrArg Int32.toInt q48
    have r54 : Rg y47 (4) (4) := Rg_both ry47 (Rg_eqv q48 (Rg_c (x := 4) (a := (4)) (b := (4)) (by decide))) (by decide)
    refine lv_bipush (v := 9) hx hb dX11_fit_145 (by decide) ?_
    refine lv_goto (tgt := 159) hx hb dX11_fit_147 (by decide) ?_
    exact ret (9) _ _ _ _ _ _ _ dX11_fit_159 hH ⟨⟨oI, oR, sm⟩, rfl, rfl⟩
  have l49 := Rg_ne q48
  have r50 : Rg y47 (0) (3) := Rg_nehi ry47 (Rg_ne q48) (Rg_c (x := 4) (a := (4)) (b := (4)) (by decide)) (by decide)
  refine lv_aload_n hx hb dX11_fit_150 rfl (lv_at hl 0 rfl) ?_
  refine gf_11_43 vb45 hx hb hts hown hH m0 k0 rfl kf_X11_96 dX11_fit_151 ?_
  refine lv_iload hx hb dX11_fit_154 (lv_at hl 4 rfl) ?_
  refine lv_iconst (v := 2) hx hb dX11_fit_156 (by decide) ?_
  refine lv_isub hx hb dX11_fit_157 ?_
  refine lv_topi (fun y51 ey51 => ?_)
  obtain rfl : y36 = y51 := ey36.trans ey51.symm
  refine ld_92 hx hb hH mb45 kb45 (Rg_in ry36 (by decide)) dX11_fit_158 ?_
  refine lv_topi (fun y52 ey52 => ?_)
  obtain rfl : y47 = y52 := ey47.trans ey52.symm
  exact ret (y47) _ _ _ _ _ _ _ dX11_fit_159 hH ⟨⟨oI, oR, sm⟩, rfl, rfl⟩
noncomputable def F_X11_fitsAt_47 (a0 : Nat) (x1 : Int32) (x2 : Int32) (x3_5 : Int32) (x4_5 : Int32) (k_5 : hI → hJ → hR → Int32 → Int32 → (Int32 × hU)) (I_47 : hI) (J : hJ) (R : hR) (xs0_47 : Int32) : Int32 × hU :=
  nm (x3_5 + xs0_47) fun y1 => nm (x4_5 + (1 : Int32)) fun y2 => k_5 I_47 J R y1 y2
noncomputable def B_X11_fitsAt_5 (a0 : Nat) (x1 : Int32) (x2 : Int32) (k_5 : hI → hJ → hR → Int32 → Int32 → (Int32 × hU)) (I_5 : hI) (J : hJ) (R : hR) (x3_5 : Int32) (x4_5 : Int32) : Int32 × hU :=
  nm ((R a0 8).getD 0) fun b3 => nm ((10 : Int32) + x1) fun y4 => nm (I_5 b3 (Int32.toNatClampNeg y4)) fun y5 => (if y5 ≤ x4_5 then (x3_5, (I_5, J, R)) else nm ((6 : Int32) * y4) fun y10 => nm (y10 + x4_5) fun y11 => nmU (F_X11_findFit a0 y11 x2 I_5 J R) fun y12 I12 _ _ => (if y12 = (0 : Int32) then F_X11_fitsAt_47 a0 x1 x2 x3_5 x4_5 k_5 I12 J R (1000000 : Int32) else nm (I12 a0 41) fun y16 => F_X11_fitsAt_47 a0 x1 x2 x3_5 x4_5 k_5 I12 J R y16))
noncomputable def F_X11_fitsAt_5 (a0 : Nat) (x1 : Int32) (x2 : Int32) : Nat → hI → hJ → hR → Int32 → Int32 → (Int32 × hU) := fun n => Nat.rec (motive := fun _ => hI → hJ → hR → Int32 → Int32 → (Int32 × hU)) (fun _ _ _ _ _ => default) (fun _ k => B_X11_fitsAt_5 a0 x1 x2 k) n
theorem F_X11_fitsAt_5_s {a0 : Nat} {x1 : Int32} {x2 : Int32} {n : Nat} {I_5 : hI} {J : hJ} {R : hR} {x3_5 : Int32} {x4_5 : Int32} : F_X11_fitsAt_5 a0 x1 x2 (n + 1)  I_5 J R x3_5 x4_5 = B_X11_fitsAt_5 a0 x1 x2 (F_X11_fitsAt_5 a0 x1 x2 n)  I_5 J R x3_5 x4_5 := rfl
noncomputable def F_X11_fitsAt (a0 : Nat) (x1 : Int32) (x2 : Int32) (I : hI) (J : hJ) (R : hR) : Int32 × hU :=
  F_X11_fitsAt_5 a0 x1 x2 ((6 - (0 : Int32).toInt).toNat + 1) I J R (0 : Int32) (0 : Int32)
def ms_X11_fitsAt : List Nat := [744, 745, 746, 5760, 5824, 5888]
set_option maxHeartbeats 4000000 in
set_option maxRecDepth 100000 in
theorem c_X11_fitsAt {l : Launch} {D : va_G} {cy : Nat → ClassId} {L : List Nat} {C : Nat → Nat} {b0 : Nat} {I : hI} {J : hJ} {R : hR} {a0 : Nat} {x1 : Int32} {x2 : Int32} (oI : OkI L C I) (oR : OkR L C R) (m0 : a0 ∈ L) (k0 : C a0 = 11) (h1 : Rg x1 (0) (9)) (h2 : Rg x2 (0) (19)) : CI l yX11_fitsAt cX11_fitsAt 5 .int 3 D cy L C b0 [.ref a0, .int x1, .int x2] (I, J, R) (fun r v => Ps L C ms_X11_fitsAt (I, J, R) v ∧ v.2.1 = J ∧ v.2.2 = R ∧ F_X11_fitsAt a0 x1 x2 I J R = (r, v)) := by
  refine CI.mkI (plainFor_of_name (by decide)) (Nat.le_of_ble_eq_true rfl) ?_
  intro p e s m args below meth c ls Q hF ret hH hl
  obtain ⟨hx, hb, -, hml, hown, hts, -⟩ := hF
  have hl : lv_has ls 5 [(0, .ref a0), (1, .int x1), (2, .int x2)] := hl
  have hH : Hp D cy L C b0 s s.heap I J R s.heap [] := hH
  have sm : Sm C ms_X11_fitsAt (I, J, R) (I, J, R) := Sm.rf
  obtain ⟨TT0, hT⟩ : ∃ TT0, TT0 = F_X11_fitsAt a0 x1 x2 I J R := ⟨_, rfl⟩
  have hv := hT
  unfold F_X11_fitsAt at hv
  refine lv_iconst (v := 0) hx hb dX11_fitsAt_0 (by decide) ?_
  refine lv_istore_n (lv' := [(3, .int 0), (0, .ref a0), (1, .int x1), (2, .int x2)]) hx hb dX11_fitsAt_1 rfl hl (by decide) rfl (fun ls hl => ?_)
  refine lv_iconst (v := 0) hx hb dX11_fitsAt_2 (by decide) ?_
  refine lv_istore (lv' := [(4, .int 0), (3, .int 0), (0, .ref a0), (1, .int x1), (2, .int x2)]) hx hb dX11_fitsAt_3 hl (by decide) rfl (fun ls hl => ?_)
  have L_5 : ∀ (n_5 : Nat) (I_5 : hI) (H : Heap) (locs : List Loc) (ls : Array Slot) (x3_5 : Int32) (x4_5 : Int32), (6 - x4_5.toInt).toNat < n_5 → Hp D cy L C b0 s s.heap I_5 J R H locs → TT0 = F_X11_fitsAt_5 a0 x1 x2 n_5 I_5 J R x3_5 x4_5 → OkI L C I_5 → Sm C ms_X11_fitsAt (I, J, R) (I_5, J, R) → Rg x1 (0) (9) → Rg x2 (0) (19) → Rg x4_5 (0) (6) → lv_has ls 5 [(0, .ref a0), (1, .int x1), (2, .int x2), (3, .int x3_5), (4, .int x4_5)] → W p l e (rmD 3) s m args below meth c H locs 0 0 Q (F0 m 5 ls []) := by
    intro n_5
    induction n_5 with
    | zero => intro I_5 H locs ls x3_5 x4_5 h; exact absurd h (Nat.not_lt_zero _)
    | succ n_5 ih_5 =>
      intro I_5 H locs ls x3_5 x4_5 hn_5 hH hv oI sm r1_5 r2_5 r4_5 hl
      replace hv := hv.trans F_X11_fitsAt_5_s
      unfold B_X11_fitsAt_5 at hv
      have L_47 : ∀ (I_47 : hI) (H : Heap) (locs : List Loc) (ls : Array Slot) (xs0_47 : Int32), Hp D cy L C b0 s s.heap I_47 J R H locs → TT0 = F_X11_fitsAt_47 a0 x1 x2 x3_5 x4_5 (F_X11_fitsAt_5 a0 x1 x2 n_5) I_47 J R xs0_47 → OkI L C I_47 → Sm C ms_X11_fitsAt (I, J, R) (I_47, J, R) → Rg x1 (0) (9) → Rg x2 (0) (19) → Rg x4_5 (0) (5) → lv_has ls 5 [(0, .ref a0), (1, .int x1), (2, .int x2), (4, .int x4_5)] → W p l e (rmD 3) s m args below meth c H locs 0 0 Q (F0 m 47 ls [.int xs0_47, .int x3_5]) := by
        intro I_47 H locs ls xs0_47 hH hv oI sm r1_47 r2_47 r4_47 hl
        unfold F_X11_fitsAt_47 at hv
        refine lv_iadd hx hb dX11_fitsAt_47 ?_
        refine lv_topi (fun y1 ey1 => ?_)
        replace hv := fnS hv ey1
        refine lv_istore_n (lv' := [(3, .int y1), (0, .ref a0), (1, .int x1), (2, .int x2), (4, .int x4_5)]) hx hb dX11_fitsAt_48 rfl hl (by decide) rfl (fun ls hl => ?_)
        obtain ⟨y2, ey2⟩ : ∃ y : Int32, y = x4_5 + 1 := ⟨_, rfl⟩
        replace hv := fnS hv ey2
        obtain ⟨ty2, ry2⟩ := Rg_addx (a' := (1)) (b' := (6)) (rfl : x4_5.toInt = _) (by decide : Int32.toInt 1 = 1) r4_47 (Rg_c (x := 1) (a := (1)) (b := (1)) (by decide)) (by decide)
        rw [← ey2] at ty2 ry2
        refine lv_iinc (v := y2) (lv' := [(4, .int y2), (3, .int y1), (0, .ref a0), (1, .int x1), (2, .int x2)]) hx hb dX11_fitsAt_49 hl (k := 4) rfl (by rw [ey2]; rfl) (by decide) rfl (fun ls hl => ?_)
        refine lv_goto (tgt := 5) hx hb dX11_fitsAt_52 (by decide) ?_
        exact ih_5 I_47 _ _ _ y1 y2 (lp_up hn_5 ty2 (Rg_ltc r4_47 (by decide))) hH hv oI sm r1_47 r2_47 (Rg_w ry2 (by decide)) (lv_sub hl [2, 3, 4, 1, 0] rfl)
      refine lv_iload hx hb dX11_fitsAt_5 (lv_at hl 4 rfl) ?_
      refine lv_aload_n hx hb dX11_fitsAt_7 rfl (lv_at hl 0 rfl) ?_
      obtain ⟨b3, mb3, vb3, kb3⟩ := rf_11_8 oR m0 k0
      replace hv := fnR hv vb3
      refine gf_11_8 vb3 hx hb hts hown hH m0 k0 rfl kf_X11_29 dX11_fitsAt_8 ?_
      refine lv_bipush (v := 10) hx hb dX11_fitsAt_11 (by decide) ?_
      refine lv_iload_n hx hb dX11_fitsAt_13 rfl (lv_at hl 1 rfl) ?_
      refine lv_iadd hx hb dX11_fitsAt_14 ?_
      refine lv_topi (fun y4 ey4 => ?_)
      replace hv := fnS hv ey4
      obtain ⟨ty4, ry4⟩ := Rg_addx (a' := (10)) (b' := (19)) (by decide : Int32.toInt 10 = 10) (rfl : x1.toInt = _) (Rg_c (x := 10) (a := (10)) (b := (10)) (by decide)) r1_5 (by decide)
      rw [← ey4] at ty4 ry4
      refine ld_70 hx hb hH mb3 kb3 (Rg_in ry4 (by decide)) dX11_fitsAt_15 ?_
      refine lv_topi (fun y5 ey5 => ?_)
      have ry5 : Rg y5 (0) (6) := by rw [ey5]; exact rd_70 oI mb3 kb3 (Rg_in ry4 (by decide))
      replace hv := fnS hv ey5
      refine lv_icmp_ge (tgt := 55) hx hb dX11_fitsAt_16 (by decide) (fun q6 => ?_) (fun q6 => ?_)
      · replace hv := fnP hv q6
        refine lv_iload_n hx hb dX11_fitsAt_55 rfl (lv_at hl 3 rfl) ?_
        exact ret (x3_5) _ _ _ _ _ _ _ dX11_fitsAt_56 hH ⟨⟨oI, oR, sm⟩, rfl, rfl, (hT.symm.trans hv)⟩
      replace hv := fnN hv q6
      have r7 : Rg x4_5 (0) (5) := Rg_ult r4_5 (Rg_nle q6) ry5 (by decide)
      have r8 : Rg y5 (1) (6) := Rg_llt ry5 (Rg_nle q6) r4_5 (by decide)
      refine lv_iload_n hx hb dX11_fitsAt_19 rfl (lv_at hl 3 rfl) ?_
      refine lv_aload_n hx hb dX11_fitsAt_20 rfl (lv_at hl 0 rfl) ?_
      refine lv_bipush (v := 6) hx hb dX11_fitsAt_21 (by decide) ?_
      refine lv_bipush (v := 10) hx hb dX11_fitsAt_23 (by decide) ?_
      refine lv_iload_n hx hb dX11_fitsAt_25 rfl (lv_at hl 1 rfl) ?_
      refine lv_iadd hx hb dX11_fitsAt_26 ?_
      refine lv_topi (fun y9 ey9 => ?_)
      obtain rfl : y4 = y9 := ey4.trans ey9.symm
      refine lv_imul hx hb dX11_fitsAt_27 ?_
      refine lv_topi (fun y10 ey10 => ?_)
      replace hv := fnS hv ey10
      obtain ⟨ty10, ry10⟩ := Rg_mulx (a' := (60)) (b' := (114)) (by decide : Int32.toInt 6 = 6) (rfl : y4.toInt = _) (Rg_c (x := 6) (a := (6)) (b := (6)) (by decide)) ry4 (by decide)
      rw [← ey10] at ty10 ry10
      refine lv_iload hx hb dX11_fitsAt_28 (lv_at hl 4 rfl) ?_
      refine lv_iadd hx hb dX11_fitsAt_30 ?_
      refine lv_topi (fun y11 ey11 => ?_)
      replace hv := fnS hv ey11
      obtain ⟨ty11, ry11⟩ := Rg_addx (a' := (60)) (b' := (119)) (rfl : y10.toInt = _) (rfl : x4_5.toInt = _) ry10 r7 (by decide)
      rw [← ey11] at ty11 ry11
      refine lv_iload_n hx hb dX11_fitsAt_31 rfl (lv_at hl 2 rfl) ?_
      refine ca_X11_266 hx hb hml hown hts hH (c_X11_findFit oI oR m0 k0 (Rg_w ry11 (by decide)) r2_5) hl.1 m0 k0 rfl (by decide) (Nat.le_of_ble_eq_true rfl) ⟨Nat.zero_le _, Nat.zero_le _⟩ dX11_fitsAt_32 (fun y12 I12 J12 R12 H locs hp hH => ?_)
      obtain ⟨⟨oI, -, sc12⟩, eJ12, eR12, ry12, hf12⟩ := hp
      obtain rfl : J = J12 := eJ12.symm
      obtain rfl : R = R12 := eR12.symm
      replace hv := fnC hv hf12
      have sm : Sm C ms_X11_fitsAt (I, J, R) (I12, J, R) := sm.tr sc12 rfl
      refine lv_if_eq (tgt := 45) hx hb dX11_fitsAt_35 (by decide) (fun q13 => ?_) (fun q13 => ?_)
      · replace hv := fnP hv q13
        have r14 : Rg y12 (0) (0) := Rg_both ry12 (Rg_eqv q13 (Rg_c (x := 0) (a := (0)) (b := (0)) (by decide))) (by decide)
        refine lv_ldc (v := 1000000) hx hb hown (hts _ kk_X11_180) dX11_fitsAt_45 ?_
        exact L_47 I12 _ _ _ 1000000 hH hv oI sm r1_5 r2_5 r7 (lv_sub hl [0, 1, 2, 4] rfl)
      replace hv := fnN hv q13
      have r15 : Rg y12 (1) (1) := Rg_nelo ry12 (Rg_ne q13) (Rg_c (x := 0) (a := (0)) (b := (0)) (by decide)) (by decide)
      refine lv_aload_n hx hb dX11_fitsAt_38 rfl (lv_at hl 0 rfl) ?_
      refine gf_11_41 hx hb hts hown hH m0 k0 rfl kf_X11_253 dX11_fitsAt_39 ?_
      refine lv_topi (fun y16 ey16 => ?_)
      replace hv := fnS hv ey16
      refine lv_goto (tgt := 47) hx hb dX11_fitsAt_42 (by decide) ?_
      exact L_47 I12 _ _ _ y16 hH hv oI sm r1_5 r2_5 r7 (lv_sub hl [0, 1, 2, 4] rfl)
  exact L_5 ((6 - (0 : Int32).toInt).toNat + 1) I _ _ _ 0 0 (Nat.lt_succ_self _) hH hv oI sm h1 h2 (Rg_w (Rg_c (x := 0) (a := (0)) (b := (0)) (by decide)) (by decide)) (lv_sub hl [2, 3, 4, 1, 0] rfl)
def ms_X11_fits : List Nat := [704, 744, 745, 746, 5440, 5504, 5568, 5632, 5696, 5760, 5824, 5888]
set_option maxHeartbeats 4000000 in
set_option maxRecDepth 100000 in
theorem c_X11_fits {l : Launch} {D : va_G} {cy : Nat → ClassId} {L : List Nat} {C : Nat → Nat} {b0 : Nat} {I : hI} {J : hJ} {R : hR} {a0 : Nat} {x1 : Int32} {x2 : Int32} (oI : OkI L C I) (oR : OkR L C R) (m0 : a0 ∈ L) (k0 : C a0 = 11) : CI l yX11_fits cX11_fits 4 .int 4 D cy L C b0 [.ref a0, .int x1, .int x2] (I, J, R) (fun r v => Ps L C ms_X11_fits (I, J, R) v ∧ v.2.1 = J ∧ v.2.2 = R ∧ Rg r (-2147483648) (999999)) := by
  refine CI.mkI (plainFor_of_name (by decide)) (Nat.le_of_ble_eq_true rfl) ?_
  intro p e s m args below meth c ls Q hF ret hH hl
  obtain ⟨hx, hb, -, hml, hown, hts, -⟩ := hF
  have hl : lv_has ls 4 [(0, .ref a0), (1, .int x1), (2, .int x2)] := hl
  have hH : Hp D cy L C b0 s s.heap I J R s.heap [] := hH
  have sm : Sm C ms_X11_fits (I, J, R) (I, J, R) := Sm.rf
  refine lv_aload_n hx hb dX11_fits_0 rfl (lv_at hl 0 rfl) ?_
  refine lv_iconst (v := 0) hx hb dX11_fits_1 (by decide) ?_
  refine pf_11_0 hx hb hts hown hH m0 k0 rfl kf_X11_131 dX11_fits_2 (fun I1 H locs eI1 hH => ?_)
  have oI : OkI L C I1 := by rw [eI1]; exact wf_11_0 oI k0 (Rg_w (Rg_c (x := 0) (a := (0)) (b := (0)) (by decide)) (by decide))
  have sm : Sm C ms_X11_fits (I, J, R) (I1, J, R) := by rw [eI1]; exact sm.stI k0 (mC_obj (by decide) rfl)
  have f2 : 0 = I1 a0 0 := by rw [eI1, u2_at]
  refine lv_iload_n hx hb dX11_fits_5 rfl (lv_at hl 1 rfl) ?_
  refine lv_i2l (v := x1.toInt64) hx hb dX11_fits_6 rfl ?_
  refine lv_lconst (v := 0) hx hb dX11_fits_7 (by decide) ?_
  refine lv_ldc2 (v := 9) hx hb hown (hts _ kkl_X11_221) dX11_fits_8 ?_
  have L_55 : ∀ (I_55 : hI) (H : Heap) (locs : List Loc) (ls : Array Slot) (xs0_55 : Int32), Hp D cy L C b0 s s.heap I_55 J R H locs → OkI L C I_55 → Sm C ms_X11_fits (I, J, R) (I_55, J, R) → Rg xs0_55 (-2147483648) (999999) → lv_has ls 4 [] → W p l e (rmD 4) s m args below meth c H locs 0 0 Q (F0 m 55 ls [.int xs0_55]) := by
    intro I_55 H locs ls xs0_55 hH oI sm rs0_55 hl
    exact ret (xs0_55) _ _ _ _ _ _ _ dX11_fits_55 hH ⟨⟨oI, oR, sm⟩, rfl, rfl, rs0_55⟩
  have L_29 : ∀ (I_29 : hI) (H : Heap) (locs : List Loc) (ls : Array Slot), Hp D cy L C b0 s s.heap I_29 J R H locs → OkI L C I_29 → Sm C ms_X11_fits (I, J, R) (I_29, J, R) → lv_has ls 4 [] → W p l e (rmD 4) s m args below meth c H locs 0 0 Q (F0 m 29 ls []) := by
    intro I_29 H locs ls hH oI sm hl
    refine lv_bipush (v := (-3)) hx hb dX11_fits_29 (by decide) ?_
    exact ret ((-3)) _ _ _ _ _ _ _ dX11_fits_31 hH ⟨⟨oI, oR, sm⟩, rfl, rfl, (Rg_w (Rg_c (x := (-3)) (a := (-3)) (b := (-3)) (by decide)) (by decide))⟩
  refine ca_X11_138 hx hb hml hown hts hH (c_X11_in ) hl.1 (by decide) (Nat.le_of_ble_eq_true rfl) ⟨Nat.zero_le _, Nat.zero_le _⟩ dX11_fits_11 (fun y3 I3 J3 R3 H locs hp hH => ?_)
  obtain ⟨eI3, eJ3, eR3, ry3, hp3, hf3⟩ := hp
  obtain rfl : I1 = I3 := eI3.symm
  obtain rfl : J = J3 := eJ3.symm
  obtain rfl : R = R3 := eR3.symm
  rcases hp3 with ⟨rfl, hq3⟩ | ⟨rfl, hq3⟩
  rotate_left
  · refine lv_if_eq (tgt := 29) hx hb dX11_fits_14 (by decide) (fun q21 => ?_) (fun q21 => ?_)
    · exact L_29 I1 _ _ _ hH oI sm (lv_sub hl [] rfl)
    exact absurd rfl q21
  have l4 : Int32.toInt 0 ≤ x1.toInt := in_cl hq3.1 (by decide)
  have r5 : Rg x1 (0) (2147483647) := Rg_lle (Rg_any x1) l4 (Rg_c (x := 0) (a := (0)) (b := (0)) (by decide)) (by decide)
  have l6 : x1.toInt ≤ Int32.toInt 9 := in_lc hq3.2 (by decide)
  have r7 : Rg x1 (0) (9) := Rg_ule r5 l6 (Rg_c (x := 9) (a := (9)) (b := (9)) (by decide)) (by decide)
  refine lv_if_eq (tgt := 29) hx hb dX11_fits_14 (by decide) (fun q8 => ?_) (fun q8 => ?_)
  · exact absurd q8 (by decide)
  refine lv_iload_n hx hb dX11_fits_17 rfl (lv_at hl 2 rfl) ?_
  refine lv_i2l (v := x2.toInt64) hx hb dX11_fits_18 rfl ?_
  refine lv_lconst (v := 0) hx hb dX11_fits_19 (by decide) ?_
  refine lv_ldc2 (v := 19) hx hb hown (hts _ kkl_X11_262) dX11_fits_20 ?_
  refine ca_X11_138 hx hb hml hown hts hH (c_X11_in ) hl.1 (by decide) (Nat.le_of_ble_eq_true rfl) ⟨Nat.zero_le _, Nat.zero_le _⟩ dX11_fits_23 (fun y9 I9 J9 R9 H locs hp hH => ?_)
  obtain ⟨eI9, eJ9, eR9, ry9, hp9, hf9⟩ := hp
  obtain rfl : I1 = I9 := eI9.symm
  obtain rfl : J = J9 := eJ9.symm
  obtain rfl : R = R9 := eR9.symm
  rcases hp9 with ⟨rfl, hq9⟩ | ⟨rfl, hq9⟩
  rotate_left
  · refine lv_if_ne (tgt := 32) hx hb dX11_fits_26 (by decide) (fun q20 => ?_) (fun q20 => ?_)
    · exact absurd rfl q20
    exact L_29 I1 _ _ _ hH oI sm (lv_sub hl [] rfl)
  have l10 : Int32.toInt 0 ≤ x2.toInt := in_cl hq9.1 (by decide)
  have r11 : Rg x2 (0) (2147483647) := Rg_lle (Rg_any x2) l10 (Rg_c (x := 0) (a := (0)) (b := (0)) (by decide)) (by decide)
  have l12 : x2.toInt ≤ Int32.toInt 19 := in_lc hq9.2 (by decide)
  have r13 : Rg x2 (0) (19) := Rg_ule r11 l12 (Rg_c (x := 19) (a := (19)) (b := (19)) (by decide)) (by decide)
  refine lv_if_ne (tgt := 32) hx hb dX11_fits_26 (by decide) (fun q14 => ?_) (fun q14 => ?_)
  rotate_left
  · exact absurd q14 (by decide)
  refine lv_aload_n hx hb dX11_fits_32 rfl (lv_at hl 0 rfl) ?_
  refine ca_X11_189 hx hb hml hown hts hH (c_X11_measure oI oR m0 k0) hl.1 m0 k0 rfl (by decide) (Nat.le_of_ble_eq_true rfl) ⟨Nat.zero_le _, Nat.zero_le _⟩ dX11_fits_33 (fun I15 J15 R15 H locs hp hH => ?_)
  obtain ⟨⟨oI, -, sc15⟩, eJ15, eR15, hf15⟩ := hp
  obtain rfl : J = J15 := eJ15.symm
  obtain rfl : R = R15 := eR15.symm
  have sm : Sm C ms_X11_fits (I, J, R) (I15, J, R) := sm.tr sc15 rfl
  refine lv_aload_n hx hb dX11_fits_36 rfl (lv_at hl 0 rfl) ?_
  refine lv_iload_n hx hb dX11_fits_37 rfl (lv_at hl 1 rfl) ?_
  refine lv_iload_n hx hb dX11_fits_38 rfl (lv_at hl 2 rfl) ?_
  refine ca_X11_269 hx hb hml hown hts hH (c_X11_fitsAt oI oR m0 k0 r7 r13) hl.1 m0 k0 rfl (by decide) (Nat.le_of_ble_eq_true rfl) ⟨Nat.zero_le _, Nat.zero_le _⟩ dX11_fits_39 (fun y16 I16 J16 R16 H locs hp hH => ?_)
  obtain ⟨⟨oI, -, sc16⟩, eJ16, eR16, hf16⟩ := hp
  obtain rfl : J = J16 := eJ16.symm
  obtain rfl : R = R16 := eR16.symm
  have sm : Sm C ms_X11_fits (I, J, R) (I16, J, R) := sm.tr sc16 rfl
  refine lv_istore_n (lv' := [(3, .int y16), (0, .ref a0), (1, .int x1), (2, .int x2)]) hx hb dX11_fits_42 rfl hl (by decide) rfl (fun ls hl => ?_)
  refine lv_iload_n hx hb dX11_fits_43 rfl (lv_at hl 0 rfl) ?_
  refine lv_ldc (v := 1000000) hx hb hown (hts _ kk_X11_180) dX11_fits_44 ?_
  refine lv_icmp_ge (tgt := 53) hx hb dX11_fits_46 (by decide) (fun q17 => ?_) (fun q17 => ?_)
  · have r18 : Rg y16 (1000000) (2147483647) := Rg_lle (Rg_any y16) (Rg_le q17) (Rg_c (x := 1000000) (a := (1000000)) (b := (1000000)) (by decide)) (by decide)
    refine lv_bipush (v := (-6)) hx hb dX11_fits_53 (by decide) ?_
    exact L_55 I16 _ _ _ (-6) hH oI sm (Rg_w (Rg_c (x := (-6)) (a := (-6)) (b := (-6)) (by decide)) (by decide)) (lv_sub hl [] rfl)
  have r19 : Rg y16 (-2147483648) (999999) := Rg_ult (Rg_any y16) (Rg_nle q17) (Rg_c (x := 1000000) (a := (1000000)) (b := (1000000)) (by decide)) (by decide)
  refine lv_iload_n hx hb dX11_fits_49 rfl (lv_at hl 0 rfl) ?_
  refine lv_goto (tgt := 55) hx hb dX11_fits_50 (by decide) ?_
  exact L_55 I16 _ _ _ y16 hH oI sm r19 (lv_sub hl [] rfl)
def ms_X11_gap : List Nat := [704, 744, 745, 746, 5440, 5504, 5568, 5632, 5696, 5760, 5824, 5888]
set_option maxHeartbeats 4000000 in
set_option maxRecDepth 100000 in
theorem c_X11_gap {l : Launch} {D : va_G} {cy : Nat → ClassId} {L : List Nat} {C : Nat → Nat} {b0 : Nat} {I : hI} {J : hJ} {R : hR} {a0 : Nat} {x1 : Int32} {x2 : Int32} (oI : OkI L C I) (oR : OkR L C R) (m0 : a0 ∈ L) (k0 : C a0 = 11) : CI l yX11_gap cX11_gap 4 .int 3 D cy L C b0 [.ref a0, .int x1, .int x2] (I, J, R) (fun r v => Ps L C ms_X11_gap (I, J, R) v ∧ v.2.1 = J ∧ v.2.2 = R ∧ Rg r (-3) (5)) := by
  refine CI.mkI (plainFor_of_name (by decide)) (Nat.le_of_ble_eq_true rfl) ?_
  intro p e s m args below meth c ls Q hF ret hH hl
  obtain ⟨hx, hb, -, hml, hown, hts, -⟩ := hF
  have hl : lv_has ls 4 [(0, .ref a0), (1, .int x1), (2, .int x2)] := hl
  have hH : Hp D cy L C b0 s s.heap I J R s.heap [] := hH
  have sm : Sm C ms_X11_gap (I, J, R) (I, J, R) := Sm.rf
  refine lv_aload_n hx hb dX11_gap_0 rfl (lv_at hl 0 rfl) ?_
  refine lv_iconst (v := 0) hx hb dX11_gap_1 (by decide) ?_
  refine pf_11_0 hx hb hts hown hH m0 k0 rfl kf_X11_131 dX11_gap_2 (fun I1 H locs eI1 hH => ?_)
  have oI : OkI L C I1 := by rw [eI1]; exact wf_11_0 oI k0 (Rg_w (Rg_c (x := 0) (a := (0)) (b := (0)) (by decide)) (by decide))
  have sm : Sm C ms_X11_gap (I, J, R) (I1, J, R) := by rw [eI1]; exact sm.stI k0 (mC_obj (by decide) rfl)
  have f2 : 0 = I1 a0 0 := by rw [eI1, u2_at]
  refine lv_iload_n hx hb dX11_gap_5 rfl (lv_at hl 1 rfl) ?_
  refine lv_i2l (v := x1.toInt64) hx hb dX11_gap_6 rfl ?_
  refine lv_lconst (v := 0) hx hb dX11_gap_7 (by decide) ?_
  refine lv_ldc2 (v := 9) hx hb hown (hts _ kkl_X11_221) dX11_gap_8 ?_
  have L_38 : ∀ (n_38 : Nat) (I_38 : hI) (H : Heap) (locs : List Loc) (ls : Array Slot) (x3_38 : Int32), (6 - x3_38.toInt).toNat < n_38 → Hp D cy L C b0 s s.heap I_38 J R H locs → OkI L C I_38 → Sm C ms_X11_gap (I, J, R) (I_38, J, R) → Rg x1 (0) (9) → Rg x2 (0) (19) → Rg x3_38 (0) (6) → lv_has ls 4 [(0, .ref a0), (1, .int x1), (2, .int x2), (3, .int x3_38)] → W p l e (rmD 3) s m args below meth c H locs 0 0 Q (F0 m 38 ls []) := by
    intro n_38
    induction n_38 with
    | zero => intro I_38 H locs ls x3_38 h; exact absurd h (Nat.not_lt_zero _)
    | succ n_38 ih_38 =>
      intro I_38 H locs ls x3_38 hn_38 hH oI sm r1_38 r2_38 r3_38 hl
      refine lv_iload_n hx hb dX11_gap_38 rfl (lv_at hl 3 rfl) ?_
      refine lv_aload_n hx hb dX11_gap_39 rfl (lv_at hl 0 rfl) ?_
      obtain ⟨b3, mb3, vb3, kb3⟩ := rf_11_8 oR m0 k0
      refine gf_11_8 vb3 hx hb hts hown hH m0 k0 rfl kf_X11_29 dX11_gap_40 ?_
      refine lv_bipush (v := 10) hx hb dX11_gap_43 (by decide) ?_
      refine lv_iload_n hx hb dX11_gap_45 rfl (lv_at hl 1 rfl) ?_
      refine lv_iadd hx hb dX11_gap_46 ?_
      refine lv_topi (fun y4 ey4 => ?_)
      obtain ⟨ty4, ry4⟩ := Rg_addx (a' := (10)) (b' := (19)) (by decide : Int32.toInt 10 = 10) (rfl : x1.toInt = _) (Rg_c (x := 10) (a := (10)) (b := (10)) (by decide)) r1_38 (by decide)
      rw [← ey4] at ty4 ry4
      refine ld_70 hx hb hH mb3 kb3 (Rg_in ry4 (by decide)) dX11_gap_47 ?_
      refine lv_topi (fun y5 ey5 => ?_)
      have ry5 : Rg y5 (0) (6) := by rw [ey5]; exact rd_70 oI mb3 kb3 (Rg_in ry4 (by decide))
      refine lv_icmp_ge (tgt := 76) hx hb dX11_gap_48 (by decide) (fun q6 => ?_) (fun q6 => ?_)
      · refine lv_iconst (v := (-1)) hx hb dX11_gap_76 (by decide) ?_
        exact ret ((-1)) _ _ _ _ _ _ _ dX11_gap_77 hH ⟨⟨oI, oR, sm⟩, rfl, rfl, (Rg_w (Rg_c (x := (-1)) (a := (-1)) (b := (-1)) (by decide)) (by decide))⟩
      have r7 : Rg x3_38 (0) (5) := Rg_ult r3_38 (Rg_nle q6) ry5 (by decide)
      have r8 : Rg y5 (1) (6) := Rg_llt ry5 (Rg_nle q6) r3_38 (by decide)
      refine lv_aload_n hx hb dX11_gap_51 rfl (lv_at hl 0 rfl) ?_
      refine lv_bipush (v := 6) hx hb dX11_gap_52 (by decide) ?_
      refine lv_bipush (v := 10) hx hb dX11_gap_54 (by decide) ?_
      refine lv_iload_n hx hb dX11_gap_56 rfl (lv_at hl 1 rfl) ?_
      refine lv_iadd hx hb dX11_gap_57 ?_
      refine lv_topi (fun y9 ey9 => ?_)
      obtain rfl : y4 = y9 := ey4.trans ey9.symm
      refine lv_imul hx hb dX11_gap_58 ?_
      refine lv_topi (fun y10 ey10 => ?_)
      obtain ⟨ty10, ry10⟩ := Rg_mulx (a' := (60)) (b' := (114)) (by decide : Int32.toInt 6 = 6) (rfl : y4.toInt = _) (Rg_c (x := 6) (a := (6)) (b := (6)) (by decide)) ry4 (by decide)
      rw [← ey10] at ty10 ry10
      refine lv_iload_n hx hb dX11_gap_59 rfl (lv_at hl 3 rfl) ?_
      refine lv_iadd hx hb dX11_gap_60 ?_
      refine lv_topi (fun y11 ey11 => ?_)
      obtain ⟨ty11, ry11⟩ := Rg_addx (a' := (60)) (b' := (119)) (rfl : y10.toInt = _) (rfl : x3_38.toInt = _) ry10 r7 (by decide)
      rw [← ey11] at ty11 ry11
      refine lv_iload_n hx hb dX11_gap_61 rfl (lv_at hl 2 rfl) ?_
      refine ca_X11_266 hx hb hml hown hts hH (c_X11_findFit oI oR m0 k0 (Rg_w ry11 (by decide)) r2_38) hl.1 m0 k0 rfl (by decide) (Nat.le_of_ble_eq_true rfl) ⟨Nat.zero_le _, Nat.zero_le _⟩ dX11_gap_62 (fun y12 I12 J12 R12 H locs hp hH => ?_)
      obtain ⟨⟨oI, -, sc12⟩, eJ12, eR12, ry12, hf12⟩ := hp
      obtain rfl : J = J12 := eJ12.symm
      obtain rfl : R = R12 := eR12.symm
      have sm : Sm C ms_X11_gap (I, J, R) (I12, J, R) := sm.tr sc12 rfl
      refine lv_if_ne (tgt := 70) hx hb dX11_gap_65 (by decide) (fun q13 => ?_) (fun q13 => ?_)
      rotate_left
      · have r16 : Rg y12 (0) (0) := Rg_both ry12 (Rg_eqv q13 (Rg_c (x := 0) (a := (0)) (b := (0)) (by decide))) (by decide)
        refine lv_iload_n hx hb dX11_gap_68 rfl (lv_at hl 3 rfl) ?_
        exact ret (x3_38) _ _ _ _ _ _ _ dX11_gap_69 hH ⟨⟨oI, oR, sm⟩, rfl, rfl, (Rg_w r7 (by decide))⟩
      have r14 : Rg y12 (1) (1) := Rg_nelo ry12 (Rg_ne q13) (Rg_c (x := 0) (a := (0)) (b := (0)) (by decide)) (by decide)
      obtain ⟨y15, ey15⟩ : ∃ y : Int32, y = x3_38 + 1 := ⟨_, rfl⟩
      obtain ⟨ty15, ry15⟩ := Rg_addx (a' := (1)) (b' := (6)) (rfl : x3_38.toInt = _) (by decide : Int32.toInt 1 = 1) r7 (Rg_c (x := 1) (a := (1)) (b := (1)) (by decide)) (by decide)
      rw [← ey15] at ty15 ry15
      refine lv_iinc (v := y15) (lv' := [(3, .int y15), (0, .ref a0), (1, .int x1), (2, .int x2)]) hx hb dX11_gap_70 hl (k := 3) rfl (by rw [ey15]; rfl) (by decide) rfl (fun ls hl => ?_)
      refine lv_goto (tgt := 38) hx hb dX11_gap_73 (by decide) ?_
      exact ih_38 I12 _ _ _ y15 (lp_up hn_38 ty15 (Rg_ltc r7 (by decide))) hH oI sm r1_38 r2_38 (Rg_w ry15 (by decide)) (lv_sub hl [1, 2, 3, 0] rfl)
  have L_29 : ∀ (I_29 : hI) (H : Heap) (locs : List Loc) (ls : Array Slot), Hp D cy L C b0 s s.heap I_29 J R H locs → OkI L C I_29 → Sm C ms_X11_gap (I, J, R) (I_29, J, R) → lv_has ls 4 [] → W p l e (rmD 3) s m args below meth c H locs 0 0 Q (F0 m 29 ls []) := by
    intro I_29 H locs ls hH oI sm hl
    refine lv_bipush (v := (-3)) hx hb dX11_gap_29 (by decide) ?_
    exact ret ((-3)) _ _ _ _ _ _ _ dX11_gap_31 hH ⟨⟨oI, oR, sm⟩, rfl, rfl, (Rg_w (Rg_c (x := (-3)) (a := (-3)) (b := (-3)) (by decide)) (by decide))⟩
  refine ca_X11_138 hx hb hml hown hts hH (c_X11_in ) hl.1 (by decide) (Nat.le_of_ble_eq_true rfl) ⟨Nat.zero_le _, Nat.zero_le _⟩ dX11_gap_11 (fun y17 I17 J17 R17 H locs hp hH => ?_)
  obtain ⟨eI17, eJ17, eR17, ry17, hp17, hf17⟩ := hp
  obtain rfl : I1 = I17 := eI17.symm
  obtain rfl : J = J17 := eJ17.symm
  obtain rfl : R = R17 := eR17.symm
  rcases hp17 with ⟨rfl, hq17⟩ | ⟨rfl, hq17⟩
  rotate_left
  · refine lv_if_eq (tgt := 29) hx hb dX11_gap_14 (by decide) (fun q31 => ?_) (fun q31 => ?_)
    · exact L_29 I1 _ _ _ hH oI sm (lv_sub hl [] rfl)
    exact absurd rfl q31
  have l18 : Int32.toInt 0 ≤ x1.toInt := in_cl hq17.1 (by decide)
  have r19 : Rg x1 (0) (2147483647) := Rg_lle (Rg_any x1) l18 (Rg_c (x := 0) (a := (0)) (b := (0)) (by decide)) (by decide)
  have l20 : x1.toInt ≤ Int32.toInt 9 := in_lc hq17.2 (by decide)
  have r21 : Rg x1 (0) (9) := Rg_ule r19 l20 (Rg_c (x := 9) (a := (9)) (b := (9)) (by decide)) (by decide)
  refine lv_if_eq (tgt := 29) hx hb dX11_gap_14 (by decide) (fun q22 => ?_) (fun q22 => ?_)
  · exact absurd q22 (by decide)
  refine lv_iload_n hx hb dX11_gap_17 rfl (lv_at hl 2 rfl) ?_
  refine lv_i2l (v := x2.toInt64) hx hb dX11_gap_18 rfl ?_
  refine lv_lconst (v := 0) hx hb dX11_gap_19 (by decide) ?_
  refine lv_ldc2 (v := 19) hx hb hown (hts _ kkl_X11_262) dX11_gap_20 ?_
  refine ca_X11_138 hx hb hml hown hts hH (c_X11_in ) hl.1 (by decide) (Nat.le_of_ble_eq_true rfl) ⟨Nat.zero_le _, Nat.zero_le _⟩ dX11_gap_23 (fun y23 I23 J23 R23 H locs hp hH => ?_)
  obtain ⟨eI23, eJ23, eR23, ry23, hp23, hf23⟩ := hp
  obtain rfl : I1 = I23 := eI23.symm
  obtain rfl : J = J23 := eJ23.symm
  obtain rfl : R = R23 := eR23.symm
  rcases hp23 with ⟨rfl, hq23⟩ | ⟨rfl, hq23⟩
  rotate_left
  · refine lv_if_ne (tgt := 32) hx hb dX11_gap_26 (by decide) (fun q30 => ?_) (fun q30 => ?_)
    · exact absurd rfl q30
    exact L_29 I1 _ _ _ hH oI sm (lv_sub hl [] rfl)
  have l24 : Int32.toInt 0 ≤ x2.toInt := in_cl hq23.1 (by decide)
  have r25 : Rg x2 (0) (2147483647) := Rg_lle (Rg_any x2) l24 (Rg_c (x := 0) (a := (0)) (b := (0)) (by decide)) (by decide)
  have l26 : x2.toInt ≤ Int32.toInt 19 := in_lc hq23.2 (by decide)
  have r27 : Rg x2 (0) (19) := Rg_ule r25 l26 (Rg_c (x := 19) (a := (19)) (b := (19)) (by decide)) (by decide)
  refine lv_if_ne (tgt := 32) hx hb dX11_gap_26 (by decide) (fun q28 => ?_) (fun q28 => ?_)
  rotate_left
  · exact absurd q28 (by decide)
  refine lv_aload_n hx hb dX11_gap_32 rfl (lv_at hl 0 rfl) ?_
  refine ca_X11_189 hx hb hml hown hts hH (c_X11_measure oI oR m0 k0) hl.1 m0 k0 rfl (by decide) (Nat.le_of_ble_eq_true rfl) ⟨Nat.zero_le _, Nat.zero_le _⟩ dX11_gap_33 (fun I29 J29 R29 H locs hp hH => ?_)
  obtain ⟨⟨oI, -, sc29⟩, eJ29, eR29, hf29⟩ := hp
  obtain rfl : J = J29 := eJ29.symm
  obtain rfl : R = R29 := eR29.symm
  have sm : Sm C ms_X11_gap (I, J, R) (I29, J, R) := sm.tr sc29 rfl
  refine lv_iconst (v := 0) hx hb dX11_gap_36 (by decide) ?_
  refine lv_istore_n (lv' := [(3, .int 0), (0, .ref a0), (1, .int x1), (2, .int x2)]) hx hb dX11_gap_37 rfl hl (by decide) rfl (fun ls hl => ?_)
  exact L_38 ((6 - (0 : Int32).toInt).toNat + 1) I29 _ _ _ 0 (Nat.lt_succ_self _) hH oI sm r21 r27 (Rg_w (Rg_c (x := 0) (a := (0)) (b := (0)) (by decide)) (by decide)) (lv_sub hl [1, 2, 3, 0] rfl)
noncomputable def F_X11_isWayAhead_56 (a0 : Nat) (x1 : Int32) (x2 : Int32) (x3 : Int32) (x4_3 : Int32) (k_3 : hI → hJ → hR → Int32 → (Int32)) (I : hI) (J : hJ) (R : hR) (xs0_56 : Int32) : Int32 :=
  xs0_56
noncomputable def B_X11_isWayAhead_3 (a0 : Nat) (x1 : Int32) (x2 : Int32) (x3 : Int32) (k_3 : hI → hJ → hR → Int32 → (Int32)) (I : hI) (J : hJ) (R : hR) (x4_3 : Int32) : Int32 :=
  (if x3 ≤ x4_3 then (0 : Int32) else nm ((R a0 45).getD 0) fun b4 => nm (x1 + x4_3) fun y5 => nm (I b4 (Int32.toNatClampNeg y5)) fun y6 => nm (x2 + x4_3) fun y7 => nm (I b4 (Int32.toNatClampNeg y7)) fun y8 => (if y6 = y8 then nm (x4_3 + (1 : Int32)) fun y10 => k_3 I J R y10 else (if y8 ≤ y6 then F_X11_isWayAhead_56 a0 x1 x2 x3 x4_3 k_3 I J R (0 : Int32) else F_X11_isWayAhead_56 a0 x1 x2 x3 x4_3 k_3 I J R (1 : Int32))))
noncomputable def F_X11_isWayAhead_3 (a0 : Nat) (x1 : Int32) (x2 : Int32) (x3 : Int32) : Nat → hI → hJ → hR → Int32 → (Int32) := fun n => Nat.rec (motive := fun _ => hI → hJ → hR → Int32 → (Int32)) (fun _ _ _ _ => default) (fun _ k => B_X11_isWayAhead_3 a0 x1 x2 x3 k) n
theorem F_X11_isWayAhead_3_s {a0 : Nat} {x1 : Int32} {x2 : Int32} {x3 : Int32} {n : Nat} {I : hI} {J : hJ} {R : hR} {x4_3 : Int32} : F_X11_isWayAhead_3 a0 x1 x2 x3 (n + 1)  I J R x4_3 = B_X11_isWayAhead_3 a0 x1 x2 x3 (F_X11_isWayAhead_3 a0 x1 x2 x3 n)  I J R x4_3 := rfl
noncomputable def F_X11_isWayAhead (a0 : Nat) (x1 : Int32) (x2 : Int32) (x3 : Int32) (I : hI) (J : hJ) (R : hR) : Int32 :=
  F_X11_isWayAhead_3 a0 x1 x2 x3 ((9 - (0 : Int32).toInt).toNat + 1) I J R (0 : Int32)
set_option maxHeartbeats 4000000 in
set_option maxRecDepth 100000 in
theorem c_X11_isWayAhead {l : Launch} {D : va_G} {cy : Nat → ClassId} {L : List Nat} {C : Nat → Nat} {b0 : Nat} {I : hI} {J : hJ} {R : hR} {a0 : Nat} {x1 : Int32} {x2 : Int32} {x3 : Int32} (oI : OkI L C I) (oR : OkR L C R) (m0 : a0 ∈ L) (k0 : C a0 = 11) (h1 : Rg x1 (0) (990)) (h2 : Rg x2 (0) (990)) (h3 : Rg x3 (1) (9)) : CI l yX11_isWayAhead cX11_isWayAhead 5 .boolean 0 D cy L C b0 [.ref a0, .int x1, .int x2, .int x3] (I, J, R) (fun r v => v.1 = I ∧ v.2.1 = J ∧ v.2.2 = R ∧ Rg r (0) (1) ∧ F_X11_isWayAhead a0 x1 x2 x3 I J R = r) := by
  refine CI.mkZ (plainFor_of_name (by decide)) (Nat.le_of_ble_eq_true rfl) ?_
  intro p e s m args below meth c ls Q hF ret hH hl
  obtain ⟨hx, hb, -, hml, hown, hts, -⟩ := hF
  have hl : lv_has ls 5 [(0, .ref a0), (1, .int x1), (2, .int x2), (3, .int x3)] := hl
  have hH : Hp D cy L C b0 s s.heap I J R s.heap [] := hH
  obtain ⟨TT0, hT⟩ : ∃ TT0, TT0 = F_X11_isWayAhead a0 x1 x2 x3 I J R := ⟨_, rfl⟩
  have hv := hT
  unfold F_X11_isWayAhead at hv
  refine lv_iconst (v := 0) hx hb dX11_isWayAhead_0 (by decide) ?_
  refine lv_istore (lv' := [(4, .int 0), (0, .ref a0), (1, .int x1), (2, .int x2), (3, .int x3)]) hx hb dX11_isWayAhead_1 hl (by decide) rfl (fun ls hl => ?_)
  have L_3 : ∀ (n_3 : Nat) (H : Heap) (locs : List Loc) (ls : Array Slot) (x4_3 : Int32), (9 - x4_3.toInt).toNat < n_3 → Hp D cy L C b0 s s.heap I J R H locs → TT0 = F_X11_isWayAhead_3 a0 x1 x2 x3 n_3 I J R x4_3 → Rg x1 (0) (990) → Rg x2 (0) (990) → Rg x3 (1) (9) → Rg x4_3 (0) (9) → lv_has ls 5 [(0, .ref a0), (1, .int x1), (2, .int x2), (3, .int x3), (4, .int x4_3)] → W p l e (rmD 0) s m args below meth c H locs 0 0 Q (F0 m 3 ls []) := by
    intro n_3
    induction n_3 with
    | zero => intro H locs ls x4_3 h; exact absurd h (Nat.not_lt_zero _)
    | succ n_3 ih_3 =>
      intro H locs ls x4_3 hn_3 hH hv r1_3 r2_3 r3_3 r4_3 hl
      replace hv := hv.trans F_X11_isWayAhead_3_s
      unfold B_X11_isWayAhead_3 at hv
      have L_56 : ∀ (H : Heap) (locs : List Loc) (ls : Array Slot) (xs0_56 : Int32), Hp D cy L C b0 s s.heap I J R H locs → TT0 = F_X11_isWayAhead_56 a0 x1 x2 x3 x4_3 (F_X11_isWayAhead_3 a0 x1 x2 x3 n_3) I J R xs0_56 → Rg xs0_56 (0) (1) → lv_has ls 5 [] → W p l e (rmD 0) s m args below meth c H locs 0 0 Q (F0 m 56 ls [.int xs0_56]) := by
        intro H locs ls xs0_56 hH hv rs0_56 hl
        unfold F_X11_isWayAhead_56 at hv
        exact ret (xs0_56) _ _ _ _ _ _ _ dX11_isWayAhead_56 hH (Rg_01 (Rg_w rs0_56 (by decide))) ⟨rfl, rfl, rfl, rs0_56, (hT.symm.trans hv)⟩
      refine lv_iload hx hb dX11_isWayAhead_3 (lv_at hl 4 rfl) ?_
      refine lv_iload_n hx hb dX11_isWayAhead_5 rfl (lv_at hl 3 rfl) ?_
      refine lv_icmp_ge (tgt := 63) hx hb dX11_isWayAhead_6 (by decide) (fun q1 => ?_) (fun q1 => ?_)
      · replace hv := fnP hv q1
        have r2 : Rg x4_3 (1) (9) := Rg_lle r4_3 (Rg_le q1) r3_3 (by decide)
        refine lv_iconst (v := 0) hx hb dX11_isWayAhead_63 (by decide) ?_
        exact ret (0) _ _ _ _ _ _ _ dX11_isWayAhead_64 hH (Rg_01 (Rg_w (Rg_c (x := 0) (a := (0)) (b := (0)) (by decide)) (by decide))) ⟨rfl, rfl, rfl, (Rg_w (Rg_c (x := 0) (a := (0)) (b := (0)) (by decide)) (by decide)), (hT.symm.trans hv)⟩
      replace hv := fnN hv q1
      have r3 : Rg x4_3 (0) (8) := Rg_ult r4_3 (Rg_nle q1) r3_3 (by decide)
      refine lv_aload_n hx hb dX11_isWayAhead_9 rfl (lv_at hl 0 rfl) ?_
      obtain ⟨b4, mb4, vb4, kb4⟩ := rf_11_45 oR m0 k0
      replace hv := fnR hv vb4
      refine gf_11_45 vb4 hx hb hts hown hH m0 k0 rfl kf_X11_102 dX11_isWayAhead_10 ?_
      refine lv_iload_n hx hb dX11_isWayAhead_13 rfl (lv_at hl 1 rfl) ?_
      refine lv_iload hx hb dX11_isWayAhead_14 (lv_at hl 4 rfl) ?_
      refine lv_iadd hx hb dX11_isWayAhead_16 ?_
      refine lv_topi (fun y5 ey5 => ?_)
      replace hv := fnS hv ey5
      obtain ⟨ty5, ry5⟩ := Rg_addx (a' := (0)) (b' := (998)) (rfl : x1.toInt = _) (rfl : x4_3.toInt = _) r1_3 r3 (by decide)
      rw [← ey5] at ty5 ry5
      refine ld_94 hx hb hH mb4 kb4 (Rg_in ry5 (by decide)) dX11_isWayAhead_17 ?_
      refine lv_topi (fun y6 ey6 => ?_)
      have ry6 : Rg y6 (0) (9) := by rw [ey6]; exact rd_94 oI mb4 kb4 (Rg_in ry5 (by decide))
      replace hv := fnS hv ey6
      refine lv_aload_n hx hb dX11_isWayAhead_18 rfl (lv_at hl 0 rfl) ?_
      refine gf_11_45 vb4 hx hb hts hown hH m0 k0 rfl kf_X11_102 dX11_isWayAhead_19 ?_
      refine lv_iload_n hx hb dX11_isWayAhead_22 rfl (lv_at hl 2 rfl) ?_
      refine lv_iload hx hb dX11_isWayAhead_23 (lv_at hl 4 rfl) ?_
      refine lv_iadd hx hb dX11_isWayAhead_25 ?_
      refine lv_topi (fun y7 ey7 => ?_)
      replace hv := fnS hv ey7
      obtain ⟨ty7, ry7⟩ := Rg_addx (a' := (0)) (b' := (998)) (rfl : x2.toInt = _) (rfl : x4_3.toInt = _) r2_3 r3 (by decide)
      rw [← ey7] at ty7 ry7
      refine ld_94 hx hb hH mb4 kb4 (Rg_in ry7 (by decide)) dX11_isWayAhead_26 ?_
      refine lv_topi (fun y8 ey8 => ?_)
      have ry8 : Rg y8 (0) (9) := by rw [ey8]; exact rd_94 oI mb4 kb4 (Rg_in ry7 (by decide))
      replace hv := fnS hv ey8
      refine lv_icmp_eq (tgt := 57) hx hb dX11_isWayAhead_27 (by decide) (fun q9 => ?_) (fun q9 => ?_)
      · replace hv := fnP hv q9
        obtain ⟨y10, ey10⟩ : ∃ y : Int32, y = x4_3 + 1 := ⟨_, rfl⟩
        replace hv := fnS hv ey10
        obtain ⟨ty10, ry10⟩ := Rg_addx (a' := (1)) (b' := (9)) (rfl : x4_3.toInt = _) (by decide : Int32.toInt 1 = 1) r3 (Rg_c (x := 1) (a := (1)) (b := (1)) (by decide)) (by decide)
        rw [← ey10] at ty10 ry10
        refine lv_iinc (v := y10) (lv' := [(4, .int y10), (0, .ref a0), (1, .int x1), (2, .int x2), (3, .int x3)]) hx hb dX11_isWayAhead_57 hl (k := 4) rfl (by rw [ey10]; rfl) (by decide) rfl (fun ls hl => ?_)
        refine lv_goto (tgt := 3) hx hb dX11_isWayAhead_60 (by decide) ?_
        exact ih_3 _ _ _ y10 (lp_up hn_3 ty10 (Rg_ltc r3 (by decide))) hH hv r1_3 r2_3 r3_3 (Rg_w ry10 (by decide)) (lv_sub hl [1, 2, 3, 4, 0] rfl)
      replace hv := fnN hv q9
      refine lv_aload_n hx hb dX11_isWayAhead_30 rfl (lv_at hl 0 rfl) ?_
      refine gf_11_45 vb4 hx hb hts hown hH m0 k0 rfl kf_X11_102 dX11_isWayAhead_31 ?_
      refine lv_iload_n hx hb dX11_isWayAhead_34 rfl (lv_at hl 1 rfl) ?_
      refine lv_iload hx hb dX11_isWayAhead_35 (lv_at hl 4 rfl) ?_
      refine lv_iadd hx hb dX11_isWayAhead_37 ?_
      refine lv_topi (fun y11 ey11 => ?_)
      obtain rfl : y5 = y11 := ey5.trans ey11.symm
      refine ld_94 hx hb hH mb4 kb4 (Rg_in ry5 (by decide)) dX11_isWayAhead_38 ?_
      refine lv_topi (fun y12 ey12 => ?_)
      obtain rfl : y6 = y12 := ey6.trans ey12.symm
      refine lv_aload_n hx hb dX11_isWayAhead_39 rfl (lv_at hl 0 rfl) ?_
      refine gf_11_45 vb4 hx hb hts hown hH m0 k0 rfl kf_X11_102 dX11_isWayAhead_40 ?_
      refine lv_iload_n hx hb dX11_isWayAhead_43 rfl (lv_at hl 2 rfl) ?_
      refine lv_iload hx hb dX11_isWayAhead_44 (lv_at hl 4 rfl) ?_
      refine lv_iadd hx hb dX11_isWayAhead_46 ?_
      refine lv_topi (fun y13 ey13 => ?_)
      obtain rfl : y7 = y13 := ey7.trans ey13.symm
      refine ld_94 hx hb hH mb4 kb4 (Rg_in ry7 (by decide)) dX11_isWayAhead_47 ?_
      refine lv_topi (fun y14 ey14 => ?_)
      obtain rfl : y8 = y14 := ey8.trans ey14.symm
      refine lv_icmp_ge (tgt := 55) hx hb dX11_isWayAhead_48 (by decide) (fun q15 => ?_) (fun q15 => ?_)
      · replace hv := fnP hv q15
        refine lv_iconst (v := 0) hx hb dX11_isWayAhead_55 (by decide) ?_
        exact L_56 _ _ _ 0 hH hv (Rg_w (Rg_c (x := 0) (a := (0)) (b := (0)) (by decide)) (by decide)) (lv_sub hl [] rfl)
      replace hv := fnN hv q15
      have r16 : Rg y6 (0) (8) := Rg_ult ry6 (Rg_nle q15) ry8 (by decide)
      have r17 : Rg y8 (1) (9) := Rg_llt ry8 (Rg_nle q15) ry6 (by decide)
      refine lv_iconst (v := 1) hx hb dX11_isWayAhead_51 (by decide) ?_
      refine lv_goto (tgt := 56) hx hb dX11_isWayAhead_52 (by decide) ?_
      exact L_56 _ _ _ 1 hH hv (Rg_w (Rg_c (x := 1) (a := (1)) (b := (1)) (by decide)) (by decide)) (lv_sub hl [] rfl)
  exact L_3 ((9 - (0 : Int32).toInt).toNat + 1) _ _ _ 0 (Nat.lt_succ_self _) hH hv h1 h2 h3 (Rg_w (Rg_c (x := 0) (a := (0)) (b := (0)) (by decide)) (by decide)) (lv_sub hl [1, 2, 3, 4, 0] rfl)
noncomputable def B_X11_findWay_372 (a0 : Nat) (x1 : Int32) (x2 : Int32) (k_372 : hI → hJ → hR → Int32 → Int32 → (Int32 × hU)) (I_372 : hI) (J : hJ) (R : hR) (x3_372 : Int32) (x4_372 : Int32) : Int32 × hU :=
  nm (I_372 a0 47) fun zm47_372 => (if zm47_372 ≤ x4_372 then nm ((R a0 44).getD 0) fun b4 => nm ((10 : Int32) * x3_372) fun y5 => nm (y5 + x2) fun y6 => nm (I_372 b4 (Int32.toNatClampNeg y6)) fun y7 => (y7, (I_372, J, R)) else nm ((R a0 48).getD 0) fun b9 => nm ((R a0 45).getD 0) fun b10 => nm ((10 : Int32) * x3_372) fun y11 => nm (y11 + x2) fun y12 => nm ((10 : Int32) * y12) fun y13 => nm (y13 + x4_372) fun y14 => nm (I_372 b10 (Int32.toNatClampNeg y14)) fun y15 => nm (u2 I_372 b9 (Int32.toNatClampNeg x4_372) y15) fun I16 => nm (x4_372 + (1 : Int32)) fun y17 => k_372 I16 J R x3_372 y17)
noncomputable def F_X11_findWay_372 (a0 : Nat) (x1 : Int32) (x2 : Int32) : Nat → hI → hJ → hR → Int32 → Int32 → (Int32 × hU) := fun n => Nat.rec (motive := fun _ => hI → hJ → hR → Int32 → Int32 → (Int32 × hU)) (fun _ _ _ _ _ => default) (fun _ k => B_X11_findWay_372 a0 x1 x2 k) n
theorem F_X11_findWay_372_s {a0 : Nat} {x1 : Int32} {x2 : Int32} {n : Nat} {I_372 : hI} {J : hJ} {R : hR} {x3_372 : Int32} {x4_372 : Int32} : F_X11_findWay_372 a0 x1 x2 (n + 1)  I_372 J R x3_372 x4_372 = B_X11_findWay_372 a0 x1 x2 (F_X11_findWay_372 a0 x1 x2 n)  I_372 J R x3_372 x4_372 := rfl
noncomputable def F_X11_findWay_355 (a0 : Nat) (x1 : Int32) (x2 : Int32) (x3_316 : Int32) (x4_316 : Int32) (k_316 : hI → hJ → hR → Int32 → Int32 → (Int32 × hU)) (I_355 : hI) (J : hJ) (R : hR) (xs0_355 : Int32) : Int32 × hU :=
  nm (x4_316 + (1 : Int32)) fun y20 => k_316 I_355 J R xs0_355 y20
noncomputable def B_X11_findWay_316 (a0 : Nat) (x1 : Int32) (x2 : Int32) (k_316 : hI → hJ → hR → Int32 → Int32 → (Int32 × hU)) (I_316 : hI) (J : hJ) (R : hR) (x3_316 : Int32) (x4_316 : Int32) : Int32 × hU :=
  (if (10 : Int32) ≤ x4_316 then nm (x3_316 + (1 : Int32)) fun y23 => nm (u2 I_316 a0 47 y23) fun I24 => F_X11_findWay_372 a0 x1 x2 ((10 - (0 : Int32).toInt).toNat + 1) I24 J R x3_316 (0 : Int32) else nm ((R a0 44).getD 0) fun b27 => nm ((10 : Int32) * x4_316) fun y28 => nm (y28 + x2) fun y29 => nm (I_316 b27 (Int32.toNatClampNeg y29)) fun y30 => nm ((10 : Int32) * x3_316) fun y31 => nm (y31 + x2) fun y32 => nm (I_316 b27 (Int32.toNatClampNeg y32)) fun y33 => (if y33 ≤ y30 then F_X11_findWay_355 a0 x1 x2 x3_316 x4_316 k_316 I_316 J R x3_316 else F_X11_findWay_355 a0 x1 x2 x3_316 x4_316 k_316 I_316 J R x4_316))
noncomputable def F_X11_findWay_316 (a0 : Nat) (x1 : Int32) (x2 : Int32) : Nat → hI → hJ → hR → Int32 → Int32 → (Int32 × hU) := fun n => Nat.rec (motive := fun _ => hI → hJ → hR → Int32 → Int32 → (Int32 × hU)) (fun _ _ _ _ _ => default) (fun _ k => B_X11_findWay_316 a0 x1 x2 k) n
theorem F_X11_findWay_316_s {a0 : Nat} {x1 : Int32} {x2 : Int32} {n : Nat} {I_316 : hI} {J : hJ} {R : hR} {x3_316 : Int32} {x4_316 : Int32} : F_X11_findWay_316 a0 x1 x2 (n + 1)  I_316 J R x3_316 x4_316 = B_X11_findWay_316 a0 x1 x2 (F_X11_findWay_316 a0 x1 x2 n)  I_316 J R x3_316 x4_316 := rfl
noncomputable def F_X11_findWay_293 (a0 : Nat) (x1 : Int32) (x2 : Int32) (x3_111 : Int32) (x4_120 : Int32) (x5_130 : Int32) (k_111 : hI → hJ → hR → Int32 → (Int32 × hU)) (k_120 : hI → hJ → hR → Int32 → (Int32 × hU)) (k_130 : hI → hJ → hR → Int32 → (Int32 × hU)) (I_293 : hI) (J : hJ) (R : hR) : Int32 × hU :=
  nm (x5_130 + (1 : Int32)) fun y37 => k_130 I_293 J R y37
noncomputable def B_X11_findWay_241 (a0 : Nat) (x1 : Int32) (x2 : Int32) (x3_111 : Int32) (x4_120 : Int32) (x5_130 : Int32) (k_111 : hI → hJ → hR → Int32 → (Int32 × hU)) (k_120 : hI → hJ → hR → Int32 → (Int32 × hU)) (k_130 : hI → hJ → hR → Int32 → (Int32 × hU)) (k_241 : hI → hJ → hR → Int32 → Int32 → Int32 → (Int32 × hU)) (I_241 : hI) (J : hJ) (R : hR) (x6_241 : Int32) (x7_241 : Int32) (x9_241 : Int32) : Int32 × hU :=
  (if x3_111 ≤ x9_241 then nm ((R a0 45).getD 0) fun b40 => nm ((10 : Int32) * x7_241) fun y41 => nm (y41 + x3_111) fun y42 => nm (u2 I_241 b40 (Int32.toNatClampNeg y42) x5_130) fun I43 => F_X11_findWay_293 a0 x1 x2 x3_111 x4_120 x5_130 k_111 k_120 k_130 I43 J R else nm ((R a0 45).getD 0) fun b45 => nm ((10 : Int32) * x7_241) fun y46 => nm (y46 + x9_241) fun y47 => nm ((10 : Int32) * x6_241) fun y48 => nm (y48 + x9_241) fun y49 => nm (I_241 b45 (Int32.toNatClampNeg y49)) fun y50 => nm (u2 I_241 b45 (Int32.toNatClampNeg y47) y50) fun I51 => nm (x9_241 + (1 : Int32)) fun y52 => k_241 I51 J R x6_241 x7_241 y52)
noncomputable def F_X11_findWay_241 (a0 : Nat) (x1 : Int32) (x2 : Int32) (x3_111 : Int32) (x4_120 : Int32) (x5_130 : Int32) (k_111 : hI → hJ → hR → Int32 → (Int32 × hU)) (k_120 : hI → hJ → hR → Int32 → (Int32 × hU)) (k_130 : hI → hJ → hR → Int32 → (Int32 × hU)) : Nat → hI → hJ → hR → Int32 → Int32 → Int32 → (Int32 × hU) := fun n => Nat.rec (motive := fun _ => hI → hJ → hR → Int32 → Int32 → Int32 → (Int32 × hU)) (fun _ _ _ _ _ _ => default) (fun _ k => B_X11_findWay_241 a0 x1 x2 x3_111 x4_120 x5_130 k_111 k_120 k_130 k) n
theorem F_X11_findWay_241_s {a0 : Nat} {x1 : Int32} {x2 : Int32} {x3_111 : Int32} {x4_120 : Int32} {x5_130 : Int32} {k_111 : hI → hJ → hR → Int32 → (Int32 × hU)} {k_120 : hI → hJ → hR → Int32 → (Int32 × hU)} {k_130 : hI → hJ → hR → Int32 → (Int32 × hU)} {n : Nat} {I_241 : hI} {J : hJ} {R : hR} {x6_241 : Int32} {x7_241 : Int32} {x9_241 : Int32} : F_X11_findWay_241 a0 x1 x2 x3_111 x4_120 x5_130 k_111 k_120 k_130 (n + 1)  I_241 J R x6_241 x7_241 x9_241 = B_X11_findWay_241 a0 x1 x2 x3_111 x4_120 x5_130 k_111 k_120 k_130 (F_X11_findWay_241 a0 x1 x2 x3_111 x4_120 x5_130 k_111 k_120 k_130 n)  I_241 J R x6_241 x7_241 x9_241 := rfl
noncomputable def F_X11_findWay_229 (a0 : Nat) (x1 : Int32) (x2 : Int32) (x3_111 : Int32) (x4_120 : Int32) (x5_130 : Int32) (k_111 : hI → hJ → hR → Int32 → (Int32 × hU)) (k_120 : hI → hJ → hR → Int32 → (Int32 × hU)) (k_130 : hI → hJ → hR → Int32 → (Int32 × hU)) (I_229 : hI) (J : hJ) (R : hR) (x6_229 : Int32) (x7_229 : Int32) (x8_229 : Int32) : Int32 × hU :=
  nm ((R a0 44).getD 0) fun b53 => nm (u2 I_229 b53 (Int32.toNatClampNeg x7_229) x8_229) fun I54 => F_X11_findWay_241 a0 x1 x2 x3_111 x4_120 x5_130 k_111 k_120 k_130 ((9 - (0 : Int32).toInt).toNat + 1) I54 J R x6_229 x7_229 (0 : Int32)
noncomputable def B_X11_findWay_130 (a0 : Nat) (x1 : Int32) (x2 : Int32) (x3_111 : Int32) (x4_120 : Int32) (k_111 : hI → hJ → hR → Int32 → (Int32 × hU)) (k_120 : hI → hJ → hR → Int32 → (Int32 × hU)) (k_130 : hI → hJ → hR → Int32 → (Int32 × hU)) (I_130 : hI) (J : hJ) (R : hR) (x5_130 : Int32) : Int32 × hU :=
  (if (10 : Int32) ≤ x5_130 then nm (x4_120 + (1 : Int32)) fun y57 => k_120 I_130 J R y57 else nm (x3_111 - (1 : Int32)) fun y59 => nm ((10 : Int32) * y59) fun y60 => nm (y60 + x4_120) fun y61 => nm ((10 : Int32) * x3_111) fun y62 => nm (y62 + x5_130) fun y63 => nm ((R a0 44).getD 0) fun b64 => nm (I_130 b64 (Int32.toNatClampNeg y61)) fun y65 => nm ((R a0 46).getD 0) fun b66 => nm ((10 : Int32) * x4_120) fun y67 => nm (y67 + x5_130) fun y68 => nm (I_130 b66 (Int32.toNatClampNeg y68)) fun y69 => nm (y65 + y69) fun y70 => (if (1000000 : Int32) ≤ y70 then F_X11_findWay_293 a0 x1 x2 x3_111 x4_120 x5_130 k_111 k_120 k_130 I_130 J R else nm (I_130 b64 (Int32.toNatClampNeg y63)) fun y74 => (if y70 < y74 then F_X11_findWay_229 a0 x1 x2 x3_111 x4_120 x5_130 k_111 k_120 k_130 I_130 J R y61 y63 y70 else (if y70 = y74 then nm ((10 : Int32) * y61) fun y80 => nm ((10 : Int32) * y63) fun y81 => nm (F_X11_isWayAhead a0 y80 y81 x3_111 I_130 J R) fun y82 => (if y82 = (0 : Int32) then F_X11_findWay_293 a0 x1 x2 x3_111 x4_120 x5_130 k_111 k_120 k_130 I_130 J R else F_X11_findWay_229 a0 x1 x2 x3_111 x4_120 x5_130 k_111 k_120 k_130 I_130 J R y61 y63 y70) else F_X11_findWay_293 a0 x1 x2 x3_111 x4_120 x5_130 k_111 k_120 k_130 I_130 J R))))
noncomputable def F_X11_findWay_130 (a0 : Nat) (x1 : Int32) (x2 : Int32) (x3_111 : Int32) (x4_120 : Int32) (k_111 : hI → hJ → hR → Int32 → (Int32 × hU)) (k_120 : hI → hJ → hR → Int32 → (Int32 × hU)) : Nat → hI → hJ → hR → Int32 → (Int32 × hU) := fun n => Nat.rec (motive := fun _ => hI → hJ → hR → Int32 → (Int32 × hU)) (fun _ _ _ _ => default) (fun _ k => B_X11_findWay_130 a0 x1 x2 x3_111 x4_120 k_111 k_120 k) n
theorem F_X11_findWay_130_s {a0 : Nat} {x1 : Int32} {x2 : Int32} {x3_111 : Int32} {x4_120 : Int32} {k_111 : hI → hJ → hR → Int32 → (Int32 × hU)} {k_120 : hI → hJ → hR → Int32 → (Int32 × hU)} {n : Nat} {I_130 : hI} {J : hJ} {R : hR} {x5_130 : Int32} : F_X11_findWay_130 a0 x1 x2 x3_111 x4_120 k_111 k_120 (n + 1)  I_130 J R x5_130 = B_X11_findWay_130 a0 x1 x2 x3_111 x4_120 k_111 k_120 (F_X11_findWay_130 a0 x1 x2 x3_111 x4_120 k_111 k_120 n)  I_130 J R x5_130 := rfl
noncomputable def B_X11_findWay_120 (a0 : Nat) (x1 : Int32) (x2 : Int32) (x3_111 : Int32) (k_111 : hI → hJ → hR → Int32 → (Int32 × hU)) (k_120 : hI → hJ → hR → Int32 → (Int32 × hU)) (I_120 : hI) (J : hJ) (R : hR) (x4_120 : Int32) : Int32 × hU :=
  (if (10 : Int32) ≤ x4_120 then nm (x3_111 + (1 : Int32)) fun y88 => k_111 I_120 J R y88 else F_X11_findWay_130 a0 x1 x2 x3_111 x4_120 k_111 k_120 ((10 - (0 : Int32).toInt).toNat + 1) I_120 J R (0 : Int32))
noncomputable def F_X11_findWay_120 (a0 : Nat) (x1 : Int32) (x2 : Int32) (x3_111 : Int32) (k_111 : hI → hJ → hR → Int32 → (Int32 × hU)) : Nat → hI → hJ → hR → Int32 → (Int32 × hU) := fun n => Nat.rec (motive := fun _ => hI → hJ → hR → Int32 → (Int32 × hU)) (fun _ _ _ _ => default) (fun _ k => B_X11_findWay_120 a0 x1 x2 x3_111 k_111 k) n
theorem F_X11_findWay_120_s {a0 : Nat} {x1 : Int32} {x2 : Int32} {x3_111 : Int32} {k_111 : hI → hJ → hR → Int32 → (Int32 × hU)} {n : Nat} {I_120 : hI} {J : hJ} {R : hR} {x4_120 : Int32} : F_X11_findWay_120 a0 x1 x2 x3_111 k_111 (n + 1)  I_120 J R x4_120 = B_X11_findWay_120 a0 x1 x2 x3_111 k_111 (F_X11_findWay_120 a0 x1 x2 x3_111 k_111 n)  I_120 J R x4_120 := rfl
noncomputable def B_X11_findWay_111 (a0 : Nat) (x1 : Int32) (x2 : Int32) (k_111 : hI → hJ → hR → Int32 → (Int32 × hU)) (I_111 : hI) (J : hJ) (R : hR) (x3_111 : Int32) : Int32 × hU :=
  (if (10 : Int32) ≤ x3_111 then F_X11_findWay_316 a0 x1 x2 ((10 - (1 : Int32).toInt).toNat + 1) I_111 J R (0 : Int32) (1 : Int32) else F_X11_findWay_120 a0 x1 x2 x3_111 k_111 ((10 - (0 : Int32).toInt).toNat + 1) I_111 J R (0 : Int32))
noncomputable def F_X11_findWay_111 (a0 : Nat) (x1 : Int32) (x2 : Int32) : Nat → hI → hJ → hR → Int32 → (Int32 × hU) := fun n => Nat.rec (motive := fun _ => hI → hJ → hR → Int32 → (Int32 × hU)) (fun _ _ _ _ => default) (fun _ k => B_X11_findWay_111 a0 x1 x2 k) n
theorem F_X11_findWay_111_s {a0 : Nat} {x1 : Int32} {x2 : Int32} {n : Nat} {I_111 : hI} {J : hJ} {R : hR} {x3_111 : Int32} : F_X11_findWay_111 a0 x1 x2 (n + 1)  I_111 J R x3_111 = B_X11_findWay_111 a0 x1 x2 (F_X11_findWay_111 a0 x1 x2 n)  I_111 J R x3_111 := rfl
noncomputable def F_X11_findWay_92 (a0 : Nat) (x1 : Int32) (x2 : Int32) (x3_70 : Int32) (k_70 : hI → hJ → hR → Int32 → (Int32 × hU)) (I_92 : hI) (J : hJ) (R : hR) (xs0_92 : Int32) (xs2_92 : Nat) : Int32 × hU :=
  nm (u2 I_92 xs2_92 (Int32.toNatClampNeg x3_70) xs0_92) fun I93 => nm (x3_70 + (1 : Int32)) fun y94 => k_70 I93 J R y94
noncomputable def B_X11_findWay_70 (a0 : Nat) (x1 : Int32) (x2 : Int32) (k_70 : hI → hJ → hR → Int32 → (Int32 × hU)) (I_70 : hI) (J : hJ) (R : hR) (x3_70 : Int32) : Int32 × hU :=
  (if (100 : Int32) ≤ x3_70 then nm ((R a0 45).getD 0) fun b97 => nm ((10 : Int32) * x1) fun y98 => nm (u2 I_70 b97 (Int32.toNatClampNeg y98) x1) fun I99 => F_X11_findWay_111 a0 x1 x2 ((10 - (1 : Int32).toInt).toNat + 1) I99 J R (1 : Int32) else nm ((R a0 44).getD 0) fun b101 => (if x3_70 = x1 then F_X11_findWay_92 a0 x1 x2 x3_70 k_70 I_70 J R (0 : Int32) b101 else F_X11_findWay_92 a0 x1 x2 x3_70 k_70 I_70 J R (1000000 : Int32) b101))
noncomputable def F_X11_findWay_70 (a0 : Nat) (x1 : Int32) (x2 : Int32) : Nat → hI → hJ → hR → Int32 → (Int32 × hU) := fun n => Nat.rec (motive := fun _ => hI → hJ → hR → Int32 → (Int32 × hU)) (fun _ _ _ _ => default) (fun _ k => B_X11_findWay_70 a0 x1 x2 k) n
theorem F_X11_findWay_70_s {a0 : Nat} {x1 : Int32} {x2 : Int32} {n : Nat} {I_70 : hI} {J : hJ} {R : hR} {x3_70 : Int32} : F_X11_findWay_70 a0 x1 x2 (n + 1)  I_70 J R x3_70 = B_X11_findWay_70 a0 x1 x2 (F_X11_findWay_70 a0 x1 x2 n)  I_70 J R x3_70 := rfl
noncomputable def F_X11_findWay_55 (a0 : Nat) (x1 : Int32) (x2 : Int32) (x3_2 : Int32) (x4_11 : Int32) (k_2 : hI → hJ → hR → Int32 → (Int32 × hU)) (k_11 : hI → hJ → hR → Int32 → (Int32 × hU)) (I_55 : hI) (J : hJ) (R : hR) (xs0_55 : Int32) (xs1_55 : Int32) (xs2_55 : Nat) : Int32 × hU :=
  nm (u2 I_55 xs2_55 (Int32.toNatClampNeg xs1_55) xs0_55) fun I104 => nm (x4_11 + (1 : Int32)) fun y105 => k_11 I104 J R y105
noncomputable def B_X11_findWay_11 (a0 : Nat) (x1 : Int32) (x2 : Int32) (x3_2 : Int32) (k_2 : hI → hJ → hR → Int32 → (Int32 × hU)) (k_11 : hI → hJ → hR → Int32 → (Int32 × hU)) (I_11 : hI) (J : hJ) (R : hR) (x4_11 : Int32) : Int32 × hU :=
  (if (10 : Int32) ≤ x4_11 then nm (x3_2 + (1 : Int32)) fun y108 => k_2 I_11 J R y108 else nm ((10 : Int32) + x3_2) fun y110 => nmU (F_X11_fitsAt a0 x4_11 y110 I_11 J R) fun y111 I111 _ _ => nm ((R a0 46).getD 0) fun b112 => nm ((10 : Int32) * x3_2) fun y113 => nm (y113 + x4_11) fun y114 => (if (1000000 : Int32) ≤ y111 then F_X11_findWay_55 a0 x1 x2 x3_2 x4_11 k_2 k_11 I111 J R (1000000 : Int32) y114 b112 else F_X11_findWay_55 a0 x1 x2 x3_2 x4_11 k_2 k_11 I111 J R y111 y114 b112))
noncomputable def F_X11_findWay_11 (a0 : Nat) (x1 : Int32) (x2 : Int32) (x3_2 : Int32) (k_2 : hI → hJ → hR → Int32 → (Int32 × hU)) : Nat → hI → hJ → hR → Int32 → (Int32 × hU) := fun n => Nat.rec (motive := fun _ => hI → hJ → hR → Int32 → (Int32 × hU)) (fun _ _ _ _ => default) (fun _ k => B_X11_findWay_11 a0 x1 x2 x3_2 k_2 k) n
theorem F_X11_findWay_11_s {a0 : Nat} {x1 : Int32} {x2 : Int32} {x3_2 : Int32} {k_2 : hI → hJ → hR → Int32 → (Int32 × hU)} {n : Nat} {I_11 : hI} {J : hJ} {R : hR} {x4_11 : Int32} : F_X11_findWay_11 a0 x1 x2 x3_2 k_2 (n + 1)  I_11 J R x4_11 = B_X11_findWay_11 a0 x1 x2 x3_2 k_2 (F_X11_findWay_11 a0 x1 x2 x3_2 k_2 n)  I_11 J R x4_11 := rfl
noncomputable def B_X11_findWay_2 (a0 : Nat) (x1 : Int32) (x2 : Int32) (k_2 : hI → hJ → hR → Int32 → (Int32 × hU)) (I_2 : hI) (J : hJ) (R : hR) (x3_2 : Int32) : Int32 × hU :=
  (if (10 : Int32) ≤ x3_2 then F_X11_findWay_70 a0 x1 x2 ((100 - (0 : Int32).toInt).toNat + 1) I_2 J R (0 : Int32) else F_X11_findWay_11 a0 x1 x2 x3_2 k_2 ((10 - (0 : Int32).toInt).toNat + 1) I_2 J R (0 : Int32))
noncomputable def F_X11_findWay_2 (a0 : Nat) (x1 : Int32) (x2 : Int32) : Nat → hI → hJ → hR → Int32 → (Int32 × hU) := fun n => Nat.rec (motive := fun _ => hI → hJ → hR → Int32 → (Int32 × hU)) (fun _ _ _ _ => default) (fun _ k => B_X11_findWay_2 a0 x1 x2 k) n
theorem F_X11_findWay_2_s {a0 : Nat} {x1 : Int32} {x2 : Int32} {n : Nat} {I_2 : hI} {J : hJ} {R : hR} {x3_2 : Int32} : F_X11_findWay_2 a0 x1 x2 (n + 1)  I_2 J R x3_2 = B_X11_findWay_2 a0 x1 x2 (F_X11_findWay_2 a0 x1 x2 n)  I_2 J R x3_2 := rfl
noncomputable def F_X11_findWay (a0 : Nat) (x1 : Int32) (x2 : Int32) (I : hI) (J : hJ) (R : hR) : Int32 × hU :=
  F_X11_findWay_2 a0 x1 x2 ((10 - (0 : Int32).toInt).toNat + 1) I J R (0 : Int32)
def ms_X11_findWay : List Nat := [744, 745, 746, 751, 5760, 5824, 5888, 5952, 6016, 6080, 6144]
set_option maxHeartbeats 4000000 in
set_option maxRecDepth 100000 in
theorem c_X11_findWay {l : Launch} {D : va_G} {cy : Nat → ClassId} {L : List Nat} {C : Nat → Nat} {b0 : Nat} {I : hI} {J : hJ} {R : hR} {a0 : Nat} {x1 : Int32} {x2 : Int32} (oI : OkI L C I) (oR : OkR L C R) (m0 : a0 ∈ L) (k0 : C a0 = 11) (h1 : Rg x1 (0) (9)) (h2 : Rg x2 (0) (9)) : CI l yX11_findWay cX11_findWay 10 .int 4 D cy L C b0 [.ref a0, .int x1, .int x2] (I, J, R) (fun r v => Ps L C ms_X11_findWay (I, J, R) v ∧ v.2.1 = J ∧ v.2.2 = R ∧ Rg (v.1 a0 47) (1) (10) ∧ F_X11_findWay a0 x1 x2 I J R = (r, v)) := by
  refine CI.mkI (plainFor_of_name (by decide)) (Nat.le_of_ble_eq_true rfl) ?_
  intro p e s m args below meth c ls Q hF ret hH hl
  obtain ⟨hx, hb, -, hml, hown, hts, -⟩ := hF
  have hl : lv_has ls 10 [(0, .ref a0), (1, .int x1), (2, .int x2)] := hl
  have hH : Hp D cy L C b0 s s.heap I J R s.heap [] := hH
  have sm : Sm C ms_X11_findWay (I, J, R) (I, J, R) := Sm.rf
  obtain ⟨TT0, hT⟩ : ∃ TT0, TT0 = F_X11_findWay a0 x1 x2 I J R := ⟨_, rfl⟩
  have hv := hT
  unfold F_X11_findWay at hv
  refine lv_iconst (v := 0) hx hb dX11_findWay_0 (by decide) ?_
  refine lv_istore_n (lv' := [(3, .int 0), (0, .ref a0), (1, .int x1), (2, .int x2)]) hx hb dX11_findWay_1 rfl hl (by decide) rfl (fun ls hl => ?_)
  have L_372 : ∀ (n_372 : Nat) (I_372 : hI) (H : Heap) (locs : List Loc) (ls : Array Slot) (x3_372 : Int32) (x4_372 : Int32), (10 - x4_372.toInt).toNat < n_372 → Hp D cy L C b0 s s.heap I_372 J R H locs → TT0 = F_X11_findWay_372 a0 x1 x2 n_372 I_372 J R x3_372 x4_372 → OkI L C I_372 → Sm C ms_X11_findWay (I, J, R) (I_372, J, R) → Rg x2 (0) (9) → Rg x3_372 (0) (9) → Rg x4_372 (0) (10) → Rg (I_372 a0 47) (1) (10) → lv_has ls 10 [(0, .ref a0), (2, .int x2), (3, .int x3_372), (4, .int x4_372)] → W p l e (rmD 4) s m args below meth c H locs 0 0 Q (F0 m 372 ls []) := by
    intro n_372
    induction n_372 with
    | zero => intro I_372 H locs ls x3_372 x4_372 h; exact absurd h (Nat.not_lt_zero _)
    | succ n_372 ih_372 =>
      intro I_372 H locs ls x3_372 x4_372 hn_372 hH hv oI sm r2_372 r3_372 r4_372 hm47_372 hl
      replace hv := hv.trans F_X11_findWay_372_s
      unfold B_X11_findWay_372 at hv
      obtain ⟨zm47_372, em47_372⟩ : ∃ y : Int32, y = I_372 a0 47 := ⟨_, rfl⟩
      have rm47_372 : Rg zm47_372 (1) (10) := by rw [em47_372]; exact hm47_372
      replace hv := fnS hv em47_372
      refine lv_iload hx hb dX11_findWay_372 (lv_at hl 3 rfl) ?_
      refine lv_aload_n hx hb dX11_findWay_374 rfl (lv_at hl 0 rfl) ?_
      refine gf_11_47 hx hb hts hown hH m0 k0 rfl kf_X11_276 dX11_findWay_375 ?_
      refine lv_topi (fun y1 ey1 => ?_)
      obtain rfl : zm47_372 = y1 := em47_372.trans ey1.symm
      refine lv_icmp_ge (tgt := 411) hx hb dX11_findWay_378 (by decide) (fun q2 => ?_) (fun q2 => ?_)
      · replace hv := fnP hv q2
        have r3 : Rg x4_372 (1) (10) := Rg_lle r4_372 (Rg_le q2) rm47_372 (by decide)
        refine lv_aload_n hx hb dX11_findWay_411 rfl (lv_at hl 0 rfl) ?_
        obtain ⟨b4, mb4, vb4, kb4⟩ := rf_11_44 oR m0 k0
        replace hv := fnR hv vb4
        refine gf_11_44 vb4 hx hb hts hown hH m0 k0 rfl kf_X11_99 dX11_findWay_412 ?_
        refine lv_bipush (v := 10) hx hb dX11_findWay_415 (by decide) ?_
        refine lv_iload_n hx hb dX11_findWay_417 rfl (lv_at hl 2 rfl) ?_
        refine lv_imul hx hb dX11_findWay_418 ?_
        refine lv_topi (fun y5 ey5 => ?_)
        replace hv := fnS hv ey5
        obtain ⟨ty5, ry5⟩ := Rg_mulx (a' := (0)) (b' := (90)) (by decide : Int32.toInt 10 = 10) (rfl : x3_372.toInt = _) (Rg_c (x := 10) (a := (10)) (b := (10)) (by decide)) r3_372 (by decide)
        rw [← ey5] at ty5 ry5
        refine lv_iload_n hx hb dX11_findWay_419 rfl (lv_at hl 1 rfl) ?_
        refine lv_iadd hx hb dX11_findWay_420 ?_
        refine lv_topi (fun y6 ey6 => ?_)
        replace hv := fnS hv ey6
        obtain ⟨ty6, ry6⟩ := Rg_addx (a' := (0)) (b' := (99)) (rfl : y5.toInt = _) (rfl : x2.toInt = _) ry5 r2_372 (by decide)
        rw [← ey6] at ty6 ry6
        refine ld_93 hx hb hH mb4 kb4 (Rg_in ry6 (by decide)) dX11_findWay_421 ?_
        refine lv_topi (fun y7 ey7 => ?_)
        replace hv := fnS hv ey7
        exact ret (y7) _ _ _ _ _ _ _ dX11_findWay_422 hH ⟨⟨oI, oR, sm⟩, rfl, rfl, (by show Rg (I_372 a0 47) _ _; rw [← em47_372]; exact Rg_w rm47_372 (by decide)), (hT.symm.trans hv)⟩
      replace hv := fnN hv q2
      have r8 : Rg x4_372 (0) (9) := Rg_ult r4_372 (Rg_nle q2) rm47_372 (by decide)
      refine lv_aload_n hx hb dX11_findWay_381 rfl (lv_at hl 0 rfl) ?_
      obtain ⟨b9, mb9, vb9, kb9⟩ := rf_11_48 oR m0 k0
      replace hv := fnR hv vb9
      refine gf_11_48 vb9 hx hb hts hown hH m0 k0 rfl kf_X11_108 dX11_findWay_382 ?_
      refine lv_iload hx hb dX11_findWay_385 (lv_at hl 3 rfl) ?_
      refine lv_aload_n hx hb dX11_findWay_387 rfl (lv_at hl 0 rfl) ?_
      obtain ⟨b10, mb10, vb10, kb10⟩ := rf_11_45 oR m0 k0
      replace hv := fnR hv vb10
      refine gf_11_45 vb10 hx hb hts hown hH m0 k0 rfl kf_X11_102 dX11_findWay_388 ?_
      refine lv_bipush (v := 10) hx hb dX11_findWay_391 (by decide) ?_
      refine lv_bipush (v := 10) hx hb dX11_findWay_393 (by decide) ?_
      refine lv_iload_n hx hb dX11_findWay_395 rfl (lv_at hl 2 rfl) ?_
      refine lv_imul hx hb dX11_findWay_396 ?_
      refine lv_topi (fun y11 ey11 => ?_)
      replace hv := fnS hv ey11
      obtain ⟨ty11, ry11⟩ := Rg_mulx (a' := (0)) (b' := (90)) (by decide : Int32.toInt 10 = 10) (rfl : x3_372.toInt = _) (Rg_c (x := 10) (a := (10)) (b := (10)) (by decide)) r3_372 (by decide)
      rw [← ey11] at ty11 ry11
      refine lv_iload_n hx hb dX11_findWay_397 rfl (lv_at hl 1 rfl) ?_
      refine lv_iadd hx hb dX11_findWay_398 ?_
      refine lv_topi (fun y12 ey12 => ?_)
      replace hv := fnS hv ey12
      obtain ⟨ty12, ry12⟩ := Rg_addx (a' := (0)) (b' := (99)) (rfl : y11.toInt = _) (rfl : x2.toInt = _) ry11 r2_372 (by decide)
      rw [← ey12] at ty12 ry12
      refine lv_imul hx hb dX11_findWay_399 ?_
      refine lv_topi (fun y13 ey13 => ?_)
      replace hv := fnS hv ey13
      obtain ⟨ty13, ry13⟩ := Rg_mulx (a' := (0)) (b' := (990)) (by decide : Int32.toInt 10 = 10) (rfl : y12.toInt = _) (Rg_c (x := 10) (a := (10)) (b := (10)) (by decide)) ry12 (by decide)
      rw [← ey13] at ty13 ry13
      refine lv_iload hx hb dX11_findWay_400 (lv_at hl 3 rfl) ?_
      refine lv_iadd hx hb dX11_findWay_402 ?_
      refine lv_topi (fun y14 ey14 => ?_)
      replace hv := fnS hv ey14
      obtain ⟨ty14, ry14⟩ := Rg_addx (a' := (0)) (b' := (999)) (rfl : y13.toInt = _) (rfl : x4_372.toInt = _) ry13 r8 (by decide)
      rw [← ey14] at ty14 ry14
      refine ld_94 hx hb hH mb10 kb10 (Rg_in ry14 (by decide)) dX11_findWay_403 ?_
      refine lv_topi (fun y15 ey15 => ?_)
      have ry15 : Rg y15 (0) (9) := by rw [ey15]; exact rd_94 oI mb10 kb10 (Rg_in ry14 (by decide))
      replace hv := fnS hv ey15
      refine st_96 hx hb hH mb9 kb9 (Rg_in r8 (by decide)) dX11_findWay_404 (fun I16 H locs eI16 hH => ?_)
      replace hv := fnS hv eI16
      have oI : OkI L C I16 := by rw [eI16]; exact wr_96 oI kb9 ry15
      have sm : Sm C ms_X11_findWay (I, J, R) (I16, J, R) := by rw [eI16]; exact sm.stI kb9 (mC_arr (by decide) rfl)
      obtain ⟨y17, ey17⟩ : ∃ y : Int32, y = x4_372 + 1 := ⟨_, rfl⟩
      replace hv := fnS hv ey17
      obtain ⟨ty17, ry17⟩ := Rg_addx (a' := (1)) (b' := (10)) (rfl : x4_372.toInt = _) (by decide : Int32.toInt 1 = 1) r8 (Rg_c (x := 1) (a := (1)) (b := (1)) (by decide)) (by decide)
      rw [← ey17] at ty17 ry17
      refine lv_iinc (v := y17) (lv' := [(4, .int y17), (0, .ref a0), (2, .int x2), (3, .int x3_372)]) hx hb dX11_findWay_405 hl (k := 3) rfl (by rw [ey17]; rfl) (by decide) rfl (fun ls hl => ?_)
      refine lv_goto (tgt := 372) hx hb dX11_findWay_408 (by decide) ?_
      have f19 : I16 a0 (47) = I_372 a0 (47) := (by rw [eI16, u2_ne (ne_role k0 kb9 (by decide))])
      have f18 : zm47_372 = I16 a0 (47) := em47_372.trans f19.symm
      exact ih_372 I16 _ _ _ x3_372 y17 (lp_up hn_372 ty17 (Rg_ltc r8 (by decide))) hH hv oI sm r2_372 r3_372 (Rg_w ry17 (by decide)) (by rw [← f18]; exact Rg_w rm47_372 (by decide)) (lv_sub hl [1, 2, 3, 0] rfl)
  have L_316 : ∀ (n_316 : Nat) (I_316 : hI) (H : Heap) (locs : List Loc) (ls : Array Slot) (x3_316 : Int32) (x4_316 : Int32), (10 - x4_316.toInt).toNat < n_316 → Hp D cy L C b0 s s.heap I_316 J R H locs → TT0 = F_X11_findWay_316 a0 x1 x2 n_316 I_316 J R x3_316 x4_316 → OkI L C I_316 → Sm C ms_X11_findWay (I, J, R) (I_316, J, R) → Rg x2 (0) (9) → Rg x3_316 (0) (9) → Rg x4_316 (1) (10) → lv_has ls 10 [(0, .ref a0), (2, .int x2), (3, .int x3_316), (4, .int x4_316)] → W p l e (rmD 4) s m args below meth c H locs 0 0 Q (F0 m 316 ls []) := by
    intro n_316
    induction n_316 with
    | zero => intro I_316 H locs ls x3_316 x4_316 h; exact absurd h (Nat.not_lt_zero _)
    | succ n_316 ih_316 =>
      intro I_316 H locs ls x3_316 x4_316 hn_316 hH hv oI sm r2_316 r3_316 r4_316 hl
      replace hv := hv.trans F_X11_findWay_316_s
      unfold B_X11_findWay_316 at hv
      have L_355 : ∀ (I_355 : hI) (H : Heap) (locs : List Loc) (ls : Array Slot) (xs0_355 : Int32), Hp D cy L C b0 s s.heap I_355 J R H locs → TT0 = F_X11_findWay_355 a0 x1 x2 x3_316 x4_316 (F_X11_findWay_316 a0 x1 x2 n_316) I_355 J R xs0_355 → OkI L C I_355 → Sm C ms_X11_findWay (I, J, R) (I_355, J, R) → Rg xs0_355 (0) (9) → Rg x2 (0) (9) → Rg x4_316 (1) (9) → lv_has ls 10 [(0, .ref a0), (2, .int x2), (4, .int x4_316)] → W p l e (rmD 4) s m args below meth c H locs 0 0 Q (F0 m 355 ls [.int xs0_355]) := by
        intro I_355 H locs ls xs0_355 hH hv oI sm rs0_355 r2_355 r4_355 hl
        unfold F_X11_findWay_355 at hv
        refine lv_istore_n (lv' := [(3, .int xs0_355), (0, .ref a0), (2, .int x2), (4, .int x4_316)]) hx hb dX11_findWay_355 rfl hl (by decide) rfl (fun ls hl => ?_)
        obtain ⟨y20, ey20⟩ : ∃ y : Int32, y = x4_316 + 1 := ⟨_, rfl⟩
        replace hv := fnS hv ey20
        obtain ⟨ty20, ry20⟩ := Rg_addx (a' := (2)) (b' := (10)) (rfl : x4_316.toInt = _) (by decide : Int32.toInt 1 = 1) r4_355 (Rg_c (x := 1) (a := (1)) (b := (1)) (by decide)) (by decide)
        rw [← ey20] at ty20 ry20
        refine lv_iinc (v := y20) (lv' := [(4, .int y20), (3, .int xs0_355), (0, .ref a0), (2, .int x2)]) hx hb dX11_findWay_356 hl (k := 3) rfl (by rw [ey20]; rfl) (by decide) rfl (fun ls hl => ?_)
        refine lv_goto (tgt := 316) hx hb dX11_findWay_359 (by decide) ?_
        exact ih_316 I_355 _ _ _ xs0_355 y20 (lp_up hn_316 ty20 (Rg_ltc r4_355 (by decide))) hH hv oI sm r2_355 rs0_355 (Rg_w ry20 (by decide)) (lv_sub hl [2, 3, 1, 0] rfl)
      refine lv_iload hx hb dX11_findWay_316 (lv_at hl 3 rfl) ?_
      refine lv_bipush (v := 10) hx hb dX11_findWay_318 (by decide) ?_
      refine lv_icmp_ge (tgt := 362) hx hb dX11_findWay_320 (by decide) (fun q21 => ?_) (fun q21 => ?_)
      · replace hv := fnP hv q21
        have r22 : Rg x4_316 (10) (10) := Rg_lle r4_316 (Rg_le q21) (Rg_c (x := 10) (a := (10)) (b := (10)) (by decide)) (by decide)
        refine lv_aload_n hx hb dX11_findWay_362 rfl (lv_at hl 0 rfl) ?_
        refine lv_iload_n hx hb dX11_findWay_363 rfl (lv_at hl 2 rfl) ?_
        refine lv_iconst (v := 1) hx hb dX11_findWay_364 (by decide) ?_
        refine lv_iadd hx hb dX11_findWay_365 ?_
        refine lv_topi (fun y23 ey23 => ?_)
        replace hv := fnS hv ey23
        obtain ⟨ty23, ry23⟩ := Rg_addx (a' := (1)) (b' := (10)) (rfl : x3_316.toInt = _) (by decide : Int32.toInt 1 = 1) r3_316 (Rg_c (x := 1) (a := (1)) (b := (1)) (by decide)) (by decide)
        rw [← ey23] at ty23 ry23
        refine pf_11_47 hx hb hts hown hH m0 k0 rfl kf_X11_276 dX11_findWay_366 (fun I24 H locs eI24 hH => ?_)
        replace hv := fnS hv eI24
        have oI : OkI L C I24 := by rw [eI24]; exact wf_11_47 oI k0 (Rg_w ry23 (by decide))
        have sm : Sm C ms_X11_findWay (I, J, R) (I24, J, R) := by rw [eI24]; exact sm.stI k0 (mC_obj (by decide) rfl)
        have f25 : y23 = I24 a0 47 := by rw [eI24, u2_at]
        refine lv_iconst (v := 0) hx hb dX11_findWay_369 (by decide) ?_
        refine lv_istore (lv' := [(4, .int 0), (0, .ref a0), (2, .int x2), (3, .int x3_316)]) hx hb dX11_findWay_370 hl (by decide) rfl (fun ls hl => ?_)
        exact L_372 ((10 - (0 : Int32).toInt).toNat + 1) I24 _ _ _ x3_316 0 (Nat.lt_succ_self _) hH hv oI sm r2_316 r3_316 (Rg_w (Rg_c (x := 0) (a := (0)) (b := (0)) (by decide)) (by decide)) (by rw [← f25]; exact Rg_w ry23 (by decide)) (lv_sub hl [1, 2, 3, 0] rfl)
      replace hv := fnN hv q21
      have r26 : Rg x4_316 (1) (9) := Rg_ult r4_316 (Rg_nle q21) (Rg_c (x := 10) (a := (10)) (b := (10)) (by decide)) (by decide)
      refine lv_aload_n hx hb dX11_findWay_323 rfl (lv_at hl 0 rfl) ?_
      obtain ⟨b27, mb27, vb27, kb27⟩ := rf_11_44 oR m0 k0
      replace hv := fnR hv vb27
      refine gf_11_44 vb27 hx hb hts hown hH m0 k0 rfl kf_X11_99 dX11_findWay_324 ?_
      refine lv_bipush (v := 10) hx hb dX11_findWay_327 (by decide) ?_
      refine lv_iload hx hb dX11_findWay_329 (lv_at hl 3 rfl) ?_
      refine lv_imul hx hb dX11_findWay_331 ?_
      refine lv_topi (fun y28 ey28 => ?_)
      replace hv := fnS hv ey28
      obtain ⟨ty28, ry28⟩ := Rg_mulx (a' := (10)) (b' := (90)) (by decide : Int32.toInt 10 = 10) (rfl : x4_316.toInt = _) (Rg_c (x := 10) (a := (10)) (b := (10)) (by decide)) r26 (by decide)
      rw [← ey28] at ty28 ry28
      refine lv_iload_n hx hb dX11_findWay_332 rfl (lv_at hl 1 rfl) ?_
      refine lv_iadd hx hb dX11_findWay_333 ?_
      refine lv_topi (fun y29 ey29 => ?_)
      replace hv := fnS hv ey29
      obtain ⟨ty29, ry29⟩ := Rg_addx (a' := (10)) (b' := (99)) (rfl : y28.toInt = _) (rfl : x2.toInt = _) ry28 r2_316 (by decide)
      rw [← ey29] at ty29 ry29
      refine ld_93 hx hb hH mb27 kb27 (Rg_in ry29 (by decide)) dX11_findWay_334 ?_
      refine lv_topi (fun y30 ey30 => ?_)
      replace hv := fnS hv ey30
      refine lv_aload_n hx hb dX11_findWay_335 rfl (lv_at hl 0 rfl) ?_
      refine gf_11_44 vb27 hx hb hts hown hH m0 k0 rfl kf_X11_99 dX11_findWay_336 ?_
      refine lv_bipush (v := 10) hx hb dX11_findWay_339 (by decide) ?_
      refine lv_iload_n hx hb dX11_findWay_341 rfl (lv_at hl 2 rfl) ?_
      refine lv_imul hx hb dX11_findWay_342 ?_
      refine lv_topi (fun y31 ey31 => ?_)
      replace hv := fnS hv ey31
      obtain ⟨ty31, ry31⟩ := Rg_mulx (a' := (0)) (b' := (90)) (by decide : Int32.toInt 10 = 10) (rfl : x3_316.toInt = _) (Rg_c (x := 10) (a := (10)) (b := (10)) (by decide)) r3_316 (by decide)
      rw [← ey31] at ty31 ry31
      refine lv_iload_n hx hb dX11_findWay_343 rfl (lv_at hl 1 rfl) ?_
      refine lv_iadd hx hb dX11_findWay_344 ?_
      refine lv_topi (fun y32 ey32 => ?_)
      replace hv := fnS hv ey32
      obtain ⟨ty32, ry32⟩ := Rg_addx (a' := (0)) (b' := (99)) (rfl : y31.toInt = _) (rfl : x2.toInt = _) ry31 r2_316 (by decide)
      rw [← ey32] at ty32 ry32
      refine ld_93 hx hb hH mb27 kb27 (Rg_in ry32 (by decide)) dX11_findWay_345 ?_
      refine lv_topi (fun y33 ey33 => ?_)
      replace hv := fnS hv ey33
      refine lv_icmp_ge (tgt := 354) hx hb dX11_findWay_346 (by decide) (fun q34 => ?_) (fun q34 => ?_)
      · replace hv := fnP hv q34
        refine lv_iload_n hx hb dX11_findWay_354 rfl (lv_at hl 2 rfl) ?_
        exact L_355 I_316 _ _ _ x3_316 hH hv oI sm r3_316 r2_316 r26 (lv_sub hl [0, 1, 3] rfl)
      replace hv := fnN hv q34
      have r35 : Rg y30 (-2147483648) (2147483646) := Rg_ult (Rg_any y30) (Rg_nle q34) (Rg_any y33) (by decide)
      have r36 : Rg y33 (-2147483647) (2147483647) := Rg_llt (Rg_any y33) (Rg_nle q34) (Rg_any y30) (by decide)
      refine lv_iload hx hb dX11_findWay_349 (lv_at hl 3 rfl) ?_
      refine lv_goto (tgt := 355) hx hb dX11_findWay_351 (by decide) ?_
      exact L_355 I_316 _ _ _ x4_316 hH hv oI sm (Rg_w r26 (by decide)) r2_316 r26 (lv_sub hl [0, 1, 3] rfl)
  have L_111 : ∀ (n_111 : Nat) (I_111 : hI) (H : Heap) (locs : List Loc) (ls : Array Slot) (x3_111 : Int32), (10 - x3_111.toInt).toNat < n_111 → Hp D cy L C b0 s s.heap I_111 J R H locs → TT0 = F_X11_findWay_111 a0 x1 x2 n_111 I_111 J R x3_111 → OkI L C I_111 → Sm C ms_X11_findWay (I, J, R) (I_111, J, R) → Rg x2 (0) (9) → Rg x3_111 (1) (10) → lv_has ls 10 [(0, .ref a0), (2, .int x2), (3, .int x3_111)] → W p l e (rmD 4) s m args below meth c H locs 0 0 Q (F0 m 111 ls []) := by
    intro n_111
    induction n_111 with
    | zero => intro I_111 H locs ls x3_111 h; exact absurd h (Nat.not_lt_zero _)
    | succ n_111 ih_111 =>
      intro I_111 H locs ls x3_111 hn_111 hH hv oI sm r2_111 r3_111 hl
      replace hv := hv.trans F_X11_findWay_111_s
      unfold B_X11_findWay_111 at hv
      have L_120 : ∀ (n_120 : Nat) (I_120 : hI) (H : Heap) (locs : List Loc) (ls : Array Slot) (x4_120 : Int32), (10 - x4_120.toInt).toNat < n_120 → Hp D cy L C b0 s s.heap I_120 J R H locs → TT0 = F_X11_findWay_120 a0 x1 x2 x3_111 (F_X11_findWay_111 a0 x1 x2 n_111) n_120 I_120 J R x4_120 → OkI L C I_120 → Sm C ms_X11_findWay (I, J, R) (I_120, J, R) → Rg x2 (0) (9) → Rg x3_111 (1) (9) → Rg x4_120 (0) (10) → lv_has ls 10 [(0, .ref a0), (2, .int x2), (3, .int x3_111), (4, .int x4_120)] → W p l e (rmD 4) s m args below meth c H locs 0 0 Q (F0 m 120 ls []) := by
        intro n_120
        induction n_120 with
        | zero => intro I_120 H locs ls x4_120 h; exact absurd h (Nat.not_lt_zero _)
        | succ n_120 ih_120 =>
          intro I_120 H locs ls x4_120 hn_120 hH hv oI sm r2_120 r3_120 r4_120 hl
          replace hv := hv.trans F_X11_findWay_120_s
          unfold B_X11_findWay_120 at hv
          have L_130 : ∀ (n_130 : Nat) (I_130 : hI) (H : Heap) (locs : List Loc) (ls : Array Slot) (x5_130 : Int32), (10 - x5_130.toInt).toNat < n_130 → Hp D cy L C b0 s s.heap I_130 J R H locs → TT0 = F_X11_findWay_130 a0 x1 x2 x3_111 x4_120 (F_X11_findWay_111 a0 x1 x2 n_111) (F_X11_findWay_120 a0 x1 x2 x3_111 (F_X11_findWay_111 a0 x1 x2 n_111) n_120) n_130 I_130 J R x5_130 → OkI L C I_130 → Sm C ms_X11_findWay (I, J, R) (I_130, J, R) → Rg x2 (0) (9) → Rg x3_111 (1) (9) → Rg x4_120 (0) (9) → Rg x5_130 (0) (10) → lv_has ls 10 [(0, .ref a0), (2, .int x2), (3, .int x3_111), (4, .int x4_120), (5, .int x5_130)] → W p l e (rmD 4) s m args below meth c H locs 0 0 Q (F0 m 130 ls []) := by
            intro n_130
            induction n_130 with
            | zero => intro I_130 H locs ls x5_130 h; exact absurd h (Nat.not_lt_zero _)
            | succ n_130 ih_130 =>
              intro I_130 H locs ls x5_130 hn_130 hH hv oI sm r2_130 r3_130 r4_130 r5_130 hl
              replace hv := hv.trans F_X11_findWay_130_s
              unfold B_X11_findWay_130 at hv
              have L_293 : ∀ (I_293 : hI) (H : Heap) (locs : List Loc) (ls : Array Slot), Hp D cy L C b0 s s.heap I_293 J R H locs → TT0 = F_X11_findWay_293 a0 x1 x2 x3_111 x4_120 x5_130 (F_X11_findWay_111 a0 x1 x2 n_111) (F_X11_findWay_120 a0 x1 x2 x3_111 (F_X11_findWay_111 a0 x1 x2 n_111) n_120) (F_X11_findWay_130 a0 x1 x2 x3_111 x4_120 (F_X11_findWay_111 a0 x1 x2 n_111) (F_X11_findWay_120 a0 x1 x2 x3_111 (F_X11_findWay_111 a0 x1 x2 n_111) n_120) n_130) I_293 J R → OkI L C I_293 → Sm C ms_X11_findWay (I, J, R) (I_293, J, R) → Rg x2 (0) (9) → Rg x3_111 (1) (9) → Rg x4_120 (0) (9) → Rg x5_130 (0) (9) → lv_has ls 10 [(0, .ref a0), (2, .int x2), (3, .int x3_111), (4, .int x4_120), (5, .int x5_130)] → W p l e (rmD 4) s m args below meth c H locs 0 0 Q (F0 m 293 ls []) := by
                intro I_293 H locs ls hH hv oI sm r2_293 r3_293 r4_293 r5_293 hl
                unfold F_X11_findWay_293 at hv
                obtain ⟨y37, ey37⟩ : ∃ y : Int32, y = x5_130 + 1 := ⟨_, rfl⟩
                replace hv := fnS hv ey37
                obtain ⟨ty37, ry37⟩ := Rg_addx (a' := (1)) (b' := (10)) (rfl : x5_130.toInt = _) (by decide : Int32.toInt 1 = 1) r5_293 (Rg_c (x := 1) (a := (1)) (b := (1)) (by decide)) (by decide)
                rw [← ey37] at ty37 ry37
                refine lv_iinc (v := y37) (lv' := [(5, .int y37), (0, .ref a0), (2, .int x2), (3, .int x3_111), (4, .int x4_120)]) hx hb dX11_findWay_293 hl (k := 4) rfl (by rw [ey37]; rfl) (by decide) rfl (fun ls hl => ?_)
                refine lv_goto (tgt := 130) hx hb dX11_findWay_296 (by decide) ?_
                exact ih_130 I_293 _ _ _ y37 (lp_up hn_130 ty37 (Rg_ltc r5_293 (by decide))) hH hv oI sm r2_293 r3_293 r4_293 (Rg_w ry37 (by decide)) (lv_sub hl [1, 2, 3, 4, 0] rfl)
              have L_241 : ∀ (n_241 : Nat) (I_241 : hI) (H : Heap) (locs : List Loc) (ls : Array Slot) (x6_241 : Int32) (x7_241 : Int32) (x9_241 : Int32), (9 - x9_241.toInt).toNat < n_241 → Hp D cy L C b0 s s.heap I_241 J R H locs → TT0 = F_X11_findWay_241 a0 x1 x2 x3_111 x4_120 x5_130 (F_X11_findWay_111 a0 x1 x2 n_111) (F_X11_findWay_120 a0 x1 x2 x3_111 (F_X11_findWay_111 a0 x1 x2 n_111) n_120) (F_X11_findWay_130 a0 x1 x2 x3_111 x4_120 (F_X11_findWay_111 a0 x1 x2 n_111) (F_X11_findWay_120 a0 x1 x2 x3_111 (F_X11_findWay_111 a0 x1 x2 n_111) n_120) n_130) n_241 I_241 J R x6_241 x7_241 x9_241 → OkI L C I_241 → Sm C ms_X11_findWay (I, J, R) (I_241, J, R) → Rg x2 (0) (9) → Rg x3_111 (1) (9) → Rg x4_120 (0) (9) → Rg x5_130 (0) (9) → Rg x6_241 (0) (89) → Rg x7_241 (10) (99) → Rg x9_241 (0) (9) → lv_has ls 10 [(0, .ref a0), (2, .int x2), (3, .int x3_111), (4, .int x4_120), (5, .int x5_130), (6, .int x6_241), (7, .int x7_241), (9, .int x9_241)] → W p l e (rmD 4) s m args below meth c H locs 0 0 Q (F0 m 241 ls []) := by
                intro n_241
                induction n_241 with
                | zero => intro I_241 H locs ls x6_241 x7_241 x9_241 h; exact absurd h (Nat.not_lt_zero _)
                | succ n_241 ih_241 =>
                  intro I_241 H locs ls x6_241 x7_241 x9_241 hn_241 hH hv oI sm r2_241 r3_241 r4_241 r5_241 r6_241 r7_241 r9_241 hl
                  replace hv := hv.trans F_X11_findWay_241_s
                  unfold B_X11_findWay_241 at hv
                  refine lv_iload hx hb dX11_findWay_241 (lv_at hl 7 rfl) ?_
                  refine lv_iload_n hx hb dX11_findWay_243 rfl (lv_at hl 2 rfl) ?_
                  refine lv_icmp_ge (tgt := 279) hx hb dX11_findWay_244 (by decide) (fun q38 => ?_) (fun q38 => ?_)
                  · replace hv := fnP hv q38
                    have r39 : Rg x9_241 (1) (9) := Rg_lle r9_241 (Rg_le q38) r3_241 (by decide)
                    refine lv_aload_n hx hb dX11_findWay_279 rfl (lv_at hl 0 rfl) ?_
                    obtain ⟨b40, mb40, vb40, kb40⟩ := rf_11_45 oR m0 k0
                    replace hv := fnR hv vb40
                    refine gf_11_45 vb40 hx hb hts hown hH m0 k0 rfl kf_X11_102 dX11_findWay_280 ?_
                    refine lv_bipush (v := 10) hx hb dX11_findWay_283 (by decide) ?_
                    refine lv_iload hx hb dX11_findWay_285 (lv_at hl 6 rfl) ?_
                    refine lv_imul hx hb dX11_findWay_287 ?_
                    refine lv_topi (fun y41 ey41 => ?_)
                    replace hv := fnS hv ey41
                    obtain ⟨ty41, ry41⟩ := Rg_mulx (a' := (100)) (b' := (990)) (by decide : Int32.toInt 10 = 10) (rfl : x7_241.toInt = _) (Rg_c (x := 10) (a := (10)) (b := (10)) (by decide)) r7_241 (by decide)
                    rw [← ey41] at ty41 ry41
                    refine lv_iload_n hx hb dX11_findWay_288 rfl (lv_at hl 2 rfl) ?_
                    refine lv_iadd hx hb dX11_findWay_289 ?_
                    refine lv_topi (fun y42 ey42 => ?_)
                    replace hv := fnS hv ey42
                    obtain ⟨ty42, ry42⟩ := Rg_addx (a' := (101)) (b' := (999)) (rfl : y41.toInt = _) (rfl : x3_111.toInt = _) ry41 r3_241 (by decide)
                    rw [← ey42] at ty42 ry42
                    refine lv_iload hx hb dX11_findWay_290 (lv_at hl 4 rfl) ?_
                    refine st_94 hx hb hH mb40 kb40 (Rg_in ry42 (by decide)) dX11_findWay_292 (fun I43 H locs eI43 hH => ?_)
                    replace hv := fnS hv eI43
                    have oI : OkI L C I43 := by rw [eI43]; exact wr_94 oI kb40 r5_241
                    have sm : Sm C ms_X11_findWay (I, J, R) (I43, J, R) := by rw [eI43]; exact sm.stI kb40 (mC_arr (by decide) rfl)
                    exact L_293 I43 _ _ _ hH hv oI sm r2_241 r3_241 r4_241 r5_241 (lv_sub hl [0, 1, 2, 3, 4] rfl)
                  replace hv := fnN hv q38
                  have r44 : Rg x9_241 (0) (8) := Rg_ult r9_241 (Rg_nle q38) r3_241 (by decide)
                  refine lv_aload_n hx hb dX11_findWay_247 rfl (lv_at hl 0 rfl) ?_
                  obtain ⟨b45, mb45, vb45, kb45⟩ := rf_11_45 oR m0 k0
                  replace hv := fnR hv vb45
                  refine gf_11_45 vb45 hx hb hts hown hH m0 k0 rfl kf_X11_102 dX11_findWay_248 ?_
                  refine lv_bipush (v := 10) hx hb dX11_findWay_251 (by decide) ?_
                  refine lv_iload hx hb dX11_findWay_253 (lv_at hl 6 rfl) ?_
                  refine lv_imul hx hb dX11_findWay_255 ?_
                  refine lv_topi (fun y46 ey46 => ?_)
                  replace hv := fnS hv ey46
                  obtain ⟨ty46, ry46⟩ := Rg_mulx (a' := (100)) (b' := (990)) (by decide : Int32.toInt 10 = 10) (rfl : x7_241.toInt = _) (Rg_c (x := 10) (a := (10)) (b := (10)) (by decide)) r7_241 (by decide)
                  rw [← ey46] at ty46 ry46
                  refine lv_iload hx hb dX11_findWay_256 (lv_at hl 7 rfl) ?_
                  refine lv_iadd hx hb dX11_findWay_258 ?_
                  refine lv_topi (fun y47 ey47 => ?_)
                  replace hv := fnS hv ey47
                  obtain ⟨ty47, ry47⟩ := Rg_addx (a' := (100)) (b' := (998)) (rfl : y46.toInt = _) (rfl : x9_241.toInt = _) ry46 r44 (by decide)
                  rw [← ey47] at ty47 ry47
                  refine lv_aload_n hx hb dX11_findWay_259 rfl (lv_at hl 0 rfl) ?_
                  refine gf_11_45 vb45 hx hb hts hown hH m0 k0 rfl kf_X11_102 dX11_findWay_260 ?_
                  refine lv_bipush (v := 10) hx hb dX11_findWay_263 (by decide) ?_
                  refine lv_iload hx hb dX11_findWay_265 (lv_at hl 5 rfl) ?_
                  refine lv_imul hx hb dX11_findWay_267 ?_
                  refine lv_topi (fun y48 ey48 => ?_)
                  replace hv := fnS hv ey48
                  obtain ⟨ty48, ry48⟩ := Rg_mulx (a' := (0)) (b' := (890)) (by decide : Int32.toInt 10 = 10) (rfl : x6_241.toInt = _) (Rg_c (x := 10) (a := (10)) (b := (10)) (by decide)) r6_241 (by decide)
                  rw [← ey48] at ty48 ry48
                  refine lv_iload hx hb dX11_findWay_268 (lv_at hl 7 rfl) ?_
                  refine lv_iadd hx hb dX11_findWay_270 ?_
                  refine lv_topi (fun y49 ey49 => ?_)
                  replace hv := fnS hv ey49
                  obtain ⟨ty49, ry49⟩ := Rg_addx (a' := (0)) (b' := (898)) (rfl : y48.toInt = _) (rfl : x9_241.toInt = _) ry48 r44 (by decide)
                  rw [← ey49] at ty49 ry49
                  refine ld_94 hx hb hH mb45 kb45 (Rg_in ry49 (by decide)) dX11_findWay_271 ?_
                  refine lv_topi (fun y50 ey50 => ?_)
                  have ry50 : Rg y50 (0) (9) := by rw [ey50]; exact rd_94 oI mb45 kb45 (Rg_in ry49 (by decide))
                  replace hv := fnS hv ey50
                  refine st_94 hx hb hH mb45 kb45 (Rg_in ry47 (by decide)) dX11_findWay_272 (fun I51 H locs eI51 hH => ?_)
                  replace hv := fnS hv eI51
                  have oI : OkI L C I51 := by rw [eI51]; exact wr_94 oI kb45 ry50
                  have sm : Sm C ms_X11_findWay (I, J, R) (I51, J, R) := by rw [eI51]; exact sm.stI kb45 (mC_arr (by decide) rfl)
                  obtain ⟨y52, ey52⟩ : ∃ y : Int32, y = x9_241 + 1 := ⟨_, rfl⟩
                  replace hv := fnS hv ey52
                  obtain ⟨ty52, ry52⟩ := Rg_addx (a' := (1)) (b' := (9)) (rfl : x9_241.toInt = _) (by decide : Int32.toInt 1 = 1) r44 (Rg_c (x := 1) (a := (1)) (b := (1)) (by decide)) (by decide)
                  rw [← ey52] at ty52 ry52
                  refine lv_iinc (v := y52) (lv' := [(9, .int y52), (0, .ref a0), (2, .int x2), (3, .int x3_111), (4, .int x4_120), (5, .int x5_130), (6, .int x6_241), (7, .int x7_241)]) hx hb dX11_findWay_273 hl (k := 7) rfl (by rw [ey52]; rfl) (by decide) rfl (fun ls hl => ?_)
                  refine lv_goto (tgt := 241) hx hb dX11_findWay_276 (by decide) ?_
                  exact ih_241 I51 _ _ _ x6_241 x7_241 y52 (lp_up hn_241 ty52 (Rg_ltc r44 (by decide))) hH hv oI sm r2_241 r3_241 r4_241 r5_241 r6_241 r7_241 (Rg_w ry52 (by decide)) (lv_sub hl [1, 2, 3, 4, 5, 6, 7, 0] rfl)
              have L_229 : ∀ (I_229 : hI) (H : Heap) (locs : List Loc) (ls : Array Slot) (x6_229 : Int32) (x7_229 : Int32) (x8_229 : Int32), Hp D cy L C b0 s s.heap I_229 J R H locs → TT0 = F_X11_findWay_229 a0 x1 x2 x3_111 x4_120 x5_130 (F_X11_findWay_111 a0 x1 x2 n_111) (F_X11_findWay_120 a0 x1 x2 x3_111 (F_X11_findWay_111 a0 x1 x2 n_111) n_120) (F_X11_findWay_130 a0 x1 x2 x3_111 x4_120 (F_X11_findWay_111 a0 x1 x2 n_111) (F_X11_findWay_120 a0 x1 x2 x3_111 (F_X11_findWay_111 a0 x1 x2 n_111) n_120) n_130) I_229 J R x6_229 x7_229 x8_229 → OkI L C I_229 → Sm C ms_X11_findWay (I, J, R) (I_229, J, R) → Rg x2 (0) (9) → Rg x3_111 (1) (9) → Rg x4_120 (0) (9) → Rg x5_130 (0) (9) → Rg x6_229 (0) (89) → Rg x7_229 (10) (99) → Rg x8_229 (-2147483648) (999999) → lv_has ls 10 [(0, .ref a0), (2, .int x2), (3, .int x3_111), (4, .int x4_120), (5, .int x5_130), (6, .int x6_229), (7, .int x7_229), (8, .int x8_229)] → W p l e (rmD 4) s m args below meth c H locs 0 0 Q (F0 m 229 ls []) := by
                intro I_229 H locs ls x6_229 x7_229 x8_229 hH hv oI sm r2_229 r3_229 r4_229 r5_229 r6_229 r7_229 r8_229 hl
                unfold F_X11_findWay_229 at hv
                refine lv_aload_n hx hb dX11_findWay_229 rfl (lv_at hl 0 rfl) ?_
                obtain ⟨b53, mb53, vb53, kb53⟩ := rf_11_44 oR m0 k0
                replace hv := fnR hv vb53
                refine gf_11_44 vb53 hx hb hts hown hH m0 k0 rfl kf_X11_99 dX11_findWay_230 ?_
                refine lv_iload hx hb dX11_findWay_233 (lv_at hl 6 rfl) ?_
                refine lv_iload hx hb dX11_findWay_235 (lv_at hl 7 rfl) ?_
                refine st_93 hx hb hH mb53 kb53 (Rg_in r7_229 (by decide)) dX11_findWay_237 (fun I54 H locs eI54 hH => ?_)
                replace hv := fnS hv eI54
                have oI : OkI L C I54 := by rw [eI54]; exact wr_93 oI kb53 (Rg_w r8_229 (by decide))
                have sm : Sm C ms_X11_findWay (I, J, R) (I54, J, R) := by rw [eI54]; exact sm.stI kb53 (mC_arr (by decide) rfl)
                refine lv_iconst (v := 0) hx hb dX11_findWay_238 (by decide) ?_
                refine lv_istore (lv' := [(9, .int 0), (0, .ref a0), (2, .int x2), (3, .int x3_111), (4, .int x4_120), (5, .int x5_130), (6, .int x6_229), (7, .int x7_229), (8, .int x8_229)]) hx hb dX11_findWay_239 hl (by decide) rfl (fun ls hl => ?_)
                exact L_241 ((9 - (0 : Int32).toInt).toNat + 1) I54 _ _ _ x6_229 x7_229 0 (Nat.lt_succ_self _) hH hv oI sm r2_229 r3_229 r4_229 r5_229 r6_229 r7_229 (Rg_w (Rg_c (x := 0) (a := (0)) (b := (0)) (by decide)) (by decide)) (lv_sub hl [1, 2, 3, 4, 5, 6, 7, 0] rfl)
              refine lv_iload hx hb dX11_findWay_130 (lv_at hl 4 rfl) ?_
              refine lv_bipush (v := 10) hx hb dX11_findWay_132 (by decide) ?_
              refine lv_icmp_ge (tgt := 299) hx hb dX11_findWay_134 (by decide) (fun q55 => ?_) (fun q55 => ?_)
              · replace hv := fnP hv q55
                have r56 : Rg x5_130 (10) (10) := Rg_lle r5_130 (Rg_le q55) (Rg_c (x := 10) (a := (10)) (b := (10)) (by decide)) (by decide)
                obtain ⟨y57, ey57⟩ : ∃ y : Int32, y = x4_120 + 1 := ⟨_, rfl⟩
                replace hv := fnS hv ey57
                obtain ⟨ty57, ry57⟩ := Rg_addx (a' := (1)) (b' := (10)) (rfl : x4_120.toInt = _) (by decide : Int32.toInt 1 = 1) r4_130 (Rg_c (x := 1) (a := (1)) (b := (1)) (by decide)) (by decide)
                rw [← ey57] at ty57 ry57
                refine lv_iinc (v := y57) (lv' := [(4, .int y57), (0, .ref a0), (2, .int x2), (3, .int x3_111), (5, .int x5_130)]) hx hb dX11_findWay_299 hl (k := 3) rfl (by rw [ey57]; rfl) (by decide) rfl (fun ls hl => ?_)
                refine lv_goto (tgt := 120) hx hb dX11_findWay_302 (by decide) ?_
                exact ih_120 I_130 _ _ _ y57 (lp_up hn_120 ty57 (Rg_ltc r4_130 (by decide))) hH hv oI sm r2_130 r3_130 (Rg_w ry57 (by decide)) (lv_sub hl [1, 2, 3, 0] rfl)
              replace hv := fnN hv q55
              have r58 : Rg x5_130 (0) (9) := Rg_ult r5_130 (Rg_nle q55) (Rg_c (x := 10) (a := (10)) (b := (10)) (by decide)) (by decide)
              refine lv_bipush (v := 10) hx hb dX11_findWay_137 (by decide) ?_
              refine lv_iload_n hx hb dX11_findWay_139 rfl (lv_at hl 2 rfl) ?_
              refine lv_iconst (v := 1) hx hb dX11_findWay_140 (by decide) ?_
              refine lv_isub hx hb dX11_findWay_141 ?_
              refine lv_topi (fun y59 ey59 => ?_)
              replace hv := fnS hv ey59
              obtain ⟨ty59, ry59⟩ := Rg_subx (a' := (0)) (b' := (8)) (rfl : x3_111.toInt = _) (by decide : Int32.toInt 1 = 1) r3_130 (Rg_c (x := 1) (a := (1)) (b := (1)) (by decide)) (by decide)
              rw [← ey59] at ty59 ry59
              refine lv_imul hx hb dX11_findWay_142 ?_
              refine lv_topi (fun y60 ey60 => ?_)
              replace hv := fnS hv ey60
              obtain ⟨ty60, ry60⟩ := Rg_mulx (a' := (0)) (b' := (80)) (by decide : Int32.toInt 10 = 10) (rfl : y59.toInt = _) (Rg_c (x := 10) (a := (10)) (b := (10)) (by decide)) ry59 (by decide)
              rw [← ey60] at ty60 ry60
              refine lv_iload hx hb dX11_findWay_143 (lv_at hl 3 rfl) ?_
              refine lv_iadd hx hb dX11_findWay_145 ?_
              refine lv_topi (fun y61 ey61 => ?_)
              replace hv := fnS hv ey61
              obtain ⟨ty61, ry61⟩ := Rg_addx (a' := (0)) (b' := (89)) (rfl : y60.toInt = _) (rfl : x4_120.toInt = _) ry60 r4_130 (by decide)
              rw [← ey61] at ty61 ry61
              refine lv_istore (lv' := [(6, .int y61), (0, .ref a0), (2, .int x2), (3, .int x3_111), (4, .int x4_120), (5, .int x5_130)]) hx hb dX11_findWay_146 hl (by decide) rfl (fun ls hl => ?_)
              refine lv_bipush (v := 10) hx hb dX11_findWay_148 (by decide) ?_
              refine lv_iload_n hx hb dX11_findWay_150 rfl (lv_at hl 3 rfl) ?_
              refine lv_imul hx hb dX11_findWay_151 ?_
              refine lv_topi (fun y62 ey62 => ?_)
              replace hv := fnS hv ey62
              obtain ⟨ty62, ry62⟩ := Rg_mulx (a' := (10)) (b' := (90)) (by decide : Int32.toInt 10 = 10) (rfl : x3_111.toInt = _) (Rg_c (x := 10) (a := (10)) (b := (10)) (by decide)) r3_130 (by decide)
              rw [← ey62] at ty62 ry62
              refine lv_iload hx hb dX11_findWay_152 (lv_at hl 5 rfl) ?_
              refine lv_iadd hx hb dX11_findWay_154 ?_
              refine lv_topi (fun y63 ey63 => ?_)
              replace hv := fnS hv ey63
              obtain ⟨ty63, ry63⟩ := Rg_addx (a' := (10)) (b' := (99)) (rfl : y62.toInt = _) (rfl : x5_130.toInt = _) ry62 r58 (by decide)
              rw [← ey63] at ty63 ry63
              refine lv_istore (lv' := [(7, .int y63), (6, .int y61), (0, .ref a0), (2, .int x2), (3, .int x3_111), (4, .int x4_120), (5, .int x5_130)]) hx hb dX11_findWay_155 hl (by decide) rfl (fun ls hl => ?_)
              refine lv_aload_n hx hb dX11_findWay_157 rfl (lv_at hl 2 rfl) ?_
              obtain ⟨b64, mb64, vb64, kb64⟩ := rf_11_44 oR m0 k0
              replace hv := fnR hv vb64
              refine gf_11_44 vb64 hx hb hts hown hH m0 k0 rfl kf_X11_99 dX11_findWay_158 ?_
              refine lv_iload hx hb dX11_findWay_161 (lv_at hl 1 rfl) ?_
              refine ld_93 hx hb hH mb64 kb64 (Rg_in ry61 (by decide)) dX11_findWay_163 ?_
              refine lv_topi (fun y65 ey65 => ?_)
              replace hv := fnS hv ey65
              refine lv_aload_n hx hb dX11_findWay_164 rfl (lv_at hl 2 rfl) ?_
              obtain ⟨b66, mb66, vb66, kb66⟩ := rf_11_46 oR m0 k0
              replace hv := fnR hv vb66
              refine gf_11_46 vb66 hx hb hts hown hH m0 k0 rfl kf_X11_105 dX11_findWay_165 ?_
              refine lv_bipush (v := 10) hx hb dX11_findWay_168 (by decide) ?_
              refine lv_iload hx hb dX11_findWay_170 (lv_at hl 5 rfl) ?_
              refine lv_imul hx hb dX11_findWay_172 ?_
              refine lv_topi (fun y67 ey67 => ?_)
              replace hv := fnS hv ey67
              obtain ⟨ty67, ry67⟩ := Rg_mulx (a' := (0)) (b' := (90)) (by decide : Int32.toInt 10 = 10) (rfl : x4_120.toInt = _) (Rg_c (x := 10) (a := (10)) (b := (10)) (by decide)) r4_130 (by decide)
              rw [← ey67] at ty67 ry67
              refine lv_iload hx hb dX11_findWay_173 (lv_at hl 6 rfl) ?_
              refine lv_iadd hx hb dX11_findWay_175 ?_
              refine lv_topi (fun y68 ey68 => ?_)
              replace hv := fnS hv ey68
              obtain ⟨ty68, ry68⟩ := Rg_addx (a' := (0)) (b' := (99)) (rfl : y67.toInt = _) (rfl : x5_130.toInt = _) ry67 r58 (by decide)
              rw [← ey68] at ty68 ry68
              refine ld_95 hx hb hH mb66 kb66 (Rg_in ry68 (by decide)) dX11_findWay_176 ?_
              refine lv_topi (fun y69 ey69 => ?_)
              replace hv := fnS hv ey69
              refine lv_iadd hx hb dX11_findWay_177 ?_
              refine lv_topi (fun y70 ey70 => ?_)
              replace hv := fnS hv ey70
              refine lv_istore (lv' := [(8, .int y70), (7, .int y63), (6, .int y61), (0, .ref a0), (2, .int x2), (3, .int x3_111), (4, .int x4_120), (5, .int x5_130)]) hx hb dX11_findWay_178 hl (by decide) rfl (fun ls hl => ?_)
              refine lv_iload hx hb dX11_findWay_180 (lv_at hl 0 rfl) ?_
              refine lv_ldc (v := 1000000) hx hb hown (hts _ kk_X11_180) dX11_findWay_182 ?_
              refine lv_icmp_ge (tgt := 293) hx hb dX11_findWay_184 (by decide) (fun q71 => ?_) (fun q71 => ?_)
              · replace hv := fnP hv q71
                have r72 : Rg y70 (1000000) (2147483647) := Rg_lle (Rg_any y70) (Rg_le q71) (Rg_c (x := 1000000) (a := (1000000)) (b := (1000000)) (by decide)) (by decide)
                exact L_293 I_130 _ _ _ hH hv oI sm r2_130 r3_130 r4_130 r58 (lv_sub hl [3, 4, 5, 6, 7] rfl)
              replace hv := fnN hv q71
              have r73 : Rg y70 (-2147483648) (999999) := Rg_ult (Rg_any y70) (Rg_nle q71) (Rg_c (x := 1000000) (a := (1000000)) (b := (1000000)) (by decide)) (by decide)
              refine lv_iload hx hb dX11_findWay_187 (lv_at hl 0 rfl) ?_
              refine lv_aload_n hx hb dX11_findWay_189 rfl (lv_at hl 3 rfl) ?_
              refine gf_11_44 vb64 hx hb hts hown hH m0 k0 rfl kf_X11_99 dX11_findWay_190 ?_
              refine lv_iload hx hb dX11_findWay_193 (lv_at hl 1 rfl) ?_
              refine ld_93 hx hb hH mb64 kb64 (Rg_in ry63 (by decide)) dX11_findWay_195 ?_
              refine lv_topi (fun y74 ey74 => ?_)
              replace hv := fnS hv ey74
              refine lv_icmp_lt (tgt := 229) hx hb dX11_findWay_196 (by decide) (fun q75 => ?_) (fun q75 => ?_)
              · replace hv := fnP hv q75
                have r76 : Rg y74 (-2147483647) (2147483647) := Rg_llt (Rg_any y74) (Rg_lt q75) r73 (by decide)
                exact L_229 I_130 _ _ _ y61 y63 y70 hH hv oI sm r2_130 r3_130 r4_130 r58 ry61 ry63 r73 (lv_sub hl [3, 4, 5, 6, 7, 2, 1, 0] rfl)
              replace hv := fnN hv q75
              have r77 : Rg y74 (-2147483648) (999999) := Rg_ule (Rg_any y74) (Rg_nlt q75) r73 (by decide)
              refine lv_iload hx hb dX11_findWay_199 (lv_at hl 0 rfl) ?_
              refine lv_aload_n hx hb dX11_findWay_201 rfl (lv_at hl 3 rfl) ?_
              refine gf_11_44 vb64 hx hb hts hown hH m0 k0 rfl kf_X11_99 dX11_findWay_202 ?_
              refine lv_iload hx hb dX11_findWay_205 (lv_at hl 1 rfl) ?_
              refine ld_93 hx hb hH mb64 kb64 (Rg_in ry63 (by decide)) dX11_findWay_207 ?_
              refine lv_topi (fun y78 ey78 => ?_)
              obtain rfl : y74 = y78 := ey74.trans ey78.symm
              refine lv_icmp_ne (tgt := 293) hx hb dX11_findWay_208 (by decide) (fun q79 => ?_) (fun q79 => ?_)
              · replace hv := fnN hv q79
                exact L_293 I_130 _ _ _ hH hv oI sm r2_130 r3_130 r4_130 r58 (lv_sub hl [3, 4, 5, 6, 7] rfl)
              replace hv := fnP hv q79
              refine lv_aload_n hx hb dX11_findWay_211 rfl (lv_at hl 3 rfl) ?_
              refine lv_bipush (v := 10) hx hb dX11_findWay_212 (by decide) ?_
              refine lv_iload hx hb dX11_findWay_214 (lv_at hl 2 rfl) ?_
              refine lv_imul hx hb dX11_findWay_216 ?_
              refine lv_topi (fun y80 ey80 => ?_)
              replace hv := fnS hv ey80
              obtain ⟨ty80, ry80⟩ := Rg_mulx (a' := (0)) (b' := (890)) (by decide : Int32.toInt 10 = 10) (rfl : y61.toInt = _) (Rg_c (x := 10) (a := (10)) (b := (10)) (by decide)) ry61 (by decide)
              rw [← ey80] at ty80 ry80
              refine lv_bipush (v := 10) hx hb dX11_findWay_217 (by decide) ?_
              refine lv_iload hx hb dX11_findWay_219 (lv_at hl 1 rfl) ?_
              refine lv_imul hx hb dX11_findWay_221 ?_
              refine lv_topi (fun y81 ey81 => ?_)
              replace hv := fnS hv ey81
              obtain ⟨ty81, ry81⟩ := Rg_mulx (a' := (100)) (b' := (990)) (by decide : Int32.toInt 10 = 10) (rfl : y63.toInt = _) (Rg_c (x := 10) (a := (10)) (b := (10)) (by decide)) ry63 (by decide)
              rw [← ey81] at ty81 ry81
              refine lv_iload_n hx hb dX11_findWay_222 rfl (lv_at hl 5 rfl) ?_
              refine ca_X11_272 hx hb hml hown hts hH (c_X11_isWayAhead oI oR m0 k0 (Rg_w ry80 (by decide)) (Rg_w ry81 (by decide)) r3_130) hl.1 m0 k0 rfl (by decide) (Nat.le_of_ble_eq_true rfl) ⟨Nat.zero_le _, Nat.zero_le _⟩ dX11_findWay_223 (fun y82 I82 J82 R82 H locs hp hH => ?_)
              obtain ⟨eI82, eJ82, eR82, ry82, hf82⟩ := hp
              obtain rfl : I_130 = I82 := eI82.symm
              obtain rfl : J = J82 := eJ82.symm
              obtain rfl : R = R82 := eR82.symm
              replace hv := fnS hv hf82.symm
              refine lv_if_eq (tgt := 293) hx hb dX11_findWay_226 (by decide) (fun q83 => ?_) (fun q83 => ?_)
              · replace hv := fnP hv q83
                have r84 : Rg y82 (0) (0) := Rg_both ry82 (Rg_eqv q83 (Rg_c (x := 0) (a := (0)) (b := (0)) (by decide))) (by decide)
                exact L_293 I_130 _ _ _ hH hv oI sm r2_130 r3_130 r4_130 r58 (lv_sub hl [3, 4, 5, 6, 7] rfl)
              replace hv := fnN hv q83
              have r85 : Rg y82 (1) (1) := Rg_nelo ry82 (Rg_ne q83) (Rg_c (x := 0) (a := (0)) (b := (0)) (by decide)) (by decide)
              exact L_229 I_130 _ _ _ y61 y63 y70 hH hv oI sm r2_130 r3_130 r4_130 r58 ry61 ry63 r73 (lv_sub hl [3, 4, 5, 6, 7, 2, 1, 0] rfl)
          refine lv_iload hx hb dX11_findWay_120 (lv_at hl 3 rfl) ?_
          refine lv_bipush (v := 10) hx hb dX11_findWay_122 (by decide) ?_
          refine lv_icmp_ge (tgt := 305) hx hb dX11_findWay_124 (by decide) (fun q86 => ?_) (fun q86 => ?_)
          rotate_left
          · replace hv := fnN hv q86
            have r89 : Rg x4_120 (0) (9) := Rg_ult r4_120 (Rg_nle q86) (Rg_c (x := 10) (a := (10)) (b := (10)) (by decide)) (by decide)
            refine lv_iconst (v := 0) hx hb dX11_findWay_127 (by decide) ?_
            refine lv_istore (lv' := [(5, .int 0), (0, .ref a0), (2, .int x2), (3, .int x3_111), (4, .int x4_120)]) hx hb dX11_findWay_128 hl (by decide) rfl (fun ls hl => ?_)
            exact L_130 ((10 - (0 : Int32).toInt).toNat + 1) I_120 _ _ _ 0 (Nat.lt_succ_self _) hH hv oI sm r2_120 r3_120 r89 (Rg_w (Rg_c (x := 0) (a := (0)) (b := (0)) (by decide)) (by decide)) (lv_sub hl [1, 2, 3, 4, 0] rfl)
          replace hv := fnP hv q86
          have r87 : Rg x4_120 (10) (10) := Rg_lle r4_120 (Rg_le q86) (Rg_c (x := 10) (a := (10)) (b := (10)) (by decide)) (by decide)
          obtain ⟨y88, ey88⟩ : ∃ y : Int32, y = x3_111 + 1 := ⟨_, rfl⟩
          replace hv := fnS hv ey88
          obtain ⟨ty88, ry88⟩ := Rg_addx (a' := (2)) (b' := (10)) (rfl : x3_111.toInt = _) (by decide : Int32.toInt 1 = 1) r3_120 (Rg_c (x := 1) (a := (1)) (b := (1)) (by decide)) (by decide)
          rw [← ey88] at ty88 ry88
          refine lv_iinc (v := y88) (lv' := [(3, .int y88), (0, .ref a0), (2, .int x2), (4, .int x4_120)]) hx hb dX11_findWay_305 hl (k := 2) rfl (by rw [ey88]; rfl) (by decide) rfl (fun ls hl => ?_)
          refine lv_goto (tgt := 111) hx hb dX11_findWay_308 (by decide) ?_
          exact ih_111 I_120 _ _ _ y88 (lp_up hn_111 ty88 (Rg_ltc r3_120 (by decide))) hH hv oI sm r2_120 (Rg_w ry88 (by decide)) (lv_sub hl [1, 2, 0] rfl)
      refine lv_iload_n hx hb dX11_findWay_111 rfl (lv_at hl 2 rfl) ?_
      refine lv_bipush (v := 10) hx hb dX11_findWay_112 (by decide) ?_
      refine lv_icmp_ge (tgt := 311) hx hb dX11_findWay_114 (by decide) (fun q90 => ?_) (fun q90 => ?_)
      rotate_left
      · replace hv := fnN hv q90
        have r92 : Rg x3_111 (1) (9) := Rg_ult r3_111 (Rg_nle q90) (Rg_c (x := 10) (a := (10)) (b := (10)) (by decide)) (by decide)
        refine lv_iconst (v := 0) hx hb dX11_findWay_117 (by decide) ?_
        refine lv_istore (lv' := [(4, .int 0), (0, .ref a0), (2, .int x2), (3, .int x3_111)]) hx hb dX11_findWay_118 hl (by decide) rfl (fun ls hl => ?_)
        exact L_120 ((10 - (0 : Int32).toInt).toNat + 1) I_111 _ _ _ 0 (Nat.lt_succ_self _) hH hv oI sm r2_111 r92 (Rg_w (Rg_c (x := 0) (a := (0)) (b := (0)) (by decide)) (by decide)) (lv_sub hl [1, 2, 3, 0] rfl)
      replace hv := fnP hv q90
      have r91 : Rg x3_111 (10) (10) := Rg_lle r3_111 (Rg_le q90) (Rg_c (x := 10) (a := (10)) (b := (10)) (by decide)) (by decide)
      refine lv_iconst (v := 0) hx hb dX11_findWay_311 (by decide) ?_
      refine lv_istore_n (lv' := [(3, .int 0), (0, .ref a0), (2, .int x2)]) hx hb dX11_findWay_312 rfl hl (by decide) rfl (fun ls hl => ?_)
      refine lv_iconst (v := 1) hx hb dX11_findWay_313 (by decide) ?_
      refine lv_istore (lv' := [(4, .int 1), (3, .int 0), (0, .ref a0), (2, .int x2)]) hx hb dX11_findWay_314 hl (by decide) rfl (fun ls hl => ?_)
      exact L_316 ((10 - (1 : Int32).toInt).toNat + 1) I_111 _ _ _ 0 1 (Nat.lt_succ_self _) hH hv oI sm r2_111 (Rg_w (Rg_c (x := 0) (a := (0)) (b := (0)) (by decide)) (by decide)) (Rg_w (Rg_c (x := 1) (a := (1)) (b := (1)) (by decide)) (by decide)) (lv_sub hl [2, 3, 1, 0] rfl)
  have L_70 : ∀ (n_70 : Nat) (I_70 : hI) (H : Heap) (locs : List Loc) (ls : Array Slot) (x3_70 : Int32), (100 - x3_70.toInt).toNat < n_70 → Hp D cy L C b0 s s.heap I_70 J R H locs → TT0 = F_X11_findWay_70 a0 x1 x2 n_70 I_70 J R x3_70 → OkI L C I_70 → Sm C ms_X11_findWay (I, J, R) (I_70, J, R) → Rg x1 (0) (9) → Rg x2 (0) (9) → Rg x3_70 (0) (100) → lv_has ls 10 [(0, .ref a0), (1, .int x1), (2, .int x2), (3, .int x3_70)] → W p l e (rmD 4) s m args below meth c H locs 0 0 Q (F0 m 70 ls []) := by
    intro n_70
    induction n_70 with
    | zero => intro I_70 H locs ls x3_70 h; exact absurd h (Nat.not_lt_zero _)
    | succ n_70 ih_70 =>
      intro I_70 H locs ls x3_70 hn_70 hH hv oI sm r1_70 r2_70 r3_70 hl
      replace hv := hv.trans F_X11_findWay_70_s
      unfold B_X11_findWay_70 at hv
      have L_92 : ∀ (I_92 : hI) (H : Heap) (locs : List Loc) (ls : Array Slot) (xs0_92 : Int32) (xs2_92 : Nat), Hp D cy L C b0 s s.heap I_92 J R H locs → TT0 = F_X11_findWay_92 a0 x1 x2 x3_70 (F_X11_findWay_70 a0 x1 x2 n_70) I_92 J R xs0_92 xs2_92 → OkI L C I_92 → Sm C ms_X11_findWay (I, J, R) (I_92, J, R) → Rg xs0_92 (0) (1000000) → Rg x3_70 (0) (99) → xs2_92 ∈ L → C xs2_92 = 93 → Rg x1 (0) (9) → Rg x2 (0) (9) → Rg x3_70 (0) (99) → lv_has ls 10 [(0, .ref a0), (1, .int x1), (2, .int x2), (3, .int x3_70)] → W p l e (rmD 4) s m args below meth c H locs 0 0 Q (F0 m 92 ls [.int xs0_92, .int x3_70, .ref xs2_92]) := by
        intro I_92 H locs ls xs0_92 xs2_92 hH hv oI sm rs0_92 rs1_92 ms2_92 ks2_92 r1_92 r2_92 r3_92 hl
        unfold F_X11_findWay_92 at hv
        refine st_93 hx hb hH ms2_92 ks2_92 (Rg_in rs1_92 (by decide)) dX11_findWay_92 (fun I93 H locs eI93 hH => ?_)
        replace hv := fnS hv eI93
        have oI : OkI L C I93 := by rw [eI93]; exact wr_93 oI ks2_92 (Rg_w rs0_92 (by decide))
        have sm : Sm C ms_X11_findWay (I, J, R) (I93, J, R) := by rw [eI93]; exact sm.stI ks2_92 (mC_arr (by decide) rfl)
        obtain ⟨y94, ey94⟩ : ∃ y : Int32, y = x3_70 + 1 := ⟨_, rfl⟩
        replace hv := fnS hv ey94
        obtain ⟨ty94, ry94⟩ := Rg_addx (a' := (1)) (b' := (100)) (rfl : x3_70.toInt = _) (by decide : Int32.toInt 1 = 1) r3_92 (Rg_c (x := 1) (a := (1)) (b := (1)) (by decide)) (by decide)
        rw [← ey94] at ty94 ry94
        refine lv_iinc (v := y94) (lv' := [(3, .int y94), (0, .ref a0), (1, .int x1), (2, .int x2)]) hx hb dX11_findWay_93 hl (k := 3) rfl (by rw [ey94]; rfl) (by decide) rfl (fun ls hl => ?_)
        refine lv_goto (tgt := 70) hx hb dX11_findWay_96 (by decide) ?_
        exact ih_70 I93 _ _ _ y94 (lp_up hn_70 ty94 (Rg_ltc r3_92 (by decide))) hH hv oI sm r1_92 r2_92 (Rg_w ry94 (by decide)) (lv_sub hl [1, 2, 3, 0] rfl)
      refine lv_iload_n hx hb dX11_findWay_70 rfl (lv_at hl 3 rfl) ?_
      refine lv_bipush (v := 100) hx hb dX11_findWay_71 (by decide) ?_
      refine lv_icmp_ge (tgt := 99) hx hb dX11_findWay_73 (by decide) (fun q95 => ?_) (fun q95 => ?_)
      rotate_left
      · replace hv := fnN hv q95
        have r100 : Rg x3_70 (0) (99) := Rg_ult r3_70 (Rg_nle q95) (Rg_c (x := 100) (a := (100)) (b := (100)) (by decide)) (by decide)
        refine lv_aload_n hx hb dX11_findWay_76 rfl (lv_at hl 0 rfl) ?_
        obtain ⟨b101, mb101, vb101, kb101⟩ := rf_11_44 oR m0 k0
        replace hv := fnR hv vb101
        refine gf_11_44 vb101 hx hb hts hown hH m0 k0 rfl kf_X11_99 dX11_findWay_77 ?_
        refine lv_iload_n hx hb dX11_findWay_80 rfl (lv_at hl 3 rfl) ?_
        refine lv_iload_n hx hb dX11_findWay_81 rfl (lv_at hl 3 rfl) ?_
        refine lv_iload_n hx hb dX11_findWay_82 rfl (lv_at hl 1 rfl) ?_
        refine lv_icmp_ne (tgt := 90) hx hb dX11_findWay_83 (by decide) (fun q102 => ?_) (fun q102 => ?_)
        · replace hv := fnN hv q102
          refine lv_ldc (v := 1000000) hx hb hown (hts _ kk_X11_180) dX11_findWay_90 ?_
          exact L_92 I_70 _ _ _ 1000000 b101 hH hv oI sm (Rg_w (Rg_c (x := 1000000) (a := (1000000)) (b := (1000000)) (by decide)) (by decide)) r100 mb101 kb101 r1_70 r2_70 r100 (lv_sub hl [0, 1, 2, 3] rfl)
        replace hv := fnP hv q102
        have r103 : Rg x3_70 (0) (9) := Rg_both r100 (Rg_eqv q102 r1_70) (by decide)
        refine lv_iconst (v := 0) hx hb dX11_findWay_86 (by decide) ?_
        refine lv_goto (tgt := 92) hx hb dX11_findWay_87 (by decide) ?_
        exact L_92 I_70 _ _ _ 0 b101 hH hv oI sm (Rg_w (Rg_c (x := 0) (a := (0)) (b := (0)) (by decide)) (by decide)) (Rg_w r103 (by decide)) mb101 kb101 r1_70 r2_70 (Rg_w r103 (by decide)) (lv_sub hl [0, 1, 2, 3] rfl)
      replace hv := fnP hv q95
      have r96 : Rg x3_70 (100) (100) := Rg_lle r3_70 (Rg_le q95) (Rg_c (x := 100) (a := (100)) (b := (100)) (by decide)) (by decide)
      refine lv_aload_n hx hb dX11_findWay_99 rfl (lv_at hl 0 rfl) ?_
      obtain ⟨b97, mb97, vb97, kb97⟩ := rf_11_45 oR m0 k0
      replace hv := fnR hv vb97
      refine gf_11_45 vb97 hx hb hts hown hH m0 k0 rfl kf_X11_102 dX11_findWay_100 ?_
      refine lv_bipush (v := 10) hx hb dX11_findWay_103 (by decide) ?_
      refine lv_iload_n hx hb dX11_findWay_105 rfl (lv_at hl 1 rfl) ?_
      refine lv_imul hx hb dX11_findWay_106 ?_
      refine lv_topi (fun y98 ey98 => ?_)
      replace hv := fnS hv ey98
      obtain ⟨ty98, ry98⟩ := Rg_mulx (a' := (0)) (b' := (90)) (by decide : Int32.toInt 10 = 10) (rfl : x1.toInt = _) (Rg_c (x := 10) (a := (10)) (b := (10)) (by decide)) r1_70 (by decide)
      rw [← ey98] at ty98 ry98
      refine lv_iload_n hx hb dX11_findWay_107 rfl (lv_at hl 1 rfl) ?_
      refine st_94 hx hb hH mb97 kb97 (Rg_in ry98 (by decide)) dX11_findWay_108 (fun I99 H locs eI99 hH => ?_)
      replace hv := fnS hv eI99
      have oI : OkI L C I99 := by rw [eI99]; exact wr_94 oI kb97 r1_70
      have sm : Sm C ms_X11_findWay (I, J, R) (I99, J, R) := by rw [eI99]; exact sm.stI kb97 (mC_arr (by decide) rfl)
      refine lv_iconst (v := 1) hx hb dX11_findWay_109 (by decide) ?_
      refine lv_istore_n (lv' := [(3, .int 1), (0, .ref a0), (1, .int x1), (2, .int x2)]) hx hb dX11_findWay_110 rfl hl (by decide) rfl (fun ls hl => ?_)
      exact L_111 ((10 - (1 : Int32).toInt).toNat + 1) I99 _ _ _ 1 (Nat.lt_succ_self _) hH hv oI sm r2_70 (Rg_w (Rg_c (x := 1) (a := (1)) (b := (1)) (by decide)) (by decide)) (lv_sub hl [1, 3, 0] rfl)
  have L_2 : ∀ (n_2 : Nat) (I_2 : hI) (H : Heap) (locs : List Loc) (ls : Array Slot) (x3_2 : Int32), (10 - x3_2.toInt).toNat < n_2 → Hp D cy L C b0 s s.heap I_2 J R H locs → TT0 = F_X11_findWay_2 a0 x1 x2 n_2 I_2 J R x3_2 → OkI L C I_2 → Sm C ms_X11_findWay (I, J, R) (I_2, J, R) → Rg x1 (0) (9) → Rg x2 (0) (9) → Rg x3_2 (0) (10) → lv_has ls 10 [(0, .ref a0), (1, .int x1), (2, .int x2), (3, .int x3_2)] → W p l e (rmD 4) s m args below meth c H locs 0 0 Q (F0 m 2 ls []) := by
    intro n_2
    induction n_2 with
    | zero => intro I_2 H locs ls x3_2 h; exact absurd h (Nat.not_lt_zero _)
    | succ n_2 ih_2 =>
      intro I_2 H locs ls x3_2 hn_2 hH hv oI sm r1_2 r2_2 r3_2 hl
      replace hv := hv.trans F_X11_findWay_2_s
      unfold B_X11_findWay_2 at hv
      have L_11 : ∀ (n_11 : Nat) (I_11 : hI) (H : Heap) (locs : List Loc) (ls : Array Slot) (x4_11 : Int32), (10 - x4_11.toInt).toNat < n_11 → Hp D cy L C b0 s s.heap I_11 J R H locs → TT0 = F_X11_findWay_11 a0 x1 x2 x3_2 (F_X11_findWay_2 a0 x1 x2 n_2) n_11 I_11 J R x4_11 → OkI L C I_11 → Sm C ms_X11_findWay (I, J, R) (I_11, J, R) → Rg x1 (0) (9) → Rg x2 (0) (9) → Rg x3_2 (0) (9) → Rg x4_11 (0) (10) → lv_has ls 10 [(0, .ref a0), (1, .int x1), (2, .int x2), (3, .int x3_2), (4, .int x4_11)] → W p l e (rmD 4) s m args below meth c H locs 0 0 Q (F0 m 11 ls []) := by
        intro n_11
        induction n_11 with
        | zero => intro I_11 H locs ls x4_11 h; exact absurd h (Nat.not_lt_zero _)
        | succ n_11 ih_11 =>
          intro I_11 H locs ls x4_11 hn_11 hH hv oI sm r1_11 r2_11 r3_11 r4_11 hl
          replace hv := hv.trans F_X11_findWay_11_s
          unfold B_X11_findWay_11 at hv
          have L_55 : ∀ (I_55 : hI) (H : Heap) (locs : List Loc) (ls : Array Slot) (xs0_55 : Int32) (xs1_55 : Int32) (xs2_55 : Nat), Hp D cy L C b0 s s.heap I_55 J R H locs → TT0 = F_X11_findWay_55 a0 x1 x2 x3_2 x4_11 (F_X11_findWay_2 a0 x1 x2 n_2) (F_X11_findWay_11 a0 x1 x2 x3_2 (F_X11_findWay_2 a0 x1 x2 n_2) n_11) I_55 J R xs0_55 xs1_55 xs2_55 → OkI L C I_55 → Sm C ms_X11_findWay (I, J, R) (I_55, J, R) → Rg xs0_55 (-2147483648) (1000000) → Rg xs1_55 (0) (99) → xs2_55 ∈ L → C xs2_55 = 95 → Rg x1 (0) (9) → Rg x2 (0) (9) → Rg x3_2 (0) (9) → Rg x4_11 (0) (9) → lv_has ls 10 [(0, .ref a0), (1, .int x1), (2, .int x2), (3, .int x3_2), (4, .int x4_11)] → W p l e (rmD 4) s m args below meth c H locs 0 0 Q (F0 m 55 ls [.int xs0_55, .int xs1_55, .ref xs2_55]) := by
            intro I_55 H locs ls xs0_55 xs1_55 xs2_55 hH hv oI sm rs0_55 rs1_55 ms2_55 ks2_55 r1_55 r2_55 r3_55 r4_55 hl
            unfold F_X11_findWay_55 at hv
            refine st_95 hx hb hH ms2_55 ks2_55 (Rg_in rs1_55 (by decide)) dX11_findWay_55 (fun I104 H locs eI104 hH => ?_)
            replace hv := fnS hv eI104
            have oI : OkI L C I104 := by rw [eI104]; exact wr_95 oI ks2_55 (Rg_w rs0_55 (by decide))
            have sm : Sm C ms_X11_findWay (I, J, R) (I104, J, R) := by rw [eI104]; exact sm.stI ks2_55 (mC_arr (by decide) rfl)
            obtain ⟨y105, ey105⟩ : ∃ y : Int32, y = x4_11 + 1 := ⟨_, rfl⟩
            replace hv := fnS hv ey105
            obtain ⟨ty105, ry105⟩ := Rg_addx (a' := (1)) (b' := (10)) (rfl : x4_11.toInt = _) (by decide : Int32.toInt 1 = 1) r4_55 (Rg_c (x := 1) (a := (1)) (b := (1)) (by decide)) (by decide)
            rw [← ey105] at ty105 ry105
            refine lv_iinc (v := y105) (lv' := [(4, .int y105), (0, .ref a0), (1, .int x1), (2, .int x2), (3, .int x3_2)]) hx hb dX11_findWay_56 hl (k := 4) rfl (by rw [ey105]; rfl) (by decide) rfl (fun ls hl => ?_)
            refine lv_goto (tgt := 11) hx hb dX11_findWay_59 (by decide) ?_
            exact ih_11 I104 _ _ _ y105 (lp_up hn_11 ty105 (Rg_ltc r4_55 (by decide))) hH hv oI sm r1_55 r2_55 r3_55 (Rg_w ry105 (by decide)) (lv_sub hl [1, 2, 3, 4, 0] rfl)
          refine lv_iload hx hb dX11_findWay_11 (lv_at hl 4 rfl) ?_
          refine lv_bipush (v := 10) hx hb dX11_findWay_13 (by decide) ?_
          refine lv_icmp_ge (tgt := 62) hx hb dX11_findWay_15 (by decide) (fun q106 => ?_) (fun q106 => ?_)
          · replace hv := fnP hv q106
            have r107 : Rg x4_11 (10) (10) := Rg_lle r4_11 (Rg_le q106) (Rg_c (x := 10) (a := (10)) (b := (10)) (by decide)) (by decide)
            obtain ⟨y108, ey108⟩ : ∃ y : Int32, y = x3_2 + 1 := ⟨_, rfl⟩
            replace hv := fnS hv ey108
            obtain ⟨ty108, ry108⟩ := Rg_addx (a' := (1)) (b' := (10)) (rfl : x3_2.toInt = _) (by decide : Int32.toInt 1 = 1) r3_11 (Rg_c (x := 1) (a := (1)) (b := (1)) (by decide)) (by decide)
            rw [← ey108] at ty108 ry108
            refine lv_iinc (v := y108) (lv' := [(3, .int y108), (0, .ref a0), (1, .int x1), (2, .int x2), (4, .int x4_11)]) hx hb dX11_findWay_62 hl (k := 3) rfl (by rw [ey108]; rfl) (by decide) rfl (fun ls hl => ?_)
            refine lv_goto (tgt := 2) hx hb dX11_findWay_65 (by decide) ?_
            exact ih_2 I_11 _ _ _ y108 (lp_up hn_2 ty108 (Rg_ltc r3_11 (by decide))) hH hv oI sm r1_11 r2_11 (Rg_w ry108 (by decide)) (lv_sub hl [1, 2, 3, 0] rfl)
          replace hv := fnN hv q106
          have r109 : Rg x4_11 (0) (9) := Rg_ult r4_11 (Rg_nle q106) (Rg_c (x := 10) (a := (10)) (b := (10)) (by decide)) (by decide)
          refine lv_aload_n hx hb dX11_findWay_18 rfl (lv_at hl 0 rfl) ?_
          refine lv_iload hx hb dX11_findWay_19 (lv_at hl 4 rfl) ?_
          refine lv_bipush (v := 10) hx hb dX11_findWay_21 (by decide) ?_
          refine lv_iload_n hx hb dX11_findWay_23 rfl (lv_at hl 3 rfl) ?_
          refine lv_iadd hx hb dX11_findWay_24 ?_
          refine lv_topi (fun y110 ey110 => ?_)
          replace hv := fnS hv ey110
          obtain ⟨ty110, ry110⟩ := Rg_addx (a' := (10)) (b' := (19)) (by decide : Int32.toInt 10 = 10) (rfl : x3_2.toInt = _) (Rg_c (x := 10) (a := (10)) (b := (10)) (by decide)) r3_11 (by decide)
          rw [← ey110] at ty110 ry110
          refine ca_X11_269 hx hb hml hown hts hH (c_X11_fitsAt oI oR m0 k0 r109 (Rg_w ry110 (by decide))) hl.1 m0 k0 rfl (by decide) (Nat.le_of_ble_eq_true rfl) ⟨Nat.zero_le _, Nat.zero_le _⟩ dX11_findWay_25 (fun y111 I111 J111 R111 H locs hp hH => ?_)
          obtain ⟨⟨oI, -, sc111⟩, eJ111, eR111, hf111⟩ := hp
          obtain rfl : J = J111 := eJ111.symm
          obtain rfl : R = R111 := eR111.symm
          replace hv := fnC hv hf111
          have sm : Sm C ms_X11_findWay (I, J, R) (I111, J, R) := sm.tr sc111 rfl
          refine lv_istore (lv' := [(5, .int y111), (0, .ref a0), (1, .int x1), (2, .int x2), (3, .int x3_2), (4, .int x4_11)]) hx hb dX11_findWay_28 hl (by decide) rfl (fun ls hl => ?_)
          refine lv_aload_n hx hb dX11_findWay_30 rfl (lv_at hl 1 rfl) ?_
          obtain ⟨b112, mb112, vb112, kb112⟩ := rf_11_46 oR m0 k0
          replace hv := fnR hv vb112
          refine gf_11_46 vb112 hx hb hts hown hH m0 k0 rfl kf_X11_105 dX11_findWay_31 ?_
          refine lv_bipush (v := 10) hx hb dX11_findWay_34 (by decide) ?_
          refine lv_iload_n hx hb dX11_findWay_36 rfl (lv_at hl 4 rfl) ?_
          refine lv_imul hx hb dX11_findWay_37 ?_
          refine lv_topi (fun y113 ey113 => ?_)
          replace hv := fnS hv ey113
          obtain ⟨ty113, ry113⟩ := Rg_mulx (a' := (0)) (b' := (90)) (by decide : Int32.toInt 10 = 10) (rfl : x3_2.toInt = _) (Rg_c (x := 10) (a := (10)) (b := (10)) (by decide)) r3_11 (by decide)
          rw [← ey113] at ty113 ry113
          refine lv_iload hx hb dX11_findWay_38 (lv_at hl 5 rfl) ?_
          refine lv_iadd hx hb dX11_findWay_40 ?_
          refine lv_topi (fun y114 ey114 => ?_)
          replace hv := fnS hv ey114
          obtain ⟨ty114, ry114⟩ := Rg_addx (a' := (0)) (b' := (99)) (rfl : y113.toInt = _) (rfl : x4_11.toInt = _) ry113 r109 (by decide)
          rw [← ey114] at ty114 ry114
          refine lv_iload hx hb dX11_findWay_41 (lv_at hl 0 rfl) ?_
          refine lv_ldc (v := 1000000) hx hb hown (hts _ kk_X11_180) dX11_findWay_43 ?_
          refine lv_icmp_ge (tgt := 53) hx hb dX11_findWay_45 (by decide) (fun q115 => ?_) (fun q115 => ?_)
          · replace hv := fnP hv q115
            have r116 : Rg y111 (1000000) (2147483647) := Rg_lle (Rg_any y111) (Rg_le q115) (Rg_c (x := 1000000) (a := (1000000)) (b := (1000000)) (by decide)) (by decide)
            refine lv_ldc (v := 1000000) hx hb hown (hts _ kk_X11_180) dX11_findWay_53 ?_
            exact L_55 I111 _ _ _ 1000000 y114 b112 hH hv oI sm (Rg_w (Rg_c (x := 1000000) (a := (1000000)) (b := (1000000)) (by decide)) (by decide)) ry114 mb112 kb112 r1_11 r2_11 r3_11 r109 (lv_sub hl [1, 2, 3, 4, 5] rfl)
          replace hv := fnN hv q115
          have r117 : Rg y111 (-2147483648) (999999) := Rg_ult (Rg_any y111) (Rg_nle q115) (Rg_c (x := 1000000) (a := (1000000)) (b := (1000000)) (by decide)) (by decide)
          refine lv_iload hx hb dX11_findWay_48 (lv_at hl 0 rfl) ?_
          refine lv_goto (tgt := 55) hx hb dX11_findWay_50 (by decide) ?_
          exact L_55 I111 _ _ _ y111 y114 b112 hH hv oI sm (Rg_w r117 (by decide)) ry114 mb112 kb112 r1_11 r2_11 r3_11 r109 (lv_sub hl [1, 2, 3, 4, 5] rfl)
      refine lv_iload_n hx hb dX11_findWay_2 rfl (lv_at hl 3 rfl) ?_
      refine lv_bipush (v := 10) hx hb dX11_findWay_3 (by decide) ?_
      refine lv_icmp_ge (tgt := 68) hx hb dX11_findWay_5 (by decide) (fun q118 => ?_) (fun q118 => ?_)
      · replace hv := fnP hv q118
        have r119 : Rg x3_2 (10) (10) := Rg_lle r3_2 (Rg_le q118) (Rg_c (x := 10) (a := (10)) (b := (10)) (by decide)) (by decide)
        refine lv_iconst (v := 0) hx hb dX11_findWay_68 (by decide) ?_
        refine lv_istore_n (lv' := [(3, .int 0), (0, .ref a0), (1, .int x1), (2, .int x2)]) hx hb dX11_findWay_69 rfl hl (by decide) rfl (fun ls hl => ?_)
        exact L_70 ((100 - (0 : Int32).toInt).toNat + 1) I_2 _ _ _ 0 (Nat.lt_succ_self _) hH hv oI sm r1_2 r2_2 (Rg_w (Rg_c (x := 0) (a := (0)) (b := (0)) (by decide)) (by decide)) (lv_sub hl [1, 2, 3, 0] rfl)
      replace hv := fnN hv q118
      have r120 : Rg x3_2 (0) (9) := Rg_ult r3_2 (Rg_nle q118) (Rg_c (x := 10) (a := (10)) (b := (10)) (by decide)) (by decide)
      refine lv_iconst (v := 0) hx hb dX11_findWay_8 (by decide) ?_
      refine lv_istore (lv' := [(4, .int 0), (0, .ref a0), (1, .int x1), (2, .int x2), (3, .int x3_2)]) hx hb dX11_findWay_9 hl (by decide) rfl (fun ls hl => ?_)
      exact L_11 ((10 - (0 : Int32).toInt).toNat + 1) I_2 _ _ _ 0 (Nat.lt_succ_self _) hH hv oI sm r1_2 r2_2 r120 (Rg_w (Rg_c (x := 0) (a := (0)) (b := (0)) (by decide)) (by decide)) (lv_sub hl [1, 2, 3, 4, 0] rfl)
  exact L_2 ((10 - (0 : Int32).toInt).toNat + 1) I _ _ _ 0 (Nat.lt_succ_self _) hH hv oI sm h1 h2 (Rg_w (Rg_c (x := 0) (a := (0)) (b := (0)) (by decide)) (by decide)) (lv_sub hl [1, 2, 3, 0] rfl)
noncomputable def F_X11_way_100 (a0 : Nat) (x1 : Int32) (x2 : Int32) (x3 : Int32) (I_100 : hI) (J : hJ) (R : hR) (xs0_100 : Int32) : Int32 × hU :=
  (xs0_100, (I_100, J, R))
noncomputable def F_X11_way_33 (a0 : Nat) (x1 : Int32) (x2 : Int32) (x3 : Int32) (I_33 : hI) (J : hJ) (R : hR) : Int32 × hU :=
  ((-3 : Int32), (I_33, J, R))
noncomputable def F_X11_way (a0 : Nat) (x1 : Int32) (x2 : Int32) (x3 : Int32) (I : hI) (J : hJ) (R : hR) : Int32 × hU :=
  nm (u2 I a0 0 (0 : Int32)) fun I1 => nm (F_X11_in (x1.toInt64) (0 : Int64) (9 : Int64)) fun y3 => (if y3 = (1 : Int32) then nm (F_X11_in (x2.toInt64) (0 : Int64) (9 : Int64)) fun y9 => (if y9 = (1 : Int32) then (if (0 : Int32) ≤ x3 then nmW (F_X11_measure a0 I1 J R) fun I17 _ _ => nmU (F_X11_findWay a0 x1 x2 I17 J R) fun y18 I18 _ _ => nm (I18 a0 47) fun y19 => (if y18 < (1000000 : Int32) then (if x3 = (0 : Int32) then F_X11_way_100 a0 x1 x2 x3 I18 J R y18 else (if x3 = (1 : Int32) then F_X11_way_100 a0 x1 x2 x3 I18 J R y19 else nm (x3 - (2 : Int32)) fun y26 => (if y19 ≤ y26 then F_X11_way_100 a0 x1 x2 x3 I18 J R (-1 : Int32) else nm ((R a0 48).getD 0) fun b33 => nm (I18 b33 (Int32.toNatClampNeg y26)) fun y35 => F_X11_way_100 a0 x1 x2 x3 I18 J R y35))) else ((-1 : Int32), (I18, J, R))) else F_X11_way_33 a0 x1 x2 x3 I1 J R) else F_X11_way_33 a0 x1 x2 x3 I1 J R) else F_X11_way_33 a0 x1 x2 x3 I1 J R)
def ms_X11_way : List Nat := [704, 744, 745, 746, 751, 5440, 5504, 5568, 5632, 5696, 5760, 5824, 5888, 5952, 6016, 6080, 6144]
set_option maxHeartbeats 4000000 in
set_option maxRecDepth 100000 in
theorem c_X11_way {l : Launch} {D : va_G} {cy : Nat → ClassId} {L : List Nat} {C : Nat → Nat} {b0 : Nat} {I : hI} {J : hJ} {R : hR} {a0 : Nat} {x1 : Int32} {x2 : Int32} {x3 : Int32} (oI : OkI L C I) (oR : OkR L C R) (m0 : a0 ∈ L) (k0 : C a0 = 11) : CI l yX11_way cX11_way 5 .int 5 D cy L C b0 [.ref a0, .int x1, .int x2, .int x3] (I, J, R) (fun r v => Ps L C ms_X11_way (I, J, R) v ∧ v.2.1 = J ∧ v.2.2 = R ∧ Rg r (-2147483648) (999999) ∧ F_X11_way a0 x1 x2 x3 I J R = (r, v)) := by
  refine CI.mkI (plainFor_of_name (by decide)) (Nat.le_of_ble_eq_true rfl) ?_
  intro p e s m args below meth c ls Q hF ret hH hl
  obtain ⟨hx, hb, -, hml, hown, hts, -⟩ := hF
  have hl : lv_has ls 5 [(0, .ref a0), (1, .int x1), (2, .int x2), (3, .int x3)] := hl
  have hH : Hp D cy L C b0 s s.heap I J R s.heap [] := hH
  have sm : Sm C ms_X11_way (I, J, R) (I, J, R) := Sm.rf
  obtain ⟨TT0, hT⟩ : ∃ TT0, TT0 = F_X11_way a0 x1 x2 x3 I J R := ⟨_, rfl⟩
  have hv := hT
  unfold F_X11_way at hv
  refine lv_aload_n hx hb dX11_way_0 rfl (lv_at hl 0 rfl) ?_
  refine lv_iconst (v := 0) hx hb dX11_way_1 (by decide) ?_
  refine pf_11_0 hx hb hts hown hH m0 k0 rfl kf_X11_131 dX11_way_2 (fun I1 H locs eI1 hH => ?_)
  replace hv := fnS hv eI1
  have oI : OkI L C I1 := by rw [eI1]; exact wf_11_0 oI k0 (Rg_w (Rg_c (x := 0) (a := (0)) (b := (0)) (by decide)) (by decide))
  have sm : Sm C ms_X11_way (I, J, R) (I1, J, R) := by rw [eI1]; exact sm.stI k0 (mC_obj (by decide) rfl)
  have f2 : 0 = I1 a0 0 := by rw [eI1, u2_at]
  refine lv_iload_n hx hb dX11_way_5 rfl (lv_at hl 1 rfl) ?_
  refine lv_i2l (v := x1.toInt64) hx hb dX11_way_6 rfl ?_
  refine lv_lconst (v := 0) hx hb dX11_way_7 (by decide) ?_
  refine lv_ldc2 (v := 9) hx hb hown (hts _ kkl_X11_221) dX11_way_8 ?_
  have L_100 : ∀ (I_100 : hI) (H : Heap) (locs : List Loc) (ls : Array Slot) (xs0_100 : Int32), Hp D cy L C b0 s s.heap I_100 J R H locs → TT0 = F_X11_way_100 a0 x1 x2 x3 I_100 J R xs0_100 → OkI L C I_100 → Sm C ms_X11_way (I, J, R) (I_100, J, R) → Rg xs0_100 (-2147483648) (999999) → lv_has ls 5 [] → W p l e (rmD 5) s m args below meth c H locs 0 0 Q (F0 m 100 ls [.int xs0_100]) := by
    intro I_100 H locs ls xs0_100 hH hv oI sm rs0_100 hl
    unfold F_X11_way_100 at hv
    exact ret (xs0_100) _ _ _ _ _ _ _ dX11_way_100 hH ⟨⟨oI, oR, sm⟩, rfl, rfl, rs0_100, (hT.symm.trans hv)⟩
  have L_33 : ∀ (I_33 : hI) (H : Heap) (locs : List Loc) (ls : Array Slot), Hp D cy L C b0 s s.heap I_33 J R H locs → TT0 = F_X11_way_33 a0 x1 x2 x3 I_33 J R → OkI L C I_33 → Sm C ms_X11_way (I, J, R) (I_33, J, R) → lv_has ls 5 [] → W p l e (rmD 5) s m args below meth c H locs 0 0 Q (F0 m 33 ls []) := by
    intro I_33 H locs ls hH hv oI sm hl
    unfold F_X11_way_33 at hv
    refine lv_bipush (v := (-3)) hx hb dX11_way_33 (by decide) ?_
    exact ret ((-3)) _ _ _ _ _ _ _ dX11_way_35 hH ⟨⟨oI, oR, sm⟩, rfl, rfl, (Rg_w (Rg_c (x := (-3)) (a := (-3)) (b := (-3)) (by decide)) (by decide)), (hT.symm.trans hv)⟩
  refine ca_X11_138 hx hb hml hown hts hH (c_X11_in ) hl.1 (by decide) (Nat.le_of_ble_eq_true rfl) ⟨Nat.zero_le _, Nat.zero_le _⟩ dX11_way_11 (fun y3 I3 J3 R3 H locs hp hH => ?_)
  obtain ⟨eI3, eJ3, eR3, ry3, hp3, hf3⟩ := hp
  obtain rfl : I1 = I3 := eI3.symm
  obtain rfl : J = J3 := eJ3.symm
  obtain rfl : R = R3 := eR3.symm
  replace hv := fnS hv hf3.symm
  rcases hp3 with ⟨rfl, hq3⟩ | ⟨rfl, hq3⟩
  rotate_left
  · replace hv := fnN hv (by decide)
    refine lv_if_eq (tgt := 33) hx hb dX11_way_14 (by decide) (fun q42 => ?_) (fun q42 => ?_)
    · exact L_33 I1 _ _ _ hH hv oI sm (lv_sub hl [] rfl)
    exact absurd rfl q42
  replace hv := fnP hv rfl
  have l4 : Int32.toInt 0 ≤ x1.toInt := in_cl hq3.1 (by decide)
  have r5 : Rg x1 (0) (2147483647) := Rg_lle (Rg_any x1) l4 (Rg_c (x := 0) (a := (0)) (b := (0)) (by decide)) (by decide)
  have l6 : x1.toInt ≤ Int32.toInt 9 := in_lc hq3.2 (by decide)
  have r7 : Rg x1 (0) (9) := Rg_ule r5 l6 (Rg_c (x := 9) (a := (9)) (b := (9)) (by decide)) (by decide)
  refine lv_if_eq (tgt := 33) hx hb dX11_way_14 (by decide) (fun q8 => ?_) (fun q8 => ?_)
  · exact absurd q8 (by decide)
  refine lv_iload_n hx hb dX11_way_17 rfl (lv_at hl 2 rfl) ?_
  refine lv_i2l (v := x2.toInt64) hx hb dX11_way_18 rfl ?_
  refine lv_lconst (v := 0) hx hb dX11_way_19 (by decide) ?_
  refine lv_ldc2 (v := 9) hx hb hown (hts _ kkl_X11_221) dX11_way_20 ?_
  refine ca_X11_138 hx hb hml hown hts hH (c_X11_in ) hl.1 (by decide) (Nat.le_of_ble_eq_true rfl) ⟨Nat.zero_le _, Nat.zero_le _⟩ dX11_way_23 (fun y9 I9 J9 R9 H locs hp hH => ?_)
  obtain ⟨eI9, eJ9, eR9, ry9, hp9, hf9⟩ := hp
  obtain rfl : I1 = I9 := eI9.symm
  obtain rfl : J = J9 := eJ9.symm
  obtain rfl : R = R9 := eR9.symm
  replace hv := fnS hv hf9.symm
  rcases hp9 with ⟨rfl, hq9⟩ | ⟨rfl, hq9⟩
  rotate_left
  · replace hv := fnN hv (by decide)
    refine lv_if_eq (tgt := 33) hx hb dX11_way_26 (by decide) (fun q41 => ?_) (fun q41 => ?_)
    · exact L_33 I1 _ _ _ hH hv oI sm (lv_sub hl [] rfl)
    exact absurd rfl q41
  replace hv := fnP hv rfl
  have l10 : Int32.toInt 0 ≤ x2.toInt := in_cl hq9.1 (by decide)
  have r11 : Rg x2 (0) (2147483647) := Rg_lle (Rg_any x2) l10 (Rg_c (x := 0) (a := (0)) (b := (0)) (by decide)) (by decide)
  have l12 : x2.toInt ≤ Int32.toInt 9 := in_lc hq9.2 (by decide)
  have r13 : Rg x2 (0) (9) := Rg_ule r11 l12 (Rg_c (x := 9) (a := (9)) (b := (9)) (by decide)) (by decide)
  refine lv_if_eq (tgt := 33) hx hb dX11_way_26 (by decide) (fun q14 => ?_) (fun q14 => ?_)
  · exact absurd q14 (by decide)
  refine lv_iload_n hx hb dX11_way_29 rfl (lv_at hl 3 rfl) ?_
  refine lv_if_ge (tgt := 36) hx hb dX11_way_30 (by decide) (fun q15 => ?_) (fun q15 => ?_)
  rotate_left
  · replace hv := fnN hv q15
    have r40 : Rg x3 (-2147483648) (-1) := Rg_ult (Rg_any x3) (Rg_nle q15) (Rg_c (x := 0) (a := (0)) (b := (0)) (by decide)) (by decide)
    exact L_33 I1 _ _ _ hH hv oI sm (lv_sub hl [] rfl)
  replace hv := fnP hv q15
  have r16 : Rg x3 (0) (2147483647) := Rg_lle (Rg_any x3) (Rg_le q15) (Rg_c (x := 0) (a := (0)) (b := (0)) (by decide)) (by decide)
  refine lv_aload_n hx hb dX11_way_36 rfl (lv_at hl 0 rfl) ?_
  refine ca_X11_189 hx hb hml hown hts hH (c_X11_measure oI oR m0 k0) hl.1 m0 k0 rfl (by decide) (Nat.le_of_ble_eq_true rfl) ⟨Nat.zero_le _, Nat.zero_le _⟩ dX11_way_37 (fun I17 J17 R17 H locs hp hH => ?_)
  obtain ⟨⟨oI, -, sc17⟩, eJ17, eR17, hf17⟩ := hp
  obtain rfl : J = J17 := eJ17.symm
  obtain rfl : R = R17 := eR17.symm
  replace hv := fnW hv hf17
  have sm : Sm C ms_X11_way (I, J, R) (I17, J, R) := sm.tr sc17 rfl
  refine lv_aload_n hx hb dX11_way_40 rfl (lv_at hl 0 rfl) ?_
  refine lv_iload_n hx hb dX11_way_41 rfl (lv_at hl 1 rfl) ?_
  refine lv_iload_n hx hb dX11_way_42 rfl (lv_at hl 2 rfl) ?_
  refine ca_X11_279 hx hb hml hown hts hH (c_X11_findWay oI oR m0 k0 r7 r13) hl.1 m0 k0 rfl (by decide) (Nat.le_of_ble_eq_true rfl) ⟨Nat.zero_le _, Nat.zero_le _⟩ dX11_way_43 (fun y18 I18 J18 R18 H locs hp hH => ?_)
  obtain ⟨⟨oI, -, sc18⟩, eJ18, eR18, pm18_47, hf18⟩ := hp
  obtain rfl : J = J18 := eJ18.symm
  obtain rfl : R = R18 := eR18.symm
  replace hv := fnC hv hf18
  have sm : Sm C ms_X11_way (I, J, R) (I18, J, R) := sm.tr sc18 rfl
  obtain ⟨y19, ey19⟩ : ∃ y : Int32, y = I18 a0 47 := ⟨_, rfl⟩
  have ry19 : Rg y19 (1) (10) := by rw [ey19]; exact pm18_47
  replace hv := fnS hv ey19
  refine lv_istore (lv' := [(4, .int y18), (0, .ref a0), (1, .int x1), (2, .int x2), (3, .int x3)]) hx hb dX11_way_46 hl (by decide) rfl (fun ls hl => ?_)
  refine lv_iload hx hb dX11_way_48 (lv_at hl 0 rfl) ?_
  refine lv_ldc (v := 1000000) hx hb hown (hts _ kk_X11_180) dX11_way_50 ?_
  refine lv_icmp_lt (tgt := 57) hx hb dX11_way_52 (by decide) (fun q20 => ?_) (fun q20 => ?_)
  rotate_left
  · replace hv := fnN hv q20
    have r39 : Rg y18 (1000000) (2147483647) := Rg_lle (Rg_any y18) (Rg_nlt q20) (Rg_c (x := 1000000) (a := (1000000)) (b := (1000000)) (by decide)) (by decide)
    refine lv_iconst (v := (-1)) hx hb dX11_way_55 (by decide) ?_
    exact ret ((-1)) _ _ _ _ _ _ _ dX11_way_56 hH ⟨⟨oI, oR, sm⟩, rfl, rfl, (Rg_w (Rg_c (x := (-1)) (a := (-1)) (b := (-1)) (by decide)) (by decide)), (hT.symm.trans hv)⟩
  replace hv := fnP hv q20
  have r21 : Rg y18 (-2147483648) (999999) := Rg_ult (Rg_any y18) (Rg_lt q20) (Rg_c (x := 1000000) (a := (1000000)) (b := (1000000)) (by decide)) (by decide)
  refine lv_iload_n hx hb dX11_way_57 rfl (lv_at hl 4 rfl) ?_
  refine lv_if_ne (tgt := 66) hx hb dX11_way_58 (by decide) (fun q22 => ?_) (fun q22 => ?_)
  rotate_left
  · replace hv := fnP hv q22
    have r38 : Rg x3 (0) (0) := Rg_both r16 (Rg_eqv q22 (Rg_c (x := 0) (a := (0)) (b := (0)) (by decide))) (by decide)
    refine lv_iload hx hb dX11_way_61 (lv_at hl 0 rfl) ?_
    refine lv_goto (tgt := 100) hx hb dX11_way_63 (by decide) ?_
    exact L_100 I18 _ _ _ y18 hH hv oI sm r21 (lv_sub hl [] rfl)
  replace hv := fnN hv q22
  have r23 : Rg x3 (1) (2147483647) := Rg_nelo r16 (Rg_ne q22) (Rg_c (x := 0) (a := (0)) (b := (0)) (by decide)) (by decide)
  refine lv_iload_n hx hb dX11_way_66 rfl (lv_at hl 4 rfl) ?_
  refine lv_iconst (v := 1) hx hb dX11_way_67 (by decide) ?_
  refine lv_icmp_ne (tgt := 78) hx hb dX11_way_68 (by decide) (fun q24 => ?_) (fun q24 => ?_)
  rotate_left
  · replace hv := fnP hv q24
    have r36 : Rg x3 (1) (1) := Rg_both r23 (Rg_eqv q24 (Rg_c (x := 1) (a := (1)) (b := (1)) (by decide))) (by decide)
    refine lv_aload_n hx hb dX11_way_71 rfl (lv_at hl 1 rfl) ?_
    refine gf_11_47 hx hb hts hown hH m0 k0 rfl kf_X11_276 dX11_way_72 ?_
    refine lv_topi (fun y37 ey37 => ?_)
    obtain rfl : y19 = y37 := ey19.trans ey37.symm
    refine lv_goto (tgt := 100) hx hb dX11_way_75 (by decide) ?_
    exact L_100 I18 _ _ _ y19 hH hv oI sm (Rg_w ry19 (by decide)) (lv_sub hl [] rfl)
  replace hv := fnN hv q24
  have r25 : Rg x3 (2) (2147483647) := Rg_nelo r23 (Rg_ne q24) (Rg_c (x := 1) (a := (1)) (b := (1)) (by decide)) (by decide)
  refine lv_iload_n hx hb dX11_way_78 rfl (lv_at hl 4 rfl) ?_
  refine lv_iconst (v := 2) hx hb dX11_way_79 (by decide) ?_
  refine lv_isub hx hb dX11_way_80 ?_
  refine lv_topi (fun y26 ey26 => ?_)
  replace hv := fnS hv ey26
  obtain ⟨ty26, ry26⟩ := Rg_subx (a' := (0)) (b' := (2147483645)) (rfl : x3.toInt = _) (by decide : Int32.toInt 2 = 2) r25 (Rg_c (x := 2) (a := (2)) (b := (2)) (by decide)) (by decide)
  rw [← ey26] at ty26 ry26
  refine lv_aload_n hx hb dX11_way_81 rfl (lv_at hl 1 rfl) ?_
  refine gf_11_47 hx hb hts hown hH m0 k0 rfl kf_X11_276 dX11_way_82 ?_
  refine lv_topi (fun y27 ey27 => ?_)
  obtain rfl : y19 = y27 := ey19.trans ey27.symm
  refine lv_icmp_ge (tgt := 99) hx hb dX11_way_85 (by decide) (fun q28 => ?_) (fun q28 => ?_)
  · replace hv := fnP hv q28
    have r29 : Rg y26 (1) (2147483645) := Rg_lle ry26 (Rg_le q28) ry19 (by decide)
    have r30 : Rg x3 (3) (2147483647) := by have a1 := r29.1; have a2 := r29.2; have a3 := r25.1; have a4 := r25.2; exact ⟨by omega, by omega⟩
    refine lv_iconst (v := (-1)) hx hb dX11_way_99 (by decide) ?_
    exact L_100 I18 _ _ _ (-1) hH hv oI sm (Rg_w (Rg_c (x := (-1)) (a := (-1)) (b := (-1)) (by decide)) (by decide)) (lv_sub hl [] rfl)
  replace hv := fnN hv q28
  have r31 : Rg y26 (0) (9) := Rg_ult ry26 (Rg_nle q28) ry19 (by decide)
  have r32 : Rg x3 (2) (11) := by have a1 := r31.1; have a2 := r31.2; have a3 := r25.1; have a4 := r25.2; exact ⟨by omega, by omega⟩
  refine lv_aload_n hx hb dX11_way_88 rfl (lv_at hl 1 rfl) ?_
  obtain ⟨b33, mb33, vb33, kb33⟩ := rf_11_48 oR m0 k0
  replace hv := fnR hv vb33
  refine gf_11_48 vb33 hx hb hts hown hH m0 k0 rfl kf_X11_108 dX11_way_89 ?_
  refine lv_iload_n hx hb dX11_way_92 rfl (lv_at hl 4 rfl) ?_
  refine lv_iconst (v := 2) hx hb dX11_way_93 (by decide) ?_
  refine lv_isub hx hb dX11_way_94 ?_
  refine lv_topi (fun y34 ey34 => ?_)
  obtain rfl : y26 = y34 := ey26.trans ey34.symm
  refine ld_96 hx hb hH mb33 kb33 (Rg_in r31 (by decide)) dX11_way_95 ?_
  refine lv_topi (fun y35 ey35 => ?_)
  have ry35 : Rg y35 (0) (9) := by rw [ey35]; exact rd_96 oI mb33 kb33 (Rg_in r31 (by decide))
  replace hv := fnS hv ey35
  refine lv_goto (tgt := 100) hx hb dX11_way_96 (by decide) ?_
  exact L_100 I18 _ _ _ y35 hH hv oI sm (Rg_w ry35 (by decide)) (lv_sub hl [] rfl)
noncomputable def F_X11_object (a0 : Nat) (x1 : Int32) (I : hI) (J : hJ) (R : hR) : Int32 × hU :=
  nm (u2 I a0 0 (0 : Int32)) fun I1 => nm (F_X11_in (x1.toInt64) (0 : Int64) (9 : Int64)) fun y3 => (if y3 = (1 : Int32) then nm (I1 a0 21) fun y9 => (if y9 = (20 : Int32) then ((-5 : Int32), (I1, J, R)) else nm ((R a0 22).getD 0) fun b14 => nm (u2 I1 b14 (Int32.toNatClampNeg y9) x1) fun I16 => nm (y9 + (1 : Int32)) fun y20 => nm (u2 I16 a0 21 y20) fun I21 => nm (y20 - (1 : Int32)) fun y24 => (y24, (I21, J, R))) else ((-3 : Int32), (I1, J, R)))
def ms_X11_object : List Nat := [704, 725, 5248]
set_option maxHeartbeats 4000000 in
set_option maxRecDepth 100000 in
theorem c_X11_object {l : Launch} {D : va_G} {cy : Nat → ClassId} {L : List Nat} {C : Nat → Nat} {b0 : Nat} {I : hI} {J : hJ} {R : hR} {a0 : Nat} {x1 : Int32} (oI : OkI L C I) (oR : OkR L C R) (m0 : a0 ∈ L) (k0 : C a0 = 11) : CI l yX11_object cX11_object 2 .int 1 D cy L C b0 [.ref a0, .int x1] (I, J, R) (fun r v => Ps L C ms_X11_object (I, J, R) v ∧ v.2.1 = J ∧ v.2.2 = R ∧ Rg r (-5) (19) ∧ (r = (objF (I a0 21) x1).1 ∧ v.1 a0 21 = (objF (I a0 21) x1).2) ∧ F_X11_object a0 x1 I J R = (r, v)) := by
  refine CI.mkI (plainFor_of_name (by decide)) (Nat.le_of_ble_eq_true rfl) ?_
  intro p e s m args below meth c ls Q hF ret hH hl
  obtain ⟨hx, hb, -, hml, hown, hts, -⟩ := hF
  have hl : lv_has ls 2 [(0, .ref a0), (1, .int x1)] := hl
  have hH : Hp D cy L C b0 s s.heap I J R s.heap [] := hH
  have sm : Sm C ms_X11_object (I, J, R) (I, J, R) := Sm.rf
  obtain ⟨TT0, hT⟩ : ∃ TT0, TT0 = F_X11_object a0 x1 I J R := ⟨_, rfl⟩
  have hv := hT
  unfold F_X11_object at hv
  refine lv_aload_n hx hb dX11_object_0 rfl (lv_at hl 0 rfl) ?_
  refine lv_iconst (v := 0) hx hb dX11_object_1 (by decide) ?_
  refine pf_11_0 hx hb hts hown hH m0 k0 rfl kf_X11_131 dX11_object_2 (fun I1 H locs eI1 hH => ?_)
  replace hv := fnS hv eI1
  have oI : OkI L C I1 := by rw [eI1]; exact wf_11_0 oI k0 (Rg_w (Rg_c (x := 0) (a := (0)) (b := (0)) (by decide)) (by decide))
  have sm : Sm C ms_X11_object (I, J, R) (I1, J, R) := by rw [eI1]; exact sm.stI k0 (mC_obj (by decide) rfl)
  have f2 : 0 = I1 a0 0 := by rw [eI1, u2_at]
  refine lv_iload_n hx hb dX11_object_5 rfl (lv_at hl 1 rfl) ?_
  refine lv_i2l (v := x1.toInt64) hx hb dX11_object_6 rfl ?_
  refine lv_lconst (v := 0) hx hb dX11_object_7 (by decide) ?_
  refine lv_ldc2 (v := 9) hx hb hown (hts _ kkl_X11_221) dX11_object_8 ?_
  refine ca_X11_138 hx hb hml hown hts hH (c_X11_in ) hl.1 (by decide) (Nat.le_of_ble_eq_true rfl) ⟨Nat.zero_le _, Nat.zero_le _⟩ dX11_object_11 (fun y3 I3 J3 R3 H locs hp hH => ?_)
  obtain ⟨eI3, eJ3, eR3, ry3, hp3, hf3⟩ := hp
  obtain rfl : I1 = I3 := eI3.symm
  obtain rfl : J = J3 := eJ3.symm
  obtain rfl : R = R3 := eR3.symm
  replace hv := fnS hv hf3.symm
  rcases hp3 with ⟨rfl, hq3⟩ | ⟨rfl, hq3⟩
  rotate_left
  · replace hv := fnN hv (by decide)
    refine lv_if_ne (tgt := 20) hx hb dX11_object_14 (by decide) (fun q27 => ?_) (fun q27 => ?_)
    · exact absurd rfl q27
    refine lv_bipush (v := (-3)) hx hb dX11_object_17 (by decide) ?_
    exact ret ((-3)) _ _ _ _ _ _ _ dX11_object_19 hH ⟨⟨oI, oR, sm⟩, rfl, rfl, (Rg_w (Rg_c (x := (-3)) (a := (-3)) (b := (-3)) (by decide)) (by decide)), (by show _ ∧ I1 a0 21 = _; have h8 : I1 a0 21 = I a0 21 := (by rw [eI1, u2_nk (by decide)]); rw [h8, objF_out (by have h9 := hq3; rw [Int32.toInt_toInt64, show Int64.toInt 0 = 0 by decide, show Int64.toInt 9 = 9 by decide] at h9; exact h9)]; exact ⟨rfl, rfl⟩), (hT.symm.trans hv)⟩
  replace hv := fnP hv rfl
  have l4 : Int32.toInt 0 ≤ x1.toInt := in_cl hq3.1 (by decide)
  have r5 : Rg x1 (0) (2147483647) := Rg_lle (Rg_any x1) l4 (Rg_c (x := 0) (a := (0)) (b := (0)) (by decide)) (by decide)
  have l6 : x1.toInt ≤ Int32.toInt 9 := in_lc hq3.2 (by decide)
  have r7 : Rg x1 (0) (9) := Rg_ule r5 l6 (Rg_c (x := 9) (a := (9)) (b := (9)) (by decide)) (by decide)
  refine lv_if_ne (tgt := 20) hx hb dX11_object_14 (by decide) (fun q8 => ?_) (fun q8 => ?_)
  rotate_left
  · exact absurd q8 (by decide)
  refine lv_aload_n hx hb dX11_object_20 rfl (lv_at hl 0 rfl) ?_
  refine gf_11_21 hx hb hts hown hH m0 k0 rfl kf_X11_282 dX11_object_21 ?_
  refine lv_topi (fun y9 ey9 => ?_)
  have ry9 : Rg y9 (0) (20) := by rw [ey9]; exact rf_11_21 oI m0 k0
  replace hv := fnS hv ey9
  refine lv_bipush (v := 20) hx hb dX11_object_24 (by decide) ?_
  refine lv_icmp_ne (tgt := 32) hx hb dX11_object_26 (by decide) (fun q10 => ?_) (fun q10 => ?_)
  rotate_left
  · replace hv := fnP hv q10
    have l25 := congrArg Int32.toInt q10
    have r26 : Rg y9 (20) (20) := Rg_both ry9 (Rg_eqv q10 (Rg_c (x := 20) (a := (20)) (b := (20)) (by decide))) (by decide)
    refine lv_bipush (v := (-5)) hx hb dX11_object_29 (by decide) ?_
    exact ret ((-5)) _ _ _ _ _ _ _ dX11_object_31 hH ⟨⟨oI, oR, sm⟩, rfl, rfl, (Rg_w (Rg_c (x := (-5)) (a := (-5)) (b := (-5)) (by decide)) (by decide)), (by show _ ∧ I1 a0 21 = _; have h8 : I1 a0 21 = I a0 21 := (by rw [eI1, u2_nk (by decide)]); rw [h8, objF_full r7 (by rw [← h8, ← ey9]; have a1 := r26.1; omega)]; exact ⟨rfl, rfl⟩), (hT.symm.trans hv)⟩
  replace hv := fnN hv q10
  have l11 := Rg_ne q10
  have r12 : Rg y9 (0) (19) := Rg_nehi ry9 (Rg_ne q10) (Rg_c (x := 20) (a := (20)) (b := (20)) (by decide)) (by decide)
  have o13 : I a0 21 = y9 := by rw [ey9, eI1, u2_nk (by decide)]
  refine lv_aload_n hx hb dX11_object_32 rfl (lv_at hl 0 rfl) ?_
  obtain ⟨b14, mb14, vb14, kb14⟩ := rf_11_22 oR m0 k0
  replace hv := fnR hv vb14
  refine gf_11_22 vb14 hx hb hts hown hH m0 k0 rfl kf_X11_66 dX11_object_33 ?_
  refine lv_aload_n hx hb dX11_object_36 rfl (lv_at hl 0 rfl) ?_
  refine gf_11_21 hx hb hts hown hH m0 k0 rfl kf_X11_282 dX11_object_37 ?_
  refine lv_topi (fun y15 ey15 => ?_)
  obtain rfl : y9 = y15 := ey9.trans ey15.symm
  refine lv_iload_n hx hb dX11_object_40 rfl (lv_at hl 1 rfl) ?_
  refine st_82 hx hb hH mb14 kb14 (Rg_in r12 (by decide)) dX11_object_41 (fun I16 H locs eI16 hH => ?_)
  replace hv := fnS hv eI16
  have oI : OkI L C I16 := by rw [eI16]; exact wr_82 oI kb14 r7
  have sm : Sm C ms_X11_object (I, J, R) (I16, J, R) := by rw [eI16]; exact sm.stI kb14 (mC_arr (by decide) rfl)
  refine lv_aload_n hx hb dX11_object_42 rfl (lv_at hl 0 rfl) ?_
  refine lv_dup hx hb dX11_object_43 rfl ?_
  have f18 : I16 a0 (21) = I1 a0 (21) := (by rw [eI16, u2_ne (ne_role k0 kb14 (by decide))])
  have f17 : y9 = I16 a0 (21) := ey9.trans f18.symm
  refine gf_11_21 hx hb hts hown hH m0 k0 rfl kf_X11_282 dX11_object_44 ?_
  refine lv_topi (fun y19 ey19 => ?_)
  obtain rfl : y9 = y19 := f17.trans ey19.symm
  refine lv_iconst (v := 1) hx hb dX11_object_47 (by decide) ?_
  refine lv_iadd hx hb dX11_object_48 ?_
  refine lv_topi (fun y20 ey20 => ?_)
  replace hv := fnS hv ey20
  obtain ⟨ty20, ry20⟩ := Rg_addx (a' := (1)) (b' := (20)) (rfl : y9.toInt = _) (by decide : Int32.toInt 1 = 1) r12 (Rg_c (x := 1) (a := (1)) (b := (1)) (by decide)) (by decide)
  rw [← ey20] at ty20 ry20
  refine pf_11_21 hx hb hts hown hH m0 k0 rfl kf_X11_282 dX11_object_49 (fun I21 H locs eI21 hH => ?_)
  replace hv := fnS hv eI21
  have oI : OkI L C I21 := by rw [eI21]; exact wf_11_21 oI k0 (Rg_w ry20 (by decide))
  have sm : Sm C ms_X11_object (I, J, R) (I21, J, R) := by rw [eI21]; exact sm.stI k0 (mC_obj (by decide) rfl)
  have f22 : y20 = I21 a0 21 := by rw [eI21, u2_at]
  refine lv_aload_n hx hb dX11_object_52 rfl (lv_at hl 0 rfl) ?_
  refine gf_11_21 hx hb hts hown hH m0 k0 rfl kf_X11_282 dX11_object_53 ?_
  refine lv_topi (fun y23 ey23 => ?_)
  obtain rfl : y20 = y23 := f22.trans ey23.symm
  refine lv_iconst (v := 1) hx hb dX11_object_56 (by decide) ?_
  refine lv_isub hx hb dX11_object_57 ?_
  refine lv_topi (fun y24 ey24 => ?_)
  replace hv := fnS hv ey24
  obtain ⟨ty24, ry24⟩ := Rg_subx (a' := (0)) (b' := (19)) (rfl : y20.toInt = _) (by decide : Int32.toInt 1 = 1) ry20 (Rg_c (x := 1) (a := (1)) (b := (1)) (by decide)) (by decide)
  rw [← ey24] at ty24 ry24
  exact ret (y24) _ _ _ _ _ _ _ dX11_object_58 hH ⟨⟨oI, oR, sm⟩, rfl, rfl, (Rg_w ry24 (by decide)), (by show _ ∧ I21 a0 21 = _; rw [← f22]; rw [show I a0 21 = y9 from o13, objF_ok r7 (by have a1 := r12.2; omega)]; exact ⟨i32_back ty24 ty20, ey20⟩), (hT.symm.trans hv)⟩
noncomputable def F_X11_put (a0 : Nat) (x1 : Int32) (x2 : Int32) (x3 : Int64) (I : hI) (J : hJ) (R : hR) : Int32 × hU :=
  nm (u2 I a0 0 (0 : Int32)) fun I1 => nm (I1 a0 21) fun y3 => nm (y3 - (1 : Int32)) fun y4 => nm (F_X11_in (x1.toInt64) (0 : Int64) (y4.toInt64)) fun y5 => (if y5 = (1 : Int32) then nm (F_X11_in (x2.toInt64) (0 : Int64) (2 : Int64)) fun y13 => (if y13 = (1 : Int32) then nm ((R a0 23).getD 0) fun b19 => nm ((3 : Int32) * x1) fun y20 => nm (y20 + x2) fun y21 => nm (u2 J b19 (Int32.toNatClampNeg y21) x3) fun J22 => ((0 : Int32), (I1, J22, R)) else ((-3 : Int32), (I1, J, R))) else ((-2 : Int32), (I1, J, R)))
def ms_X11_put : List Nat := [704, 5312]
set_option maxHeartbeats 4000000 in
set_option maxRecDepth 100000 in
theorem c_X11_put {l : Launch} {D : va_G} {cy : Nat → ClassId} {L : List Nat} {C : Nat → Nat} {b0 : Nat} {I : hI} {J : hJ} {R : hR} {a0 : Nat} {x1 : Int32} {x2 : Int32} {x3 : Int64} (oI : OkI L C I) (oR : OkR L C R) (m0 : a0 ∈ L) (k0 : C a0 = 11) : CI l yX11_put cX11_put 5 .int 1 D cy L C b0 [.ref a0, .int x1, .int x2, .long x3] (I, J, R) (fun r v => Ps L C ms_X11_put (I, J, R) v ∧ v.2.2 = R ∧ Rg r (-3) (0) ∧ (r = putF (I a0 21) x1 x2) ∧ F_X11_put a0 x1 x2 x3 I J R = (r, v)) := by
  refine CI.mkI (plainFor_of_name (by decide)) (Nat.le_of_ble_eq_true rfl) ?_
  intro p e s m args below meth c ls Q hF ret hH hl
  obtain ⟨hx, hb, -, hml, hown, hts, -⟩ := hF
  have hl : lv_has ls 5 [(0, .ref a0), (1, .int x1), (2, .int x2), (3, .long x3)] := hl
  have hH : Hp D cy L C b0 s s.heap I J R s.heap [] := hH
  have sm : Sm C ms_X11_put (I, J, R) (I, J, R) := Sm.rf
  obtain ⟨TT0, hT⟩ : ∃ TT0, TT0 = F_X11_put a0 x1 x2 x3 I J R := ⟨_, rfl⟩
  have hv := hT
  unfold F_X11_put at hv
  refine lv_aload_n hx hb dX11_put_0 rfl (lv_at hl 0 rfl) ?_
  refine lv_iconst (v := 0) hx hb dX11_put_1 (by decide) ?_
  refine pf_11_0 hx hb hts hown hH m0 k0 rfl kf_X11_131 dX11_put_2 (fun I1 H locs eI1 hH => ?_)
  replace hv := fnS hv eI1
  have oI : OkI L C I1 := by rw [eI1]; exact wf_11_0 oI k0 (Rg_w (Rg_c (x := 0) (a := (0)) (b := (0)) (by decide)) (by decide))
  have sm : Sm C ms_X11_put (I, J, R) (I1, J, R) := by rw [eI1]; exact sm.stI k0 (mC_obj (by decide) rfl)
  have f2 : 0 = I1 a0 0 := by rw [eI1, u2_at]
  refine lv_iload_n hx hb dX11_put_5 rfl (lv_at hl 1 rfl) ?_
  refine lv_i2l (v := x1.toInt64) hx hb dX11_put_6 rfl ?_
  refine lv_lconst (v := 0) hx hb dX11_put_7 (by decide) ?_
  refine lv_aload_n hx hb dX11_put_8 rfl (lv_at hl 0 rfl) ?_
  refine gf_11_21 hx hb hts hown hH m0 k0 rfl kf_X11_282 dX11_put_9 ?_
  refine lv_topi (fun y3 ey3 => ?_)
  have ry3 : Rg y3 (0) (20) := by rw [ey3]; exact rf_11_21 oI m0 k0
  replace hv := fnS hv ey3
  refine lv_iconst (v := 1) hx hb dX11_put_12 (by decide) ?_
  refine lv_isub hx hb dX11_put_13 ?_
  refine lv_topi (fun y4 ey4 => ?_)
  replace hv := fnS hv ey4
  obtain ⟨ty4, ry4⟩ := Rg_subx (a' := (-1)) (b' := (19)) (rfl : y3.toInt = _) (by decide : Int32.toInt 1 = 1) ry3 (Rg_c (x := 1) (a := (1)) (b := (1)) (by decide)) (by decide)
  rw [← ey4] at ty4 ry4
  refine lv_i2l (v := y4.toInt64) hx hb dX11_put_14 rfl ?_
  refine ca_X11_138 hx hb hml hown hts hH (c_X11_in ) hl.1 (by decide) (Nat.le_of_ble_eq_true rfl) ⟨Nat.zero_le _, Nat.zero_le _⟩ dX11_put_15 (fun y5 I5 J5 R5 H locs hp hH => ?_)
  obtain ⟨eI5, eJ5, eR5, ry5, hp5, hf5⟩ := hp
  obtain rfl : I1 = I5 := eI5.symm
  obtain rfl : J = J5 := eJ5.symm
  obtain rfl : R = R5 := eR5.symm
  replace hv := fnS hv hf5.symm
  rcases hp5 with ⟨rfl, hq5⟩ | ⟨rfl, hq5⟩
  rotate_left
  · replace hv := fnN hv (by decide)
    refine lv_if_ne (tgt := 24) hx hb dX11_put_18 (by decide) (fun q24 => ?_) (fun q24 => ?_)
    · exact absurd rfl q24
    refine lv_bipush (v := (-2)) hx hb dX11_put_21 (by decide) ?_
    exact ret ((-2)) _ _ _ _ _ _ _ dX11_put_23 hH ⟨⟨oI, oR, sm⟩, rfl, (Rg_w (Rg_c (x := (-2)) (a := (-2)) (b := (-2)) (by decide)) (by decide)), (by have h8 : I a0 21 = y3 := (by rw [ey3, eI1, u2_nk (by decide)]); rw [h8]; have a1 := ty4; have c0 : Int32.toInt 0 = 0 := (by decide); have h9 := hq5; rw [Int32.toInt_toInt64, Int32.toInt_toInt64, show Int64.toInt 0 = 0 by decide] at h9; rw [putF_no (by omega)]), (hT.symm.trans hv)⟩
  replace hv := fnP hv rfl
  have l6 : Int32.toInt 0 ≤ x1.toInt := in_cl hq5.1 (by decide)
  have r7 : Rg x1 (0) (2147483647) := Rg_lle (Rg_any x1) l6 (Rg_c (x := 0) (a := (0)) (b := (0)) (by decide)) (by decide)
  have l8 := in_ll hq5.2
  have r9 : Rg x1 (0) (19) := Rg_ule r7 l8 ry4 (by decide)
  have r10 : Rg y4 (0) (19) := Rg_lle ry4 l8 r7 (by decide)
  have r11 : Rg y3 (1) (20) := by have a1 := r10.1; have a2 := r10.2; have a3 := ry3.1; have a4 := ry3.2; exact ⟨by omega, by omega⟩
  refine lv_if_ne (tgt := 24) hx hb dX11_put_18 (by decide) (fun q12 => ?_) (fun q12 => ?_)
  rotate_left
  · exact absurd q12 (by decide)
  refine lv_iload_n hx hb dX11_put_24 rfl (lv_at hl 2 rfl) ?_
  refine lv_i2l (v := x2.toInt64) hx hb dX11_put_25 rfl ?_
  refine lv_lconst (v := 0) hx hb dX11_put_26 (by decide) ?_
  refine lv_ldc2 (v := 2) hx hb hown (hts _ kkl_X11_227) dX11_put_27 ?_
  refine ca_X11_138 hx hb hml hown hts hH (c_X11_in ) hl.1 (by decide) (Nat.le_of_ble_eq_true rfl) ⟨Nat.zero_le _, Nat.zero_le _⟩ dX11_put_30 (fun y13 I13 J13 R13 H locs hp hH => ?_)
  obtain ⟨eI13, eJ13, eR13, ry13, hp13, hf13⟩ := hp
  obtain rfl : I1 = I13 := eI13.symm
  obtain rfl : J = J13 := eJ13.symm
  obtain rfl : R = R13 := eR13.symm
  replace hv := fnS hv hf13.symm
  rcases hp13 with ⟨rfl, hq13⟩ | ⟨rfl, hq13⟩
  rotate_left
  · replace hv := fnN hv (by decide)
    refine lv_if_ne (tgt := 39) hx hb dX11_put_33 (by decide) (fun q23 => ?_) (fun q23 => ?_)
    · exact absurd rfl q23
    refine lv_bipush (v := (-3)) hx hb dX11_put_36 (by decide) ?_
    exact ret ((-3)) _ _ _ _ _ _ _ dX11_put_38 hH ⟨⟨oI, oR, sm⟩, rfl, (Rg_w (Rg_c (x := (-3)) (a := (-3)) (b := (-3)) (by decide)) (by decide)), (by have h8 : I a0 21 = y3 := (by rw [ey3, eI1, u2_nk (by decide)]); rw [h8]; have a1 := ty4; have c0 : Int32.toInt 0 = 0 := (by decide); rw [putF_out (by omega) (by have h9 := hq13; rw [Int32.toInt_toInt64, show Int64.toInt 0 = 0 by decide, show Int64.toInt 2 = 2 by decide] at h9; exact h9)]), (hT.symm.trans hv)⟩
  replace hv := fnP hv rfl
  have l14 : Int32.toInt 0 ≤ x2.toInt := in_cl hq13.1 (by decide)
  have r15 : Rg x2 (0) (2147483647) := Rg_lle (Rg_any x2) l14 (Rg_c (x := 0) (a := (0)) (b := (0)) (by decide)) (by decide)
  have l16 : x2.toInt ≤ Int32.toInt 2 := in_lc hq13.2 (by decide)
  have r17 : Rg x2 (0) (2) := Rg_ule r15 l16 (Rg_c (x := 2) (a := (2)) (b := (2)) (by decide)) (by decide)
  refine lv_if_ne (tgt := 39) hx hb dX11_put_33 (by decide) (fun q18 => ?_) (fun q18 => ?_)
  rotate_left
  · exact absurd q18 (by decide)
  refine lv_aload_n hx hb dX11_put_39 rfl (lv_at hl 0 rfl) ?_
  obtain ⟨b19, mb19, vb19, kb19⟩ := rf_11_23 oR m0 k0
  replace hv := fnR hv vb19
  refine gf_11_23 vb19 hx hb hts hown hH m0 k0 rfl kf_X11_69 dX11_put_40 ?_
  refine lv_iconst (v := 3) hx hb dX11_put_43 (by decide) ?_
  refine lv_iload_n hx hb dX11_put_44 rfl (lv_at hl 1 rfl) ?_
  refine lv_imul hx hb dX11_put_45 ?_
  refine lv_topi (fun y20 ey20 => ?_)
  replace hv := fnS hv ey20
  obtain ⟨ty20, ry20⟩ := Rg_mulx (a' := (0)) (b' := (57)) (by decide : Int32.toInt 3 = 3) (rfl : x1.toInt = _) (Rg_c (x := 3) (a := (3)) (b := (3)) (by decide)) r9 (by decide)
  rw [← ey20] at ty20 ry20
  refine lv_iload_n hx hb dX11_put_46 rfl (lv_at hl 2 rfl) ?_
  refine lv_iadd hx hb dX11_put_47 ?_
  refine lv_topi (fun y21 ey21 => ?_)
  replace hv := fnS hv ey21
  obtain ⟨ty21, ry21⟩ := Rg_addx (a' := (0)) (b' := (59)) (rfl : y20.toInt = _) (rfl : x2.toInt = _) ry20 r17 (by decide)
  rw [← ey21] at ty21 ry21
  refine lv_lload_n hx hb dX11_put_48 rfl (lv_at hl 3 rfl) ?_
  refine st_83 hx hb hH mb19 kb19 (Rg_in ry21 (by decide)) dX11_put_49 (fun J22 H locs eJ22 hH => ?_)
  replace hv := fnS hv eJ22
  have sm : Sm C ms_X11_put (I, J, R) (I1, J22, R) := by rw [eJ22]; exact sm.stJ kb19 (mC_arr (by decide) rfl)
  refine lv_iconst (v := 0) hx hb dX11_put_50 (by decide) ?_
  exact ret (0) _ _ _ _ _ _ _ dX11_put_51 hH ⟨⟨oI, oR, sm⟩, rfl, (Rg_w (Rg_c (x := 0) (a := (0)) (b := (0)) (by decide)) (by decide)), (by have h8 : I a0 21 = y3 := (by rw [ey3, eI1, u2_nk (by decide)]); rw [h8]; have a1 := ty4; have c0 : Int32.toInt 0 = 0 := (by decide); rw [putF_ok (by omega) r17]), (hT.symm.trans hv)⟩
noncomputable def F_X11_field_47 (a0 : Nat) (x1 : Int32) (x2 : Int32) (y3 : Int32) (y4 : Int32) (I_47 : hI) (J : hJ) (R : hR) (xs0_47 : Int64) : Int64 × hU :=
  (xs0_47, (I_47, J, R))
noncomputable def F_X11_field_46 (a0 : Nat) (x1 : Int32) (x2 : Int32) (y3 : Int32) (y4 : Int32) (I_46 : hI) (J : hJ) (R : hR) : Int64 × hU :=
  F_X11_field_47 a0 x1 x2 y3 y4 I_46 J R (0 : Int64)
noncomputable def F_X11_field (a0 : Nat) (x1 : Int32) (x2 : Int32) (I : hI) (J : hJ) (R : hR) : Int64 × hU :=
  nm (u2 I a0 0 (0 : Int32)) fun I1 => nm (I1 a0 21) fun y3 => nm (y3 - (1 : Int32)) fun y4 => nm (F_X11_in (x1.toInt64) (0 : Int64) (y4.toInt64)) fun y5 => (if y5 = (1 : Int32) then nm (F_X11_in (x2.toInt64) (0 : Int64) (2 : Int64)) fun y13 => (if y13 = (1 : Int32) then nm ((R a0 23).getD 0) fun b19 => nm ((3 : Int32) * x1) fun y20 => nm (y20 + x2) fun y21 => nm (J b19 (Int32.toNatClampNeg y21)) fun w22 => F_X11_field_47 a0 x1 x2 y3 y4 I1 J R w22 else F_X11_field_46 a0 x1 x2 y3 y4 I1 J R) else F_X11_field_46 a0 x1 x2 y3 y4 I1 J R)
def ms_X11_field : List Nat := [704]
set_option maxHeartbeats 4000000 in
set_option maxRecDepth 100000 in
theorem c_X11_field {l : Launch} {D : va_G} {cy : Nat → ClassId} {L : List Nat} {C : Nat → Nat} {b0 : Nat} {I : hI} {J : hJ} {R : hR} {a0 : Nat} {x1 : Int32} {x2 : Int32} (oI : OkI L C I) (oR : OkR L C R) (m0 : a0 ∈ L) (k0 : C a0 = 11) : CJ l yX11_field cX11_field 3 1 D cy L C b0 [.ref a0, .int x1, .int x2] (I, J, R) (fun r v => Ps L C ms_X11_field (I, J, R) v ∧ v.2.1 = J ∧ v.2.2 = R ∧ F_X11_field a0 x1 x2 I J R = (r, v)) := by
  refine CJ.mk (plainFor_of_name (by decide)) (Nat.le_of_ble_eq_true rfl) ?_
  intro p e s m args below meth c ls Q hF ret hH hl
  obtain ⟨hx, hb, -, hml, hown, hts, -⟩ := hF
  have hl : lv_has ls 3 [(0, .ref a0), (1, .int x1), (2, .int x2)] := hl
  have hH : Hp D cy L C b0 s s.heap I J R s.heap [] := hH
  have sm : Sm C ms_X11_field (I, J, R) (I, J, R) := Sm.rf
  obtain ⟨TT0, hT⟩ : ∃ TT0, TT0 = F_X11_field a0 x1 x2 I J R := ⟨_, rfl⟩
  have hv := hT
  unfold F_X11_field at hv
  refine lv_aload_n hx hb dX11_field_0 rfl (lv_at hl 0 rfl) ?_
  refine lv_iconst (v := 0) hx hb dX11_field_1 (by decide) ?_
  refine pf_11_0 hx hb hts hown hH m0 k0 rfl kf_X11_131 dX11_field_2 (fun I1 H locs eI1 hH => ?_)
  replace hv := fnS hv eI1
  have oI : OkI L C I1 := by rw [eI1]; exact wf_11_0 oI k0 (Rg_w (Rg_c (x := 0) (a := (0)) (b := (0)) (by decide)) (by decide))
  have sm : Sm C ms_X11_field (I, J, R) (I1, J, R) := by rw [eI1]; exact sm.stI k0 (mC_obj (by decide) rfl)
  have f2 : 0 = I1 a0 0 := by rw [eI1, u2_at]
  refine lv_iload_n hx hb dX11_field_5 rfl (lv_at hl 1 rfl) ?_
  refine lv_i2l (v := x1.toInt64) hx hb dX11_field_6 rfl ?_
  refine lv_lconst (v := 0) hx hb dX11_field_7 (by decide) ?_
  refine lv_aload_n hx hb dX11_field_8 rfl (lv_at hl 0 rfl) ?_
  refine gf_11_21 hx hb hts hown hH m0 k0 rfl kf_X11_282 dX11_field_9 ?_
  refine lv_topi (fun y3 ey3 => ?_)
  have ry3 : Rg y3 (0) (20) := by rw [ey3]; exact rf_11_21 oI m0 k0
  replace hv := fnS hv ey3
  refine lv_iconst (v := 1) hx hb dX11_field_12 (by decide) ?_
  refine lv_isub hx hb dX11_field_13 ?_
  refine lv_topi (fun y4 ey4 => ?_)
  replace hv := fnS hv ey4
  obtain ⟨ty4, ry4⟩ := Rg_subx (a' := (-1)) (b' := (19)) (rfl : y3.toInt = _) (by decide : Int32.toInt 1 = 1) ry3 (Rg_c (x := 1) (a := (1)) (b := (1)) (by decide)) (by decide)
  rw [← ey4] at ty4 ry4
  refine lv_i2l (v := y4.toInt64) hx hb dX11_field_14 rfl ?_
  have L_47 : ∀ (I_47 : hI) (H : Heap) (locs : List Loc) (ls : Array Slot) (xs0_47 : Int64), Hp D cy L C b0 s s.heap I_47 J R H locs → TT0 = F_X11_field_47 a0 x1 x2 y3 y4 I_47 J R xs0_47 → OkI L C I_47 → Sm C ms_X11_field (I, J, R) (I_47, J, R) → lv_has ls 3 [] → W p l e (rmD 1) s m args below meth c H locs 0 0 Q (F0 m 47 ls [.long xs0_47]) := by
    intro I_47 H locs ls xs0_47 hH hv oI sm hl
    unfold F_X11_field_47 at hv
    exact ret (xs0_47) _ _ _ _ _ _ _ dX11_field_47 hH ⟨⟨oI, oR, sm⟩, rfl, rfl, (hT.symm.trans hv)⟩
  have L_46 : ∀ (I_46 : hI) (H : Heap) (locs : List Loc) (ls : Array Slot), Hp D cy L C b0 s s.heap I_46 J R H locs → TT0 = F_X11_field_46 a0 x1 x2 y3 y4 I_46 J R → OkI L C I_46 → Sm C ms_X11_field (I, J, R) (I_46, J, R) → lv_has ls 3 [] → W p l e (rmD 1) s m args below meth c H locs 0 0 Q (F0 m 46 ls []) := by
    intro I_46 H locs ls hH hv oI sm hl
    unfold F_X11_field_46 at hv
    refine lv_lconst (v := 0) hx hb dX11_field_46 (by decide) ?_
    exact L_47 I_46 _ _ _ 0 hH hv oI sm (lv_sub hl [] rfl)
  refine ca_X11_138 hx hb hml hown hts hH (c_X11_in ) hl.1 (by decide) (Nat.le_of_ble_eq_true rfl) ⟨Nat.zero_le _, Nat.zero_le _⟩ dX11_field_15 (fun y5 I5 J5 R5 H locs hp hH => ?_)
  obtain ⟨eI5, eJ5, eR5, ry5, hp5, hf5⟩ := hp
  obtain rfl : I1 = I5 := eI5.symm
  obtain rfl : J = J5 := eJ5.symm
  obtain rfl : R = R5 := eR5.symm
  replace hv := fnS hv hf5.symm
  rcases hp5 with ⟨rfl, hq5⟩ | ⟨rfl, hq5⟩
  rotate_left
  · replace hv := fnN hv (by decide)
    refine lv_if_eq (tgt := 46) hx hb dX11_field_18 (by decide) (fun q24 => ?_) (fun q24 => ?_)
    · exact L_46 I1 _ _ _ hH hv oI sm (lv_sub hl [] rfl)
    exact absurd rfl q24
  replace hv := fnP hv rfl
  have l6 : Int32.toInt 0 ≤ x1.toInt := in_cl hq5.1 (by decide)
  have r7 : Rg x1 (0) (2147483647) := Rg_lle (Rg_any x1) l6 (Rg_c (x := 0) (a := (0)) (b := (0)) (by decide)) (by decide)
  have l8 := in_ll hq5.2
  have r9 : Rg x1 (0) (19) := Rg_ule r7 l8 ry4 (by decide)
  have r10 : Rg y4 (0) (19) := Rg_lle ry4 l8 r7 (by decide)
  have r11 : Rg y3 (1) (20) := by have a1 := r10.1; have a2 := r10.2; have a3 := ry3.1; have a4 := ry3.2; exact ⟨by omega, by omega⟩
  refine lv_if_eq (tgt := 46) hx hb dX11_field_18 (by decide) (fun q12 => ?_) (fun q12 => ?_)
  · exact absurd q12 (by decide)
  refine lv_iload_n hx hb dX11_field_21 rfl (lv_at hl 2 rfl) ?_
  refine lv_i2l (v := x2.toInt64) hx hb dX11_field_22 rfl ?_
  refine lv_lconst (v := 0) hx hb dX11_field_23 (by decide) ?_
  refine lv_ldc2 (v := 2) hx hb hown (hts _ kkl_X11_227) dX11_field_24 ?_
  refine ca_X11_138 hx hb hml hown hts hH (c_X11_in ) hl.1 (by decide) (Nat.le_of_ble_eq_true rfl) ⟨Nat.zero_le _, Nat.zero_le _⟩ dX11_field_27 (fun y13 I13 J13 R13 H locs hp hH => ?_)
  obtain ⟨eI13, eJ13, eR13, ry13, hp13, hf13⟩ := hp
  obtain rfl : I1 = I13 := eI13.symm
  obtain rfl : J = J13 := eJ13.symm
  obtain rfl : R = R13 := eR13.symm
  replace hv := fnS hv hf13.symm
  rcases hp13 with ⟨rfl, hq13⟩ | ⟨rfl, hq13⟩
  rotate_left
  · replace hv := fnN hv (by decide)
    refine lv_if_eq (tgt := 46) hx hb dX11_field_30 (by decide) (fun q23 => ?_) (fun q23 => ?_)
    · exact L_46 I1 _ _ _ hH hv oI sm (lv_sub hl [] rfl)
    exact absurd rfl q23
  replace hv := fnP hv rfl
  have l14 : Int32.toInt 0 ≤ x2.toInt := in_cl hq13.1 (by decide)
  have r15 : Rg x2 (0) (2147483647) := Rg_lle (Rg_any x2) l14 (Rg_c (x := 0) (a := (0)) (b := (0)) (by decide)) (by decide)
  have l16 : x2.toInt ≤ Int32.toInt 2 := in_lc hq13.2 (by decide)
  have r17 : Rg x2 (0) (2) := Rg_ule r15 l16 (Rg_c (x := 2) (a := (2)) (b := (2)) (by decide)) (by decide)
  refine lv_if_eq (tgt := 46) hx hb dX11_field_30 (by decide) (fun q18 => ?_) (fun q18 => ?_)
  · exact absurd q18 (by decide)
  refine lv_aload_n hx hb dX11_field_33 rfl (lv_at hl 0 rfl) ?_
  obtain ⟨b19, mb19, vb19, kb19⟩ := rf_11_23 oR m0 k0
  replace hv := fnR hv vb19
  refine gf_11_23 vb19 hx hb hts hown hH m0 k0 rfl kf_X11_69 dX11_field_34 ?_
  refine lv_iconst (v := 3) hx hb dX11_field_37 (by decide) ?_
  refine lv_iload_n hx hb dX11_field_38 rfl (lv_at hl 1 rfl) ?_
  refine lv_imul hx hb dX11_field_39 ?_
  refine lv_topi (fun y20 ey20 => ?_)
  replace hv := fnS hv ey20
  obtain ⟨ty20, ry20⟩ := Rg_mulx (a' := (0)) (b' := (57)) (by decide : Int32.toInt 3 = 3) (rfl : x1.toInt = _) (Rg_c (x := 3) (a := (3)) (b := (3)) (by decide)) r9 (by decide)
  rw [← ey20] at ty20 ry20
  refine lv_iload_n hx hb dX11_field_40 rfl (lv_at hl 2 rfl) ?_
  refine lv_iadd hx hb dX11_field_41 ?_
  refine lv_topi (fun y21 ey21 => ?_)
  replace hv := fnS hv ey21
  obtain ⟨ty21, ry21⟩ := Rg_addx (a' := (0)) (b' := (59)) (rfl : y20.toInt = _) (rfl : x2.toInt = _) ry20 r17 (by decide)
  rw [← ey21] at ty21 ry21
  refine ld_83 hx hb hH mb19 kb19 (Rg_in ry21 (by decide)) dX11_field_42 ?_
  refine lv_topl (fun w22 ew22 => ?_)
  replace hv := fnS hv ew22
  refine lv_goto (tgt := 47) hx hb dX11_field_43 (by decide) ?_
  exact L_47 I1 _ _ _ w22 hH hv oI sm (lv_sub hl [] rfl)
noncomputable def F_X11_hand (a0 : Nat) (x1 : Int32) (x2 : Int64) (I : hI) (J : hJ) (R : hR) : Int32 × hU :=
  nm (u2 I a0 0 (0 : Int32)) fun I1 => nm (F_X11_in (x1.toInt64) (0 : Int64) (3 : Int64)) fun y3 => (if y3 = (1 : Int32) then nm ((R a0 24).getD 0) fun b9 => nm (u2 J b9 (Int32.toNatClampNeg x1) x2) fun J10 => ((0 : Int32), (I1, J10, R)) else ((-3 : Int32), (I1, J, R)))
def ms_X11_hand : List Nat := [704, 5376]
set_option maxHeartbeats 4000000 in
set_option maxRecDepth 100000 in
theorem c_X11_hand {l : Launch} {D : va_G} {cy : Nat → ClassId} {L : List Nat} {C : Nat → Nat} {b0 : Nat} {I : hI} {J : hJ} {R : hR} {a0 : Nat} {x1 : Int32} {x2 : Int64} (oI : OkI L C I) (oR : OkR L C R) (m0 : a0 ∈ L) (k0 : C a0 = 11) : CI l yX11_hand cX11_hand 4 .int 1 D cy L C b0 [.ref a0, .int x1, .long x2] (I, J, R) (fun r v => Ps L C ms_X11_hand (I, J, R) v ∧ v.2.2 = R ∧ Rg r (-3) (0) ∧ ((r = 0 ∧ 0 ≤ x1.toInt ∧ x1.toInt ≤ 3) ∨ (r = (-3) ∧ ¬ (0 ≤ x1.toInt ∧ x1.toInt ≤ 3))) ∧ F_X11_hand a0 x1 x2 I J R = (r, v)) := by
  refine CI.mkI (plainFor_of_name (by decide)) (Nat.le_of_ble_eq_true rfl) ?_
  intro p e s m args below meth c ls Q hF ret hH hl
  obtain ⟨hx, hb, -, hml, hown, hts, -⟩ := hF
  have hl : lv_has ls 4 [(0, .ref a0), (1, .int x1), (2, .long x2)] := hl
  have hH : Hp D cy L C b0 s s.heap I J R s.heap [] := hH
  have sm : Sm C ms_X11_hand (I, J, R) (I, J, R) := Sm.rf
  obtain ⟨TT0, hT⟩ : ∃ TT0, TT0 = F_X11_hand a0 x1 x2 I J R := ⟨_, rfl⟩
  have hv := hT
  unfold F_X11_hand at hv
  refine lv_aload_n hx hb dX11_hand_0 rfl (lv_at hl 0 rfl) ?_
  refine lv_iconst (v := 0) hx hb dX11_hand_1 (by decide) ?_
  refine pf_11_0 hx hb hts hown hH m0 k0 rfl kf_X11_131 dX11_hand_2 (fun I1 H locs eI1 hH => ?_)
  replace hv := fnS hv eI1
  have oI : OkI L C I1 := by rw [eI1]; exact wf_11_0 oI k0 (Rg_w (Rg_c (x := 0) (a := (0)) (b := (0)) (by decide)) (by decide))
  have sm : Sm C ms_X11_hand (I, J, R) (I1, J, R) := by rw [eI1]; exact sm.stI k0 (mC_obj (by decide) rfl)
  have f2 : 0 = I1 a0 0 := by rw [eI1, u2_at]
  refine lv_iload_n hx hb dX11_hand_5 rfl (lv_at hl 1 rfl) ?_
  refine lv_i2l (v := x1.toInt64) hx hb dX11_hand_6 rfl ?_
  refine lv_lconst (v := 0) hx hb dX11_hand_7 (by decide) ?_
  refine lv_ldc2 (v := 3) hx hb hown (hts _ kkl_X11_285) dX11_hand_8 ?_
  refine ca_X11_138 hx hb hml hown hts hH (c_X11_in ) hl.1 (by decide) (Nat.le_of_ble_eq_true rfl) ⟨Nat.zero_le _, Nat.zero_le _⟩ dX11_hand_11 (fun y3 I3 J3 R3 H locs hp hH => ?_)
  obtain ⟨eI3, eJ3, eR3, ry3, hp3, hf3⟩ := hp
  obtain rfl : I1 = I3 := eI3.symm
  obtain rfl : J = J3 := eJ3.symm
  obtain rfl : R = R3 := eR3.symm
  replace hv := fnS hv hf3.symm
  rcases hp3 with ⟨rfl, hq3⟩ | ⟨rfl, hq3⟩
  rotate_left
  · replace hv := fnN hv (by decide)
    refine lv_if_ne (tgt := 20) hx hb dX11_hand_14 (by decide) (fun q11 => ?_) (fun q11 => ?_)
    · exact absurd rfl q11
    refine lv_bipush (v := (-3)) hx hb dX11_hand_17 (by decide) ?_
    exact ret ((-3)) _ _ _ _ _ _ _ dX11_hand_19 hH ⟨⟨oI, oR, sm⟩, rfl, (Rg_w (Rg_c (x := (-3)) (a := (-3)) (b := (-3)) (by decide)) (by decide)), (by have h9 := hq3; rw [Int32.toInt_toInt64, show Int64.toInt 0 = 0 by decide, show Int64.toInt 3 = 3 by decide] at h9; exact Or.inr ⟨rfl, h9⟩), (hT.symm.trans hv)⟩
  replace hv := fnP hv rfl
  have l4 : Int32.toInt 0 ≤ x1.toInt := in_cl hq3.1 (by decide)
  have r5 : Rg x1 (0) (2147483647) := Rg_lle (Rg_any x1) l4 (Rg_c (x := 0) (a := (0)) (b := (0)) (by decide)) (by decide)
  have l6 : x1.toInt ≤ Int32.toInt 3 := in_lc hq3.2 (by decide)
  have r7 : Rg x1 (0) (3) := Rg_ule r5 l6 (Rg_c (x := 3) (a := (3)) (b := (3)) (by decide)) (by decide)
  refine lv_if_ne (tgt := 20) hx hb dX11_hand_14 (by decide) (fun q8 => ?_) (fun q8 => ?_)
  rotate_left
  · exact absurd q8 (by decide)
  refine lv_aload_n hx hb dX11_hand_20 rfl (lv_at hl 0 rfl) ?_
  obtain ⟨b9, mb9, vb9, kb9⟩ := rf_11_24 oR m0 k0
  replace hv := fnR hv vb9
  refine gf_11_24 vb9 hx hb hts hown hH m0 k0 rfl kf_X11_72 dX11_hand_21 ?_
  refine lv_iload_n hx hb dX11_hand_24 rfl (lv_at hl 1 rfl) ?_
  refine lv_lload_n hx hb dX11_hand_25 rfl (lv_at hl 2 rfl) ?_
  refine st_84 hx hb hH mb9 kb9 (Rg_in r7 (by decide)) dX11_hand_26 (fun J10 H locs eJ10 hH => ?_)
  replace hv := fnS hv eJ10
  have sm : Sm C ms_X11_hand (I, J, R) (I1, J10, R) := by rw [eJ10]; exact sm.stJ kb9 (mC_arr (by decide) rfl)
  refine lv_iconst (v := 0) hx hb dX11_hand_27 (by decide) ?_
  exact ret (0) _ _ _ _ _ _ _ dX11_hand_28 hH ⟨⟨oI, oR, sm⟩, rfl, (Rg_w (Rg_c (x := 0) (a := (0)) (b := (0)) (by decide)) (by decide)), (by exact Or.inl ⟨rfl, r7⟩), (hT.symm.trans hv)⟩
noncomputable def B_X11_link_23 (a0 : Nat) (x1 : Int32) (y6 : Int32) (z1 : Int32) (y5 : Int32) (b2 : Nat) (y4 : Int32) (k_23 : hI → hJ → hR → Int32 → (Int32 × hU)) (I_23 : hI) (J : hJ) (R : hR) (x2_23 : Int32) : Int32 × hU :=
  (if (4 : Int32) ≤ x2_23 then nm ((6 : Int32) * x1) fun y11 => nm (I_23 a0 42) fun y12 => nm (y11 + y12) fun y13 => nm (u2 I_23 b2 (Int32.toNatClampNeg z1) y13) fun I14 => nm (z1 + (1 : Int32)) fun y18 => nm (u2 I14 a0 49 y18) fun I19 => ((1 : Int32), (I19, J, R)) else nm ((R a0 51).getD 0) fun b23 => nm ((4 : Int32) * z1) fun y25 => nm (y25 + x2_23) fun y26 => nm ((R a0 43).getD 0) fun b27 => nm (I_23 b27 (Int32.toNatClampNeg x2_23)) fun y28 => nm (u2 I_23 b23 (Int32.toNatClampNeg y26) y28) fun I29 => nm (x2_23 + (1 : Int32)) fun y30 => k_23 I29 J R y30)
noncomputable def F_X11_link_23 (a0 : Nat) (x1 : Int32) (y6 : Int32) (z1 : Int32) (y5 : Int32) (b2 : Nat) (y4 : Int32) : Nat → hI → hJ → hR → Int32 → (Int32 × hU) := fun n => Nat.rec (motive := fun _ => hI → hJ → hR → Int32 → (Int32 × hU)) (fun _ _ _ _ => default) (fun _ k => B_X11_link_23 a0 x1 y6 z1 y5 b2 y4 k) n
theorem F_X11_link_23_s {a0 : Nat} {x1 : Int32} {y6 : Int32} {z1 : Int32} {y5 : Int32} {b2 : Nat} {y4 : Int32} {n : Nat} {I_23 : hI} {J : hJ} {R : hR} {x2_23 : Int32} : F_X11_link_23 a0 x1 y6 z1 y5 b2 y4 (n + 1)  I_23 J R x2_23 = B_X11_link_23 a0 x1 y6 z1 y5 b2 y4 (F_X11_link_23 a0 x1 y6 z1 y5 b2 y4 n)  I_23 J R x2_23 := rfl
noncomputable def F_X11_link (a0 : Nat) (x1 : Int32) (I : hI) (J : hJ) (R : hR) : Int32 × hU :=
  nm (I a0 49) fun z1 => nm ((R a0 50).getD 0) fun b2 => nm (z1 - (1 : Int32)) fun y4 => nm (I b2 (Int32.toNatClampNeg y4)) fun y5 => nmU (F_X11_findFit a0 y5 x1 I J R) fun y6 I6 _ _ => (if y6 = (0 : Int32) then ((0 : Int32), (I6, J, R)) else F_X11_link_23 a0 x1 y6 z1 y5 b2 y4 ((4 - (0 : Int32).toInt).toNat + 1) I6 J R (0 : Int32))
def ms_X11_link : List Nat := [744, 745, 746, 753, 5760, 5824, 5888, 6208, 6272]
set_option maxHeartbeats 4000000 in
set_option maxRecDepth 100000 in
theorem c_X11_link {l : Launch} {D : va_G} {cy : Nat → ClassId} {L : List Nat} {C : Nat → Nat} {b0 : Nat} {I : hI} {J : hJ} {R : hR} {a0 : Nat} {x1 : Int32} (oI : OkI L C I) (oR : OkR L C R) (m0 : a0 ∈ L) (k0 : C a0 = 11) (h1 : Rg x1 (0) (19)) (hm49 : Rg (I a0 49) (1) (10)) : CI l yX11_link cX11_link 3 .boolean 3 D cy L C b0 [.ref a0, .int x1] (I, J, R) (fun r v => Ps L C ms_X11_link (I, J, R) v ∧ v.2.1 = J ∧ v.2.2 = R ∧ Rg r (0) (1) ∧ Rg (v.1 a0 49) (1) (11) ∧ ((r = 1 ∧ (v.1 a0 49).toInt = (I a0 49).toInt + 1) ∨ r = 0) ∧ F_X11_link a0 x1 I J R = (r, v)) := by
  refine CI.mkZ (plainFor_of_name (by decide)) (Nat.le_of_ble_eq_true rfl) ?_
  intro p e s m args below meth c ls Q hF ret hH hl
  obtain ⟨hx, hb, -, hml, hown, hts, -⟩ := hF
  have hl : lv_has ls 3 [(0, .ref a0), (1, .int x1)] := hl
  have hH : Hp D cy L C b0 s s.heap I J R s.heap [] := hH
  have sm : Sm C ms_X11_link (I, J, R) (I, J, R) := Sm.rf
  obtain ⟨TT0, hT⟩ : ∃ TT0, TT0 = F_X11_link a0 x1 I J R := ⟨_, rfl⟩
  have hv := hT
  unfold F_X11_link at hv
  obtain ⟨z1, ez1⟩ : ∃ y : Int32, y = I a0 49 := ⟨_, rfl⟩
  have rz1 : Rg z1 (1) (10) := by rw [ez1]; exact hm49
  replace hv := fnS hv ez1
  refine lv_aload_n hx hb dX11_link_0 rfl (lv_at hl 0 rfl) ?_
  refine lv_aload_n hx hb dX11_link_1 rfl (lv_at hl 0 rfl) ?_
  obtain ⟨b2, mb2, vb2, kb2⟩ := rf_11_50 oR m0 k0
  replace hv := fnR hv vb2
  refine gf_11_50 vb2 hx hb hts hown hH m0 k0 rfl kf_X11_111 dX11_link_2 ?_
  refine lv_aload_n hx hb dX11_link_5 rfl (lv_at hl 0 rfl) ?_
  refine gf_11_49 hx hb hts hown hH m0 k0 rfl kf_X11_287 dX11_link_6 ?_
  refine lv_topi (fun y3 ey3 => ?_)
  obtain rfl : z1 = y3 := ez1.trans ey3.symm
  refine lv_iconst (v := 1) hx hb dX11_link_9 (by decide) ?_
  refine lv_isub hx hb dX11_link_10 ?_
  refine lv_topi (fun y4 ey4 => ?_)
  replace hv := fnS hv ey4
  obtain ⟨ty4, ry4⟩ := Rg_subx (a' := (0)) (b' := (9)) (rfl : z1.toInt = _) (by decide : Int32.toInt 1 = 1) rz1 (Rg_c (x := 1) (a := (1)) (b := (1)) (by decide)) (by decide)
  rw [← ey4] at ty4 ry4
  refine ld_97 hx hb hH mb2 kb2 (Rg_in ry4 (by decide)) dX11_link_11 ?_
  refine lv_topi (fun y5 ey5 => ?_)
  have ry5 : Rg y5 (0) (119) := by rw [ey5]; exact rd_97 oI mb2 kb2 (Rg_in ry4 (by decide))
  replace hv := fnS hv ey5
  refine lv_iload_n hx hb dX11_link_12 rfl (lv_at hl 1 rfl) ?_
  refine ca_X11_266 hx hb hml hown hts hH (c_X11_findFit oI oR m0 k0 ry5 h1) hl.1 m0 k0 rfl (by decide) (Nat.le_of_ble_eq_true rfl) ⟨Nat.zero_le _, Nat.zero_le _⟩ dX11_link_13 (fun y6 I6 J6 R6 H locs hp hH => ?_)
  obtain ⟨⟨oI, -, sc6⟩, eJ6, eR6, ry6, hf6⟩ := hp
  obtain rfl : J = J6 := eJ6.symm
  obtain rfl : R = R6 := eR6.symm
  replace hv := fnC hv hf6
  have sm : Sm C ms_X11_link (I, J, R) (I6, J, R) := sm.tr sc6 rfl
  have L_23 : ∀ (n_23 : Nat) (I_23 : hI) (H : Heap) (locs : List Loc) (ls : Array Slot) (x2_23 : Int32), (4 - x2_23.toInt).toNat < n_23 → Hp D cy L C b0 s s.heap I_23 J R H locs → TT0 = F_X11_link_23 a0 x1 y6 z1 y5 b2 y4 n_23 I_23 J R x2_23 → OkI L C I_23 → Sm C ms_X11_link (I, J, R) (I_23, J, R) → Rg x1 (0) (19) → Rg x2_23 (0) (4) → z1 = I_23 a0 49 → lv_has ls 3 [(0, .ref a0), (1, .int x1), (2, .int x2_23)] → W p l e (rmD 3) s m args below meth c H locs 0 0 Q (F0 m 23 ls []) := by
    intro n_23
    induction n_23 with
    | zero => intro I_23 H locs ls x2_23 h; exact absurd h (Nat.not_lt_zero _)
    | succ n_23 ih_23 =>
      intro I_23 H locs ls x2_23 hn_23 hH hv oI sm r1_23 r2_23 em49_23 hl
      replace hv := hv.trans F_X11_link_23_s
      unfold B_X11_link_23 at hv
      refine lv_iload_n hx hb dX11_link_23 rfl (lv_at hl 2 rfl) ?_
      refine lv_iconst (v := 4) hx hb dX11_link_24 (by decide) ?_
      refine lv_icmp_ge (tgt := 53) hx hb dX11_link_25 (by decide) (fun q7 => ?_) (fun q7 => ?_)
      rotate_left
      · replace hv := fnN hv q7
        have l21 := Rg_nle q7
        have r22 : Rg x2_23 (0) (3) := Rg_ult r2_23 (Rg_nle q7) (Rg_c (x := 4) (a := (4)) (b := (4)) (by decide)) (by decide)
        refine lv_aload_n hx hb dX11_link_28 rfl (lv_at hl 0 rfl) ?_
        obtain ⟨b23, mb23, vb23, kb23⟩ := rf_11_51 oR m0 k0
        replace hv := fnR hv vb23
        refine gf_11_51 vb23 hx hb hts hown hH m0 k0 rfl kf_X11_114 dX11_link_29 ?_
        refine lv_iconst (v := 4) hx hb dX11_link_32 (by decide) ?_
        refine lv_aload_n hx hb dX11_link_33 rfl (lv_at hl 0 rfl) ?_
        refine gf_11_49 hx hb hts hown hH m0 k0 rfl kf_X11_287 dX11_link_34 ?_
        refine lv_topi (fun y24 ey24 => ?_)
        obtain rfl : z1 = y24 := em49_23.trans ey24.symm
        refine lv_imul hx hb dX11_link_37 ?_
        refine lv_topi (fun y25 ey25 => ?_)
        replace hv := fnS hv ey25
        obtain ⟨ty25, ry25⟩ := Rg_mulx (a' := (4)) (b' := (40)) (by decide : Int32.toInt 4 = 4) (rfl : z1.toInt = _) (Rg_c (x := 4) (a := (4)) (b := (4)) (by decide)) rz1 (by decide)
        rw [← ey25] at ty25 ry25
        refine lv_iload_n hx hb dX11_link_38 rfl (lv_at hl 2 rfl) ?_
        refine lv_iadd hx hb dX11_link_39 ?_
        refine lv_topi (fun y26 ey26 => ?_)
        replace hv := fnS hv ey26
        obtain ⟨ty26, ry26⟩ := Rg_addx (a' := (4)) (b' := (43)) (rfl : y25.toInt = _) (rfl : x2_23.toInt = _) ry25 r22 (by decide)
        rw [← ey26] at ty26 ry26
        refine lv_aload_n hx hb dX11_link_40 rfl (lv_at hl 0 rfl) ?_
        obtain ⟨b27, mb27, vb27, kb27⟩ := rf_11_43 oR m0 k0
        replace hv := fnR hv vb27
        refine gf_11_43 vb27 hx hb hts hown hH m0 k0 rfl kf_X11_96 dX11_link_41 ?_
        refine lv_iload_n hx hb dX11_link_44 rfl (lv_at hl 2 rfl) ?_
        refine ld_92 hx hb hH mb27 kb27 (Rg_in r22 (by decide)) dX11_link_45 ?_
        refine lv_topi (fun y28 ey28 => ?_)
        have ry28 : Rg y28 (0) (4) := by rw [ey28]; exact rd_92 oI mb27 kb27 (Rg_in r22 (by decide))
        replace hv := fnS hv ey28
        refine st_98 hx hb hH mb23 kb23 (Rg_in ry26 (by decide)) dX11_link_46 (fun I29 H locs eI29 hH => ?_)
        replace hv := fnS hv eI29
        have oI : OkI L C I29 := by rw [eI29]; exact wr_98 oI kb23 ry28
        have sm : Sm C ms_X11_link (I, J, R) (I29, J, R) := by rw [eI29]; exact sm.stI kb23 (mC_arr (by decide) rfl)
        obtain ⟨y30, ey30⟩ : ∃ y : Int32, y = x2_23 + 1 := ⟨_, rfl⟩
        replace hv := fnS hv ey30
        obtain ⟨ty30, ry30⟩ := Rg_addx (a' := (1)) (b' := (4)) (rfl : x2_23.toInt = _) (by decide : Int32.toInt 1 = 1) r22 (Rg_c (x := 1) (a := (1)) (b := (1)) (by decide)) (by decide)
        rw [← ey30] at ty30 ry30
        refine lv_iinc (v := y30) (lv' := [(2, .int y30), (0, .ref a0), (1, .int x1)]) hx hb dX11_link_47 hl (k := 2) rfl (by rw [ey30]; rfl) (by decide) rfl (fun ls hl => ?_)
        refine lv_goto (tgt := 23) hx hb dX11_link_50 (by decide) ?_
        have f32 : I29 a0 (49) = I_23 a0 (49) := (by rw [eI29, u2_ne (ne_role k0 kb23 (by decide))])
        have f31 : z1 = I29 a0 (49) := em49_23.trans f32.symm
        exact ih_23 I29 _ _ _ y30 (lp_up hn_23 ty30 (Rg_ltc r22 (by decide))) hH hv oI sm r1_23 (Rg_w ry30 (by decide)) f31 (lv_sub hl [1, 2, 0] rfl)
      replace hv := fnP hv q7
      have l8 := Rg_le q7
      have r9 : Rg x2_23 (4) (4) := Rg_lle r2_23 (Rg_le q7) (Rg_c (x := 4) (a := (4)) (b := (4)) (by decide)) (by decide)
      refine lv_aload_n hx hb dX11_link_53 rfl (lv_at hl 0 rfl) ?_
      refine gf_11_50 vb2 hx hb hts hown hH m0 k0 rfl kf_X11_111 dX11_link_54 ?_
      refine lv_aload_n hx hb dX11_link_57 rfl (lv_at hl 0 rfl) ?_
      refine gf_11_49 hx hb hts hown hH m0 k0 rfl kf_X11_287 dX11_link_58 ?_
      refine lv_topi (fun y10 ey10 => ?_)
      obtain rfl : z1 = y10 := em49_23.trans ey10.symm
      refine lv_bipush (v := 6) hx hb dX11_link_61 (by decide) ?_
      refine lv_iload_n hx hb dX11_link_63 rfl (lv_at hl 1 rfl) ?_
      refine lv_imul hx hb dX11_link_64 ?_
      refine lv_topi (fun y11 ey11 => ?_)
      replace hv := fnS hv ey11
      obtain ⟨ty11, ry11⟩ := Rg_mulx (a' := (0)) (b' := (114)) (by decide : Int32.toInt 6 = 6) (rfl : x1.toInt = _) (Rg_c (x := 6) (a := (6)) (b := (6)) (by decide)) r1_23 (by decide)
      rw [← ey11] at ty11 ry11
      refine lv_aload_n hx hb dX11_link_65 rfl (lv_at hl 0 rfl) ?_
      refine gf_11_42 hx hb hts hown hH m0 k0 rfl kf_X11_259 dX11_link_66 ?_
      refine lv_topi (fun y12 ey12 => ?_)
      have ry12 : Rg y12 (0) (5) := by rw [ey12]; exact rf_11_42 oI m0 k0
      replace hv := fnS hv ey12
      refine lv_iadd hx hb dX11_link_69 ?_
      refine lv_topi (fun y13 ey13 => ?_)
      replace hv := fnS hv ey13
      obtain ⟨ty13, ry13⟩ := Rg_addx (a' := (0)) (b' := (119)) (rfl : y11.toInt = _) (rfl : y12.toInt = _) ry11 ry12 (by decide)
      rw [← ey13] at ty13 ry13
      refine st_97 hx hb hH mb2 kb2 (Rg_in rz1 (by decide)) dX11_link_70 (fun I14 H locs eI14 hH => ?_)
      replace hv := fnS hv eI14
      have oI : OkI L C I14 := by rw [eI14]; exact wr_97 oI kb2 ry13
      have sm : Sm C ms_X11_link (I, J, R) (I14, J, R) := by rw [eI14]; exact sm.stI kb2 (mC_arr (by decide) rfl)
      refine lv_aload_n hx hb dX11_link_71 rfl (lv_at hl 0 rfl) ?_
      refine lv_dup hx hb dX11_link_72 rfl ?_
      have f16 : I14 a0 (49) = I_23 a0 (49) := (by rw [eI14, u2_ne (ne_role k0 kb2 (by decide))])
      have f15 : z1 = I14 a0 (49) := em49_23.trans f16.symm
      refine gf_11_49 hx hb hts hown hH m0 k0 rfl kf_X11_287 dX11_link_73 ?_
      refine lv_topi (fun y17 ey17 => ?_)
      obtain rfl : z1 = y17 := f15.trans ey17.symm
      refine lv_iconst (v := 1) hx hb dX11_link_76 (by decide) ?_
      refine lv_iadd hx hb dX11_link_77 ?_
      refine lv_topi (fun y18 ey18 => ?_)
      replace hv := fnS hv ey18
      obtain ⟨ty18, ry18⟩ := Rg_addx (a' := (2)) (b' := (11)) (rfl : z1.toInt = _) (by decide : Int32.toInt 1 = 1) rz1 (Rg_c (x := 1) (a := (1)) (b := (1)) (by decide)) (by decide)
      rw [← ey18] at ty18 ry18
      refine pf_11_49 hx hb hts hown hH m0 k0 rfl kf_X11_287 dX11_link_78 (fun I19 H locs eI19 hH => ?_)
      replace hv := fnS hv eI19
      have oI : OkI L C I19 := by rw [eI19]; exact wf_11_49 oI k0 (Rg_w ry18 (by decide))
      have sm : Sm C ms_X11_link (I, J, R) (I19, J, R) := by rw [eI19]; exact sm.stI k0 (mC_obj (by decide) rfl)
      have f20 : y18 = I19 a0 49 := by rw [eI19, u2_at]
      refine lv_iconst (v := 1) hx hb dX11_link_81 (by decide) ?_
      exact ret (1) _ _ _ _ _ _ _ dX11_link_82 hH (Rg_01 (Rg_w (Rg_c (x := 1) (a := (1)) (b := (1)) (by decide)) (by decide))) ⟨⟨oI, oR, sm⟩, rfl, rfl, (Rg_w (Rg_c (x := 1) (a := (1)) (b := (1)) (by decide)) (by decide)), (by show Rg (I19 a0 49) _ _; rw [← f20]; exact Rg_w ry18 (by decide)), (by refine Or.inl ⟨rfl, ?_⟩; show (I19 a0 49).toInt = _; rw [← f20, ty18, ← ez1]), (hT.symm.trans hv)⟩
  refine lv_if_ne (tgt := 21) hx hb dX11_link_16 (by decide) (fun q33 => ?_) (fun q33 => ?_)
  rotate_left
  · replace hv := fnP hv q33
    have l38 := congrArg Int32.toInt q33
    have r39 : Rg y6 (0) (0) := Rg_both ry6 (Rg_eqv q33 (Rg_c (x := 0) (a := (0)) (b := (0)) (by decide))) (by decide)
    refine lv_iconst (v := 0) hx hb dX11_link_19 (by decide) ?_
    have f41 : I6 a0 (49) = I a0 (49) := ((sc6 a0 49 (by rw [k0]; exact (by decide))).1)
    have f40 : z1 = I6 a0 (49) := ez1.trans f41.symm
    exact ret (0) _ _ _ _ _ _ _ dX11_link_20 hH (Rg_01 (Rg_w (Rg_c (x := 0) (a := (0)) (b := (0)) (by decide)) (by decide))) ⟨⟨oI, oR, sm⟩, rfl, rfl, (Rg_w (Rg_c (x := 0) (a := (0)) (b := (0)) (by decide)) (by decide)), (by show Rg (I6 a0 49) _ _; rw [← f40]; exact Rg_w rz1 (by decide)), (by exact Or.inr rfl), (hT.symm.trans hv)⟩
  replace hv := fnN hv q33
  have l34 := Rg_ne q33
  have r35 : Rg y6 (1) (1) := Rg_nelo ry6 (Rg_ne q33) (Rg_c (x := 0) (a := (0)) (b := (0)) (by decide)) (by decide)
  refine lv_iconst (v := 0) hx hb dX11_link_21 (by decide) ?_
  refine lv_istore_n (lv' := [(2, .int 0), (0, .ref a0), (1, .int x1)]) hx hb dX11_link_22 rfl hl (by decide) rfl (fun ls hl => ?_)
  have f37 : I6 a0 (49) = I a0 (49) := ((sc6 a0 49 (by rw [k0]; exact (by decide))).1)
  have f36 : z1 = I6 a0 (49) := ez1.trans f37.symm
  exact L_23 ((4 - (0 : Int32).toInt).toNat + 1) I6 _ _ _ 0 (Nat.lt_succ_self _) hH hv oI sm h1 (Rg_w (Rg_c (x := 0) (a := (0)) (b := (0)) (by decide)) (by decide)) f36 (lv_sub hl [1, 2, 0] rfl)
noncomputable def B_X11_goIn_129 (a0 : Nat) (x1 : Int32) (y4 : Int32) (y3 : Int32) (b1 : Nat) (y2 : Int32) (k_129 : hI → hJ → hR → Int32 → (Int32 × hU)) (I_129 : hI) (J_129 : hJ) (R : hR) (x4_129 : Int32) : Int32 × hU :=
  nm ((R a0 10).getD 0) fun b5 => nm (I_129 b5 (Int32.toNatClampNeg y4)) fun y6 => (if y6 ≤ x4_129 then ((1 : Int32), (I_129, J_129, R)) else nm ((R a0 52).getD 0) fun b10 => nm ((R a0 53).getD 0) fun b11 => nm (J_129 b11 (Int32.toNatClampNeg x4_129)) fun w12 => nm (u2 J_129 b10 (Int32.toNatClampNeg x4_129) w12) fun J13 => nm (x4_129 + (1 : Int32)) fun y14 => k_129 I_129 J13 R y14)
noncomputable def F_X11_goIn_129 (a0 : Nat) (x1 : Int32) (y4 : Int32) (y3 : Int32) (b1 : Nat) (y2 : Int32) : Nat → hI → hJ → hR → Int32 → (Int32 × hU) := fun n => Nat.rec (motive := fun _ => hI → hJ → hR → Int32 → (Int32 × hU)) (fun _ _ _ _ => default) (fun _ k => B_X11_goIn_129 a0 x1 y4 y3 b1 y2 k) n
theorem F_X11_goIn_129_s {a0 : Nat} {x1 : Int32} {y4 : Int32} {y3 : Int32} {b1 : Nat} {y2 : Int32} {n : Nat} {I_129 : hI} {J_129 : hJ} {R : hR} {x4_129 : Int32} : F_X11_goIn_129 a0 x1 y4 y3 b1 y2 (n + 1)  I_129 J_129 R x4_129 = B_X11_goIn_129 a0 x1 y4 y3 b1 y2 (F_X11_goIn_129 a0 x1 y4 y3 b1 y2 n)  I_129 J_129 R x4_129 := rfl
noncomputable def F_X11_goIn_120 (a0 : Nat) (x1 : Int32) (y4 : Int32) (y3 : Int32) (b1 : Nat) (y2 : Int32) (x4_19 : Int32) (k_19 : hI → hJ → hR → Int32 → (Int32 × hU)) (I_120 : hI) (J_120 : hJ) (R : hR) : Int32 × hU :=
  nm (x4_19 + (1 : Int32)) fun y15 => k_19 I_120 J_120 R y15
noncomputable def B_X11_goIn_19 (a0 : Nat) (x1 : Int32) (y4 : Int32) (y3 : Int32) (b1 : Nat) (y2 : Int32) (k_19 : hI → hJ → hR → Int32 → (Int32 × hU)) (I_19 : hI) (J_19 : hJ) (R : hR) (x4_19 : Int32) : Int32 × hU :=
  nm ((R a0 10).getD 0) fun b16 => nm (I_19 b16 (Int32.toNatClampNeg y4)) fun y17 => (if y17 ≤ x4_19 then F_X11_goIn_129 a0 x1 y4 y3 b1 y2 ((4 - (0 : Int32).toInt).toNat + 1) I_19 J_19 R (0 : Int32) else nm ((R a0 11).getD 0) fun b21 => nm ((4 : Int32) * y4) fun y22 => nm (y22 + x4_19) fun y23 => nm (I_19 b21 (Int32.toNatClampNeg y23)) fun y24 => nm ((R a0 51).getD 0) fun b25 => nm ((4 : Int32) * x1) fun y26 => nm (y26 + x4_19) fun y27 => nm (I_19 b25 (Int32.toNatClampNeg y27)) fun y28 => (if y28 = (4 : Int32) then nm ((R a0 53).getD 0) fun b44 => nm ((R a0 20).getD 0) fun b45 => nm (J_19 b45 (Int32.toNatClampNeg y24)) fun w46 => nm (u2 J_19 b44 (Int32.toNatClampNeg x4_19) w46) fun J47 => F_X11_goIn_120 a0 x1 y4 y3 b1 y2 x4_19 k_19 I_19 J47 R else nm ((4 : Int32) * y3) fun y31 => nm (y31 + y28) fun y32 => nm (I_19 b21 (Int32.toNatClampNeg y32)) fun y33 => nm ((R a0 52).getD 0) fun b34 => nm (J_19 b34 (Int32.toNatClampNeg y28)) fun w35 => nmU (F_X11_turnIt a0 y33 y24 w35 (1 : Int32) I_19 J_19 R) fun y36 I36 J36 _ => (if y36 = (0 : Int32) then ((0 : Int32), (I36, J36, R)) else nm ((R a0 53).getD 0) fun b39 => nm (J36 a0 37) fun w40 => nm (u2 J36 b39 (Int32.toNatClampNeg x4_19) w40) fun J41 => F_X11_goIn_120 a0 x1 y4 y3 b1 y2 x4_19 k_19 I36 J41 R)))
noncomputable def F_X11_goIn_19 (a0 : Nat) (x1 : Int32) (y4 : Int32) (y3 : Int32) (b1 : Nat) (y2 : Int32) : Nat → hI → hJ → hR → Int32 → (Int32 × hU) := fun n => Nat.rec (motive := fun _ => hI → hJ → hR → Int32 → (Int32 × hU)) (fun _ _ _ _ => default) (fun _ k => B_X11_goIn_19 a0 x1 y4 y3 b1 y2 k) n
theorem F_X11_goIn_19_s {a0 : Nat} {x1 : Int32} {y4 : Int32} {y3 : Int32} {b1 : Nat} {y2 : Int32} {n : Nat} {I_19 : hI} {J_19 : hJ} {R : hR} {x4_19 : Int32} : F_X11_goIn_19 a0 x1 y4 y3 b1 y2 (n + 1)  I_19 J_19 R x4_19 = B_X11_goIn_19 a0 x1 y4 y3 b1 y2 (F_X11_goIn_19 a0 x1 y4 y3 b1 y2 n)  I_19 J_19 R x4_19 := rfl
noncomputable def F_X11_goIn (a0 : Nat) (x1 : Int32) (I : hI) (J : hJ) (R : hR) : Int32 × hU :=
  nm ((R a0 50).getD 0) fun b1 => nm (x1 - (1 : Int32)) fun y2 => nm (I b1 (Int32.toNatClampNeg y2)) fun y3 => nm (I b1 (Int32.toNatClampNeg x1)) fun y4 => F_X11_goIn_19 a0 x1 y4 y3 b1 y2 ((4 - (0 : Int32).toInt).toNat + 1) I J R (0 : Int32)
def ms_X11_goIn : List Nat := [730, 731, 732, 735, 741, 6336, 6400]
set_option maxHeartbeats 4000000 in
set_option maxRecDepth 100000 in
theorem c_X11_goIn {l : Launch} {D : va_G} {cy : Nat → ClassId} {L : List Nat} {C : Nat → Nat} {b0 : Nat} {I : hI} {J : hJ} {R : hR} {a0 : Nat} {x1 : Int32} (oI : OkI L C I) (oR : OkR L C R) (m0 : a0 ∈ L) (k0 : C a0 = 11) (h1 : Rg x1 (1) (10)) : CI l yX11_goIn cX11_goIn 7 .boolean 4 D cy L C b0 [.ref a0, .int x1] (I, J, R) (fun r v => Ps L C ms_X11_goIn (I, J, R) v ∧ v.2.2 = R ∧ Rg r (0) (1) ∧ F_X11_goIn a0 x1 I J R = (r, v)) := by
  refine CI.mkZ (plainFor_of_name (by decide)) (Nat.le_of_ble_eq_true rfl) ?_
  intro p e s m args below meth c ls Q hF ret hH hl
  obtain ⟨hx, hb, -, hml, hown, hts, -⟩ := hF
  have hl : lv_has ls 7 [(0, .ref a0), (1, .int x1)] := hl
  have hH : Hp D cy L C b0 s s.heap I J R s.heap [] := hH
  have sm : Sm C ms_X11_goIn (I, J, R) (I, J, R) := Sm.rf
  obtain ⟨TT0, hT⟩ : ∃ TT0, TT0 = F_X11_goIn a0 x1 I J R := ⟨_, rfl⟩
  have hv := hT
  unfold F_X11_goIn at hv
  refine lv_aload_n hx hb dX11_goIn_0 rfl (lv_at hl 0 rfl) ?_
  obtain ⟨b1, mb1, vb1, kb1⟩ := rf_11_50 oR m0 k0
  replace hv := fnR hv vb1
  refine gf_11_50 vb1 hx hb hts hown hH m0 k0 rfl kf_X11_111 dX11_goIn_1 ?_
  refine lv_iload_n hx hb dX11_goIn_4 rfl (lv_at hl 1 rfl) ?_
  refine lv_iconst (v := 1) hx hb dX11_goIn_5 (by decide) ?_
  refine lv_isub hx hb dX11_goIn_6 ?_
  refine lv_topi (fun y2 ey2 => ?_)
  replace hv := fnS hv ey2
  obtain ⟨ty2, ry2⟩ := Rg_subx (a' := (0)) (b' := (9)) (rfl : x1.toInt = _) (by decide : Int32.toInt 1 = 1) h1 (Rg_c (x := 1) (a := (1)) (b := (1)) (by decide)) (by decide)
  rw [← ey2] at ty2 ry2
  refine ld_97 hx hb hH mb1 kb1 (Rg_in ry2 (by decide)) dX11_goIn_7 ?_
  refine lv_topi (fun y3 ey3 => ?_)
  have ry3 : Rg y3 (0) (119) := by rw [ey3]; exact rd_97 oI mb1 kb1 (Rg_in ry2 (by decide))
  replace hv := fnS hv ey3
  refine lv_istore_n (lv' := [(2, .int y3), (0, .ref a0), (1, .int x1)]) hx hb dX11_goIn_8 rfl hl (by decide) rfl (fun ls hl => ?_)
  refine lv_aload_n hx hb dX11_goIn_9 rfl (lv_at hl 1 rfl) ?_
  refine gf_11_50 vb1 hx hb hts hown hH m0 k0 rfl kf_X11_111 dX11_goIn_10 ?_
  refine lv_iload_n hx hb dX11_goIn_13 rfl (lv_at hl 2 rfl) ?_
  refine ld_97 hx hb hH mb1 kb1 (Rg_in h1 (by decide)) dX11_goIn_14 ?_
  refine lv_topi (fun y4 ey4 => ?_)
  have ry4 : Rg y4 (0) (119) := by rw [ey4]; exact rd_97 oI mb1 kb1 (Rg_in h1 (by decide))
  replace hv := fnS hv ey4
  refine lv_istore_n (lv' := [(3, .int y4), (2, .int y3), (0, .ref a0), (1, .int x1)]) hx hb dX11_goIn_15 rfl hl (by decide) rfl (fun ls hl => ?_)
  refine lv_iconst (v := 0) hx hb dX11_goIn_16 (by decide) ?_
  refine lv_istore (lv' := [(4, .int 0), (3, .int y4), (2, .int y3), (0, .ref a0), (1, .int x1)]) hx hb dX11_goIn_17 hl (by decide) rfl (fun ls hl => ?_)
  have L_129 : ∀ (n_129 : Nat) (I_129 : hI) (J_129 : hJ) (H : Heap) (locs : List Loc) (ls : Array Slot) (x4_129 : Int32), (4 - x4_129.toInt).toNat < n_129 → Hp D cy L C b0 s s.heap I_129 J_129 R H locs → TT0 = F_X11_goIn_129 a0 x1 y4 y3 b1 y2 n_129 I_129 J_129 R x4_129 → OkI L C I_129 → Sm C ms_X11_goIn (I, J, R) (I_129, J_129, R) → Rg y4 (0) (119) → Rg x4_129 (0) (4) → lv_has ls 7 [(0, .ref a0), (3, .int y4), (4, .int x4_129)] → W p l e (rmD 4) s m args below meth c H locs 0 0 Q (F0 m 129 ls []) := by
    intro n_129
    induction n_129 with
    | zero => intro I_129 J_129 H locs ls x4_129 h; exact absurd h (Nat.not_lt_zero _)
    | succ n_129 ih_129 =>
      intro I_129 J_129 H locs ls x4_129 hn_129 hH hv oI sm r3_129 r4_129 hl
      replace hv := hv.trans F_X11_goIn_129_s
      unfold B_X11_goIn_129 at hv
      refine lv_iload hx hb dX11_goIn_129 (lv_at hl 2 rfl) ?_
      refine lv_aload_n hx hb dX11_goIn_131 rfl (lv_at hl 0 rfl) ?_
      obtain ⟨b5, mb5, vb5, kb5⟩ := rf_11_10 oR m0 k0
      replace hv := fnR hv vb5
      refine gf_11_10 vb5 hx hb hts hown hH m0 k0 rfl kf_X11_35 dX11_goIn_132 ?_
      refine lv_iload_n hx hb dX11_goIn_135 rfl (lv_at hl 1 rfl) ?_
      refine ld_72 hx hb hH mb5 kb5 (Rg_in r3_129 (by decide)) dX11_goIn_136 ?_
      refine lv_topi (fun y6 ey6 => ?_)
      have ry6 : Rg y6 (0) (4) := by rw [ey6]; exact rd_72 oI mb5 kb5 (Rg_in r3_129 (by decide))
      replace hv := fnS hv ey6
      refine lv_icmp_ge (tgt := 160) hx hb dX11_goIn_137 (by decide) (fun q7 => ?_) (fun q7 => ?_)
      · replace hv := fnP hv q7
        refine lv_iconst (v := 1) hx hb dX11_goIn_160 (by decide) ?_
        exact ret (1) _ _ _ _ _ _ _ dX11_goIn_161 hH (Rg_01 (Rg_w (Rg_c (x := 1) (a := (1)) (b := (1)) (by decide)) (by decide))) ⟨⟨oI, oR, sm⟩, rfl, (Rg_w (Rg_c (x := 1) (a := (1)) (b := (1)) (by decide)) (by decide)), (hT.symm.trans hv)⟩
      replace hv := fnN hv q7
      have r8 : Rg x4_129 (0) (3) := Rg_ult r4_129 (Rg_nle q7) ry6 (by decide)
      have r9 : Rg y6 (1) (4) := Rg_llt ry6 (Rg_nle q7) r4_129 (by decide)
      refine lv_aload_n hx hb dX11_goIn_140 rfl (lv_at hl 0 rfl) ?_
      obtain ⟨b10, mb10, vb10, kb10⟩ := rf_11_52 oR m0 k0
      replace hv := fnR hv vb10
      refine gf_11_52 vb10 hx hb hts hown hH m0 k0 rfl kf_X11_117 dX11_goIn_141 ?_
      refine lv_iload hx hb dX11_goIn_144 (lv_at hl 2 rfl) ?_
      refine lv_aload_n hx hb dX11_goIn_146 rfl (lv_at hl 0 rfl) ?_
      obtain ⟨b11, mb11, vb11, kb11⟩ := rf_11_53 oR m0 k0
      replace hv := fnR hv vb11
      refine gf_11_53 vb11 hx hb hts hown hH m0 k0 rfl kf_X11_120 dX11_goIn_147 ?_
      refine lv_iload hx hb dX11_goIn_150 (lv_at hl 2 rfl) ?_
      refine ld_100 hx hb hH mb11 kb11 (Rg_in r8 (by decide)) dX11_goIn_152 ?_
      refine lv_topl (fun w12 ew12 => ?_)
      replace hv := fnS hv ew12
      refine st_99 hx hb hH mb10 kb10 (Rg_in r8 (by decide)) dX11_goIn_153 (fun J13 H locs eJ13 hH => ?_)
      replace hv := fnS hv eJ13
      have sm : Sm C ms_X11_goIn (I, J, R) (I_129, J13, R) := by rw [eJ13]; exact sm.stJ kb10 (mC_arr (by decide) rfl)
      obtain ⟨y14, ey14⟩ : ∃ y : Int32, y = x4_129 + 1 := ⟨_, rfl⟩
      replace hv := fnS hv ey14
      obtain ⟨ty14, ry14⟩ := Rg_addx (a' := (1)) (b' := (4)) (rfl : x4_129.toInt = _) (by decide : Int32.toInt 1 = 1) r8 (Rg_c (x := 1) (a := (1)) (b := (1)) (by decide)) (by decide)
      rw [← ey14] at ty14 ry14
      refine lv_iinc (v := y14) (lv' := [(4, .int y14), (0, .ref a0), (3, .int y4)]) hx hb dX11_goIn_154 hl (k := 2) rfl (by rw [ey14]; rfl) (by decide) rfl (fun ls hl => ?_)
      refine lv_goto (tgt := 129) hx hb dX11_goIn_157 (by decide) ?_
      exact ih_129 I_129 J13 _ _ _ y14 (lp_up hn_129 ty14 (Rg_ltc r8 (by decide))) hH hv oI sm r3_129 (Rg_w ry14 (by decide)) (lv_sub hl [1, 2, 0] rfl)
  have L_19 : ∀ (n_19 : Nat) (I_19 : hI) (J_19 : hJ) (H : Heap) (locs : List Loc) (ls : Array Slot) (x4_19 : Int32), (4 - x4_19.toInt).toNat < n_19 → Hp D cy L C b0 s s.heap I_19 J_19 R H locs → TT0 = F_X11_goIn_19 a0 x1 y4 y3 b1 y2 n_19 I_19 J_19 R x4_19 → OkI L C I_19 → Sm C ms_X11_goIn (I, J, R) (I_19, J_19, R) → Rg x1 (1) (10) → Rg y3 (0) (119) → Rg y4 (0) (119) → Rg x4_19 (0) (4) → lv_has ls 7 [(0, .ref a0), (1, .int x1), (2, .int y3), (3, .int y4), (4, .int x4_19)] → W p l e (rmD 4) s m args below meth c H locs 0 0 Q (F0 m 19 ls []) := by
    intro n_19
    induction n_19 with
    | zero => intro I_19 J_19 H locs ls x4_19 h; exact absurd h (Nat.not_lt_zero _)
    | succ n_19 ih_19 =>
      intro I_19 J_19 H locs ls x4_19 hn_19 hH hv oI sm r1_19 r2_19 r3_19 r4_19 hl
      replace hv := hv.trans F_X11_goIn_19_s
      unfold B_X11_goIn_19 at hv
      have L_120 : ∀ (I_120 : hI) (J_120 : hJ) (H : Heap) (locs : List Loc) (ls : Array Slot), Hp D cy L C b0 s s.heap I_120 J_120 R H locs → TT0 = F_X11_goIn_120 a0 x1 y4 y3 b1 y2 x4_19 (F_X11_goIn_19 a0 x1 y4 y3 b1 y2 n_19) I_120 J_120 R → OkI L C I_120 → Sm C ms_X11_goIn (I, J, R) (I_120, J_120, R) → Rg x1 (1) (10) → Rg y3 (0) (119) → Rg y4 (0) (119) → Rg x4_19 (0) (3) → lv_has ls 7 [(0, .ref a0), (1, .int x1), (2, .int y3), (3, .int y4), (4, .int x4_19)] → W p l e (rmD 4) s m args below meth c H locs 0 0 Q (F0 m 120 ls []) := by
        intro I_120 J_120 H locs ls hH hv oI sm r1_120 r2_120 r3_120 r4_120 hl
        unfold F_X11_goIn_120 at hv
        obtain ⟨y15, ey15⟩ : ∃ y : Int32, y = x4_19 + 1 := ⟨_, rfl⟩
        replace hv := fnS hv ey15
        obtain ⟨ty15, ry15⟩ := Rg_addx (a' := (1)) (b' := (4)) (rfl : x4_19.toInt = _) (by decide : Int32.toInt 1 = 1) r4_120 (Rg_c (x := 1) (a := (1)) (b := (1)) (by decide)) (by decide)
        rw [← ey15] at ty15 ry15
        refine lv_iinc (v := y15) (lv' := [(4, .int y15), (0, .ref a0), (1, .int x1), (2, .int y3), (3, .int y4)]) hx hb dX11_goIn_120 hl (k := 4) rfl (by rw [ey15]; rfl) (by decide) rfl (fun ls hl => ?_)
        refine lv_goto (tgt := 19) hx hb dX11_goIn_123 (by decide) ?_
        exact ih_19 I_120 J_120 _ _ _ y15 (lp_up hn_19 ty15 (Rg_ltc r4_120 (by decide))) hH hv oI sm r1_120 r2_120 r3_120 (Rg_w ry15 (by decide)) (lv_sub hl [1, 2, 3, 4, 0] rfl)
      refine lv_iload hx hb dX11_goIn_19 (lv_at hl 4 rfl) ?_
      refine lv_aload_n hx hb dX11_goIn_21 rfl (lv_at hl 0 rfl) ?_
      obtain ⟨b16, mb16, vb16, kb16⟩ := rf_11_10 oR m0 k0
      replace hv := fnR hv vb16
      refine gf_11_10 vb16 hx hb hts hown hH m0 k0 rfl kf_X11_35 dX11_goIn_22 ?_
      refine lv_iload_n hx hb dX11_goIn_25 rfl (lv_at hl 3 rfl) ?_
      refine ld_72 hx hb hH mb16 kb16 (Rg_in r3_19 (by decide)) dX11_goIn_26 ?_
      refine lv_topi (fun y17 ey17 => ?_)
      have ry17 : Rg y17 (0) (4) := by rw [ey17]; exact rd_72 oI mb16 kb16 (Rg_in r3_19 (by decide))
      replace hv := fnS hv ey17
      refine lv_icmp_ge (tgt := 126) hx hb dX11_goIn_27 (by decide) (fun q18 => ?_) (fun q18 => ?_)
      · replace hv := fnP hv q18
        refine lv_iconst (v := 0) hx hb dX11_goIn_126 (by decide) ?_
        refine lv_istore (lv' := [(4, .int 0), (0, .ref a0), (1, .int x1), (2, .int y3), (3, .int y4)]) hx hb dX11_goIn_127 hl (by decide) rfl (fun ls hl => ?_)
        exact L_129 ((4 - (0 : Int32).toInt).toNat + 1) I_19 J_19 _ _ _ 0 (Nat.lt_succ_self _) hH hv oI sm r3_19 (Rg_w (Rg_c (x := 0) (a := (0)) (b := (0)) (by decide)) (by decide)) (lv_sub hl [1, 4, 0] rfl)
      replace hv := fnN hv q18
      have r19 : Rg x4_19 (0) (3) := Rg_ult r4_19 (Rg_nle q18) ry17 (by decide)
      have r20 : Rg y17 (1) (4) := Rg_llt ry17 (Rg_nle q18) r4_19 (by decide)
      refine lv_aload_n hx hb dX11_goIn_30 rfl (lv_at hl 0 rfl) ?_
      obtain ⟨b21, mb21, vb21, kb21⟩ := rf_11_11 oR m0 k0
      replace hv := fnR hv vb21
      refine gf_11_11 vb21 hx hb hts hown hH m0 k0 rfl kf_X11_38 dX11_goIn_31 ?_
      refine lv_iconst (v := 4) hx hb dX11_goIn_34 (by decide) ?_
      refine lv_iload_n hx hb dX11_goIn_35 rfl (lv_at hl 3 rfl) ?_
      refine lv_imul hx hb dX11_goIn_36 ?_
      refine lv_topi (fun y22 ey22 => ?_)
      replace hv := fnS hv ey22
      obtain ⟨ty22, ry22⟩ := Rg_mulx (a' := (0)) (b' := (476)) (by decide : Int32.toInt 4 = 4) (rfl : y4.toInt = _) (Rg_c (x := 4) (a := (4)) (b := (4)) (by decide)) r3_19 (by decide)
      rw [← ey22] at ty22 ry22
      refine lv_iload hx hb dX11_goIn_37 (lv_at hl 4 rfl) ?_
      refine lv_iadd hx hb dX11_goIn_39 ?_
      refine lv_topi (fun y23 ey23 => ?_)
      replace hv := fnS hv ey23
      obtain ⟨ty23, ry23⟩ := Rg_addx (a' := (0)) (b' := (479)) (rfl : y22.toInt = _) (rfl : x4_19.toInt = _) ry22 r19 (by decide)
      rw [← ey23] at ty23 ry23
      refine ld_73 hx hb hH mb21 kb21 (Rg_in ry23 (by decide)) dX11_goIn_40 ?_
      refine lv_topi (fun y24 ey24 => ?_)
      have ry24 : Rg y24 (0) (6) := by rw [ey24]; exact rd_73 oI mb21 kb21 (Rg_in ry23 (by decide))
      replace hv := fnS hv ey24
      refine lv_istore (lv' := [(5, .int y24), (0, .ref a0), (1, .int x1), (2, .int y3), (3, .int y4), (4, .int x4_19)]) hx hb dX11_goIn_41 hl (by decide) rfl (fun ls hl => ?_)
      refine lv_aload_n hx hb dX11_goIn_43 rfl (lv_at hl 1 rfl) ?_
      obtain ⟨b25, mb25, vb25, kb25⟩ := rf_11_51 oR m0 k0
      replace hv := fnR hv vb25
      refine gf_11_51 vb25 hx hb hts hown hH m0 k0 rfl kf_X11_114 dX11_goIn_44 ?_
      refine lv_iconst (v := 4) hx hb dX11_goIn_47 (by decide) ?_
      refine lv_iload_n hx hb dX11_goIn_48 rfl (lv_at hl 2 rfl) ?_
      refine lv_imul hx hb dX11_goIn_49 ?_
      refine lv_topi (fun y26 ey26 => ?_)
      replace hv := fnS hv ey26
      obtain ⟨ty26, ry26⟩ := Rg_mulx (a' := (4)) (b' := (40)) (by decide : Int32.toInt 4 = 4) (rfl : x1.toInt = _) (Rg_c (x := 4) (a := (4)) (b := (4)) (by decide)) r1_19 (by decide)
      rw [← ey26] at ty26 ry26
      refine lv_iload hx hb dX11_goIn_50 (lv_at hl 5 rfl) ?_
      refine lv_iadd hx hb dX11_goIn_52 ?_
      refine lv_topi (fun y27 ey27 => ?_)
      replace hv := fnS hv ey27
      obtain ⟨ty27, ry27⟩ := Rg_addx (a' := (4)) (b' := (43)) (rfl : y26.toInt = _) (rfl : x4_19.toInt = _) ry26 r19 (by decide)
      rw [← ey27] at ty27 ry27
      refine ld_98 hx hb hH mb25 kb25 (Rg_in ry27 (by decide)) dX11_goIn_53 ?_
      refine lv_topi (fun y28 ey28 => ?_)
      have ry28 : Rg y28 (0) (4) := by rw [ey28]; exact rd_98 oI mb25 kb25 (Rg_in ry27 (by decide))
      replace hv := fnS hv ey28
      refine lv_istore (lv' := [(6, .int y28), (5, .int y24), (0, .ref a0), (1, .int x1), (2, .int y3), (3, .int y4), (4, .int x4_19)]) hx hb dX11_goIn_54 hl (by decide) rfl (fun ls hl => ?_)
      refine lv_iload hx hb dX11_goIn_56 (lv_at hl 0 rfl) ?_
      refine lv_iconst (v := 4) hx hb dX11_goIn_58 (by decide) ?_
      refine lv_icmp_ne (tgt := 79) hx hb dX11_goIn_59 (by decide) (fun q29 => ?_) (fun q29 => ?_)
      rotate_left
      · replace hv := fnP hv q29
        have r43 : Rg y28 (4) (4) := Rg_both ry28 (Rg_eqv q29 (Rg_c (x := 4) (a := (4)) (b := (4)) (by decide))) (by decide)
        refine lv_aload_n hx hb dX11_goIn_62 rfl (lv_at hl 2 rfl) ?_
        obtain ⟨b44, mb44, vb44, kb44⟩ := rf_11_53 oR m0 k0
        replace hv := fnR hv vb44
        refine gf_11_53 vb44 hx hb hts hown hH m0 k0 rfl kf_X11_120 dX11_goIn_63 ?_
        refine lv_iload hx hb dX11_goIn_66 (lv_at hl 6 rfl) ?_
        refine lv_aload_n hx hb dX11_goIn_68 rfl (lv_at hl 2 rfl) ?_
        obtain ⟨b45, mb45, vb45, kb45⟩ := rf_11_20 oR m0 k0
        replace hv := fnR hv vb45
        refine gf_11_20 vb45 hx hb hts hown hH m0 k0 rfl kf_X11_62 dX11_goIn_69 ?_
        refine lv_iload hx hb dX11_goIn_72 (lv_at hl 1 rfl) ?_
        refine ld_81 hx hb hH mb45 kb45 (Rg_in ry24 (by decide)) dX11_goIn_74 ?_
        refine lv_topl (fun w46 ew46 => ?_)
        replace hv := fnS hv ew46
        refine st_100 hx hb hH mb44 kb44 (Rg_in r19 (by decide)) dX11_goIn_75 (fun J47 H locs eJ47 hH => ?_)
        replace hv := fnS hv eJ47
        have sm : Sm C ms_X11_goIn (I, J, R) (I_19, J47, R) := by rw [eJ47]; exact sm.stJ kb44 (mC_arr (by decide) rfl)
        refine lv_goto (tgt := 120) hx hb dX11_goIn_76 (by decide) ?_
        exact L_120 I_19 J47 _ _ _ hH hv oI sm r1_19 r2_19 r3_19 r19 (lv_sub hl [2, 3, 4, 5, 6] rfl)
      replace hv := fnN hv q29
      have r30 : Rg y28 (0) (3) := Rg_nehi ry28 (Rg_ne q29) (Rg_c (x := 4) (a := (4)) (b := (4)) (by decide)) (by decide)
      refine lv_aload_n hx hb dX11_goIn_79 rfl (lv_at hl 2 rfl) ?_
      refine lv_aload_n hx hb dX11_goIn_80 rfl (lv_at hl 2 rfl) ?_
      refine gf_11_11 vb21 hx hb hts hown hH m0 k0 rfl kf_X11_38 dX11_goIn_81 ?_
      refine lv_iconst (v := 4) hx hb dX11_goIn_84 (by decide) ?_
      refine lv_iload_n hx hb dX11_goIn_85 rfl (lv_at hl 4 rfl) ?_
      refine lv_imul hx hb dX11_goIn_86 ?_
      refine lv_topi (fun y31 ey31 => ?_)
      replace hv := fnS hv ey31
      obtain ⟨ty31, ry31⟩ := Rg_mulx (a' := (0)) (b' := (476)) (by decide : Int32.toInt 4 = 4) (rfl : y3.toInt = _) (Rg_c (x := 4) (a := (4)) (b := (4)) (by decide)) r2_19 (by decide)
      rw [← ey31] at ty31 ry31
      refine lv_iload hx hb dX11_goIn_87 (lv_at hl 0 rfl) ?_
      refine lv_iadd hx hb dX11_goIn_89 ?_
      refine lv_topi (fun y32 ey32 => ?_)
      replace hv := fnS hv ey32
      obtain ⟨ty32, ry32⟩ := Rg_addx (a' := (0)) (b' := (479)) (rfl : y31.toInt = _) (rfl : y28.toInt = _) ry31 r30 (by decide)
      rw [← ey32] at ty32 ry32
      refine ld_73 hx hb hH mb21 kb21 (Rg_in ry32 (by decide)) dX11_goIn_90 ?_
      refine lv_topi (fun y33 ey33 => ?_)
      have ry33 : Rg y33 (0) (6) := by rw [ey33]; exact rd_73 oI mb21 kb21 (Rg_in ry32 (by decide))
      replace hv := fnS hv ey33
      refine lv_iload hx hb dX11_goIn_91 (lv_at hl 1 rfl) ?_
      refine lv_aload_n hx hb dX11_goIn_93 rfl (lv_at hl 2 rfl) ?_
      obtain ⟨b34, mb34, vb34, kb34⟩ := rf_11_52 oR m0 k0
      replace hv := fnR hv vb34
      refine gf_11_52 vb34 hx hb hts hown hH m0 k0 rfl kf_X11_117 dX11_goIn_94 ?_
      refine lv_iload hx hb dX11_goIn_97 (lv_at hl 0 rfl) ?_
      refine ld_99 hx hb hH mb34 kb34 (Rg_in r30 (by decide)) dX11_goIn_99 ?_
      refine lv_topl (fun w35 ew35 => ?_)
      replace hv := fnS hv ew35
      refine lv_iconst (v := 1) hx hb dX11_goIn_100 (by decide) ?_
      refine ca_X11_212 hx hb hml hown hts hH (c_X11_turnIt oI oR m0 k0 ry33 ry24) hl.1 m0 k0 rfl (by decide) (Nat.le_of_ble_eq_true rfl) ⟨Nat.zero_le _, Nat.zero_le _⟩ dX11_goIn_101 (fun y36 I36 J36 R36 H locs hp hH => ?_)
      obtain ⟨⟨oI, -, sc36⟩, eR36, ry36, hf36⟩ := hp
      obtain rfl : R = R36 := eR36.symm
      replace hv := fnC hv hf36
      have sm : Sm C ms_X11_goIn (I, J, R) (I36, J36, R) := sm.tr sc36 rfl
      refine lv_if_ne (tgt := 109) hx hb dX11_goIn_104 (by decide) (fun q37 => ?_) (fun q37 => ?_)
      rotate_left
      · replace hv := fnP hv q37
        have r42 : Rg y36 (0) (0) := Rg_both ry36 (Rg_eqv q37 (Rg_c (x := 0) (a := (0)) (b := (0)) (by decide))) (by decide)
        refine lv_iconst (v := 0) hx hb dX11_goIn_107 (by decide) ?_
        exact ret (0) _ _ _ _ _ _ _ dX11_goIn_108 hH (Rg_01 (Rg_w (Rg_c (x := 0) (a := (0)) (b := (0)) (by decide)) (by decide))) ⟨⟨oI, oR, sm⟩, rfl, (Rg_w (Rg_c (x := 0) (a := (0)) (b := (0)) (by decide)) (by decide)), (hT.symm.trans hv)⟩
      replace hv := fnN hv q37
      have r38 : Rg y36 (1) (1) := Rg_nelo ry36 (Rg_ne q37) (Rg_c (x := 0) (a := (0)) (b := (0)) (by decide)) (by decide)
      refine lv_aload_n hx hb dX11_goIn_109 rfl (lv_at hl 2 rfl) ?_
      obtain ⟨b39, mb39, vb39, kb39⟩ := rf_11_53 oR m0 k0
      replace hv := fnR hv vb39
      refine gf_11_53 vb39 hx hb hts hown hH m0 k0 rfl kf_X11_120 dX11_goIn_110 ?_
      refine lv_iload hx hb dX11_goIn_113 (lv_at hl 6 rfl) ?_
      refine lv_aload_n hx hb dX11_goIn_115 rfl (lv_at hl 2 rfl) ?_
      refine gf_11_37 hx hb hts hown hH m0 k0 rfl kf_X11_202 dX11_goIn_116 ?_
      refine lv_topl (fun w40 ew40 => ?_)
      replace hv := fnS hv ew40
      refine st_100 hx hb hH mb39 kb39 (Rg_in r19 (by decide)) dX11_goIn_119 (fun J41 H locs eJ41 hH => ?_)
      replace hv := fnS hv eJ41
      have sm : Sm C ms_X11_goIn (I, J, R) (I36, J41, R) := by rw [eJ41]; exact sm.stJ kb39 (mC_arr (by decide) rfl)
      exact L_120 I36 J41 _ _ _ hH hv oI sm r1_19 r2_19 r3_19 r19 (lv_sub hl [2, 3, 4, 5, 6] rfl)
  exact L_19 ((4 - (0 : Int32).toInt).toNat + 1) I J _ _ _ 0 (Nat.lt_succ_self _) hH hv oI sm h1 ry3 ry4 (Rg_w (Rg_c (x := 0) (a := (0)) (b := (0)) (by decide)) (by decide)) (lv_sub hl [3, 4, 2, 1, 0] rfl)
noncomputable def F_X11_doWork_257 (a0 : Nat) (x1 : Int32) (x2 : Int32) (y4 : Int32) (y6 : Int32) (y3 : Int32) (b2 : Nat) (b5 : Nat) (y1 : Int32) (I : hI) (J_257 : hJ) (R : hR) : Int32 × hU :=
  ((1 : Int32), (I, J_257, R))
noncomputable def F_X11_doWork_235 (a0 : Nat) (x1 : Int32) (x2 : Int32) (y4 : Int32) (y6 : Int32) (y3 : Int32) (b2 : Nat) (b5 : Nat) (y1 : Int32) (I : hI) (J_235 : hJ) (R : hR) : Int32 × hU :=
  ((0 : Int32), (I, J_235, R))
noncomputable def F_X11_doWork_214 (a0 : Nat) (x1 : Int32) (x2 : Int32) (y4 : Int32) (y6 : Int32) (y3 : Int32) (b2 : Nat) (b5 : Nat) (y1 : Int32) (I : hI) (J_214 : hJ) (R : hR) (x4_214 : Int32) : Int32 × hU :=
  (if x4_214 = (0 : Int32) then F_X11_doWork_235 a0 x1 x2 y4 y6 y3 b2 b5 y1 I J_214 R else nm ((R a0 12).getD 0) fun b10 => nm (I b10 (Int32.toNatClampNeg x1)) fun y11 => nm (J_214 a0 54) fun w12 => nm (F_X11_isOf y11 w12) fun y13 => (if y13 = (0 : Int32) then F_X11_doWork_235 a0 x1 x2 y4 y6 y3 b2 b5 y1 I J_214 R else (if y6 = (2 : Int32) then nm ((R a0 23).getD 0) fun b20 => nm (J_214 a0 55) fun w22 => nm (u2 J_214 b20 (Int32.toNatClampNeg y4) w22) fun J23 => F_X11_doWork_257 a0 x1 x2 y4 y6 y3 b2 b5 y1 I J23 R else F_X11_doWork_257 a0 x1 x2 y4 y6 y3 b2 b5 y1 I J_214 R)))
noncomputable def F_X11_doWork_191 (a0 : Nat) (x1 : Int32) (x2 : Int32) (y4 : Int32) (y6 : Int32) (y3 : Int32) (b2 : Nat) (b5 : Nat) (y1 : Int32) (I : hI) (J_191 : hJ) (R : hR) (xs0_191 : Int32) : Int32 × hU :=
  nm (J_191 a0 55) fun w25 => nm (u2 J_191 a0 54 w25) fun J26 => F_X11_doWork_214 a0 x1 x2 y4 y6 y3 b2 b5 y1 I J26 R xs0_191
noncomputable def F_X11_doWork_190 (a0 : Nat) (x1 : Int32) (x2 : Int32) (y4 : Int32) (y6 : Int32) (y3 : Int32) (b2 : Nat) (b5 : Nat) (y1 : Int32) (I : hI) (J_190 : hJ) (R : hR) : Int32 × hU :=
  F_X11_doWork_191 a0 x1 x2 y4 y6 y3 b2 b5 y1 I J_190 R (0 : Int32)
noncomputable def F_X11_doWork_186 (a0 : Nat) (x1 : Int32) (x2 : Int32) (y4 : Int32) (y6 : Int32) (y3 : Int32) (b2 : Nat) (b5 : Nat) (y1 : Int32) (I : hI) (J_186 : hJ) (R : hR) : Int32 × hU :=
  F_X11_doWork_191 a0 x1 x2 y4 y6 y3 b2 b5 y1 I J_186 R (1 : Int32)
noncomputable def F_X11_doWork_149 (a0 : Nat) (x1 : Int32) (x2 : Int32) (y4 : Int32) (y6 : Int32) (y3 : Int32) (b2 : Nat) (b5 : Nat) (y1 : Int32) (I : hI) (J_149 : hJ) (R : hR) (x4_149 : Int32) : Int32 × hU :=
  (if y6 = (0 : Int32) then (if x4_149 = (0 : Int32) then F_X11_doWork_190 a0 x1 x2 y4 y6 y3 b2 b5 y1 I J_149 R else (if y3 = (-1 : Int32) then F_X11_doWork_186 a0 x1 x2 y4 y6 y3 b2 b5 y1 I J_149 R else nm ((R a0 23).getD 0) fun b42 => nm (J_149 b42 (Int32.toNatClampNeg y4)) fun w44 => nmU (F_X11_plus a0 w44 I J_149 R) fun y45 _ J45 _ => (if y45 = (0 : Int32) then F_X11_doWork_190 a0 x1 x2 y4 y6 y3 b2 b5 y1 I J45 R else F_X11_doWork_186 a0 x1 x2 y4 y6 y3 b2 b5 y1 I J45 R))) else nm ((R a0 23).getD 0) fun b30 => nm (J_149 b30 (Int32.toNatClampNeg y4)) fun w32 => nm (u2 J_149 a0 54 w32) fun J33 => F_X11_doWork_214 a0 x1 x2 y4 y6 y3 b2 b5 y1 I J33 R x4_149)
noncomputable def F_X11_doWork_141 (a0 : Nat) (x1 : Int32) (x2 : Int32) (y4 : Int32) (y6 : Int32) (y3 : Int32) (b2 : Nat) (b5 : Nat) (y1 : Int32) (x4_41 : Int32) (x5_41 : Int32) (k_41 : hI → hJ → hR → Int32 → Int32 → (Int32 × hU)) (I : hI) (J_141 : hJ) (R : hR) (xs0_141 : Int32) : Int32 × hU :=
  nm (x5_41 + (1 : Int32)) fun y49 => k_41 I J_141 R xs0_141 y49
noncomputable def F_X11_doWork_140 (a0 : Nat) (x1 : Int32) (x2 : Int32) (y4 : Int32) (y6 : Int32) (y3 : Int32) (b2 : Nat) (b5 : Nat) (y1 : Int32) (x4_41 : Int32) (x5_41 : Int32) (k_41 : hI → hJ → hR → Int32 → Int32 → (Int32 × hU)) (I : hI) (J_140 : hJ) (R : hR) : Int32 × hU :=
  F_X11_doWork_141 a0 x1 x2 y4 y6 y3 b2 b5 y1 x4_41 x5_41 k_41 I J_140 R (0 : Int32)
noncomputable def F_X11_doWork_87 (a0 : Nat) (x1 : Int32) (x2 : Int32) (y4 : Int32) (y6 : Int32) (y3 : Int32) (b2 : Nat) (b5 : Nat) (y1 : Int32) (x4_41 : Int32) (x5_41 : Int32) (k_41 : hI → hJ → hR → Int32 → Int32 → (Int32 × hU)) (I : hI) (J_87 : hJ) (R : hR) (xs0_87 : Int64) : Int32 × hU :=
  nm ((R a0 52).getD 0) fun b50 => nm (J_87 b50 (Int32.toNatClampNeg x5_41)) fun w51 => nm (w51 * xs0_87) fun w52 => (if x4_41 = (0 : Int32) then F_X11_doWork_140 a0 x1 x2 y4 y6 y3 b2 b5 y1 x4_41 x5_41 k_41 I J_87 R else nm (J_87 b50 (Int32.toNatClampNeg x5_41)) fun w56 => nm (F_J9_multiplyHigh_f86c9 w56 xs0_87) fun w57 => nm (w52 >>> (Int32.toInt64 (63 : Int32) &&& 63)) fun w58 => nm (lg_cmp w57 w58) fun y59 => (if y59 = (0 : Int32) then nmU (F_X11_plus a0 w52 I J_87 R) fun y64 _ J64 _ => (if y64 = (0 : Int32) then F_X11_doWork_140 a0 x1 x2 y4 y6 y3 b2 b5 y1 x4_41 x5_41 k_41 I J64 R else F_X11_doWork_141 a0 x1 x2 y4 y6 y3 b2 b5 y1 x4_41 x5_41 k_41 I J64 R (1 : Int32)) else F_X11_doWork_140 a0 x1 x2 y4 y6 y3 b2 b5 y1 x4_41 x5_41 k_41 I J_87 R))
noncomputable def B_X11_doWork_41 (a0 : Nat) (x1 : Int32) (x2 : Int32) (y4 : Int32) (y6 : Int32) (y3 : Int32) (b2 : Nat) (b5 : Nat) (y1 : Int32) (k_41 : hI → hJ → hR → Int32 → Int32 → (Int32 × hU)) (I : hI) (J_41 : hJ) (R : hR) (x4_41 : Int32) (x5_41 : Int32) : Int32 × hU :=
  nm ((R a0 10).getD 0) fun b68 => nm (I b68 (Int32.toNatClampNeg x1)) fun y69 => (if y69 ≤ x5_41 then F_X11_doWork_149 a0 x1 x2 y4 y6 y3 b2 b5 y1 I J_41 R x4_41 else (if y6 = (1 : Int32) then F_X11_doWork_149 a0 x1 x2 y4 y6 y3 b2 b5 y1 I J_41 R x4_41 else (if y6 = (0 : Int32) then nm ((R a0 16).getD 0) fun b80 => nm ((4 : Int32) * x1) fun y81 => nm (y81 + x5_41) fun y82 => nm (I b80 (Int32.toNatClampNeg y82)) fun y83 => F_X11_doWork_87 a0 x1 x2 y4 y6 y3 b2 b5 y1 x4_41 x5_41 k_41 I J_41 R (y83.toInt64) else F_X11_doWork_87 a0 x1 x2 y4 y6 y3 b2 b5 y1 x4_41 x5_41 k_41 I J_41 R (1 : Int64))))
noncomputable def F_X11_doWork_41 (a0 : Nat) (x1 : Int32) (x2 : Int32) (y4 : Int32) (y6 : Int32) (y3 : Int32) (b2 : Nat) (b5 : Nat) (y1 : Int32) : Nat → hI → hJ → hR → Int32 → Int32 → (Int32 × hU) := fun n => Nat.rec (motive := fun _ => hI → hJ → hR → Int32 → Int32 → (Int32 × hU)) (fun _ _ _ _ _ => default) (fun _ k => B_X11_doWork_41 a0 x1 x2 y4 y6 y3 b2 b5 y1 k) n
theorem F_X11_doWork_41_s {a0 : Nat} {x1 : Int32} {x2 : Int32} {y4 : Int32} {y6 : Int32} {y3 : Int32} {b2 : Nat} {b5 : Nat} {y1 : Int32} {n : Nat} {I : hI} {J_41 : hJ} {R : hR} {x4_41 : Int32} {x5_41 : Int32} : F_X11_doWork_41 a0 x1 x2 y4 y6 y3 b2 b5 y1 (n + 1)  I J_41 R x4_41 x5_41 = B_X11_doWork_41 a0 x1 x2 y4 y6 y3 b2 b5 y1 (F_X11_doWork_41 a0 x1 x2 y4 y6 y3 b2 b5 y1 n)  I J_41 R x4_41 x5_41 := rfl
noncomputable def F_X11_doWork_32 (a0 : Nat) (x1 : Int32) (x2 : Int32) (y4 : Int32) (y6 : Int32) (y3 : Int32) (b2 : Nat) (b5 : Nat) (y1 : Int32) (I : hI) (J_32 : hJ) (R : hR) (xs0_32 : Int64) : Int32 × hU :=
  nm (u2 J_32 a0 55 xs0_32) fun J84 => F_X11_doWork_41 a0 x1 x2 y4 y6 y3 b2 b5 y1 ((4 - (0 : Int32).toInt).toNat + 1) I J84 R (1 : Int32) (0 : Int32)
noncomputable def F_X11_doWork (a0 : Nat) (x1 : Int32) (x2 : Int32) (I : hI) (J : hJ) (R : hR) : Int32 × hU :=
  nm ((3 : Int32) * x2) fun y1 => nm ((R a0 14).getD 0) fun b2 => nm (I b2 (Int32.toNatClampNeg x1)) fun y3 => nm (y1 + y3) fun y4 => nm ((R a0 13).getD 0) fun b5 => nm (I b5 (Int32.toNatClampNeg x1)) fun y6 => (if y6 = (0 : Int32) then nm ((R a0 15).getD 0) fun b88 => nm (I b88 (Int32.toNatClampNeg x1)) fun y89 => F_X11_doWork_32 a0 x1 x2 y4 y6 y3 b2 b5 y1 I J R (y89.toInt64) else F_X11_doWork_32 a0 x1 x2 y4 y6 y3 b2 b5 y1 I J R (0 : Int64))
def ms_X11_doWork : List Nat := [758, 759, 5312]
set_option maxHeartbeats 4000000 in
set_option maxRecDepth 100000 in
theorem c_X11_doWork {l : Launch} {D : va_G} {cy : Nat → ClassId} {L : List Nat} {C : Nat → Nat} {b0 : Nat} {I : hI} {J : hJ} {R : hR} {a0 : Nat} {x1 : Int32} {x2 : Int32} (oI : OkI L C I) (oR : OkR L C R) (m0 : a0 ∈ L) (k0 : C a0 = 11) (h1 : Rg x1 (0) (119)) (h2 : Rg x2 (0) (19)) (hXW : XW L C I) : CI l yX11_doWork cX11_doWork 10 .boolean 2 D cy L C b0 [.ref a0, .int x1, .int x2] (I, J, R) (fun r v => Ps L C ms_X11_doWork (I, J, R) v ∧ v.1 = I ∧ v.2.2 = R ∧ Rg r (0) (1) ∧ F_X11_doWork a0 x1 x2 I J R = (r, v)) := by
  refine CI.mkZ (plainFor_of_name (by decide)) (Nat.le_of_ble_eq_true rfl) ?_
  intro p e s m args below meth c ls Q hF ret hH hl
  obtain ⟨hx, hb, -, hml, hown, hts, -⟩ := hF
  have hl : lv_has ls 10 [(0, .ref a0), (1, .int x1), (2, .int x2)] := hl
  have hH : Hp D cy L C b0 s s.heap I J R s.heap [] := hH
  have sm : Sm C ms_X11_doWork (I, J, R) (I, J, R) := Sm.rf
  obtain ⟨TT0, hT⟩ : ∃ TT0, TT0 = F_X11_doWork a0 x1 x2 I J R := ⟨_, rfl⟩
  have hv := hT
  unfold F_X11_doWork at hv
  refine lv_iconst (v := 3) hx hb dX11_doWork_0 (by decide) ?_
  refine lv_iload_n hx hb dX11_doWork_1 rfl (lv_at hl 2 rfl) ?_
  refine lv_imul hx hb dX11_doWork_2 ?_
  refine lv_topi (fun y1 ey1 => ?_)
  replace hv := fnS hv ey1
  obtain ⟨ty1, ry1⟩ := Rg_mulx (a' := (0)) (b' := (57)) (by decide : Int32.toInt 3 = 3) (rfl : x2.toInt = _) (Rg_c (x := 3) (a := (3)) (b := (3)) (by decide)) h2 (by decide)
  rw [← ey1] at ty1 ry1
  refine lv_aload_n hx hb dX11_doWork_3 rfl (lv_at hl 0 rfl) ?_
  obtain ⟨b2, mb2, vb2, kb2⟩ := rf_11_14 oR m0 k0
  replace hv := fnR hv vb2
  refine gf_11_14 vb2 hx hb hts hown hH m0 k0 rfl kf_X11_47 dX11_doWork_4 ?_
  refine lv_iload_n hx hb dX11_doWork_7 rfl (lv_at hl 1 rfl) ?_
  refine ld_76 hx hb hH mb2 kb2 (Rg_in h1 (by decide)) dX11_doWork_8 ?_
  refine lv_topi (fun y3 ey3 => ?_)
  have ry3 : Rg y3 (-1) (2) := by rw [ey3]; exact rd_76 oI mb2 kb2 (Rg_in h1 (by decide))
  replace hv := fnS hv ey3
  refine lv_iadd hx hb dX11_doWork_9 ?_
  refine lv_topi (fun y4 ey4 => ?_)
  replace hv := fnS hv ey4
  obtain ⟨ty4, ry4⟩ := Rg_addx (a' := (-1)) (b' := (59)) (rfl : y1.toInt = _) (rfl : y3.toInt = _) ry1 ry3 (by decide)
  rw [← ey4] at ty4 ry4
  refine lv_istore_n (lv' := [(3, .int y4), (0, .ref a0), (1, .int x1), (2, .int x2)]) hx hb dX11_doWork_10 rfl hl (by decide) rfl (fun ls hl => ?_)
  refine lv_aload_n hx hb dX11_doWork_11 rfl (lv_at hl 1 rfl) ?_
  refine lv_aload_n hx hb dX11_doWork_12 rfl (lv_at hl 1 rfl) ?_
  obtain ⟨b5, mb5, vb5, kb5⟩ := rf_11_13 oR m0 k0
  replace hv := fnR hv vb5
  refine gf_11_13 vb5 hx hb hts hown hH m0 k0 rfl kf_X11_44 dX11_doWork_13 ?_
  refine lv_iload_n hx hb dX11_doWork_16 rfl (lv_at hl 2 rfl) ?_
  refine ld_75 hx hb hH mb5 kb5 (Rg_in h1 (by decide)) dX11_doWork_17 ?_
  refine lv_topi (fun y6 ey6 => ?_)
  have ry6 : Rg y6 (0) (2) := by rw [ey6]; exact rd_75 oI mb5 kb5 (Rg_in h1 (by decide))
  replace hv := fnS hv ey6
  have xw : y6.toInt ≠ 0 → 0 ≤ y3.toInt := by rw [ey6, ey3]; exact hXW _ mb5 _ mb2 kb5 kb2 _ (Rg_nat h1 (by decide))
  have L_257 : ∀ (J_257 : hJ) (H : Heap) (locs : List Loc) (ls : Array Slot), Hp D cy L C b0 s s.heap I J_257 R H locs → TT0 = F_X11_doWork_257 a0 x1 x2 y4 y6 y3 b2 b5 y1 I J_257 R → Sm C ms_X11_doWork (I, J, R) (I, J_257, R) → lv_has ls 10 [] → W p l e (rmD 2) s m args below meth c H locs 0 0 Q (F0 m 257 ls []) := by
    intro J_257 H locs ls hH hv sm hl
    unfold F_X11_doWork_257 at hv
    refine lv_iconst (v := 1) hx hb dX11_doWork_257 (by decide) ?_
    exact ret (1) _ _ _ _ _ _ _ dX11_doWork_258 hH (Rg_01 (Rg_w (Rg_c (x := 1) (a := (1)) (b := (1)) (by decide)) (by decide))) ⟨⟨oI, oR, sm⟩, rfl, rfl, (Rg_w (Rg_c (x := 1) (a := (1)) (b := (1)) (by decide)) (by decide)), (hT.symm.trans hv)⟩
  have L_235 : ∀ (J_235 : hJ) (H : Heap) (locs : List Loc) (ls : Array Slot), Hp D cy L C b0 s s.heap I J_235 R H locs → TT0 = F_X11_doWork_235 a0 x1 x2 y4 y6 y3 b2 b5 y1 I J_235 R → Sm C ms_X11_doWork (I, J, R) (I, J_235, R) → lv_has ls 10 [] → W p l e (rmD 2) s m args below meth c H locs 0 0 Q (F0 m 235 ls []) := by
    intro J_235 H locs ls hH hv sm hl
    unfold F_X11_doWork_235 at hv
    refine lv_iconst (v := 0) hx hb dX11_doWork_235 (by decide) ?_
    exact ret (0) _ _ _ _ _ _ _ dX11_doWork_236 hH (Rg_01 (Rg_w (Rg_c (x := 0) (a := (0)) (b := (0)) (by decide)) (by decide))) ⟨⟨oI, oR, sm⟩, rfl, rfl, (Rg_w (Rg_c (x := 0) (a := (0)) (b := (0)) (by decide)) (by decide)), (hT.symm.trans hv)⟩
  have L_214 : ∀ (J_214 : hJ) (H : Heap) (locs : List Loc) (ls : Array Slot) (x4_214 : Int32), Hp D cy L C b0 s s.heap I J_214 R H locs → TT0 = F_X11_doWork_214 a0 x1 x2 y4 y6 y3 b2 b5 y1 I J_214 R x4_214 → Sm C ms_X11_doWork (I, J, R) (I, J_214, R) → Rg x1 (0) (119) → Rg y4 (-1) (59) → Rg x4_214 (0) (1) → lv_has ls 10 [(0, .ref a0), (1, .int x1), (3, .int y4), (4, .int x4_214)] → W p l e (rmD 2) s m args below meth c H locs 0 0 Q (F0 m 214 ls []) := by
    intro J_214 H locs ls x4_214 hH hv sm r1_214 r3_214 r4_214 hl
    unfold F_X11_doWork_214 at hv
    refine lv_iload hx hb dX11_doWork_214 (lv_at hl 3 rfl) ?_
    refine lv_if_eq (tgt := 235) hx hb dX11_doWork_216 (by decide) (fun q7 => ?_) (fun q7 => ?_)
    · replace hv := fnP hv q7
      have r8 : Rg x4_214 (0) (0) := Rg_both r4_214 (Rg_eqv q7 (Rg_c (x := 0) (a := (0)) (b := (0)) (by decide))) (by decide)
      exact L_235 J_214 _ _ _ hH hv sm (lv_sub hl [] rfl)
    replace hv := fnN hv q7
    have r9 : Rg x4_214 (1) (1) := Rg_nelo r4_214 (Rg_ne q7) (Rg_c (x := 0) (a := (0)) (b := (0)) (by decide)) (by decide)
    refine lv_aload_n hx hb dX11_doWork_219 rfl (lv_at hl 0 rfl) ?_
    obtain ⟨b10, mb10, vb10, kb10⟩ := rf_11_12 oR m0 k0
    replace hv := fnR hv vb10
    refine gf_11_12 vb10 hx hb hts hown hH m0 k0 rfl kf_X11_41 dX11_doWork_220 ?_
    refine lv_iload_n hx hb dX11_doWork_223 rfl (lv_at hl 1 rfl) ?_
    refine ld_74 hx hb hH mb10 kb10 (Rg_in r1_214 (by decide)) dX11_doWork_224 ?_
    refine lv_topi (fun y11 ey11 => ?_)
    have ry11 : Rg y11 (0) (6) := by rw [ey11]; exact rd_74 oI mb10 kb10 (Rg_in r1_214 (by decide))
    replace hv := fnS hv ey11
    refine lv_aload_n hx hb dX11_doWork_225 rfl (lv_at hl 0 rfl) ?_
    refine gf_11_54 hx hb hts hown hH m0 k0 rfl kf_X11_297 dX11_doWork_226 ?_
    refine lv_topl (fun w12 ew12 => ?_)
    replace hv := fnS hv ew12
    refine ca_X11_176 hx hb hml hown hts hH (c_X11_isOf ry11) hl.1 (by decide) (Nat.le_of_ble_eq_true rfl) ⟨Nat.zero_le _, Nat.zero_le _⟩ dX11_doWork_229 (fun y13 I13 J13 R13 H locs hp hH => ?_)
    obtain ⟨eI13, eJ13, eR13, ry13, hp13, hf13⟩ := hp
    obtain rfl : I = I13 := eI13.symm
    obtain rfl : J_214 = J13 := eJ13.symm
    obtain rfl : R = R13 := eR13.symm
    replace hv := fnS hv hf13.symm
    refine lv_if_ne (tgt := 237) hx hb dX11_doWork_232 (by decide) (fun q14 => ?_) (fun q14 => ?_)
    rotate_left
    · replace hv := fnP hv q14
      have r24 : Rg y13 (0) (0) := Rg_both ry13 (Rg_eqv q14 (Rg_c (x := 0) (a := (0)) (b := (0)) (by decide))) (by decide)
      exact L_235 J_214 _ _ _ hH hv sm (lv_sub hl [] rfl)
    replace hv := fnN hv q14
    have r15 : Rg y13 (1) (1) := Rg_nelo ry13 (Rg_ne q14) (Rg_c (x := 0) (a := (0)) (b := (0)) (by decide)) (by decide)
    refine lv_aload_n hx hb dX11_doWork_237 rfl (lv_at hl 0 rfl) ?_
    refine gf_11_13 vb5 hx hb hts hown hH m0 k0 rfl kf_X11_44 dX11_doWork_238 ?_
    refine lv_iload_n hx hb dX11_doWork_241 rfl (lv_at hl 1 rfl) ?_
    refine ld_75 hx hb hH mb5 kb5 (Rg_in r1_214 (by decide)) dX11_doWork_242 ?_
    refine lv_topi (fun y16 ey16 => ?_)
    obtain rfl : y6 = y16 := ey6.trans ey16.symm
    refine lv_iconst (v := 2) hx hb dX11_doWork_243 (by decide) ?_
    refine lv_icmp_ne (tgt := 257) hx hb dX11_doWork_244 (by decide) (fun q17 => ?_) (fun q17 => ?_)
    · replace hv := fnN hv q17
      have r18 : Rg y6 (0) (1) := Rg_nehi ry6 (Rg_ne q17) (Rg_c (x := 2) (a := (2)) (b := (2)) (by decide)) (by decide)
      exact L_257 J_214 _ _ _ hH hv sm (lv_sub hl [] rfl)
    replace hv := fnP hv q17
    have r19 : Rg y6 (2) (2) := Rg_both ry6 (Rg_eqv q17 (Rg_c (x := 2) (a := (2)) (b := (2)) (by decide))) (by decide)
    refine lv_aload_n hx hb dX11_doWork_247 rfl (lv_at hl 0 rfl) ?_
    obtain ⟨b20, mb20, vb20, kb20⟩ := rf_11_23 oR m0 k0
    replace hv := fnR hv vb20
    refine gf_11_23 vb20 hx hb hts hown hH m0 k0 rfl kf_X11_69 dX11_doWork_248 ?_
    have a21 : 0 ≤ y3.toInt := xw (fun h => by have := (Rg_w (a' := 1) (b' := 2) r19 (by decide)).1; omega)
    have r21 : Rg y4 (0) (59) := ⟨by have := ry1.1; omega, ry4.2⟩
    refine lv_iload_n hx hb dX11_doWork_251 rfl (lv_at hl 2 rfl) ?_
    refine lv_aload_n hx hb dX11_doWork_252 rfl (lv_at hl 0 rfl) ?_
    refine gf_11_55 hx hb hts hown hH m0 k0 rfl kf_X11_290 dX11_doWork_253 ?_
    refine lv_topl (fun w22 ew22 => ?_)
    replace hv := fnS hv ew22
    refine st_83 hx hb hH mb20 kb20 (Rg_in r21 (by decide)) dX11_doWork_256 (fun J23 H locs eJ23 hH => ?_)
    replace hv := fnS hv eJ23
    have sm : Sm C ms_X11_doWork (I, J, R) (I, J23, R) := by rw [eJ23]; exact sm.stJ kb20 (mC_arr (by decide) rfl)
    exact L_257 J23 _ _ _ hH hv sm (lv_sub hl [] rfl)
  have L_191 : ∀ (J_191 : hJ) (H : Heap) (locs : List Loc) (ls : Array Slot) (xs0_191 : Int32), Hp D cy L C b0 s s.heap I J_191 R H locs → TT0 = F_X11_doWork_191 a0 x1 x2 y4 y6 y3 b2 b5 y1 I J_191 R xs0_191 → Sm C ms_X11_doWork (I, J, R) (I, J_191, R) → Rg xs0_191 (0) (1) → Rg x1 (0) (119) → Rg y4 (-1) (59) → lv_has ls 10 [(0, .ref a0), (1, .int x1), (3, .int y4)] → W p l e (rmD 2) s m args below meth c H locs 0 0 Q (F0 m 191 ls [.int xs0_191]) := by
    intro J_191 H locs ls xs0_191 hH hv sm rs0_191 r1_191 r3_191 hl
    unfold F_X11_doWork_191 at hv
    refine lv_istore (lv' := [(4, .int xs0_191), (0, .ref a0), (1, .int x1), (3, .int y4)]) hx hb dX11_doWork_191 hl (by decide) rfl (fun ls hl => ?_)
    refine lv_aload_n hx hb dX11_doWork_193 rfl (lv_at hl 1 rfl) ?_
    refine lv_aload_n hx hb dX11_doWork_194 rfl (lv_at hl 1 rfl) ?_
    refine gf_11_55 hx hb hts hown hH m0 k0 rfl kf_X11_290 dX11_doWork_195 ?_
    refine lv_topl (fun w25 ew25 => ?_)
    replace hv := fnS hv ew25
    refine pf_11_54 hx hb hts hown hH m0 k0 rfl kf_X11_297 dX11_doWork_198 (fun J26 H locs eJ26 hH => ?_)
    replace hv := fnS hv eJ26
    have sm : Sm C ms_X11_doWork (I, J, R) (I, J26, R) := by rw [eJ26]; exact sm.stJ k0 (mC_obj (by decide) rfl)
    refine lv_goto (tgt := 214) hx hb dX11_doWork_201 (by decide) ?_
    exact L_214 J26 _ _ _ xs0_191 hH hv sm r1_191 r3_191 rs0_191 (lv_sub hl [1, 2, 3, 0] rfl)
  have L_190 : ∀ (J_190 : hJ) (H : Heap) (locs : List Loc) (ls : Array Slot), Hp D cy L C b0 s s.heap I J_190 R H locs → TT0 = F_X11_doWork_190 a0 x1 x2 y4 y6 y3 b2 b5 y1 I J_190 R → Sm C ms_X11_doWork (I, J, R) (I, J_190, R) → Rg x1 (0) (119) → Rg y4 (-1) (59) → lv_has ls 10 [(0, .ref a0), (1, .int x1), (3, .int y4)] → W p l e (rmD 2) s m args below meth c H locs 0 0 Q (F0 m 190 ls []) := by
    intro J_190 H locs ls hH hv sm r1_190 r3_190 hl
    unfold F_X11_doWork_190 at hv
    refine lv_iconst (v := 0) hx hb dX11_doWork_190 (by decide) ?_
    exact L_191 J_190 _ _ _ 0 hH hv sm (Rg_w (Rg_c (x := 0) (a := (0)) (b := (0)) (by decide)) (by decide)) r1_190 r3_190 (lv_sub hl [0, 1, 2] rfl)
  have L_186 : ∀ (J_186 : hJ) (H : Heap) (locs : List Loc) (ls : Array Slot), Hp D cy L C b0 s s.heap I J_186 R H locs → TT0 = F_X11_doWork_186 a0 x1 x2 y4 y6 y3 b2 b5 y1 I J_186 R → Sm C ms_X11_doWork (I, J, R) (I, J_186, R) → Rg x1 (0) (119) → Rg y4 (-1) (59) → lv_has ls 10 [(0, .ref a0), (1, .int x1), (3, .int y4)] → W p l e (rmD 2) s m args below meth c H locs 0 0 Q (F0 m 186 ls []) := by
    intro J_186 H locs ls hH hv sm r1_186 r3_186 hl
    unfold F_X11_doWork_186 at hv
    refine lv_iconst (v := 1) hx hb dX11_doWork_186 (by decide) ?_
    refine lv_goto (tgt := 191) hx hb dX11_doWork_187 (by decide) ?_
    exact L_191 J_186 _ _ _ 1 hH hv sm (Rg_w (Rg_c (x := 1) (a := (1)) (b := (1)) (by decide)) (by decide)) r1_186 r3_186 (lv_sub hl [0, 1, 2] rfl)
  have L_149 : ∀ (J_149 : hJ) (H : Heap) (locs : List Loc) (ls : Array Slot) (x4_149 : Int32), Hp D cy L C b0 s s.heap I J_149 R H locs → TT0 = F_X11_doWork_149 a0 x1 x2 y4 y6 y3 b2 b5 y1 I J_149 R x4_149 → Sm C ms_X11_doWork (I, J, R) (I, J_149, R) → Rg x1 (0) (119) → Rg y4 (-1) (59) → Rg x4_149 (0) (1) → lv_has ls 10 [(0, .ref a0), (1, .int x1), (3, .int y4), (4, .int x4_149)] → W p l e (rmD 2) s m args below meth c H locs 0 0 Q (F0 m 149 ls []) := by
    intro J_149 H locs ls x4_149 hH hv sm r1_149 r3_149 r4_149 hl
    unfold F_X11_doWork_149 at hv
    refine lv_aload_n hx hb dX11_doWork_149 rfl (lv_at hl 0 rfl) ?_
    refine gf_11_13 vb5 hx hb hts hown hH m0 k0 rfl kf_X11_44 dX11_doWork_150 ?_
    refine lv_iload_n hx hb dX11_doWork_153 rfl (lv_at hl 1 rfl) ?_
    refine ld_75 hx hb hH mb5 kb5 (Rg_in r1_149 (by decide)) dX11_doWork_154 ?_
    refine lv_topi (fun y27 ey27 => ?_)
    obtain rfl : y6 = y27 := ey6.trans ey27.symm
    refine lv_if_ne (tgt := 204) hx hb dX11_doWork_155 (by decide) (fun q28 => ?_) (fun q28 => ?_)
    · replace hv := fnN hv q28
      have r29 : Rg y6 (1) (2) := Rg_nelo ry6 (Rg_ne q28) (Rg_c (x := 0) (a := (0)) (b := (0)) (by decide)) (by decide)
      refine lv_aload_n hx hb dX11_doWork_204 rfl (lv_at hl 0 rfl) ?_
      refine lv_aload_n hx hb dX11_doWork_205 rfl (lv_at hl 0 rfl) ?_
      obtain ⟨b30, mb30, vb30, kb30⟩ := rf_11_23 oR m0 k0
      replace hv := fnR hv vb30
      refine gf_11_23 vb30 hx hb hts hown hH m0 k0 rfl kf_X11_69 dX11_doWork_206 ?_
      have a31 : 0 ≤ y3.toInt := xw (fun h => by have := (Rg_w (a' := 1) (b' := 2) r29 (by decide)).1; omega)
      have r31 : Rg y4 (0) (59) := ⟨by have := ry1.1; omega, ry4.2⟩
      refine lv_iload_n hx hb dX11_doWork_209 rfl (lv_at hl 2 rfl) ?_
      refine ld_83 hx hb hH mb30 kb30 (Rg_in r31 (by decide)) dX11_doWork_210 ?_
      refine lv_topl (fun w32 ew32 => ?_)
      replace hv := fnS hv ew32
      refine pf_11_54 hx hb hts hown hH m0 k0 rfl kf_X11_297 dX11_doWork_211 (fun J33 H locs eJ33 hH => ?_)
      replace hv := fnS hv eJ33
      have sm : Sm C ms_X11_doWork (I, J, R) (I, J33, R) := by rw [eJ33]; exact sm.stJ k0 (mC_obj (by decide) rfl)
      exact L_214 J33 _ _ _ x4_149 hH hv sm r1_149 (Rg_w r31 (by decide)) r4_149 (lv_sub hl [0, 1, 2, 3] rfl)
    replace hv := fnP hv q28
    have r34 : Rg y6 (0) (0) := Rg_both ry6 (Rg_eqv q28 (Rg_c (x := 0) (a := (0)) (b := (0)) (by decide))) (by decide)
    refine lv_iload hx hb dX11_doWork_158 (lv_at hl 3 rfl) ?_
    refine lv_if_eq (tgt := 190) hx hb dX11_doWork_160 (by decide) (fun q35 => ?_) (fun q35 => ?_)
    · replace hv := fnP hv q35
      have r36 : Rg x4_149 (0) (0) := Rg_both r4_149 (Rg_eqv q35 (Rg_c (x := 0) (a := (0)) (b := (0)) (by decide))) (by decide)
      exact L_190 J_149 _ _ _ hH hv sm r1_149 r3_149 (lv_sub hl [0, 1, 2] rfl)
    replace hv := fnN hv q35
    have r37 : Rg x4_149 (1) (1) := Rg_nelo r4_149 (Rg_ne q35) (Rg_c (x := 0) (a := (0)) (b := (0)) (by decide)) (by decide)
    refine lv_aload_n hx hb dX11_doWork_163 rfl (lv_at hl 0 rfl) ?_
    refine gf_11_14 vb2 hx hb hts hown hH m0 k0 rfl kf_X11_47 dX11_doWork_164 ?_
    refine lv_iload_n hx hb dX11_doWork_167 rfl (lv_at hl 1 rfl) ?_
    refine ld_76 hx hb hH mb2 kb2 (Rg_in r1_149 (by decide)) dX11_doWork_168 ?_
    refine lv_topi (fun y38 ey38 => ?_)
    obtain rfl : y3 = y38 := ey3.trans ey38.symm
    refine lv_iconst (v := (-1)) hx hb dX11_doWork_169 (by decide) ?_
    refine lv_icmp_eq (tgt := 186) hx hb dX11_doWork_170 (by decide) (fun q39 => ?_) (fun q39 => ?_)
    · replace hv := fnP hv q39
      have r40 : Rg y3 (-1) (-1) := Rg_both ry3 (Rg_eqv q39 (Rg_c (x := (-1)) (a := (-1)) (b := (-1)) (by decide))) (by decide)
      exact L_186 J_149 _ _ _ hH hv sm r1_149 r3_149 (lv_sub hl [0, 1, 2] rfl)
    replace hv := fnN hv q39
    have r41 : Rg y3 (0) (2) := Rg_nelo ry3 (Rg_ne q39) (Rg_c (x := (-1)) (a := (-1)) (b := (-1)) (by decide)) (by decide)
    refine lv_aload_n hx hb dX11_doWork_173 rfl (lv_at hl 0 rfl) ?_
    refine lv_aload_n hx hb dX11_doWork_174 rfl (lv_at hl 0 rfl) ?_
    obtain ⟨b42, mb42, vb42, kb42⟩ := rf_11_23 oR m0 k0
    replace hv := fnR hv vb42
    refine gf_11_23 vb42 hx hb hts hown hH m0 k0 rfl kf_X11_69 dX11_doWork_175 ?_
    have a43 : 0 ≤ y3.toInt := (Rg_w (a' := 0) (b' := 2) r41 (by decide)).1
    have r43 : Rg y4 (0) (59) := ⟨by have := ry1.1; omega, ry4.2⟩
    refine lv_iload_n hx hb dX11_doWork_178 rfl (lv_at hl 2 rfl) ?_
    refine ld_83 hx hb hH mb42 kb42 (Rg_in r43 (by decide)) dX11_doWork_179 ?_
    refine lv_topl (fun w44 ew44 => ?_)
    replace hv := fnS hv ew44
    refine ca_X11_293 hx hb hml hown hts hH (c_X11_plus oI oR m0 k0) hl.1 m0 k0 rfl (by decide) (Nat.le_of_ble_eq_true rfl) ⟨Nat.zero_le _, Nat.zero_le _⟩ dX11_doWork_180 (fun y45 I45 J45 R45 H locs hp hH => ?_)
    obtain ⟨⟨-, -, sc45⟩, eI45, eR45, ry45, hf45⟩ := hp
    obtain rfl : I = I45 := eI45.symm
    obtain rfl : R = R45 := eR45.symm
    replace hv := fnC hv hf45
    have sm : Sm C ms_X11_doWork (I, J, R) (I, J45, R) := sm.tr sc45 rfl
    refine lv_if_eq (tgt := 190) hx hb dX11_doWork_183 (by decide) (fun q46 => ?_) (fun q46 => ?_)
    · replace hv := fnP hv q46
      have r47 : Rg y45 (0) (0) := Rg_both ry45 (Rg_eqv q46 (Rg_c (x := 0) (a := (0)) (b := (0)) (by decide))) (by decide)
      exact L_190 J45 _ _ _ hH hv sm r1_149 (Rg_w r43 (by decide)) (lv_sub hl [0, 1, 2] rfl)
    replace hv := fnN hv q46
    have r48 : Rg y45 (1) (1) := Rg_nelo ry45 (Rg_ne q46) (Rg_c (x := 0) (a := (0)) (b := (0)) (by decide)) (by decide)
    exact L_186 J45 _ _ _ hH hv sm r1_149 (Rg_w r43 (by decide)) (lv_sub hl [0, 1, 2] rfl)
  have L_41 : ∀ (n_41 : Nat) (J_41 : hJ) (H : Heap) (locs : List Loc) (ls : Array Slot) (x4_41 : Int32) (x5_41 : Int32), (4 - x5_41.toInt).toNat < n_41 → Hp D cy L C b0 s s.heap I J_41 R H locs → TT0 = F_X11_doWork_41 a0 x1 x2 y4 y6 y3 b2 b5 y1 n_41 I J_41 R x4_41 x5_41 → Sm C ms_X11_doWork (I, J, R) (I, J_41, R) → Rg x1 (0) (119) → Rg y4 (-1) (59) → Rg x4_41 (0) (1) → Rg x5_41 (0) (4) → lv_has ls 10 [(0, .ref a0), (1, .int x1), (3, .int y4), (4, .int x4_41), (5, .int x5_41)] → W p l e (rmD 2) s m args below meth c H locs 0 0 Q (F0 m 41 ls []) := by
    intro n_41
    induction n_41 with
    | zero => intro J_41 H locs ls x4_41 x5_41 h; exact absurd h (Nat.not_lt_zero _)
    | succ n_41 ih_41 =>
      intro J_41 H locs ls x4_41 x5_41 hn_41 hH hv sm r1_41 r3_41 r4_41 r5_41 hl
      replace hv := hv.trans F_X11_doWork_41_s
      unfold B_X11_doWork_41 at hv
      have L_141 : ∀ (J_141 : hJ) (H : Heap) (locs : List Loc) (ls : Array Slot) (xs0_141 : Int32), Hp D cy L C b0 s s.heap I J_141 R H locs → TT0 = F_X11_doWork_141 a0 x1 x2 y4 y6 y3 b2 b5 y1 x4_41 x5_41 (F_X11_doWork_41 a0 x1 x2 y4 y6 y3 b2 b5 y1 n_41) I J_141 R xs0_141 → Sm C ms_X11_doWork (I, J, R) (I, J_141, R) → Rg xs0_141 (0) (1) → Rg x1 (0) (119) → Rg y4 (-1) (59) → Rg x5_41 (0) (3) → lv_has ls 10 [(0, .ref a0), (1, .int x1), (3, .int y4), (5, .int x5_41)] → W p l e (rmD 2) s m args below meth c H locs 0 0 Q (F0 m 141 ls [.int xs0_141]) := by
        intro J_141 H locs ls xs0_141 hH hv sm rs0_141 r1_141 r3_141 r5_141 hl
        unfold F_X11_doWork_141 at hv
        refine lv_istore (lv' := [(4, .int xs0_141), (0, .ref a0), (1, .int x1), (3, .int y4), (5, .int x5_41)]) hx hb dX11_doWork_141 hl (by decide) rfl (fun ls hl => ?_)
        obtain ⟨y49, ey49⟩ : ∃ y : Int32, y = x5_41 + 1 := ⟨_, rfl⟩
        replace hv := fnS hv ey49
        obtain ⟨ty49, ry49⟩ := Rg_addx (a' := (1)) (b' := (4)) (rfl : x5_41.toInt = _) (by decide : Int32.toInt 1 = 1) r5_141 (Rg_c (x := 1) (a := (1)) (b := (1)) (by decide)) (by decide)
        rw [← ey49] at ty49 ry49
        refine lv_iinc (v := y49) (lv' := [(5, .int y49), (4, .int xs0_141), (0, .ref a0), (1, .int x1), (3, .int y4)]) hx hb dX11_doWork_143 hl (k := 4) rfl (by rw [ey49]; rfl) (by decide) rfl (fun ls hl => ?_)
        refine lv_goto (tgt := 41) hx hb dX11_doWork_146 (by decide) ?_
        exact ih_41 J_141 _ _ _ xs0_141 y49 (lp_up hn_41 ty49 (Rg_ltc r5_141 (by decide))) hH hv sm r1_141 r3_141 rs0_141 (Rg_w ry49 (by decide)) (lv_sub hl [2, 3, 4, 1, 0] rfl)
      have L_140 : ∀ (J_140 : hJ) (H : Heap) (locs : List Loc) (ls : Array Slot), Hp D cy L C b0 s s.heap I J_140 R H locs → TT0 = F_X11_doWork_140 a0 x1 x2 y4 y6 y3 b2 b5 y1 x4_41 x5_41 (F_X11_doWork_41 a0 x1 x2 y4 y6 y3 b2 b5 y1 n_41) I J_140 R → Sm C ms_X11_doWork (I, J, R) (I, J_140, R) → Rg x1 (0) (119) → Rg y4 (-1) (59) → Rg x5_41 (0) (3) → lv_has ls 10 [(0, .ref a0), (1, .int x1), (3, .int y4), (5, .int x5_41)] → W p l e (rmD 2) s m args below meth c H locs 0 0 Q (F0 m 140 ls []) := by
        intro J_140 H locs ls hH hv sm r1_140 r3_140 r5_140 hl
        unfold F_X11_doWork_140 at hv
        refine lv_iconst (v := 0) hx hb dX11_doWork_140 (by decide) ?_
        exact L_141 J_140 _ _ _ 0 hH hv sm (Rg_w (Rg_c (x := 0) (a := (0)) (b := (0)) (by decide)) (by decide)) r1_140 r3_140 r5_140 (lv_sub hl [0, 1, 2, 3] rfl)
      have L_87 : ∀ (J_87 : hJ) (H : Heap) (locs : List Loc) (ls : Array Slot) (xs0_87 : Int64), Hp D cy L C b0 s s.heap I J_87 R H locs → TT0 = F_X11_doWork_87 a0 x1 x2 y4 y6 y3 b2 b5 y1 x4_41 x5_41 (F_X11_doWork_41 a0 x1 x2 y4 y6 y3 b2 b5 y1 n_41) I J_87 R xs0_87 → Sm C ms_X11_doWork (I, J, R) (I, J_87, R) → Rg x1 (0) (119) → Rg y4 (-1) (59) → Rg x4_41 (0) (1) → Rg x5_41 (0) (3) → lv_has ls 10 [(0, .ref a0), (1, .int x1), (3, .int y4), (4, .int x4_41), (5, .int x5_41)] → W p l e (rmD 2) s m args below meth c H locs 0 0 Q (F0 m 87 ls [.long xs0_87]) := by
        intro J_87 H locs ls xs0_87 hH hv sm r1_87 r3_87 r4_87 r5_87 hl
        unfold F_X11_doWork_87 at hv
        refine lv_lstore (lv' := [(6, .long xs0_87), (0, .ref a0), (1, .int x1), (3, .int y4), (4, .int x4_41), (5, .int x5_41)]) hx hb dX11_doWork_87 hl (by decide) rfl (fun ls hl => ?_)
        refine lv_aload_n hx hb dX11_doWork_89 rfl (lv_at hl 1 rfl) ?_
        obtain ⟨b50, mb50, vb50, kb50⟩ := rf_11_52 oR m0 k0
        replace hv := fnR hv vb50
        refine gf_11_52 vb50 hx hb hts hown hH m0 k0 rfl kf_X11_117 dX11_doWork_90 ?_
        refine lv_iload hx hb dX11_doWork_93 (lv_at hl 5 rfl) ?_
        refine ld_99 hx hb hH mb50 kb50 (Rg_in r5_87 (by decide)) dX11_doWork_95 ?_
        refine lv_topl (fun w51 ew51 => ?_)
        replace hv := fnS hv ew51
        refine lv_lload hx hb dX11_doWork_96 (lv_at hl 0 rfl) ?_
        refine lv_lmul hx hb dX11_doWork_98 ?_
        refine lv_topl (fun w52 ew52 => ?_)
        replace hv := fnS hv ew52
        refine lv_lstore (lv' := [(8, .long w52), (6, .long xs0_87), (0, .ref a0), (1, .int x1), (3, .int y4), (4, .int x4_41), (5, .int x5_41)]) hx hb dX11_doWork_99 hl (by decide) rfl (fun ls hl => ?_)
        refine lv_iload hx hb dX11_doWork_101 (lv_at hl 5 rfl) ?_
        refine lv_if_eq (tgt := 140) hx hb dX11_doWork_103 (by decide) (fun q53 => ?_) (fun q53 => ?_)
        · replace hv := fnP hv q53
          have r54 : Rg x4_41 (0) (0) := Rg_both r4_87 (Rg_eqv q53 (Rg_c (x := 0) (a := (0)) (b := (0)) (by decide))) (by decide)
          exact L_140 J_87 _ _ _ hH hv sm r1_87 r3_87 r5_87 (lv_sub hl [2, 3, 4, 6] rfl)
        replace hv := fnN hv q53
        have r55 : Rg x4_41 (1) (1) := Rg_nelo r4_87 (Rg_ne q53) (Rg_c (x := 0) (a := (0)) (b := (0)) (by decide)) (by decide)
        refine lv_aload_n hx hb dX11_doWork_106 rfl (lv_at hl 2 rfl) ?_
        refine gf_11_52 vb50 hx hb hts hown hH m0 k0 rfl kf_X11_117 dX11_doWork_107 ?_
        refine lv_iload hx hb dX11_doWork_110 (lv_at hl 6 rfl) ?_
        refine ld_99 hx hb hH mb50 kb50 (Rg_in r5_87 (by decide)) dX11_doWork_112 ?_
        refine lv_topl (fun w56 ew56 => ?_)
        replace hv := fnS hv ew56
        refine lv_lload hx hb dX11_doWork_113 (lv_at hl 1 rfl) ?_
        refine ca_X11_164 hx hb hml hown hts hH (c_J9_multiplyHigh_f86c9 ) hl.1 (by decide) (Nat.le_of_ble_eq_true rfl) ⟨Nat.zero_le _, Nat.zero_le _⟩ dX11_doWork_115 (fun w57 I57 J57 R57 H locs hp hH => ?_)
        obtain ⟨eI57, eJ57, eR57, hf57⟩ := hp
        obtain rfl : I = I57 := eI57.symm
        obtain rfl : J_87 = J57 := eJ57.symm
        obtain rfl : R = R57 := eR57.symm
        replace hv := fnS hv hf57.symm
        refine lv_lload hx hb dX11_doWork_118 (lv_at hl 0 rfl) ?_
        refine lv_bipush (v := 63) hx hb dX11_doWork_120 (by decide) ?_
        refine lv_lshr hx hb dX11_doWork_122 rfl ?_
        refine lv_topl (fun w58 ew58 => ?_)
        replace hv := fnS hv ew58
        refine W.lcmp hx hb dX11_doWork_123 ?_
        refine lv_topi (fun y59 ey59 => ?_)
        replace hv := fnS hv ey59
        refine lv_if_ne (tgt := 140) hx hb dX11_doWork_124 (by decide) (fun q60 => ?_) (fun q60 => ?_)
        · replace hv := fnN hv q60
          have l61 := lc_ne ey59 q60
          exact L_140 J_87 _ _ _ hH hv sm r1_87 r3_87 r5_87 (lv_sub hl [2, 3, 4, 6] rfl)
        replace hv := fnP hv q60
        have l62 := lc_eq ey59 q60
        have r63 : Rg y59 (0) (0) := Rg_both (Rg_any y59) (Rg_eqv q60 (Rg_c (x := 0) (a := (0)) (b := (0)) (by decide))) (by decide)
        refine lv_aload_n hx hb dX11_doWork_127 rfl (lv_at hl 2 rfl) ?_
        refine lv_lload hx hb dX11_doWork_128 (lv_at hl 0 rfl) ?_
        refine ca_X11_293 hx hb hml hown hts hH (c_X11_plus oI oR m0 k0) hl.1 m0 k0 rfl (by decide) (Nat.le_of_ble_eq_true rfl) ⟨Nat.zero_le _, Nat.zero_le _⟩ dX11_doWork_130 (fun y64 I64 J64 R64 H locs hp hH => ?_)
        obtain ⟨⟨-, -, sc64⟩, eI64, eR64, ry64, hf64⟩ := hp
        obtain rfl : I = I64 := eI64.symm
        obtain rfl : R = R64 := eR64.symm
        replace hv := fnC hv hf64
        have sm : Sm C ms_X11_doWork (I, J, R) (I, J64, R) := sm.tr sc64 rfl
        refine lv_if_eq (tgt := 140) hx hb dX11_doWork_133 (by decide) (fun q65 => ?_) (fun q65 => ?_)
        · replace hv := fnP hv q65
          have r66 : Rg y64 (0) (0) := Rg_both ry64 (Rg_eqv q65 (Rg_c (x := 0) (a := (0)) (b := (0)) (by decide))) (by decide)
          exact L_140 J64 _ _ _ hH hv sm r1_87 r3_87 r5_87 (lv_sub hl [2, 3, 4, 6] rfl)
        replace hv := fnN hv q65
        have r67 : Rg y64 (1) (1) := Rg_nelo ry64 (Rg_ne q65) (Rg_c (x := 0) (a := (0)) (b := (0)) (by decide)) (by decide)
        refine lv_iconst (v := 1) hx hb dX11_doWork_136 (by decide) ?_
        refine lv_goto (tgt := 141) hx hb dX11_doWork_137 (by decide) ?_
        exact L_141 J64 _ _ _ 1 hH hv sm (Rg_w (Rg_c (x := 1) (a := (1)) (b := (1)) (by decide)) (by decide)) r1_87 r3_87 r5_87 (lv_sub hl [2, 3, 4, 6] rfl)
      refine lv_iload hx hb dX11_doWork_41 (lv_at hl 4 rfl) ?_
      refine lv_aload_n hx hb dX11_doWork_43 rfl (lv_at hl 0 rfl) ?_
      obtain ⟨b68, mb68, vb68, kb68⟩ := rf_11_10 oR m0 k0
      replace hv := fnR hv vb68
      refine gf_11_10 vb68 hx hb hts hown hH m0 k0 rfl kf_X11_35 dX11_doWork_44 ?_
      refine lv_iload_n hx hb dX11_doWork_47 rfl (lv_at hl 1 rfl) ?_
      refine ld_72 hx hb hH mb68 kb68 (Rg_in r1_41 (by decide)) dX11_doWork_48 ?_
      refine lv_topi (fun y69 ey69 => ?_)
      have ry69 : Rg y69 (0) (4) := by rw [ey69]; exact rd_72 oI mb68 kb68 (Rg_in r1_41 (by decide))
      replace hv := fnS hv ey69
      refine lv_icmp_ge (tgt := 149) hx hb dX11_doWork_49 (by decide) (fun q70 => ?_) (fun q70 => ?_)
      · replace hv := fnP hv q70
        exact L_149 J_41 _ _ _ x4_41 hH hv sm r1_41 r3_41 r4_41 (lv_sub hl [0, 1, 2, 3] rfl)
      replace hv := fnN hv q70
      have r71 : Rg x5_41 (0) (3) := Rg_ult r5_41 (Rg_nle q70) ry69 (by decide)
      have r72 : Rg y69 (1) (4) := Rg_llt ry69 (Rg_nle q70) r5_41 (by decide)
      refine lv_aload_n hx hb dX11_doWork_52 rfl (lv_at hl 0 rfl) ?_
      refine gf_11_13 vb5 hx hb hts hown hH m0 k0 rfl kf_X11_44 dX11_doWork_53 ?_
      refine lv_iload_n hx hb dX11_doWork_56 rfl (lv_at hl 1 rfl) ?_
      refine ld_75 hx hb hH mb5 kb5 (Rg_in r1_41 (by decide)) dX11_doWork_57 ?_
      refine lv_topi (fun y73 ey73 => ?_)
      obtain rfl : y6 = y73 := ey6.trans ey73.symm
      refine lv_iconst (v := 1) hx hb dX11_doWork_58 (by decide) ?_
      refine lv_icmp_eq (tgt := 149) hx hb dX11_doWork_59 (by decide) (fun q74 => ?_) (fun q74 => ?_)
      · replace hv := fnP hv q74
        have r75 : Rg y6 (1) (1) := Rg_both ry6 (Rg_eqv q74 (Rg_c (x := 1) (a := (1)) (b := (1)) (by decide))) (by decide)
        exact L_149 J_41 _ _ _ x4_41 hH hv sm r1_41 r3_41 r4_41 (lv_sub hl [0, 1, 2, 3] rfl)
      replace hv := fnN hv q74
      refine lv_aload_n hx hb dX11_doWork_62 rfl (lv_at hl 0 rfl) ?_
      refine gf_11_13 vb5 hx hb hts hown hH m0 k0 rfl kf_X11_44 dX11_doWork_63 ?_
      refine lv_iload_n hx hb dX11_doWork_66 rfl (lv_at hl 1 rfl) ?_
      refine ld_75 hx hb hH mb5 kb5 (Rg_in r1_41 (by decide)) dX11_doWork_67 ?_
      refine lv_topi (fun y76 ey76 => ?_)
      obtain rfl : y6 = y76 := ey6.trans ey76.symm
      refine lv_if_ne (tgt := 86) hx hb dX11_doWork_68 (by decide) (fun q77 => ?_) (fun q77 => ?_)
      · replace hv := fnN hv q77
        have r78 : Rg y6 (1) (2) := Rg_nelo ry6 (Rg_ne q77) (Rg_c (x := 0) (a := (0)) (b := (0)) (by decide)) (by decide)
        refine lv_lconst (v := 1) hx hb dX11_doWork_86 (by decide) ?_
        exact L_87 J_41 _ _ _ 1 hH hv sm r1_41 r3_41 r4_41 r71 (lv_sub hl [0, 1, 2, 3, 4] rfl)
      replace hv := fnP hv q77
      have r79 : Rg y6 (0) (0) := Rg_both ry6 (Rg_eqv q77 (Rg_c (x := 0) (a := (0)) (b := (0)) (by decide))) (by decide)
      refine lv_aload_n hx hb dX11_doWork_71 rfl (lv_at hl 0 rfl) ?_
      obtain ⟨b80, mb80, vb80, kb80⟩ := rf_11_16 oR m0 k0
      replace hv := fnR hv vb80
      refine gf_11_16 vb80 hx hb hts hown hH m0 k0 rfl kf_X11_53 dX11_doWork_72 ?_
      refine lv_iconst (v := 4) hx hb dX11_doWork_75 (by decide) ?_
      refine lv_iload_n hx hb dX11_doWork_76 rfl (lv_at hl 1 rfl) ?_
      refine lv_imul hx hb dX11_doWork_77 ?_
      refine lv_topi (fun y81 ey81 => ?_)
      replace hv := fnS hv ey81
      obtain ⟨ty81, ry81⟩ := Rg_mulx (a' := (0)) (b' := (476)) (by decide : Int32.toInt 4 = 4) (rfl : x1.toInt = _) (Rg_c (x := 4) (a := (4)) (b := (4)) (by decide)) r1_41 (by decide)
      rw [← ey81] at ty81 ry81
      refine lv_iload hx hb dX11_doWork_78 (lv_at hl 4 rfl) ?_
      refine lv_iadd hx hb dX11_doWork_80 ?_
      refine lv_topi (fun y82 ey82 => ?_)
      replace hv := fnS hv ey82
      obtain ⟨ty82, ry82⟩ := Rg_addx (a' := (0)) (b' := (479)) (rfl : y81.toInt = _) (rfl : x5_41.toInt = _) ry81 r71 (by decide)
      rw [← ey82] at ty82 ry82
      refine ld_78 hx hb hH mb80 kb80 (Rg_in ry82 (by decide)) dX11_doWork_81 ?_
      refine lv_topi (fun y83 ey83 => ?_)
      have ry83 : Rg y83 (-1000) (1000) := by rw [ey83]; exact rd_78 oI mb80 kb80 (Rg_in ry82 (by decide))
      replace hv := fnS hv ey83
      refine lv_i2l (v := y83.toInt64) hx hb dX11_doWork_82 rfl ?_
      refine lv_goto (tgt := 87) hx hb dX11_doWork_83 (by decide) ?_
      exact L_87 J_41 _ _ _ (y83.toInt64) hH hv sm r1_41 r3_41 r4_41 r71 (lv_sub hl [0, 1, 2, 3, 4] rfl)
  have L_32 : ∀ (J_32 : hJ) (H : Heap) (locs : List Loc) (ls : Array Slot) (xs0_32 : Int64), Hp D cy L C b0 s s.heap I J_32 R H locs → TT0 = F_X11_doWork_32 a0 x1 x2 y4 y6 y3 b2 b5 y1 I J_32 R xs0_32 → Sm C ms_X11_doWork (I, J, R) (I, J_32, R) → Rg x1 (0) (119) → Rg y4 (-1) (59) → lv_has ls 10 [(0, .ref a0), (1, .int x1), (3, .int y4)] → W p l e (rmD 2) s m args below meth c H locs 0 0 Q (F0 m 32 ls [.long xs0_32, .ref a0]) := by
    intro J_32 H locs ls xs0_32 hH hv sm r1_32 r3_32 hl
    unfold F_X11_doWork_32 at hv
    refine pf_11_55 hx hb hts hown hH m0 k0 rfl kf_X11_290 dX11_doWork_32 (fun J84 H locs eJ84 hH => ?_)
    replace hv := fnS hv eJ84
    have sm : Sm C ms_X11_doWork (I, J, R) (I, J84, R) := by rw [eJ84]; exact sm.stJ k0 (mC_obj (by decide) rfl)
    refine lv_iconst (v := 1) hx hb dX11_doWork_35 (by decide) ?_
    refine lv_istore (lv' := [(4, .int 1), (0, .ref a0), (1, .int x1), (3, .int y4)]) hx hb dX11_doWork_36 hl (by decide) rfl (fun ls hl => ?_)
    refine lv_iconst (v := 0) hx hb dX11_doWork_38 (by decide) ?_
    refine lv_istore (lv' := [(5, .int 0), (4, .int 1), (0, .ref a0), (1, .int x1), (3, .int y4)]) hx hb dX11_doWork_39 hl (by decide) rfl (fun ls hl => ?_)
    exact L_41 ((4 - (0 : Int32).toInt).toNat + 1) J84 _ _ _ 1 0 (Nat.lt_succ_self _) hH hv sm r1_32 r3_32 (Rg_w (Rg_c (x := 1) (a := (1)) (b := (1)) (by decide)) (by decide)) (Rg_w (Rg_c (x := 0) (a := (0)) (b := (0)) (by decide)) (by decide)) (lv_sub hl [2, 3, 4, 1, 0] rfl)
  refine lv_if_ne (tgt := 31) hx hb dX11_doWork_18 (by decide) (fun q85 => ?_) (fun q85 => ?_)
  · replace hv := fnN hv q85
    have r86 : Rg y6 (1) (2) := Rg_nelo ry6 (Rg_ne q85) (Rg_c (x := 0) (a := (0)) (b := (0)) (by decide)) (by decide)
    refine lv_lconst (v := 0) hx hb dX11_doWork_31 (by decide) ?_
    exact L_32 J _ _ _ 0 hH hv sm h1 ry4 (lv_sub hl [1, 2, 0] rfl)
  replace hv := fnP hv q85
  have r87 : Rg y6 (0) (0) := Rg_both ry6 (Rg_eqv q85 (Rg_c (x := 0) (a := (0)) (b := (0)) (by decide))) (by decide)
  refine lv_aload_n hx hb dX11_doWork_21 rfl (lv_at hl 1 rfl) ?_
  obtain ⟨b88, mb88, vb88, kb88⟩ := rf_11_15 oR m0 k0
  replace hv := fnR hv vb88
  refine gf_11_15 vb88 hx hb hts hown hH m0 k0 rfl kf_X11_50 dX11_doWork_22 ?_
  refine lv_iload_n hx hb dX11_doWork_25 rfl (lv_at hl 2 rfl) ?_
  refine ld_77 hx hb hH mb88 kb88 (Rg_in h1 (by decide)) dX11_doWork_26 ?_
  refine lv_topi (fun y89 ey89 => ?_)
  replace hv := fnS hv ey89
  refine lv_i2l (v := y89.toInt64) hx hb dX11_doWork_27 rfl ?_
  refine lv_goto (tgt := 32) hx hb dX11_doWork_28 (by decide) ?_
  exact L_32 J _ _ _ (y89.toInt64) hH hv sm h1 ry4 (lv_sub hl [1, 2, 0] rfl)
noncomputable def B_X11_callChain_130 (a0 : Nat) (x1 : Int32) (y3 : Int32) (z1 : Int32) (b2 : Nat) (k_130 : hI → hJ → hR → Int32 → (Int32 × hU)) (I_130 : hI) (J_130 : hJ) (R : hR) (x3_130 : Int32) : Int32 × hU :=
  nm (I_130 a0 49) fun zm49_130 => (if x3_130 ≤ (0 : Int32) then nm (J_130 a0 54) fun w6 => nm (u2 J_130 a0 25 w6) fun J7 => ((0 : Int32), (I_130, J7, R)) else nm ((R a0 12).getD 0) fun b9 => nm (I_130 b2 (Int32.toNatClampNeg x3_130)) fun y10 => nm (I_130 b9 (Int32.toNatClampNeg y10)) fun y11 => nm (x3_130 - (1 : Int32)) fun y12 => nm (I_130 b2 (Int32.toNatClampNeg y12)) fun y13 => nm (I_130 b9 (Int32.toNatClampNeg y13)) fun y14 => nm (J_130 a0 54) fun w15 => nmU (F_X11_turnIt a0 y11 y14 w15 (3 : Int32) I_130 J_130 R) fun y16 I16 J16 _ => (if y16 = (0 : Int32) then ((-7 : Int32), (I16, J16, R)) else nm (J16 a0 37) fun w19 => nm (u2 J16 a0 54 w19) fun J20 => nm (x3_130 + (-1 : Int32)) fun y21 => k_130 I16 J20 R y21))
noncomputable def F_X11_callChain_130 (a0 : Nat) (x1 : Int32) (y3 : Int32) (z1 : Int32) (b2 : Nat) : Nat → hI → hJ → hR → Int32 → (Int32 × hU) := fun n => Nat.rec (motive := fun _ => hI → hJ → hR → Int32 → (Int32 × hU)) (fun _ _ _ _ => default) (fun _ k => B_X11_callChain_130 a0 x1 y3 z1 b2 k) n
theorem F_X11_callChain_130_s {a0 : Nat} {x1 : Int32} {y3 : Int32} {z1 : Int32} {b2 : Nat} {n : Nat} {I_130 : hI} {J_130 : hJ} {R : hR} {x3_130 : Int32} : F_X11_callChain_130 a0 x1 y3 z1 b2 (n + 1)  I_130 J_130 R x3_130 = B_X11_callChain_130 a0 x1 y3 z1 b2 (F_X11_callChain_130 a0 x1 y3 z1 b2 n)  I_130 J_130 R x3_130 := rfl
noncomputable def B_X11_callChain_70 (a0 : Nat) (x1 : Int32) (y3 : Int32) (z1 : Int32) (b2 : Nat) (k_70 : hI → hJ → hR → Int32 → (Int32 × hU)) (I_70 : hI) (J_70 : hJ) (R : hR) (x3_70 : Int32) : Int32 × hU :=
  nm (I_70 a0 49) fun zm49_70 => (if zm49_70 ≤ x3_70 then nm (zm49_70 - (1 : Int32)) fun y28 => nm (I_70 b2 (Int32.toNatClampNeg y28)) fun y29 => nmU (F_X11_doWork a0 y29 x1 I_70 J_70 R) fun y30 _ J30 _ => (if y30 = (0 : Int32) then nmW (F_X11_fail a0 (2 : Int32) (-1 : Int32) I_70 J30 R) fun I36 _ _ => ((-7 : Int32), (I36, J30, R)) else F_X11_callChain_130 a0 x1 y3 z1 b2 ((y28.toInt + 1).toNat + 1) I_70 J30 R y28) else nmU (F_X11_goIn a0 x3_70 I_70 J_70 R) fun y39 I39 J39 _ => (if y39 = (0 : Int32) then ((-7 : Int32), (I39, J39, R)) else nm (x3_70 + (1 : Int32)) fun y42 => k_70 I39 J39 R y42))
noncomputable def F_X11_callChain_70 (a0 : Nat) (x1 : Int32) (y3 : Int32) (z1 : Int32) (b2 : Nat) : Nat → hI → hJ → hR → Int32 → (Int32 × hU) := fun n => Nat.rec (motive := fun _ => hI → hJ → hR → Int32 → (Int32 × hU)) (fun _ _ _ _ => default) (fun _ k => B_X11_callChain_70 a0 x1 y3 z1 b2 k) n
theorem F_X11_callChain_70_s {a0 : Nat} {x1 : Int32} {y3 : Int32} {z1 : Int32} {b2 : Nat} {n : Nat} {I_70 : hI} {J_70 : hJ} {R : hR} {x3_70 : Int32} : F_X11_callChain_70 a0 x1 y3 z1 b2 (n + 1)  I_70 J_70 R x3_70 = B_X11_callChain_70 a0 x1 y3 z1 b2 (F_X11_callChain_70 a0 x1 y3 z1 b2 n)  I_70 J_70 R x3_70 := rfl
noncomputable def B_X11_callChain_9 (a0 : Nat) (x1 : Int32) (y3 : Int32) (z1 : Int32) (b2 : Nat) (k_9 : hI → hJ → hR → Int32 → (Int32 × hU)) (I_9 : hI) (J_9 : hJ) (R : hR) (x3_9 : Int32) : Int32 × hU :=
  nm (I_9 a0 49) fun zm49_9 => nm ((R a0 10).getD 0) fun b46 => nm (I_9 b46 (Int32.toNatClampNeg y3)) fun y47 => (if y47 ≤ x3_9 then F_X11_callChain_70 a0 x1 y3 z1 b2 ((11 - (1 : Int32).toInt).toNat + 1) I_9 J_9 R (1 : Int32) else nm ((R a0 52).getD 0) fun b51 => nm ((R a0 24).getD 0) fun b52 => nm (J_9 b52 (Int32.toNatClampNeg x3_9)) fun w53 => nm (u2 J_9 b51 (Int32.toNatClampNeg x3_9) w53) fun J54 => nm ((R a0 11).getD 0) fun b55 => nm ((4 : Int32) * y3) fun y56 => nm (y56 + x3_9) fun y57 => nm (I_9 b55 (Int32.toNatClampNeg y57)) fun y58 => nm (J54 b52 (Int32.toNatClampNeg x3_9)) fun w59 => nm (F_X11_isOf y58 w59) fun y60 => (if y60 = (0 : Int32) then nmW (F_X11_fail a0 (0 : Int32) (-1 : Int32) I_9 J54 R) fun I65 _ _ => ((-7 : Int32), (I65, J54, R)) else nm (x3_9 + (1 : Int32)) fun y63 => k_9 I_9 J54 R y63))
noncomputable def F_X11_callChain_9 (a0 : Nat) (x1 : Int32) (y3 : Int32) (z1 : Int32) (b2 : Nat) : Nat → hI → hJ → hR → Int32 → (Int32 × hU) := fun n => Nat.rec (motive := fun _ => hI → hJ → hR → Int32 → (Int32 × hU)) (fun _ _ _ _ => default) (fun _ k => B_X11_callChain_9 a0 x1 y3 z1 b2 k) n
theorem F_X11_callChain_9_s {a0 : Nat} {x1 : Int32} {y3 : Int32} {z1 : Int32} {b2 : Nat} {n : Nat} {I_9 : hI} {J_9 : hJ} {R : hR} {x3_9 : Int32} : F_X11_callChain_9 a0 x1 y3 z1 b2 (n + 1)  I_9 J_9 R x3_9 = B_X11_callChain_9 a0 x1 y3 z1 b2 (F_X11_callChain_9 a0 x1 y3 z1 b2 n)  I_9 J_9 R x3_9 := rfl
noncomputable def F_X11_callChain (a0 : Nat) (x1 : Int32) (I : hI) (J : hJ) (R : hR) : Int32 × hU :=
  nm (I a0 49) fun z1 => nm ((R a0 50).getD 0) fun b2 => nm (I b2 (Int32.toNatClampNeg (0 : Int32))) fun y3 => F_X11_callChain_9 a0 x1 y3 z1 b2 ((4 - (0 : Int32).toInt).toNat + 1) I J R (0 : Int32)
def ms_X11_callChain : List Nat := [729, 730, 731, 732, 735, 741, 758, 759, 5312, 6336, 6400]
set_option maxHeartbeats 4000000 in
set_option maxRecDepth 100000 in
theorem c_X11_callChain {l : Launch} {D : va_G} {cy : Nat → ClassId} {L : List Nat} {C : Nat → Nat} {b0 : Nat} {I : hI} {J : hJ} {R : hR} {a0 : Nat} {x1 : Int32} (oI : OkI L C I) (oR : OkR L C R) (m0 : a0 ∈ L) (k0 : C a0 = 11) (h1 : Rg x1 (0) (19)) (hm49 : Rg (I a0 49) (1) (11)) (hXW : XW L C I) : CI l yX11_callChain cX11_callChain 4 .int 5 D cy L C b0 [.ref a0, .int x1] (I, J, R) (fun r v => Ps L C ms_X11_callChain (I, J, R) v ∧ v.2.2 = R ∧ Rg r (-7) (0) ∧ F_X11_callChain a0 x1 I J R = (r, v)) := by
  refine CI.mkI (plainFor_of_name (by decide)) (Nat.le_of_ble_eq_true rfl) ?_
  intro p e s m args below meth c ls Q hF ret hH hl
  obtain ⟨hx, hb, -, hml, hown, hts, -⟩ := hF
  have hl : lv_has ls 4 [(0, .ref a0), (1, .int x1)] := hl
  have hH : Hp D cy L C b0 s s.heap I J R s.heap [] := hH
  have sm : Sm C ms_X11_callChain (I, J, R) (I, J, R) := Sm.rf
  obtain ⟨TT0, hT⟩ : ∃ TT0, TT0 = F_X11_callChain a0 x1 I J R := ⟨_, rfl⟩
  have hv := hT
  unfold F_X11_callChain at hv
  obtain ⟨z1, ez1⟩ : ∃ y : Int32, y = I a0 49 := ⟨_, rfl⟩
  have rz1 : Rg z1 (1) (11) := by rw [ez1]; exact hm49
  replace hv := fnS hv ez1
  refine lv_aload_n hx hb dX11_callChain_0 rfl (lv_at hl 0 rfl) ?_
  obtain ⟨b2, mb2, vb2, kb2⟩ := rf_11_50 oR m0 k0
  replace hv := fnR hv vb2
  refine gf_11_50 vb2 hx hb hts hown hH m0 k0 rfl kf_X11_111 dX11_callChain_1 ?_
  refine lv_iconst (v := 0) hx hb dX11_callChain_4 (by decide) ?_
  refine ld_97 hx hb hH mb2 kb2 (Rg_in (Rg_c (x := 0) (a := (0)) (b := (0)) (by decide)) (by decide)) dX11_callChain_5 ?_
  refine lv_topi (fun y3 ey3 => ?_)
  have ry3 : Rg y3 (0) (119) := by rw [ey3]; exact rd_97 oI mb2 kb2 (Rg_in (Rg_c (x := 0) (a := (0)) (b := (0)) (by decide)) (by decide))
  replace hv := fnS hv ey3
  refine lv_istore_n (lv' := [(2, .int y3), (0, .ref a0), (1, .int x1)]) hx hb dX11_callChain_6 rfl hl (by decide) rfl (fun ls hl => ?_)
  refine lv_iconst (v := 0) hx hb dX11_callChain_7 (by decide) ?_
  refine lv_istore_n (lv' := [(3, .int 0), (2, .int y3), (0, .ref a0), (1, .int x1)]) hx hb dX11_callChain_8 rfl hl (by decide) rfl (fun ls hl => ?_)
  have L_130 : ∀ (n_130 : Nat) (I_130 : hI) (J_130 : hJ) (H : Heap) (locs : List Loc) (ls : Array Slot) (x3_130 : Int32), (x3_130.toInt + 1).toNat < n_130 → Hp D cy L C b0 s s.heap I_130 J_130 R H locs → TT0 = F_X11_callChain_130 a0 x1 y3 z1 b2 n_130 I_130 J_130 R x3_130 → OkI L C I_130 → Sm C ms_X11_callChain (I, J, R) (I_130, J_130, R) → Rg x3_130 (0) (10) → Rg (I_130 a0 49) (1) (11) → lv_has ls 4 [(0, .ref a0), (3, .int x3_130)] → W p l e (rmD 5) s m args below meth c H locs 0 0 Q (F0 m 130 ls []) := by
    intro n_130
    induction n_130 with
    | zero => intro I_130 J_130 H locs ls x3_130 h; exact absurd h (Nat.not_lt_zero _)
    | succ n_130 ih_130 =>
      intro I_130 J_130 H locs ls x3_130 hn_130 hH hv oI sm r3_130 hm49_130 hl
      replace hv := hv.trans F_X11_callChain_130_s
      unfold B_X11_callChain_130 at hv
      obtain ⟨zm49_130, em49_130⟩ : ∃ y : Int32, y = I_130 a0 49 := ⟨_, rfl⟩
      have rm49_130 : Rg zm49_130 (1) (11) := by rw [em49_130]; exact hm49_130
      replace hv := fnS hv em49_130
      refine lv_iload_n hx hb dX11_callChain_130 rfl (lv_at hl 1 rfl) ?_
      refine lv_if_le (tgt := 187) hx hb dX11_callChain_131 (by decide) (fun q4 => ?_) (fun q4 => ?_)
      · replace hv := fnP hv q4
        have r5 : Rg x3_130 (0) (0) := Rg_ule r3_130 (Rg_le q4) (Rg_c (x := 0) (a := (0)) (b := (0)) (by decide)) (by decide)
        refine lv_aload_n hx hb dX11_callChain_187 rfl (lv_at hl 0 rfl) ?_
        refine lv_aload_n hx hb dX11_callChain_188 rfl (lv_at hl 0 rfl) ?_
        refine gf_11_54 hx hb hts hown hH m0 k0 rfl kf_X11_297 dX11_callChain_189 ?_
        refine lv_topl (fun w6 ew6 => ?_)
        replace hv := fnS hv ew6
        refine pf_11_25 hx hb hts hown hH m0 k0 rfl kf_X11_216 dX11_callChain_192 (fun J7 H locs eJ7 hH => ?_)
        replace hv := fnS hv eJ7
        have sm : Sm C ms_X11_callChain (I, J, R) (I_130, J7, R) := by rw [eJ7]; exact sm.stJ k0 (mC_obj (by decide) rfl)
        refine lv_iconst (v := 0) hx hb dX11_callChain_195 (by decide) ?_
        exact ret (0) _ _ _ _ _ _ _ dX11_callChain_196 hH ⟨⟨oI, oR, sm⟩, rfl, (Rg_w (Rg_c (x := 0) (a := (0)) (b := (0)) (by decide)) (by decide)), (hT.symm.trans hv)⟩
      replace hv := fnN hv q4
      have r8 : Rg x3_130 (1) (10) := Rg_llt r3_130 (Rg_nle q4) (Rg_c (x := 0) (a := (0)) (b := (0)) (by decide)) (by decide)
      refine lv_aload_n hx hb dX11_callChain_134 rfl (lv_at hl 0 rfl) ?_
      refine lv_aload_n hx hb dX11_callChain_135 rfl (lv_at hl 0 rfl) ?_
      obtain ⟨b9, mb9, vb9, kb9⟩ := rf_11_12 oR m0 k0
      replace hv := fnR hv vb9
      refine gf_11_12 vb9 hx hb hts hown hH m0 k0 rfl kf_X11_41 dX11_callChain_136 ?_
      refine lv_aload_n hx hb dX11_callChain_139 rfl (lv_at hl 0 rfl) ?_
      refine gf_11_50 vb2 hx hb hts hown hH m0 k0 rfl kf_X11_111 dX11_callChain_140 ?_
      refine lv_iload_n hx hb dX11_callChain_143 rfl (lv_at hl 1 rfl) ?_
      refine ld_97 hx hb hH mb2 kb2 (Rg_in r8 (by decide)) dX11_callChain_144 ?_
      refine lv_topi (fun y10 ey10 => ?_)
      have ry10 : Rg y10 (0) (119) := by rw [ey10]; exact rd_97 oI mb2 kb2 (Rg_in r8 (by decide))
      replace hv := fnS hv ey10
      refine ld_74 hx hb hH mb9 kb9 (Rg_in ry10 (by decide)) dX11_callChain_145 ?_
      refine lv_topi (fun y11 ey11 => ?_)
      have ry11 : Rg y11 (0) (6) := by rw [ey11]; exact rd_74 oI mb9 kb9 (Rg_in ry10 (by decide))
      replace hv := fnS hv ey11
      refine lv_aload_n hx hb dX11_callChain_146 rfl (lv_at hl 0 rfl) ?_
      refine gf_11_12 vb9 hx hb hts hown hH m0 k0 rfl kf_X11_41 dX11_callChain_147 ?_
      refine lv_aload_n hx hb dX11_callChain_150 rfl (lv_at hl 0 rfl) ?_
      refine gf_11_50 vb2 hx hb hts hown hH m0 k0 rfl kf_X11_111 dX11_callChain_151 ?_
      refine lv_iload_n hx hb dX11_callChain_154 rfl (lv_at hl 1 rfl) ?_
      refine lv_iconst (v := 1) hx hb dX11_callChain_155 (by decide) ?_
      refine lv_isub hx hb dX11_callChain_156 ?_
      refine lv_topi (fun y12 ey12 => ?_)
      replace hv := fnS hv ey12
      obtain ⟨ty12, ry12⟩ := Rg_subx (a' := (0)) (b' := (9)) (rfl : x3_130.toInt = _) (by decide : Int32.toInt 1 = 1) r8 (Rg_c (x := 1) (a := (1)) (b := (1)) (by decide)) (by decide)
      rw [← ey12] at ty12 ry12
      refine ld_97 hx hb hH mb2 kb2 (Rg_in ry12 (by decide)) dX11_callChain_157 ?_
      refine lv_topi (fun y13 ey13 => ?_)
      have ry13 : Rg y13 (0) (119) := by rw [ey13]; exact rd_97 oI mb2 kb2 (Rg_in ry12 (by decide))
      replace hv := fnS hv ey13
      refine ld_74 hx hb hH mb9 kb9 (Rg_in ry13 (by decide)) dX11_callChain_158 ?_
      refine lv_topi (fun y14 ey14 => ?_)
      have ry14 : Rg y14 (0) (6) := by rw [ey14]; exact rd_74 oI mb9 kb9 (Rg_in ry13 (by decide))
      replace hv := fnS hv ey14
      refine lv_aload_n hx hb dX11_callChain_159 rfl (lv_at hl 0 rfl) ?_
      refine gf_11_54 hx hb hts hown hH m0 k0 rfl kf_X11_297 dX11_callChain_160 ?_
      refine lv_topl (fun w15 ew15 => ?_)
      replace hv := fnS hv ew15
      refine lv_iconst (v := 3) hx hb dX11_callChain_163 (by decide) ?_
      refine ca_X11_212 hx hb hml hown hts hH (c_X11_turnIt oI oR m0 k0 ry11 ry14) hl.1 m0 k0 rfl (by decide) (Nat.le_of_ble_eq_true rfl) ⟨Nat.zero_le _, Nat.zero_le _⟩ dX11_callChain_164 (fun y16 I16 J16 R16 H locs hp hH => ?_)
      obtain ⟨⟨oI, -, sc16⟩, eR16, ry16, hf16⟩ := hp
      obtain rfl : R = R16 := eR16.symm
      replace hv := fnC hv hf16
      have sm : Sm C ms_X11_callChain (I, J, R) (I16, J16, R) := sm.tr sc16 rfl
      refine lv_if_ne (tgt := 173) hx hb dX11_callChain_167 (by decide) (fun q17 => ?_) (fun q17 => ?_)
      rotate_left
      · replace hv := fnP hv q17
        have r24 : Rg y16 (0) (0) := Rg_both ry16 (Rg_eqv q17 (Rg_c (x := 0) (a := (0)) (b := (0)) (by decide))) (by decide)
        refine lv_bipush (v := (-7)) hx hb dX11_callChain_170 (by decide) ?_
        exact ret ((-7)) _ _ _ _ _ _ _ dX11_callChain_172 hH ⟨⟨oI, oR, sm⟩, rfl, (Rg_w (Rg_c (x := (-7)) (a := (-7)) (b := (-7)) (by decide)) (by decide)), (hT.symm.trans hv)⟩
      replace hv := fnN hv q17
      have r18 : Rg y16 (1) (1) := Rg_nelo ry16 (Rg_ne q17) (Rg_c (x := 0) (a := (0)) (b := (0)) (by decide)) (by decide)
      refine lv_aload_n hx hb dX11_callChain_173 rfl (lv_at hl 0 rfl) ?_
      refine lv_aload_n hx hb dX11_callChain_174 rfl (lv_at hl 0 rfl) ?_
      refine gf_11_37 hx hb hts hown hH m0 k0 rfl kf_X11_202 dX11_callChain_175 ?_
      refine lv_topl (fun w19 ew19 => ?_)
      replace hv := fnS hv ew19
      refine pf_11_54 hx hb hts hown hH m0 k0 rfl kf_X11_297 dX11_callChain_178 (fun J20 H locs eJ20 hH => ?_)
      replace hv := fnS hv eJ20
      have sm : Sm C ms_X11_callChain (I, J, R) (I16, J20, R) := by rw [eJ20]; exact sm.stJ k0 (mC_obj (by decide) rfl)
      obtain ⟨y21, ey21⟩ : ∃ y : Int32, y = x3_130 + (-1) := ⟨_, rfl⟩
      replace hv := fnS hv ey21
      obtain ⟨ty21, ry21⟩ := Rg_addx (a' := (0)) (b' := (9)) (rfl : x3_130.toInt = _) (by decide : Int32.toInt (-1) = -1) r8 (Rg_c (x := (-1)) (a := (-1)) (b := (-1)) (by decide)) (by decide)
      rw [← ey21] at ty21 ry21
      refine lv_iinc (v := y21) (lv' := [(3, .int y21), (0, .ref a0)]) hx hb dX11_callChain_181 hl (k := 1) rfl (by rw [ey21]; rfl) (by decide) rfl (fun ls hl => ?_)
      refine lv_goto (tgt := 130) hx hb dX11_callChain_184 (by decide) ?_
      have f23 : I16 a0 (49) = I_130 a0 (49) := ((sc16 a0 49 (by rw [k0]; exact (by decide))).1)
      have f22 : zm49_130 = I16 a0 (49) := em49_130.trans f23.symm
      exact ih_130 I16 J20 _ _ _ y21 (lp_dn hn_130 ty21 r8 (by decide)) hH hv oI sm (Rg_w ry21 (by decide)) (by rw [← f22]; exact Rg_w rm49_130 (by decide)) (lv_sub hl [1, 0] rfl)
  have L_70 : ∀ (n_70 : Nat) (I_70 : hI) (J_70 : hJ) (H : Heap) (locs : List Loc) (ls : Array Slot) (x3_70 : Int32), (11 - x3_70.toInt).toNat < n_70 → Hp D cy L C b0 s s.heap I_70 J_70 R H locs → TT0 = F_X11_callChain_70 a0 x1 y3 z1 b2 n_70 I_70 J_70 R x3_70 → OkI L C I_70 → Sm C ms_X11_callChain (I, J, R) (I_70, J_70, R) → Rg x1 (0) (19) → Rg x3_70 (1) (11) → Rg (I_70 a0 49) (1) (11) → lv_has ls 4 [(0, .ref a0), (1, .int x1), (3, .int x3_70)] → W p l e (rmD 5) s m args below meth c H locs 0 0 Q (F0 m 70 ls []) := by
    intro n_70
    induction n_70 with
    | zero => intro I_70 J_70 H locs ls x3_70 h; exact absurd h (Nat.not_lt_zero _)
    | succ n_70 ih_70 =>
      intro I_70 J_70 H locs ls x3_70 hn_70 hH hv oI sm r1_70 r3_70 hm49_70 hl
      replace hv := hv.trans F_X11_callChain_70_s
      unfold B_X11_callChain_70 at hv
      obtain ⟨zm49_70, em49_70⟩ : ∃ y : Int32, y = I_70 a0 49 := ⟨_, rfl⟩
      have rm49_70 : Rg zm49_70 (1) (11) := by rw [em49_70]; exact hm49_70
      replace hv := fnS hv em49_70
      refine lv_iload_n hx hb dX11_callChain_70 rfl (lv_at hl 2 rfl) ?_
      refine lv_aload_n hx hb dX11_callChain_71 rfl (lv_at hl 0 rfl) ?_
      refine gf_11_49 hx hb hts hown hH m0 k0 rfl kf_X11_287 dX11_callChain_72 ?_
      refine lv_topi (fun y25 ey25 => ?_)
      obtain rfl : zm49_70 = y25 := em49_70.trans ey25.symm
      refine lv_icmp_ge (tgt := 95) hx hb dX11_callChain_75 (by decide) (fun q26 => ?_) (fun q26 => ?_)
      rotate_left
      · replace hv := fnN hv q26
        have r37 : Rg x3_70 (1) (10) := Rg_ult r3_70 (Rg_nle q26) rm49_70 (by decide)
        have r38 : Rg zm49_70 (2) (11) := Rg_llt rm49_70 (Rg_nle q26) r3_70 (by decide)
        refine lv_aload_n hx hb dX11_callChain_78 rfl (lv_at hl 0 rfl) ?_
        refine lv_iload_n hx hb dX11_callChain_79 rfl (lv_at hl 2 rfl) ?_
        refine ca_X11_300 hx hb hml hown hts hH (c_X11_goIn oI oR m0 k0 r37) hl.1 m0 k0 rfl (by decide) (Nat.le_of_ble_eq_true rfl) ⟨Nat.zero_le _, Nat.zero_le _⟩ dX11_callChain_80 (fun y39 I39 J39 R39 H locs hp hH => ?_)
        obtain ⟨⟨oI, -, sc39⟩, eR39, ry39, hf39⟩ := hp
        obtain rfl : R = R39 := eR39.symm
        replace hv := fnC hv hf39
        have sm : Sm C ms_X11_callChain (I, J, R) (I39, J39, R) := sm.tr sc39 rfl
        refine lv_if_ne (tgt := 89) hx hb dX11_callChain_83 (by decide) (fun q40 => ?_) (fun q40 => ?_)
        rotate_left
        · replace hv := fnP hv q40
          have r45 : Rg y39 (0) (0) := Rg_both ry39 (Rg_eqv q40 (Rg_c (x := 0) (a := (0)) (b := (0)) (by decide))) (by decide)
          refine lv_bipush (v := (-7)) hx hb dX11_callChain_86 (by decide) ?_
          exact ret ((-7)) _ _ _ _ _ _ _ dX11_callChain_88 hH ⟨⟨oI, oR, sm⟩, rfl, (Rg_w (Rg_c (x := (-7)) (a := (-7)) (b := (-7)) (by decide)) (by decide)), (hT.symm.trans hv)⟩
        replace hv := fnN hv q40
        have r41 : Rg y39 (1) (1) := Rg_nelo ry39 (Rg_ne q40) (Rg_c (x := 0) (a := (0)) (b := (0)) (by decide)) (by decide)
        obtain ⟨y42, ey42⟩ : ∃ y : Int32, y = x3_70 + 1 := ⟨_, rfl⟩
        replace hv := fnS hv ey42
        obtain ⟨ty42, ry42⟩ := Rg_addx (a' := (2)) (b' := (11)) (rfl : x3_70.toInt = _) (by decide : Int32.toInt 1 = 1) r37 (Rg_c (x := 1) (a := (1)) (b := (1)) (by decide)) (by decide)
        rw [← ey42] at ty42 ry42
        refine lv_iinc (v := y42) (lv' := [(3, .int y42), (0, .ref a0), (1, .int x1)]) hx hb dX11_callChain_89 hl (k := 2) rfl (by rw [ey42]; rfl) (by decide) rfl (fun ls hl => ?_)
        refine lv_goto (tgt := 70) hx hb dX11_callChain_92 (by decide) ?_
        have f44 : I39 a0 (49) = I_70 a0 (49) := ((sc39 a0 49 (by rw [k0]; exact (by decide))).1)
        have f43 : zm49_70 = I39 a0 (49) := em49_70.trans f44.symm
        exact ih_70 I39 J39 _ _ _ y42 (lp_up hn_70 ty42 (Rg_ltc r37 (by decide))) hH hv oI sm r1_70 (Rg_w ry42 (by decide)) (by rw [← f43]; exact Rg_w r38 (by decide)) (lv_sub hl [1, 2, 0] rfl)
      replace hv := fnP hv q26
      refine lv_aload_n hx hb dX11_callChain_95 rfl (lv_at hl 0 rfl) ?_
      refine lv_aload_n hx hb dX11_callChain_96 rfl (lv_at hl 0 rfl) ?_
      refine gf_11_50 vb2 hx hb hts hown hH m0 k0 rfl kf_X11_111 dX11_callChain_97 ?_
      refine lv_aload_n hx hb dX11_callChain_100 rfl (lv_at hl 0 rfl) ?_
      refine gf_11_49 hx hb hts hown hH m0 k0 rfl kf_X11_287 dX11_callChain_101 ?_
      refine lv_topi (fun y27 ey27 => ?_)
      obtain rfl : zm49_70 = y27 := em49_70.trans ey27.symm
      refine lv_iconst (v := 1) hx hb dX11_callChain_104 (by decide) ?_
      refine lv_isub hx hb dX11_callChain_105 ?_
      refine lv_topi (fun y28 ey28 => ?_)
      replace hv := fnS hv ey28
      obtain ⟨ty28, ry28⟩ := Rg_subx (a' := (0)) (b' := (10)) (rfl : zm49_70.toInt = _) (by decide : Int32.toInt 1 = 1) rm49_70 (Rg_c (x := 1) (a := (1)) (b := (1)) (by decide)) (by decide)
      rw [← ey28] at ty28 ry28
      refine ld_97 hx hb hH mb2 kb2 (Rg_in ry28 (by decide)) dX11_callChain_106 ?_
      refine lv_topi (fun y29 ey29 => ?_)
      have ry29 : Rg y29 (0) (119) := by rw [ey29]; exact rd_97 oI mb2 kb2 (Rg_in ry28 (by decide))
      replace hv := fnS hv ey29
      refine lv_iload_n hx hb dX11_callChain_107 rfl (lv_at hl 1 rfl) ?_
      refine ca_X11_303 hx hb hml hown hts hH (c_X11_doWork oI oR m0 k0 ry29 r1_70 (by exact XW.sm (u := (I, J, R)) (v := (I_70, J_70, R)) hXW sm rfl rfl)) hl.1 m0 k0 rfl (by decide) (Nat.le_of_ble_eq_true rfl) ⟨Nat.zero_le _, Nat.zero_le _⟩ dX11_callChain_108 (fun y30 I30 J30 R30 H locs hp hH => ?_)
      obtain ⟨⟨-, -, sc30⟩, eI30, eR30, ry30, hf30⟩ := hp
      obtain rfl : I_70 = I30 := eI30.symm
      obtain rfl : R = R30 := eR30.symm
      replace hv := fnC hv hf30
      have sm : Sm C ms_X11_callChain (I, J, R) (I_70, J30, R) := sm.tr sc30 rfl
      refine lv_if_ne (tgt := 123) hx hb dX11_callChain_111 (by decide) (fun q31 => ?_) (fun q31 => ?_)
      · replace hv := fnN hv q31
        have r32 : Rg y30 (1) (1) := Rg_nelo ry30 (Rg_ne q31) (Rg_c (x := 0) (a := (0)) (b := (0)) (by decide)) (by decide)
        refine lv_aload_n hx hb dX11_callChain_123 rfl (lv_at hl 0 rfl) ?_
        refine gf_11_49 hx hb hts hown hH m0 k0 rfl kf_X11_287 dX11_callChain_124 ?_
        refine lv_topi (fun y33 ey33 => ?_)
        obtain rfl : zm49_70 = y33 := em49_70.trans ey33.symm
        refine lv_iconst (v := 1) hx hb dX11_callChain_127 (by decide) ?_
        refine lv_isub hx hb dX11_callChain_128 ?_
        refine lv_topi (fun y34 ey34 => ?_)
        obtain rfl : y28 = y34 := ey28.trans ey34.symm
        refine lv_istore_n (lv' := [(3, .int y28), (0, .ref a0), (1, .int x1)]) hx hb dX11_callChain_129 rfl hl (by decide) rfl (fun ls hl => ?_)
        exact L_130 ((y28.toInt + 1).toNat + 1) I_70 J30 _ _ _ y28 (Nat.lt_succ_self _) hH hv oI sm ry28 (by rw [← em49_70]; exact Rg_w rm49_70 (by decide)) (lv_sub hl [1, 0] rfl)
      replace hv := fnP hv q31
      have r35 : Rg y30 (0) (0) := Rg_both ry30 (Rg_eqv q31 (Rg_c (x := 0) (a := (0)) (b := (0)) (by decide))) (by decide)
      refine lv_aload_n hx hb dX11_callChain_114 rfl (lv_at hl 0 rfl) ?_
      refine lv_iconst (v := 2) hx hb dX11_callChain_115 (by decide) ?_
      refine lv_iconst (v := (-1)) hx hb dX11_callChain_116 (by decide) ?_
      refine ca_X11_208 hx hb hml hown hts hH (c_X11_fail oI oR m0 k0) hl.1 m0 k0 rfl (by decide) (Nat.le_of_ble_eq_true rfl) ⟨Nat.zero_le _, Nat.zero_le _⟩ dX11_callChain_117 (fun I36 J36 R36 H locs hp hH => ?_)
      obtain ⟨⟨oI, -, sc36⟩, eJ36, eR36, hf36⟩ := hp
      obtain rfl : J30 = J36 := eJ36.symm
      obtain rfl : R = R36 := eR36.symm
      replace hv := fnW hv hf36
      have sm : Sm C ms_X11_callChain (I, J, R) (I36, J30, R) := sm.tr sc36 rfl
      refine lv_bipush (v := (-7)) hx hb dX11_callChain_120 (by decide) ?_
      exact ret ((-7)) _ _ _ _ _ _ _ dX11_callChain_122 hH ⟨⟨oI, oR, sm⟩, rfl, (Rg_w (Rg_c (x := (-7)) (a := (-7)) (b := (-7)) (by decide)) (by decide)), (hT.symm.trans hv)⟩
  have L_9 : ∀ (n_9 : Nat) (I_9 : hI) (J_9 : hJ) (H : Heap) (locs : List Loc) (ls : Array Slot) (x3_9 : Int32), (4 - x3_9.toInt).toNat < n_9 → Hp D cy L C b0 s s.heap I_9 J_9 R H locs → TT0 = F_X11_callChain_9 a0 x1 y3 z1 b2 n_9 I_9 J_9 R x3_9 → OkI L C I_9 → Sm C ms_X11_callChain (I, J, R) (I_9, J_9, R) → Rg x1 (0) (19) → Rg y3 (0) (119) → Rg x3_9 (0) (4) → Rg (I_9 a0 49) (1) (11) → lv_has ls 4 [(0, .ref a0), (1, .int x1), (2, .int y3), (3, .int x3_9)] → W p l e (rmD 5) s m args below meth c H locs 0 0 Q (F0 m 9 ls []) := by
    intro n_9
    induction n_9 with
    | zero => intro I_9 J_9 H locs ls x3_9 h; exact absurd h (Nat.not_lt_zero _)
    | succ n_9 ih_9 =>
      intro I_9 J_9 H locs ls x3_9 hn_9 hH hv oI sm r1_9 r2_9 r3_9 hm49_9 hl
      replace hv := hv.trans F_X11_callChain_9_s
      unfold B_X11_callChain_9 at hv
      obtain ⟨zm49_9, em49_9⟩ : ∃ y : Int32, y = I_9 a0 49 := ⟨_, rfl⟩
      have rm49_9 : Rg zm49_9 (1) (11) := by rw [em49_9]; exact hm49_9
      replace hv := fnS hv em49_9
      refine lv_iload_n hx hb dX11_callChain_9 rfl (lv_at hl 3 rfl) ?_
      refine lv_aload_n hx hb dX11_callChain_10 rfl (lv_at hl 0 rfl) ?_
      obtain ⟨b46, mb46, vb46, kb46⟩ := rf_11_10 oR m0 k0
      replace hv := fnR hv vb46
      refine gf_11_10 vb46 hx hb hts hown hH m0 k0 rfl kf_X11_35 dX11_callChain_11 ?_
      refine lv_iload_n hx hb dX11_callChain_14 rfl (lv_at hl 2 rfl) ?_
      refine ld_72 hx hb hH mb46 kb46 (Rg_in r2_9 (by decide)) dX11_callChain_15 ?_
      refine lv_topi (fun y47 ey47 => ?_)
      have ry47 : Rg y47 (0) (4) := by rw [ey47]; exact rd_72 oI mb46 kb46 (Rg_in r2_9 (by decide))
      replace hv := fnS hv ey47
      refine lv_icmp_ge (tgt := 68) hx hb dX11_callChain_16 (by decide) (fun q48 => ?_) (fun q48 => ?_)
      · replace hv := fnP hv q48
        refine lv_iconst (v := 1) hx hb dX11_callChain_68 (by decide) ?_
        refine lv_istore_n (lv' := [(3, .int 1), (0, .ref a0), (1, .int x1), (2, .int y3)]) hx hb dX11_callChain_69 rfl hl (by decide) rfl (fun ls hl => ?_)
        exact L_70 ((11 - (1 : Int32).toInt).toNat + 1) I_9 J_9 _ _ _ 1 (Nat.lt_succ_self _) hH hv oI sm r1_9 (Rg_w (Rg_c (x := 1) (a := (1)) (b := (1)) (by decide)) (by decide)) (by rw [← em49_9]; exact Rg_w rm49_9 (by decide)) (lv_sub hl [1, 2, 0] rfl)
      replace hv := fnN hv q48
      have r49 : Rg x3_9 (0) (3) := Rg_ult r3_9 (Rg_nle q48) ry47 (by decide)
      have r50 : Rg y47 (1) (4) := Rg_llt ry47 (Rg_nle q48) r3_9 (by decide)
      refine lv_aload_n hx hb dX11_callChain_19 rfl (lv_at hl 0 rfl) ?_
      obtain ⟨b51, mb51, vb51, kb51⟩ := rf_11_52 oR m0 k0
      replace hv := fnR hv vb51
      refine gf_11_52 vb51 hx hb hts hown hH m0 k0 rfl kf_X11_117 dX11_callChain_20 ?_
      refine lv_iload_n hx hb dX11_callChain_23 rfl (lv_at hl 3 rfl) ?_
      refine lv_aload_n hx hb dX11_callChain_24 rfl (lv_at hl 0 rfl) ?_
      obtain ⟨b52, mb52, vb52, kb52⟩ := rf_11_24 oR m0 k0
      replace hv := fnR hv vb52
      refine gf_11_24 vb52 hx hb hts hown hH m0 k0 rfl kf_X11_72 dX11_callChain_25 ?_
      refine lv_iload_n hx hb dX11_callChain_28 rfl (lv_at hl 3 rfl) ?_
      refine ld_84 hx hb hH mb52 kb52 (Rg_in r49 (by decide)) dX11_callChain_29 ?_
      refine lv_topl (fun w53 ew53 => ?_)
      replace hv := fnS hv ew53
      refine st_99 hx hb hH mb51 kb51 (Rg_in r49 (by decide)) dX11_callChain_30 (fun J54 H locs eJ54 hH => ?_)
      replace hv := fnS hv eJ54
      have sm : Sm C ms_X11_callChain (I, J, R) (I_9, J54, R) := by rw [eJ54]; exact sm.stJ kb51 (mC_arr (by decide) rfl)
      refine lv_aload_n hx hb dX11_callChain_31 rfl (lv_at hl 0 rfl) ?_
      obtain ⟨b55, mb55, vb55, kb55⟩ := rf_11_11 oR m0 k0
      replace hv := fnR hv vb55
      refine gf_11_11 vb55 hx hb hts hown hH m0 k0 rfl kf_X11_38 dX11_callChain_32 ?_
      refine lv_iconst (v := 4) hx hb dX11_callChain_35 (by decide) ?_
      refine lv_iload_n hx hb dX11_callChain_36 rfl (lv_at hl 2 rfl) ?_
      refine lv_imul hx hb dX11_callChain_37 ?_
      refine lv_topi (fun y56 ey56 => ?_)
      replace hv := fnS hv ey56
      obtain ⟨ty56, ry56⟩ := Rg_mulx (a' := (0)) (b' := (476)) (by decide : Int32.toInt 4 = 4) (rfl : y3.toInt = _) (Rg_c (x := 4) (a := (4)) (b := (4)) (by decide)) r2_9 (by decide)
      rw [← ey56] at ty56 ry56
      refine lv_iload_n hx hb dX11_callChain_38 rfl (lv_at hl 3 rfl) ?_
      refine lv_iadd hx hb dX11_callChain_39 ?_
      refine lv_topi (fun y57 ey57 => ?_)
      replace hv := fnS hv ey57
      obtain ⟨ty57, ry57⟩ := Rg_addx (a' := (0)) (b' := (479)) (rfl : y56.toInt = _) (rfl : x3_9.toInt = _) ry56 r49 (by decide)
      rw [← ey57] at ty57 ry57
      refine ld_73 hx hb hH mb55 kb55 (Rg_in ry57 (by decide)) dX11_callChain_40 ?_
      refine lv_topi (fun y58 ey58 => ?_)
      have ry58 : Rg y58 (0) (6) := by rw [ey58]; exact rd_73 oI mb55 kb55 (Rg_in ry57 (by decide))
      replace hv := fnS hv ey58
      refine lv_aload_n hx hb dX11_callChain_41 rfl (lv_at hl 0 rfl) ?_
      refine gf_11_24 vb52 hx hb hts hown hH m0 k0 rfl kf_X11_72 dX11_callChain_42 ?_
      refine lv_iload_n hx hb dX11_callChain_45 rfl (lv_at hl 3 rfl) ?_
      refine ld_84 hx hb hH mb52 kb52 (Rg_in r49 (by decide)) dX11_callChain_46 ?_
      refine lv_topl (fun w59 ew59 => ?_)
      replace hv := fnS hv ew59
      refine ca_X11_176 hx hb hml hown hts hH (c_X11_isOf ry58) hl.1 (by decide) (Nat.le_of_ble_eq_true rfl) ⟨Nat.zero_le _, Nat.zero_le _⟩ dX11_callChain_47 (fun y60 I60 J60 R60 H locs hp hH => ?_)
      obtain ⟨eI60, eJ60, eR60, ry60, hp60, hf60⟩ := hp
      obtain rfl : I_9 = I60 := eI60.symm
      obtain rfl : J54 = J60 := eJ60.symm
      obtain rfl : R = R60 := eR60.symm
      replace hv := fnS hv hf60.symm
      refine lv_if_ne (tgt := 62) hx hb dX11_callChain_50 (by decide) (fun q61 => ?_) (fun q61 => ?_)
      · replace hv := fnN hv q61
        have r62 : Rg y60 (1) (1) := Rg_nelo ry60 (Rg_ne q61) (Rg_c (x := 0) (a := (0)) (b := (0)) (by decide)) (by decide)
        obtain ⟨y63, ey63⟩ : ∃ y : Int32, y = x3_9 + 1 := ⟨_, rfl⟩
        replace hv := fnS hv ey63
        obtain ⟨ty63, ry63⟩ := Rg_addx (a' := (1)) (b' := (4)) (rfl : x3_9.toInt = _) (by decide : Int32.toInt 1 = 1) r49 (Rg_c (x := 1) (a := (1)) (b := (1)) (by decide)) (by decide)
        rw [← ey63] at ty63 ry63
        refine lv_iinc (v := y63) (lv' := [(3, .int y63), (0, .ref a0), (1, .int x1), (2, .int y3)]) hx hb dX11_callChain_62 hl (k := 3) rfl (by rw [ey63]; rfl) (by decide) rfl (fun ls hl => ?_)
        refine lv_goto (tgt := 9) hx hb dX11_callChain_65 (by decide) ?_
        exact ih_9 I_9 J54 _ _ _ y63 (lp_up hn_9 ty63 (Rg_ltc r49 (by decide))) hH hv oI sm r1_9 r2_9 (Rg_w ry63 (by decide)) (by rw [← em49_9]; exact Rg_w rm49_9 (by decide)) (lv_sub hl [1, 2, 3, 0] rfl)
      replace hv := fnP hv q61
      have r64 : Rg y60 (0) (0) := Rg_both ry60 (Rg_eqv q61 (Rg_c (x := 0) (a := (0)) (b := (0)) (by decide))) (by decide)
      refine lv_aload_n hx hb dX11_callChain_53 rfl (lv_at hl 0 rfl) ?_
      refine lv_iconst (v := 0) hx hb dX11_callChain_54 (by decide) ?_
      refine lv_iconst (v := (-1)) hx hb dX11_callChain_55 (by decide) ?_
      refine ca_X11_208 hx hb hml hown hts hH (c_X11_fail oI oR m0 k0) hl.1 m0 k0 rfl (by decide) (Nat.le_of_ble_eq_true rfl) ⟨Nat.zero_le _, Nat.zero_le _⟩ dX11_callChain_56 (fun I65 J65 R65 H locs hp hH => ?_)
      obtain ⟨⟨oI, -, sc65⟩, eJ65, eR65, hf65⟩ := hp
      obtain rfl : J54 = J65 := eJ65.symm
      obtain rfl : R = R65 := eR65.symm
      replace hv := fnW hv hf65
      have sm : Sm C ms_X11_callChain (I, J, R) (I65, J54, R) := sm.tr sc65 rfl
      refine lv_bipush (v := (-7)) hx hb dX11_callChain_59 (by decide) ?_
      exact ret ((-7)) _ _ _ _ _ _ _ dX11_callChain_61 hH ⟨⟨oI, oR, sm⟩, rfl, (Rg_w (Rg_c (x := (-7)) (a := (-7)) (b := (-7)) (by decide)) (by decide)), (hT.symm.trans hv)⟩
  exact L_9 ((4 - (0 : Int32).toInt).toNat + 1) I J _ _ _ 0 (Nat.lt_succ_self _) hH hv oI sm h1 ry3 (Rg_w (Rg_c (x := 0) (a := (0)) (b := (0)) (by decide)) (by decide)) (by rw [← ez1]; exact Rg_w rz1 (by decide)) (lv_sub hl [2, 3, 1, 0] rfl)
noncomputable def F_X11_call (a0 : Nat) (x1 : Int32) (x2 : Int32) (x3 : Int32) (I : hI) (J : hJ) (R : hR) : Int32 × hU :=
  nm (u2 I a0 0 (0 : Int32)) fun I1 => nm (I1 a0 21) fun y3 => nm (y3 - (1 : Int32)) fun y4 => nm (F_X11_in (x1.toInt64) (0 : Int64) (y4.toInt64)) fun y5 => (if y5 = (1 : Int32) then nm (F_X11_in (x2.toInt64) (0 : Int64) (9 : Int64)) fun y13 => (if y13 = (1 : Int32) then nm ((10 : Int32) + x2) fun y19 => nm (F_X11_isMember a0 y19 x3 I1 J R) fun y20 => (if y20 = (1 : Int32) then nmW (F_X11_measure a0 I1 J R) fun I23 _ _ => nm ((R a0 50).getD 0) fun b24 => nm ((6 : Int32) * y19) fun y26 => nm (y26 + x3) fun y27 => nm (u2 I23 b24 (Int32.toNatClampNeg (0 : Int32)) y27) fun I28 => nm (u2 I28 a0 49 (1 : Int32)) fun I29 => nm ((R a0 22).getD 0) fun b31 => nm (I29 b31 (Int32.toNatClampNeg x1)) fun y32 => nmU (F_X11_link a0 y32 I29 J R) fun y33 I33 _ _ => nm (I33 a0 49) fun y34 => (if y33 = (1 : Int32) then nmU (F_X11_callChain a0 x1 I33 J R) fun y36 I36 J36 _ => nmU (F_X11_counted a0 y36 I36 J36 R) fun y37 I37 _ _ => (y37, (I37, J36, R)) else ((-6 : Int32), (I33, J, R))) else ((-2 : Int32), (I1, J, R))) else ((-3 : Int32), (I1, J, R))) else ((-2 : Int32), (I1, J, R)))
def ms_X11_call : List Nat := [704, 729, 730, 731, 732, 733, 734, 735, 741, 744, 745, 746, 753, 758, 759, 5312, 5440, 5504, 5568, 5632, 5696, 5760, 5824, 5888, 6208, 6272, 6336, 6400]
set_option maxHeartbeats 4000000 in
set_option maxRecDepth 100000 in
theorem c_X11_call {l : Launch} {D : va_G} {cy : Nat → ClassId} {L : List Nat} {C : Nat → Nat} {b0 : Nat} {I : hI} {J : hJ} {R : hR} {a0 : Nat} {x1 : Int32} {x2 : Int32} {x3 : Int32} (oI : OkI L C I) (oR : OkR L C R) (m0 : a0 ∈ L) (k0 : C a0 = 11) (hXW : XW L C I) : CI l yX11_call cX11_call 4 .int 6 D cy L C b0 [.ref a0, .int x1, .int x2, .int x3] (I, J, R) (fun r v => Ps L C ms_X11_call (I, J, R) v ∧ v.2.2 = R ∧ F_X11_call a0 x1 x2 x3 I J R = (r, v)) := by
  refine CI.mkI (plainFor_of_name (by decide)) (Nat.le_of_ble_eq_true rfl) ?_
  intro p e s m args below meth c ls Q hF ret hH hl
  obtain ⟨hx, hb, -, hml, hown, hts, -⟩ := hF
  have hl : lv_has ls 4 [(0, .ref a0), (1, .int x1), (2, .int x2), (3, .int x3)] := hl
  have hH : Hp D cy L C b0 s s.heap I J R s.heap [] := hH
  have sm : Sm C ms_X11_call (I, J, R) (I, J, R) := Sm.rf
  obtain ⟨TT0, hT⟩ : ∃ TT0, TT0 = F_X11_call a0 x1 x2 x3 I J R := ⟨_, rfl⟩
  have hv := hT
  unfold F_X11_call at hv
  refine lv_aload_n hx hb dX11_call_0 rfl (lv_at hl 0 rfl) ?_
  refine lv_iconst (v := 0) hx hb dX11_call_1 (by decide) ?_
  refine pf_11_0 hx hb hts hown hH m0 k0 rfl kf_X11_131 dX11_call_2 (fun I1 H locs eI1 hH => ?_)
  replace hv := fnS hv eI1
  have oI : OkI L C I1 := by rw [eI1]; exact wf_11_0 oI k0 (Rg_w (Rg_c (x := 0) (a := (0)) (b := (0)) (by decide)) (by decide))
  have sm : Sm C ms_X11_call (I, J, R) (I1, J, R) := by rw [eI1]; exact sm.stI k0 (mC_obj (by decide) rfl)
  have f2 : 0 = I1 a0 0 := by rw [eI1, u2_at]
  refine lv_iload_n hx hb dX11_call_5 rfl (lv_at hl 1 rfl) ?_
  refine lv_i2l (v := x1.toInt64) hx hb dX11_call_6 rfl ?_
  refine lv_lconst (v := 0) hx hb dX11_call_7 (by decide) ?_
  refine lv_aload_n hx hb dX11_call_8 rfl (lv_at hl 0 rfl) ?_
  refine gf_11_21 hx hb hts hown hH m0 k0 rfl kf_X11_282 dX11_call_9 ?_
  refine lv_topi (fun y3 ey3 => ?_)
  have ry3 : Rg y3 (0) (20) := by rw [ey3]; exact rf_11_21 oI m0 k0
  replace hv := fnS hv ey3
  refine lv_iconst (v := 1) hx hb dX11_call_12 (by decide) ?_
  refine lv_isub hx hb dX11_call_13 ?_
  refine lv_topi (fun y4 ey4 => ?_)
  replace hv := fnS hv ey4
  obtain ⟨ty4, ry4⟩ := Rg_subx (a' := (-1)) (b' := (19)) (rfl : y3.toInt = _) (by decide : Int32.toInt 1 = 1) ry3 (Rg_c (x := 1) (a := (1)) (b := (1)) (by decide)) (by decide)
  rw [← ey4] at ty4 ry4
  refine lv_i2l (v := y4.toInt64) hx hb dX11_call_14 rfl ?_
  refine ca_X11_138 hx hb hml hown hts hH (c_X11_in ) hl.1 (by decide) (Nat.le_of_ble_eq_true rfl) ⟨Nat.zero_le _, Nat.zero_le _⟩ dX11_call_15 (fun y5 I5 J5 R5 H locs hp hH => ?_)
  obtain ⟨eI5, eJ5, eR5, ry5, hp5, hf5⟩ := hp
  obtain rfl : I1 = I5 := eI5.symm
  obtain rfl : J = J5 := eJ5.symm
  obtain rfl : R = R5 := eR5.symm
  replace hv := fnS hv hf5.symm
  rcases hp5 with ⟨rfl, hq5⟩ | ⟨rfl, hq5⟩
  rotate_left
  · replace hv := fnN hv (by decide)
    refine lv_if_ne (tgt := 24) hx hb dX11_call_18 (by decide) (fun q41 => ?_) (fun q41 => ?_)
    · exact absurd rfl q41
    refine lv_bipush (v := (-2)) hx hb dX11_call_21 (by decide) ?_
    exact ret ((-2)) _ _ _ _ _ _ _ dX11_call_23 hH ⟨⟨oI, oR, sm⟩, rfl, (hT.symm.trans hv)⟩
  replace hv := fnP hv rfl
  have l6 : Int32.toInt 0 ≤ x1.toInt := in_cl hq5.1 (by decide)
  have r7 : Rg x1 (0) (2147483647) := Rg_lle (Rg_any x1) l6 (Rg_c (x := 0) (a := (0)) (b := (0)) (by decide)) (by decide)
  have l8 := in_ll hq5.2
  have r9 : Rg x1 (0) (19) := Rg_ule r7 l8 ry4 (by decide)
  have r10 : Rg y4 (0) (19) := Rg_lle ry4 l8 r7 (by decide)
  have r11 : Rg y3 (1) (20) := by have a1 := r10.1; have a2 := r10.2; have a3 := ry3.1; have a4 := ry3.2; exact ⟨by omega, by omega⟩
  refine lv_if_ne (tgt := 24) hx hb dX11_call_18 (by decide) (fun q12 => ?_) (fun q12 => ?_)
  rotate_left
  · exact absurd q12 (by decide)
  refine lv_iload_n hx hb dX11_call_24 rfl (lv_at hl 2 rfl) ?_
  refine lv_i2l (v := x2.toInt64) hx hb dX11_call_25 rfl ?_
  refine lv_lconst (v := 0) hx hb dX11_call_26 (by decide) ?_
  refine lv_ldc2 (v := 9) hx hb hown (hts _ kkl_X11_221) dX11_call_27 ?_
  refine ca_X11_138 hx hb hml hown hts hH (c_X11_in ) hl.1 (by decide) (Nat.le_of_ble_eq_true rfl) ⟨Nat.zero_le _, Nat.zero_le _⟩ dX11_call_30 (fun y13 I13 J13 R13 H locs hp hH => ?_)
  obtain ⟨eI13, eJ13, eR13, ry13, hp13, hf13⟩ := hp
  obtain rfl : I1 = I13 := eI13.symm
  obtain rfl : J = J13 := eJ13.symm
  obtain rfl : R = R13 := eR13.symm
  replace hv := fnS hv hf13.symm
  rcases hp13 with ⟨rfl, hq13⟩ | ⟨rfl, hq13⟩
  rotate_left
  · replace hv := fnN hv (by decide)
    refine lv_if_ne (tgt := 39) hx hb dX11_call_33 (by decide) (fun q40 => ?_) (fun q40 => ?_)
    · exact absurd rfl q40
    refine lv_bipush (v := (-3)) hx hb dX11_call_36 (by decide) ?_
    exact ret ((-3)) _ _ _ _ _ _ _ dX11_call_38 hH ⟨⟨oI, oR, sm⟩, rfl, (hT.symm.trans hv)⟩
  replace hv := fnP hv rfl
  have l14 : Int32.toInt 0 ≤ x2.toInt := in_cl hq13.1 (by decide)
  have r15 : Rg x2 (0) (2147483647) := Rg_lle (Rg_any x2) l14 (Rg_c (x := 0) (a := (0)) (b := (0)) (by decide)) (by decide)
  have l16 : x2.toInt ≤ Int32.toInt 9 := in_lc hq13.2 (by decide)
  have r17 : Rg x2 (0) (9) := Rg_ule r15 l16 (Rg_c (x := 9) (a := (9)) (b := (9)) (by decide)) (by decide)
  refine lv_if_ne (tgt := 39) hx hb dX11_call_33 (by decide) (fun q18 => ?_) (fun q18 => ?_)
  rotate_left
  · exact absurd q18 (by decide)
  refine lv_aload_n hx hb dX11_call_39 rfl (lv_at hl 0 rfl) ?_
  refine lv_bipush (v := 10) hx hb dX11_call_40 (by decide) ?_
  refine lv_iload_n hx hb dX11_call_42 rfl (lv_at hl 2 rfl) ?_
  refine lv_iadd hx hb dX11_call_43 ?_
  refine lv_topi (fun y19 ey19 => ?_)
  replace hv := fnS hv ey19
  obtain ⟨ty19, ry19⟩ := Rg_addx (a' := (10)) (b' := (19)) (by decide : Int32.toInt 10 = 10) (rfl : x2.toInt = _) (Rg_c (x := 10) (a := (10)) (b := (10)) (by decide)) r17 (by decide)
  rw [← ey19] at ty19 ry19
  refine lv_iload_n hx hb dX11_call_44 rfl (lv_at hl 3 rfl) ?_
  refine ca_X11_235 hx hb hml hown hts hH (c_X11_isMember oI oR m0 k0 (Rg_w ry19 (by decide))) hl.1 m0 k0 rfl (by decide) (Nat.le_of_ble_eq_true rfl) ⟨Nat.zero_le _, Nat.zero_le _⟩ dX11_call_45 (fun y20 I20 J20 R20 H locs hp hH => ?_)
  obtain ⟨eI20, eJ20, eR20, ry20, hp20, hf20⟩ := hp
  obtain rfl : I1 = I20 := eI20.symm
  obtain rfl : J = J20 := eJ20.symm
  obtain rfl : R = R20 := eR20.symm
  replace hv := fnS hv hf20.symm
  rcases hp20 with ⟨rfl, hq20⟩ | rfl
  rotate_left
  · replace hv := fnN hv (by decide)
    refine lv_if_ne (tgt := 54) hx hb dX11_call_48 (by decide) (fun q39 => ?_) (fun q39 => ?_)
    · exact absurd rfl q39
    refine lv_bipush (v := (-2)) hx hb dX11_call_51 (by decide) ?_
    exact ret ((-2)) _ _ _ _ _ _ _ dX11_call_53 hH ⟨⟨oI, oR, sm⟩, rfl, (hT.symm.trans hv)⟩
  replace hv := fnP hv rfl
  have r21 : Rg x3 (0) (5) := Rg_both (Rg_any x3) ⟨hq20.1, hq20.2⟩ (by decide)
  refine lv_if_ne (tgt := 54) hx hb dX11_call_48 (by decide) (fun q22 => ?_) (fun q22 => ?_)
  rotate_left
  · exact absurd q22 (by decide)
  refine lv_aload_n hx hb dX11_call_54 rfl (lv_at hl 0 rfl) ?_
  refine ca_X11_189 hx hb hml hown hts hH (c_X11_measure oI oR m0 k0) hl.1 m0 k0 rfl (by decide) (Nat.le_of_ble_eq_true rfl) ⟨Nat.zero_le _, Nat.zero_le _⟩ dX11_call_55 (fun I23 J23 R23 H locs hp hH => ?_)
  obtain ⟨⟨oI, -, sc23⟩, eJ23, eR23, hf23⟩ := hp
  obtain rfl : J = J23 := eJ23.symm
  obtain rfl : R = R23 := eR23.symm
  replace hv := fnW hv hf23
  have sm : Sm C ms_X11_call (I, J, R) (I23, J, R) := sm.tr sc23 rfl
  refine lv_aload_n hx hb dX11_call_58 rfl (lv_at hl 0 rfl) ?_
  obtain ⟨b24, mb24, vb24, kb24⟩ := rf_11_50 oR m0 k0
  replace hv := fnR hv vb24
  refine gf_11_50 vb24 hx hb hts hown hH m0 k0 rfl kf_X11_111 dX11_call_59 ?_
  refine lv_iconst (v := 0) hx hb dX11_call_62 (by decide) ?_
  refine lv_bipush (v := 6) hx hb dX11_call_63 (by decide) ?_
  refine lv_bipush (v := 10) hx hb dX11_call_65 (by decide) ?_
  refine lv_iload_n hx hb dX11_call_67 rfl (lv_at hl 2 rfl) ?_
  refine lv_iadd hx hb dX11_call_68 ?_
  refine lv_topi (fun y25 ey25 => ?_)
  obtain rfl : y19 = y25 := ey19.trans ey25.symm
  refine lv_imul hx hb dX11_call_69 ?_
  refine lv_topi (fun y26 ey26 => ?_)
  replace hv := fnS hv ey26
  obtain ⟨ty26, ry26⟩ := Rg_mulx (a' := (60)) (b' := (114)) (by decide : Int32.toInt 6 = 6) (rfl : y19.toInt = _) (Rg_c (x := 6) (a := (6)) (b := (6)) (by decide)) ry19 (by decide)
  rw [← ey26] at ty26 ry26
  refine lv_iload_n hx hb dX11_call_70 rfl (lv_at hl 3 rfl) ?_
  refine lv_iadd hx hb dX11_call_71 ?_
  refine lv_topi (fun y27 ey27 => ?_)
  replace hv := fnS hv ey27
  obtain ⟨ty27, ry27⟩ := Rg_addx (a' := (60)) (b' := (119)) (rfl : y26.toInt = _) (rfl : x3.toInt = _) ry26 r21 (by decide)
  rw [← ey27] at ty27 ry27
  refine st_97 hx hb hH mb24 kb24 (Rg_in (Rg_c (x := 0) (a := (0)) (b := (0)) (by decide)) (by decide)) dX11_call_72 (fun I28 H locs eI28 hH => ?_)
  replace hv := fnS hv eI28
  have oI : OkI L C I28 := by rw [eI28]; exact wr_97 oI kb24 (Rg_w ry27 (by decide))
  have sm : Sm C ms_X11_call (I, J, R) (I28, J, R) := by rw [eI28]; exact sm.stI kb24 (mC_arr (by decide) rfl)
  refine lv_aload_n hx hb dX11_call_73 rfl (lv_at hl 0 rfl) ?_
  refine lv_iconst (v := 1) hx hb dX11_call_74 (by decide) ?_
  refine pf_11_49 hx hb hts hown hH m0 k0 rfl kf_X11_287 dX11_call_75 (fun I29 H locs eI29 hH => ?_)
  replace hv := fnS hv eI29
  have oI : OkI L C I29 := by rw [eI29]; exact wf_11_49 oI k0 (Rg_w (Rg_c (x := 1) (a := (1)) (b := (1)) (by decide)) (by decide))
  have sm : Sm C ms_X11_call (I, J, R) (I29, J, R) := by rw [eI29]; exact sm.stI k0 (mC_obj (by decide) rfl)
  have f30 : 1 = I29 a0 49 := by rw [eI29, u2_at]
  refine lv_aload_n hx hb dX11_call_78 rfl (lv_at hl 0 rfl) ?_
  refine lv_aload_n hx hb dX11_call_79 rfl (lv_at hl 0 rfl) ?_
  obtain ⟨b31, mb31, vb31, kb31⟩ := rf_11_22 oR m0 k0
  replace hv := fnR hv vb31
  refine gf_11_22 vb31 hx hb hts hown hH m0 k0 rfl kf_X11_66 dX11_call_80 ?_
  refine lv_iload_n hx hb dX11_call_83 rfl (lv_at hl 1 rfl) ?_
  refine ld_82 hx hb hH mb31 kb31 (Rg_in r9 (by decide)) dX11_call_84 ?_
  refine lv_topi (fun y32 ey32 => ?_)
  have ry32 : Rg y32 (0) (9) := by rw [ey32]; exact rd_82 oI mb31 kb31 (Rg_in r9 (by decide))
  replace hv := fnS hv ey32
  refine ca_X11_312 hx hb hml hown hts hH (c_X11_link oI oR m0 k0 (Rg_w ry32 (by decide)) (by rw [← f30]; exact Rg_w (Rg_c (x := 1) (a := (1)) (b := (1)) (by decide)) (by decide))) hl.1 m0 k0 rfl (by decide) (Nat.le_of_ble_eq_true rfl) ⟨Nat.zero_le _, Nat.zero_le _⟩ dX11_call_85 (fun y33 I33 J33 R33 H locs hp hH => ?_)
  obtain ⟨⟨oI, -, sc33⟩, eJ33, eR33, ry33, pm33_49, hp33, hf33⟩ := hp
  obtain rfl : J = J33 := eJ33.symm
  obtain rfl : R = R33 := eR33.symm
  replace hv := fnC hv hf33
  have sm : Sm C ms_X11_call (I, J, R) (I33, J, R) := sm.tr sc33 rfl
  obtain ⟨y34, ey34⟩ : ∃ y : Int32, y = I33 a0 49 := ⟨_, rfl⟩
  have ry34 : Rg y34 (1) (11) := by rw [ey34]; exact pm33_49
  replace hv := fnS hv ey34
  rcases hp33 with ⟨rfl, hq33⟩ | rfl
  rotate_left
  · replace hv := fnN hv (by decide)
    refine lv_if_eq (tgt := 103) hx hb dX11_call_88 (by decide) (fun q38 => ?_) (fun q38 => ?_)
    rotate_left
    · exact absurd rfl q38
    refine lv_bipush (v := (-6)) hx hb dX11_call_103 (by decide) ?_
    exact ret ((-6)) _ _ _ _ _ _ _ dX11_call_105 hH ⟨⟨oI, oR, sm⟩, rfl, (hT.symm.trans hv)⟩
  replace hv := fnP hv rfl
  refine lv_if_eq (tgt := 103) hx hb dX11_call_88 (by decide) (fun q35 => ?_) (fun q35 => ?_)
  · exact absurd q35 (by decide)
  refine lv_aload_n hx hb dX11_call_91 rfl (lv_at hl 0 rfl) ?_
  refine lv_aload_n hx hb dX11_call_92 rfl (lv_at hl 0 rfl) ?_
  refine lv_iload_n hx hb dX11_call_93 rfl (lv_at hl 1 rfl) ?_
  refine ca_X11_315 hx hb hml hown hts hH (c_X11_callChain oI oR m0 k0 r9 (by rw [← ey34]; exact Rg_w ry34 (by decide)) (by exact XW.sm (u := (I, J, R)) (v := (I33, J, R)) hXW sm rfl rfl)) hl.1 m0 k0 rfl (by decide) (Nat.le_of_ble_eq_true rfl) ⟨Nat.zero_le _, Nat.zero_le _⟩ dX11_call_94 (fun y36 I36 J36 R36 H locs hp hH => ?_)
  obtain ⟨⟨oI, -, sc36⟩, eR36, ry36, hf36⟩ := hp
  obtain rfl : R = R36 := eR36.symm
  replace hv := fnC hv hf36
  have sm : Sm C ms_X11_call (I, J, R) (I36, J36, R) := sm.tr sc36 rfl
  refine ca_X11_319 hx hb hml hown hts hH (c_X11_counted oI oR m0 k0) hl.1 m0 k0 rfl (by decide) (Nat.le_of_ble_eq_true rfl) ⟨Nat.zero_le _, Nat.zero_le _⟩ dX11_call_97 (fun y37 I37 J37 R37 H locs hp hH => ?_)
  obtain ⟨⟨oI, -, sc37⟩, eJ37, eR37, hf37⟩ := hp
  obtain rfl : J36 = J37 := eJ37.symm
  obtain rfl : R = R37 := eR37.symm
  replace hv := fnC hv hf37
  have sm : Sm C ms_X11_call (I, J, R) (I37, J36, R) := sm.tr sc37 rfl
  refine lv_goto (tgt := 105) hx hb dX11_call_100 (by decide) ?_
  exact ret (y37) _ _ _ _ _ _ _ dX11_call_105 hH ⟨⟨oI, oR, sm⟩, rfl, (hT.symm.trans hv)⟩
noncomputable def B_X11_through_116 (a0 : Nat) (x1 : Int32) (x2 : Int32) (x3 : Int32) (x4 : Int32) (y3 : Int32) (y4 : Int32) (k_116 : hI → hJ → hR → Int32 → Int32 → (Int32 × hU)) (I_116 : hI) (J_116 : hJ) (R : hR) (x5_116 : Int32) (x6_116 : Int32) : Int32 × hU :=
  nm (I_116 a0 49) fun zm49_116 => nm (I_116 a0 47) fun zm47_116 => (if x6_116 < (0 : Int32) then (if x5_116 = (0 : Int32) then ((-6 : Int32), (I_116, J_116, R)) else nm ((R a0 22).getD 0) fun b14 => nm (I_116 b14 (Int32.toNatClampNeg x1)) fun y15 => nmU (F_X11_link a0 y15 I_116 J_116 R) fun y16 I16 _ _ => nm (I16 a0 49) fun y17 => (if y16 = (1 : Int32) then nmU (F_X11_callChain a0 x1 I16 J_116 R) fun y19 I19 J19 _ => nmU (F_X11_counted a0 y19 I19 J19 R) fun y20 I20 _ _ => (y20, (I20, J19, R)) else ((-6 : Int32), (I16, J_116, R)))) else (if x5_116 = (0 : Int32) then (if x5_116 = (0 : Int32) then ((-6 : Int32), (I_116, J_116, R)) else default) else nm ((R a0 48).getD 0) fun b33 => nm (I_116 b33 (Int32.toNatClampNeg x6_116)) fun y34 => nm ((10 : Int32) + y34) fun y35 => nmU (F_X11_link a0 y35 I_116 J_116 R) fun y36 I36 _ _ => nm (I36 a0 49) fun y37 => (if y36 = (1 : Int32) then nm (x6_116 + (-1 : Int32)) fun y38 => k_116 I36 J_116 R (1 : Int32) y38 else nm (x6_116 + (-1 : Int32)) fun y41 => k_116 I36 J_116 R (0 : Int32) y41)))
noncomputable def F_X11_through_116 (a0 : Nat) (x1 : Int32) (x2 : Int32) (x3 : Int32) (x4 : Int32) (y3 : Int32) (y4 : Int32) : Nat → hI → hJ → hR → Int32 → Int32 → (Int32 × hU) := fun n => Nat.rec (motive := fun _ => hI → hJ → hR → Int32 → Int32 → (Int32 × hU)) (fun _ _ _ _ _ => default) (fun _ k => B_X11_through_116 a0 x1 x2 x3 x4 y3 y4 k) n
theorem F_X11_through_116_s {a0 : Nat} {x1 : Int32} {x2 : Int32} {x3 : Int32} {x4 : Int32} {y3 : Int32} {y4 : Int32} {n : Nat} {I_116 : hI} {J_116 : hJ} {R : hR} {x5_116 : Int32} {x6_116 : Int32} : F_X11_through_116 a0 x1 x2 x3 x4 y3 y4 (n + 1)  I_116 J_116 R x5_116 x6_116 = B_X11_through_116 a0 x1 x2 x3 x4 y3 y4 (F_X11_through_116 a0 x1 x2 x3 x4 y3 y4 n)  I_116 J_116 R x5_116 x6_116 := rfl
noncomputable def F_X11_through (a0 : Nat) (x1 : Int32) (x2 : Int32) (x3 : Int32) (x4 : Int32) (I : hI) (J : hJ) (R : hR) : Int32 × hU :=
  nm (u2 I a0 0 (0 : Int32)) fun I1 => nm (I1 a0 21) fun y3 => nm (y3 - (1 : Int32)) fun y4 => nm (F_X11_in (x1.toInt64) (0 : Int64) (y4.toInt64)) fun y44 => (if y44 = (1 : Int32) then nm (F_X11_in (x2.toInt64) (0 : Int64) (9 : Int64)) fun y52 => (if y52 = (1 : Int32) then nm (F_X11_in (x3.toInt64) (0 : Int64) (9 : Int64)) fun y58 => (if y58 = (1 : Int32) then nmW (F_X11_measure a0 I1 J R) fun I64 _ _ => nmU (F_X11_findWay a0 x2 x3 I64 J R) fun y65 I65 _ _ => nm (I65 a0 47) fun y66 => (if y65 < (1000000 : Int32) then nm ((10 : Int32) + x3) fun y70 => nm (F_X11_isMember a0 y70 x4 I65 J R) fun y71 => (if y71 = (1 : Int32) then nm ((R a0 50).getD 0) fun b74 => nm ((6 : Int32) * y70) fun y76 => nm (y76 + x4) fun y77 => nm (u2 I65 b74 (Int32.toNatClampNeg (0 : Int32)) y77) fun I78 => nm (u2 I78 a0 49 (1 : Int32)) fun I79 => nm (y66 - (2 : Int32)) fun y85 => F_X11_through_116 a0 x1 x2 x3 x4 y3 y4 ((y85.toInt + 1).toNat + 1) I79 J R (1 : Int32) y85 else ((-2 : Int32), (I65, J, R))) else ((-1 : Int32), (I65, J, R))) else ((-3 : Int32), (I1, J, R))) else ((-3 : Int32), (I1, J, R))) else ((-2 : Int32), (I1, J, R)))
def ms_X11_through : List Nat := [704, 729, 730, 731, 732, 733, 734, 735, 741, 744, 745, 746, 751, 753, 758, 759, 5312, 5440, 5504, 5568, 5632, 5696, 5760, 5824, 5888, 5952, 6016, 6080, 6144, 6208, 6272, 6336, 6400]
set_option maxHeartbeats 4000000 in
set_option maxRecDepth 100000 in
theorem c_X11_through {l : Launch} {D : va_G} {cy : Nat → ClassId} {L : List Nat} {C : Nat → Nat} {b0 : Nat} {I : hI} {J : hJ} {R : hR} {a0 : Nat} {x1 : Int32} {x2 : Int32} {x3 : Int32} {x4 : Int32} (oI : OkI L C I) (oR : OkR L C R) (m0 : a0 ∈ L) (k0 : C a0 = 11) (hXW : XW L C I) : CI l yX11_through cX11_through 7 .int 6 D cy L C b0 [.ref a0, .int x1, .int x2, .int x3, .int x4] (I, J, R) (fun r v => Ps L C ms_X11_through (I, J, R) v ∧ v.2.2 = R ∧ F_X11_through a0 x1 x2 x3 x4 I J R = (r, v)) := by
  refine CI.mkI (plainFor_of_name (by decide)) (Nat.le_of_ble_eq_true rfl) ?_
  intro p e s m args below meth c ls Q hF ret hH hl
  obtain ⟨hx, hb, -, hml, hown, hts, -⟩ := hF
  have hl : lv_has ls 7 [(0, .ref a0), (1, .int x1), (2, .int x2), (3, .int x3), (4, .int x4)] := hl
  have hH : Hp D cy L C b0 s s.heap I J R s.heap [] := hH
  have sm : Sm C ms_X11_through (I, J, R) (I, J, R) := Sm.rf
  obtain ⟨TT0, hT⟩ : ∃ TT0, TT0 = F_X11_through a0 x1 x2 x3 x4 I J R := ⟨_, rfl⟩
  have hv := hT
  unfold F_X11_through at hv
  refine lv_aload_n hx hb dX11_through_0 rfl (lv_at hl 0 rfl) ?_
  refine lv_iconst (v := 0) hx hb dX11_through_1 (by decide) ?_
  refine pf_11_0 hx hb hts hown hH m0 k0 rfl kf_X11_131 dX11_through_2 (fun I1 H locs eI1 hH => ?_)
  replace hv := fnS hv eI1
  have oI : OkI L C I1 := by rw [eI1]; exact wf_11_0 oI k0 (Rg_w (Rg_c (x := 0) (a := (0)) (b := (0)) (by decide)) (by decide))
  have sm : Sm C ms_X11_through (I, J, R) (I1, J, R) := by rw [eI1]; exact sm.stI k0 (mC_obj (by decide) rfl)
  have f2 : 0 = I1 a0 0 := by rw [eI1, u2_at]
  refine lv_iload_n hx hb dX11_through_5 rfl (lv_at hl 1 rfl) ?_
  refine lv_i2l (v := x1.toInt64) hx hb dX11_through_6 rfl ?_
  refine lv_lconst (v := 0) hx hb dX11_through_7 (by decide) ?_
  refine lv_aload_n hx hb dX11_through_8 rfl (lv_at hl 0 rfl) ?_
  refine gf_11_21 hx hb hts hown hH m0 k0 rfl kf_X11_282 dX11_through_9 ?_
  refine lv_topi (fun y3 ey3 => ?_)
  have ry3 : Rg y3 (0) (20) := by rw [ey3]; exact rf_11_21 oI m0 k0
  replace hv := fnS hv ey3
  refine lv_iconst (v := 1) hx hb dX11_through_12 (by decide) ?_
  refine lv_isub hx hb dX11_through_13 ?_
  refine lv_topi (fun y4 ey4 => ?_)
  replace hv := fnS hv ey4
  obtain ⟨ty4, ry4⟩ := Rg_subx (a' := (-1)) (b' := (19)) (rfl : y3.toInt = _) (by decide : Int32.toInt 1 = 1) ry3 (Rg_c (x := 1) (a := (1)) (b := (1)) (by decide)) (by decide)
  rw [← ey4] at ty4 ry4
  refine lv_i2l (v := y4.toInt64) hx hb dX11_through_14 rfl ?_
  have L_116 : ∀ (n_116 : Nat) (I_116 : hI) (J_116 : hJ) (H : Heap) (locs : List Loc) (ls : Array Slot) (x5_116 : Int32) (x6_116 : Int32), (x6_116.toInt + 1).toNat < n_116 → Hp D cy L C b0 s s.heap I_116 J_116 R H locs → TT0 = F_X11_through_116 a0 x1 x2 x3 x4 y3 y4 n_116 I_116 J_116 R x5_116 x6_116 → OkI L C I_116 → Sm C ms_X11_through (I, J, R) (I_116, J_116, R) → Rg x1 (0) (19) → Rg x5_116 (0) (1) → Rg x6_116 (-1) (8) → Rg (I_116 a0 49) (1) (11) → Rg (I_116 a0 47) (1) (10) → (x5_116 = (0 : Int32) ∨ (I_116 a0 49).toInt + Int32.toInt x6_116 = (I_116 a0 47).toInt - 1) → lv_has ls 7 [(0, .ref a0), (1, .int x1), (5, .int x5_116), (6, .int x6_116)] → W p l e (rmD 6) s m args below meth c H locs 0 0 Q (F0 m 116 ls []) := by
    intro n_116
    induction n_116 with
    | zero => intro I_116 J_116 H locs ls x5_116 x6_116 h; exact absurd h (Nat.not_lt_zero _)
    | succ n_116 ih_116 =>
      intro I_116 J_116 H locs ls x5_116 x6_116 hn_116 hH hv oI sm r1_116 r5_116 r6_116 hm49_116 hm47_116 g0_116 hl
      replace hv := hv.trans F_X11_through_116_s
      unfold B_X11_through_116 at hv
      obtain ⟨zm49_116, em49_116⟩ : ∃ y : Int32, y = I_116 a0 49 := ⟨_, rfl⟩
      have rm49_116 : Rg zm49_116 (1) (11) := by rw [em49_116]; exact hm49_116
      replace hv := fnS hv em49_116
      obtain ⟨zm47_116, em47_116⟩ : ∃ y : Int32, y = I_116 a0 47 := ⟨_, rfl⟩
      have rm47_116 : Rg zm47_116 (1) (10) := by rw [em47_116]; exact hm47_116
      replace hv := fnS hv em47_116
      refine lv_iload hx hb dX11_through_116 (lv_at hl 3 rfl) ?_
      refine lv_if_lt (tgt := 148) hx hb dX11_through_118 (by decide) (fun q5 => ?_) (fun q5 => ?_)
      · replace hv := fnP hv q5
        have l6 := Rg_lt q5
        have r7 : Rg x6_116 (-1) (-1) := Rg_ult r6_116 (Rg_lt q5) (Rg_c (x := 0) (a := (0)) (b := (0)) (by decide)) (by decide)
        refine lv_iload hx hb dX11_through_148 (lv_at hl 2 rfl) ?_
        refine lv_if_eq (tgt := 178) hx hb dX11_through_150 (by decide) (fun q8 => ?_) (fun q8 => ?_)
        · replace hv := fnP hv q8
          have l9 := congrArg Int32.toInt q8
          have r10 : Rg x5_116 (0) (0) := Rg_both r5_116 (Rg_eqv q8 (Rg_c (x := 0) (a := (0)) (b := (0)) (by decide))) (by decide)
          refine lv_bipush (v := (-6)) hx hb dX11_through_178 (by decide) ?_
          exact ret ((-6)) _ _ _ _ _ _ _ dX11_through_180 hH ⟨⟨oI, oR, sm⟩, rfl, (hT.symm.trans hv)⟩
        replace hv := fnN hv q8
        have l11 := Rg_ne q8
        have r12 : Rg x5_116 (1) (1) := Rg_nelo r5_116 (Rg_ne q8) (Rg_c (x := 0) (a := (0)) (b := (0)) (by decide)) (by decide)
        have h13 := g0_116.resolve_left (Rg_ne0 r12 (by decide))
        rw [← em49_116, ← em47_116] at h13
        have r13 : Rg zm49_116 (1) (10) := ⟨rm49_116.1, by have a1 := rm47_116.2; have a2 := r7.1; omega⟩
        refine lv_aload_n hx hb dX11_through_153 rfl (lv_at hl 0 rfl) ?_
        refine lv_aload_n hx hb dX11_through_154 rfl (lv_at hl 0 rfl) ?_
        obtain ⟨b14, mb14, vb14, kb14⟩ := rf_11_22 oR m0 k0
        replace hv := fnR hv vb14
        refine gf_11_22 vb14 hx hb hts hown hH m0 k0 rfl kf_X11_66 dX11_through_155 ?_
        refine lv_iload_n hx hb dX11_through_158 rfl (lv_at hl 1 rfl) ?_
        refine ld_82 hx hb hH mb14 kb14 (Rg_in r1_116 (by decide)) dX11_through_159 ?_
        refine lv_topi (fun y15 ey15 => ?_)
        have ry15 : Rg y15 (0) (9) := by rw [ey15]; exact rd_82 oI mb14 kb14 (Rg_in r1_116 (by decide))
        replace hv := fnS hv ey15
        refine ca_X11_312 hx hb hml hown hts hH (c_X11_link oI oR m0 k0 (Rg_w ry15 (by decide)) (by rw [← em49_116]; exact Rg_w r13 (by decide))) hl.1 m0 k0 rfl (by decide) (Nat.le_of_ble_eq_true rfl) ⟨Nat.zero_le _, Nat.zero_le _⟩ dX11_through_160 (fun y16 I16 J16 R16 H locs hp hH => ?_)
        obtain ⟨⟨oI, -, sc16⟩, eJ16, eR16, ry16, pm16_49, hp16, hf16⟩ := hp
        obtain rfl : J_116 = J16 := eJ16.symm
        obtain rfl : R = R16 := eR16.symm
        replace hv := fnC hv hf16
        have sm : Sm C ms_X11_through (I, J, R) (I16, J_116, R) := sm.tr sc16 rfl
        obtain ⟨y17, ey17⟩ : ∃ y : Int32, y = I16 a0 49 := ⟨_, rfl⟩
        have ry17 : Rg y17 (1) (11) := by rw [ey17]; exact pm16_49
        replace hv := fnS hv ey17
        rcases hp16 with ⟨rfl, hq16⟩ | rfl
        rotate_left
        · replace hv := fnN hv (by decide)
          refine lv_if_eq (tgt := 178) hx hb dX11_through_163 (by decide) (fun q21 => ?_) (fun q21 => ?_)
          rotate_left
          · exact absurd rfl q21
          refine lv_bipush (v := (-6)) hx hb dX11_through_178 (by decide) ?_
          exact ret ((-6)) _ _ _ _ _ _ _ dX11_through_180 hH ⟨⟨oI, oR, sm⟩, rfl, (hT.symm.trans hv)⟩
        replace hv := fnP hv rfl
        refine lv_if_eq (tgt := 178) hx hb dX11_through_163 (by decide) (fun q18 => ?_) (fun q18 => ?_)
        · exact absurd q18 (by decide)
        refine lv_aload_n hx hb dX11_through_166 rfl (lv_at hl 0 rfl) ?_
        refine lv_aload_n hx hb dX11_through_167 rfl (lv_at hl 0 rfl) ?_
        refine lv_iload_n hx hb dX11_through_168 rfl (lv_at hl 1 rfl) ?_
        refine ca_X11_315 hx hb hml hown hts hH (c_X11_callChain oI oR m0 k0 r1_116 (by rw [← ey17]; exact Rg_w ry17 (by decide)) (by exact XW.sm (u := (I, J, R)) (v := (I16, J_116, R)) hXW sm rfl rfl)) hl.1 m0 k0 rfl (by decide) (Nat.le_of_ble_eq_true rfl) ⟨Nat.zero_le _, Nat.zero_le _⟩ dX11_through_169 (fun y19 I19 J19 R19 H locs hp hH => ?_)
        obtain ⟨⟨oI, -, sc19⟩, eR19, ry19, hf19⟩ := hp
        obtain rfl : R = R19 := eR19.symm
        replace hv := fnC hv hf19
        have sm : Sm C ms_X11_through (I, J, R) (I19, J19, R) := sm.tr sc19 rfl
        refine ca_X11_319 hx hb hml hown hts hH (c_X11_counted oI oR m0 k0) hl.1 m0 k0 rfl (by decide) (Nat.le_of_ble_eq_true rfl) ⟨Nat.zero_le _, Nat.zero_le _⟩ dX11_through_172 (fun y20 I20 J20 R20 H locs hp hH => ?_)
        obtain ⟨⟨oI, -, sc20⟩, eJ20, eR20, hf20⟩ := hp
        obtain rfl : J19 = J20 := eJ20.symm
        obtain rfl : R = R20 := eR20.symm
        replace hv := fnC hv hf20
        have sm : Sm C ms_X11_through (I, J, R) (I20, J19, R) := sm.tr sc20 rfl
        refine lv_goto (tgt := 180) hx hb dX11_through_175 (by decide) ?_
        exact ret (y20) _ _ _ _ _ _ _ dX11_through_180 hH ⟨⟨oI, oR, sm⟩, rfl, (hT.symm.trans hv)⟩
      replace hv := fnN hv q5
      have l22 := Rg_nlt q5
      have r23 : Rg x6_116 (0) (8) := Rg_lle r6_116 (Rg_nlt q5) (Rg_c (x := 0) (a := (0)) (b := (0)) (by decide)) (by decide)
      refine lv_iload hx hb dX11_through_121 (lv_at hl 2 rfl) ?_
      refine lv_if_eq (tgt := 148) hx hb dX11_through_123 (by decide) (fun q24 => ?_) (fun q24 => ?_)
      · replace hv := fnP hv q24
        have l25 := congrArg Int32.toInt q24
        have r26 : Rg x5_116 (0) (0) := Rg_both r5_116 (Rg_eqv q24 (Rg_c (x := 0) (a := (0)) (b := (0)) (by decide))) (by decide)
        refine lv_iload hx hb dX11_through_148 (lv_at hl 2 rfl) ?_
        refine lv_if_eq (tgt := 178) hx hb dX11_through_150 (by decide) (fun q27 => ?_) (fun q27 => ?_)
        rotate_left
        · replace hv := fnN hv q27
          exact Rg_no (Rg_nehi r26 (Rg_ne q27) (Rg_c (x := 0) (a := (0)) (b := (0)) (by decide)) (b' := (-1)) (by decide)) (by decide)
        replace hv := fnP hv q27
        have l28 := congrArg Int32.toInt q27
        refine lv_bipush (v := (-6)) hx hb dX11_through_178 (by decide) ?_
        exact ret ((-6)) _ _ _ _ _ _ _ dX11_through_180 hH ⟨⟨oI, oR, sm⟩, rfl, (hT.symm.trans hv)⟩
      replace hv := fnN hv q24
      have l30 := Rg_ne q24
      have r31 : Rg x5_116 (1) (1) := Rg_nelo r5_116 (Rg_ne q24) (Rg_c (x := 0) (a := (0)) (b := (0)) (by decide)) (by decide)
      have h32 := g0_116.resolve_left (Rg_ne0 r31 (by decide))
      rw [← em49_116, ← em47_116] at h32
      have r32 : Rg zm49_116 (1) (10) := ⟨rm49_116.1, by have a1 := rm47_116.2; have a2 := r23.1; omega⟩
      refine lv_aload_n hx hb dX11_through_126 rfl (lv_at hl 0 rfl) ?_
      refine lv_bipush (v := 10) hx hb dX11_through_127 (by decide) ?_
      refine lv_aload_n hx hb dX11_through_129 rfl (lv_at hl 0 rfl) ?_
      obtain ⟨b33, mb33, vb33, kb33⟩ := rf_11_48 oR m0 k0
      replace hv := fnR hv vb33
      refine gf_11_48 vb33 hx hb hts hown hH m0 k0 rfl kf_X11_108 dX11_through_130 ?_
      refine lv_iload hx hb dX11_through_133 (lv_at hl 3 rfl) ?_
      refine ld_96 hx hb hH mb33 kb33 (Rg_in r23 (by decide)) dX11_through_135 ?_
      refine lv_topi (fun y34 ey34 => ?_)
      have ry34 : Rg y34 (0) (9) := by rw [ey34]; exact rd_96 oI mb33 kb33 (Rg_in r23 (by decide))
      replace hv := fnS hv ey34
      refine lv_iadd hx hb dX11_through_136 ?_
      refine lv_topi (fun y35 ey35 => ?_)
      replace hv := fnS hv ey35
      obtain ⟨ty35, ry35⟩ := Rg_addx (a' := (10)) (b' := (19)) (by decide : Int32.toInt 10 = 10) (rfl : y34.toInt = _) (Rg_c (x := 10) (a := (10)) (b := (10)) (by decide)) ry34 (by decide)
      rw [← ey35] at ty35 ry35
      refine ca_X11_312 hx hb hml hown hts hH (c_X11_link oI oR m0 k0 (Rg_w ry35 (by decide)) (by rw [← em49_116]; exact Rg_w r32 (by decide))) hl.1 m0 k0 rfl (by decide) (Nat.le_of_ble_eq_true rfl) ⟨Nat.zero_le _, Nat.zero_le _⟩ dX11_through_137 (fun y36 I36 J36 R36 H locs hp hH => ?_)
      obtain ⟨⟨oI, -, sc36⟩, eJ36, eR36, ry36, pm36_49, hp36, hf36⟩ := hp
      obtain rfl : J_116 = J36 := eJ36.symm
      obtain rfl : R = R36 := eR36.symm
      replace hv := fnC hv hf36
      have sm : Sm C ms_X11_through (I, J, R) (I36, J_116, R) := sm.tr sc36 rfl
      obtain ⟨y37, ey37⟩ : ∃ y : Int32, y = I36 a0 49 := ⟨_, rfl⟩
      have ry37 : Rg y37 (1) (11) := by rw [ey37]; exact pm36_49
      replace hv := fnS hv ey37
      rcases hp36 with ⟨rfl, hq36⟩ | rfl
      · replace hv := fnP hv rfl
        refine lv_istore (lv' := [(5, .int 1), (0, .ref a0), (1, .int x1), (6, .int x6_116)]) hx hb dX11_through_140 hl (by decide) rfl (fun ls hl => ?_)
        obtain ⟨y38, ey38⟩ : ∃ y : Int32, y = x6_116 + (-1) := ⟨_, rfl⟩
        replace hv := fnS hv ey38
        obtain ⟨ty38, ry38⟩ := Rg_addx (a' := (-1)) (b' := (7)) (rfl : x6_116.toInt = _) (by decide : Int32.toInt (-1) = -1) r23 (Rg_c (x := (-1)) (a := (-1)) (b := (-1)) (by decide)) (by decide)
        rw [← ey38] at ty38 ry38
        refine lv_iinc (v := y38) (lv' := [(6, .int y38), (5, .int 1), (0, .ref a0), (1, .int x1)]) hx hb dX11_through_142 hl (k := 3) rfl (by rw [ey38]; rfl) (by decide) rfl (fun ls hl => ?_)
        refine lv_goto (tgt := 116) hx hb dX11_through_145 (by decide) ?_
        have f40 : I36 a0 (47) = I_116 a0 (47) := ((sc36 a0 47 (by rw [k0]; exact (by decide))).1)
        have f39 : zm47_116 = I36 a0 (47) := em47_116.trans f40.symm
        exact ih_116 I36 J_116 _ _ _ 1 y38 (lp_dn hn_116 ty38 r23 (by decide)) hH hv oI sm r1_116 (Rg_w (Rg_c (x := 1) (a := (1)) (b := (1)) (by decide)) (by decide)) (Rg_w ry38 (by decide)) (by rw [← ey37]; exact Rg_w ry37 (by decide)) (by rw [← f39]; exact Rg_w rm47_116 (by decide)) (by refine Or.inr ?_; have h1 : (I36 a0 49).toInt = (I_116 a0 49).toInt + 1 := hq36; have h2 := g0_116.resolve_left (Rg_ne0 r31 (by decide)); rw [← ey37] at h1; rw [← ey37, ← f39, ty38]; rw [← em47_116] at h2; omega) (lv_sub hl [2, 3, 1, 0] rfl)
      replace hv := fnN hv (by decide)
      refine lv_istore (lv' := [(5, .int 0), (0, .ref a0), (1, .int x1), (6, .int x6_116)]) hx hb dX11_through_140 hl (by decide) rfl (fun ls hl => ?_)
      obtain ⟨y41, ey41⟩ : ∃ y : Int32, y = x6_116 + (-1) := ⟨_, rfl⟩
      replace hv := fnS hv ey41
      obtain ⟨ty41, ry41⟩ := Rg_addx (a' := (-1)) (b' := (7)) (rfl : x6_116.toInt = _) (by decide : Int32.toInt (-1) = -1) r23 (Rg_c (x := (-1)) (a := (-1)) (b := (-1)) (by decide)) (by decide)
      rw [← ey41] at ty41 ry41
      refine lv_iinc (v := y41) (lv' := [(6, .int y41), (5, .int 0), (0, .ref a0), (1, .int x1)]) hx hb dX11_through_142 hl (k := 3) rfl (by rw [ey41]; rfl) (by decide) rfl (fun ls hl => ?_)
      refine lv_goto (tgt := 116) hx hb dX11_through_145 (by decide) ?_
      have f43 : I36 a0 (47) = I_116 a0 (47) := ((sc36 a0 47 (by rw [k0]; exact (by decide))).1)
      have f42 : zm47_116 = I36 a0 (47) := em47_116.trans f43.symm
      exact ih_116 I36 J_116 _ _ _ 0 y41 (lp_dn hn_116 ty41 r23 (by decide)) hH hv oI sm r1_116 (Rg_w (Rg_c (x := 0) (a := (0)) (b := (0)) (by decide)) (by decide)) (Rg_w ry41 (by decide)) (by rw [← ey37]; exact Rg_w ry37 (by decide)) (by rw [← f42]; exact Rg_w rm47_116 (by decide)) (by exact Or.inl rfl) (lv_sub hl [2, 3, 1, 0] rfl)
  refine ca_X11_138 hx hb hml hown hts hH (c_X11_in ) hl.1 (by decide) (Nat.le_of_ble_eq_true rfl) ⟨Nat.zero_le _, Nat.zero_le _⟩ dX11_through_15 (fun y44 I44 J44 R44 H locs hp hH => ?_)
  obtain ⟨eI44, eJ44, eR44, ry44, hp44, hf44⟩ := hp
  obtain rfl : I1 = I44 := eI44.symm
  obtain rfl : J = J44 := eJ44.symm
  obtain rfl : R = R44 := eR44.symm
  replace hv := fnS hv hf44.symm
  rcases hp44 with ⟨rfl, hq44⟩ | ⟨rfl, hq44⟩
  rotate_left
  · replace hv := fnN hv (by decide)
    refine lv_if_ne (tgt := 24) hx hb dX11_through_18 (by decide) (fun q91 => ?_) (fun q91 => ?_)
    · exact absurd rfl q91
    refine lv_bipush (v := (-2)) hx hb dX11_through_21 (by decide) ?_
    exact ret ((-2)) _ _ _ _ _ _ _ dX11_through_23 hH ⟨⟨oI, oR, sm⟩, rfl, (hT.symm.trans hv)⟩
  replace hv := fnP hv rfl
  have l45 : Int32.toInt 0 ≤ x1.toInt := in_cl hq44.1 (by decide)
  have r46 : Rg x1 (0) (2147483647) := Rg_lle (Rg_any x1) l45 (Rg_c (x := 0) (a := (0)) (b := (0)) (by decide)) (by decide)
  have l47 := in_ll hq44.2
  have r48 : Rg x1 (0) (19) := Rg_ule r46 l47 ry4 (by decide)
  have r49 : Rg y4 (0) (19) := Rg_lle ry4 l47 r46 (by decide)
  have r50 : Rg y3 (1) (20) := by have a1 := r49.1; have a2 := r49.2; have a3 := ry3.1; have a4 := ry3.2; exact ⟨by omega, by omega⟩
  refine lv_if_ne (tgt := 24) hx hb dX11_through_18 (by decide) (fun q51 => ?_) (fun q51 => ?_)
  rotate_left
  · exact absurd q51 (by decide)
  refine lv_iload_n hx hb dX11_through_24 rfl (lv_at hl 2 rfl) ?_
  refine lv_i2l (v := x2.toInt64) hx hb dX11_through_25 rfl ?_
  refine lv_lconst (v := 0) hx hb dX11_through_26 (by decide) ?_
  refine lv_ldc2 (v := 9) hx hb hown (hts _ kkl_X11_221) dX11_through_27 ?_
  refine ca_X11_138 hx hb hml hown hts hH (c_X11_in ) hl.1 (by decide) (Nat.le_of_ble_eq_true rfl) ⟨Nat.zero_le _, Nat.zero_le _⟩ dX11_through_30 (fun y52 I52 J52 R52 H locs hp hH => ?_)
  obtain ⟨eI52, eJ52, eR52, ry52, hp52, hf52⟩ := hp
  obtain rfl : I1 = I52 := eI52.symm
  obtain rfl : J = J52 := eJ52.symm
  obtain rfl : R = R52 := eR52.symm
  replace hv := fnS hv hf52.symm
  rcases hp52 with ⟨rfl, hq52⟩ | ⟨rfl, hq52⟩
  rotate_left
  · replace hv := fnN hv (by decide)
    refine lv_if_eq (tgt := 48) hx hb dX11_through_33 (by decide) (fun q90 => ?_) (fun q90 => ?_)
    rotate_left
    · exact absurd rfl q90
    refine lv_bipush (v := (-3)) hx hb dX11_through_48 (by decide) ?_
    exact ret ((-3)) _ _ _ _ _ _ _ dX11_through_50 hH ⟨⟨oI, oR, sm⟩, rfl, (hT.symm.trans hv)⟩
  replace hv := fnP hv rfl
  have l53 : Int32.toInt 0 ≤ x2.toInt := in_cl hq52.1 (by decide)
  have r54 : Rg x2 (0) (2147483647) := Rg_lle (Rg_any x2) l53 (Rg_c (x := 0) (a := (0)) (b := (0)) (by decide)) (by decide)
  have l55 : x2.toInt ≤ Int32.toInt 9 := in_lc hq52.2 (by decide)
  have r56 : Rg x2 (0) (9) := Rg_ule r54 l55 (Rg_c (x := 9) (a := (9)) (b := (9)) (by decide)) (by decide)
  refine lv_if_eq (tgt := 48) hx hb dX11_through_33 (by decide) (fun q57 => ?_) (fun q57 => ?_)
  · exact absurd q57 (by decide)
  refine lv_iload_n hx hb dX11_through_36 rfl (lv_at hl 3 rfl) ?_
  refine lv_i2l (v := x3.toInt64) hx hb dX11_through_37 rfl ?_
  refine lv_lconst (v := 0) hx hb dX11_through_38 (by decide) ?_
  refine lv_ldc2 (v := 9) hx hb hown (hts _ kkl_X11_221) dX11_through_39 ?_
  refine ca_X11_138 hx hb hml hown hts hH (c_X11_in ) hl.1 (by decide) (Nat.le_of_ble_eq_true rfl) ⟨Nat.zero_le _, Nat.zero_le _⟩ dX11_through_42 (fun y58 I58 J58 R58 H locs hp hH => ?_)
  obtain ⟨eI58, eJ58, eR58, ry58, hp58, hf58⟩ := hp
  obtain rfl : I1 = I58 := eI58.symm
  obtain rfl : J = J58 := eJ58.symm
  obtain rfl : R = R58 := eR58.symm
  replace hv := fnS hv hf58.symm
  rcases hp58 with ⟨rfl, hq58⟩ | ⟨rfl, hq58⟩
  rotate_left
  · replace hv := fnN hv (by decide)
    refine lv_if_ne (tgt := 51) hx hb dX11_through_45 (by decide) (fun q89 => ?_) (fun q89 => ?_)
    · exact absurd rfl q89
    refine lv_bipush (v := (-3)) hx hb dX11_through_48 (by decide) ?_
    exact ret ((-3)) _ _ _ _ _ _ _ dX11_through_50 hH ⟨⟨oI, oR, sm⟩, rfl, (hT.symm.trans hv)⟩
  replace hv := fnP hv rfl
  have l59 : Int32.toInt 0 ≤ x3.toInt := in_cl hq58.1 (by decide)
  have r60 : Rg x3 (0) (2147483647) := Rg_lle (Rg_any x3) l59 (Rg_c (x := 0) (a := (0)) (b := (0)) (by decide)) (by decide)
  have l61 : x3.toInt ≤ Int32.toInt 9 := in_lc hq58.2 (by decide)
  have r62 : Rg x3 (0) (9) := Rg_ule r60 l61 (Rg_c (x := 9) (a := (9)) (b := (9)) (by decide)) (by decide)
  refine lv_if_ne (tgt := 51) hx hb dX11_through_45 (by decide) (fun q63 => ?_) (fun q63 => ?_)
  rotate_left
  · exact absurd q63 (by decide)
  refine lv_aload_n hx hb dX11_through_51 rfl (lv_at hl 0 rfl) ?_
  refine ca_X11_189 hx hb hml hown hts hH (c_X11_measure oI oR m0 k0) hl.1 m0 k0 rfl (by decide) (Nat.le_of_ble_eq_true rfl) ⟨Nat.zero_le _, Nat.zero_le _⟩ dX11_through_52 (fun I64 J64 R64 H locs hp hH => ?_)
  obtain ⟨⟨oI, -, sc64⟩, eJ64, eR64, hf64⟩ := hp
  obtain rfl : J = J64 := eJ64.symm
  obtain rfl : R = R64 := eR64.symm
  replace hv := fnW hv hf64
  have sm : Sm C ms_X11_through (I, J, R) (I64, J, R) := sm.tr sc64 rfl
  refine lv_aload_n hx hb dX11_through_55 rfl (lv_at hl 0 rfl) ?_
  refine lv_iload_n hx hb dX11_through_56 rfl (lv_at hl 2 rfl) ?_
  refine lv_iload_n hx hb dX11_through_57 rfl (lv_at hl 3 rfl) ?_
  refine ca_X11_279 hx hb hml hown hts hH (c_X11_findWay oI oR m0 k0 r56 r62) hl.1 m0 k0 rfl (by decide) (Nat.le_of_ble_eq_true rfl) ⟨Nat.zero_le _, Nat.zero_le _⟩ dX11_through_58 (fun y65 I65 J65 R65 H locs hp hH => ?_)
  obtain ⟨⟨oI, -, sc65⟩, eJ65, eR65, pm65_47, hf65⟩ := hp
  obtain rfl : J = J65 := eJ65.symm
  obtain rfl : R = R65 := eR65.symm
  replace hv := fnC hv hf65
  have sm : Sm C ms_X11_through (I, J, R) (I65, J, R) := sm.tr sc65 rfl
  obtain ⟨y66, ey66⟩ : ∃ y : Int32, y = I65 a0 47 := ⟨_, rfl⟩
  have ry66 : Rg y66 (1) (10) := by rw [ey66]; exact pm65_47
  replace hv := fnS hv ey66
  refine lv_ldc (v := 1000000) hx hb hown (hts _ kk_X11_180) dX11_through_61 ?_
  refine lv_icmp_lt (tgt := 68) hx hb dX11_through_63 (by decide) (fun q67 => ?_) (fun q67 => ?_)
  rotate_left
  · replace hv := fnN hv q67
    have l87 := Rg_nlt q67
    have r88 : Rg y65 (1000000) (2147483647) := Rg_lle (Rg_any y65) (Rg_nlt q67) (Rg_c (x := 1000000) (a := (1000000)) (b := (1000000)) (by decide)) (by decide)
    refine lv_iconst (v := (-1)) hx hb dX11_through_66 (by decide) ?_
    exact ret ((-1)) _ _ _ _ _ _ _ dX11_through_67 hH ⟨⟨oI, oR, sm⟩, rfl, (hT.symm.trans hv)⟩
  replace hv := fnP hv q67
  have l68 := Rg_lt q67
  have r69 : Rg y65 (-2147483648) (999999) := Rg_ult (Rg_any y65) (Rg_lt q67) (Rg_c (x := 1000000) (a := (1000000)) (b := (1000000)) (by decide)) (by decide)
  refine lv_aload_n hx hb dX11_through_68 rfl (lv_at hl 0 rfl) ?_
  refine lv_bipush (v := 10) hx hb dX11_through_69 (by decide) ?_
  refine lv_iload_n hx hb dX11_through_71 rfl (lv_at hl 3 rfl) ?_
  refine lv_iadd hx hb dX11_through_72 ?_
  refine lv_topi (fun y70 ey70 => ?_)
  replace hv := fnS hv ey70
  obtain ⟨ty70, ry70⟩ := Rg_addx (a' := (10)) (b' := (19)) (by decide : Int32.toInt 10 = 10) (rfl : x3.toInt = _) (Rg_c (x := 10) (a := (10)) (b := (10)) (by decide)) r62 (by decide)
  rw [← ey70] at ty70 ry70
  refine lv_iload hx hb dX11_through_73 (lv_at hl 4 rfl) ?_
  refine ca_X11_235 hx hb hml hown hts hH (c_X11_isMember oI oR m0 k0 (Rg_w ry70 (by decide))) hl.1 m0 k0 rfl (by decide) (Nat.le_of_ble_eq_true rfl) ⟨Nat.zero_le _, Nat.zero_le _⟩ dX11_through_75 (fun y71 I71 J71 R71 H locs hp hH => ?_)
  obtain ⟨eI71, eJ71, eR71, ry71, hp71, hf71⟩ := hp
  obtain rfl : I65 = I71 := eI71.symm
  obtain rfl : J = J71 := eJ71.symm
  obtain rfl : R = R71 := eR71.symm
  replace hv := fnS hv hf71.symm
  rcases hp71 with ⟨rfl, hq71⟩ | rfl
  rotate_left
  · replace hv := fnN hv (by decide)
    refine lv_if_ne (tgt := 84) hx hb dX11_through_78 (by decide) (fun q86 => ?_) (fun q86 => ?_)
    · exact absurd rfl q86
    refine lv_bipush (v := (-2)) hx hb dX11_through_81 (by decide) ?_
    exact ret ((-2)) _ _ _ _ _ _ _ dX11_through_83 hH ⟨⟨oI, oR, sm⟩, rfl, (hT.symm.trans hv)⟩
  replace hv := fnP hv rfl
  have r72 : Rg x4 (0) (5) := Rg_both (Rg_any x4) ⟨hq71.1, hq71.2⟩ (by decide)
  refine lv_if_ne (tgt := 84) hx hb dX11_through_78 (by decide) (fun q73 => ?_) (fun q73 => ?_)
  rotate_left
  · exact absurd q73 (by decide)
  refine lv_aload_n hx hb dX11_through_84 rfl (lv_at hl 0 rfl) ?_
  obtain ⟨b74, mb74, vb74, kb74⟩ := rf_11_50 oR m0 k0
  replace hv := fnR hv vb74
  refine gf_11_50 vb74 hx hb hts hown hH m0 k0 rfl kf_X11_111 dX11_through_85 ?_
  refine lv_iconst (v := 0) hx hb dX11_through_88 (by decide) ?_
  refine lv_bipush (v := 6) hx hb dX11_through_89 (by decide) ?_
  refine lv_bipush (v := 10) hx hb dX11_through_91 (by decide) ?_
  refine lv_iload_n hx hb dX11_through_93 rfl (lv_at hl 3 rfl) ?_
  refine lv_iadd hx hb dX11_through_94 ?_
  refine lv_topi (fun y75 ey75 => ?_)
  obtain rfl : y70 = y75 := ey70.trans ey75.symm
  refine lv_imul hx hb dX11_through_95 ?_
  refine lv_topi (fun y76 ey76 => ?_)
  replace hv := fnS hv ey76
  obtain ⟨ty76, ry76⟩ := Rg_mulx (a' := (60)) (b' := (114)) (by decide : Int32.toInt 6 = 6) (rfl : y70.toInt = _) (Rg_c (x := 6) (a := (6)) (b := (6)) (by decide)) ry70 (by decide)
  rw [← ey76] at ty76 ry76
  refine lv_iload hx hb dX11_through_96 (lv_at hl 4 rfl) ?_
  refine lv_iadd hx hb dX11_through_98 ?_
  refine lv_topi (fun y77 ey77 => ?_)
  replace hv := fnS hv ey77
  obtain ⟨ty77, ry77⟩ := Rg_addx (a' := (60)) (b' := (119)) (rfl : y76.toInt = _) (rfl : x4.toInt = _) ry76 r72 (by decide)
  rw [← ey77] at ty77 ry77
  refine st_97 hx hb hH mb74 kb74 (Rg_in (Rg_c (x := 0) (a := (0)) (b := (0)) (by decide)) (by decide)) dX11_through_99 (fun I78 H locs eI78 hH => ?_)
  replace hv := fnS hv eI78
  have oI : OkI L C I78 := by rw [eI78]; exact wr_97 oI kb74 (Rg_w ry77 (by decide))
  have sm : Sm C ms_X11_through (I, J, R) (I78, J, R) := by rw [eI78]; exact sm.stI kb74 (mC_arr (by decide) rfl)
  refine lv_aload_n hx hb dX11_through_100 rfl (lv_at hl 0 rfl) ?_
  refine lv_iconst (v := 1) hx hb dX11_through_101 (by decide) ?_
  refine pf_11_49 hx hb hts hown hH m0 k0 rfl kf_X11_287 dX11_through_102 (fun I79 H locs eI79 hH => ?_)
  replace hv := fnS hv eI79
  have oI : OkI L C I79 := by rw [eI79]; exact wf_11_49 oI k0 (Rg_w (Rg_c (x := 1) (a := (1)) (b := (1)) (by decide)) (by decide))
  have sm : Sm C ms_X11_through (I, J, R) (I79, J, R) := by rw [eI79]; exact sm.stI k0 (mC_obj (by decide) rfl)
  have f80 : 1 = I79 a0 49 := by rw [eI79, u2_at]
  refine lv_iconst (v := 1) hx hb dX11_through_105 (by decide) ?_
  refine lv_istore (lv' := [(5, .int 1), (0, .ref a0), (1, .int x1), (2, .int x2), (3, .int x3), (4, .int x4)]) hx hb dX11_through_106 hl (by decide) rfl (fun ls hl => ?_)
  refine lv_aload_n hx hb dX11_through_108 rfl (lv_at hl 1 rfl) ?_
  have f82 : I78 a0 (47) = I65 a0 (47) := (by rw [eI78, u2_ne (ne_role k0 kb74 (by decide))])
  have f83 : I79 a0 (47) = I78 a0 (47) := (by rw [eI79, u2_nk (by decide)])
  have f81 : y66 = I79 a0 (47) := (ey66.trans f82.symm).trans f83.symm
  refine gf_11_47 hx hb hts hown hH m0 k0 rfl kf_X11_276 dX11_through_109 ?_
  refine lv_topi (fun y84 ey84 => ?_)
  obtain rfl : y66 = y84 := f81.trans ey84.symm
  refine lv_iconst (v := 2) hx hb dX11_through_112 (by decide) ?_
  refine lv_isub hx hb dX11_through_113 ?_
  refine lv_topi (fun y85 ey85 => ?_)
  replace hv := fnS hv ey85
  obtain ⟨ty85, ry85⟩ := Rg_subx (a' := (-1)) (b' := (8)) (rfl : y66.toInt = _) (by decide : Int32.toInt 2 = 2) ry66 (Rg_c (x := 2) (a := (2)) (b := (2)) (by decide)) (by decide)
  rw [← ey85] at ty85 ry85
  refine lv_istore (lv' := [(6, .int y85), (5, .int 1), (0, .ref a0), (1, .int x1), (2, .int x2), (3, .int x3), (4, .int x4)]) hx hb dX11_through_114 hl (by decide) rfl (fun ls hl => ?_)
  exact L_116 ((y85.toInt + 1).toNat + 1) I79 J _ _ _ 1 y85 (Nat.lt_succ_self _) hH hv oI sm r48 (Rg_w (Rg_c (x := 1) (a := (1)) (b := (1)) (by decide)) (by decide)) ry85 (by rw [← f80]; exact Rg_w (Rg_c (x := 1) (a := (1)) (b := (1)) (by decide)) (by decide)) (by rw [← f81]; exact Rg_w ry66 (by decide)) (by refine Or.inr ?_; rw [← f80, ← f81, ty85]; have e1 : Int32.toInt 1 = 1 := (by decide); omega) (lv_sub hl [2, 3, 1, 0] rfl)
noncomputable def F_X11_value (a0 : Nat) (I : hI) (J : hJ) (R : hR) : Int64 × hU :=
  nm (u2 I a0 0 (0 : Int32)) fun I1 => nm (J a0 25) fun w3 => (w3, (I1, J, R))
def ms_X11_value : List Nat := [704]
set_option maxHeartbeats 4000000 in
set_option maxRecDepth 100000 in
theorem c_X11_value {l : Launch} {D : va_G} {cy : Nat → ClassId} {L : List Nat} {C : Nat → Nat} {b0 : Nat} {I : hI} {J : hJ} {R : hR} {a0 : Nat} (oI : OkI L C I) (oR : OkR L C R) (m0 : a0 ∈ L) (k0 : C a0 = 11) : CJ l yX11_value cX11_value 1 0 D cy L C b0 [.ref a0] (I, J, R) (fun r v => Ps L C ms_X11_value (I, J, R) v ∧ v.2.1 = J ∧ v.2.2 = R ∧ F_X11_value a0 I J R = (r, v)) := by
  refine CJ.mk (plainFor_of_name (by decide)) (Nat.le_of_ble_eq_true rfl) ?_
  intro p e s m args below meth c ls Q hF ret hH hl
  obtain ⟨hx, hb, -, hml, hown, hts, -⟩ := hF
  have hl : lv_has ls 1 [(0, .ref a0)] := hl
  have hH : Hp D cy L C b0 s s.heap I J R s.heap [] := hH
  have sm : Sm C ms_X11_value (I, J, R) (I, J, R) := Sm.rf
  obtain ⟨TT0, hT⟩ : ∃ TT0, TT0 = F_X11_value a0 I J R := ⟨_, rfl⟩
  have hv := hT
  unfold F_X11_value at hv
  refine lv_aload_n hx hb dX11_value_0 rfl (lv_at hl 0 rfl) ?_
  refine lv_iconst (v := 0) hx hb dX11_value_1 (by decide) ?_
  refine pf_11_0 hx hb hts hown hH m0 k0 rfl kf_X11_131 dX11_value_2 (fun I1 H locs eI1 hH => ?_)
  replace hv := fnS hv eI1
  have oI : OkI L C I1 := by rw [eI1]; exact wf_11_0 oI k0 (Rg_w (Rg_c (x := 0) (a := (0)) (b := (0)) (by decide)) (by decide))
  have sm : Sm C ms_X11_value (I, J, R) (I1, J, R) := by rw [eI1]; exact sm.stI k0 (mC_obj (by decide) rfl)
  have f2 : 0 = I1 a0 0 := by rw [eI1, u2_at]
  refine lv_aload_n hx hb dX11_value_5 rfl (lv_at hl 0 rfl) ?_
  refine gf_11_25 hx hb hts hown hH m0 k0 rfl kf_X11_216 dX11_value_6 ?_
  refine lv_topl (fun w3 ew3 => ?_)
  replace hv := fnS hv ew3
  exact ret (w3) _ _ _ _ _ _ _ dX11_value_9 hH ⟨⟨oI, oR, sm⟩, rfl, rfl, (hT.symm.trans hv)⟩
def ms_X11_failed : List Nat := [704]
set_option maxHeartbeats 4000000 in
set_option maxRecDepth 100000 in
theorem c_X11_failed {l : Launch} {D : va_G} {cy : Nat → ClassId} {L : List Nat} {C : Nat → Nat} {b0 : Nat} {I : hI} {J : hJ} {R : hR} {a0 : Nat} {x1 : Int32} (oI : OkI L C I) (oR : OkR L C R) (m0 : a0 ∈ L) (k0 : C a0 = 11) : CI l yX11_failed cX11_failed 2 .int 1 D cy L C b0 [.ref a0, .int x1] (I, J, R) (fun r v => Ps L C ms_X11_failed (I, J, R) v ∧ v.2.1 = J ∧ v.2.2 = R) := by
  refine CI.mkI (plainFor_of_name (by decide)) (Nat.le_of_ble_eq_true rfl) ?_
  intro p e s m args below meth c ls Q hF ret hH hl
  obtain ⟨hx, hb, -, hml, hown, hts, -⟩ := hF
  have hl : lv_has ls 2 [(0, .ref a0), (1, .int x1)] := hl
  have hH : Hp D cy L C b0 s s.heap I J R s.heap [] := hH
  have sm : Sm C ms_X11_failed (I, J, R) (I, J, R) := Sm.rf
  refine lv_aload_n hx hb dX11_failed_0 rfl (lv_at hl 0 rfl) ?_
  refine lv_iconst (v := 0) hx hb dX11_failed_1 (by decide) ?_
  refine pf_11_0 hx hb hts hown hH m0 k0 rfl kf_X11_131 dX11_failed_2 (fun I1 H locs eI1 hH => ?_)
  have oI : OkI L C I1 := by rw [eI1]; exact wf_11_0 oI k0 (Rg_w (Rg_c (x := 0) (a := (0)) (b := (0)) (by decide)) (by decide))
  have sm : Sm C ms_X11_failed (I, J, R) (I1, J, R) := by rw [eI1]; exact sm.stI k0 (mC_obj (by decide) rfl)
  have f2 : 0 = I1 a0 0 := by rw [eI1, u2_at]
  refine lv_iload_n hx hb dX11_failed_5 rfl (lv_at hl 1 rfl) ?_
  refine lv_i2l (v := x1.toInt64) hx hb dX11_failed_6 rfl ?_
  refine lv_lconst (v := 0) hx hb dX11_failed_7 (by decide) ?_
  refine lv_lconst (v := 1) hx hb dX11_failed_8 (by decide) ?_
  have L_44 : ∀ (I_44 : hI) (H : Heap) (locs : List Loc) (ls : Array Slot) (xs0_44 : Int32), Hp D cy L C b0 s s.heap I_44 J R H locs → OkI L C I_44 → Sm C ms_X11_failed (I, J, R) (I_44, J, R) → lv_has ls 2 [] → W p l e (rmD 1) s m args below meth c H locs 0 0 Q (F0 m 44 ls [.int xs0_44]) := by
    intro I_44 H locs ls xs0_44 hH oI sm hl
    exact ret (xs0_44) _ _ _ _ _ _ _ dX11_failed_44 hH ⟨⟨oI, oR, sm⟩, rfl, rfl⟩
  refine ca_X11_138 hx hb hml hown hts hH (c_X11_in ) hl.1 (by decide) (Nat.le_of_ble_eq_true rfl) ⟨Nat.zero_le _, Nat.zero_le _⟩ dX11_failed_9 (fun y3 I3 J3 R3 H locs hp hH => ?_)
  obtain ⟨eI3, eJ3, eR3, ry3, hp3, hf3⟩ := hp
  obtain rfl : I1 = I3 := eI3.symm
  obtain rfl : J = J3 := eJ3.symm
  obtain rfl : R = R3 := eR3.symm
  rcases hp3 with ⟨rfl, hq3⟩ | ⟨rfl, hq3⟩
  rotate_left
  · refine lv_if_ne (tgt := 18) hx hb dX11_failed_12 (by decide) (fun q18 => ?_) (fun q18 => ?_)
    · exact absurd rfl q18
    refine lv_bipush (v := (-3)) hx hb dX11_failed_15 (by decide) ?_
    exact ret ((-3)) _ _ _ _ _ _ _ dX11_failed_17 hH ⟨⟨oI, oR, sm⟩, rfl, rfl⟩
  have l4 : Int32.toInt 0 ≤ x1.toInt := in_cl hq3.1 (by decide)
  have r5 : Rg x1 (0) (2147483647) := Rg_lle (Rg_any x1) l4 (Rg_c (x := 0) (a := (0)) (b := (0)) (by decide)) (by decide)
  have l6 : x1.toInt ≤ Int32.toInt 1 := in_lc hq3.2 (by decide)
  have r7 : Rg x1 (0) (1) := Rg_ule r5 l6 (Rg_c (x := 1) (a := (1)) (b := (1)) (by decide)) (by decide)
  refine lv_if_ne (tgt := 18) hx hb dX11_failed_12 (by decide) (fun q8 => ?_) (fun q8 => ?_)
  rotate_left
  · exact absurd q8 (by decide)
  refine lv_aload_n hx hb dX11_failed_18 rfl (lv_at hl 0 rfl) ?_
  refine gf_11_26 hx hb hts hown hH m0 k0 rfl kf_X11_192 dX11_failed_19 ?_
  refine lv_topi (fun y9 ey9 => ?_)
  have ry9 : Rg y9 (0) (1) := by rw [ey9]; exact rf_11_26 oI m0 k0
  refine lv_if_ne (tgt := 29) hx hb dX11_failed_22 (by decide) (fun q10 => ?_) (fun q10 => ?_)
  rotate_left
  · have r17 : Rg y9 (0) (0) := Rg_both ry9 (Rg_eqv q10 (Rg_c (x := 0) (a := (0)) (b := (0)) (by decide))) (by decide)
    refine lv_iconst (v := (-1)) hx hb dX11_failed_25 (by decide) ?_
    refine lv_goto (tgt := 44) hx hb dX11_failed_26 (by decide) ?_
    exact L_44 I1 _ _ _ (-1) hH oI sm (lv_sub hl [] rfl)
  have r11 : Rg y9 (1) (1) := Rg_nelo ry9 (Rg_ne q10) (Rg_c (x := 0) (a := (0)) (b := (0)) (by decide)) (by decide)
  refine lv_iload_n hx hb dX11_failed_29 rfl (lv_at hl 1 rfl) ?_
  refine lv_if_ne (tgt := 40) hx hb dX11_failed_30 (by decide) (fun q12 => ?_) (fun q12 => ?_)
  · have r13 : Rg x1 (1) (1) := Rg_nelo r7 (Rg_ne q12) (Rg_c (x := 0) (a := (0)) (b := (0)) (by decide)) (by decide)
    refine lv_aload_n hx hb dX11_failed_40 rfl (lv_at hl 0 rfl) ?_
    refine gf_11_28 hx hb hts hown hH m0 k0 rfl kf_X11_199 dX11_failed_41 ?_
    refine lv_topi (fun y14 ey14 => ?_)
    exact L_44 I1 _ _ _ y14 hH oI sm (lv_sub hl [] rfl)
  have r15 : Rg x1 (0) (0) := Rg_both r7 (Rg_eqv q12 (Rg_c (x := 0) (a := (0)) (b := (0)) (by decide))) (by decide)
  refine lv_aload_n hx hb dX11_failed_33 rfl (lv_at hl 0 rfl) ?_
  refine gf_11_27 hx hb hts hown hH m0 k0 rfl kf_X11_196 dX11_failed_34 ?_
  refine lv_topi (fun y16 ey16 => ?_)
  refine lv_goto (tgt := 44) hx hb dX11_failed_37 (by decide) ?_
  exact L_44 I1 _ _ _ y16 hH oI sm (lv_sub hl [] rfl)
noncomputable def F_X11_count_160 (a0 : Nat) (x1 : Int32) (x2_136 : Int32) (x3_136 : Int32) (k_136 : hI → hJ → hR → Int32 → Int32 → (Int32 × hU)) (I_160 : hI) (J : hJ) (R : hR) (xs0_160 : Int32) (xs1_160 : Nat) : Int32 × hU :=
  nm (I_160 xs1_160 (Int32.toNatClampNeg xs0_160)) fun y3 => nm (x2_136 + y3) fun y4 => nm (x3_136 + (1 : Int32)) fun y5 => k_136 I_160 J R y4 y5
noncomputable def B_X11_count_136 (a0 : Nat) (x1 : Int32) (k_136 : hI → hJ → hR → Int32 → Int32 → (Int32 × hU)) (I_136 : hI) (J : hJ) (R : hR) (x2_136 : Int32) (x3_136 : Int32) : Int32 × hU :=
  (if (10 : Int32) ≤ x3_136 then (x2_136, (I_136, J, R)) else nm ((R a0 8).getD 0) fun b9 => (if x1 = (4 : Int32) then nm ((10 : Int32) + x3_136) fun y13 => F_X11_count_160 a0 x1 x2_136 x3_136 k_136 I_136 J R y13 b9 else F_X11_count_160 a0 x1 x2_136 x3_136 k_136 I_136 J R x3_136 b9))
noncomputable def F_X11_count_136 (a0 : Nat) (x1 : Int32) : Nat → hI → hJ → hR → Int32 → Int32 → (Int32 × hU) := fun n => Nat.rec (motive := fun _ => hI → hJ → hR → Int32 → Int32 → (Int32 × hU)) (fun _ _ _ _ _ => default) (fun _ k => B_X11_count_136 a0 x1 k) n
theorem F_X11_count_136_s {a0 : Nat} {x1 : Int32} {n : Nat} {I_136 : hI} {J : hJ} {R : hR} {x2_136 : Int32} {x3_136 : Int32} : F_X11_count_136 a0 x1 (n + 1)  I_136 J R x2_136 x3_136 = B_X11_count_136 a0 x1 (F_X11_count_136 a0 x1 n)  I_136 J R x2_136 x3_136 := rfl
noncomputable def F_X11_count_134 (a0 : Nat) (x1 : Int32) (I_134 : hI) (J : hJ) (R : hR) : Int32 × hU :=
  F_X11_count_136 a0 x1 ((10 - (0 : Int32).toInt).toNat + 1) I_134 J R (0 : Int32) (0 : Int32)
noncomputable def F_X11_count_124 (a0 : Nat) (x1 : Int32) (x2_103 : Int32) (x3_103 : Int32) (k_103 : hI → hJ → hR → Int32 → Int32 → (Int32 × hU)) (I_124 : hI) (J : hJ) (R : hR) (xs0_124 : Int32) : Int32 × hU :=
  nm (x2_103 + xs0_124) fun y14 => nm (x3_103 + (1 : Int32)) fun y15 => k_103 I_124 J R y14 y15
noncomputable def B_X11_count_103 (a0 : Nat) (x1 : Int32) (k_103 : hI → hJ → hR → Int32 → Int32 → (Int32 × hU)) (I_103 : hI) (J : hJ) (R : hR) (x2_103 : Int32) (x3_103 : Int32) : Int32 × hU :=
  (if (7 : Int32) ≤ x3_103 then (x2_103, (I_103, J, R)) else nm ((R a0 19).getD 0) fun b19 => nm (I_103 b19 (Int32.toNatClampNeg x3_103)) fun y20 => (if y20 = (0 : Int32) then F_X11_count_124 a0 x1 x2_103 x3_103 k_103 I_103 J R (0 : Int32) else F_X11_count_124 a0 x1 x2_103 x3_103 k_103 I_103 J R (1 : Int32)))
noncomputable def F_X11_count_103 (a0 : Nat) (x1 : Int32) : Nat → hI → hJ → hR → Int32 → Int32 → (Int32 × hU) := fun n => Nat.rec (motive := fun _ => hI → hJ → hR → Int32 → Int32 → (Int32 × hU)) (fun _ _ _ _ _ => default) (fun _ k => B_X11_count_103 a0 x1 k) n
theorem F_X11_count_103_s {a0 : Nat} {x1 : Int32} {n : Nat} {I_103 : hI} {J : hJ} {R : hR} {x2_103 : Int32} {x3_103 : Int32} : F_X11_count_103 a0 x1 (n + 1)  I_103 J R x2_103 x3_103 = B_X11_count_103 a0 x1 (F_X11_count_103 a0 x1 n)  I_103 J R x2_103 x3_103 := rfl
noncomputable def F_X11_count_81 (a0 : Nat) (x1 : Int32) (x2_58 : Int32) (x3_58 : Int32) (k_58 : hI → hJ → hR → Int32 → Int32 → (Int32 × hU)) (I_81 : hI) (J : hJ) (R : hR) (xs0_81 : Int32) : Int32 × hU :=
  nm (x2_58 + xs0_81) fun y24 => nm (x3_58 + (1 : Int32)) fun y25 => k_58 I_81 J R y24 y25
noncomputable def B_X11_count_58 (a0 : Nat) (x1 : Int32) (k_58 : hI → hJ → hR → Int32 → Int32 → (Int32 × hU)) (I_58 : hI) (J : hJ) (R : hR) (x2_58 : Int32) (x3_58 : Int32) : Int32 × hU :=
  nm (I_58 a0 1) fun y26 => (if y26 ≤ x3_58 then (x2_58, (I_58, J, R)) else nm ((R a0 7).getD 0) fun b30 => nm (I_58 b30 (Int32.toNatClampNeg x3_58)) fun y31 => (if y31 = (0 : Int32) then F_X11_count_81 a0 x1 x2_58 x3_58 k_58 I_58 J R (0 : Int32) else F_X11_count_81 a0 x1 x2_58 x3_58 k_58 I_58 J R (1 : Int32)))
noncomputable def F_X11_count_58 (a0 : Nat) (x1 : Int32) : Nat → hI → hJ → hR → Int32 → Int32 → (Int32 × hU) := fun n => Nat.rec (motive := fun _ => hI → hJ → hR → Int32 → Int32 → (Int32 × hU)) (fun _ _ _ _ _ => default) (fun _ k => B_X11_count_58 a0 x1 k) n
theorem F_X11_count_58_s {a0 : Nat} {x1 : Int32} {n : Nat} {I_58 : hI} {J : hJ} {R : hR} {x2_58 : Int32} {x3_58 : Int32} : F_X11_count_58 a0 x1 (n + 1)  I_58 J R x2_58 x3_58 = B_X11_count_58 a0 x1 (F_X11_count_58 a0 x1 n)  I_58 J R x2_58 x3_58 := rfl
noncomputable def F_X11_count (a0 : Nat) (x1 : Int32) (I : hI) (J : hJ) (R : hR) : Int32 × hU :=
  nm (u2 I a0 0 (0 : Int32)) fun I1 => (if Int32.toInt x1 = 0 then F_X11_count_58 a0 x1 ((32 - (0 : Int32).toInt).toNat + 1) I1 J R (0 : Int32) (0 : Int32) else (if Int32.toInt x1 = 1 then nm (I1 a0 21) fun y38 => (y38, (I1, J, R)) else (if Int32.toInt x1 = 2 then nm (I1 a0 18) fun y40 => (y40, (I1, J, R)) else (if Int32.toInt x1 = 3 then F_X11_count_103 a0 x1 ((7 - (0 : Int32).toInt).toNat + 1) I1 J R (0 : Int32) (0 : Int32) else (if Int32.toInt x1 = 4 then F_X11_count_134 a0 x1 I1 J R else (if Int32.toInt x1 = 5 then F_X11_count_134 a0 x1 I1 J R else (if Int32.toInt x1 = 6 then nm (I1 a0 29) fun y45 => (y45, (I1, J, R)) else (if Int32.toInt x1 = 7 then nm (I1 a0 30) fun y47 => (y47, (I1, J, R)) else ((-3 : Int32), (I1, J, R))))))))))
def ms_X11_count : List Nat := [704]
set_option maxHeartbeats 4000000 in
set_option maxRecDepth 100000 in
theorem c_X11_count {l : Launch} {D : va_G} {cy : Nat → ClassId} {L : List Nat} {C : Nat → Nat} {b0 : Nat} {I : hI} {J : hJ} {R : hR} {a0 : Nat} {x1 : Int32} (oI : OkI L C I) (oR : OkR L C R) (m0 : a0 ∈ L) (k0 : C a0 = 11) : CI l yX11_count cX11_count 4 .int 0 D cy L C b0 [.ref a0, .int x1] (I, J, R) (fun r v => Ps L C ms_X11_count (I, J, R) v ∧ v.2.1 = J ∧ v.2.2 = R ∧ F_X11_count a0 x1 I J R = (r, v)) := by
  refine CI.mkI (plainFor_of_name (by decide)) (Nat.le_of_ble_eq_true rfl) ?_
  intro p e s m args below meth c ls Q hF ret hH hl
  obtain ⟨hx, hb, -, hml, hown, hts, -⟩ := hF
  have hl : lv_has ls 4 [(0, .ref a0), (1, .int x1)] := hl
  have hH : Hp D cy L C b0 s s.heap I J R s.heap [] := hH
  have sm : Sm C ms_X11_count (I, J, R) (I, J, R) := Sm.rf
  obtain ⟨TT0, hT⟩ : ∃ TT0, TT0 = F_X11_count a0 x1 I J R := ⟨_, rfl⟩
  have hv := hT
  unfold F_X11_count at hv
  refine lv_aload_n hx hb dX11_count_0 rfl (lv_at hl 0 rfl) ?_
  refine lv_iconst (v := 0) hx hb dX11_count_1 (by decide) ?_
  refine pf_11_0 hx hb hts hown hH m0 k0 rfl kf_X11_131 dX11_count_2 (fun I1 H locs eI1 hH => ?_)
  replace hv := fnS hv eI1
  have oI : OkI L C I1 := by rw [eI1]; exact wf_11_0 oI k0 (Rg_w (Rg_c (x := 0) (a := (0)) (b := (0)) (by decide)) (by decide))
  have sm : Sm C ms_X11_count (I, J, R) (I1, J, R) := by rw [eI1]; exact sm.stI k0 (mC_obj (by decide) rfl)
  have f2 : 0 = I1 a0 0 := by rw [eI1, u2_at]
  refine lv_iconst (v := 0) hx hb dX11_count_5 (by decide) ?_
  refine lv_istore_n (lv' := [(2, .int 0), (0, .ref a0), (1, .int x1)]) hx hb dX11_count_6 rfl hl (by decide) rfl (fun ls hl => ?_)
  refine lv_iload_n hx hb dX11_count_7 rfl (lv_at hl 2 rfl) ?_
  have L_136 : ∀ (n_136 : Nat) (I_136 : hI) (H : Heap) (locs : List Loc) (ls : Array Slot) (x2_136 : Int32) (x3_136 : Int32), (10 - x3_136.toInt).toNat < n_136 → Hp D cy L C b0 s s.heap I_136 J R H locs → TT0 = F_X11_count_136 a0 x1 n_136 I_136 J R x2_136 x3_136 → OkI L C I_136 → Sm C ms_X11_count (I, J, R) (I_136, J, R) → Rg x1 (4) (5) → Rg x3_136 (0) (10) → lv_has ls 4 [(0, .ref a0), (1, .int x1), (2, .int x2_136), (3, .int x3_136)] → W p l e (rmD 0) s m args below meth c H locs 0 0 Q (F0 m 136 ls []) := by
    intro n_136
    induction n_136 with
    | zero => intro I_136 H locs ls x2_136 x3_136 h; exact absurd h (Nat.not_lt_zero _)
    | succ n_136 ih_136 =>
      intro I_136 H locs ls x2_136 x3_136 hn_136 hH hv oI sm r1_136 r3_136 hl
      replace hv := hv.trans F_X11_count_136_s
      unfold B_X11_count_136 at hv
      have L_160 : ∀ (I_160 : hI) (H : Heap) (locs : List Loc) (ls : Array Slot) (xs0_160 : Int32) (xs1_160 : Nat), Hp D cy L C b0 s s.heap I_160 J R H locs → TT0 = F_X11_count_160 a0 x1 x2_136 x3_136 (F_X11_count_136 a0 x1 n_136) I_160 J R xs0_160 xs1_160 → OkI L C I_160 → Sm C ms_X11_count (I, J, R) (I_160, J, R) → Rg xs0_160 (0) (19) → xs1_160 ∈ L → C xs1_160 = 70 → Rg x1 (4) (5) → Rg x3_136 (0) (9) → lv_has ls 4 [(0, .ref a0), (1, .int x1), (3, .int x3_136)] → W p l e (rmD 0) s m args below meth c H locs 0 0 Q (F0 m 160 ls [.int xs0_160, .ref xs1_160, .int x2_136]) := by
        intro I_160 H locs ls xs0_160 xs1_160 hH hv oI sm rs0_160 ms1_160 ks1_160 r1_160 r3_160 hl
        unfold F_X11_count_160 at hv
        refine ld_70 hx hb hH ms1_160 ks1_160 (Rg_in rs0_160 (by decide)) dX11_count_160 ?_
        refine lv_topi (fun y3 ey3 => ?_)
        have ry3 : Rg y3 (0) (6) := by rw [ey3]; exact rd_70 oI ms1_160 ks1_160 (Rg_in rs0_160 (by decide))
        replace hv := fnS hv ey3
        refine lv_iadd hx hb dX11_count_161 ?_
        refine lv_topi (fun y4 ey4 => ?_)
        replace hv := fnS hv ey4
        refine lv_istore_n (lv' := [(2, .int y4), (0, .ref a0), (1, .int x1), (3, .int x3_136)]) hx hb dX11_count_162 rfl hl (by decide) rfl (fun ls hl => ?_)
        obtain ⟨y5, ey5⟩ : ∃ y : Int32, y = x3_136 + 1 := ⟨_, rfl⟩
        replace hv := fnS hv ey5
        obtain ⟨ty5, ry5⟩ := Rg_addx (a' := (1)) (b' := (10)) (rfl : x3_136.toInt = _) (by decide : Int32.toInt 1 = 1) r3_160 (Rg_c (x := 1) (a := (1)) (b := (1)) (by decide)) (by decide)
        rw [← ey5] at ty5 ry5
        refine lv_iinc (v := y5) (lv' := [(3, .int y5), (2, .int y4), (0, .ref a0), (1, .int x1)]) hx hb dX11_count_163 hl (k := 3) rfl (by rw [ey5]; rfl) (by decide) rfl (fun ls hl => ?_)
        refine lv_goto (tgt := 136) hx hb dX11_count_166 (by decide) ?_
        exact ih_136 I_160 _ _ _ y4 y5 (lp_up hn_136 ty5 (Rg_ltc r3_160 (by decide))) hH hv oI sm r1_160 (Rg_w ry5 (by decide)) (lv_sub hl [2, 3, 1, 0] rfl)
      refine lv_iload_n hx hb dX11_count_136 rfl (lv_at hl 3 rfl) ?_
      refine lv_bipush (v := 10) hx hb dX11_count_137 (by decide) ?_
      refine lv_icmp_ge (tgt := 169) hx hb dX11_count_139 (by decide) (fun q6 => ?_) (fun q6 => ?_)
      · replace hv := fnP hv q6
        have r7 : Rg x3_136 (10) (10) := Rg_lle r3_136 (Rg_le q6) (Rg_c (x := 10) (a := (10)) (b := (10)) (by decide)) (by decide)
        refine lv_iload_n hx hb dX11_count_169 rfl (lv_at hl 2 rfl) ?_
        exact ret (x2_136) _ _ _ _ _ _ _ dX11_count_170 hH ⟨⟨oI, oR, sm⟩, rfl, rfl, (hT.symm.trans hv)⟩
      replace hv := fnN hv q6
      have r8 : Rg x3_136 (0) (9) := Rg_ult r3_136 (Rg_nle q6) (Rg_c (x := 10) (a := (10)) (b := (10)) (by decide)) (by decide)
      refine lv_iload_n hx hb dX11_count_142 rfl (lv_at hl 2 rfl) ?_
      refine lv_aload_n hx hb dX11_count_143 rfl (lv_at hl 0 rfl) ?_
      obtain ⟨b9, mb9, vb9, kb9⟩ := rf_11_8 oR m0 k0
      replace hv := fnR hv vb9
      refine gf_11_8 vb9 hx hb hts hown hH m0 k0 rfl kf_X11_29 dX11_count_144 ?_
      refine lv_iload_n hx hb dX11_count_147 rfl (lv_at hl 1 rfl) ?_
      refine lv_iconst (v := 4) hx hb dX11_count_148 (by decide) ?_
      refine lv_icmp_ne (tgt := 159) hx hb dX11_count_149 (by decide) (fun q10 => ?_) (fun q10 => ?_)
      · replace hv := fnN hv q10
        have r11 : Rg x1 (5) (5) := Rg_nelo r1_136 (Rg_ne q10) (Rg_c (x := 4) (a := (4)) (b := (4)) (by decide)) (by decide)
        refine lv_iload_n hx hb dX11_count_159 rfl (lv_at hl 3 rfl) ?_
        exact L_160 I_136 _ _ _ x3_136 b9 hH hv oI sm (Rg_w r8 (by decide)) mb9 kb9 (Rg_w r11 (by decide)) r8 (lv_sub hl [0, 1, 3] rfl)
      replace hv := fnP hv q10
      have r12 : Rg x1 (4) (4) := Rg_both r1_136 (Rg_eqv q10 (Rg_c (x := 4) (a := (4)) (b := (4)) (by decide))) (by decide)
      refine lv_bipush (v := 10) hx hb dX11_count_152 (by decide) ?_
      refine lv_iload_n hx hb dX11_count_154 rfl (lv_at hl 3 rfl) ?_
      refine lv_iadd hx hb dX11_count_155 ?_
      refine lv_topi (fun y13 ey13 => ?_)
      replace hv := fnS hv ey13
      obtain ⟨ty13, ry13⟩ := Rg_addx (a' := (10)) (b' := (19)) (by decide : Int32.toInt 10 = 10) (rfl : x3_136.toInt = _) (Rg_c (x := 10) (a := (10)) (b := (10)) (by decide)) r8 (by decide)
      rw [← ey13] at ty13 ry13
      refine lv_goto (tgt := 160) hx hb dX11_count_156 (by decide) ?_
      exact L_160 I_136 _ _ _ y13 b9 hH hv oI sm (Rg_w ry13 (by decide)) mb9 kb9 (Rg_w r12 (by decide)) r8 (lv_sub hl [0, 1, 3] rfl)
  have L_134 : ∀ (I_134 : hI) (H : Heap) (locs : List Loc) (ls : Array Slot), Hp D cy L C b0 s s.heap I_134 J R H locs → TT0 = F_X11_count_134 a0 x1 I_134 J R → OkI L C I_134 → Sm C ms_X11_count (I, J, R) (I_134, J, R) → Rg x1 (4) (5) → lv_has ls 4 [(0, .ref a0), (1, .int x1), (2, .int 0)] → W p l e (rmD 0) s m args below meth c H locs 0 0 Q (F0 m 134 ls []) := by
    intro I_134 H locs ls hH hv oI sm r1_134 hl
    unfold F_X11_count_134 at hv
    refine lv_iconst (v := 0) hx hb dX11_count_134 (by decide) ?_
    refine lv_istore_n (lv' := [(3, .int 0), (0, .ref a0), (1, .int x1), (2, .int 0)]) hx hb dX11_count_135 rfl hl (by decide) rfl (fun ls hl => ?_)
    exact L_136 ((10 - (0 : Int32).toInt).toNat + 1) I_134 _ _ _ 0 0 (Nat.lt_succ_self _) hH hv oI sm r1_134 (Rg_w (Rg_c (x := 0) (a := (0)) (b := (0)) (by decide)) (by decide)) (lv_sub hl [1, 2, 3, 0] rfl)
  have L_103 : ∀ (n_103 : Nat) (I_103 : hI) (H : Heap) (locs : List Loc) (ls : Array Slot) (x2_103 : Int32) (x3_103 : Int32), (7 - x3_103.toInt).toNat < n_103 → Hp D cy L C b0 s s.heap I_103 J R H locs → TT0 = F_X11_count_103 a0 x1 n_103 I_103 J R x2_103 x3_103 → OkI L C I_103 → Sm C ms_X11_count (I, J, R) (I_103, J, R) → Rg x3_103 (0) (7) → lv_has ls 4 [(0, .ref a0), (2, .int x2_103), (3, .int x3_103)] → W p l e (rmD 0) s m args below meth c H locs 0 0 Q (F0 m 103 ls []) := by
    intro n_103
    induction n_103 with
    | zero => intro I_103 H locs ls x2_103 x3_103 h; exact absurd h (Nat.not_lt_zero _)
    | succ n_103 ih_103 =>
      intro I_103 H locs ls x2_103 x3_103 hn_103 hH hv oI sm r3_103 hl
      replace hv := hv.trans F_X11_count_103_s
      unfold B_X11_count_103 at hv
      have L_124 : ∀ (I_124 : hI) (H : Heap) (locs : List Loc) (ls : Array Slot) (xs0_124 : Int32), Hp D cy L C b0 s s.heap I_124 J R H locs → TT0 = F_X11_count_124 a0 x1 x2_103 x3_103 (F_X11_count_103 a0 x1 n_103) I_124 J R xs0_124 → OkI L C I_124 → Sm C ms_X11_count (I, J, R) (I_124, J, R) → Rg xs0_124 (0) (1) → Rg x3_103 (0) (6) → lv_has ls 4 [(0, .ref a0), (3, .int x3_103)] → W p l e (rmD 0) s m args below meth c H locs 0 0 Q (F0 m 124 ls [.int xs0_124, .int x2_103]) := by
        intro I_124 H locs ls xs0_124 hH hv oI sm rs0_124 r3_124 hl
        unfold F_X11_count_124 at hv
        refine lv_iadd hx hb dX11_count_124 ?_
        refine lv_topi (fun y14 ey14 => ?_)
        replace hv := fnS hv ey14
        refine lv_istore_n (lv' := [(2, .int y14), (0, .ref a0), (3, .int x3_103)]) hx hb dX11_count_125 rfl hl (by decide) rfl (fun ls hl => ?_)
        obtain ⟨y15, ey15⟩ : ∃ y : Int32, y = x3_103 + 1 := ⟨_, rfl⟩
        replace hv := fnS hv ey15
        obtain ⟨ty15, ry15⟩ := Rg_addx (a' := (1)) (b' := (7)) (rfl : x3_103.toInt = _) (by decide : Int32.toInt 1 = 1) r3_124 (Rg_c (x := 1) (a := (1)) (b := (1)) (by decide)) (by decide)
        rw [← ey15] at ty15 ry15
        refine lv_iinc (v := y15) (lv' := [(3, .int y15), (2, .int y14), (0, .ref a0)]) hx hb dX11_count_126 hl (k := 2) rfl (by rw [ey15]; rfl) (by decide) rfl (fun ls hl => ?_)
        refine lv_goto (tgt := 103) hx hb dX11_count_129 (by decide) ?_
        exact ih_103 I_124 _ _ _ y14 y15 (lp_up hn_103 ty15 (Rg_ltc r3_124 (by decide))) hH hv oI sm (Rg_w ry15 (by decide)) (lv_sub hl [2, 1, 0] rfl)
      refine lv_iload_n hx hb dX11_count_103 rfl (lv_at hl 2 rfl) ?_
      refine lv_bipush (v := 7) hx hb dX11_count_104 (by decide) ?_
      refine lv_icmp_ge (tgt := 132) hx hb dX11_count_106 (by decide) (fun q16 => ?_) (fun q16 => ?_)
      · replace hv := fnP hv q16
        have r17 : Rg x3_103 (7) (7) := Rg_lle r3_103 (Rg_le q16) (Rg_c (x := 7) (a := (7)) (b := (7)) (by decide)) (by decide)
        refine lv_iload_n hx hb dX11_count_132 rfl (lv_at hl 1 rfl) ?_
        exact ret (x2_103) _ _ _ _ _ _ _ dX11_count_133 hH ⟨⟨oI, oR, sm⟩, rfl, rfl, (hT.symm.trans hv)⟩
      replace hv := fnN hv q16
      have r18 : Rg x3_103 (0) (6) := Rg_ult r3_103 (Rg_nle q16) (Rg_c (x := 7) (a := (7)) (b := (7)) (by decide)) (by decide)
      refine lv_iload_n hx hb dX11_count_109 rfl (lv_at hl 1 rfl) ?_
      refine lv_aload_n hx hb dX11_count_110 rfl (lv_at hl 0 rfl) ?_
      obtain ⟨b19, mb19, vb19, kb19⟩ := rf_11_19 oR m0 k0
      replace hv := fnR hv vb19
      refine gf_11_19 vb19 hx hb hts hown hH m0 k0 rfl kf_X11_59 dX11_count_111 ?_
      refine lv_iload_n hx hb dX11_count_114 rfl (lv_at hl 2 rfl) ?_
      refine ld_80 hx hb hH mb19 kb19 (Rg_in r18 (by decide)) dX11_count_115 ?_
      refine lv_topi (fun y20 ey20 => ?_)
      have ry20 : Rg y20 (0) (1) := by rw [ey20]; exact rd_80 oI mb19 kb19 (Rg_in r18 (by decide))
      replace hv := fnS hv ey20
      refine lv_if_eq (tgt := 123) hx hb dX11_count_116 (by decide) (fun q21 => ?_) (fun q21 => ?_)
      · replace hv := fnP hv q21
        have r22 : Rg y20 (0) (0) := Rg_both ry20 (Rg_eqv q21 (Rg_c (x := 0) (a := (0)) (b := (0)) (by decide))) (by decide)
        refine lv_iconst (v := 0) hx hb dX11_count_123 (by decide) ?_
        exact L_124 I_103 _ _ _ 0 hH hv oI sm (Rg_w (Rg_c (x := 0) (a := (0)) (b := (0)) (by decide)) (by decide)) r18 (lv_sub hl [0, 2] rfl)
      replace hv := fnN hv q21
      have r23 : Rg y20 (1) (1) := Rg_nelo ry20 (Rg_ne q21) (Rg_c (x := 0) (a := (0)) (b := (0)) (by decide)) (by decide)
      refine lv_iconst (v := 1) hx hb dX11_count_119 (by decide) ?_
      refine lv_goto (tgt := 124) hx hb dX11_count_120 (by decide) ?_
      exact L_124 I_103 _ _ _ 1 hH hv oI sm (Rg_w (Rg_c (x := 1) (a := (1)) (b := (1)) (by decide)) (by decide)) r18 (lv_sub hl [0, 2] rfl)
  have L_58 : ∀ (n_58 : Nat) (I_58 : hI) (H : Heap) (locs : List Loc) (ls : Array Slot) (x2_58 : Int32) (x3_58 : Int32), (32 - x3_58.toInt).toNat < n_58 → Hp D cy L C b0 s s.heap I_58 J R H locs → TT0 = F_X11_count_58 a0 x1 n_58 I_58 J R x2_58 x3_58 → OkI L C I_58 → Sm C ms_X11_count (I, J, R) (I_58, J, R) → Rg x3_58 (0) (32) → lv_has ls 4 [(0, .ref a0), (2, .int x2_58), (3, .int x3_58)] → W p l e (rmD 0) s m args below meth c H locs 0 0 Q (F0 m 58 ls []) := by
    intro n_58
    induction n_58 with
    | zero => intro I_58 H locs ls x2_58 x3_58 h; exact absurd h (Nat.not_lt_zero _)
    | succ n_58 ih_58 =>
      intro I_58 H locs ls x2_58 x3_58 hn_58 hH hv oI sm r3_58 hl
      replace hv := hv.trans F_X11_count_58_s
      unfold B_X11_count_58 at hv
      have L_81 : ∀ (I_81 : hI) (H : Heap) (locs : List Loc) (ls : Array Slot) (xs0_81 : Int32), Hp D cy L C b0 s s.heap I_81 J R H locs → TT0 = F_X11_count_81 a0 x1 x2_58 x3_58 (F_X11_count_58 a0 x1 n_58) I_81 J R xs0_81 → OkI L C I_81 → Sm C ms_X11_count (I, J, R) (I_81, J, R) → Rg xs0_81 (0) (1) → Rg x3_58 (0) (31) → lv_has ls 4 [(0, .ref a0), (3, .int x3_58)] → W p l e (rmD 0) s m args below meth c H locs 0 0 Q (F0 m 81 ls [.int xs0_81, .int x2_58]) := by
        intro I_81 H locs ls xs0_81 hH hv oI sm rs0_81 r3_81 hl
        unfold F_X11_count_81 at hv
        refine lv_iadd hx hb dX11_count_81 ?_
        refine lv_topi (fun y24 ey24 => ?_)
        replace hv := fnS hv ey24
        refine lv_istore_n (lv' := [(2, .int y24), (0, .ref a0), (3, .int x3_58)]) hx hb dX11_count_82 rfl hl (by decide) rfl (fun ls hl => ?_)
        obtain ⟨y25, ey25⟩ : ∃ y : Int32, y = x3_58 + 1 := ⟨_, rfl⟩
        replace hv := fnS hv ey25
        obtain ⟨ty25, ry25⟩ := Rg_addx (a' := (1)) (b' := (32)) (rfl : x3_58.toInt = _) (by decide : Int32.toInt 1 = 1) r3_81 (Rg_c (x := 1) (a := (1)) (b := (1)) (by decide)) (by decide)
        rw [← ey25] at ty25 ry25
        refine lv_iinc (v := y25) (lv' := [(3, .int y25), (2, .int y24), (0, .ref a0)]) hx hb dX11_count_83 hl (k := 2) rfl (by rw [ey25]; rfl) (by decide) rfl (fun ls hl => ?_)
        refine lv_goto (tgt := 58) hx hb dX11_count_86 (by decide) ?_
        exact ih_58 I_81 _ _ _ y24 y25 (lp_up hn_58 ty25 (Rg_ltc r3_81 (by decide))) hH hv oI sm (Rg_w ry25 (by decide)) (lv_sub hl [2, 1, 0] rfl)
      refine lv_iload_n hx hb dX11_count_58 rfl (lv_at hl 2 rfl) ?_
      refine lv_aload_n hx hb dX11_count_59 rfl (lv_at hl 0 rfl) ?_
      refine gf_11_1 hx hb hts hown hH m0 k0 rfl kf_X11_127 dX11_count_60 ?_
      refine lv_topi (fun y26 ey26 => ?_)
      have ry26 : Rg y26 (0) (32) := by rw [ey26]; exact rf_11_1 oI m0 k0
      replace hv := fnS hv ey26
      refine lv_icmp_ge (tgt := 89) hx hb dX11_count_63 (by decide) (fun q27 => ?_) (fun q27 => ?_)
      · replace hv := fnP hv q27
        refine lv_iload_n hx hb dX11_count_89 rfl (lv_at hl 1 rfl) ?_
        exact ret (x2_58) _ _ _ _ _ _ _ dX11_count_90 hH ⟨⟨oI, oR, sm⟩, rfl, rfl, (hT.symm.trans hv)⟩
      replace hv := fnN hv q27
      have r28 : Rg x3_58 (0) (31) := Rg_ult r3_58 (Rg_nle q27) ry26 (by decide)
      have r29 : Rg y26 (1) (32) := Rg_llt ry26 (Rg_nle q27) r3_58 (by decide)
      refine lv_iload_n hx hb dX11_count_66 rfl (lv_at hl 1 rfl) ?_
      refine lv_aload_n hx hb dX11_count_67 rfl (lv_at hl 0 rfl) ?_
      obtain ⟨b30, mb30, vb30, kb30⟩ := rf_11_7 oR m0 k0
      replace hv := fnR hv vb30
      refine gf_11_7 vb30 hx hb hts hown hH m0 k0 rfl kf_X11_25 dX11_count_68 ?_
      refine lv_iload_n hx hb dX11_count_71 rfl (lv_at hl 2 rfl) ?_
      refine ld_69 hx hb hH mb30 kb30 (Rg_in r28 (by decide)) dX11_count_72 ?_
      refine lv_topi (fun y31 ey31 => ?_)
      have ry31 : Rg y31 (0) (1) := by rw [ey31]; exact rd_69 oI mb30 kb30 (Rg_in r28 (by decide))
      replace hv := fnS hv ey31
      refine lv_if_eq (tgt := 80) hx hb dX11_count_73 (by decide) (fun q32 => ?_) (fun q32 => ?_)
      · replace hv := fnP hv q32
        have r33 : Rg y31 (0) (0) := Rg_both ry31 (Rg_eqv q32 (Rg_c (x := 0) (a := (0)) (b := (0)) (by decide))) (by decide)
        refine lv_iconst (v := 0) hx hb dX11_count_80 (by decide) ?_
        exact L_81 I_58 _ _ _ 0 hH hv oI sm (Rg_w (Rg_c (x := 0) (a := (0)) (b := (0)) (by decide)) (by decide)) r28 (lv_sub hl [0, 2] rfl)
      replace hv := fnN hv q32
      have r34 : Rg y31 (1) (1) := Rg_nelo ry31 (Rg_ne q32) (Rg_c (x := 0) (a := (0)) (b := (0)) (by decide)) (by decide)
      refine lv_iconst (v := 1) hx hb dX11_count_76 (by decide) ?_
      refine lv_goto (tgt := 81) hx hb dX11_count_77 (by decide) ?_
      exact L_81 I_58 _ _ _ 1 hH hv oI sm (Rg_w (Rg_c (x := 1) (a := (1)) (b := (1)) (by decide)) (by decide)) r28 (lv_sub hl [0, 2] rfl)
  rcases (show (x1.toInt < 0 ∨ 7 < x1.toInt) ∨ x1.toInt = 0 ∨ x1.toInt = 1 ∨ x1.toInt = 2 ∨ x1.toInt = 3 ∨ x1.toInt = 4 ∨ x1.toInt = 5 ∨ x1.toInt = 6 ∨ x1.toInt = 7 by have z351 := (Rg_any x1).1; have z352 := (Rg_any x1).2; omega) with z35 | z35 | z35 | z35 | z35 | z35 | z35 | z35 | z35
  · refine lv_tableOut (tgt := 181) hx hb dX11_count_8 z35 (by decide) ?_
    replace hv := fnN hv (by omega)
    replace hv := fnN hv (by omega)
    replace hv := fnN hv (by omega)
    replace hv := fnN hv (by omega)
    replace hv := fnN hv (by omega)
    replace hv := fnN hv (by omega)
    replace hv := fnN hv (by omega)
    replace hv := fnN hv (by omega)
    refine lv_bipush (v := (-3)) hx hb dX11_count_181 (by decide) ?_
    exact ret ((-3)) _ _ _ _ _ _ _ dX11_count_183 hH ⟨⟨oI, oR, sm⟩, rfl, rfl, (hT.symm.trans hv)⟩
  · have r36 : Rg x1 (0) (0) := ⟨by rw [z35]; decide, by rw [z35]; decide⟩
    refine lv_tableIn (tgt := 56) hx hb dX11_count_8 (by rw [z35]; decide) (by rw [z35]; decide) (by rw [z35]; rfl) (by decide) ?_
    replace hv := fnP hv z35
    refine lv_iconst (v := 0) hx hb dX11_count_56 (by decide) ?_
    refine lv_istore_n (lv' := [(3, .int 0), (2, .int 0), (0, .ref a0), (1, .int x1)]) hx hb dX11_count_57 rfl hl (by decide) rfl (fun ls hl => ?_)
    exact L_58 ((32 - (0 : Int32).toInt).toNat + 1) I1 _ _ _ 0 0 (Nat.lt_succ_self _) hH hv oI sm (Rg_w (Rg_c (x := 0) (a := (0)) (b := (0)) (by decide)) (by decide)) (lv_sub hl [2, 1, 0] rfl)
  · have r37 : Rg x1 (1) (1) := ⟨by rw [z35]; decide, by rw [z35]; decide⟩
    refine lv_tableIn (tgt := 91) hx hb dX11_count_8 (by rw [z35]; decide) (by rw [z35]; decide) (by rw [z35]; rfl) (by decide) ?_
    replace hv := fnN hv (by omega)
    replace hv := fnP hv z35
    refine lv_aload_n hx hb dX11_count_91 rfl (lv_at hl 1 rfl) ?_
    refine gf_11_21 hx hb hts hown hH m0 k0 rfl kf_X11_282 dX11_count_92 ?_
    refine lv_topi (fun y38 ey38 => ?_)
    have ry38 : Rg y38 (0) (20) := by rw [ey38]; exact rf_11_21 oI m0 k0
    replace hv := fnS hv ey38
    exact ret (y38) _ _ _ _ _ _ _ dX11_count_95 hH ⟨⟨oI, oR, sm⟩, rfl, rfl, (hT.symm.trans hv)⟩
  · have r39 : Rg x1 (2) (2) := ⟨by rw [z35]; decide, by rw [z35]; decide⟩
    refine lv_tableIn (tgt := 96) hx hb dX11_count_8 (by rw [z35]; decide) (by rw [z35]; decide) (by rw [z35]; rfl) (by decide) ?_
    replace hv := fnN hv (by omega)
    replace hv := fnN hv (by omega)
    replace hv := fnP hv z35
    refine lv_aload_n hx hb dX11_count_96 rfl (lv_at hl 1 rfl) ?_
    refine gf_11_18 hx hb hts hown hH m0 k0 rfl kf_X11_239 dX11_count_97 ?_
    refine lv_topi (fun y40 ey40 => ?_)
    replace hv := fnS hv ey40
    exact ret (y40) _ _ _ _ _ _ _ dX11_count_100 hH ⟨⟨oI, oR, sm⟩, rfl, rfl, (hT.symm.trans hv)⟩
  · have r41 : Rg x1 (3) (3) := ⟨by rw [z35]; decide, by rw [z35]; decide⟩
    refine lv_tableIn (tgt := 101) hx hb dX11_count_8 (by rw [z35]; decide) (by rw [z35]; decide) (by rw [z35]; rfl) (by decide) ?_
    replace hv := fnN hv (by omega)
    replace hv := fnN hv (by omega)
    replace hv := fnN hv (by omega)
    replace hv := fnP hv z35
    refine lv_iconst (v := 0) hx hb dX11_count_101 (by decide) ?_
    refine lv_istore_n (lv' := [(3, .int 0), (2, .int 0), (0, .ref a0), (1, .int x1)]) hx hb dX11_count_102 rfl hl (by decide) rfl (fun ls hl => ?_)
    exact L_103 ((7 - (0 : Int32).toInt).toNat + 1) I1 _ _ _ 0 0 (Nat.lt_succ_self _) hH hv oI sm (Rg_w (Rg_c (x := 0) (a := (0)) (b := (0)) (by decide)) (by decide)) (lv_sub hl [2, 1, 0] rfl)
  · have r42 : Rg x1 (4) (4) := ⟨by rw [z35]; decide, by rw [z35]; decide⟩
    refine lv_tableIn (tgt := 134) hx hb dX11_count_8 (by rw [z35]; decide) (by rw [z35]; decide) (by rw [z35]; rfl) (by decide) ?_
    replace hv := fnN hv (by omega)
    replace hv := fnN hv (by omega)
    replace hv := fnN hv (by omega)
    replace hv := fnN hv (by omega)
    replace hv := fnP hv z35
    exact L_134 I1 _ _ _ hH hv oI sm (Rg_w r42 (by decide)) (lv_sub hl [1, 2, 0] rfl)
  · have r43 : Rg x1 (5) (5) := ⟨by rw [z35]; decide, by rw [z35]; decide⟩
    refine lv_tableIn (tgt := 134) hx hb dX11_count_8 (by rw [z35]; decide) (by rw [z35]; decide) (by rw [z35]; rfl) (by decide) ?_
    replace hv := fnN hv (by omega)
    replace hv := fnN hv (by omega)
    replace hv := fnN hv (by omega)
    replace hv := fnN hv (by omega)
    replace hv := fnN hv (by omega)
    replace hv := fnP hv z35
    exact L_134 I1 _ _ _ hH hv oI sm (Rg_w r43 (by decide)) (lv_sub hl [1, 2, 0] rfl)
  · have r44 : Rg x1 (6) (6) := ⟨by rw [z35]; decide, by rw [z35]; decide⟩
    refine lv_tableIn (tgt := 171) hx hb dX11_count_8 (by rw [z35]; decide) (by rw [z35]; decide) (by rw [z35]; rfl) (by decide) ?_
    replace hv := fnN hv (by omega)
    replace hv := fnN hv (by omega)
    replace hv := fnN hv (by omega)
    replace hv := fnN hv (by omega)
    replace hv := fnN hv (by omega)
    replace hv := fnN hv (by omega)
    replace hv := fnP hv z35
    refine lv_aload_n hx hb dX11_count_171 rfl (lv_at hl 1 rfl) ?_
    refine gf_11_29 hx hb hts hown hH m0 k0 rfl kf_X11_306 dX11_count_172 ?_
    refine lv_topi (fun y45 ey45 => ?_)
    replace hv := fnS hv ey45
    exact ret (y45) _ _ _ _ _ _ _ dX11_count_175 hH ⟨⟨oI, oR, sm⟩, rfl, rfl, (hT.symm.trans hv)⟩
  · have r46 : Rg x1 (7) (7) := ⟨by rw [z35]; decide, by rw [z35]; decide⟩
    refine lv_tableIn (tgt := 176) hx hb dX11_count_8 (by rw [z35]; decide) (by rw [z35]; decide) (by rw [z35]; rfl) (by decide) ?_
    replace hv := fnN hv (by omega)
    replace hv := fnN hv (by omega)
    replace hv := fnN hv (by omega)
    replace hv := fnN hv (by omega)
    replace hv := fnN hv (by omega)
    replace hv := fnN hv (by omega)
    replace hv := fnN hv (by omega)
    replace hv := fnP hv z35
    refine lv_aload_n hx hb dX11_count_176 rfl (lv_at hl 1 rfl) ?_
    refine gf_11_30 hx hb hts hown hH m0 k0 rfl kf_X11_309 dX11_count_177 ?_
    refine lv_topi (fun y47 ey47 => ?_)
    replace hv := fnS hv ey47
    exact ret (y47) _ _ _ _ _ _ _ dX11_count_180 hH ⟨⟨oI, oR, sm⟩, rfl, rfl, (hT.symm.trans hv)⟩
noncomputable def F_X11_rule (a0 : Nat) (x1 : Int32) (x2 : Int32) (x3 : Int32) (x4 : Int32) (I : hI) (J : hJ) (R : hR) : Int32 × hU :=
  nm (u2 I a0 0 (0 : Int32)) fun I1 => nm (F_X11_in (x1.toInt64) (0 : Int64) (6 : Int64)) fun y3 => (if y3 = (1 : Int32) then nm (F_X11_in (x2.toInt64) (0 : Int64) (6 : Int64)) fun y10 => (if y10 = (1 : Int32) then (if x1 = x2 then ((-3 : Int32), (I1, J, R)) else nm (F_X11_in (x3.toInt64) (1 : Int64) (50 : Int64)) fun y21 => (if y21 = (1 : Int32) then nm (F_X11_in (x4.toInt64) (0 : Int64) (20002000 : Int64)) fun y28 => (if y28 = (1 : Int32) then nm (x4 / (10000 : Int32)) fun y35 => (if (2000 : Int32) < y35 then default else nm (x4 - x4 / (10000 : Int32) * (10000 : Int32)) fun y39 => (if y39 ≤ (2000 : Int32) then nm (I1 a0 1) fun y43 => (if y43 = (32 : Int32) then ((-5 : Int32), (I1, J, R)) else nmW (F_X11_base a0 x1 x2 x3 I1 J R) fun I48 _ _ => nm (I48 a0 1) fun y49 => nm ((R a0 5).getD 0) fun b50 => nm (y49 - (1 : Int32)) fun y52 => nm (y35 - (1000 : Int32)) fun y54 => nm (u2 I48 b50 (Int32.toNatClampNeg y52) y54) fun I55 => nm ((R a0 6).getD 0) fun b56 => nm (y39 - (1000 : Int32)) fun y62 => nm (u2 I55 b56 (Int32.toNatClampNeg y52) y62) fun I63 => (y52, (I63, J, R))) else ((-3 : Int32), (I1, J, R)))) else ((-3 : Int32), (I1, J, R))) else ((-3 : Int32), (I1, J, R)))) else ((-3 : Int32), (I1, J, R))) else ((-3 : Int32), (I1, J, R)))
def ms_X11_rule : List Nat := [704, 705, 4096, 4160, 4224, 4288, 4352, 4416]
set_option maxHeartbeats 4000000 in
set_option maxRecDepth 100000 in
theorem c_X11_rule {l : Launch} {D : va_G} {cy : Nat → ClassId} {L : List Nat} {C : Nat → Nat} {b0 : Nat} {I : hI} {J : hJ} {R : hR} {a0 : Nat} {x1 : Int32} {x2 : Int32} {x3 : Int32} {x4 : Int32} (oI : OkI L C I) (oR : OkR L C R) (m0 : a0 ∈ L) (k0 : C a0 = 11) (hU : Uq L C) : CI l yX11_rule cX11_rule 5 .int 1 D cy L C b0 [.ref a0, .int x1, .int x2, .int x3, .int x4] (I, J, R) (fun r v => Ps L C ms_X11_rule (I, J, R) v ∧ v.2.1 = J ∧ v.2.2 = R ∧ Rg r (-5) (31) ∧ (∀ tj ∈ L, C tj = 69 → r = ruleR (I a0 1) x1 x2 x3 x4 ∧ v.1 a0 1 = ruleT (I a0 1) x1 x2 x3 x4 ∧ v.1 tj = ruleH (I a0 1) (I tj) x1 x2 x3 x4 1) ∧ F_X11_rule a0 x1 x2 x3 x4 I J R = (r, v)) := by
  refine CI.mkI (plainFor_of_name (by decide)) (Nat.le_of_ble_eq_true rfl) ?_
  intro p e s m args below meth c ls Q hF ret hH hl
  obtain ⟨hx, hb, -, hml, hown, hts, -⟩ := hF
  have hl : lv_has ls 5 [(0, .ref a0), (1, .int x1), (2, .int x2), (3, .int x3), (4, .int x4)] := hl
  have hH : Hp D cy L C b0 s s.heap I J R s.heap [] := hH
  have sm : Sm C ms_X11_rule (I, J, R) (I, J, R) := Sm.rf
  obtain ⟨TT0, hT⟩ : ∃ TT0, TT0 = F_X11_rule a0 x1 x2 x3 x4 I J R := ⟨_, rfl⟩
  have hv := hT
  unfold F_X11_rule at hv
  refine lv_aload_n hx hb dX11_rule_0 rfl (lv_at hl 0 rfl) ?_
  refine lv_iconst (v := 0) hx hb dX11_rule_1 (by decide) ?_
  refine pf_11_0 hx hb hts hown hH m0 k0 rfl kf_X11_131 dX11_rule_2 (fun I1 H locs eI1 hH => ?_)
  replace hv := fnS hv eI1
  have oI : OkI L C I1 := by rw [eI1]; exact wf_11_0 oI k0 (Rg_w (Rg_c (x := 0) (a := (0)) (b := (0)) (by decide)) (by decide))
  have sm : Sm C ms_X11_rule (I, J, R) (I1, J, R) := by rw [eI1]; exact sm.stI k0 (mC_obj (by decide) rfl)
  have f2 : 0 = I1 a0 0 := by rw [eI1, u2_at]
  refine lv_iload_n hx hb dX11_rule_5 rfl (lv_at hl 1 rfl) ?_
  refine lv_i2l (v := x1.toInt64) hx hb dX11_rule_6 rfl ?_
  refine lv_lconst (v := 0) hx hb dX11_rule_7 (by decide) ?_
  refine lv_ldc2 (v := 6) hx hb hown (hts _ kkl_X11_150) dX11_rule_8 ?_
  refine ca_X11_138 hx hb hml hown hts hH (c_X11_in ) hl.1 (by decide) (Nat.le_of_ble_eq_true rfl) ⟨Nat.zero_le _, Nat.zero_le _⟩ dX11_rule_11 (fun y3 I3 J3 R3 H locs hp hH => ?_)
  obtain ⟨eI3, eJ3, eR3, ry3, hp3, hf3⟩ := hp
  obtain rfl : I1 = I3 := eI3.symm
  obtain rfl : J = J3 := eJ3.symm
  obtain rfl : R = R3 := eR3.symm
  replace hv := fnS hv hf3.symm
  rcases hp3 with ⟨rfl, hq3⟩ | ⟨rfl, hq3⟩
  rotate_left
  · replace hv := fnN hv (by decide)
    have l8 := hq3
    simp only [Int32.toInt_toInt64, show Int64.toInt (0) = 0 by decide, show Int64.toInt (6) = 6 by decide, show Int32.toInt (0) = 0 by decide, show Int32.toInt (6) = 6 by decide] at l8
    refine lv_if_eq (tgt := 83) hx hb dX11_rule_14 (by decide) (fun q84 => ?_) (fun q84 => ?_)
    rotate_left
    · exact absurd rfl q84
    refine lv_bipush (v := (-3)) hx hb dX11_rule_83 (by decide) ?_
    exact ret ((-3)) _ _ _ _ _ _ _ dX11_rule_85 hH ⟨⟨oI, oR, sm⟩, rfl, rfl, (Rg_w (Rg_c (x := (-3)) (a := (-3)) (b := (-3)) (by decide)) (by decide)), (by intro tj mtj ktj; have di0 : Int32.toInt (0) = 0 := (by decide); have di1 : Int32.toInt (1) = 1 := (by decide); have di2 : Int32.toInt (6) = 6 := (by decide); have di3 : Int32.toInt (50) = 50 := (by decide); have di4 : Int32.toInt (2000) = 2000 := (by decide); have di5 : Int32.toInt (10000) = 10000 := (by decide); obtain ⟨o1, o2, o3⟩ := rule_out (t := I a0 1) (show ¬ ruleOk x1 x2 x3 x4 by unfold ruleOk; omega); rw [o1, o2, o3]; refine ⟨rfl, ?_, ?_⟩; show I1 a0 1 = _; rw [eI1, u2_nk (by decide)]; show I1 tj = _; have s85 : I1 tj = I tj := (by rw [eI1, u2_ne (ne_role ktj k0 (by decide))]); rw [s85]), (hT.symm.trans hv)⟩
  replace hv := fnP hv rfl
  have l8 := hq3
  simp only [Int32.toInt_toInt64, show Int64.toInt (0) = 0 by decide, show Int64.toInt (6) = 6 by decide, show Int32.toInt (0) = 0 by decide, show Int32.toInt (6) = 6 by decide] at l8
  have l4 : Int32.toInt 0 ≤ x1.toInt := in_cl hq3.1 (by decide)
  have r5 : Rg x1 (0) (2147483647) := Rg_lle (Rg_any x1) l4 (Rg_c (x := 0) (a := (0)) (b := (0)) (by decide)) (by decide)
  have l6 : x1.toInt ≤ Int32.toInt 6 := in_lc hq3.2 (by decide)
  have r7 : Rg x1 (0) (6) := Rg_ule r5 l6 (Rg_c (x := 6) (a := (6)) (b := (6)) (by decide)) (by decide)
  refine lv_if_eq (tgt := 83) hx hb dX11_rule_14 (by decide) (fun q9 => ?_) (fun q9 => ?_)
  · exact absurd q9 (by decide)
  refine lv_iload_n hx hb dX11_rule_17 rfl (lv_at hl 2 rfl) ?_
  refine lv_i2l (v := x2.toInt64) hx hb dX11_rule_18 rfl ?_
  refine lv_lconst (v := 0) hx hb dX11_rule_19 (by decide) ?_
  refine lv_ldc2 (v := 6) hx hb hown (hts _ kkl_X11_150) dX11_rule_20 ?_
  refine ca_X11_138 hx hb hml hown hts hH (c_X11_in ) hl.1 (by decide) (Nat.le_of_ble_eq_true rfl) ⟨Nat.zero_le _, Nat.zero_le _⟩ dX11_rule_23 (fun y10 I10 J10 R10 H locs hp hH => ?_)
  obtain ⟨eI10, eJ10, eR10, ry10, hp10, hf10⟩ := hp
  obtain rfl : I1 = I10 := eI10.symm
  obtain rfl : J = J10 := eJ10.symm
  obtain rfl : R = R10 := eR10.symm
  replace hv := fnS hv hf10.symm
  rcases hp10 with ⟨rfl, hq10⟩ | ⟨rfl, hq10⟩
  rotate_left
  · replace hv := fnN hv (by decide)
    have l15 := hq10
    simp only [Int32.toInt_toInt64, show Int64.toInt (0) = 0 by decide, show Int64.toInt (6) = 6 by decide, show Int32.toInt (0) = 0 by decide, show Int32.toInt (6) = 6 by decide] at l15
    refine lv_if_eq (tgt := 83) hx hb dX11_rule_26 (by decide) (fun q82 => ?_) (fun q82 => ?_)
    rotate_left
    · exact absurd rfl q82
    refine lv_bipush (v := (-3)) hx hb dX11_rule_83 (by decide) ?_
    exact ret ((-3)) _ _ _ _ _ _ _ dX11_rule_85 hH ⟨⟨oI, oR, sm⟩, rfl, rfl, (Rg_w (Rg_c (x := (-3)) (a := (-3)) (b := (-3)) (by decide)) (by decide)), (by intro tj mtj ktj; obtain ⟨ga0, gb0⟩ := r7; have di0 : Int32.toInt (0) = 0 := (by decide); have di1 : Int32.toInt (1) = 1 := (by decide); have di2 : Int32.toInt (6) = 6 := (by decide); have di3 : Int32.toInt (50) = 50 := (by decide); have di4 : Int32.toInt (2000) = 2000 := (by decide); have di5 : Int32.toInt (10000) = 10000 := (by decide); obtain ⟨o1, o2, o3⟩ := rule_out (t := I a0 1) (show ¬ ruleOk x1 x2 x3 x4 by unfold ruleOk; omega); rw [o1, o2, o3]; refine ⟨rfl, ?_, ?_⟩; show I1 a0 1 = _; rw [eI1, u2_nk (by decide)]; show I1 tj = _; have s83 : I1 tj = I tj := (by rw [eI1, u2_ne (ne_role ktj k0 (by decide))]); rw [s83]), (hT.symm.trans hv)⟩
  replace hv := fnP hv rfl
  have l15 := hq10
  simp only [Int32.toInt_toInt64, show Int64.toInt (0) = 0 by decide, show Int64.toInt (6) = 6 by decide, show Int32.toInt (0) = 0 by decide, show Int32.toInt (6) = 6 by decide] at l15
  have l11 : Int32.toInt 0 ≤ x2.toInt := in_cl hq10.1 (by decide)
  have r12 : Rg x2 (0) (2147483647) := Rg_lle (Rg_any x2) l11 (Rg_c (x := 0) (a := (0)) (b := (0)) (by decide)) (by decide)
  have l13 : x2.toInt ≤ Int32.toInt 6 := in_lc hq10.2 (by decide)
  have r14 : Rg x2 (0) (6) := Rg_ule r12 l13 (Rg_c (x := 6) (a := (6)) (b := (6)) (by decide)) (by decide)
  refine lv_if_eq (tgt := 83) hx hb dX11_rule_26 (by decide) (fun q16 => ?_) (fun q16 => ?_)
  · exact absurd q16 (by decide)
  refine lv_iload_n hx hb dX11_rule_29 rfl (lv_at hl 1 rfl) ?_
  refine lv_iload_n hx hb dX11_rule_30 rfl (lv_at hl 2 rfl) ?_
  refine lv_icmp_eq (tgt := 83) hx hb dX11_rule_31 (by decide) (fun q17 => ?_) (fun q17 => ?_)
  · replace hv := fnP hv q17
    have l18 := congrArg Int32.toInt q17
    refine lv_bipush (v := (-3)) hx hb dX11_rule_83 (by decide) ?_
    exact ret ((-3)) _ _ _ _ _ _ _ dX11_rule_85 hH ⟨⟨oI, oR, sm⟩, rfl, rfl, (Rg_w (Rg_c (x := (-3)) (a := (-3)) (b := (-3)) (by decide)) (by decide)), (by intro tj mtj ktj; obtain ⟨ga0, gb0⟩ := r7; obtain ⟨ga1, gb1⟩ := r14; have di0 : Int32.toInt (0) = 0 := (by decide); have di1 : Int32.toInt (1) = 1 := (by decide); have di2 : Int32.toInt (6) = 6 := (by decide); have di3 : Int32.toInt (50) = 50 := (by decide); have di4 : Int32.toInt (2000) = 2000 := (by decide); have di5 : Int32.toInt (10000) = 10000 := (by decide); obtain ⟨o1, o2, o3⟩ := rule_out (t := I a0 1) (show ¬ ruleOk x1 x2 x3 x4 by unfold ruleOk; omega); rw [o1, o2, o3]; refine ⟨rfl, ?_, ?_⟩; show I1 a0 1 = _; rw [eI1, u2_nk (by decide)]; show I1 tj = _; have s19 : I1 tj = I tj := (by rw [eI1, u2_ne (ne_role ktj k0 (by decide))]); rw [s19]), (hT.symm.trans hv)⟩
  replace hv := fnN hv q17
  have l20 := Rg_ne q17
  refine lv_iload_n hx hb dX11_rule_34 rfl (lv_at hl 3 rfl) ?_
  refine lv_i2l (v := x3.toInt64) hx hb dX11_rule_35 rfl ?_
  refine lv_lconst (v := 1) hx hb dX11_rule_36 (by decide) ?_
  refine lv_ldc2 (v := 50) hx hb hown (hts _ kkl_X11_152) dX11_rule_37 ?_
  refine ca_X11_138 hx hb hml hown hts hH (c_X11_in ) hl.1 (by decide) (Nat.le_of_ble_eq_true rfl) ⟨Nat.zero_le _, Nat.zero_le _⟩ dX11_rule_40 (fun y21 I21 J21 R21 H locs hp hH => ?_)
  obtain ⟨eI21, eJ21, eR21, ry21, hp21, hf21⟩ := hp
  obtain rfl : I1 = I21 := eI21.symm
  obtain rfl : J = J21 := eJ21.symm
  obtain rfl : R = R21 := eR21.symm
  replace hv := fnS hv hf21.symm
  rcases hp21 with ⟨rfl, hq21⟩ | ⟨rfl, hq21⟩
  rotate_left
  · replace hv := fnN hv (by decide)
    have l26 := hq21
    simp only [Int32.toInt_toInt64, show Int64.toInt (1) = 1 by decide, show Int64.toInt (50) = 50 by decide, show Int32.toInt (1) = 1 by decide, show Int32.toInt (50) = 50 by decide] at l26
    refine lv_if_eq (tgt := 83) hx hb dX11_rule_43 (by decide) (fun q80 => ?_) (fun q80 => ?_)
    rotate_left
    · exact absurd rfl q80
    refine lv_bipush (v := (-3)) hx hb dX11_rule_83 (by decide) ?_
    exact ret ((-3)) _ _ _ _ _ _ _ dX11_rule_85 hH ⟨⟨oI, oR, sm⟩, rfl, rfl, (Rg_w (Rg_c (x := (-3)) (a := (-3)) (b := (-3)) (by decide)) (by decide)), (by intro tj mtj ktj; obtain ⟨ga0, gb0⟩ := r7; obtain ⟨ga1, gb1⟩ := r14; have di0 : Int32.toInt (0) = 0 := (by decide); have di1 : Int32.toInt (1) = 1 := (by decide); have di2 : Int32.toInt (6) = 6 := (by decide); have di3 : Int32.toInt (50) = 50 := (by decide); have di4 : Int32.toInt (2000) = 2000 := (by decide); have di5 : Int32.toInt (10000) = 10000 := (by decide); obtain ⟨o1, o2, o3⟩ := rule_out (t := I a0 1) (show ¬ ruleOk x1 x2 x3 x4 by unfold ruleOk; omega); rw [o1, o2, o3]; refine ⟨rfl, ?_, ?_⟩; show I1 a0 1 = _; rw [eI1, u2_nk (by decide)]; show I1 tj = _; have s81 : I1 tj = I tj := (by rw [eI1, u2_ne (ne_role ktj k0 (by decide))]); rw [s81]), (hT.symm.trans hv)⟩
  replace hv := fnP hv rfl
  have l26 := hq21
  simp only [Int32.toInt_toInt64, show Int64.toInt (1) = 1 by decide, show Int64.toInt (50) = 50 by decide, show Int32.toInt (1) = 1 by decide, show Int32.toInt (50) = 50 by decide] at l26
  have l22 : Int32.toInt 1 ≤ x3.toInt := in_cl hq21.1 (by decide)
  have r23 : Rg x3 (1) (2147483647) := Rg_lle (Rg_any x3) l22 (Rg_c (x := 1) (a := (1)) (b := (1)) (by decide)) (by decide)
  have l24 : x3.toInt ≤ Int32.toInt 50 := in_lc hq21.2 (by decide)
  have r25 : Rg x3 (1) (50) := Rg_ule r23 l24 (Rg_c (x := 50) (a := (50)) (b := (50)) (by decide)) (by decide)
  refine lv_if_eq (tgt := 83) hx hb dX11_rule_43 (by decide) (fun q27 => ?_) (fun q27 => ?_)
  · exact absurd q27 (by decide)
  refine lv_iload hx hb dX11_rule_46 (lv_at hl 4 rfl) ?_
  refine lv_i2l (v := x4.toInt64) hx hb dX11_rule_48 rfl ?_
  refine lv_lconst (v := 0) hx hb dX11_rule_49 (by decide) ?_
  refine lv_ldc2 (v := 20002000) hx hb hown (hts _ kkl_X11_154) dX11_rule_50 ?_
  refine ca_X11_138 hx hb hml hown hts hH (c_X11_in ) hl.1 (by decide) (Nat.le_of_ble_eq_true rfl) ⟨Nat.zero_le _, Nat.zero_le _⟩ dX11_rule_53 (fun y28 I28 J28 R28 H locs hp hH => ?_)
  obtain ⟨eI28, eJ28, eR28, ry28, hp28, hf28⟩ := hp
  obtain rfl : I1 = I28 := eI28.symm
  obtain rfl : J = J28 := eJ28.symm
  obtain rfl : R = R28 := eR28.symm
  replace hv := fnS hv hf28.symm
  rcases hp28 with ⟨rfl, hq28⟩ | ⟨rfl, hq28⟩
  rotate_left
  · replace hv := fnN hv (by decide)
    have l33 := hq28
    simp only [Int32.toInt_toInt64, show Int64.toInt (0) = 0 by decide, show Int64.toInt (20002000) = 20002000 by decide, show Int32.toInt (0) = 0 by decide, show Int32.toInt (20002000) = 20002000 by decide] at l33
    refine lv_if_eq (tgt := 83) hx hb dX11_rule_56 (by decide) (fun q78 => ?_) (fun q78 => ?_)
    rotate_left
    · exact absurd rfl q78
    refine lv_bipush (v := (-3)) hx hb dX11_rule_83 (by decide) ?_
    exact ret ((-3)) _ _ _ _ _ _ _ dX11_rule_85 hH ⟨⟨oI, oR, sm⟩, rfl, rfl, (Rg_w (Rg_c (x := (-3)) (a := (-3)) (b := (-3)) (by decide)) (by decide)), (by intro tj mtj ktj; obtain ⟨ga0, gb0⟩ := r7; obtain ⟨ga1, gb1⟩ := r14; obtain ⟨ga2, gb2⟩ := r25; have di0 : Int32.toInt (0) = 0 := (by decide); have di1 : Int32.toInt (1) = 1 := (by decide); have di2 : Int32.toInt (6) = 6 := (by decide); have di3 : Int32.toInt (50) = 50 := (by decide); have di4 : Int32.toInt (2000) = 2000 := (by decide); have di5 : Int32.toInt (10000) = 10000 := (by decide); obtain ⟨o1, o2, o3⟩ := rule_out (t := I a0 1) (show ¬ ruleOk x1 x2 x3 x4 by unfold ruleOk; omega); rw [o1, o2, o3]; refine ⟨rfl, ?_, ?_⟩; show I1 a0 1 = _; rw [eI1, u2_nk (by decide)]; show I1 tj = _; have s79 : I1 tj = I tj := (by rw [eI1, u2_ne (ne_role ktj k0 (by decide))]); rw [s79]), (hT.symm.trans hv)⟩
  replace hv := fnP hv rfl
  have l33 := hq28
  simp only [Int32.toInt_toInt64, show Int64.toInt (0) = 0 by decide, show Int64.toInt (20002000) = 20002000 by decide, show Int32.toInt (0) = 0 by decide, show Int32.toInt (20002000) = 20002000 by decide] at l33
  have l29 : Int32.toInt 0 ≤ x4.toInt := in_cl hq28.1 (by decide)
  have r30 : Rg x4 (0) (2147483647) := Rg_lle (Rg_any x4) l29 (Rg_c (x := 0) (a := (0)) (b := (0)) (by decide)) (by decide)
  have l31 : x4.toInt ≤ Int32.toInt 20002000 := in_lc hq28.2 (by decide)
  have r32 : Rg x4 (0) (20002000) := Rg_ule r30 l31 (Rg_c (x := 20002000) (a := (20002000)) (b := (20002000)) (by decide)) (by decide)
  refine lv_if_eq (tgt := 83) hx hb dX11_rule_56 (by decide) (fun q34 => ?_) (fun q34 => ?_)
  · exact absurd q34 (by decide)
  refine lv_iload hx hb dX11_rule_59 (lv_at hl 4 rfl) ?_
  refine lv_sipush (v := 10000) hx hb dX11_rule_61 (by decide) ?_
  refine lv_idiv hx hb dX11_rule_64 (by decide) ?_
  refine lv_topi (fun y35 ey35 => ?_)
  replace hv := fnS hv ey35
  obtain ⟨ty35, ry35⟩ := Rg_divx (a' := (0)) (b' := (2000)) (rfl : x4.toInt = _) (by decide : Int32.toInt 10000 = 10000) r32 (Rg_c (x := 10000) (a := (10000)) (b := (10000)) (by decide)) (by decide)
  rw [← ey35] at ty35 ry35
  refine lv_sipush (v := 2000) hx hb dX11_rule_65 (by decide) ?_
  refine lv_icmp_gt (tgt := 83) hx hb dX11_rule_68 (by decide) (fun q36 => ?_) (fun q36 => ?_)
  · replace hv := fnP hv q36
    exact Rg_no (Rg_ult (Rg_c (x := 2000) (a := (2000)) (b := (2000)) (by decide)) (Rg_lt q36) ry35 (b' := (1999)) (by decide)) (by decide)
  replace hv := fnN hv q36
  have l38 := Rg_nlt q36
  refine lv_iload hx hb dX11_rule_71 (lv_at hl 4 rfl) ?_
  refine lv_sipush (v := 10000) hx hb dX11_rule_73 (by decide) ?_
  refine lv_irem hx hb dX11_rule_76 (by decide) ?_
  refine lv_topi (fun y39 ey39 => ?_)
  replace hv := fnS hv ey39
  obtain ⟨ty39, ry39⟩ := Rg_remx (b' := (9999)) (rfl : x4.toInt = _) (by decide : Int32.toInt 10000 = 10000) r32 (Rg_c (x := 10000) (a := (10000)) (b := (10000)) (by decide)) (by decide)
  rw [← ey39] at ty39 ry39
  refine lv_sipush (v := 2000) hx hb dX11_rule_77 (by decide) ?_
  refine lv_icmp_le (tgt := 86) hx hb dX11_rule_80 (by decide) (fun q40 => ?_) (fun q40 => ?_)
  rotate_left
  · replace hv := fnN hv q40
    have l75 := Rg_nle q40
    have r76 : Rg y39 (2001) (9999) := Rg_llt ry39 (Rg_nle q40) (Rg_c (x := 2000) (a := (2000)) (b := (2000)) (by decide)) (by decide)
    refine lv_bipush (v := (-3)) hx hb dX11_rule_83 (by decide) ?_
    exact ret ((-3)) _ _ _ _ _ _ _ dX11_rule_85 hH ⟨⟨oI, oR, sm⟩, rfl, rfl, (Rg_w (Rg_c (x := (-3)) (a := (-3)) (b := (-3)) (by decide)) (by decide)), (by intro tj mtj ktj; obtain ⟨ga0, gb0⟩ := r7; obtain ⟨ga1, gb1⟩ := r14; obtain ⟨ga2, gb2⟩ := r25; obtain ⟨ga3, gb3⟩ := r32; obtain ⟨ga4, gb4⟩ := ry35; obtain ⟨ga5, gb5⟩ := r76; have di0 : Int32.toInt (0) = 0 := (by decide); have di1 : Int32.toInt (1) = 1 := (by decide); have di2 : Int32.toInt (6) = 6 := (by decide); have di3 : Int32.toInt (50) = 50 := (by decide); have di4 : Int32.toInt (2000) = 2000 := (by decide); have di5 : Int32.toInt (10000) = 10000 := (by decide); obtain ⟨o1, o2, o3⟩ := rule_out (t := I a0 1) (show ¬ ruleOk x1 x2 x3 x4 by unfold ruleOk; omega); rw [o1, o2, o3]; refine ⟨rfl, ?_, ?_⟩; show I1 a0 1 = _; rw [eI1, u2_nk (by decide)]; show I1 tj = _; have s77 : I1 tj = I tj := (by rw [eI1, u2_ne (ne_role ktj k0 (by decide))]); rw [s77]), (hT.symm.trans hv)⟩
  replace hv := fnP hv q40
  have l41 := Rg_le q40
  have r42 : Rg y39 (0) (2000) := Rg_ule ry39 (Rg_le q40) (Rg_c (x := 2000) (a := (2000)) (b := (2000)) (by decide)) (by decide)
  refine lv_aload_n hx hb dX11_rule_86 rfl (lv_at hl 0 rfl) ?_
  refine gf_11_1 hx hb hts hown hH m0 k0 rfl kf_X11_127 dX11_rule_87 ?_
  refine lv_topi (fun y43 ey43 => ?_)
  have ry43 : Rg y43 (0) (32) := by rw [ey43]; exact rf_11_1 oI m0 k0
  replace hv := fnS hv ey43
  refine lv_bipush (v := 32) hx hb dX11_rule_90 (by decide) ?_
  refine lv_icmp_ne (tgt := 98) hx hb dX11_rule_92 (by decide) (fun q44 => ?_) (fun q44 => ?_)
  rotate_left
  · replace hv := fnP hv q44
    have l72 := congrArg Int32.toInt q44
    have r73 : Rg y43 (32) (32) := Rg_both ry43 (Rg_eqv q44 (Rg_c (x := 32) (a := (32)) (b := (32)) (by decide))) (by decide)
    refine lv_bipush (v := (-5)) hx hb dX11_rule_95 (by decide) ?_
    exact ret ((-5)) _ _ _ _ _ _ _ dX11_rule_97 hH ⟨⟨oI, oR, sm⟩, rfl, rfl, (Rg_w (Rg_c (x := (-5)) (a := (-5)) (b := (-5)) (by decide)) (by decide)), (by intro tj mtj ktj; obtain ⟨ga0, gb0⟩ := r7; obtain ⟨ga1, gb1⟩ := r14; obtain ⟨ga2, gb2⟩ := r25; obtain ⟨ga3, gb3⟩ := r32; obtain ⟨ga4, gb4⟩ := ry35; obtain ⟨ga5, gb5⟩ := r42; have di0 : Int32.toInt (0) = 0 := (by decide); have di1 : Int32.toInt (1) = 1 := (by decide); have di2 : Int32.toInt (6) = 6 := (by decide); have di3 : Int32.toInt (50) = 50 := (by decide); have di4 : Int32.toInt (2000) = 2000 := (by decide); have di5 : Int32.toInt (10000) = 10000 := (by decide); have h8 : I a0 1 = y43 := (by rw [ey43, eI1, u2_nk (by decide)]); obtain ⟨o1, o2, o3⟩ := rule_full (t := I a0 1) (show ruleOk x1 x2 x3 x4 by unfold ruleOk; omega) (by rw [h8]; have a1 := r73.1; omega); rw [o1, o2, o3]; refine ⟨rfl, ?_, ?_⟩; show I1 a0 1 = _; rw [eI1, u2_nk (by decide)]; show I1 tj = _; have s74 : I1 tj = I tj := (by rw [eI1, u2_ne (ne_role ktj k0 (by decide))]); rw [s74]), (hT.symm.trans hv)⟩
  replace hv := fnN hv q44
  have l45 := Rg_ne q44
  have r46 : Rg y43 (0) (31) := Rg_nehi ry43 (Rg_ne q44) (Rg_c (x := 32) (a := (32)) (b := (32)) (by decide)) (by decide)
  have o47 : I a0 1 = y43 := by rw [ey43, eI1, u2_nk (by decide)]
  refine lv_aload_n hx hb dX11_rule_98 rfl (lv_at hl 0 rfl) ?_
  refine lv_iload_n hx hb dX11_rule_99 rfl (lv_at hl 1 rfl) ?_
  refine lv_iload_n hx hb dX11_rule_100 rfl (lv_at hl 2 rfl) ?_
  refine lv_iload_n hx hb dX11_rule_101 rfl (lv_at hl 3 rfl) ?_
  refine ca_X11_123 hx hb hml hown hts hH (c_X11_base oI oR m0 k0 r7 r14 (Rg_w r25 (by decide)) (by rw [← ey43]; exact Rg_w r46 (by decide)) (by assumption)) hl.1 m0 k0 rfl (by decide) (Nat.le_of_ble_eq_true rfl) ⟨Nat.zero_le _, Nat.zero_le _⟩ dX11_rule_102 (fun I48 J48 R48 H locs hp hH => ?_)
  obtain ⟨⟨oI, -, sc48⟩, eJ48, eR48, pm48_1, hp48, hf48⟩ := hp
  obtain rfl : J = J48 := eJ48.symm
  obtain rfl : R = R48 := eR48.symm
  replace hv := fnW hv hf48
  have sm : Sm C ms_X11_rule (I, J, R) (I48, J, R) := sm.tr sc48 rfl
  obtain ⟨y49, ey49⟩ : ∃ y : Int32, y = I48 a0 1 := ⟨_, rfl⟩
  have ry49 : Rg y49 (1) (32) := by rw [ey49]; exact pm48_1
  replace hv := fnS hv ey49
  refine lv_aload_n hx hb dX11_rule_105 rfl (lv_at hl 0 rfl) ?_
  obtain ⟨b50, mb50, vb50, kb50⟩ := rf_11_5 oR m0 k0
  replace hv := fnR hv vb50
  refine gf_11_5 vb50 hx hb hts hown hH m0 k0 rfl kf_X11_19 dX11_rule_106 ?_
  refine lv_aload_n hx hb dX11_rule_109 rfl (lv_at hl 0 rfl) ?_
  refine gf_11_1 hx hb hts hown hH m0 k0 rfl kf_X11_127 dX11_rule_110 ?_
  refine lv_topi (fun y51 ey51 => ?_)
  obtain rfl : y49 = y51 := ey49.trans ey51.symm
  refine lv_iconst (v := 1) hx hb dX11_rule_113 (by decide) ?_
  refine lv_isub hx hb dX11_rule_114 ?_
  refine lv_topi (fun y52 ey52 => ?_)
  replace hv := fnS hv ey52
  obtain ⟨ty52, ry52⟩ := Rg_subx (a' := (0)) (b' := (31)) (rfl : y49.toInt = _) (by decide : Int32.toInt 1 = 1) ry49 (Rg_c (x := 1) (a := (1)) (b := (1)) (by decide)) (by decide)
  rw [← ey52] at ty52 ry52
  refine lv_iload hx hb dX11_rule_115 (lv_at hl 4 rfl) ?_
  refine lv_sipush (v := 10000) hx hb dX11_rule_117 (by decide) ?_
  refine lv_idiv hx hb dX11_rule_120 (by decide) ?_
  refine lv_topi (fun y53 ey53 => ?_)
  obtain rfl : y35 = y53 := ey35.trans ey53.symm
  refine lv_sipush (v := 1000) hx hb dX11_rule_121 (by decide) ?_
  refine lv_isub hx hb dX11_rule_124 ?_
  refine lv_topi (fun y54 ey54 => ?_)
  replace hv := fnS hv ey54
  obtain ⟨ty54, ry54⟩ := Rg_subx (a' := (-1000)) (b' := (1000)) (rfl : y35.toInt = _) (by decide : Int32.toInt 1000 = 1000) ry35 (Rg_c (x := 1000) (a := (1000)) (b := (1000)) (by decide)) (by decide)
  rw [← ey54] at ty54 ry54
  refine st_67 hx hb hH mb50 kb50 (Rg_in ry52 (by decide)) dX11_rule_125 (fun I55 H locs eI55 hH => ?_)
  replace hv := fnS hv eI55
  have oI : OkI L C I55 := by rw [eI55]; exact wr_67 oI kb50 ry54
  have sm : Sm C ms_X11_rule (I, J, R) (I55, J, R) := by rw [eI55]; exact sm.stI kb50 (mC_arr (by decide) rfl)
  refine lv_aload_n hx hb dX11_rule_126 rfl (lv_at hl 0 rfl) ?_
  obtain ⟨b56, mb56, vb56, kb56⟩ := rf_11_6 oR m0 k0
  replace hv := fnR hv vb56
  refine gf_11_6 vb56 hx hb hts hown hH m0 k0 rfl kf_X11_22 dX11_rule_127 ?_
  refine lv_aload_n hx hb dX11_rule_130 rfl (lv_at hl 0 rfl) ?_
  have f58 : I55 a0 (1) = I48 a0 (1) := (by rw [eI55, u2_ne (ne_role k0 kb50 (by decide))])
  have f57 : y49 = I55 a0 (1) := ey49.trans f58.symm
  refine gf_11_1 hx hb hts hown hH m0 k0 rfl kf_X11_127 dX11_rule_131 ?_
  refine lv_topi (fun y59 ey59 => ?_)
  obtain rfl : y49 = y59 := f57.trans ey59.symm
  refine lv_iconst (v := 1) hx hb dX11_rule_134 (by decide) ?_
  refine lv_isub hx hb dX11_rule_135 ?_
  refine lv_topi (fun y60 ey60 => ?_)
  obtain rfl : y52 = y60 := ey52.trans ey60.symm
  refine lv_iload hx hb dX11_rule_136 (lv_at hl 4 rfl) ?_
  refine lv_sipush (v := 10000) hx hb dX11_rule_138 (by decide) ?_
  refine lv_irem hx hb dX11_rule_141 (by decide) ?_
  refine lv_topi (fun y61 ey61 => ?_)
  obtain rfl : y39 = y61 := ey39.trans ey61.symm
  refine lv_sipush (v := 1000) hx hb dX11_rule_142 (by decide) ?_
  refine lv_isub hx hb dX11_rule_145 ?_
  refine lv_topi (fun y62 ey62 => ?_)
  replace hv := fnS hv ey62
  obtain ⟨ty62, ry62⟩ := Rg_subx (a' := (-1000)) (b' := (1000)) (rfl : y39.toInt = _) (by decide : Int32.toInt 1000 = 1000) r42 (Rg_c (x := 1000) (a := (1000)) (b := (1000)) (by decide)) (by decide)
  rw [← ey62] at ty62 ry62
  refine st_68 hx hb hH mb56 kb56 (Rg_in ry52 (by decide)) dX11_rule_146 (fun I63 H locs eI63 hH => ?_)
  replace hv := fnS hv eI63
  have oI : OkI L C I63 := by rw [eI63]; exact wr_68 oI kb56 ry62
  have sm : Sm C ms_X11_rule (I, J, R) (I63, J, R) := by rw [eI63]; exact sm.stI kb56 (mC_arr (by decide) rfl)
  refine lv_aload_n hx hb dX11_rule_147 rfl (lv_at hl 0 rfl) ?_
  have f65 : I63 a0 (1) = I55 a0 (1) := (by rw [eI63, u2_ne (ne_role k0 kb56 (by decide))])
  have f64 : y49 = I63 a0 (1) := f57.trans f65.symm
  refine gf_11_1 hx hb hts hown hH m0 k0 rfl kf_X11_127 dX11_rule_148 ?_
  refine lv_topi (fun y66 ey66 => ?_)
  obtain rfl : y49 = y66 := f64.trans ey66.symm
  refine lv_iconst (v := 1) hx hb dX11_rule_151 (by decide) ?_
  refine lv_isub hx hb dX11_rule_152 ?_
  refine lv_topi (fun y67 ey67 => ?_)
  obtain rfl : y52 = y67 := ey52.trans ey67.symm
  exact ret (y52) _ _ _ _ _ _ _ dX11_rule_153 hH ⟨⟨oI, oR, sm⟩, rfl, rfl, (Rg_w ry52 (by decide)), (by intro tj mtj ktj; obtain ⟨ga0, gb0⟩ := r7; obtain ⟨ga1, gb1⟩ := r14; obtain ⟨ga2, gb2⟩ := r25; obtain ⟨ga3, gb3⟩ := r32; obtain ⟨ga4, gb4⟩ := ry35; obtain ⟨ga5, gb5⟩ := r42; have di0 : Int32.toInt (0) = 0 := (by decide); have di1 : Int32.toInt (1) = 1 := (by decide); have di2 : Int32.toInt (6) = 6 := (by decide); have di3 : Int32.toInt (50) = 50 := (by decide); have di4 : Int32.toInt (2000) = 2000 := (by decide); have di5 : Int32.toInt (10000) = 10000 := (by decide); have h8 : I1 a0 1 = I a0 1 := (by rw [eI1, u2_nk (by decide)]); have h7 : I63 a0 1 = I48 a0 1 := (by rw [eI63, u2_ne (ne_role k0 kb56 (by decide)), eI55, u2_ne (ne_role k0 kb50 (by decide))]); obtain ⟨o1, o2, o3⟩ := rule_ok (t := I a0 1) (show ruleOk x1 x2 x3 x4 by unfold ruleOk; omega) (by rw [o47]; exact r46.2); rw [o1, o2, o3]; refine ⟨?_, ?_, ?_⟩; exact Int32.toInt_inj.mp (by have a1 : (I48 a0 1).toInt = (I1 a0 1).toInt + 1 := hp48.1.1; rw [h8, ← h7, ← f64] at a1; have a2 := ty52; omega); show I63 a0 1 = _; have h6 : I48 a0 1 = I1 a0 1 + 1 := hp48.1.2; rw [h7, h6, h8]; show I63 tj = _; have s68 : I1 tj = I tj := (by rw [eI1, u2_ne (ne_role ktj k0 (by decide))]); have s69 : I48 tj = _ := hp48.2.2.2.2.2.2 tj mtj ktj; have s70 : I55 tj = I48 tj := (by rw [eI55, u2_ne (ne_role ktj kb50 (by decide))]); have s71 : I63 tj = I55 tj := (by rw [eI63, u2_ne (ne_role ktj kb56 (by decide))]); rw [s71, s70, s69, s68, h8]), (hT.symm.trans hv)⟩
noncomputable def F_X11_drop (a0 : Nat) (x1 : Int32) (I : hI) (J : hJ) (R : hR) : Int32 × hU :=
  nm (u2 I a0 0 (0 : Int32)) fun I1 => nm (I1 a0 1) fun y3 => nm (y3 - (1 : Int32)) fun y4 => nm (F_X11_in (x1.toInt64) (12 : Int64) (y4.toInt64)) fun y5 => (if y5 = (1 : Int32) then nm ((R a0 7).getD 0) fun b14 => nm (I1 b14 (Int32.toNatClampNeg x1)) fun y15 => (if y15 = (0 : Int32) then ((-2 : Int32), (I1, J, R)) else nm (u2 I1 b14 (Int32.toNatClampNeg x1) (0 : Int32)) fun I19 => ((1 : Int32), (I19, J, R))) else ((-2 : Int32), (I1, J, R)))
def ms_X11_drop : List Nat := [704, 4416]
set_option maxHeartbeats 4000000 in
set_option maxRecDepth 100000 in
theorem c_X11_drop {l : Launch} {D : va_G} {cy : Nat → ClassId} {L : List Nat} {C : Nat → Nat} {b0 : Nat} {I : hI} {J : hJ} {R : hR} {a0 : Nat} {x1 : Int32} (oI : OkI L C I) (oR : OkR L C R) (m0 : a0 ∈ L) (k0 : C a0 = 11) (hU : Uq L C) : CI l yX11_drop cX11_drop 2 .int 1 D cy L C b0 [.ref a0, .int x1] (I, J, R) (fun r v => Ps L C ms_X11_drop (I, J, R) v ∧ v.2.1 = J ∧ v.2.2 = R ∧ Rg r (-2) (1) ∧ (∀ tj ∈ L, C tj = 69 → r = dropR (I a0 1) (I tj) x1 ∧ v.1 tj = dropH (I a0 1) (I tj) x1) ∧ F_X11_drop a0 x1 I J R = (r, v)) := by
  refine CI.mkI (plainFor_of_name (by decide)) (Nat.le_of_ble_eq_true rfl) ?_
  intro p e s m args below meth c ls Q hF ret hH hl
  obtain ⟨hx, hb, -, hml, hown, hts, -⟩ := hF
  have hl : lv_has ls 2 [(0, .ref a0), (1, .int x1)] := hl
  have hH : Hp D cy L C b0 s s.heap I J R s.heap [] := hH
  have sm : Sm C ms_X11_drop (I, J, R) (I, J, R) := Sm.rf
  obtain ⟨TT0, hT⟩ : ∃ TT0, TT0 = F_X11_drop a0 x1 I J R := ⟨_, rfl⟩
  have hv := hT
  unfold F_X11_drop at hv
  refine lv_aload_n hx hb dX11_drop_0 rfl (lv_at hl 0 rfl) ?_
  refine lv_iconst (v := 0) hx hb dX11_drop_1 (by decide) ?_
  refine pf_11_0 hx hb hts hown hH m0 k0 rfl kf_X11_131 dX11_drop_2 (fun I1 H locs eI1 hH => ?_)
  replace hv := fnS hv eI1
  have oI : OkI L C I1 := by rw [eI1]; exact wf_11_0 oI k0 (Rg_w (Rg_c (x := 0) (a := (0)) (b := (0)) (by decide)) (by decide))
  have sm : Sm C ms_X11_drop (I, J, R) (I1, J, R) := by rw [eI1]; exact sm.stI k0 (mC_obj (by decide) rfl)
  have f2 : 0 = I1 a0 0 := by rw [eI1, u2_at]
  refine lv_iload_n hx hb dX11_drop_5 rfl (lv_at hl 1 rfl) ?_
  refine lv_i2l (v := x1.toInt64) hx hb dX11_drop_6 rfl ?_
  refine lv_ldc2 (v := 12) hx hb hown (hts _ kkl_X11_156) dX11_drop_7 ?_
  refine lv_aload_n hx hb dX11_drop_10 rfl (lv_at hl 0 rfl) ?_
  refine gf_11_1 hx hb hts hown hH m0 k0 rfl kf_X11_127 dX11_drop_11 ?_
  refine lv_topi (fun y3 ey3 => ?_)
  have ry3 : Rg y3 (0) (32) := by rw [ey3]; exact rf_11_1 oI m0 k0
  replace hv := fnS hv ey3
  refine lv_iconst (v := 1) hx hb dX11_drop_14 (by decide) ?_
  refine lv_isub hx hb dX11_drop_15 ?_
  refine lv_topi (fun y4 ey4 => ?_)
  replace hv := fnS hv ey4
  obtain ⟨ty4, ry4⟩ := Rg_subx (a' := (-1)) (b' := (31)) (rfl : y3.toInt = _) (by decide : Int32.toInt 1 = 1) ry3 (Rg_c (x := 1) (a := (1)) (b := (1)) (by decide)) (by decide)
  rw [← ey4] at ty4 ry4
  refine lv_i2l (v := y4.toInt64) hx hb dX11_drop_16 rfl ?_
  refine ca_X11_138 hx hb hml hown hts hH (c_X11_in ) hl.1 (by decide) (Nat.le_of_ble_eq_true rfl) ⟨Nat.zero_le _, Nat.zero_le _⟩ dX11_drop_17 (fun y5 I5 J5 R5 H locs hp hH => ?_)
  obtain ⟨eI5, eJ5, eR5, ry5, hp5, hf5⟩ := hp
  obtain rfl : I1 = I5 := eI5.symm
  obtain rfl : J = J5 := eJ5.symm
  obtain rfl : R = R5 := eR5.symm
  replace hv := fnS hv hf5.symm
  rcases hp5 with ⟨rfl, hq5⟩ | ⟨rfl, hq5⟩
  rotate_left
  · replace hv := fnN hv (by decide)
    have l12 := hq5
    simp only [Int32.toInt_toInt64, show Int64.toInt (12) = 12 by decide, show Int32.toInt (12) = 12 by decide] at l12
    refine lv_if_eq (tgt := 32) hx hb dX11_drop_20 (by decide) (fun q25 => ?_) (fun q25 => ?_)
    rotate_left
    · exact absurd rfl q25
    refine lv_bipush (v := (-2)) hx hb dX11_drop_32 (by decide) ?_
    exact ret ((-2)) _ _ _ _ _ _ _ dX11_drop_34 hH ⟨⟨oI, oR, sm⟩, rfl, rfl, (Rg_w (Rg_c (x := (-2)) (a := (-2)) (b := (-2)) (by decide)) (by decide)), (by intro tj mtj ktj; have h8 : I a0 1 = y3 := (by rw [ey3, eI1, u2_nk (by decide)]); have a4 := ty4; obtain ⟨o1, o2⟩ := drop_no (t := I a0 1) (h := I tj) (x := x1) (fun h => by unfold dropOk at h; rw [h8] at h; omega); rw [o1, o2]; refine ⟨rfl, ?_⟩; show I1 tj = _; have s26 : I1 tj = I tj := (by rw [eI1, u2_ne (ne_role ktj k0 (by decide))]); rw [s26]), (hT.symm.trans hv)⟩
  replace hv := fnP hv rfl
  have l12 := hq5
  simp only [Int32.toInt_toInt64, show Int64.toInt (12) = 12 by decide, show Int32.toInt (12) = 12 by decide] at l12
  have l6 : Int32.toInt 12 ≤ x1.toInt := in_cl hq5.1 (by decide)
  have r7 : Rg x1 (12) (2147483647) := Rg_lle (Rg_any x1) l6 (Rg_c (x := 12) (a := (12)) (b := (12)) (by decide)) (by decide)
  have l8 := in_ll hq5.2
  have r9 : Rg x1 (12) (31) := Rg_ule r7 l8 ry4 (by decide)
  have r10 : Rg y4 (12) (31) := Rg_lle ry4 l8 r7 (by decide)
  have r11 : Rg y3 (13) (32) := by have a1 := r10.1; have a2 := r10.2; have a3 := ry3.1; have a4 := ry3.2; exact ⟨by omega, by omega⟩
  refine lv_if_eq (tgt := 32) hx hb dX11_drop_20 (by decide) (fun q13 => ?_) (fun q13 => ?_)
  · exact absurd q13 (by decide)
  refine lv_aload_n hx hb dX11_drop_23 rfl (lv_at hl 0 rfl) ?_
  obtain ⟨b14, mb14, vb14, kb14⟩ := rf_11_7 oR m0 k0
  replace hv := fnR hv vb14
  refine gf_11_7 vb14 hx hb hts hown hH m0 k0 rfl kf_X11_25 dX11_drop_24 ?_
  refine lv_iload_n hx hb dX11_drop_27 rfl (lv_at hl 1 rfl) ?_
  refine ld_69 hx hb hH mb14 kb14 (Rg_in r9 (by decide)) dX11_drop_28 ?_
  refine lv_topi (fun y15 ey15 => ?_)
  have ry15 : Rg y15 (0) (1) := by rw [ey15]; exact rd_69 oI mb14 kb14 (Rg_in r9 (by decide))
  replace hv := fnS hv ey15
  refine lv_if_ne (tgt := 35) hx hb dX11_drop_29 (by decide) (fun q16 => ?_) (fun q16 => ?_)
  rotate_left
  · replace hv := fnP hv q16
    have l22 := congrArg Int32.toInt q16
    have r23 : Rg y15 (0) (0) := Rg_both ry15 (Rg_eqv q16 (Rg_c (x := 0) (a := (0)) (b := (0)) (by decide))) (by decide)
    refine lv_bipush (v := (-2)) hx hb dX11_drop_32 (by decide) ?_
    exact ret ((-2)) _ _ _ _ _ _ _ dX11_drop_34 hH ⟨⟨oI, oR, sm⟩, rfl, rfl, (Rg_w (Rg_c (x := (-2)) (a := (-2)) (b := (-2)) (by decide)) (by decide)), (by intro tj mtj ktj; obtain ⟨ga0, gb0⟩ := r9; have h8 : I a0 1 = y3 := (by rw [ey3, eI1, u2_nk (by decide)]); have a4 := ty4; rw [hU tj mtj b14 mb14 (ktj.trans kb14.symm) (by rw [ktj]; rfl)]; have h7 : I b14 x1.toNatClampNeg = y15 := (by rw [ey15, eI1, u2_ne (ne_role kb14 k0 (by decide))]); obtain ⟨o1, o2⟩ := drop_no (t := I a0 1) (h := I b14) (x := x1) (fun h => by have a5 := h.2.2; rw [h7] at a5; obtain ⟨a7, a8⟩ := r23; omega); rw [o1, o2]; refine ⟨rfl, ?_⟩; show I1 b14 = _; have s24 : I1 b14 = I b14 := (by rw [eI1, u2_ne (ne_role kb14 k0 (by decide))]); rw [s24]), (hT.symm.trans hv)⟩
  replace hv := fnN hv q16
  have l17 := Rg_ne q16
  have r18 : Rg y15 (1) (1) := Rg_nelo ry15 (Rg_ne q16) (Rg_c (x := 0) (a := (0)) (b := (0)) (by decide)) (by decide)
  refine lv_aload_n hx hb dX11_drop_35 rfl (lv_at hl 0 rfl) ?_
  refine gf_11_7 vb14 hx hb hts hown hH m0 k0 rfl kf_X11_25 dX11_drop_36 ?_
  refine lv_iload_n hx hb dX11_drop_39 rfl (lv_at hl 1 rfl) ?_
  refine lv_iconst (v := 0) hx hb dX11_drop_40 (by decide) ?_
  refine st_69 hx hb hH mb14 kb14 (Rg_in r9 (by decide)) (Rg_01 (Rg_w (Rg_c (x := 0) (a := (0)) (b := (0)) (by decide)) (by decide))) dX11_drop_41 (fun I19 H locs eI19 hH => ?_)
  replace hv := fnS hv eI19
  have oI : OkI L C I19 := by rw [eI19]; exact wr_69 oI kb14 (Rg_w (Rg_c (x := 0) (a := (0)) (b := (0)) (by decide)) (by decide))
  have sm : Sm C ms_X11_drop (I, J, R) (I19, J, R) := by rw [eI19]; exact sm.stI kb14 (mC_arr (by decide) rfl)
  refine lv_iconst (v := 1) hx hb dX11_drop_42 (by decide) ?_
  exact ret (1) _ _ _ _ _ _ _ dX11_drop_43 hH ⟨⟨oI, oR, sm⟩, rfl, rfl, (Rg_w (Rg_c (x := 1) (a := (1)) (b := (1)) (by decide)) (by decide)), (by intro tj mtj ktj; obtain ⟨ga0, gb0⟩ := r9; have h8 : I a0 1 = y3 := (by rw [ey3, eI1, u2_nk (by decide)]); have a4 := ty4; rw [hU tj mtj b14 mb14 (ktj.trans kb14.symm) (by rw [ktj]; rfl)]; have h7 : I b14 x1.toNatClampNeg = y15 := (by rw [ey15, eI1, u2_ne (ne_role kb14 k0 (by decide))]); obtain ⟨o1, o2⟩ := drop_ok (t := I a0 1) (h := I b14) (x := x1) ⟨by omega, by rw [h8]; omega, by rw [h7]; obtain ⟨a7, a8⟩ := r18; omega⟩; rw [o1, o2]; refine ⟨rfl, ?_⟩; show I19 b14 = _; have s20 : I1 b14 = I b14 := (by rw [eI1, u2_ne (ne_role kb14 k0 (by decide))]); have s21 : I19 b14 = up (I1 b14) _ _ := (by rw [eI19]; exact u2_up); rw [s21, s20]), (hT.symm.trans hv)⟩
