theorem RT.init {L : List Nat} {C : Nat → Nat} {x mo : Nat} {I : hI} {J : hJ} {R : hR} (uq : Uq L C) (z0 : Z0 L C I J) (oR : OkR L C R) (mx : x ∈ L) (kx : C x = 10) (mm : mo ∈ L) (km : C mo = 11) {kc a b : Nat} (mk : kc ∈ L) (kk : C kc = 1) (ma : a ∈ L) (ka : C a = 53) (mb : b ∈ L) (kb : C b = 53) (va : R kc 8 = some a) (vb : R kc 9 = some b) (hab : a ≠ b) : RT L C x mo (I, J, R) := by
  obtain ⟨th, m1, v1, k1⟩ := rf_10_6 oR mx kx
  obtain ⟨tcl, m2, v2, k2⟩ := rf_8_0 oR m1 k1
  obtain ⟨tfl, m3, v3, k3⟩ := rf_8_1 oR m1 k1
  obtain ⟨la, m4, v4, k4⟩ := rf_10_7 oR mx kx
  obtain ⟨kc', m5, v5, k5⟩ := rf_10_8 oR mx kx
  obtain rfl : kc = kc' := uq _ mk _ m5 (kk.trans k5.symm) (by rw [kk]; rfl)
  obtain ⟨kh, m6, v6, k6⟩ := rf_1_4 oR m5 k5
  obtain ⟨mc, m7, v7, k7⟩ := rf_11_22 oR mm km
  obtain ⟨mf, m8, v8, k8⟩ := rf_11_23 oR mm km
  obtain ⟨mh, m9, v9, k9⟩ := rf_11_24 oR mm km
  refine ⟨kx, km, th, tcl, tfl, la, kc, kh, mc, mf, mh, ⟨⟨m1, k1, v1⟩, ⟨m2, k2, v2⟩, ⟨m3, k3, v3⟩, ⟨m4, k4, v4⟩, ⟨m5, k5, v5⟩, ⟨m6, k6, v6⟩, ⟨m7, k7, v7⟩, ⟨m8, k8, v8⟩, ⟨m9, k9, v9⟩⟩, ⟨?_, ?_, ?_, ?_, ?_, ?_, ?_⟩, a, b, ⟨ma, ka, va⟩, ⟨mb, kb, vb⟩, hab⟩
  · exact (z0.1 th m1 2 (by rw [k1]; rfl)).trans (z0.1 mo mm 21 (by rw [km]; rfl)).symm
  · exact funext fun k => (z0.1 tcl m2 k (by rw [k2]; rfl)).trans (z0.1 mc m7 k (by rw [k7]; rfl)).symm
  · exact funext fun k => (z0.2 tfl m3 k).trans (z0.2 mf m8 k).symm
  · exact funext fun k => (z0.2 kh m6 k).trans (z0.2 mh m9 k).symm
  · exact (z0.2 la m4 0).trans (z0.2 mo mm 25).symm
  · exact (z0.1 la m4 3 (by rw [k4]; rfl)).trans (z0.1 mo mm 29 (by rw [km]; rfl)).symm
  · exact (z0.1 la m4 4 (by rw [k4]; rfl)).trans (z0.1 mo mm 30 (by rw [km]; rfl)).symm
theorem has8 {th : Nat} {x1 : Int32} {I : hI} {J : hJ} {R : hR} (h : 0 ≤ (I th 2).toInt) : F_X8_has th x1 I J R = if 0 ≤ x1.toInt ∧ x1.toInt < (I th 2).toInt then 1 else 0 := by
  simp only [F_X8_has, nm, isW, ite11, cI0]
  rw [sub1 (b := 0) h (by omega)]
  by_cases q : 0 ≤ x1.toInt ∧ x1.toInt < (I th 2).toInt
  · rw [if_pos q, if_pos (by omega)]
  · rw [if_neg q, if_neg (by omega)]
theorem in8 {x y : Int32} (h : 0 ≤ y.toInt) : F_X11_in x.toInt64 0 (y - 1).toInt64 = if 0 ≤ x.toInt ∧ x.toInt < y.toInt then 1 else 0 := by
  rw [inM, Int32.toInt_toInt64, Int32.toInt_toInt64, cJ0, sub1 (b := 0) h (by omega)]
  by_cases q : 0 ≤ x.toInt ∧ x.toInt < y.toInt
  · rw [if_pos q, if_pos (by omega)]
  · rw [if_neg q, if_neg (by omega)]
theorem mul3 {x y : Int32} : x * 3 + y = 3 * x + y := by rw [Int32.mul_comm]
