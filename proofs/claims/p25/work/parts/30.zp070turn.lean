theorem h_turn {L : List Nat} {C : Nat → Nat} {x mo : Nat} {I I1 I2 : hI} {J J1 J2 : hJ} {R R1 R2 : hR} (uq : Uq L C) (mx : x ∈ L) (kx : C x = 10) (mm : mo ∈ L) (km : C mo = 11) (oI : OkI L C I) (oR : OkR L C R) (ow0 : Ow L C R) (rel : RX L C x mo (I, J, R)) {x1 : Int32} {x2 : Int32} {x3 : Int64} {ra rb : Int32} (fa : F_X10_turn x x1 x2 x3 I J R = (ra, (I1, J1, R1))) (sa : Sm C ms_X10_turn (I, J, R) (I1, J1, R1)) (oI1 : OkI L C I1) (oR1 : OkR L C R1) (fb : F_X11_turn mo x1 x2 x3 I1 J1 R1 = (rb, (I2, J2, R2))) (sb : Sm C ms_X11_turn (I1, J1, R1) (I2, J2, R2)) (oI2 : OkI L C I2) (oR2 : OkR L C R2) : RX L C x mo (I2, J2, R2) ∧ ra = rb := by
  obtain ⟨rw0, rt0⟩ := rel
  have rw2 : RW L C x mo (I2, J2, R2) := RW.sm (RW.sm rw0 oI1 oR1 sa (by decide)) oI2 oR2 sb (by decide)
  obtain ⟨-, -, th, tcl, tfl, la, kc, kh, mc, mf, mh, c, e, a, b, ha, hb, hab⟩ := id rt0
  have c : CelT L C x mo R th tcl tfl la kc kh mc mf mh := c
  have e : EqT I J mo th tcl tfl la kh mc mf mh := e
  have c9 := c
  obtain ⟨c1, c2, c3, c4, c5, c6, c7, c8, c9'⟩ := c
  obtain ⟨e1, e2, e3, e4, e5, e6, e7⟩ := e
  obtain ⟨q1, q2⟩ := turnV uq mx kx mm km oI oR ow0 rw0.2.1.1 fa sa oI1 oR1 fb sb oI2 oR2 c4
  refine ⟨⟨rw2, RT.call kx km c9 ⟨e1, e2, e3, e4, e5, e6, e7⟩ (sa.app sb) (by decide) ?_ ?_ ?_ ?_ ?_⟩, q1⟩
  · exact (smJ (sa.app sb) c3.2.1 (by decide) (by decide)).trans (e3.trans (smJ (sa.app sb) c8.2.1 (by decide) (by decide)).symm)
  · have z1 : J2 la 0 = J1 la 0 := smOJ (k := 0) sb c4.2.1 (by decide)
    have z2 : J1 mo 25 = J mo 25 := smOJ (k := 25) sa km (by decide)
    rcases q2 with ⟨g1, g2⟩ | ⟨v, g1, g2⟩
    · rw [z1, g1, g2, z2, e5]
    · rw [z1, g1, g2]
  · exact (smO (k := 3) (sa.app sb) c4.2.1 (by decide)).trans (e6.trans (smO (k := 29) (sa.app sb) km (by decide)).symm)
  · exact (smO (k := 4) (sa.app sb) c4.2.1 (by decide)).trans (e7.trans (smO (k := 30) (sa.app sb) km (by decide)).symm)
  · exact ⟨a, b, ha.sm (sa.app sb) c5.2.1 (by decide), hb.sm (sa.app sb) c5.2.1 (by decide), hab⟩
