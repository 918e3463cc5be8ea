theorem g_work {L : List Nat} {C : Nat → Nat} {x mo : Nat} {I I1 I2 : hI} {J J1 J2 : hJ} {R R1 R2 : hR} (uq : Uq L C) (mx : x ∈ L) (kx : C x = 10) (mm : mo ∈ L) (km : C mo = 11) (oI : OkI L C I) (oR : OkR L C R) (ow0 : Ow L C R) (rel : RW L C x mo (I, J, R)) {x1 : Int32} {x2 : Int32} {x3 : Int32} {x4 : Int32} {x5 : Int32} {ra rb : Int32} (fa : F_X10_work x x1 x2 x3 x4 x5 I J R = (ra, (I1, J1, R1))) (sa : Sm C ms_X10_work (I, J, R) (I1, J1, R1)) (oI1 : OkI L C I1) (oR1 : OkR L C R1) (fb : F_X11_work mo x1 x2 x3 x4 x5 I1 J1 R1 = (rb, (I2, J2, R2))) (sb : Sm C ms_X11_work (I1, J1, R1) (I2, J2, R2)) (oI2 : OkI L C I2) (oR2 : OkR L C R2) : RW L C x mo (I2, J2, R2) ∧ ra = rb := by
  obtain ⟨-, relF, relK⟩ := rel
  have relF : RF L C x mo (I, J, R) := relF
  have relK : RK L C x mo (I, J, R) := relK
  obtain ⟨q1, q2⟩ := f_work uq mx kx mm km oI oR ow0 relF fa sa oI1 oR1 fb sb oI2 oR2
  refine ⟨⟨⟨uq, mx, mm, oI2, oR2⟩, q1, ?_⟩, q2⟩
  exact RK.sm uq mx mm oI oR relF relK oI2 oR2 q1 (sa.app sb) (by decide)
theorem g_times {L : List Nat} {C : Nat → Nat} {x mo : Nat} {I I1 I2 : hI} {J J1 J2 : hJ} {R R1 R2 : hR} (uq : Uq L C) (mx : x ∈ L) (kx : C x = 10) (mm : mo ∈ L) (km : C mo = 11) (oI : OkI L C I) (oR : OkR L C R) (ow0 : Ow L C R) (rel : RW L C x mo (I, J, R)) {x1 : Int32} {x2 : Int32} {x3 : Int32} {x4 : Int32} {ra rb : Int32} (fa : F_X10_times x x1 x2 x3 x4 I J R = (ra, (I1, J1, R1))) (sa : Sm C ms_X10_times (I, J, R) (I1, J1, R1)) (oI1 : OkI L C I1) (oR1 : OkR L C R1) (fb : F_X11_times mo x1 x2 x3 x4 I1 J1 R1 = (rb, (I2, J2, R2))) (sb : Sm C ms_X11_times (I1, J1, R1) (I2, J2, R2)) (oI2 : OkI L C I2) (oR2 : OkR L C R2) : RW L C x mo (I2, J2, R2) ∧ ra = rb := by
  obtain ⟨-, relF, relK⟩ := rel
  have relF : RF L C x mo (I, J, R) := relF
  have relK : RK L C x mo (I, J, R) := relK
  obtain ⟨q1, q2⟩ := f_times uq mx kx mm km oI oR ow0 relF fa sa oI1 oR1 fb sb oI2 oR2
  refine ⟨⟨⟨uq, mx, mm, oI2, oR2⟩, q1, ?_⟩, q2⟩
  exact RK.sm uq mx mm oI oR relF relK oI2 oR2 q1 (sa.app sb) (by decide)
