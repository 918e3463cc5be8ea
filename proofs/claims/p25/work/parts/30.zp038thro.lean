section THR
variable {L : List Nat} {C : Nat → Nat} {x mo : Nat} {I I1 K : hI} {J J1 : hJ} {R R1 : hR} {fi t p sh ru w al pa co ct : Nat}
theorem thr0 {x1 x2 x3 x4 y3 y4 x5 x6 : Int32} {f : Nat} {Kc : hI} (h : x5 = 0) : F_X11_through_116 mo x1 x2 x3 x4 y3 y4 (f + 1) Kc J R x5 x6 = (-6, (Kc, J, R)) := by
  rw [F_X11_through_116_s]
  unfold B_X11_through_116
  show (if x6 < 0 then (if x5 = 0 then ((-6 : Int32), (Kc, J, R)) else _) else (if x5 = 0 then (if x5 = 0 then ((-6 : Int32), (Kc, J, R)) else default) else _)) = _
  by_cases q : x6 < 0
  · rw [if_pos q, if_pos h]
  · rw [if_neg q, if_pos h, if_pos h]
end THR
