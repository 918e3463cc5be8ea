theorem mmeasP {L : List Nat} {C : Nat → Nat} {mo mf mt mc mi : Nat} {I : hI} {J : hJ} {R : hR} (oI : OkI L C I) (oR : OkR L C R) (mm : mo ∈ L) (km : C mo = 11) (d1 : At L C R mo 2 mf 64) (d2 : At L C R mo 3 mt 65) (d3 : At L C R mo 4 mc 66) (d6 : At L C R mo 7 mi 69) :
    ∃ I1 tc tm tr, At L C R mo 32 tc 85 ∧ At L C R mo 33 tm 86 ∧ At L C R mo 34 tr 87 ∧ F_X11_measure mo I J R = (I1, J, R) ∧ (∀ c, C c ≠ 85 → C c ≠ 86 → C c ≠ 87 → C c ≠ 88 → C c ≠ 89 → I1 c = I c) ∧ ∀ a, a < 7 → TbM I1 tc tm tr a (sr I mf) (sr I mt) (cs I mc) (pm I mo mi) := by
  obtain ⟨tc, m1, v1, k1⟩ := rf_11_32 oR mm km
  obtain ⟨tm, m2, v2, k2⟩ := rf_11_33 oR mm km
  obtain ⟨tr, m3, v3, k3⟩ := rf_11_34 oR mm km
  obtain ⟨sc, m4, v4, k4⟩ := rf_11_35 oR mm km
  obtain ⟨sR, m5, v5, k5⟩ := rf_11_36 oR mm km
  have f := d1.2.1
  have t := d2.2.1
  have c := d3.2.1
  have i := d6.2.1
  have hdg : ∀ q, q < 294 → 0 ≤ (I sR q).toInt ∧ (I sR q).toInt < 32 := fun q hq => by
    have := oI sR m5 q (by rw [k5]; exact hq)
    rw [k5] at this
    exact ⟨this.1, Int.lt_of_le_of_lt this.2.1 (by show (31 : Int) < 32; decide)⟩
  obtain ⟨I1, e1, e2, e3⟩ := mmeas_l (J := J) (I0 := I) v1 v2 v3 v4 v5 d1.2.2 d2.2.2 d3.2.2 d6.2.2 (ne_role km k4 (by decide)) (ne_role km k5 (by decide)) (ne_role f k4 (by decide)) (ne_role f k5 (by decide)) (ne_role t k4 (by decide)) (ne_role t k5 (by decide)) (ne_role c k4 (by decide)) (ne_role c k5 (by decide)) (ne_role i k4 (by decide)) (ne_role i k5 (by decide)) (ne_role k4 k5 (by decide)) (ne_role k5 k3 (by decide)) (ne_role k5 k1 (by decide)) (ne_role k5 k2 (by decide)) (ne_role k3 k1 (by decide)) (ne_role k3 k2 (by decide)) (ne_role k1 k2 (by decide)) (ne_role k4 k1 (by decide)) (ne_role k4 k2 (by decide)) (ne_role k4 k3 (by decide))
    (ne_role km k1 (by decide)) (ne_role km k2 (by decide)) (ne_role km k3 (by decide)) (ne_role f k1 (by decide)) (ne_role f k2 (by decide)) (ne_role f k3 (by decide)) (ne_role t k1 (by decide)) (ne_role t k2 (by decide)) (ne_role t k3 (by decide)) (ne_role c k1 (by decide)) (ne_role c k2 (by decide)) (ne_role c k3 (by decide)) (ne_role i k1 (by decide)) (ne_role i k2 (by decide)) (ne_role i k3 (by decide)) (RlOM oI ⟨mm, km⟩ ⟨d1.1, f⟩ ⟨d2.1, t⟩ ⟨d3.1, c⟩) 8 0 0 I (by decide) (by omega) (by omega) (fun _ _ _ _ _ _ => rfl) hdg (fun a ha => by omega)
  exact ⟨I1, tc, tm, tr, ⟨m1, k1, v1⟩, ⟨m2, k2, v2⟩, ⟨m3, k3, v3⟩, e1, fun c h1 h2 h3 h4 h5 => e2 c (fun e => h4 (by rw [e, k4])) (fun e => h5 (by rw [e, k5])) (fun e => h1 (by rw [e, k1])) (fun e => h2 (by rw [e, k2])) (fun e => h3 (by rw [e, k3])), e3⟩
