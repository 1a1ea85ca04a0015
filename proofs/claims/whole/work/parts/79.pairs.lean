/-! ===== case by case: class and reference answer alike ===== -/
theorem pr_person {l : Launch} (hlt : l.stackTraces = false) {E : gp_E} {cJ : ClassId} {aM : Nat → Nat} {oa n : Nat} {xs : Nat → Int32} {I : Nat → Int32} {F : Nat → Nat → Int32} {J : Nat → Int32} {G : Nat → Nat → Int32} {g : Nat → Int64} (h : gr_Rel I F J G) : ∃ (k b9 : Int32) (I2 : Nat → Int32) (F2 : Nat → Nat → Int32) (J2 : Nat → Int32) (G2 : Nat → Nat → Int32) (g2 : Nat → Int64) (kM : Nat), kM ≤ 30 ∧ gr_Rel I2 F2 J2 G2 ∧ J2 0 = k ∧ (k = 0 → g2 0 = b9.toInt64) ∧ gl_CH l y_L_person b_L_person 4 [(0, 9, 12, 13), (0, 9, 15, 15)] E cJ (gl_o cJ oa g :: gp_wG E I F) (gl_o cJ oa g2 :: gp_wG E I2 F2) [.ref (E.2.2.2 0), .int (xs (n + 1)), .ref oa] k ∧ gp_CW l y_M_person b_M_person 2 (some .int) kM (gq_M E aM) (gp_wM (gq_M E aM) J G) (gp_wM (gq_M E aM) J2 G2) [.ref (aM 0), .int (xs (n + 1))] (some (.int b9)) := by
  obtain ⟨np, nt, ns, nc, b, e, lim, h⟩ := h
  generalize xs (n + 1) = x
  have h4 := h.T.np4
  by_cases c1 : ¬ x < 0 ∧ x < 256
  · have w := (gr_w (x := x) (a := 256) (c := 255) (by decide)).mpr c1
    by_cases c2 : np < 4
    · exact ⟨0, nI np, _, _, _, _, _, 2, by omega, ⟨np + 1, nt, ns, nc, b, e, lim, gr_person h c2 x⟩, rfl, fun _ => rfl, hN_person l E I F cJ oa g x 2 (by omega) _ _ _ (c_G_person l E I F np x h.i4 c2 c1.1 c1.2), c_M_personN l (gq_M E aM) J G np x h.j1 c2 w⟩
    · have e4 : np = 4 := by omega
      have i4 := h.i4
      have j1 := h.j1
      rw [e4] at i4 j1
      exact ⟨2, 0, I, F, upd J 0 2, G, g, 2, by omega, ⟨np, nt, ns, nc, b, e, lim, gr_j0 h 2⟩, rfl, fun z => absurd z (by decide), hX2_person l E I F cJ oa g x 6 (by omega) (x_G_person2 l E I F x hlt i4 c1.1 c1.2), c_M_personE2 l (gq_M E aM) J G x j1 w⟩
  · have w := gr_false (gr_w (x := x) (a := 256) (c := 255) (by decide)) c1
    exact ⟨1, 0, I, F, upd J 0 1, G, g, 2, by omega, ⟨np, nt, ns, nc, b, e, lim, gr_j0 h 1⟩, rfl, fun z => absurd z (by decide), hX1_person l E I F cJ oa g x 6 (by omega) (x_G_person1 l E I F x hlt c1), c_M_personE1 l (gq_M E aM) J G np x h.j1 h4 w⟩
theorem pr_off {l : Launch} (hlt : l.stackTraces = false) {E : gp_E} {cJ : ClassId} {aM : Nat → Nat} {oa n : Nat} {xs : Nat → Int32} {I : Nat → Int32} {F : Nat → Nat → Int32} {J : Nat → Int32} {G : Nat → Nat → Int32} {g : Nat → Int64} (h : gr_Rel I F J G) : ∃ (k b9 : Int32) (I2 : Nat → Int32) (F2 : Nat → Nat → Int32) (J2 : Nat → Int32) (G2 : Nat → Nat → Int32) (g2 : Nat → Int64) (kM : Nat), kM ≤ 30 ∧ gr_Rel I2 F2 J2 G2 ∧ J2 0 = k ∧ (k = 0 → g2 0 = b9.toInt64) ∧ gl_CH l y_L_off b_L_off 6 [(0, 12, 15, 21), (0, 12, 19, 13), (0, 12, 23, 15)] E cJ (gl_o cJ oa g :: gp_wG E I F) (gl_o cJ oa g2 :: gp_wG E I2 F2) [.ref (E.2.2.2 0), .int (xs (n + 1)), .int (xs (n + 2)), .int (xs (n + 3)), .ref oa] k ∧ gp_CW l y_M_off b_M_off 4 (some .int) kM (gq_M E aM) (gp_wM (gq_M E aM) J G) (gp_wM (gq_M E aM) J2 G2) [.ref (aM 0), .int (xs (n + 1)), .int (xs (n + 2)), .int (xs (n + 3))] (some (.int b9)) := by
  obtain ⟨np, nt, ns, nc, b, e, lim, h⟩ := h
  generalize xs (n + 1) = x
  generalize xs (n + 2) = y
  generalize xs (n + 3) = z
  have hs := h.s20
  by_cases c1 : gp_in x (nI np) = true
  · have i1 : gp_in x (I 4) = true := by rw [h.i4]; exact c1
    have j1 : gp_in x (J 1) = true := by rw [h.j1]; exact c1
    by_cases c2 : ¬ y < 0 ∧ ¬ z ≤ y ∧ z ≤ 96
    · have w := gr_sp.mpr c2
      by_cases c3 : ns < 20
      · exact ⟨0, nI (ns + 1), _, _, _, _, _, 2, by omega, ⟨np, nt, ns + 1, nc, b, e, lim, gr_off h c3 x y z⟩, rfl, fun _ => rfl, hN_off l E I F cJ oa g x y z 3 (by omega) _ _ _ (c_G_off l E I F ns x y z i1 h.i5 c3 c2.1 c2.2.1 c2.2.2), c_M_offN l (gq_M E aM) J G ns x y z j1 w h.j2 c3⟩
      · have e4 : ns = 20 := by omega
        have i5 := h.i5
        have j2 := h.j2
        rw [e4] at i5 j2
        exact ⟨3, 0, I, F, upd J 0 3, G, g, 2, by omega, ⟨np, nt, ns, nc, b, e, lim, gr_j0 h 3⟩, rfl, fun z => absurd z (by decide), hX3_off l E I F cJ oa g x y z 7 (by omega) (x_G_off3 l E I F x y z hlt i1 c2.1 c2.2.1 c2.2.2 i5), c_M_offE3 l (gq_M E aM) J G x y z j1 w j2⟩
    · have w := gr_false gr_sp c2
      exact ⟨2, 0, I, F, upd J 0 2, G, g, 2, by omega, ⟨np, nt, ns, nc, b, e, lim, gr_j0 h 2⟩, rfl, fun z => absurd z (by decide), hX2_off l E I F cJ oa g x y z 7 (by omega) (x_G_off2 l E I F x y z hlt i1 c2), c_M_offE2 l (gq_M E aM) J G ns x y z j1 w h.j2 hs⟩
  · have i1 : gp_in x (I 4) = false := by rw [h.i4]; exact (Bool.not_eq_true _).mp c1
    have j1 : gp_in x (J 1) = false := by rw [h.j1]; exact (Bool.not_eq_true _).mp c1
    exact ⟨1, 0, I, F, upd J 0 1, G, g, 2, by omega, ⟨np, nt, ns, nc, b, e, lim, gr_j0 h 1⟩, rfl, fun z => absurd z (by decide), hX1_off l E I F cJ oa g x y z 7 (by omega) (x_G_off1 l E I F x y z hlt i1), c_M_offE1 l (gq_M E aM) J G ns x y z j1 h.j2 hs⟩
theorem pr_task {l : Launch} (hlt : l.stackTraces = false) {E : gp_E} {cJ : ClassId} {aM : Nat → Nat} {oa n : Nat} {xs : Nat → Int32} {I : Nat → Int32} {F : Nat → Nat → Int32} {J : Nat → Int32} {G : Nat → Nat → Int32} {g : Nat → Int64} (h : gr_Rel I F J G) : ∃ (k b9 : Int32) (I2 : Nat → Int32) (F2 : Nat → Nat → Int32) (J2 : Nat → Int32) (G2 : Nat → Nat → Int32) (g2 : Nat → Int64) (kM : Nat), kM ≤ 30 ∧ gr_Rel I2 F2 J2 G2 ∧ J2 0 = k ∧ (k = 0 → g2 0 = b9.toInt64) ∧ gl_CH l y_L_task b_L_task 7 [(0, 14, 17, 21), (0, 14, 21, 13), (0, 14, 25, 15)] E cJ (gl_o cJ oa g :: gp_wG E I F) (gl_o cJ oa g2 :: gp_wG E I2 F2) [.ref (E.2.2.2 0), .int (xs (n + 1)), .int (xs (n + 2)), .int (xs (n + 3)), .int (if xs (n + 4) = 0 then 0 else 1), .ref oa] k ∧ gp_CW l y_M_task b_M_task 5 (some .int) kM (gq_M E aM) (gp_wM (gq_M E aM) J G) (gp_wM (gq_M E aM) J2 G2) [.ref (aM 0), .int (xs (n + 1)), .int (xs (n + 2)), .int (xs (n + 3)), .int (if xs (n + 4) = 0 then 0 else 1)] (some (.int b9)) := by
  obtain ⟨np, nt, ns, nc, b, e, lim, h⟩ := h
  have hv : vp_nar .boolean (if xs (n + 4) = 0 then (0 : Int32) else 1) = (if xs (n + 4) = 0 then (0 : Int32) else 1) := by
    by_cases c : xs (n + 4) = 0
    · rw [if_pos c]; decide +kernel
    · rw [if_neg c]; decide +kernel
  revert hv
  generalize (if xs (n + 4) = 0 then (0 : Int32) else 1) = v
  intro hv
  generalize xs (n + 1) = x
  generalize xs (n + 2) = y
  generalize xs (n + 3) = z
  have h6 := h.T.nt6
  by_cases c1 : ¬ x < 0 ∧ x < 8
  · have w1 := (gr_w (x := x) (a := 8) (c := 7) (by decide)).mpr c1
    by_cases c2 : ¬ y < 0 ∧ ¬ z ≤ y ∧ z ≤ 96
    · have w := gr_sp.mpr c2
      obtain ⟨y1, z1, hy, hz, hyz, hz9⟩ := gr_span c2.1 c2.2.1 c2.2.2
      by_cases c3 : nt < 6
      · exact ⟨0, nI nt, _, _, _, _, _, 2, by omega, ⟨np, nt + 1, ns, nc, _, _, lim, gr_task h c3 x y z v y1 z1 hy hz hyz hz9⟩, rfl, fun _ => rfl, hN_task l E I F cJ oa g x y z v 3 (by omega) _ _ _ (c_G_task l E I F nt x y z v h.i6 c3 c1.1 c1.2 c2.1 c2.2.1 c2.2.2 hv), c_M_taskN l (gq_M E aM) J G nt x y z v w1 w h.j3 c3 hv⟩
      · have e4 : nt = 6 := by omega
        have i6 := h.i6
        have j3 := h.j3
        rw [e4] at i6 j3
        exact ⟨3, 0, I, F, upd J 0 3, G, g, 2, by omega, ⟨np, nt, ns, nc, b, e, lim, gr_j0 h 3⟩, rfl, fun z => absurd z (by decide), hX3_task l E I F cJ oa g x y z v 7 (by omega) (x_G_task3 l E I F x y z v hlt c1.1 c1.2 c2.1 c2.2.1 c2.2.2 i6), c_M_taskE3 l (gq_M E aM) J G x y z v w1 w j3⟩
    · have w := gr_false gr_sp c2
      exact ⟨2, 0, I, F, upd J 0 2, G, g, 2, by omega, ⟨np, nt, ns, nc, b, e, lim, gr_j0 h 2⟩, rfl, fun z => absurd z (by decide), hX2_task l E I F cJ oa g x y z v 7 (by omega) (x_G_task2 l E I F x y z v hlt c1.1 c1.2 c2), c_M_taskE2 l (gq_M E aM) J G nt x y z v w1 w h.j3 h6⟩
  · have w1 := gr_false (gr_w (x := x) (a := 8) (c := 7) (by decide)) c1
    exact ⟨1, 0, I, F, upd J 0 1, G, g, 2, by omega, ⟨np, nt, ns, nc, b, e, lim, gr_j0 h 1⟩, rfl, fun z => absurd z (by decide), hX1_task l E I F cJ oa g x y z v 6 (by omega) (x_G_task1 l E I F x y z v hlt c1), c_M_taskE1 l (gq_M E aM) J G nt x y z v w1 h.j3 h6⟩
theorem pr_rest {l : Launch} (hlt : l.stackTraces = false) {E : gp_E} {cJ : ClassId} {aM : Nat → Nat} {oa n : Nat} {xs : Nat → Int32} {I : Nat → Int32} {F : Nat → Nat → Int32} {J : Nat → Int32} {G : Nat → Nat → Int32} {g : Nat → Int64} (h : gr_Rel I F J G) : ∃ (k b9 : Int32) (I2 : Nat → Int32) (F2 : Nat → Nat → Int32) (J2 : Nat → Int32) (G2 : Nat → Nat → Int32) (g2 : Nat → Int64) (kM : Nat), kM ≤ 30 ∧ gr_Rel I2 F2 J2 G2 ∧ J2 0 = k ∧ (k = 0 → g2 0 = b9.toInt64) ∧ gl_CH l y_L_rest b_L_rest 4 [(0, 9, 12, 13)] E cJ (gl_o cJ oa g :: gp_wG E I F) (gl_o cJ oa g2 :: gp_wG E I2 F2) [.ref (E.2.2.2 0), .int (xs (n + 1)), .ref oa] k ∧ gp_CW l y_M_rest b_M_rest 3 (some .int) kM (gq_M E aM) (gp_wM (gq_M E aM) J G) (gp_wM (gq_M E aM) J2 G2) [.ref (aM 0), .int (xs (n + 1))] (some (.int b9)) := by
  obtain ⟨np, nt, ns, nc, b, e, lim, h⟩ := h
  generalize xs (n + 1) = x
  by_cases c1 : ¬ x < 0 ∧ x ≤ 96
  · have w := (gr_w2 (x := x) (c := 96)).mpr c1
    exact ⟨0, J 5, _, _, _, _, _, 2, by omega, ⟨np, nt, ns, nc, b, e, lim, gr_rest h x⟩, rfl, fun _ => congrArg Int32.toInt64 (h.T.rs), hN_rest l E I F cJ oa g x 2 (by omega) _ _ _ (c_G_rest l E I F x c1.1 c1.2), c_M_restN l (gq_M E aM) J G x w⟩
  · have w := gr_false (gr_w2 (x := x) (c := 96)) c1
    exact ⟨1, 0, I, F, upd J 0 1, G, g, 2, by omega, ⟨np, nt, ns, nc, b, e, lim, gr_j0 h 1⟩, rfl, fun z => absurd z (by decide), hX1_rest l E I F cJ oa g x 7 (by omega) (x_G_rest l E I F x hlt c1), c_M_restE1 l (gq_M E aM) J G x w⟩
theorem pr_limit {l : Launch} (hlt : l.stackTraces = false) {E : gp_E} {cJ : ClassId} {aM : Nat → Nat} {oa n : Nat} {xs : Nat → Int32} {I : Nat → Int32} {F : Nat → Nat → Int32} {J : Nat → Int32} {G : Nat → Nat → Int32} {g : Nat → Int64} (h : gr_Rel I F J G) : ∃ (k b9 : Int32) (I2 : Nat → Int32) (F2 : Nat → Nat → Int32) (J2 : Nat → Int32) (G2 : Nat → Nat → Int32) (g2 : Nat → Int64) (kM : Nat), kM ≤ 30 ∧ gr_Rel I2 F2 J2 G2 ∧ J2 0 = k ∧ (k = 0 → g2 0 = b9.toInt64) ∧ gl_CH l y_L_limit b_L_limit 4 [(0, 9, 12, 13)] E cJ (gl_o cJ oa g :: gp_wG E I F) (gl_o cJ oa g2 :: gp_wG E I2 F2) [.ref (E.2.2.2 0), .int (xs (n + 1)), .ref oa] k ∧ gp_CW l y_M_limit b_M_limit 3 (some .int) kM (gq_M E aM) (gp_wM (gq_M E aM) J G) (gp_wM (gq_M E aM) J2 G2) [.ref (aM 0), .int (xs (n + 1))] (some (.int b9)) := by
  obtain ⟨np, nt, ns, nc, b, e, lim, h⟩ := h
  generalize xs (n + 1) = x
  by_cases c1 : ¬ x < 0 ∧ x ≤ 96
  · have w := (gr_w2 (x := x) (c := 96)).mpr c1
    obtain ⟨l1, hl1, hx1⟩ := nI_of2 (M := 96) (n := 96) (by decide) c1.1 c1.2
    exact ⟨0, J 6, _, _, _, _, _, 2, by omega, ⟨np, nt, ns, nc, b, e, l1, gr_limit h x l1 hx1 hl1⟩, rfl, fun _ => congrArg Int32.toInt64 (h.T.li), hN_limit l E I F cJ oa g x 2 (by omega) _ _ _ (c_G_limit l E I F x c1.1 c1.2), c_M_limitN l (gq_M E aM) J G x w⟩
  · have w := gr_false (gr_w2 (x := x) (c := 96)) c1
    exact ⟨1, 0, I, F, upd J 0 1, G, g, 2, by omega, ⟨np, nt, ns, nc, b, e, lim, gr_j0 h 1⟩, rfl, fun z => absurd z (by decide), hX1_limit l E I F cJ oa g x 7 (by omega) (x_G_limit l E I F x hlt c1), c_M_limitE1 l (gq_M E aM) J G x w⟩
theorem pr_freeze {l : Launch} (hlt : l.stackTraces = false) {E : gp_E} {cJ : ClassId} {aM : Nat → Nat} {oa n : Nat} {xs : Nat → Int32} {I : Nat → Int32} {F : Nat → Nat → Int32} {J : Nat → Int32} {G : Nat → Nat → Int32} {g : Nat → Int64} (h : gr_Rel I F J G) : ∃ (k b9 : Int32) (I2 : Nat → Int32) (F2 : Nat → Nat → Int32) (J2 : Nat → Int32) (G2 : Nat → Nat → Int32) (g2 : Nat → Int64) (kM : Nat), kM ≤ 30 ∧ gr_Rel I2 F2 J2 G2 ∧ J2 0 = k ∧ (k = 0 → g2 0 = b9.toInt64) ∧ gl_CH l y_L_freeze b_L_freeze 4 [(0, 9, 12, 13)] E cJ (gl_o cJ oa g :: gp_wG E I F) (gl_o cJ oa g2 :: gp_wG E I2 F2) [.ref (E.2.2.2 0), .int (xs (n + 1)), .ref oa] k ∧ gp_CW l y_M_freeze b_M_freeze 3 (some .int) kM (gq_M E aM) (gp_wM (gq_M E aM) J G) (gp_wM (gq_M E aM) J2 G2) [.ref (aM 0), .int (xs (n + 1))] (some (.int b9)) := by
  obtain ⟨np, nt, ns, nc, b, e, lim, h⟩ := h
  generalize xs (n + 1) = x
  by_cases c1 : ¬ x < 0 ∧ x ≤ 96
  · have w := (gr_w2 (x := x) (c := 96)).mpr c1
    exact ⟨0, J 7, _, _, _, _, _, 2, by omega, ⟨np, nt, ns, nc, b, e, lim, gr_freeze h x⟩, rfl, fun _ => congrArg Int32.toInt64 (h.fz), hN_freeze l E I F cJ oa g x 2 (by omega) _ _ _ (c_G_freeze l E I F x c1.1 c1.2), c_M_freezeN l (gq_M E aM) J G x w⟩
  · have w := gr_false (gr_w2 (x := x) (c := 96)) c1
    exact ⟨1, 0, I, F, upd J 0 1, G, g, 2, by omega, ⟨np, nt, ns, nc, b, e, lim, gr_j0 h 1⟩, rfl, fun z => absurd z (by decide), hX1_freeze l E I F cJ oa g x 7 (by omega) (x_G_freeze l E I F x hlt c1), c_M_freezeE1 l (gq_M E aM) J G x w⟩
theorem pr_of {l : Launch} (hlt : l.stackTraces = false) {E : gp_E} {cJ : ClassId} {aM : Nat → Nat} {oa n : Nat} {xs : Nat → Int32} {I : Nat → Int32} {F : Nat → Nat → Int32} {J : Nat → Int32} {G : Nat → Nat → Int32} {g : Nat → Int64} (h : gr_Rel I F J G) : ∃ (k b9 : Int32) (I2 : Nat → Int32) (F2 : Nat → Nat → Int32) (J2 : Nat → Int32) (G2 : Nat → Nat → Int32) (g2 : Nat → Int64) (kM : Nat), kM ≤ 30 ∧ gr_Rel I2 F2 J2 G2 ∧ J2 0 = k ∧ (k = 0 → g2 0 = b9.toInt64) ∧ gl_CH l y_L_of b_L_of 4 [(0, 9, 12, 21)] E cJ (gl_o cJ oa g :: gp_wG E I F) (gl_o cJ oa g2 :: gp_wG E I2 F2) [.ref (E.2.2.2 0), .int (xs (n + 1)), .ref oa] k ∧ gp_CW l y_M_of b_M_of 2 (some .int) kM (gq_M E aM) (gp_wM (gq_M E aM) J G) (gp_wM (gq_M E aM) J2 G2) [.ref (aM 0), .int (xs (n + 1))] (some (.int b9)) := by
  obtain ⟨np, nt, ns, nc, b, e, lim, h⟩ := h
  generalize xs (n + 1) = x
  have h6 := h.T.nt6
  by_cases c1 : gp_in x (nI nt) = true
  · obtain ⟨t, ht, rfl⟩ := (gr_in (by omega)).mp c1
    exact ⟨0, G 8 t, I, F, _, _, _, 2, by omega, ⟨np, nt, ns, nc, b, e, lim, gr_j0 h 0⟩, rfl, fun _ => congrArg Int32.toInt64 (h.T.pl t ht), hN_of l E I F cJ oa g (nI t) 3 (by omega) _ _ _ (gp_RW (c_G_of l E I F nt t h.i6 h6 ht)), c_M_ofN l (gq_M E aM) J G nt t h.j3 h6 ht⟩
  · have i1 : gp_in x (I 6) = false := by rw [h.i6]; exact (Bool.not_eq_true _).mp c1
    have j1 : gp_in x (J 3) = false := by rw [h.j3]; exact (Bool.not_eq_true _).mp c1
    exact ⟨1, 0, I, F, upd J 0 1, G, g, 2, by omega, ⟨np, nt, ns, nc, b, e, lim, gr_j0 h 1⟩, rfl, fun z => absurd z (by decide), hX1_of l E I F cJ oa g x 7 (by omega) (x_G_of l E I F x hlt i1), c_M_ofE1 l (gq_M E aM) J G x j1⟩
theorem pr_cost {l : Launch} (hlt : l.stackTraces = false) {E : gp_E} {cJ : ClassId} {aM : Nat → Nat} {oa n : Nat} {xs : Nat → Int32} {I : Nat → Int32} {F : Nat → Nat → Int32} {J : Nat → Int32} {G : Nat → Nat → Int32} {g : Nat → Int64} (h : gr_Rel I F J G) : ∃ (k b9 : Int32) (I2 : Nat → Int32) (F2 : Nat → Nat → Int32) (J2 : Nat → Int32) (G2 : Nat → Nat → Int32) (g2 : Nat → Int64) (kM : Nat), kM ≤ 30 ∧ gr_Rel I2 F2 J2 G2 ∧ J2 0 = k ∧ (k = 0 → g2 0 = b9.toInt64) ∧ gl_CH l y_L_cost b_L_cost 3 [(0, 8, 11, 15)] E cJ (gl_o cJ oa g :: gp_wG E I F) (gl_o cJ oa g2 :: gp_wG E I2 F2) [.ref (E.2.2.2 0), .ref oa] k ∧ gp_CW l y_M_cost b_M_cost 1 (some .int) kM (gq_M E aM) (gp_wM (gq_M E aM) J G) (gp_wM (gq_M E aM) J2 G2) [.ref (aM 0)] (some (.int b9)) := by
  obtain ⟨np, nt, ns, nc, b, e, lim, h⟩ := h
  have h4 := h.T.np4
  have h6 := h.T.nt6
  rcases h.p01 with c1 | c1
  · have i3 : I 3 = 0 := h.pn.trans c1
    exact ⟨1, 0, I, F, upd J 0 1, G, g, 2, by omega, ⟨np, nt, ns, nc, b, e, lim, gr_j0 h 1⟩, rfl, fun z => absurd z (by decide), hX1_cost l E I F cJ oa g  7 (by omega) (x_G_cost l E I F hlt i3), c_M_costE1 l (gq_M E aM) J G c1⟩
  · have i3 : ¬ I 3 = 0 := by rw [h.pn, c1]; decide
    exact ⟨0, _, I, F, _, _, _, 2, by omega, ⟨np, nt, ns, nc, b, e, lim, gr_u9 h 0 _⟩, rfl, fun _ => congrArg Int32.toInt64 (gr_cost h), hN_cost l E I F cJ oa g 3 (by omega) _ _ _ (gp_RW (c_G_cost l E I F np nt i3 h.i4 h4 h.i6 h6)), c_M_costN l (gq_M E aM) J G np nt h.j1 h4 h.j3 h6 c1⟩
theorem pr_changed {l : Launch} (hlt : l.stackTraces = false) {E : gp_E} {cJ : ClassId} {aM : Nat → Nat} {oa n : Nat} {xs : Nat → Int32} {I : Nat → Int32} {F : Nat → Nat → Int32} {J : Nat → Int32} {G : Nat → Nat → Int32} {g : Nat → Int64} (h : gr_Rel I F J G) : ∃ (k b9 : Int32) (I2 : Nat → Int32) (F2 : Nat → Nat → Int32) (J2 : Nat → Int32) (G2 : Nat → Nat → Int32) (g2 : Nat → Int64) (kM : Nat), kM ≤ 30 ∧ gr_Rel I2 F2 J2 G2 ∧ J2 0 = k ∧ (k = 0 → g2 0 = b9.toInt64) ∧ gl_CH l y_L_changed b_L_changed 4 [(0, 9, 12, 21)] E cJ (gl_o cJ oa g :: gp_wG E I F) (gl_o cJ oa g2 :: gp_wG E I2 F2) [.ref (E.2.2.2 0), .int (xs (n + 1)), .ref oa] k ∧ gp_CW l y_M_changed b_M_changed 2 (some .int) kM (gq_M E aM) (gp_wM (gq_M E aM) J G) (gp_wM (gq_M E aM) J2 G2) [.ref (aM 0), .int (xs (n + 1))] (some (.int b9)) := by
  obtain ⟨np, nt, ns, nc, b, e, lim, h⟩ := h
  generalize xs (n + 1) = x
  have h6 := h.nc6
  by_cases c1 : gp_in x (nI nc) = true
  · obtain ⟨t, ht, rfl⟩ := (gr_in (by omega)).mp c1
    exact ⟨0, G 12 t, I, F, _, _, _, 2, by omega, ⟨np, nt, ns, nc, b, e, lim, gr_j0 h 0⟩, rfl, fun _ => congrArg Int32.toInt64 (h.cd t ht), hN_changed l E I F cJ oa g (nI t) 1 (by omega) _ _ _ (gp_RW (c_G_changed l E I F nc t h.i0 h6 ht)), c_M_changedN l (gq_M E aM) J G nc t h.j9 h6 ht⟩
  · have i1 : ¬ (¬ x < 0 ∧ x < nI nc) := fun ⟨z1, z2⟩ => c1 (by
      have z3 : ¬ nI nc ≤ x := Int32.not_le.mpr z2
      simp [gp_in, z1, z3])
    have i2 : ¬ (¬ x < 0 ∧ x < I 0) := by rw [h.i0]; exact i1
    have j2 : ¬ (¬ x < 0 ∧ x < J 9) := by rw [h.j9]; exact i1
    exact ⟨1, 0, I, F, upd J 0 1, G, g, 2, by omega, ⟨np, nt, ns, nc, b, e, lim, gr_j0 h 1⟩, rfl, fun z => absurd z (by decide), hX1_changed l E I F cJ oa g x 6 (by omega) (x_G_changed l E I F x hlt i2), c_M_changedE1 l (gq_M E aM) J G x j2⟩
theorem pr_work {l : Launch} (hlt : l.stackTraces = false) {E : gp_E} {cJ : ClassId} {aM : Nat → Nat} {oa n : Nat} {xs : Nat → Int32} {I : Nat → Int32} {F : Nat → Nat → Int32} {J : Nat → Int32} {G : Nat → Nat → Int32} {g : Nat → Int64} (h : gr_Rel I F J G) : ∃ (k b9 : Int32) (I2 : Nat → Int32) (F2 : Nat → Nat → Int32) (J2 : Nat → Int32) (G2 : Nat → Nat → Int32) (g2 : Nat → Int64) (kM : Nat), kM ≤ 30 ∧ gr_Rel I2 F2 J2 G2 ∧ J2 0 = k ∧ (k = 0 → g2 0 = b9.toInt64) ∧ gl_CH l y_L_work b_L_work 4 [(0, 9, 12, 21)] E cJ (gl_o cJ oa g :: gp_wG E I F) (gl_o cJ oa g2 :: gp_wG E I2 F2) [.ref (E.2.2.2 0), .int (xs (n + 1)), .ref oa] k ∧ gp_CW l y_M_work b_M_work 2 (some .int) kM (gq_M E aM) (gp_wM (gq_M E aM) J G) (gp_wM (gq_M E aM) J2 G2) [.ref (aM 0), .int (xs (n + 1))] (some (.int b9)) := by
  obtain ⟨np, nt, ns, nc, b, e, lim, h⟩ := h
  generalize xs (n + 1) = x
  have h6 := h.T.nt6
  by_cases c1 : gp_in x (nI np) = true
  · have i1 : gp_in x (I 4) = true := by rw [h.i4]; exact c1
    have j1 : gp_in x (J 1) = true := by rw [h.j1]; exact c1
    exact ⟨0, _, I, F, _, _, _, 2, by omega, ⟨np, nt, ns, nc, b, e, lim, gr_u9 h 0 _⟩, rfl, fun _ => congrArg Int32.toInt64 (gr_work h x), hN_work l E I F cJ oa g x 4 (by omega) _ _ _ (gp_RW (c_G_work l E I F nt x i1 h.i6 h6)), c_M_workN l (gq_M E aM) J G nt x j1 h.j3 h6⟩
  · have i1 : gp_in x (I 4) = false := by rw [h.i4]; exact (Bool.not_eq_true _).mp c1
    have j1 : gp_in x (J 1) = false := by rw [h.j1]; exact (Bool.not_eq_true _).mp c1
    exact ⟨1, 0, I, F, upd J 0 1, G, g, 2, by omega, ⟨np, nt, ns, nc, b, e, lim, gr_j0 h 1⟩, rfl, fun z => absurd z (by decide), hX1_work l E I F cJ oa g x 7 (by omega) (x_G_work l E I F x hlt i1), c_M_workE1 l (gq_M E aM) J G x j1⟩
theorem pr_count {l : Launch} (hlt : l.stackTraces = false) {E : gp_E} {cJ : ClassId} {aM : Nat → Nat} {oa n : Nat} {xs : Nat → Int32} {I : Nat → Int32} {F : Nat → Nat → Int32} {J : Nat → Int32} {G : Nat → Nat → Int32} {g : Nat → Int64} (h : gr_Rel I F J G) : ∃ (k b9 : Int32) (I2 : Nat → Int32) (F2 : Nat → Nat → Int32) (J2 : Nat → Int32) (G2 : Nat → Nat → Int32) (g2 : Nat → Int64) (kM : Nat), kM ≤ 30 ∧ gr_Rel I2 F2 J2 G2 ∧ J2 0 = k ∧ (k = 0 → g2 0 = b9.toInt64) ∧ gl_CH l y_L_count b_L_count 4 [(0, 9, 12, 21)] E cJ (gl_o cJ oa g :: gp_wG E I F) (gl_o cJ oa g2 :: gp_wG E I2 F2) [.ref (E.2.2.2 0), .int (xs (n + 1)), .ref oa] k ∧ gp_CW l y_M_count b_M_count 2 (some .int) kM (gq_M E aM) (gp_wM (gq_M E aM) J G) (gp_wM (gq_M E aM) J2 G2) [.ref (aM 0), .int (xs (n + 1))] (some (.int b9)) := by
  obtain ⟨np, nt, ns, nc, b, e, lim, h⟩ := h
  generalize xs (n + 1) = x
  rcases gr_c4 (x := x) with c1 | c1 | c1 | c1 | c1
  · exact ⟨1, 0, I, F, upd J 0 1, G, g, 2, by omega, ⟨np, nt, ns, nc, b, e, lim, gr_j0 h 1⟩, rfl, fun z => absurd z (by decide), hX1_count l E I F cJ oa g x 6 (by omega) (x_G_count l E I F x hlt c1), c_M_countE1 l (gq_M E aM) J G x (gr_c4f c1)⟩
  · subst c1
    exact ⟨0, _, I, F, _, _, _, 2, by omega, ⟨np, nt, ns, nc, b, e, lim, gr_j0 h 0⟩, rfl, fun _ => congrArg Int32.toInt64 (h.i4.trans h.j1.symm), hN_count l E I F cJ oa g 0 1 (by omega) _ _ _ (gp_RW (c_G_count0 l E I F)), c_M_count0 l (gq_M E aM) J G⟩
  · subst c1
    exact ⟨0, _, I, F, _, _, _, 2, by omega, ⟨np, nt, ns, nc, b, e, lim, gr_j0 h 0⟩, rfl, fun _ => congrArg Int32.toInt64 (h.i6.trans h.j3.symm), hN_count l E I F cJ oa g 1 1 (by omega) _ _ _ (gp_RW (c_G_count1 l E I F)), c_M_count1 l (gq_M E aM) J G⟩
  · subst c1
    exact ⟨0, _, I, F, _, _, _, 2, by omega, ⟨np, nt, ns, nc, b, e, lim, gr_j0 h 0⟩, rfl, fun _ => congrArg Int32.toInt64 (h.i5.trans h.j2.symm), hN_count l E I F cJ oa g 2 1 (by omega) _ _ _ (gp_RW (c_G_count2 l E I F)), c_M_count2 l (gq_M E aM) J G⟩
  · subst c1
    exact ⟨0, _, I, F, _, _, _, 2, by omega, ⟨np, nt, ns, nc, b, e, lim, gr_j0 h 0⟩, rfl, fun _ => congrArg Int32.toInt64 (h.i0.trans h.j9.symm), hN_count l E I F cJ oa g 3 1 (by omega) _ _ _ (gp_RW (c_G_count3 l E I F)), c_M_count3 l (gq_M E aM) J G⟩
theorem pr_swap {l : Launch} (hlt : l.stackTraces = false) {E : gp_E} {cJ : ClassId} {aM : Nat → Nat} {oa n : Nat} {xs : Nat → Int32} {I : Nat → Int32} {F : Nat → Nat → Int32} {J : Nat → Int32} {G : Nat → Nat → Int32} {g : Nat → Int64} (h : gr_Rel I F J G) : ∃ (k b9 : Int32) (I2 : Nat → Int32) (F2 : Nat → Nat → Int32) (J2 : Nat → Int32) (G2 : Nat → Nat → Int32) (g2 : Nat → Int64) (kM : Nat), kM ≤ 30 ∧ gr_Rel I2 F2 J2 G2 ∧ J2 0 = k ∧ (k = 0 → g2 0 = b9.toInt64) ∧ gl_CH l y_L_swap b_L_swap 5 [(0, 10, 13, 21), (0, 10, 17, 15)] E cJ (gl_o cJ oa g :: gp_wG E I F) (gl_o cJ oa g2 :: gp_wG E I2 F2) [.ref (E.2.2.2 0), .int (xs (n + 1)), .int (xs (n + 2)), .ref oa] k ∧ gp_CW l y_M_swap b_M_swap 5 (some .int) kM (gq_M E aM) (gp_wM (gq_M E aM) J G) (gp_wM (gq_M E aM) J2 G2) [.ref (aM 0), .int (xs (n + 1)), .int (xs (n + 2))] (some (.int b9)) := by
  obtain ⟨np, nt, ns, nc, b, e, lim, h⟩ := h
  generalize xs (n + 1) = x
  generalize xs (n + 2) = y
  have h4 := h.T.np4
  have h6 := h.T.nt6
  have hs := h.s20
  have fi : ∀ z, gp_in z (I 6) = gp_in z (nI nt) := fun z => by rw [h.i6]
  have fj : ∀ z, gp_in z (J 3) = gp_in z (nI nt) := fun z => by rw [h.j3]
  by_cases c1 : gp_in x (nI nt) = true
  · by_cases c2 : gp_in y (nI nt) = true
    · rcases h.p01 with c3 | c3
      · exact ⟨2, 0, I, F, upd J 0 2, G, g, 2, by omega, ⟨np, nt, ns, nc, b, e, lim, gr_j0 h 2⟩, rfl, fun z => absurd z (by decide), hX2_swap l E I F cJ oa g x y 7 (by omega) (x_G_swap3 l E I F x y hlt ((fi x).trans c1) ((fi y).trans c2) (h.pn.trans c3)), c_M_swapE2 l (gq_M E aM) J G x y ((fj x).trans c1) ((fj y).trans c2) c3⟩
      · have i3 : ¬ I 3 = 0 := by rw [h.pn, c3]; decide
        obtain ⟨a, ha, rfl⟩ := (gr_in (by omega)).mp c1
        obtain ⟨c, hc, rfl⟩ := (gr_in (by omega)).mp c2
        exact ⟨0, _, I, _, _, _, _, 3, by omega, ⟨np, nt, ns, nc, b, e, lim, gr_sw h ha hc⟩, rfl, fun _ => congrArg Int32.toInt64 (gr_swr h ha hc), hN_swap l E I F cJ oa g (nI a) (nI c) 6 (by omega) _ _ _ (c_G_swap l E I F np nt ns a c h.i4 h.i6 h.i5 h4 h6 hs ha hc (by rw [h.T.pl a ha]; exact h.va a ha) (by rw [h.T.pl c hc]; exact h.va c hc) i3), c_M_swapN l (gq_M E aM) J G np nt ns a c h.j1 h.j3 h.j2 h4 h6 hs ha hc (h.va a ha) (h.va c hc) c3⟩
    · exact ⟨1, 0, I, F, upd J 0 1, G, g, 2, by omega, ⟨np, nt, ns, nc, b, e, lim, gr_j0 h 1⟩, rfl, fun z => absurd z (by decide), hX1_swap l E I F cJ oa g x y 7 (by omega) (x_G_swap2 l E I F x y hlt ((fi x).trans c1) ((fi y).trans ((Bool.not_eq_true _).mp c2))), c_M_swapE1 l (gq_M E aM) J G x y (fun z => c2 ((fj y).symm.trans z.2))⟩
  · exact ⟨1, 0, I, F, upd J 0 1, G, g, 2, by omega, ⟨np, nt, ns, nc, b, e, lim, gr_j0 h 1⟩, rfl, fun z => absurd z (by decide), hX1_swap l E I F cJ oa g x y 7 (by omega) (x_G_swap1 l E I F x y hlt ((fi x).trans ((Bool.not_eq_true _).mp c1))), c_M_swapE1 l (gq_M E aM) J G x y (fun z => c1 ((fj x).symm.trans z.1))⟩
theorem pr_absent {l : Launch} (hlt : l.stackTraces = false) {E : gp_E} {cJ : ClassId} {aM : Nat → Nat} {oa n : Nat} {xs : Nat → Int32} {I : Nat → Int32} {F : Nat → Nat → Int32} {J : Nat → Int32} {G : Nat → Nat → Int32} {g : Nat → Int64} (h : gr_Rel I F J G) : ∃ (k b9 : Int32) (I2 : Nat → Int32) (F2 : Nat → Nat → Int32) (J2 : Nat → Int32) (G2 : Nat → Nat → Int32) (g2 : Nat → Int64) (kM : Nat), kM ≤ 30 ∧ gr_Rel I2 F2 J2 G2 ∧ J2 0 = k ∧ (k = 0 → g2 0 = b9.toInt64) ∧ gl_CH l y_L_absent b_L_absent 5 [(0, 10, 13, 21), (0, 10, 17, 13), (0, 10, 21, 15)] E cJ (gl_o cJ oa g :: gp_wG E I F) (gl_o cJ oa g2 :: gp_wG E I2 F2) [.ref (E.2.2.2 0), .int (xs (n + 1)), .int (xs (n + 2)), .ref oa] k ∧ gp_CW l y_M_absent b_M_absent 4 (some .int) kM (gq_M E aM) (gp_wM (gq_M E aM) J G) (gp_wM (gq_M E aM) J2 G2) [.ref (aM 0), .int (xs (n + 1)), .int (xs (n + 2))] (some (.int b9)) := by
  obtain ⟨np, nt, ns, nc, b, e, lim, h⟩ := h
  generalize xs (n + 1) = x
  generalize xs (n + 2) = y
  have h4 := h.T.np4
  have h6 := h.T.nt6
  have hs := h.s20
  by_cases c1 : gp_in x (nI np) = true
  · have i1 : gp_in x (I 4) = true := by rw [h.i4]; exact c1
    have j1 : gp_in x (J 1) = true := by rw [h.j1]; exact c1
    have hw := gr_w (x := y) (a := 96) (c := 95) (by decide)
    by_cases c2 : ¬ y < 0 ∧ y < 96
    · have w := hw.mpr c2
      have c22 : ¬ 96 ≤ y := Int32.not_le.mpr c2.2
      rcases h.p01 with c3 | c3
      · exact ⟨3, 0, I, F, upd J 0 3, G, g, 2, by omega, ⟨np, nt, ns, nc, b, e, lim, gr_j0 h 3⟩, rfl, fun z => absurd z (by decide), hX3_absent l E I F cJ oa g x y 7 (by omega) (x_G_absent3 l E I F x y hlt i1 c2.1 c22 (h.pn.trans c3)), c_M_absentE3 l (gq_M E aM) J G ns x y j1 w (Or.inl c3) h.j2 hs⟩
      · have i3 : ¬ I 3 = 0 := by rw [h.pn, c3]; decide
        by_cases c4 : ns < 20
        · obtain ⟨a1, a2, a3⟩ := gr_abs h c4 c3 x y
          exact ⟨0, _, _, _, _, _, _, 5, by omega, a2, a3, fun _ => congrArg Int32.toInt64 a1, hN_absent l E I F cJ oa g x y 19 (by omega) _ _ _ (c_G_absent l E I F np nt ns x y h.i4 h.i6 h.i5 h4 h6 c4 i1 c2.1 c22 i3), c_M_absentN l (gq_M E aM) J G np nt ns x y h.j1 h.j3 h.j2 h4 h6 c4 j1 w c3⟩
        · have e4 : ns = 20 := by omega
          have i5 := h.i5
          rw [e4] at i5
          exact ⟨3, 0, I, F, upd J 0 3, G, g, 2, by omega, ⟨np, nt, ns, nc, b, e, lim, gr_j0 h 3⟩, rfl, fun z => absurd z (by decide), hX3_absent l E I F cJ oa g x y 7 (by omega) (x_G_absent4 l E I F x y hlt i1 c2.1 c22 i3 i5), c_M_absentE3 l (gq_M E aM) J G ns x y j1 w (Or.inr e4) h.j2 hs⟩
    · have w := gr_false hw c2
      have c22 : ¬ (¬ y < 0 ∧ ¬ 96 ≤ y) := fun z => c2 ⟨z.1, Int32.not_le.mp z.2⟩
      exact ⟨2, 0, I, F, upd J 0 2, G, g, 2, by omega, ⟨np, nt, ns, nc, b, e, lim, gr_j0 h 2⟩, rfl, fun z => absurd z (by decide), hX2_absent l E I F cJ oa g x y 7 (by omega) (x_G_absent2 l E I F x y hlt i1 c22), c_M_absentE2 l (gq_M E aM) J G ns x y j1 w h.j2 hs⟩
  · have i1 : gp_in x (I 4) = false := by rw [h.i4]; exact (Bool.not_eq_true _).mp c1
    have j1 : gp_in x (J 1) = false := by rw [h.j1]; exact (Bool.not_eq_true _).mp c1
    exact ⟨1, 0, I, F, upd J 0 1, G, g, 2, by omega, ⟨np, nt, ns, nc, b, e, lim, gr_j0 h 1⟩, rfl, fun z => absurd z (by decide), hX1_absent l E I F cJ oa g x y 7 (by omega) (x_G_absent1 l E I F x y hlt i1), c_M_absentE1 l (gq_M E aM) J G ns x y j1 h.j2 hs⟩
theorem pr_run {l : Launch} {E : gp_E} {aM : Nat → Nat} {I : Nat → Int32} {F : Nat → Nat → Int32} {J : Nat → Int32} {G : Nat → Nat → Int32} (h : gr_Rel I F J G) : ∃ (r : Int32) (I2 : Nat → Int32) (F2 : Nat → Nat → Int32) (J2 : Nat → Int32) (G2 : Nat → Nat → Int32) (kG kM : Nat), kG ≤ 30 ∧ kM ≤ 30 ∧ gr_Rel I2 F2 J2 G2 ∧ gp_CW l y_G_run b_G_run 1 (some .int) kG E (gp_wG E I F) (gp_wG E I2 F2) [.ref (E.2.2.2 0)] (some (.int r)) ∧ gp_CW l y_M_run b_M_run 2 (some .int) kM (gq_M E aM) (gp_wM (gq_M E aM) J G) (gp_wM (gq_M E aM) J2 G2) [.ref (aM 0)] (some (.int r)) := by
  obtain ⟨np, nt, ns, nc, b, e, lim, h⟩ := h
  have h4 := h.T.np4
  have h6 := h.T.nt6
  obtain ⟨a1, a2⟩ := gr_run h
  refine ⟨(gm_run np nt ns (J, G)).1, _, _, _, _, 19, 5, by omega, by omega, ⟨np, nt, ns, nc, b, e, lim, a2⟩, ?_, c_M_run l (gq_M E aM) J G np nt ns h.j1 h.j3 h.j2 h4 h6 h.s20⟩
  rw [← a1]
  exact c_G_run l E I F np nt ns h.i4 h.i6 h.i5 h4 h6 h.s20
theorem pr_told {l : Launch} {E : gp_E} {aM : Nat → Nat} {I : Nat → Int32} {F : Nat → Nat → Int32} {J : Nat → Int32} {G : Nat → Nat → Int32} (h : gr_Rel I F J G) : ∃ (r : Int32) (I2 : Nat → Int32) (F2 : Nat → Nat → Int32) (J2 : Nat → Int32) (G2 : Nat → Nat → Int32) (kG kM : Nat), kG ≤ 30 ∧ kM ≤ 30 ∧ gr_Rel I2 F2 J2 G2 ∧ gp_CW l y_G_told b_G_told 1 (some .int) kG E (gp_wG E I F) (gp_wG E I2 F2) [.ref (E.2.2.2 0)] (some (.int r)) ∧ gp_CW l y_M_told b_M_told 1 (some .int) kM (gq_M E aM) (gp_wM (gq_M E aM) J G) (gp_wM (gq_M E aM) J2 G2) [.ref (aM 0)] (some (.int r)) := by
  obtain ⟨np, nt, ns, nc, b, e, lim, h⟩ := h
  refine ⟨J 8, I, F, _, _, 1, 1, by omega, by omega, ⟨np, nt, ns, nc, b, e, lim, gr_j0 h 0⟩, ?_, c_M_told l (gq_M E aM) J G⟩
  rw [← h.td]
  exact gp_RW (c_G_told l E I F)
theorem pr_fair {l : Launch} {E : gp_E} {aM : Nat → Nat} {I : Nat → Int32} {F : Nat → Nat → Int32} {J : Nat → Int32} {G : Nat → Nat → Int32} (h : gr_Rel I F J G) : ∃ (r : Int32) (I2 : Nat → Int32) (F2 : Nat → Nat → Int32) (J2 : Nat → Int32) (G2 : Nat → Nat → Int32) (kG kM : Nat), kG ≤ 30 ∧ kM ≤ 30 ∧ gr_Rel I2 F2 J2 G2 ∧ gp_CW l y_G_fair b_G_fair 5 (some .int) kG E (gp_wG E I F) (gp_wG E I2 F2) [.ref (E.2.2.2 0)] (some (.int r)) ∧ gp_CW l y_M_fair b_M_fair 6 (some .int) kM (gq_M E aM) (gp_wM (gq_M E aM) J G) (gp_wM (gq_M E aM) J2 G2) [.ref (aM 0)] (some (.int r)) := by
  obtain ⟨np, nt, ns, nc, b, e, lim, h⟩ := h
  have h4 := h.T.np4
  have h6 := h.T.nt6
  refine ⟨_, I, F, _, _, 2, 1, by omega, by omega, ⟨np, nt, ns, nc, b, e, lim, gr_j0 h 0⟩, ?_, c_M_fair l (gq_M E aM) J G np nt h.j1 h4 h.j3 h6⟩
  rw [← gr_fair h]
  exact gp_RW (c_G_fair l E I F np nt h.i4 h4 h.i6 h6)
