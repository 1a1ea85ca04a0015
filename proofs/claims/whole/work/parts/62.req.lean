set_option maxHeartbeats 4000000 in
set_option maxRecDepth 100000 in
theorem c_G_requirePerson (l : Launch) (E : gp_E) (I : Nat → Int32) (F : Nat → Nat → Int32) (x : Int32) (h : gp_in x (I 4) = true) : gp_CV l y_G_requirePerson b_G_requirePerson 2 none 2 E (gp_wG E I F) [.ref (E.2.2.2 0), .int x] := by
  refine gp_ofV (by decide) (Nat.le_of_ble_eq_true rfl) ?_
  intro xp xe xs xm below meth xc ls hx hb hr hts hown hlocks hml hP hK hl
  have hown : xs.vm.findClass "GuidePlans" = some xm.cls := hown
  have hl : lv_has ls 2 [(0, .ref (E.2.2.2 0)), (1, .int x)] := hl
  refine lv_aload_n hx hb d_G_requirePerson_0 rfl (lv_at hl 0 rfl) ?_
  refine va_get (D := E.1) (cl := gp_cl) (ci := 0) (v := .ref (E.2.2.2 1)) (C := R_G) (T := T_G) (N := 8) hx hb hts i_G hown hK hP 0 rfl rfl 0 (by decide) (hts _ w1_117) (fun _ h9 => h9) rfl d_G_requirePerson_1 ?_
  refine lv_iload_n hx hb d_G_requirePerson_4 rfl (lv_at hl 1 rfl) ?_
  refine gp_cR (q0 := 1) (ci := 1) (As := [.int x]) (rest := []) ⟨hx, hb, hml, hown, hts⟩ (show gp_CR _ _ _ _ _ _ _ _ _ 1 from by have h9 := c_D_hasPerson l E I F x; rw [h, if_pos rfl] at h9; exact h9) (k_G_167 hts ⟨by decide, by decide⟩ rfl rfl) hK hP rfl rfl rfl hl.1 rfl (Nat.le_of_ble_eq_true rfl) d_G_requirePerson_5 ⟨Nat.le_of_ble_eq_true rfl, Nat.le_of_ble_eq_true rfl⟩ ?_
  refine lv_if_ne (tgt := 21) hx hb d_G_requirePerson_8 (by decide) (fun c8 => ?_) (fun c8 => ?_)
  · have c8 := c8
    have nc8 : ¬ 1 = 0 := fun h => c8 ((nI_eq (a := 1) (b := 0) (by omega) (by omega)).mpr h)
    exact gp_rv hx hb hr hlocks d_G_requirePerson_21
  · exact absurd c8 (by decide)
set_option maxHeartbeats 4000000 in
set_option maxRecDepth 100000 in
theorem x_G_requirePerson (l : Launch) (E : gp_E) (I : Nat → Int32) (F : Nat → Nat → Int32) (x : Int32) (hlt : l.stackTraces = false) (h : gp_in x (I 4) = false) : gx_CT l y_G_requirePerson b_G_requirePerson 2 none 6 E (gp_wG E I F) [.ref (E.2.2.2 0), .int x] "java/util/NoSuchElementException" := by
  refine gx_ofT (by decide) (Nat.le_of_ble_eq_true rfl) ?_
  intro xp xe xs xm below meth xc ls hx hb hr hts hown hlocks hml hem hP hK hSt hl
  have hown : xs.vm.findClass "GuidePlans" = some xm.cls := hown
  have hl : lv_has ls 2 [(0, .ref (E.2.2.2 0)), (1, .int x)] := hl
  refine lv_aload_n hx hb d_G_requirePerson_0 rfl (lv_at hl 0 rfl) ?_
  refine va_get (D := E.1) (cl := gp_cl) (ci := 0) (v := .ref (E.2.2.2 1)) (C := R_G) (T := T_G) (N := 8) hx hb hts i_G hown hK hP 0 rfl rfl 0 (by decide) (hts _ w1_117) (fun _ h9 => h9) rfl d_G_requirePerson_1 ?_
  refine lv_iload_n hx hb d_G_requirePerson_4 rfl (lv_at hl 1 rfl) ?_
  refine gp_cR (q0 := 1) (ci := 1) (As := [.int x]) (rest := []) ⟨hx, hb, hml, hown, hts⟩ (show gp_CR _ _ _ _ _ _ _ _ _ 0 from by have h9 := c_D_hasPerson l E I F x; rw [h, if_neg (by decide)] at h9; exact h9) (k_G_167 hts ⟨by decide, by decide⟩ rfl rfl) hK hP rfl rfl rfl hl.1 rfl (Nat.le_of_ble_eq_true rfl) d_G_requirePerson_5 ⟨Nat.le_of_ble_eq_true rfl, Nat.le_of_ble_eq_true rfl⟩ ?_
  refine lv_if_ne (tgt := 21) hx hb d_G_requirePerson_8 (by decide) (fun c8 => ?_) (fun c8 => ?_)
  · exact absurd c8 (by decide)
  · have c8 := c8
    have nc8 : 0 = 0 := (nI_eq (a := 0) (b := 0) (by omega) (by omega)).mp c8
    exact gx_thr (X := "java/util/NoSuchElementException") (ik := 81) (is := 171) (ic := 85) (tx := "no such person") hx hb hlt hown (by decide) (hts _ w2_116) (hts _ w1_10) hSt gx_hat3 (by decide) (hl.1.trans hml.symm) d_G_requirePerson_11 d_G_requirePerson_14 d_G_requirePerson_15 d_G_requirePerson_17 d_G_requirePerson_20 hem (Nat.le_of_ble_eq_true rfl) (Nat.le_of_ble_eq_true rfl) (Nat.le_of_ble_eq_true rfl) (Nat.le_of_ble_eq_true rfl) hlocks
set_option maxHeartbeats 4000000 in
set_option maxRecDepth 100000 in
theorem c_G_requireTask (l : Launch) (E : gp_E) (I : Nat → Int32) (F : Nat → Nat → Int32) (x : Int32) (h : gp_in x (I 6) = true) : gp_CV l y_G_requireTask b_G_requireTask 2 none 2 E (gp_wG E I F) [.ref (E.2.2.2 0), .int x] := by
  refine gp_ofV (by decide) (Nat.le_of_ble_eq_true rfl) ?_
  intro xp xe xs xm below meth xc ls hx hb hr hts hown hlocks hml hP hK hl
  have hown : xs.vm.findClass "GuidePlans" = some xm.cls := hown
  have hl : lv_has ls 2 [(0, .ref (E.2.2.2 0)), (1, .int x)] := hl
  refine lv_aload_n hx hb d_G_requireTask_0 rfl (lv_at hl 0 rfl) ?_
  refine va_get (D := E.1) (cl := gp_cl) (ci := 0) (v := .ref (E.2.2.2 1)) (C := R_G) (T := T_G) (N := 8) hx hb hts i_G hown hK hP 0 rfl rfl 0 (by decide) (hts _ w1_117) (fun _ h9 => h9) rfl d_G_requireTask_1 ?_
  refine lv_iload_n hx hb d_G_requireTask_4 rfl (lv_at hl 1 rfl) ?_
  refine gp_cR (q0 := 1) (ci := 1) (As := [.int x]) (rest := []) ⟨hx, hb, hml, hown, hts⟩ (show gp_CR _ _ _ _ _ _ _ _ _ 1 from by have h9 := c_D_hasTask l E I F x; rw [h, if_pos rfl] at h9; exact h9) (k_G_173 hts ⟨by decide, by decide⟩ rfl rfl) hK hP rfl rfl rfl hl.1 rfl (Nat.le_of_ble_eq_true rfl) d_G_requireTask_5 ⟨Nat.le_of_ble_eq_true rfl, Nat.le_of_ble_eq_true rfl⟩ ?_
  refine lv_if_ne (tgt := 21) hx hb d_G_requireTask_8 (by decide) (fun c8 => ?_) (fun c8 => ?_)
  · have c8 := c8
    have nc8 : ¬ 1 = 0 := fun h => c8 ((nI_eq (a := 1) (b := 0) (by omega) (by omega)).mpr h)
    exact gp_rv hx hb hr hlocks d_G_requireTask_21
  · exact absurd c8 (by decide)
set_option maxHeartbeats 4000000 in
set_option maxRecDepth 100000 in
theorem x_G_requireTask (l : Launch) (E : gp_E) (I : Nat → Int32) (F : Nat → Nat → Int32) (x : Int32) (hlt : l.stackTraces = false) (h : gp_in x (I 6) = false) : gx_CT l y_G_requireTask b_G_requireTask 2 none 6 E (gp_wG E I F) [.ref (E.2.2.2 0), .int x] "java/util/NoSuchElementException" := by
  refine gx_ofT (by decide) (Nat.le_of_ble_eq_true rfl) ?_
  intro xp xe xs xm below meth xc ls hx hb hr hts hown hlocks hml hem hP hK hSt hl
  have hown : xs.vm.findClass "GuidePlans" = some xm.cls := hown
  have hl : lv_has ls 2 [(0, .ref (E.2.2.2 0)), (1, .int x)] := hl
  refine lv_aload_n hx hb d_G_requireTask_0 rfl (lv_at hl 0 rfl) ?_
  refine va_get (D := E.1) (cl := gp_cl) (ci := 0) (v := .ref (E.2.2.2 1)) (C := R_G) (T := T_G) (N := 8) hx hb hts i_G hown hK hP 0 rfl rfl 0 (by decide) (hts _ w1_117) (fun _ h9 => h9) rfl d_G_requireTask_1 ?_
  refine lv_iload_n hx hb d_G_requireTask_4 rfl (lv_at hl 1 rfl) ?_
  refine gp_cR (q0 := 1) (ci := 1) (As := [.int x]) (rest := []) ⟨hx, hb, hml, hown, hts⟩ (show gp_CR _ _ _ _ _ _ _ _ _ 0 from by have h9 := c_D_hasTask l E I F x; rw [h, if_neg (by decide)] at h9; exact h9) (k_G_173 hts ⟨by decide, by decide⟩ rfl rfl) hK hP rfl rfl rfl hl.1 rfl (Nat.le_of_ble_eq_true rfl) d_G_requireTask_5 ⟨Nat.le_of_ble_eq_true rfl, Nat.le_of_ble_eq_true rfl⟩ ?_
  refine lv_if_ne (tgt := 21) hx hb d_G_requireTask_8 (by decide) (fun c8 => ?_) (fun c8 => ?_)
  · exact absurd c8 (by decide)
  · have c8 := c8
    have nc8 : 0 = 0 := (nI_eq (a := 0) (b := 0) (by omega) (by omega)).mp c8
    exact gx_thr (X := "java/util/NoSuchElementException") (ik := 81) (is := 176) (ic := 85) (tx := "no such task") hx hb hlt hown (by decide) (hts _ w2_116) (hts _ w1_10) hSt gx_hat3 (by decide) (hl.1.trans hml.symm) d_G_requireTask_11 d_G_requireTask_14 d_G_requireTask_15 d_G_requireTask_17 d_G_requireTask_20 hem (Nat.le_of_ble_eq_true rfl) (Nat.le_of_ble_eq_true rfl) (Nat.le_of_ble_eq_true rfl) (Nat.le_of_ble_eq_true rfl) hlocks
set_option maxHeartbeats 4000000 in
set_option maxRecDepth 100000 in
theorem c_G_requireSpan (l : Launch) (E : gp_E) (I : Nat → Int32) (F : Nat → Nat → Int32) (x y : Int32) (h1 : ¬ x < 0) (h2 : ¬ y ≤ x) (h3 : y ≤ 96) : gp_CV l y_G_requireSpan b_G_requireSpan 3 none 1 E (gp_wG E I F) [.ref (E.2.2.2 0), .int x, .int y] := by
  refine gp_ofV (by decide) (Nat.le_of_ble_eq_true rfl) ?_
  intro xp xe xs xm below meth xc ls hx hb hr hts hown hlocks hml hP hK hl
  have hown : xs.vm.findClass "GuidePlans" = some xm.cls := hown
  have hl : lv_has ls 3 [(0, .ref (E.2.2.2 0)), (1, .int x), (2, .int y)] := hl
  refine lv_iload_n hx hb d_G_requireSpan_0 rfl (lv_at hl 1 rfl) ?_
  refine lv_if_lt (tgt := 15) hx hb d_G_requireSpan_1 (by decide) (fun c1 => ?_) (fun c1 => ?_)
  · have c1 := c1
    have mc1 : ¬ 0 ≤ x := Int32.not_le.mpr c1
    exact False.elim (h1 c1)
  · have c1 := c1
    have mc1 : 0 ≤ x := Int32.not_lt.mp c1
    refine lv_iload_n hx hb d_G_requireSpan_4 rfl (lv_at hl 1 rfl) ?_
    refine lv_iload_n hx hb d_G_requireSpan_5 rfl (lv_at hl 2 rfl) ?_
    refine lv_icmp_ge (tgt := 15) hx hb d_G_requireSpan_6 (by decide) (fun c6 => ?_) (fun c6 => ?_)
    · have c6 := c6
      have mc6 : ¬ x < y := Int32.not_lt.mpr c6
      exact False.elim (h2 c6)
    · have c6 := c6
      have mc6 : x < y := Int32.not_le.mp c6
      refine lv_iload_n hx hb d_G_requireSpan_9 rfl (lv_at hl 2 rfl) ?_
      refine lv_bipush (v := 96) hx hb d_G_requireSpan_10 (by decide) ?_
      refine lv_icmp_le (tgt := 25) hx hb d_G_requireSpan_12 (by decide) (fun c12 => ?_) (fun c12 => ?_)
      · have c12 := c12
        have mc12 : ¬ 96 < y := Int32.not_lt.mpr c12
        exact gp_rv hx hb hr hlocks d_G_requireSpan_25
      · have c12 := c12
        have mc12 : 96 < y := Int32.not_le.mp c12
        exact False.elim (c12 h3)
set_option maxHeartbeats 4000000 in
set_option maxRecDepth 100000 in
theorem x_G_requireSpan (l : Launch) (E : gp_E) (I : Nat → Int32) (F : Nat → Nat → Int32) (x y : Int32) (hlt : l.stackTraces = false) (h : ¬ (¬ x < 0 ∧ ¬ y ≤ x ∧ y ≤ 96)) : gx_CT l y_G_requireSpan b_G_requireSpan 3 none 6 E (gp_wG E I F) [.ref (E.2.2.2 0), .int x, .int y] "java/lang/IllegalArgumentException" := by
  refine gx_ofT (by decide) (Nat.le_of_ble_eq_true rfl) ?_
  intro xp xe xs xm below meth xc ls hx hb hr hts hown hlocks hml hem hP hK hSt hl
  have hown : xs.vm.findClass "GuidePlans" = some xm.cls := hown
  have hl : lv_has ls 3 [(0, .ref (E.2.2.2 0)), (1, .int x), (2, .int y)] := hl
  refine lv_iload_n hx hb d_G_requireSpan_0 rfl (lv_at hl 1 rfl) ?_
  refine lv_if_lt (tgt := 15) hx hb d_G_requireSpan_1 (by decide) (fun c1 => ?_) (fun c1 => ?_)
  · have c1 := c1
    have mc1 : ¬ 0 ≤ x := Int32.not_le.mpr c1
    exact gx_thr (X := "java/lang/IllegalArgumentException") (ik := 44) (is := 178) (ic := 48) (tx := "not 0 <= from < to <= 96") hx hb hlt hown (by decide) (hts _ w2_15) (hts _ w1_8) hSt gx_hat1 (by decide) (hl.1.trans hml.symm) d_G_requireSpan_15 d_G_requireSpan_18 d_G_requireSpan_19 d_G_requireSpan_21 d_G_requireSpan_24 hem (Nat.le_of_ble_eq_true rfl) (Nat.le_of_ble_eq_true rfl) (Nat.le_of_ble_eq_true rfl) (Nat.le_of_ble_eq_true rfl) hlocks
  · have c1 := c1
    have mc1 : 0 ≤ x := Int32.not_lt.mp c1
    refine lv_iload_n hx hb d_G_requireSpan_4 rfl (lv_at hl 1 rfl) ?_
    refine lv_iload_n hx hb d_G_requireSpan_5 rfl (lv_at hl 2 rfl) ?_
    refine lv_icmp_ge (tgt := 15) hx hb d_G_requireSpan_6 (by decide) (fun c6 => ?_) (fun c6 => ?_)
    · have c6 := c6
      have mc6 : ¬ x < y := Int32.not_lt.mpr c6
      exact gx_thr (X := "java/lang/IllegalArgumentException") (ik := 44) (is := 178) (ic := 48) (tx := "not 0 <= from < to <= 96") hx hb hlt hown (by decide) (hts _ w2_15) (hts _ w1_8) hSt gx_hat1 (by decide) (hl.1.trans hml.symm) d_G_requireSpan_15 d_G_requireSpan_18 d_G_requireSpan_19 d_G_requireSpan_21 d_G_requireSpan_24 hem (Nat.le_of_ble_eq_true rfl) (Nat.le_of_ble_eq_true rfl) (Nat.le_of_ble_eq_true rfl) (Nat.le_of_ble_eq_true rfl) hlocks
    · have c6 := c6
      have mc6 : x < y := Int32.not_le.mp c6
      refine lv_iload_n hx hb d_G_requireSpan_9 rfl (lv_at hl 2 rfl) ?_
      refine lv_bipush (v := 96) hx hb d_G_requireSpan_10 (by decide) ?_
      refine lv_icmp_le (tgt := 25) hx hb d_G_requireSpan_12 (by decide) (fun c12 => ?_) (fun c12 => ?_)
      · have c12 := c12
        have mc12 : ¬ 96 < y := Int32.not_lt.mpr c12
        exact (h ⟨c1, c6, c12⟩).elim
      · have c12 := c12
        have mc12 : 96 < y := Int32.not_le.mp c12
        exact gx_thr (X := "java/lang/IllegalArgumentException") (ik := 44) (is := 178) (ic := 48) (tx := "not 0 <= from < to <= 96") hx hb hlt hown (by decide) (hts _ w2_15) (hts _ w1_8) hSt gx_hat1 (by decide) (hl.1.trans hml.symm) d_G_requireSpan_15 d_G_requireSpan_18 d_G_requireSpan_19 d_G_requireSpan_21 d_G_requireSpan_24 hem (Nat.le_of_ble_eq_true rfl) (Nat.le_of_ble_eq_true rfl) (Nat.le_of_ble_eq_true rfl) (Nat.le_of_ble_eq_true rfl) hlocks
set_option maxHeartbeats 4000000 in
set_option maxRecDepth 100000 in
theorem c_G_requireQuarters (l : Launch) (E : gp_E) (I : Nat → Int32) (F : Nat → Nat → Int32) (x : Int32) (h1 : ¬ x < 0) (h3 : x ≤ 96) : gp_CV l y_G_requireQuarters b_G_requireQuarters 2 none 1 E (gp_wG E I F) [.ref (E.2.2.2 0), .int x] := by
  refine gp_ofV (by decide) (Nat.le_of_ble_eq_true rfl) ?_
  intro xp xe xs xm below meth xc ls hx hb hr hts hown hlocks hml hP hK hl
  have hown : xs.vm.findClass "GuidePlans" = some xm.cls := hown
  have hl : lv_has ls 2 [(0, .ref (E.2.2.2 0)), (1, .int x)] := hl
  refine lv_iload_n hx hb d_G_requireQuarters_0 rfl (lv_at hl 1 rfl) ?_
  refine lv_if_lt (tgt := 10) hx hb d_G_requireQuarters_1 (by decide) (fun c1 => ?_) (fun c1 => ?_)
  · have c1 := c1
    have mc1 : ¬ 0 ≤ x := Int32.not_le.mpr c1
    exact False.elim (h1 c1)
  · have c1 := c1
    have mc1 : 0 ≤ x := Int32.not_lt.mp c1
    refine lv_iload_n hx hb d_G_requireQuarters_4 rfl (lv_at hl 1 rfl) ?_
    refine lv_bipush (v := 96) hx hb d_G_requireQuarters_5 (by decide) ?_
    refine lv_icmp_le (tgt := 20) hx hb d_G_requireQuarters_7 (by decide) (fun c7 => ?_) (fun c7 => ?_)
    · have c7 := c7
      have mc7 : ¬ 96 < x := Int32.not_lt.mpr c7
      exact gp_rv hx hb hr hlocks d_G_requireQuarters_20
    · have c7 := c7
      have mc7 : 96 < x := Int32.not_le.mp c7
      exact False.elim (c7 h3)
set_option maxHeartbeats 4000000 in
set_option maxRecDepth 100000 in
theorem x_G_requireQuarters (l : Launch) (E : gp_E) (I : Nat → Int32) (F : Nat → Nat → Int32) (x : Int32) (hlt : l.stackTraces = false) (h : ¬ (¬ x < 0 ∧ x ≤ 96)) : gx_CT l y_G_requireQuarters b_G_requireQuarters 2 none 6 E (gp_wG E I F) [.ref (E.2.2.2 0), .int x] "java/lang/IllegalArgumentException" := by
  refine gx_ofT (by decide) (Nat.le_of_ble_eq_true rfl) ?_
  intro xp xe xs xm below meth xc ls hx hb hr hts hown hlocks hml hem hP hK hSt hl
  have hown : xs.vm.findClass "GuidePlans" = some xm.cls := hown
  have hl : lv_has ls 2 [(0, .ref (E.2.2.2 0)), (1, .int x)] := hl
  refine lv_iload_n hx hb d_G_requireQuarters_0 rfl (lv_at hl 1 rfl) ?_
  refine lv_if_lt (tgt := 10) hx hb d_G_requireQuarters_1 (by decide) (fun c1 => ?_) (fun c1 => ?_)
  · have c1 := c1
    have mc1 : ¬ 0 ≤ x := Int32.not_le.mpr c1
    exact gx_thr (X := "java/lang/IllegalArgumentException") (ik := 44) (is := 180) (ic := 48) (tx := "quarters are not 0 .. 96") hx hb hlt hown (by decide) (hts _ w2_15) (hts _ w1_8) hSt gx_hat1 (by decide) (hl.1.trans hml.symm) d_G_requireQuarters_10 d_G_requireQuarters_13 d_G_requireQuarters_14 d_G_requireQuarters_16 d_G_requireQuarters_19 hem (Nat.le_of_ble_eq_true rfl) (Nat.le_of_ble_eq_true rfl) (Nat.le_of_ble_eq_true rfl) (Nat.le_of_ble_eq_true rfl) hlocks
  · have c1 := c1
    have mc1 : 0 ≤ x := Int32.not_lt.mp c1
    refine lv_iload_n hx hb d_G_requireQuarters_4 rfl (lv_at hl 1 rfl) ?_
    refine lv_bipush (v := 96) hx hb d_G_requireQuarters_5 (by decide) ?_
    refine lv_icmp_le (tgt := 20) hx hb d_G_requireQuarters_7 (by decide) (fun c7 => ?_) (fun c7 => ?_)
    · have c7 := c7
      have mc7 : ¬ 96 < x := Int32.not_lt.mpr c7
      exact (h ⟨c1, c7⟩).elim
    · have c7 := c7
      have mc7 : 96 < x := Int32.not_le.mp c7
      exact gx_thr (X := "java/lang/IllegalArgumentException") (ik := 44) (is := 180) (ic := 48) (tx := "quarters are not 0 .. 96") hx hb hlt hown (by decide) (hts _ w2_15) (hts _ w1_8) hSt gx_hat1 (by decide) (hl.1.trans hml.symm) d_G_requireQuarters_10 d_G_requireQuarters_13 d_G_requireQuarters_14 d_G_requireQuarters_16 d_G_requireQuarters_19 hem (Nat.le_of_ble_eq_true rfl) (Nat.le_of_ble_eq_true rfl) (Nat.le_of_ble_eq_true rfl) (Nat.le_of_ble_eq_true rfl) hlocks
set_option maxHeartbeats 4000000 in
set_option maxRecDepth 100000 in
theorem c_G_requirePlan (l : Launch) (E : gp_E) (I : Nat → Int32) (F : Nat → Nat → Int32)  (h : ¬ I 3 = 0) : gp_CV l y_G_requirePlan b_G_requirePlan 1 none 1 E (gp_wG E I F) [.ref (E.2.2.2 0)] := by
  refine gp_ofV (by decide) (Nat.le_of_ble_eq_true rfl) ?_
  intro xp xe xs xm below meth xc ls hx hb hr hts hown hlocks hml hP hK hl
  have hown : xs.vm.findClass "GuidePlans" = some xm.cls := hown
  have hl : lv_has ls 1 [(0, .ref (E.2.2.2 0))] := hl
  refine lv_aload_n hx hb d_G_requirePlan_0 rfl (lv_at hl 0 rfl) ?_
  refine va_get (D := E.1) (cl := gp_cl) (ci := 0) (v := .int (I 3)) (C := R_G) (T := T_G) (N := 8) hx hb hts i_G hown hK hP 0 rfl rfl 7 (by decide) (hts _ w1_124) (fun _ h9 => h9) rfl d_G_requirePlan_1 ?_
  refine lv_if_ne (tgt := 17) hx hb d_G_requirePlan_4 (by decide) (fun c4 => ?_) (fun c4 => ?_)
  · have c4 := c4
    exact gp_rv hx hb hr hlocks d_G_requirePlan_17
  · have c4 := c4
    exact False.elim (h c4)
set_option maxHeartbeats 4000000 in
set_option maxRecDepth 100000 in
theorem x_G_requirePlan (l : Launch) (E : gp_E) (I : Nat → Int32) (F : Nat → Nat → Int32)  (hlt : l.stackTraces = false) (h : I 3 = 0) : gx_CT l y_G_requirePlan b_G_requirePlan 1 none 6 E (gp_wG E I F) [.ref (E.2.2.2 0)] "java/lang/IllegalStateException" := by
  refine gx_ofT (by decide) (Nat.le_of_ble_eq_true rfl) ?_
  intro xp xe xs xm below meth xc ls hx hb hr hts hown hlocks hml hem hP hK hSt hl
  have hown : xs.vm.findClass "GuidePlans" = some xm.cls := hown
  have hl : lv_has ls 1 [(0, .ref (E.2.2.2 0))] := hl
  refine lv_aload_n hx hb d_G_requirePlan_0 rfl (lv_at hl 0 rfl) ?_
  refine va_get (D := E.1) (cl := gp_cl) (ci := 0) (v := .int (I 3)) (C := R_G) (T := T_G) (N := 8) hx hb hts i_G hown hK hP 0 rfl rfl 7 (by decide) (hts _ w1_124) (fun _ h9 => h9) rfl d_G_requirePlan_1 ?_
  refine lv_if_ne (tgt := 17) hx hb d_G_requirePlan_4 (by decide) (fun c4 => ?_) (fun c4 => ?_)
  · have c4 := c4
    exact False.elim (c4 h)
  · have c4 := c4
    exact gx_thr (X := "java/lang/IllegalStateException") (ik := 54) (is := 182) (ic := 58) (tx := "nothing was planned") hx hb hlt hown (by decide) (hts _ w2_83) (hts _ w1_9) hSt gx_hat2 (by decide) (hl.1.trans hml.symm) d_G_requirePlan_7 d_G_requirePlan_10 d_G_requirePlan_11 d_G_requirePlan_13 d_G_requirePlan_16 hem (Nat.le_of_ble_eq_true rfl) (Nat.le_of_ble_eq_true rfl) (Nat.le_of_ble_eq_true rfl) (Nat.le_of_ble_eq_true rfl) hlocks
set_option maxHeartbeats 4000000 in
set_option maxRecDepth 100000 in
theorem c_G_requireRoomForSpan (l : Launch) (E : gp_E) (I : Nat → Int32) (F : Nat → Nat → Int32) (ns : Nat) (hN : I 5 = nI ns) (h : ns < 20) : gp_CV l y_G_requireRoomForSpan b_G_requireRoomForSpan 1 none 1 E (gp_wG E I F) [.ref (E.2.2.2 0)] := by
  refine gp_ofV (by decide) (Nat.le_of_ble_eq_true rfl) ?_
  intro xp xe xs xm below meth xc ls hx hb hr hts hown hlocks hml hP hK hl
  have hown : xs.vm.findClass "GuidePlans" = some xm.cls := hown
  have hl : lv_has ls 1 [(0, .ref (E.2.2.2 0))] := hl
  refine lv_aload_n hx hb d_G_requireRoomForSpan_0 rfl (lv_at hl 0 rfl) ?_
  refine va_get (D := E.1) (cl := gp_cl) (ci := 0) (v := .ref (E.2.2.2 1)) (C := R_G) (T := T_G) (N := 8) hx hb hts i_G hown hK hP 0 rfl rfl 0 (by decide) (hts _ w1_117) (fun _ h9 => h9) rfl d_G_requireRoomForSpan_1 ?_
  refine va_get (D := E.1) (cl := gp_cl) (ci := 1) (v := .int (nI ns)) (C := R_D) (T := T_D) (N := 13) hx hb hts i_D hown hK hP 1 rfl rfl 9 (by decide) (hts _ w1_43) (fun _ h9 => h9) (congrArg (fun z => some (Value.int z)) hN) d_G_requireRoomForSpan_4 ?_
  refine lv_bipush (v := 20) hx hb d_G_requireRoomForSpan_7 (by decide) ?_
  refine lv_icmp_lt (tgt := 22) hx hb d_G_requireRoomForSpan_9 (by decide) (fun c9 => ?_) (fun c9 => ?_)
  · have c9 := c9
    have nc9 : ns < 20 := (nI_ltI (a := ns) (b := 20) (by omega) (by omega)).mp c9
    exact gp_rv hx hb hr hlocks d_G_requireRoomForSpan_22
  · have c9 := c9
    have nc9 : ¬ ns < 20 := fun h => c9 ((nI_ltI (a := ns) (b := 20) (by omega) (by omega)).mpr h)
    exact False.elim (by omega)
set_option maxHeartbeats 4000000 in
set_option maxRecDepth 100000 in
theorem x_G_requireRoomForSpan (l : Launch) (E : gp_E) (I : Nat → Int32) (F : Nat → Nat → Int32)  (hlt : l.stackTraces = false) (hN : I 5 = nI 20) : gx_CT l y_G_requireRoomForSpan b_G_requireRoomForSpan 1 none 6 E (gp_wG E I F) [.ref (E.2.2.2 0)] "java/lang/IllegalStateException" := by
  refine gx_ofT (by decide) (Nat.le_of_ble_eq_true rfl) ?_
  intro xp xe xs xm below meth xc ls hx hb hr hts hown hlocks hml hem hP hK hSt hl
  have hown : xs.vm.findClass "GuidePlans" = some xm.cls := hown
  have hl : lv_has ls 1 [(0, .ref (E.2.2.2 0))] := hl
  refine lv_aload_n hx hb d_G_requireRoomForSpan_0 rfl (lv_at hl 0 rfl) ?_
  refine va_get (D := E.1) (cl := gp_cl) (ci := 0) (v := .ref (E.2.2.2 1)) (C := R_G) (T := T_G) (N := 8) hx hb hts i_G hown hK hP 0 rfl rfl 0 (by decide) (hts _ w1_117) (fun _ h9 => h9) rfl d_G_requireRoomForSpan_1 ?_
  refine va_get (D := E.1) (cl := gp_cl) (ci := 1) (v := .int (nI 20)) (C := R_D) (T := T_D) (N := 13) hx hb hts i_D hown hK hP 1 rfl rfl 9 (by decide) (hts _ w1_43) (fun _ h9 => h9) (congrArg (fun z => some (Value.int z)) hN) d_G_requireRoomForSpan_4 ?_
  refine lv_bipush (v := 20) hx hb d_G_requireRoomForSpan_7 (by decide) ?_
  refine lv_icmp_lt (tgt := 22) hx hb d_G_requireRoomForSpan_9 (by decide) (fun c9 => ?_) (fun c9 => ?_)
  · have c9 := c9
    have nc9 : 20 < 20 := (nI_ltI (a := 20) (b := 20) (by omega) (by omega)).mp c9
    exact False.elim (by omega)
  · have c9 := c9
    have nc9 : ¬ 20 < 20 := fun h => c9 ((nI_ltI (a := 20) (b := 20) (by omega) (by omega)).mpr h)
    exact gx_thr (X := "java/lang/IllegalStateException") (ik := 54) (is := 184) (ic := 58) (tx := "there are 20 spans off") hx hb hlt hown (by decide) (hts _ w2_83) (hts _ w1_9) hSt gx_hat2 (by decide) (hl.1.trans hml.symm) d_G_requireRoomForSpan_12 d_G_requireRoomForSpan_15 d_G_requireRoomForSpan_16 d_G_requireRoomForSpan_18 d_G_requireRoomForSpan_21 hem (Nat.le_of_ble_eq_true rfl) (Nat.le_of_ble_eq_true rfl) (Nat.le_of_ble_eq_true rfl) (Nat.le_of_ble_eq_true rfl) hlocks
