set_option maxHeartbeats 4000000 in
set_option maxRecDepth 100000 in
theorem c_G_person (l : Launch) (E : gp_E) (I : Nat → Int32) (F : Nat → Nat → Int32) (np : Nat) (x : Int32) (hp4 : I 4 = nI np) (hnp : np < 4) (h1 : ¬ x < 0) (h2 : x < 256) : gp_CW l y_G_person b_G_person 2 (some .int) 2 E (gp_wG E I F) (gp_wG E (upd I 4 (nI (np + 1))) (gp_uF F 0 (upd (F 0) np x))) [.ref (E.2.2.2 0), .int x] (some (.int (nI np))) := by
  refine gp_ofW (by decide) (Nat.le_of_ble_eq_true rfl) ?_
  intro xp xe xs xm below meth xc ls A hx hb hr hts hown hlocks hml hP hK hD hA hAe hl
  have hS : va_S A xs.heap xs.heap [] := va_S.rf
  have hown : xs.vm.findClass "GuidePlans" = some xm.cls := hown
  have hl : lv_has ls 2 [(0, .ref (E.2.2.2 0)), (1, .int x)] := hl
  refine lv_iload_n hx hb d_G_person_0 rfl (lv_at hl 1 rfl) ?_
  refine lv_if_lt (tgt := 11) hx hb d_G_person_1 (by decide) (fun c1 => ?_) (fun c1 => ?_)
  · have c1 := c1
    have mc1 : ¬ 0 ≤ x := Int32.not_le.mpr c1
    exact False.elim (h1 c1)
  · have c1 := c1
    have mc1 : 0 ≤ x := Int32.not_lt.mp c1
    refine lv_iload_n hx hb d_G_person_4 rfl (lv_at hl 1 rfl) ?_
    refine lv_sipush (v := 256) hx hb d_G_person_5 (by decide) ?_
    refine lv_icmp_lt (tgt := 21) hx hb d_G_person_8 (by decide) (fun c8 => ?_) (fun c8 => ?_)
    · have c8 := c8
      have mc8 : ¬ 256 ≤ x := Int32.not_le.mpr c8
      refine lv_aload_n hx hb d_G_person_21 rfl (lv_at hl 0 rfl) ?_
      refine va_get (D := E.1) (cl := gp_cl) (ci := 0) (v := .ref (E.2.2.2 1)) (C := R_G) (T := T_G) (N := 8) hx hb hts i_G hown hK hP 0 rfl rfl 0 (by decide) (hts _ w1_117) (fun _ h9 => h9) rfl d_G_person_22 ?_
      refine va_get (D := E.1) (cl := gp_cl) (ci := 1) (v := .int (nI np)) (C := R_D) (T := T_D) (N := 13) hx hb hts i_D hown hK hP 1 rfl rfl 8 (by decide) (hts _ w1_40) (fun _ h9 => h9) (congrArg (fun z => some (Value.int z)) hp4) d_G_person_25 ?_
      refine lv_iconst (v := 4) hx hb d_G_person_28 (by decide) ?_
      refine lv_icmp_lt (tgt := 42) hx hb d_G_person_29 (by decide) (fun c29 => ?_) (fun c29 => ?_)
      · have c29 := c29
        have nc29 : np < 4 := (nI_ltI (a := np) (b := 4) (by omega) (by omega)).mp c29
        refine lv_aload_n hx hb d_G_person_42 rfl (lv_at hl 0 rfl) ?_
        refine va_get (D := E.1) (cl := gp_cl) (ci := 0) (v := .ref (E.2.2.2 1)) (C := R_G) (T := T_G) (N := 8) hx hb hts i_G hown hK hP 0 rfl rfl 0 (by decide) (hts _ w1_117) (fun _ h9 => h9) rfl d_G_person_43 ?_
        refine lv_iload_n hx hb d_G_person_46 rfl (lv_at hl 1 rfl) ?_
        refine gp_cW (q0 := 1) (ci := 1) (As := [.int x]) (rest := []) ⟨hx, hb, hml, hown, hts⟩ (c_D_addPerson l E I F np x hp4 hnp) (k_G_59 hts ⟨by decide, by decide⟩ rfl rfl) hK hP hD hS hA rfl rfl rfl rfl hl.1 rfl (Nat.le_of_ble_eq_true rfl) d_G_person_47 ⟨Nat.le_of_ble_eq_true rfl, Nat.le_of_ble_eq_true rfl⟩ (fun H locs hP hD hS => ?_)
        have hP : va_P E.1 gp_cl (gp_wG E (upd I 4 (nI (np + 1))) (gp_uF F 0 (upd (F 0) np x))) H := hP
        have hD : va_D A (gp_wG E (upd I 4 (nI (np + 1))) (gp_uF F 0 (upd (F 0) np x))) := hD
        refine W.eq (g2 := F0 xm 50 ls [.int (nI np)]) rfl ?_
        exact gp_wi hx hb hr hlocks hAe (rfl) (hP) hS d_G_person_50
      · have c29 := c29
        have nc29 : ¬ np < 4 := fun h => c29 ((nI_ltI (a := np) (b := 4) (by omega) (by omega)).mpr h)
        exact False.elim (by omega)
    · have c8 := c8
      have mc8 : 256 ≤ x := Int32.not_lt.mp c8
      exact False.elim (c8 h2)
set_option maxHeartbeats 4000000 in
set_option maxRecDepth 100000 in
theorem x_G_person1 (l : Launch) (E : gp_E) (I : Nat → Int32) (F : Nat → Nat → Int32) (x : Int32) (hlt : l.stackTraces = false) (h : ¬ (¬ x < 0 ∧ x < 256)) : gx_CT l y_G_person b_G_person 2 (some .int) 6 E (gp_wG E I F) [.ref (E.2.2.2 0), .int x] "java/lang/IllegalArgumentException" := by
  refine gx_ofT (by decide) (Nat.le_of_ble_eq_true rfl) ?_
  intro xp xe xs xm below meth xc ls hx hb hr hts hown hlocks hml hem hP hK hSt hl
  have hown : xs.vm.findClass "GuidePlans" = some xm.cls := hown
  have hl : lv_has ls 2 [(0, .ref (E.2.2.2 0)), (1, .int x)] := hl
  refine lv_iload_n hx hb d_G_person_0 rfl (lv_at hl 1 rfl) ?_
  refine lv_if_lt (tgt := 11) hx hb d_G_person_1 (by decide) (fun c1 => ?_) (fun c1 => ?_)
  · have c1 := c1
    have mc1 : ¬ 0 ≤ x := Int32.not_le.mpr c1
    exact gx_thr (X := "java/lang/IllegalArgumentException") (ik := 44) (is := 46) (ic := 48) (tx := "skills are not 0 .. 255") hx hb hlt hown (by decide) (hts _ w2_15) (hts _ w1_8) hSt gx_hat1 (by decide) (hl.1.trans hml.symm) d_G_person_11 d_G_person_14 d_G_person_15 d_G_person_17 d_G_person_20 hem (Nat.le_of_ble_eq_true rfl) (Nat.le_of_ble_eq_true rfl) (Nat.le_of_ble_eq_true rfl) (Nat.le_of_ble_eq_true rfl) hlocks
  · have c1 := c1
    have mc1 : 0 ≤ x := Int32.not_lt.mp c1
    refine lv_iload_n hx hb d_G_person_4 rfl (lv_at hl 1 rfl) ?_
    refine lv_sipush (v := 256) hx hb d_G_person_5 (by decide) ?_
    refine lv_icmp_lt (tgt := 21) hx hb d_G_person_8 (by decide) (fun c8 => ?_) (fun c8 => ?_)
    · have c8 := c8
      have mc8 : ¬ 256 ≤ x := Int32.not_le.mpr c8
      exact (h ⟨c1, c8⟩).elim
    · have c8 := c8
      have mc8 : 256 ≤ x := Int32.not_lt.mp c8
      exact gx_thr (X := "java/lang/IllegalArgumentException") (ik := 44) (is := 46) (ic := 48) (tx := "skills are not 0 .. 255") hx hb hlt hown (by decide) (hts _ w2_15) (hts _ w1_8) hSt gx_hat1 (by decide) (hl.1.trans hml.symm) d_G_person_11 d_G_person_14 d_G_person_15 d_G_person_17 d_G_person_20 hem (Nat.le_of_ble_eq_true rfl) (Nat.le_of_ble_eq_true rfl) (Nat.le_of_ble_eq_true rfl) (Nat.le_of_ble_eq_true rfl) hlocks
set_option maxHeartbeats 4000000 in
set_option maxRecDepth 100000 in
theorem x_G_person2 (l : Launch) (E : gp_E) (I : Nat → Int32) (F : Nat → Nat → Int32) (x : Int32) (hlt : l.stackTraces = false) (hp4 : I 4 = nI 4) (h1 : ¬ x < 0) (h2 : x < 256) : gx_CT l y_G_person b_G_person 2 (some .int) 6 E (gp_wG E I F) [.ref (E.2.2.2 0), .int x] "java/lang/IllegalStateException" := by
  refine gx_ofT (by decide) (Nat.le_of_ble_eq_true rfl) ?_
  intro xp xe xs xm below meth xc ls hx hb hr hts hown hlocks hml hem hP hK hSt hl
  have hown : xs.vm.findClass "GuidePlans" = some xm.cls := hown
  have hl : lv_has ls 2 [(0, .ref (E.2.2.2 0)), (1, .int x)] := hl
  refine lv_iload_n hx hb d_G_person_0 rfl (lv_at hl 1 rfl) ?_
  refine lv_if_lt (tgt := 11) hx hb d_G_person_1 (by decide) (fun c1 => ?_) (fun c1 => ?_)
  · have c1 := c1
    have mc1 : ¬ 0 ≤ x := Int32.not_le.mpr c1
    exact False.elim (h1 c1)
  · have c1 := c1
    have mc1 : 0 ≤ x := Int32.not_lt.mp c1
    refine lv_iload_n hx hb d_G_person_4 rfl (lv_at hl 1 rfl) ?_
    refine lv_sipush (v := 256) hx hb d_G_person_5 (by decide) ?_
    refine lv_icmp_lt (tgt := 21) hx hb d_G_person_8 (by decide) (fun c8 => ?_) (fun c8 => ?_)
    · have c8 := c8
      have mc8 : ¬ 256 ≤ x := Int32.not_le.mpr c8
      refine lv_aload_n hx hb d_G_person_21 rfl (lv_at hl 0 rfl) ?_
      refine va_get (D := E.1) (cl := gp_cl) (ci := 0) (v := .ref (E.2.2.2 1)) (C := R_G) (T := T_G) (N := 8) hx hb hts i_G hown hK hP 0 rfl rfl 0 (by decide) (hts _ w1_117) (fun _ h9 => h9) rfl d_G_person_22 ?_
      refine va_get (D := E.1) (cl := gp_cl) (ci := 1) (v := .int (nI 4)) (C := R_D) (T := T_D) (N := 13) hx hb hts i_D hown hK hP 1 rfl rfl 8 (by decide) (hts _ w1_40) (fun _ h9 => h9) (congrArg (fun z => some (Value.int z)) hp4) d_G_person_25 ?_
      refine lv_iconst (v := 4) hx hb d_G_person_28 (by decide) ?_
      refine lv_icmp_lt (tgt := 42) hx hb d_G_person_29 (by decide) (fun c29 => ?_) (fun c29 => ?_)
      · have c29 := c29
        have nc29 : 4 < 4 := (nI_ltI (a := 4) (b := 4) (by omega) (by omega)).mp c29
        exact False.elim (by omega)
      · have c29 := c29
        have nc29 : ¬ 4 < 4 := fun h => c29 ((nI_ltI (a := 4) (b := 4) (by omega) (by omega)).mpr h)
        exact gx_thr (X := "java/lang/IllegalStateException") (ik := 54) (is := 56) (ic := 58) (tx := "there are four persons") hx hb hlt hown (by decide) (hts _ w2_83) (hts _ w1_9) hSt gx_hat2 (by decide) (hl.1.trans hml.symm) d_G_person_32 d_G_person_35 d_G_person_36 d_G_person_38 d_G_person_41 hem (Nat.le_of_ble_eq_true rfl) (Nat.le_of_ble_eq_true rfl) (Nat.le_of_ble_eq_true rfl) (Nat.le_of_ble_eq_true rfl) hlocks
    · have c8 := c8
      have mc8 : 256 ≤ x := Int32.not_lt.mp c8
      exact False.elim (c8 h2)
set_option maxHeartbeats 4000000 in
set_option maxRecDepth 100000 in
theorem c_G_off (l : Launch) (E : gp_E) (I : Nat → Int32) (F : Nat → Nat → Int32) (ns : Nat) (x y z : Int32) (h : gp_in x (I 4) = true) (hN : I 5 = nI ns) (hns : ns < 20) (s1 : ¬ y < 0) (s2 : ¬ z ≤ y) (s3 : z ≤ 96) : gp_CW l y_G_off b_G_off 4 (some .int) 3 E (gp_wG E I F) (gp_wG E (upd I 5 (nI (ns + 1))) (gp_uF (gp_uF (gp_uF F 1 (upd (F 1) ns x)) 2 (upd (F 2) ns y)) 3 (upd (F 3) ns z))) [.ref (E.2.2.2 0), .int x, .int y, .int z] (some (.int (nI (ns + 1)))) := by
  refine gp_ofW (by decide) (Nat.le_of_ble_eq_true rfl) ?_
  intro xp xe xs xm below meth xc ls A hx hb hr hts hown hlocks hml hP hK hD hA hAe hl
  have hS : va_S A xs.heap xs.heap [] := va_S.rf
  have hown : xs.vm.findClass "GuidePlans" = some xm.cls := hown
  have hl : lv_has ls 4 [(0, .ref (E.2.2.2 0)), (1, .int x), (2, .int y), (3, .int z)] := hl
  refine lv_aload_n hx hb d_G_off_0 rfl (lv_at hl 0 rfl) ?_
  refine lv_iload_n hx hb d_G_off_1 rfl (lv_at hl 1 rfl) ?_
  refine gp_cV0 (q0 := 0) (ci := 0) (As := [.int x]) (rest := []) ⟨hx, hb, hml, hown, hts⟩ (c_G_requirePerson l E I F x h) (k_G_63 hts ⟨by decide, by decide⟩ rfl rfl) hK hP rfl rfl rfl hl.1 rfl (Nat.le_of_ble_eq_true rfl) d_G_off_2 ⟨Nat.le_of_ble_eq_true rfl, Nat.le_of_ble_eq_true rfl⟩ ?_
  refine lv_aload_n hx hb d_G_off_5 rfl (lv_at hl 0 rfl) ?_
  refine lv_iload_n hx hb d_G_off_6 rfl (lv_at hl 2 rfl) ?_
  refine lv_iload_n hx hb d_G_off_7 rfl (lv_at hl 3 rfl) ?_
  refine gp_cV0 (q0 := 0) (ci := 0) (As := [.int y, .int z]) (rest := []) ⟨hx, hb, hml, hown, hts⟩ (c_G_requireSpan l E I F y z s1 s2 s3) (k_G_67 hts ⟨by decide, by decide⟩ rfl rfl) hK hP rfl rfl rfl hl.1 rfl (Nat.le_of_ble_eq_true rfl) d_G_off_8 ⟨Nat.le_of_ble_eq_true rfl, Nat.le_of_ble_eq_true rfl⟩ ?_
  refine lv_aload_n hx hb d_G_off_11 rfl (lv_at hl 0 rfl) ?_
  refine gp_cV0 (q0 := 0) (ci := 0) (As := []) (rest := []) ⟨hx, hb, hml, hown, hts⟩ (c_G_requireRoomForSpan l E I F ns hN hns) (k_G_71 hts ⟨by decide, by decide⟩ rfl rfl) hK hP rfl rfl rfl hl.1 rfl (Nat.le_of_ble_eq_true rfl) d_G_off_12 ⟨Nat.le_of_ble_eq_true rfl, Nat.le_of_ble_eq_true rfl⟩ ?_
  refine lv_aload_n hx hb d_G_off_15 rfl (lv_at hl 0 rfl) ?_
  refine va_get (D := E.1) (cl := gp_cl) (ci := 0) (v := .ref (E.2.2.2 1)) (C := R_G) (T := T_G) (N := 8) hx hb hts i_G hown hK hP 0 rfl rfl 0 (by decide) (hts _ w1_117) (fun _ h9 => h9) rfl d_G_off_16 ?_
  refine lv_iload_n hx hb d_G_off_19 rfl (lv_at hl 1 rfl) ?_
  refine lv_iload_n hx hb d_G_off_20 rfl (lv_at hl 2 rfl) ?_
  refine lv_iload_n hx hb d_G_off_21 rfl (lv_at hl 3 rfl) ?_
  refine gp_cW (q0 := 1) (ci := 1) (As := [.int x, .int y, .int z]) (rest := []) ⟨hx, hb, hml, hown, hts⟩ (c_D_addSpan l E I F ns x y z hN hns) (k_G_74 hts ⟨by decide, by decide⟩ rfl rfl) hK hP hD hS hA rfl rfl rfl rfl hl.1 rfl (Nat.le_of_ble_eq_true rfl) d_G_off_22 ⟨Nat.le_of_ble_eq_true rfl, Nat.le_of_ble_eq_true rfl⟩ (fun H locs hP hD hS => ?_)
  have hP : va_P E.1 gp_cl (gp_wG E (upd I 5 (nI (ns + 1))) (gp_uF (gp_uF (gp_uF F 1 (upd (F 1) ns x)) 2 (upd (F 2) ns y)) 3 (upd (F 3) ns z))) H := hP
  have hD : va_D A (gp_wG E (upd I 5 (nI (ns + 1))) (gp_uF (gp_uF (gp_uF F 1 (upd (F 1) ns x)) 2 (upd (F 2) ns y)) 3 (upd (F 3) ns z))) := hD
  refine lv_aload_n hx hb d_G_off_25 rfl (lv_at hl 0 rfl) ?_
  refine va_get (D := E.1) (cl := gp_cl) (ci := 0) (v := .ref (E.2.2.2 1)) (C := R_G) (T := T_G) (N := 8) hx hb hts i_G hown hK hP 0 rfl rfl 0 (by decide) (hts _ w1_117) (fun _ h9 => h9) rfl d_G_off_26 ?_
  refine va_get (D := E.1) (cl := gp_cl) (ci := 1) (v := .int (nI (ns + 1))) (C := R_D) (T := T_D) (N := 13) hx hb hts i_D hown hK hP 1 rfl rfl 9 (by decide) (hts _ w1_43) (fun _ h9 => h9) rfl d_G_off_29 ?_
  exact gp_wi hx hb hr hlocks hAe (rfl) (hP) hS d_G_off_32
set_option maxHeartbeats 4000000 in
set_option maxRecDepth 100000 in
theorem x_G_off1 (l : Launch) (E : gp_E) (I : Nat → Int32) (F : Nat → Nat → Int32) (x y z : Int32) (hlt : l.stackTraces = false) (h : gp_in x (I 4) = false) : gx_CT l y_G_off b_G_off 4 (some .int) 7 E (gp_wG E I F) [.ref (E.2.2.2 0), .int x, .int y, .int z] "java/util/NoSuchElementException" := by
  refine gx_ofT (by decide) (Nat.le_of_ble_eq_true rfl) ?_
  intro xp xe xs xm below meth xc ls hx hb hr hts hown hlocks hml hem hP hK hSt hl
  have hown : xs.vm.findClass "GuidePlans" = some xm.cls := hown
  have hl : lv_has ls 4 [(0, .ref (E.2.2.2 0)), (1, .int x), (2, .int y), (3, .int z)] := hl
  refine lv_aload_n hx hb d_G_off_0 rfl (lv_at hl 0 rfl) ?_
  refine lv_iload_n hx hb d_G_off_1 rfl (lv_at hl 1 rfl) ?_
  exact gx_cV (q0 := 0) (ci := 0) (As := [.int x]) (rest := []) ⟨hx, hb, hml, hown, hts⟩ (x_G_requirePerson l E I F x hlt h) (k_G_63 hts ⟨by decide, by decide⟩ rfl rfl) hK hP hSt rfl rfl rfl hl.1 rfl (Nat.le_of_ble_eq_true rfl) d_G_off_2 ⟨Nat.le_of_ble_eq_true rfl, Nat.le_of_ble_eq_true rfl⟩ hem hlocks
set_option maxHeartbeats 4000000 in
set_option maxRecDepth 100000 in
theorem x_G_off2 (l : Launch) (E : gp_E) (I : Nat → Int32) (F : Nat → Nat → Int32) (x y z : Int32) (hlt : l.stackTraces = false) (h : gp_in x (I 4) = true) (hs : ¬ (¬ y < 0 ∧ ¬ z ≤ y ∧ z ≤ 96)) : gx_CT l y_G_off b_G_off 4 (some .int) 7 E (gp_wG E I F) [.ref (E.2.2.2 0), .int x, .int y, .int z] "java/lang/IllegalArgumentException" := by
  refine gx_ofT (by decide) (Nat.le_of_ble_eq_true rfl) ?_
  intro xp xe xs xm below meth xc ls hx hb hr hts hown hlocks hml hem hP hK hSt hl
  have hown : xs.vm.findClass "GuidePlans" = some xm.cls := hown
  have hl : lv_has ls 4 [(0, .ref (E.2.2.2 0)), (1, .int x), (2, .int y), (3, .int z)] := hl
  refine lv_aload_n hx hb d_G_off_0 rfl (lv_at hl 0 rfl) ?_
  refine lv_iload_n hx hb d_G_off_1 rfl (lv_at hl 1 rfl) ?_
  refine gp_cV0 (q0 := 0) (ci := 0) (As := [.int x]) (rest := []) ⟨hx, hb, hml, hown, hts⟩ (c_G_requirePerson l E I F x h) (k_G_63 hts ⟨by decide, by decide⟩ rfl rfl) hK hP rfl rfl rfl hl.1 rfl (Nat.le_of_ble_eq_true rfl) d_G_off_2 ⟨Nat.le_of_ble_eq_true rfl, Nat.le_of_ble_eq_true rfl⟩ ?_
  refine lv_aload_n hx hb d_G_off_5 rfl (lv_at hl 0 rfl) ?_
  refine lv_iload_n hx hb d_G_off_6 rfl (lv_at hl 2 rfl) ?_
  refine lv_iload_n hx hb d_G_off_7 rfl (lv_at hl 3 rfl) ?_
  exact gx_cV (q0 := 0) (ci := 0) (As := [.int y, .int z]) (rest := []) ⟨hx, hb, hml, hown, hts⟩ (x_G_requireSpan l E I F y z hlt hs) (k_G_67 hts ⟨by decide, by decide⟩ rfl rfl) hK hP hSt rfl rfl rfl hl.1 rfl (Nat.le_of_ble_eq_true rfl) d_G_off_8 ⟨Nat.le_of_ble_eq_true rfl, Nat.le_of_ble_eq_true rfl⟩ hem hlocks
set_option maxHeartbeats 4000000 in
set_option maxRecDepth 100000 in
theorem x_G_off3 (l : Launch) (E : gp_E) (I : Nat → Int32) (F : Nat → Nat → Int32) (x y z : Int32) (hlt : l.stackTraces = false) (h : gp_in x (I 4) = true) (s1 : ¬ y < 0) (s2 : ¬ z ≤ y) (s3 : z ≤ 96) (hN : I 5 = nI 20) : gx_CT l y_G_off b_G_off 4 (some .int) 7 E (gp_wG E I F) [.ref (E.2.2.2 0), .int x, .int y, .int z] "java/lang/IllegalStateException" := by
  refine gx_ofT (by decide) (Nat.le_of_ble_eq_true rfl) ?_
  intro xp xe xs xm below meth xc ls hx hb hr hts hown hlocks hml hem hP hK hSt hl
  have hown : xs.vm.findClass "GuidePlans" = some xm.cls := hown
  have hl : lv_has ls 4 [(0, .ref (E.2.2.2 0)), (1, .int x), (2, .int y), (3, .int z)] := hl
  refine lv_aload_n hx hb d_G_off_0 rfl (lv_at hl 0 rfl) ?_
  refine lv_iload_n hx hb d_G_off_1 rfl (lv_at hl 1 rfl) ?_
  refine gp_cV0 (q0 := 0) (ci := 0) (As := [.int x]) (rest := []) ⟨hx, hb, hml, hown, hts⟩ (c_G_requirePerson l E I F x h) (k_G_63 hts ⟨by decide, by decide⟩ rfl rfl) hK hP rfl rfl rfl hl.1 rfl (Nat.le_of_ble_eq_true rfl) d_G_off_2 ⟨Nat.le_of_ble_eq_true rfl, Nat.le_of_ble_eq_true rfl⟩ ?_
  refine lv_aload_n hx hb d_G_off_5 rfl (lv_at hl 0 rfl) ?_
  refine lv_iload_n hx hb d_G_off_6 rfl (lv_at hl 2 rfl) ?_
  refine lv_iload_n hx hb d_G_off_7 rfl (lv_at hl 3 rfl) ?_
  refine gp_cV0 (q0 := 0) (ci := 0) (As := [.int y, .int z]) (rest := []) ⟨hx, hb, hml, hown, hts⟩ (c_G_requireSpan l E I F y z s1 s2 s3) (k_G_67 hts ⟨by decide, by decide⟩ rfl rfl) hK hP rfl rfl rfl hl.1 rfl (Nat.le_of_ble_eq_true rfl) d_G_off_8 ⟨Nat.le_of_ble_eq_true rfl, Nat.le_of_ble_eq_true rfl⟩ ?_
  refine lv_aload_n hx hb d_G_off_11 rfl (lv_at hl 0 rfl) ?_
  exact gx_cV (q0 := 0) (ci := 0) (As := []) (rest := []) ⟨hx, hb, hml, hown, hts⟩ (x_G_requireRoomForSpan l E I F hlt hN) (k_G_71 hts ⟨by decide, by decide⟩ rfl rfl) hK hP hSt rfl rfl rfl hl.1 rfl (Nat.le_of_ble_eq_true rfl) d_G_off_12 ⟨Nat.le_of_ble_eq_true rfl, Nat.le_of_ble_eq_true rfl⟩ hem hlocks
set_option maxHeartbeats 4000000 in
set_option maxRecDepth 100000 in
theorem c_G_task (l : Launch) (E : gp_E) (I : Nat → Int32) (F : Nat → Nat → Int32) (nt : Nat) (x y z b : Int32) (hT : I 6 = nI nt) (hnt : nt < 6) (k1 : ¬ x < 0) (k2 : x < 8) (s1 : ¬ y < 0) (s2 : ¬ z ≤ y) (s3 : z ≤ 96) (hb1 : vp_nar .boolean b = b) : gp_CW l y_G_task b_G_task 5 (some .int) 3 E (gp_wG E I F) (gp_wG E (upd I 6 (nI (nt + 1))) (gp_uF (gp_uF (gp_uF (gp_uF (gp_uF F 14 (upd (F 14) nt (-1))) 4 (upd (F 4) nt x)) 5 (upd (F 5) nt y)) 6 (upd (F 6) nt z)) 7 (upd (F 7) nt b))) [.ref (E.2.2.2 0), .int x, .int y, .int z, .int b] (some (.int (nI nt))) := by
  refine gp_ofW (by decide) (Nat.le_of_ble_eq_true rfl) ?_
  intro xp xe xs xm below meth xc ls A hx hb hr hts hown hlocks hml hP hK hD hA hAe hl
  have hS : va_S A xs.heap xs.heap [] := va_S.rf
  have hown : xs.vm.findClass "GuidePlans" = some xm.cls := hown
  have hl : lv_has ls 5 [(0, .ref (E.2.2.2 0)), (1, .int x), (2, .int y), (3, .int z), (4, .int b)] := hl
  refine lv_iload_n hx hb d_G_task_0 rfl (lv_at hl 1 rfl) ?_
  refine lv_if_lt (tgt := 10) hx hb d_G_task_1 (by decide) (fun c1 => ?_) (fun c1 => ?_)
  · have c1 := c1
    have mc1 : ¬ 0 ≤ x := Int32.not_le.mpr c1
    exact False.elim (k1 c1)
  · have c1 := c1
    have mc1 : 0 ≤ x := Int32.not_lt.mp c1
    refine lv_iload_n hx hb d_G_task_4 rfl (lv_at hl 1 rfl) ?_
    refine lv_bipush (v := 8) hx hb d_G_task_5 (by decide) ?_
    refine lv_icmp_lt (tgt := 20) hx hb d_G_task_7 (by decide) (fun c7 => ?_) (fun c7 => ?_)
    · have c7 := c7
      have mc7 : ¬ 8 ≤ x := Int32.not_le.mpr c7
      refine lv_aload_n hx hb d_G_task_20 rfl (lv_at hl 0 rfl) ?_
      refine lv_iload_n hx hb d_G_task_21 rfl (lv_at hl 2 rfl) ?_
      refine lv_iload_n hx hb d_G_task_22 rfl (lv_at hl 3 rfl) ?_
      refine gp_cV0 (q0 := 0) (ci := 0) (As := [.int y, .int z]) (rest := []) ⟨hx, hb, hml, hown, hts⟩ (c_G_requireSpan l E I F y z s1 s2 s3) (k_G_67 hts ⟨by decide, by decide⟩ rfl rfl) hK hP rfl rfl rfl hl.1 rfl (Nat.le_of_ble_eq_true rfl) d_G_task_23 ⟨Nat.le_of_ble_eq_true rfl, Nat.le_of_ble_eq_true rfl⟩ ?_
      refine lv_aload_n hx hb d_G_task_26 rfl (lv_at hl 0 rfl) ?_
      refine va_get (D := E.1) (cl := gp_cl) (ci := 0) (v := .ref (E.2.2.2 1)) (C := R_G) (T := T_G) (N := 8) hx hb hts i_G hown hK hP 0 rfl rfl 0 (by decide) (hts _ w1_117) (fun _ h9 => h9) rfl d_G_task_27 ?_
      refine va_get (D := E.1) (cl := gp_cl) (ci := 1) (v := .int (nI nt)) (C := R_D) (T := T_D) (N := 13) hx hb hts i_D hown hK hP 1 rfl rfl 10 (by decide) (hts _ w1_46) (fun _ h9 => h9) (congrArg (fun z => some (Value.int z)) hT) d_G_task_30 ?_
      refine lv_bipush (v := 6) hx hb d_G_task_33 (by decide) ?_
      refine lv_icmp_lt (tgt := 48) hx hb d_G_task_35 (by decide) (fun c35 => ?_) (fun c35 => ?_)
      · have c35 := c35
        have nc35 : nt < 6 := (nI_ltI (a := nt) (b := 6) (by omega) (by omega)).mp c35
        refine lv_aload_n hx hb d_G_task_48 rfl (lv_at hl 0 rfl) ?_
        refine va_get (D := E.1) (cl := gp_cl) (ci := 0) (v := .ref (E.2.2.2 17)) (C := R_G) (T := T_G) (N := 8) hx hb hts i_G hown hK hP 0 rfl rfl 2 (by decide) (hts _ w1_119) (fun _ h9 => h9) rfl d_G_task_49 ?_
        refine lv_aload_n hx hb d_G_task_52 rfl (lv_at hl 0 rfl) ?_
        refine va_get (D := E.1) (cl := gp_cl) (ci := 0) (v := .ref (E.2.2.2 1)) (C := R_G) (T := T_G) (N := 8) hx hb hts i_G hown hK hP 0 rfl rfl 0 (by decide) (hts _ w1_117) (fun _ h9 => h9) rfl d_G_task_53 ?_
        refine va_get (D := E.1) (cl := gp_cl) (ci := 1) (v := .int (nI nt)) (C := R_D) (T := T_D) (N := 13) hx hb hts i_D hown hK hP 1 rfl rfl 10 (by decide) (hts _ w1_46) (fun _ h9 => h9) (congrArg (fun z => some (Value.int z)) hT) d_G_task_56 ?_
        refine lv_iconst (v := (-1)) hx hb d_G_task_59 (by decide) ?_
        refine gp_ast (f := (F 14)) (n := 6) hx hb hK hP hD hS 17 rfl (nt) rfl (by omega) (by decide) d_G_task_60 (fun H locs hP hD hS => ?_)
        have hP : va_P E.1 gp_cl (gp_wG E I (gp_uF F 14 (upd (F 14) (nt) (-1)))) H := hP
        have hD : va_D A (gp_wG E I (gp_uF F 14 (upd (F 14) (nt) (-1)))) := hD
        refine lv_aload_n hx hb d_G_task_61 rfl (lv_at hl 0 rfl) ?_
        refine va_get (D := E.1) (cl := gp_cl) (ci := 0) (v := .ref (E.2.2.2 1)) (C := R_G) (T := T_G) (N := 8) hx hb hts i_G hown hK hP 0 rfl rfl 0 (by decide) (hts _ w1_117) (fun _ h9 => h9) rfl d_G_task_62 ?_
        refine lv_iload_n hx hb d_G_task_65 rfl (lv_at hl 1 rfl) ?_
        refine lv_iload_n hx hb d_G_task_66 rfl (lv_at hl 2 rfl) ?_
        refine lv_iload_n hx hb d_G_task_67 rfl (lv_at hl 3 rfl) ?_
        refine lv_iload hx hb d_G_task_68 (lv_at hl 4 rfl) ?_
        refine gp_cW (q0 := 1) (ci := 1) (As := [.int x, .int y, .int z, .int b]) (rest := []) ⟨hx, hb, hml, hown, hts⟩ (c_D_addTask l E I (gp_uF F 14 (upd (F 14) (nt) (-1))) nt x y z b hT hnt hb1) (k_G_91 hts ⟨by decide, by decide⟩ rfl rfl) hK hP hD hS hA rfl rfl rfl rfl hl.1 rfl (Nat.le_of_ble_eq_true rfl) d_G_task_70 ⟨Nat.le_of_ble_eq_true rfl, Nat.le_of_ble_eq_true rfl⟩ (fun H locs hP hD hS => ?_)
        have hP : va_P E.1 gp_cl (gp_wG E (upd I 6 (nI (nt + 1))) (gp_uF (gp_uF (gp_uF (gp_uF (gp_uF F 14 (upd (F 14) nt (-1))) 4 (upd (F 4) nt x)) 5 (upd (F 5) nt y)) 6 (upd (F 6) nt z)) 7 (upd (F 7) nt b))) H := hP
        have hD : va_D A (gp_wG E (upd I 6 (nI (nt + 1))) (gp_uF (gp_uF (gp_uF (gp_uF (gp_uF F 14 (upd (F 14) nt (-1))) 4 (upd (F 4) nt x)) 5 (upd (F 5) nt y)) 6 (upd (F 6) nt z)) 7 (upd (F 7) nt b))) := hD
        refine W.eq (g2 := F0 xm 73 ls [.int (nI nt)]) rfl ?_
        exact gp_wi hx hb hr hlocks hAe (rfl) (hP) hS d_G_task_73
      · have c35 := c35
        have nc35 : ¬ nt < 6 := fun h => c35 ((nI_ltI (a := nt) (b := 6) (by omega) (by omega)).mpr h)
        exact False.elim (by omega)
    · have c7 := c7
      have mc7 : 8 ≤ x := Int32.not_lt.mp c7
      exact False.elim (c7 k2)
set_option maxHeartbeats 4000000 in
set_option maxRecDepth 100000 in
theorem x_G_task1 (l : Launch) (E : gp_E) (I : Nat → Int32) (F : Nat → Nat → Int32) (x y z b : Int32) (hlt : l.stackTraces = false) (h : ¬ (¬ x < 0 ∧ x < 8)) : gx_CT l y_G_task b_G_task 5 (some .int) 6 E (gp_wG E I F) [.ref (E.2.2.2 0), .int x, .int y, .int z, .int b] "java/util/NoSuchElementException" := by
  refine gx_ofT (by decide) (Nat.le_of_ble_eq_true rfl) ?_
  intro xp xe xs xm below meth xc ls hx hb hr hts hown hlocks hml hem hP hK hSt hl
  have hown : xs.vm.findClass "GuidePlans" = some xm.cls := hown
  have hl : lv_has ls 5 [(0, .ref (E.2.2.2 0)), (1, .int x), (2, .int y), (3, .int z), (4, .int b)] := hl
  refine lv_iload_n hx hb d_G_task_0 rfl (lv_at hl 1 rfl) ?_
  refine lv_if_lt (tgt := 10) hx hb d_G_task_1 (by decide) (fun c1 => ?_) (fun c1 => ?_)
  · have c1 := c1
    have mc1 : ¬ 0 ≤ x := Int32.not_le.mpr c1
    exact gx_thr (X := "java/util/NoSuchElementException") (ik := 81) (is := 83) (ic := 85) (tx := "no such skill") hx hb hlt hown (by decide) (hts _ w2_116) (hts _ w1_10) hSt gx_hat3 (by decide) (hl.1.trans hml.symm) d_G_task_10 d_G_task_13 d_G_task_14 d_G_task_16 d_G_task_19 hem (Nat.le_of_ble_eq_true rfl) (Nat.le_of_ble_eq_true rfl) (Nat.le_of_ble_eq_true rfl) (Nat.le_of_ble_eq_true rfl) hlocks
  · have c1 := c1
    have mc1 : 0 ≤ x := Int32.not_lt.mp c1
    refine lv_iload_n hx hb d_G_task_4 rfl (lv_at hl 1 rfl) ?_
    refine lv_bipush (v := 8) hx hb d_G_task_5 (by decide) ?_
    refine lv_icmp_lt (tgt := 20) hx hb d_G_task_7 (by decide) (fun c7 => ?_) (fun c7 => ?_)
    · have c7 := c7
      have mc7 : ¬ 8 ≤ x := Int32.not_le.mpr c7
      exact (h ⟨c1, c7⟩).elim
    · have c7 := c7
      have mc7 : 8 ≤ x := Int32.not_lt.mp c7
      exact gx_thr (X := "java/util/NoSuchElementException") (ik := 81) (is := 83) (ic := 85) (tx := "no such skill") hx hb hlt hown (by decide) (hts _ w2_116) (hts _ w1_10) hSt gx_hat3 (by decide) (hl.1.trans hml.symm) d_G_task_10 d_G_task_13 d_G_task_14 d_G_task_16 d_G_task_19 hem (Nat.le_of_ble_eq_true rfl) (Nat.le_of_ble_eq_true rfl) (Nat.le_of_ble_eq_true rfl) (Nat.le_of_ble_eq_true rfl) hlocks
set_option maxHeartbeats 4000000 in
set_option maxRecDepth 100000 in
theorem x_G_task2 (l : Launch) (E : gp_E) (I : Nat → Int32) (F : Nat → Nat → Int32) (x y z b : Int32) (hlt : l.stackTraces = false) (k1 : ¬ x < 0) (k2 : x < 8) (hs : ¬ (¬ y < 0 ∧ ¬ z ≤ y ∧ z ≤ 96)) : gx_CT l y_G_task b_G_task 5 (some .int) 7 E (gp_wG E I F) [.ref (E.2.2.2 0), .int x, .int y, .int z, .int b] "java/lang/IllegalArgumentException" := by
  refine gx_ofT (by decide) (Nat.le_of_ble_eq_true rfl) ?_
  intro xp xe xs xm below meth xc ls hx hb hr hts hown hlocks hml hem hP hK hSt hl
  have hown : xs.vm.findClass "GuidePlans" = some xm.cls := hown
  have hl : lv_has ls 5 [(0, .ref (E.2.2.2 0)), (1, .int x), (2, .int y), (3, .int z), (4, .int b)] := hl
  refine lv_iload_n hx hb d_G_task_0 rfl (lv_at hl 1 rfl) ?_
  refine lv_if_lt (tgt := 10) hx hb d_G_task_1 (by decide) (fun c1 => ?_) (fun c1 => ?_)
  · have c1 := c1
    have mc1 : ¬ 0 ≤ x := Int32.not_le.mpr c1
    exact False.elim (k1 c1)
  · have c1 := c1
    have mc1 : 0 ≤ x := Int32.not_lt.mp c1
    refine lv_iload_n hx hb d_G_task_4 rfl (lv_at hl 1 rfl) ?_
    refine lv_bipush (v := 8) hx hb d_G_task_5 (by decide) ?_
    refine lv_icmp_lt (tgt := 20) hx hb d_G_task_7 (by decide) (fun c7 => ?_) (fun c7 => ?_)
    · have c7 := c7
      have mc7 : ¬ 8 ≤ x := Int32.not_le.mpr c7
      refine lv_aload_n hx hb d_G_task_20 rfl (lv_at hl 0 rfl) ?_
      refine lv_iload_n hx hb d_G_task_21 rfl (lv_at hl 2 rfl) ?_
      refine lv_iload_n hx hb d_G_task_22 rfl (lv_at hl 3 rfl) ?_
      exact gx_cV (q0 := 0) (ci := 0) (As := [.int y, .int z]) (rest := []) ⟨hx, hb, hml, hown, hts⟩ (x_G_requireSpan l E I F y z hlt hs) (k_G_67 hts ⟨by decide, by decide⟩ rfl rfl) hK hP hSt rfl rfl rfl hl.1 rfl (Nat.le_of_ble_eq_true rfl) d_G_task_23 ⟨Nat.le_of_ble_eq_true rfl, Nat.le_of_ble_eq_true rfl⟩ hem hlocks
    · have c7 := c7
      have mc7 : 8 ≤ x := Int32.not_lt.mp c7
      exact False.elim (c7 k2)
set_option maxHeartbeats 4000000 in
set_option maxRecDepth 100000 in
theorem x_G_task3 (l : Launch) (E : gp_E) (I : Nat → Int32) (F : Nat → Nat → Int32) (x y z b : Int32) (hlt : l.stackTraces = false) (k1 : ¬ x < 0) (k2 : x < 8) (s1 : ¬ y < 0) (s2 : ¬ z ≤ y) (s3 : z ≤ 96) (hT : I 6 = nI 6) : gx_CT l y_G_task b_G_task 5 (some .int) 7 E (gp_wG E I F) [.ref (E.2.2.2 0), .int x, .int y, .int z, .int b] "java/lang/IllegalStateException" := by
  refine gx_ofT (by decide) (Nat.le_of_ble_eq_true rfl) ?_
  intro xp xe xs xm below meth xc ls hx hb hr hts hown hlocks hml hem hP hK hSt hl
  have hown : xs.vm.findClass "GuidePlans" = some xm.cls := hown
  have hl : lv_has ls 5 [(0, .ref (E.2.2.2 0)), (1, .int x), (2, .int y), (3, .int z), (4, .int b)] := hl
  refine lv_iload_n hx hb d_G_task_0 rfl (lv_at hl 1 rfl) ?_
  refine lv_if_lt (tgt := 10) hx hb d_G_task_1 (by decide) (fun c1 => ?_) (fun c1 => ?_)
  · have c1 := c1
    have mc1 : ¬ 0 ≤ x := Int32.not_le.mpr c1
    exact False.elim (k1 c1)
  · have c1 := c1
    have mc1 : 0 ≤ x := Int32.not_lt.mp c1
    refine lv_iload_n hx hb d_G_task_4 rfl (lv_at hl 1 rfl) ?_
    refine lv_bipush (v := 8) hx hb d_G_task_5 (by decide) ?_
    refine lv_icmp_lt (tgt := 20) hx hb d_G_task_7 (by decide) (fun c7 => ?_) (fun c7 => ?_)
    · have c7 := c7
      have mc7 : ¬ 8 ≤ x := Int32.not_le.mpr c7
      refine lv_aload_n hx hb d_G_task_20 rfl (lv_at hl 0 rfl) ?_
      refine lv_iload_n hx hb d_G_task_21 rfl (lv_at hl 2 rfl) ?_
      refine lv_iload_n hx hb d_G_task_22 rfl (lv_at hl 3 rfl) ?_
      refine gp_cV0 (q0 := 0) (ci := 0) (As := [.int y, .int z]) (rest := []) ⟨hx, hb, hml, hown, hts⟩ (c_G_requireSpan l E I F y z s1 s2 s3) (k_G_67 hts ⟨by decide, by decide⟩ rfl rfl) hK hP rfl rfl rfl hl.1 rfl (Nat.le_of_ble_eq_true rfl) d_G_task_23 ⟨Nat.le_of_ble_eq_true rfl, Nat.le_of_ble_eq_true rfl⟩ ?_
      refine lv_aload_n hx hb d_G_task_26 rfl (lv_at hl 0 rfl) ?_
      refine va_get (D := E.1) (cl := gp_cl) (ci := 0) (v := .ref (E.2.2.2 1)) (C := R_G) (T := T_G) (N := 8) hx hb hts i_G hown hK hP 0 rfl rfl 0 (by decide) (hts _ w1_117) (fun _ h9 => h9) rfl d_G_task_27 ?_
      refine va_get (D := E.1) (cl := gp_cl) (ci := 1) (v := .int (nI 6)) (C := R_D) (T := T_D) (N := 13) hx hb hts i_D hown hK hP 1 rfl rfl 10 (by decide) (hts _ w1_46) (fun _ h9 => h9) (congrArg (fun z => some (Value.int z)) hT) d_G_task_30 ?_
      refine lv_bipush (v := 6) hx hb d_G_task_33 (by decide) ?_
      refine lv_icmp_lt (tgt := 48) hx hb d_G_task_35 (by decide) (fun c35 => ?_) (fun c35 => ?_)
      · have c35 := c35
        have nc35 : 6 < 6 := (nI_ltI (a := 6) (b := 6) (by omega) (by omega)).mp c35
        exact False.elim (by omega)
      · have c35 := c35
        have nc35 : ¬ 6 < 6 := fun h => c35 ((nI_ltI (a := 6) (b := 6) (by omega) (by omega)).mpr h)
        exact gx_thr (X := "java/lang/IllegalStateException") (ik := 54) (is := 89) (ic := 58) (tx := "there are six tasks") hx hb hlt hown (by decide) (hts _ w2_83) (hts _ w1_9) hSt gx_hat2 (by decide) (hl.1.trans hml.symm) d_G_task_38 d_G_task_41 d_G_task_42 d_G_task_44 d_G_task_47 hem (Nat.le_of_ble_eq_true rfl) (Nat.le_of_ble_eq_true rfl) (Nat.le_of_ble_eq_true rfl) (Nat.le_of_ble_eq_true rfl) hlocks
    · have c7 := c7
      have mc7 : 8 ≤ x := Int32.not_lt.mp c7
      exact False.elim (c7 k2)
set_option maxHeartbeats 4000000 in
set_option maxRecDepth 100000 in
theorem c_G_rest (l : Launch) (E : gp_E) (I : Nat → Int32) (F : Nat → Nat → Int32) (x : Int32) (h1 : ¬ x < 0) (h3 : x ≤ 96) : gp_CW l y_G_rest b_G_rest 3 (some .int) 2 E (gp_wG E I F) (gp_wG E (upd I 7 x) F) [.ref (E.2.2.2 0), .int x] (some (.int (I 7))) := by
  refine gp_ofW (by decide) (Nat.le_of_ble_eq_true rfl) ?_
  intro xp xe xs xm below meth xc ls A hx hb hr hts hown hlocks hml hP hK hD hA hAe hl
  have hS : va_S A xs.heap xs.heap [] := va_S.rf
  have hown : xs.vm.findClass "GuidePlans" = some xm.cls := hown
  have hl : lv_has ls 3 [(0, .ref (E.2.2.2 0)), (1, .int x)] := hl
  refine lv_aload_n hx hb d_G_rest_0 rfl (lv_at hl 0 rfl) ?_
  refine lv_iload_n hx hb d_G_rest_1 rfl (lv_at hl 1 rfl) ?_
  refine gp_cV0 (q0 := 0) (ci := 0) (As := [.int x]) (rest := []) ⟨hx, hb, hml, hown, hts⟩ (c_G_requireQuarters l E I F x h1 h3) (k_G_95 hts ⟨by decide, by decide⟩ rfl rfl) hK hP rfl rfl rfl hl.1 rfl (Nat.le_of_ble_eq_true rfl) d_G_rest_2 ⟨Nat.le_of_ble_eq_true rfl, Nat.le_of_ble_eq_true rfl⟩ ?_
  refine lv_aload_n hx hb d_G_rest_5 rfl (lv_at hl 0 rfl) ?_
  refine va_get (D := E.1) (cl := gp_cl) (ci := 0) (v := .ref (E.2.2.2 1)) (C := R_G) (T := T_G) (N := 8) hx hb hts i_G hown hK hP 0 rfl rfl 0 (by decide) (hts _ w1_117) (fun _ h9 => h9) rfl d_G_rest_6 ?_
  refine va_get (D := E.1) (cl := gp_cl) (ci := 1) (v := .int (I 7)) (C := R_D) (T := T_D) (N := 13) hx hb hts i_D hown hK hP 1 rfl rfl 11 (by decide) (hts _ w1_48) (fun _ h9 => h9) rfl d_G_rest_9 ?_
  refine lv_istore_n (lv' := [(2, .int (I 7)), (0, .ref (E.2.2.2 0)), (1, .int x)]) hx hb d_G_rest_12 rfl hl (by decide) rfl (fun ls hl => ?_)
  refine lv_aload_n hx hb d_G_rest_13 rfl (lv_at hl 1 rfl) ?_
  refine va_get (D := E.1) (cl := gp_cl) (ci := 0) (v := .ref (E.2.2.2 1)) (C := R_G) (T := T_G) (N := 8) hx hb hts i_G hown hK hP 0 rfl rfl 0 (by decide) (hts _ w1_117) (fun _ h9 => h9) rfl d_G_rest_14 ?_
  refine lv_iload_n hx hb d_G_rest_17 rfl (lv_at hl 2 rfl) ?_
  refine va_put (D := E.1) (cl := gp_cl) (ci := 1) (v := .int x) (ty := .int) (C := R_D) (T := T_D) (N := 13) hx hb hts i_D t_D t_D_ok n_D hown hK hP hD hS 1 rfl rfl 11 (by decide) (hts _ w1_48) (fun _ h9 => h9) rfl (by decide +kernel) rfl rfl (Nat.le_of_ble_eq_true rfl) d_G_rest_18 (fun H locs hP hD hS => ?_)
  have hP : va_P E.1 gp_cl (gp_wG E (upd I 7 x) F) H := hP
  have hD : va_D A (gp_wG E (upd I 7 x) F) := hD
  refine lv_iload_n hx hb d_G_rest_21 rfl (lv_at hl 0 rfl) ?_
  exact gp_wi hx hb hr hlocks hAe (rfl) (hP) hS d_G_rest_22
set_option maxHeartbeats 4000000 in
set_option maxRecDepth 100000 in
theorem x_G_rest (l : Launch) (E : gp_E) (I : Nat → Int32) (F : Nat → Nat → Int32) (x : Int32) (hlt : l.stackTraces = false) (h : ¬ (¬ x < 0 ∧ x ≤ 96)) : gx_CT l y_G_rest b_G_rest 3 (some .int) 7 E (gp_wG E I F) [.ref (E.2.2.2 0), .int x] "java/lang/IllegalArgumentException" := by
  refine gx_ofT (by decide) (Nat.le_of_ble_eq_true rfl) ?_
  intro xp xe xs xm below meth xc ls hx hb hr hts hown hlocks hml hem hP hK hSt hl
  have hown : xs.vm.findClass "GuidePlans" = some xm.cls := hown
  have hl : lv_has ls 3 [(0, .ref (E.2.2.2 0)), (1, .int x)] := hl
  refine lv_aload_n hx hb d_G_rest_0 rfl (lv_at hl 0 rfl) ?_
  refine lv_iload_n hx hb d_G_rest_1 rfl (lv_at hl 1 rfl) ?_
  exact gx_cV (q0 := 0) (ci := 0) (As := [.int x]) (rest := []) ⟨hx, hb, hml, hown, hts⟩ (x_G_requireQuarters l E I F x hlt h) (k_G_95 hts ⟨by decide, by decide⟩ rfl rfl) hK hP hSt rfl rfl rfl hl.1 rfl (Nat.le_of_ble_eq_true rfl) d_G_rest_2 ⟨Nat.le_of_ble_eq_true rfl, Nat.le_of_ble_eq_true rfl⟩ hem hlocks
set_option maxHeartbeats 4000000 in
set_option maxRecDepth 100000 in
theorem c_G_limit (l : Launch) (E : gp_E) (I : Nat → Int32) (F : Nat → Nat → Int32) (x : Int32) (h1 : ¬ x < 0) (h3 : x ≤ 96) : gp_CW l y_G_limit b_G_limit 3 (some .int) 2 E (gp_wG E I F) (gp_wG E (upd I 8 x) F) [.ref (E.2.2.2 0), .int x] (some (.int (I 8))) := by
  refine gp_ofW (by decide) (Nat.le_of_ble_eq_true rfl) ?_
  intro xp xe xs xm below meth xc ls A hx hb hr hts hown hlocks hml hP hK hD hA hAe hl
  have hS : va_S A xs.heap xs.heap [] := va_S.rf
  have hown : xs.vm.findClass "GuidePlans" = some xm.cls := hown
  have hl : lv_has ls 3 [(0, .ref (E.2.2.2 0)), (1, .int x)] := hl
  refine lv_aload_n hx hb d_G_limit_0 rfl (lv_at hl 0 rfl) ?_
  refine lv_iload_n hx hb d_G_limit_1 rfl (lv_at hl 1 rfl) ?_
  refine gp_cV0 (q0 := 0) (ci := 0) (As := [.int x]) (rest := []) ⟨hx, hb, hml, hown, hts⟩ (c_G_requireQuarters l E I F x h1 h3) (k_G_95 hts ⟨by decide, by decide⟩ rfl rfl) hK hP rfl rfl rfl hl.1 rfl (Nat.le_of_ble_eq_true rfl) d_G_limit_2 ⟨Nat.le_of_ble_eq_true rfl, Nat.le_of_ble_eq_true rfl⟩ ?_
  refine lv_aload_n hx hb d_G_limit_5 rfl (lv_at hl 0 rfl) ?_
  refine va_get (D := E.1) (cl := gp_cl) (ci := 0) (v := .ref (E.2.2.2 1)) (C := R_G) (T := T_G) (N := 8) hx hb hts i_G hown hK hP 0 rfl rfl 0 (by decide) (hts _ w1_117) (fun _ h9 => h9) rfl d_G_limit_6 ?_
  refine va_get (D := E.1) (cl := gp_cl) (ci := 1) (v := .int (I 8)) (C := R_D) (T := T_D) (N := 13) hx hb hts i_D hown hK hP 1 rfl rfl 12 (by decide) (hts _ w1_50) (fun _ h9 => h9) rfl d_G_limit_9 ?_
  refine lv_istore_n (lv' := [(2, .int (I 8)), (0, .ref (E.2.2.2 0)), (1, .int x)]) hx hb d_G_limit_12 rfl hl (by decide) rfl (fun ls hl => ?_)
  refine lv_aload_n hx hb d_G_limit_13 rfl (lv_at hl 1 rfl) ?_
  refine va_get (D := E.1) (cl := gp_cl) (ci := 0) (v := .ref (E.2.2.2 1)) (C := R_G) (T := T_G) (N := 8) hx hb hts i_G hown hK hP 0 rfl rfl 0 (by decide) (hts _ w1_117) (fun _ h9 => h9) rfl d_G_limit_14 ?_
  refine lv_iload_n hx hb d_G_limit_17 rfl (lv_at hl 2 rfl) ?_
  refine va_put (D := E.1) (cl := gp_cl) (ci := 1) (v := .int x) (ty := .int) (C := R_D) (T := T_D) (N := 13) hx hb hts i_D t_D t_D_ok n_D hown hK hP hD hS 1 rfl rfl 12 (by decide) (hts _ w1_50) (fun _ h9 => h9) rfl (by decide +kernel) rfl rfl (Nat.le_of_ble_eq_true rfl) d_G_limit_18 (fun H locs hP hD hS => ?_)
  have hP : va_P E.1 gp_cl (gp_wG E (upd I 8 x) F) H := hP
  have hD : va_D A (gp_wG E (upd I 8 x) F) := hD
  refine lv_iload_n hx hb d_G_limit_21 rfl (lv_at hl 0 rfl) ?_
  exact gp_wi hx hb hr hlocks hAe (rfl) (hP) hS d_G_limit_22
set_option maxHeartbeats 4000000 in
set_option maxRecDepth 100000 in
theorem x_G_limit (l : Launch) (E : gp_E) (I : Nat → Int32) (F : Nat → Nat → Int32) (x : Int32) (hlt : l.stackTraces = false) (h : ¬ (¬ x < 0 ∧ x ≤ 96)) : gx_CT l y_G_limit b_G_limit 3 (some .int) 7 E (gp_wG E I F) [.ref (E.2.2.2 0), .int x] "java/lang/IllegalArgumentException" := by
  refine gx_ofT (by decide) (Nat.le_of_ble_eq_true rfl) ?_
  intro xp xe xs xm below meth xc ls hx hb hr hts hown hlocks hml hem hP hK hSt hl
  have hown : xs.vm.findClass "GuidePlans" = some xm.cls := hown
  have hl : lv_has ls 3 [(0, .ref (E.2.2.2 0)), (1, .int x)] := hl
  refine lv_aload_n hx hb d_G_limit_0 rfl (lv_at hl 0 rfl) ?_
  refine lv_iload_n hx hb d_G_limit_1 rfl (lv_at hl 1 rfl) ?_
  exact gx_cV (q0 := 0) (ci := 0) (As := [.int x]) (rest := []) ⟨hx, hb, hml, hown, hts⟩ (x_G_requireQuarters l E I F x hlt h) (k_G_95 hts ⟨by decide, by decide⟩ rfl rfl) hK hP hSt rfl rfl rfl hl.1 rfl (Nat.le_of_ble_eq_true rfl) d_G_limit_2 ⟨Nat.le_of_ble_eq_true rfl, Nat.le_of_ble_eq_true rfl⟩ hem hlocks
set_option maxHeartbeats 4000000 in
set_option maxRecDepth 100000 in
theorem c_G_freeze (l : Launch) (E : gp_E) (I : Nat → Int32) (F : Nat → Nat → Int32) (x : Int32) (h1 : ¬ x < 0) (h3 : x ≤ 96) : gp_CW l y_G_freeze b_G_freeze 3 (some .int) 2 E (gp_wG E I F) (gp_wG E (upd I 1 x) F) [.ref (E.2.2.2 0), .int x] (some (.int (I 1))) := by
  refine gp_ofW (by decide) (Nat.le_of_ble_eq_true rfl) ?_
  intro xp xe xs xm below meth xc ls A hx hb hr hts hown hlocks hml hP hK hD hA hAe hl
  have hS : va_S A xs.heap xs.heap [] := va_S.rf
  have hown : xs.vm.findClass "GuidePlans" = some xm.cls := hown
  have hl : lv_has ls 3 [(0, .ref (E.2.2.2 0)), (1, .int x)] := hl
  refine lv_aload_n hx hb d_G_freeze_0 rfl (lv_at hl 0 rfl) ?_
  refine lv_iload_n hx hb d_G_freeze_1 rfl (lv_at hl 1 rfl) ?_
  refine gp_cV0 (q0 := 0) (ci := 0) (As := [.int x]) (rest := []) ⟨hx, hb, hml, hown, hts⟩ (c_G_requireQuarters l E I F x h1 h3) (k_G_95 hts ⟨by decide, by decide⟩ rfl rfl) hK hP rfl rfl rfl hl.1 rfl (Nat.le_of_ble_eq_true rfl) d_G_freeze_2 ⟨Nat.le_of_ble_eq_true rfl, Nat.le_of_ble_eq_true rfl⟩ ?_
  refine lv_aload_n hx hb d_G_freeze_5 rfl (lv_at hl 0 rfl) ?_
  refine va_get (D := E.1) (cl := gp_cl) (ci := 0) (v := .int (I 1)) (C := R_G) (T := T_G) (N := 8) hx hb hts i_G hown hK hP 0 rfl rfl 5 (by decide) (hts _ w1_122) (fun _ h9 => h9) rfl d_G_freeze_6 ?_
  refine lv_istore_n (lv' := [(2, .int (I 1)), (0, .ref (E.2.2.2 0)), (1, .int x)]) hx hb d_G_freeze_9 rfl hl (by decide) rfl (fun ls hl => ?_)
  refine lv_aload_n hx hb d_G_freeze_10 rfl (lv_at hl 1 rfl) ?_
  refine lv_iload_n hx hb d_G_freeze_11 rfl (lv_at hl 2 rfl) ?_
  refine va_put (D := E.1) (cl := gp_cl) (ci := 0) (v := .int x) (ty := .int) (C := R_G) (T := T_G) (N := 8) hx hb hts i_G t_G t_G_ok n_G hown hK hP hD hS 0 rfl rfl 5 (by decide) (hts _ w1_122) (fun _ h9 => h9) rfl (by decide +kernel) rfl rfl (Nat.le_of_ble_eq_true rfl) d_G_freeze_12 (fun H locs hP hD hS => ?_)
  have hP : va_P E.1 gp_cl (gp_wG E (upd I 1 x) F) H := hP
  have hD : va_D A (gp_wG E (upd I 1 x) F) := hD
  refine lv_iload_n hx hb d_G_freeze_15 rfl (lv_at hl 0 rfl) ?_
  exact gp_wi hx hb hr hlocks hAe (rfl) (hP) hS d_G_freeze_16
set_option maxHeartbeats 4000000 in
set_option maxRecDepth 100000 in
theorem x_G_freeze (l : Launch) (E : gp_E) (I : Nat → Int32) (F : Nat → Nat → Int32) (x : Int32) (hlt : l.stackTraces = false) (h : ¬ (¬ x < 0 ∧ x ≤ 96)) : gx_CT l y_G_freeze b_G_freeze 3 (some .int) 7 E (gp_wG E I F) [.ref (E.2.2.2 0), .int x] "java/lang/IllegalArgumentException" := by
  refine gx_ofT (by decide) (Nat.le_of_ble_eq_true rfl) ?_
  intro xp xe xs xm below meth xc ls hx hb hr hts hown hlocks hml hem hP hK hSt hl
  have hown : xs.vm.findClass "GuidePlans" = some xm.cls := hown
  have hl : lv_has ls 3 [(0, .ref (E.2.2.2 0)), (1, .int x)] := hl
  refine lv_aload_n hx hb d_G_freeze_0 rfl (lv_at hl 0 rfl) ?_
  refine lv_iload_n hx hb d_G_freeze_1 rfl (lv_at hl 1 rfl) ?_
  exact gx_cV (q0 := 0) (ci := 0) (As := [.int x]) (rest := []) ⟨hx, hb, hml, hown, hts⟩ (x_G_requireQuarters l E I F x hlt h) (k_G_95 hts ⟨by decide, by decide⟩ rfl rfl) hK hP hSt rfl rfl rfl hl.1 rfl (Nat.le_of_ble_eq_true rfl) d_G_freeze_2 ⟨Nat.le_of_ble_eq_true rfl, Nat.le_of_ble_eq_true rfl⟩ hem hlocks
set_option maxHeartbeats 4000000 in
set_option maxRecDepth 100000 in
theorem c_G_of (l : Launch) (E : gp_E) (I : Nat → Int32) (F : Nat → Nat → Int32) (nt t : Nat) (hT : I 6 = nI nt) (hnt : nt ≤ 6) (ht : t < nt) : gp_CR l y_G_of b_G_of 2 (some .int) 3 E (gp_wG E I F) [.ref (E.2.2.2 0), .int (nI t)] (F 14 t) := by
  refine gp_ofR (by decide) (Nat.le_of_ble_eq_true rfl) ?_
  intro xp xe xs xm below meth xc ls hx hb hr hts hown hlocks hml hP hK hl
  have hown : xs.vm.findClass "GuidePlans" = some xm.cls := hown
  have hl : lv_has ls 2 [(0, .ref (E.2.2.2 0)), (1, .int (nI t))] := hl
  refine lv_aload_n hx hb d_G_of_0 rfl (lv_at hl 0 rfl) ?_
  refine lv_iload_n hx hb d_G_of_1 rfl (lv_at hl 1 rfl) ?_
  refine gp_cV0 (q0 := 0) (ci := 0) (As := [.int (nI t)]) (rest := []) ⟨hx, hb, hml, hown, hts⟩ (c_G_requireTask l E I F (nI t) (by rw [hT]; exact gp_in_1 ht (by omega))) (k_G_119 hts ⟨by decide, by decide⟩ rfl rfl) hK hP rfl rfl rfl hl.1 rfl (Nat.le_of_ble_eq_true rfl) d_G_of_2 ⟨Nat.le_of_ble_eq_true rfl, Nat.le_of_ble_eq_true rfl⟩ ?_
  refine lv_aload_n hx hb d_G_of_5 rfl (lv_at hl 0 rfl) ?_
  refine va_get (D := E.1) (cl := gp_cl) (ci := 0) (v := .ref (E.2.2.2 17)) (C := R_G) (T := T_G) (N := 8) hx hb hts i_G hown hK hP 0 rfl rfl 2 (by decide) (hts _ w1_119) (fun _ h9 => h9) rfl d_G_of_6 ?_
  refine lv_iload_n hx hb d_G_of_9 rfl (lv_at hl 1 rfl) ?_
  refine gp_ald (f := (F 14)) (n := 6) hx hb hK hP 17 rfl (t) rfl (by omega) (by decide) d_G_of_10 ?_
  exact gp_ri hx hb hr hlocks (rfl) d_G_of_11
set_option maxHeartbeats 4000000 in
set_option maxRecDepth 100000 in
theorem x_G_of (l : Launch) (E : gp_E) (I : Nat → Int32) (F : Nat → Nat → Int32) (x : Int32) (hlt : l.stackTraces = false) (h : gp_in x (I 6) = false) : gx_CT l y_G_of b_G_of 2 (some .int) 7 E (gp_wG E I F) [.ref (E.2.2.2 0), .int x] "java/util/NoSuchElementException" := by
  refine gx_ofT (by decide) (Nat.le_of_ble_eq_true rfl) ?_
  intro xp xe xs xm below meth xc ls hx hb hr hts hown hlocks hml hem hP hK hSt hl
  have hown : xs.vm.findClass "GuidePlans" = some xm.cls := hown
  have hl : lv_has ls 2 [(0, .ref (E.2.2.2 0)), (1, .int x)] := hl
  refine lv_aload_n hx hb d_G_of_0 rfl (lv_at hl 0 rfl) ?_
  refine lv_iload_n hx hb d_G_of_1 rfl (lv_at hl 1 rfl) ?_
  exact gx_cV (q0 := 0) (ci := 0) (As := [.int x]) (rest := []) ⟨hx, hb, hml, hown, hts⟩ (x_G_requireTask l E I F x hlt h) (k_G_119 hts ⟨by decide, by decide⟩ rfl rfl) hK hP hSt rfl rfl rfl hl.1 rfl (Nat.le_of_ble_eq_true rfl) d_G_of_2 ⟨Nat.le_of_ble_eq_true rfl, Nat.le_of_ble_eq_true rfl⟩ hem hlocks
set_option maxHeartbeats 4000000 in
set_option maxRecDepth 100000 in
theorem c_G_cost (l : Launch) (E : gp_E) (I : Nat → Int32) (F : Nat → Nat → Int32) (np nt : Nat) (hpl : ¬ I 3 = 0) (hp4 : I 4 = nI np) (hnp : np ≤ 4) (hT : I 6 = nI nt) (hnt : nt ≤ 6) : gp_CR l y_G_cost b_G_cost 1 (some .int) 3 E (gp_wG E I F) [.ref (E.2.2.2 0)] (gp_e2 (F 14) nt np) := by
  refine gp_ofR (by decide) (Nat.le_of_ble_eq_true rfl) ?_
  intro xp xe xs xm below meth xc ls hx hb hr hts hown hlocks hml hP hK hl
  have hown : xs.vm.findClass "GuidePlans" = some xm.cls := hown
  have hl : lv_has ls 1 [(0, .ref (E.2.2.2 0))] := hl
  refine lv_aload_n hx hb d_G_cost_0 rfl (lv_at hl 0 rfl) ?_
  refine gp_cV0 (q0 := 0) (ci := 0) (As := []) (rest := []) ⟨hx, hb, hml, hown, hts⟩ (c_G_requirePlan l E I F hpl) (k_G_122 hts ⟨by decide, by decide⟩ rfl rfl) hK hP rfl rfl rfl hl.1 rfl (Nat.le_of_ble_eq_true rfl) d_G_cost_1 ⟨Nat.le_of_ble_eq_true rfl, Nat.le_of_ble_eq_true rfl⟩ ?_
  refine lv_aload_n hx hb d_G_cost_4 rfl (lv_at hl 0 rfl) ?_
  refine gp_cR (q0 := 0) (ci := 0) (As := []) (rest := []) ⟨hx, hb, hml, hown, hts⟩ (c_G_planCost l E I F np nt hp4 hnp hT hnt) (k_G_115 hts ⟨by decide, by decide⟩ rfl rfl) hK hP rfl rfl rfl hl.1 rfl (Nat.le_of_ble_eq_true rfl) d_G_cost_5 ⟨Nat.le_of_ble_eq_true rfl, Nat.le_of_ble_eq_true rfl⟩ ?_
  exact gp_ri hx hb hr hlocks (rfl) d_G_cost_8
set_option maxHeartbeats 4000000 in
set_option maxRecDepth 100000 in
theorem x_G_cost (l : Launch) (E : gp_E) (I : Nat → Int32) (F : Nat → Nat → Int32)  (hlt : l.stackTraces = false) (hpl : I 3 = 0) : gx_CT l y_G_cost b_G_cost 1 (some .int) 7 E (gp_wG E I F) [.ref (E.2.2.2 0)] "java/lang/IllegalStateException" := by
  refine gx_ofT (by decide) (Nat.le_of_ble_eq_true rfl) ?_
  intro xp xe xs xm below meth xc ls hx hb hr hts hown hlocks hml hem hP hK hSt hl
  have hown : xs.vm.findClass "GuidePlans" = some xm.cls := hown
  have hl : lv_has ls 1 [(0, .ref (E.2.2.2 0))] := hl
  refine lv_aload_n hx hb d_G_cost_0 rfl (lv_at hl 0 rfl) ?_
  exact gx_cV (q0 := 0) (ci := 0) (As := []) (rest := []) ⟨hx, hb, hml, hown, hts⟩ (x_G_requirePlan l E I F hlt hpl) (k_G_122 hts ⟨by decide, by decide⟩ rfl rfl) hK hP hSt rfl rfl rfl hl.1 rfl (Nat.le_of_ble_eq_true rfl) d_G_cost_1 ⟨Nat.le_of_ble_eq_true rfl, Nat.le_of_ble_eq_true rfl⟩ hem hlocks
set_option maxHeartbeats 4000000 in
set_option maxRecDepth 100000 in
theorem c_G_changed (l : Launch) (E : gp_E) (I : Nat → Int32) (F : Nat → Nat → Int32) (nc j : Nat) (hC : I 0 = nI nc) (hnc : nc ≤ 6) (hj : j < nc) : gp_CR l y_G_changed b_G_changed 2 (some .int) 1 E (gp_wG E I F) [.ref (E.2.2.2 0), .int (nI j)] (F 15 j) := by
  refine gp_ofR (by decide) (Nat.le_of_ble_eq_true rfl) ?_
  intro xp xe xs xm below meth xc ls hx hb hr hts hown hlocks hml hP hK hl
  have hown : xs.vm.findClass "GuidePlans" = some xm.cls := hown
  have hl : lv_has ls 2 [(0, .ref (E.2.2.2 0)), (1, .int (nI j))] := hl
  refine lv_iload_n hx hb d_G_changed_0 rfl (lv_at hl 1 rfl) ?_
  refine lv_if_lt (tgt := 12) hx hb d_G_changed_1 (by decide) (fun c1 => ?_) (fun c1 => ?_)
  · have c1 := c1
    have nc1 : j < 0 := (nI_ltI (a := j) (b := 0) (by omega) (by omega)).mp c1
    exact False.elim (by omega)
  · have c1 := c1
    have nc1 : ¬ j < 0 := fun h => c1 ((nI_ltI (a := j) (b := 0) (by omega) (by omega)).mpr h)
    refine lv_iload_n hx hb d_G_changed_4 rfl (lv_at hl 1 rfl) ?_
    refine lv_aload_n hx hb d_G_changed_5 rfl (lv_at hl 0 rfl) ?_
    refine va_get (D := E.1) (cl := gp_cl) (ci := 0) (v := .int (nI nc)) (C := R_G) (T := T_G) (N := 8) hx hb hts i_G hown hK hP 0 rfl rfl 4 (by decide) (hts _ w1_121) (fun _ h9 => h9) (congrArg (fun z => some (Value.int z)) hC) d_G_changed_6 ?_
    refine lv_icmp_lt (tgt := 22) hx hb d_G_changed_9 (by decide) (fun c9 => ?_) (fun c9 => ?_)
    · have c9 := c9
      have nc9 : j < nc := (nI_ltI (a := j) (b := nc) (by omega) (by omega)).mp c9
      refine lv_aload_n hx hb d_G_changed_22 rfl (lv_at hl 0 rfl) ?_
      refine va_get (D := E.1) (cl := gp_cl) (ci := 0) (v := .ref (E.2.2.2 18)) (C := R_G) (T := T_G) (N := 8) hx hb hts i_G hown hK hP 0 rfl rfl 3 (by decide) (hts _ w1_120) (fun _ h9 => h9) rfl d_G_changed_23 ?_
      refine lv_iload_n hx hb d_G_changed_26 rfl (lv_at hl 1 rfl) ?_
      refine gp_ald (f := (F 15)) (n := 6) hx hb hK hP 18 rfl (j) rfl (by omega) (by decide) d_G_changed_27 ?_
      exact gp_ri hx hb hr hlocks (rfl) d_G_changed_28
    · have c9 := c9
      have nc9 : ¬ j < nc := fun h => c9 ((nI_ltI (a := j) (b := nc) (by omega) (by omega)).mpr h)
      exact False.elim (by omega)
set_option maxHeartbeats 4000000 in
set_option maxRecDepth 100000 in
theorem x_G_changed (l : Launch) (E : gp_E) (I : Nat → Int32) (F : Nat → Nat → Int32) (x : Int32) (hlt : l.stackTraces = false) (h : ¬ (¬ x < 0 ∧ x < I 0)) : gx_CT l y_G_changed b_G_changed 2 (some .int) 6 E (gp_wG E I F) [.ref (E.2.2.2 0), .int x] "java/util/NoSuchElementException" := by
  refine gx_ofT (by decide) (Nat.le_of_ble_eq_true rfl) ?_
  intro xp xe xs xm below meth xc ls hx hb hr hts hown hlocks hml hem hP hK hSt hl
  have hown : xs.vm.findClass "GuidePlans" = some xm.cls := hown
  have hl : lv_has ls 2 [(0, .ref (E.2.2.2 0)), (1, .int x)] := hl
  refine lv_iload_n hx hb d_G_changed_0 rfl (lv_at hl 1 rfl) ?_
  refine lv_if_lt (tgt := 12) hx hb d_G_changed_1 (by decide) (fun c1 => ?_) (fun c1 => ?_)
  · have c1 := c1
    have mc1 : ¬ 0 ≤ x := Int32.not_le.mpr c1
    exact gx_thr (X := "java/util/NoSuchElementException") (ik := 81) (is := 135) (ic := 85) (tx := "no such change") hx hb hlt hown (by decide) (hts _ w2_116) (hts _ w1_10) hSt gx_hat3 (by decide) (hl.1.trans hml.symm) d_G_changed_12 d_G_changed_15 d_G_changed_16 d_G_changed_18 d_G_changed_21 hem (Nat.le_of_ble_eq_true rfl) (Nat.le_of_ble_eq_true rfl) (Nat.le_of_ble_eq_true rfl) (Nat.le_of_ble_eq_true rfl) hlocks
  · have c1 := c1
    have mc1 : 0 ≤ x := Int32.not_lt.mp c1
    refine lv_iload_n hx hb d_G_changed_4 rfl (lv_at hl 1 rfl) ?_
    refine lv_aload_n hx hb d_G_changed_5 rfl (lv_at hl 0 rfl) ?_
    refine va_get (D := E.1) (cl := gp_cl) (ci := 0) (v := .int (I 0)) (C := R_G) (T := T_G) (N := 8) hx hb hts i_G hown hK hP 0 rfl rfl 4 (by decide) (hts _ w1_121) (fun _ h9 => h9) rfl d_G_changed_6 ?_
    refine lv_icmp_lt (tgt := 22) hx hb d_G_changed_9 (by decide) (fun c9 => ?_) (fun c9 => ?_)
    · have c9 := c9
      have mc9 : ¬ (I 0) ≤ x := Int32.not_le.mpr c9
      exact (h ⟨c1, c9⟩).elim
    · have c9 := c9
      have mc9 : (I 0) ≤ x := Int32.not_lt.mp c9
      exact gx_thr (X := "java/util/NoSuchElementException") (ik := 81) (is := 135) (ic := 85) (tx := "no such change") hx hb hlt hown (by decide) (hts _ w2_116) (hts _ w1_10) hSt gx_hat3 (by decide) (hl.1.trans hml.symm) d_G_changed_12 d_G_changed_15 d_G_changed_16 d_G_changed_18 d_G_changed_21 hem (Nat.le_of_ble_eq_true rfl) (Nat.le_of_ble_eq_true rfl) (Nat.le_of_ble_eq_true rfl) (Nat.le_of_ble_eq_true rfl) hlocks
set_option maxHeartbeats 4000000 in
set_option maxRecDepth 100000 in
theorem c_G_work (l : Launch) (E : gp_E) (I : Nat → Int32) (F : Nat → Nat → Int32) (nt : Nat) (x : Int32) (h : gp_in x (I 4) = true) (hT : I 6 = nI nt) (hnt : nt ≤ 6) : gp_CR l y_G_work b_G_work 2 (some .int) 4 E (gp_wG E I F) [.ref (E.2.2.2 0), .int x] (gp_qo F (F 14) x nt) := by
  refine gp_ofR (by decide) (Nat.le_of_ble_eq_true rfl) ?_
  intro xp xe xs xm below meth xc ls hx hb hr hts hown hlocks hml hP hK hl
  have hown : xs.vm.findClass "GuidePlans" = some xm.cls := hown
  have hl : lv_has ls 2 [(0, .ref (E.2.2.2 0)), (1, .int x)] := hl
  refine lv_aload_n hx hb d_G_work_0 rfl (lv_at hl 0 rfl) ?_
  refine lv_iload_n hx hb d_G_work_1 rfl (lv_at hl 1 rfl) ?_
  refine gp_cV0 (q0 := 0) (ci := 0) (As := [.int x]) (rest := []) ⟨hx, hb, hml, hown, hts⟩ (c_G_requirePerson l E I F x h) (k_G_63 hts ⟨by decide, by decide⟩ rfl rfl) hK hP rfl rfl rfl hl.1 rfl (Nat.le_of_ble_eq_true rfl) d_G_work_2 ⟨Nat.le_of_ble_eq_true rfl, Nat.le_of_ble_eq_true rfl⟩ ?_
  refine lv_aload_n hx hb d_G_work_5 rfl (lv_at hl 0 rfl) ?_
  refine lv_iload_n hx hb d_G_work_6 rfl (lv_at hl 1 rfl) ?_
  refine gp_cR (q0 := 0) (ci := 0) (As := [.int x]) (rest := []) ⟨hx, hb, hml, hown, hts⟩ (c_G_quartersOf l E I F nt x hT hnt) (k_G_151 hts ⟨by decide, by decide⟩ rfl rfl) hK hP rfl rfl rfl hl.1 rfl (Nat.le_of_ble_eq_true rfl) d_G_work_7 ⟨Nat.le_of_ble_eq_true rfl, Nat.le_of_ble_eq_true rfl⟩ ?_
  exact gp_ri hx hb hr hlocks (rfl) d_G_work_10
set_option maxHeartbeats 4000000 in
set_option maxRecDepth 100000 in
theorem x_G_work (l : Launch) (E : gp_E) (I : Nat → Int32) (F : Nat → Nat → Int32) (x : Int32) (hlt : l.stackTraces = false) (h : gp_in x (I 4) = false) : gx_CT l y_G_work b_G_work 2 (some .int) 7 E (gp_wG E I F) [.ref (E.2.2.2 0), .int x] "java/util/NoSuchElementException" := by
  refine gx_ofT (by decide) (Nat.le_of_ble_eq_true rfl) ?_
  intro xp xe xs xm below meth xc ls hx hb hr hts hown hlocks hml hem hP hK hSt hl
  have hown : xs.vm.findClass "GuidePlans" = some xm.cls := hown
  have hl : lv_has ls 2 [(0, .ref (E.2.2.2 0)), (1, .int x)] := hl
  refine lv_aload_n hx hb d_G_work_0 rfl (lv_at hl 0 rfl) ?_
  refine lv_iload_n hx hb d_G_work_1 rfl (lv_at hl 1 rfl) ?_
  exact gx_cV (q0 := 0) (ci := 0) (As := [.int x]) (rest := []) ⟨hx, hb, hml, hown, hts⟩ (x_G_requirePerson l E I F x hlt h) (k_G_63 hts ⟨by decide, by decide⟩ rfl rfl) hK hP hSt rfl rfl rfl hl.1 rfl (Nat.le_of_ble_eq_true rfl) d_G_work_2 ⟨Nat.le_of_ble_eq_true rfl, Nat.le_of_ble_eq_true rfl⟩ hem hlocks
set_option maxHeartbeats 4000000 in
set_option maxRecDepth 100000 in
theorem c_G_count0 (l : Launch) (E : gp_E) (I : Nat → Int32) (F : Nat → Nat → Int32) : gp_CR l y_G_count b_G_count 2 (some .int) 1 E (gp_wG E I F) [.ref (E.2.2.2 0), .int 0] (I 4) := by
  refine gp_ofR (by decide) (Nat.le_of_ble_eq_true rfl) ?_
  intro xp xe xs xm below meth xc ls hx hb hr hts hown hlocks hml hP hK hl
  have hown : xs.vm.findClass "GuidePlans" = some xm.cls := hown
  have hl : lv_has ls 2 [(0, .ref (E.2.2.2 0)), (1, .int 0)] := hl
  refine lv_iload_n hx hb d_G_count_0 rfl (lv_at hl 1 rfl) ?_
  refine lv_tableIn (tgt := 32) (off := 31) hx hb d_G_count_1 (by decide) (by decide) rfl (by decide) ?_
  refine lv_aload_n hx hb d_G_count_32 rfl (lv_at hl 0 rfl) ?_
  refine va_get (D := E.1) (cl := gp_cl) (ci := 0) (v := .ref (E.2.2.2 1)) (C := R_G) (T := T_G) (N := 8) hx hb hts i_G hown hK hP 0 rfl rfl 0 (by decide) (hts _ w1_117) (fun _ h9 => h9) rfl d_G_count_33 ?_
  refine va_get (D := E.1) (cl := gp_cl) (ci := 1) (v := .int (I 4)) (C := R_D) (T := T_D) (N := 13) hx hb hts i_D hown hK hP 1 rfl rfl 8 (by decide) (hts _ w1_40) (fun _ h9 => h9) rfl d_G_count_36 ?_
  exact gp_ri hx hb hr hlocks (rfl) d_G_count_39
set_option maxHeartbeats 4000000 in
set_option maxRecDepth 100000 in
theorem c_G_count1 (l : Launch) (E : gp_E) (I : Nat → Int32) (F : Nat → Nat → Int32) : gp_CR l y_G_count b_G_count 2 (some .int) 1 E (gp_wG E I F) [.ref (E.2.2.2 0), .int 1] (I 6) := by
  refine gp_ofR (by decide) (Nat.le_of_ble_eq_true rfl) ?_
  intro xp xe xs xm below meth xc ls hx hb hr hts hown hlocks hml hP hK hl
  have hown : xs.vm.findClass "GuidePlans" = some xm.cls := hown
  have hl : lv_has ls 2 [(0, .ref (E.2.2.2 0)), (1, .int 1)] := hl
  refine lv_iload_n hx hb d_G_count_0 rfl (lv_at hl 1 rfl) ?_
  refine lv_tableIn (tgt := 40) (off := 39) hx hb d_G_count_1 (by decide) (by decide) rfl (by decide) ?_
  refine lv_aload_n hx hb d_G_count_40 rfl (lv_at hl 0 rfl) ?_
  refine va_get (D := E.1) (cl := gp_cl) (ci := 0) (v := .ref (E.2.2.2 1)) (C := R_G) (T := T_G) (N := 8) hx hb hts i_G hown hK hP 0 rfl rfl 0 (by decide) (hts _ w1_117) (fun _ h9 => h9) rfl d_G_count_41 ?_
  refine va_get (D := E.1) (cl := gp_cl) (ci := 1) (v := .int (I 6)) (C := R_D) (T := T_D) (N := 13) hx hb hts i_D hown hK hP 1 rfl rfl 10 (by decide) (hts _ w1_46) (fun _ h9 => h9) rfl d_G_count_44 ?_
  exact gp_ri hx hb hr hlocks (rfl) d_G_count_47
set_option maxHeartbeats 4000000 in
set_option maxRecDepth 100000 in
theorem c_G_count2 (l : Launch) (E : gp_E) (I : Nat → Int32) (F : Nat → Nat → Int32) : gp_CR l y_G_count b_G_count 2 (some .int) 1 E (gp_wG E I F) [.ref (E.2.2.2 0), .int 2] (I 5) := by
  refine gp_ofR (by decide) (Nat.le_of_ble_eq_true rfl) ?_
  intro xp xe xs xm below meth xc ls hx hb hr hts hown hlocks hml hP hK hl
  have hown : xs.vm.findClass "GuidePlans" = some xm.cls := hown
  have hl : lv_has ls 2 [(0, .ref (E.2.2.2 0)), (1, .int 2)] := hl
  refine lv_iload_n hx hb d_G_count_0 rfl (lv_at hl 1 rfl) ?_
  refine lv_tableIn (tgt := 48) (off := 47) hx hb d_G_count_1 (by decide) (by decide) rfl (by decide) ?_
  refine lv_aload_n hx hb d_G_count_48 rfl (lv_at hl 0 rfl) ?_
  refine va_get (D := E.1) (cl := gp_cl) (ci := 0) (v := .ref (E.2.2.2 1)) (C := R_G) (T := T_G) (N := 8) hx hb hts i_G hown hK hP 0 rfl rfl 0 (by decide) (hts _ w1_117) (fun _ h9 => h9) rfl d_G_count_49 ?_
  refine va_get (D := E.1) (cl := gp_cl) (ci := 1) (v := .int (I 5)) (C := R_D) (T := T_D) (N := 13) hx hb hts i_D hown hK hP 1 rfl rfl 9 (by decide) (hts _ w1_43) (fun _ h9 => h9) rfl d_G_count_52 ?_
  exact gp_ri hx hb hr hlocks (rfl) d_G_count_55
set_option maxHeartbeats 4000000 in
set_option maxRecDepth 100000 in
theorem c_G_count3 (l : Launch) (E : gp_E) (I : Nat → Int32) (F : Nat → Nat → Int32) : gp_CR l y_G_count b_G_count 2 (some .int) 1 E (gp_wG E I F) [.ref (E.2.2.2 0), .int 3] (I 0) := by
  refine gp_ofR (by decide) (Nat.le_of_ble_eq_true rfl) ?_
  intro xp xe xs xm below meth xc ls hx hb hr hts hown hlocks hml hP hK hl
  have hown : xs.vm.findClass "GuidePlans" = some xm.cls := hown
  have hl : lv_has ls 2 [(0, .ref (E.2.2.2 0)), (1, .int 3)] := hl
  refine lv_iload_n hx hb d_G_count_0 rfl (lv_at hl 1 rfl) ?_
  refine lv_tableIn (tgt := 56) (off := 55) hx hb d_G_count_1 (by decide) (by decide) rfl (by decide) ?_
  refine lv_aload_n hx hb d_G_count_56 rfl (lv_at hl 0 rfl) ?_
  refine va_get (D := E.1) (cl := gp_cl) (ci := 0) (v := .int (I 0)) (C := R_G) (T := T_G) (N := 8) hx hb hts i_G hown hK hP 0 rfl rfl 4 (by decide) (hts _ w1_121) (fun _ h9 => h9) rfl d_G_count_57 ?_
  exact gp_ri hx hb hr hlocks (rfl) d_G_count_60
set_option maxHeartbeats 4000000 in
set_option maxRecDepth 100000 in
theorem x_G_count (l : Launch) (E : gp_E) (I : Nat → Int32) (F : Nat → Nat → Int32) (x : Int32) (hlt : l.stackTraces = false) (h : x.toInt < 0 ∨ 3 < x.toInt) : gx_CT l y_G_count b_G_count 2 (some .int) 6 E (gp_wG E I F) [.ref (E.2.2.2 0), .int x] "java/util/NoSuchElementException" := by
  refine gx_ofT (by decide) (Nat.le_of_ble_eq_true rfl) ?_
  intro xp xe xs xm below meth xc ls hx hb hr hts hown hlocks hml hem hP hK hSt hl
  have hown : xs.vm.findClass "GuidePlans" = some xm.cls := hown
  have hl : lv_has ls 2 [(0, .ref (E.2.2.2 0)), (1, .int x)] := hl
  refine lv_iload_n hx hb d_G_count_0 rfl (lv_at hl 1 rfl) ?_
  refine lv_tableOut (tgt := 61) hx hb d_G_count_1 (h) (by decide) ?_
  exact gx_thr (X := "java/util/NoSuchElementException") (ik := 81) (is := 165) (ic := 85) (tx := "nothing to count by this number") hx hb hlt hown (by decide) (hts _ w2_116) (hts _ w1_10) hSt gx_hat3 (by decide) (hl.1.trans hml.symm) d_G_count_61 d_G_count_64 d_G_count_65 d_G_count_67 d_G_count_70 hem (Nat.le_of_ble_eq_true rfl) (Nat.le_of_ble_eq_true rfl) (Nat.le_of_ble_eq_true rfl) (Nat.le_of_ble_eq_true rfl) hlocks
set_option maxHeartbeats 4000000 in
set_option maxRecDepth 100000 in
theorem c_G_fair (l : Launch) (E : gp_E) (I : Nat → Int32) (F : Nat → Nat → Int32) (np nt : Nat) (hp4 : I 4 = nI np) (hnp : np ≤ 4) (hT : I 6 = nI nt) (hnt : nt ≤ 6) : gp_CR l y_G_fair b_G_fair 5 (some .int) 2 E (gp_wG E I F) [.ref (E.2.2.2 0)] (if np = 0 then 0 else gp_fm (F 14) nt np - gp_fw (F 14) nt np) := by
  refine gp_ofR (by decide) (Nat.le_of_ble_eq_true rfl) ?_
  intro xp xe xs xm below meth xc ls hx hb hr hts hown hlocks hml hP hK hl
  have hown : xs.vm.findClass "GuidePlans" = some xm.cls := hown
  have hl : lv_has ls 5 [(0, .ref (E.2.2.2 0))] := hl
  refine lv_aload_n hx hb d_G_fair_0 rfl (lv_at hl 0 rfl) ?_
  refine va_get (D := E.1) (cl := gp_cl) (ci := 0) (v := .ref (E.2.2.2 1)) (C := R_G) (T := T_G) (N := 8) hx hb hts i_G hown hK hP 0 rfl rfl 0 (by decide) (hts _ w1_117) (fun _ h9 => h9) rfl d_G_fair_1 ?_
  refine va_get (D := E.1) (cl := gp_cl) (ci := 1) (v := .int (nI np)) (C := R_D) (T := T_D) (N := 13) hx hb hts i_D hown hK hP 1 rfl rfl 8 (by decide) (hts _ w1_40) (fun _ h9 => h9) (congrArg (fun z => some (Value.int z)) hp4) d_G_fair_4 ?_
  refine lv_if_ne (tgt := 12) hx hb d_G_fair_7 (by decide) (fun c7 => ?_) (fun c7 => ?_)
  · have c7 := c7
    have nc7 : ¬ np = 0 := fun h => c7 ((nI_eq (a := np) (b := 0) (by omega) (by omega)).mpr h)
    refine lv_iconst (v := 0) hx hb d_G_fair_12 (by decide) ?_
    refine lv_istore_n (lv' := [(1, .int 0), (0, .ref (E.2.2.2 0))]) hx hb d_G_fair_13 rfl hl (by decide) rfl (fun ls hl => ?_)
    refine lv_bipush (v := 6) hx hb d_G_fair_14 (by decide) ?_
    refine lv_istore_n (lv' := [(2, .int 6), (1, .int 0), (0, .ref (E.2.2.2 0))]) hx hb d_G_fair_16 rfl hl (by decide) rfl (fun ls hl => ?_)
    refine lv_iconst (v := 0) hx hb d_G_fair_17 (by decide) ?_
    refine lv_istore_n (lv' := [(3, .int 0), (2, .int 6), (1, .int 0), (0, .ref (E.2.2.2 0))]) hx hb d_G_fair_18 rfl hl (by decide) rfl (fun ls hl => ?_)
    have L19 : ∀ (n : Nat) (p : Nat), p ≤ np → np + 1 ≤ p + n → ∀ (ls : Array Slot), lv_has ls 5 [(3, .int (nI p)), (2, .int (gp_fw (F 14) nt p)), (1, .int (gp_fm (F 14) nt p)), (0, .ref (E.2.2.2 0))] → W xp l xe (gp_rm 2 0 0) xs xm ([.ref (E.2.2.2 0)] : List Value).toArray below meth xc xs.heap [] 0 0 (MQ below (QcRead (if np = 0 then 0 else gp_fm (F 14) nt np - gp_fw (F 14) nt np)) ([.ref (E.2.2.2 0)] : List Value).toArray xs 0 0 (fun _ => False)) (F0 xm 19 ls []) := by
      intro n
      induction n with
      | zero =>
        intro p q1 hm
        exact absurd hm (by omega)
      | succ n ih19 =>
        intro p q1 hm ls hl
        refine lv_iload_n hx hb d_G_fair_19 rfl (lv_at hl 0 rfl) ?_
        refine lv_aload_n hx hb d_G_fair_20 rfl (lv_at hl 3 rfl) ?_
        refine va_get (D := E.1) (cl := gp_cl) (ci := 0) (v := .ref (E.2.2.2 1)) (C := R_G) (T := T_G) (N := 8) hx hb hts i_G hown hK hP 0 rfl rfl 0 (by decide) (hts _ w1_117) (fun _ h9 => h9) rfl d_G_fair_21 ?_
        refine va_get (D := E.1) (cl := gp_cl) (ci := 1) (v := .int (nI np)) (C := R_D) (T := T_D) (N := 13) hx hb hts i_D hown hK hP 1 rfl rfl 8 (by decide) (hts _ w1_40) (fun _ h9 => h9) (congrArg (fun z => some (Value.int z)) hp4) d_G_fair_24 ?_
        refine lv_icmp_ge (tgt := 57) hx hb d_G_fair_27 (by decide) (fun c27 => ?_) (fun c27 => ?_)
        · have c27 := c27
          have nc27 : np ≤ p := (nI_leI (a := np) (b := p) (by omega) (by omega)).mp c27
          refine lv_iload_n hx hb d_G_fair_57 rfl (lv_at hl 2 rfl) ?_
          refine lv_iload_n hx hb d_G_fair_58 rfl (lv_at hl 1 rfl) ?_
          refine lv_isub hx hb d_G_fair_59 ?_
          exact gp_ri hx hb hr hlocks (by rw [if_neg nc7, show p = np by omega]) d_G_fair_60
        · have c27 := c27
          have nc27 : ¬ np ≤ p := fun h => c27 ((nI_leI (a := np) (b := p) (by omega) (by omega)).mpr h)
          refine lv_aload_n hx hb d_G_fair_30 rfl (lv_at hl 3 rfl) ?_
          refine lv_iload_n hx hb d_G_fair_31 rfl (lv_at hl 0 rfl) ?_
          refine gp_cR (q0 := 0) (ci := 0) (As := [.int (nI p)]) (rest := []) ⟨hx, hb, hml, hown, hts⟩ (c_G_numberOfTasks l E I F nt (nI p) hT hnt) (k_G_154 hts ⟨by decide, by decide⟩ rfl rfl) hK hP rfl rfl rfl hl.1 rfl (Nat.le_of_ble_eq_true rfl) d_G_fair_32 ⟨Nat.le_of_ble_eq_true rfl, Nat.le_of_ble_eq_true rfl⟩ ?_
          refine lv_istore (lv' := [(4, .int (gp_nu (F 14) (nI p) nt)), (3, .int (nI p)), (2, .int (gp_fw (F 14) nt p)), (1, .int (gp_fm (F 14) nt p)), (0, .ref (E.2.2.2 0))]) hx hb d_G_fair_35 hl (by decide) rfl (fun ls hl => ?_)
          refine lv_iload_n hx hb d_G_fair_37 rfl (lv_at hl 3 rfl) ?_
          refine lv_iload hx hb d_G_fair_38 (lv_at hl 0 rfl) ?_
          refine va_mmax hx hb (hml.trans hl.1.symm) hown (hts _ w2_0) (hts _ w2_1) (hts _ w1_12) (hts _ w2_2) (Nat.le_of_ble_eq_true rfl) (Nat.le_of_ble_eq_true rfl) (Nat.zero_le _) (Nat.zero_le _) d_G_fair_40 ?_
          refine lv_istore_n (lv' := [(1, .int (if (gp_fm (F 14) nt p) < (gp_nu (F 14) (nI p) nt) then (gp_nu (F 14) (nI p) nt) else (gp_fm (F 14) nt p))), (4, .int (gp_nu (F 14) (nI p) nt)), (3, .int (nI p)), (2, .int (gp_fw (F 14) nt p)), (0, .ref (E.2.2.2 0))]) hx hb d_G_fair_43 rfl hl (by decide) rfl (fun ls hl => ?_)
          refine lv_iload_n hx hb d_G_fair_44 rfl (lv_at hl 3 rfl) ?_
          refine lv_iload hx hb d_G_fair_45 (lv_at hl 1 rfl) ?_
          refine va_mmin hx hb (hml.trans hl.1.symm) hown (hts _ w2_3) (hts _ w2_4) (hts _ w1_12) (hts _ w2_5) (Nat.le_of_ble_eq_true rfl) (Nat.le_of_ble_eq_true rfl) (Nat.zero_le _) (Nat.zero_le _) d_G_fair_47 ?_
          refine lv_istore_n (lv' := [(2, .int (if (gp_nu (F 14) (nI p) nt) < (gp_fw (F 14) nt p) then (gp_nu (F 14) (nI p) nt) else (gp_fw (F 14) nt p))), (1, .int (if (gp_fm (F 14) nt p) < (gp_nu (F 14) (nI p) nt) then (gp_nu (F 14) (nI p) nt) else (gp_fm (F 14) nt p))), (4, .int (gp_nu (F 14) (nI p) nt)), (3, .int (nI p)), (0, .ref (E.2.2.2 0))]) hx hb d_G_fair_50 rfl hl (by decide) rfl (fun ls hl => ?_)
          refine lv_iinc (v := (nI (p + 1))) (lv' := [(3, .int (nI (p + 1))), (2, .int (if (gp_nu (F 14) (nI p) nt) < (gp_fw (F 14) nt p) then (gp_nu (F 14) (nI p) nt) else (gp_fw (F 14) nt p))), (1, .int (if (gp_fm (F 14) nt p) < (gp_nu (F 14) (nI p) nt) then (gp_nu (F 14) (nI p) nt) else (gp_fm (F 14) nt p))), (4, .int (gp_nu (F 14) (nI p) nt)), (0, .ref (E.2.2.2 0))]) hx hb d_G_fair_51 hl (k := 3) rfl (nI_1 _) (by decide) rfl (fun ls hl => ?_)
          refine lv_goto (tgt := 19) hx hb d_G_fair_54 (by decide) ?_
          exact ih19 (p + 1) (by omega) (by omega) ls (lv_sub hl [0, 1, 2, 4] rfl)
    exact L19 (np + 1) 0 (Nat.zero_le _) (by omega) ls (lv_sub hl [0, 1, 2, 3] rfl)
  · have c7 := c7
    have nc7 : np = 0 := (nI_eq (a := np) (b := 0) (by omega) (by omega)).mp c7
    refine lv_iconst (v := 0) hx hb d_G_fair_10 (by decide) ?_
    exact gp_ri hx hb hr hlocks (by simp [nc7]) d_G_fair_11
