set_option maxHeartbeats 4000000 in
set_option maxRecDepth 100000 in
theorem c_D_addPerson (l : Launch) (E : gp_E) (I : Nat → Int32) (F : Nat → Nat → Int32) (np : Nat) (x : Int32) (hp4 : I 4 = nI np) (hnp : np < 4) : gp_CW l y_D_addPerson b_D_addPerson 2 (some .int) 1 E (gp_wG E I F) (gp_wG E (upd I 4 (nI (np + 1))) (gp_uF F 0 (upd (F 0) np x))) [.ref (E.2.2.2 1), .int x] (some (.int (nI np))) := by
  refine gp_ofW (by decide) (Nat.le_of_ble_eq_true rfl) ?_
  intro xp xe xs xm below meth xc ls A hx hb hr hts hown hlocks hml hP hK hD hA hAe hl
  have hS : va_S A xs.heap xs.heap [] := va_S.rf
  have hown : xs.vm.findClass "GuidePlans$Day" = some xm.cls := hown
  have hl : lv_has ls 2 [(0, .ref (E.2.2.2 1)), (1, .int x)] := hl
  refine lv_aload_n hx hb d_D_addPerson_0 rfl (lv_at hl 0 rfl) ?_
  refine va_get (D := E.1) (cl := gp_cl) (ci := 1) (v := .int (nI np)) (C := R_D) (T := T_D) (N := 13) hx hb hts i_D hown hK hP 1 rfl rfl 8 (by decide) (hts _ w1_39) (fun _ h9 => h9) (congrArg (fun z => some (Value.int z)) hp4) d_D_addPerson_1 ?_
  refine lv_iconst (v := 4) hx hb d_D_addPerson_4 (by decide) ?_
  refine lv_icmp_lt (tgt := 10) hx hb d_D_addPerson_5 (by decide) (fun c5 => ?_) (fun c5 => ?_)
  · have c5 := c5
    have nc5 : np < 4 := (nI_ltI (a := np) (b := 4) (by omega) (by omega)).mp c5
    refine lv_aload_n hx hb d_D_addPerson_10 rfl (lv_at hl 0 rfl) ?_
    refine va_get (D := E.1) (cl := gp_cl) (ci := 1) (v := .ref (E.2.2.2 3)) (C := R_D) (T := T_D) (N := 13) hx hb hts i_D hown hK hP 1 rfl rfl 0 (by decide) (hts _ w1_27) (fun _ h9 => h9) rfl d_D_addPerson_11 ?_
    refine lv_aload_n hx hb d_D_addPerson_14 rfl (lv_at hl 0 rfl) ?_
    refine va_get (D := E.1) (cl := gp_cl) (ci := 1) (v := .int (nI np)) (C := R_D) (T := T_D) (N := 13) hx hb hts i_D hown hK hP 1 rfl rfl 8 (by decide) (hts _ w1_39) (fun _ h9 => h9) (congrArg (fun z => some (Value.int z)) hp4) d_D_addPerson_15 ?_
    refine lv_iload_n hx hb d_D_addPerson_18 rfl (lv_at hl 1 rfl) ?_
    refine gp_ast (f := (F 0)) (n := 4) hx hb hK hP hD hS 3 rfl (np) rfl (by omega) (by decide) d_D_addPerson_19 (fun H locs hP hD hS => ?_)
    have hP : va_P E.1 gp_cl (gp_wG E I (gp_uF F 0 (upd (F 0) (np) x))) H := hP
    have hD : va_D A (gp_wG E I (gp_uF F 0 (upd (F 0) (np) x))) := hD
    refine lv_aload_n hx hb d_D_addPerson_20 rfl (lv_at hl 0 rfl) ?_
    refine lv_dup hx hb d_D_addPerson_21 rfl ?_
    refine va_get (D := E.1) (cl := gp_cl) (ci := 1) (v := .int (nI np)) (C := R_D) (T := T_D) (N := 13) hx hb hts i_D hown hK hP 1 rfl rfl 8 (by decide) (hts _ w1_39) (fun _ h9 => h9) (congrArg (fun z => some (Value.int z)) hp4) d_D_addPerson_22 ?_
    refine lv_iconst (v := 1) hx hb d_D_addPerson_25 (by decide) ?_
    refine lv_iadd hx hb d_D_addPerson_26 ?_
    rw [show ((nI np) + 1) = (nI (np + 1)) from nI_1 _]
    refine va_put (D := E.1) (cl := gp_cl) (ci := 1) (v := .int (nI (np + 1))) (ty := .int) (C := R_D) (T := T_D) (N := 13) hx hb hts i_D t_D t_D_ok n_D hown hK hP hD hS 1 rfl rfl 8 (by decide) (hts _ w1_39) (fun _ h9 => h9) rfl (by decide +kernel) rfl rfl (Nat.le_of_ble_eq_true rfl) d_D_addPerson_27 (fun H locs hP hD hS => ?_)
    have hP : va_P E.1 gp_cl (gp_wG E (upd I 4 (nI (np + 1))) (gp_uF F 0 (upd (F 0) (np) x))) H := hP
    have hD : va_D A (gp_wG E (upd I 4 (nI (np + 1))) (gp_uF F 0 (upd (F 0) (np) x))) := hD
    refine lv_aload_n hx hb d_D_addPerson_30 rfl (lv_at hl 0 rfl) ?_
    refine va_get (D := E.1) (cl := gp_cl) (ci := 1) (v := .int (nI (np + 1))) (C := R_D) (T := T_D) (N := 13) hx hb hts i_D hown hK hP 1 rfl rfl 8 (by decide) (hts _ w1_39) (fun _ h9 => h9) rfl d_D_addPerson_31 ?_
    refine lv_iconst (v := 1) hx hb d_D_addPerson_34 (by decide) ?_
    refine lv_isub hx hb d_D_addPerson_35 ?_
    rw [show ((nI (np + 1)) - 1) = (nI np) from nI_pred _]
    exact gp_wi hx hb hr hlocks hAe (rfl) (hP) hS d_D_addPerson_36
  · have c5 := c5
    have nc5 : ¬ np < 4 := fun h => c5 ((nI_ltI (a := np) (b := 4) (by omega) (by omega)).mpr h)
    exact False.elim (by omega)
set_option maxHeartbeats 4000000 in
set_option maxRecDepth 100000 in
theorem c_D_addSpan (l : Launch) (E : gp_E) (I : Nat → Int32) (F : Nat → Nat → Int32) (ns : Nat) (x y z : Int32) (hN : I 5 = nI ns) (hns : ns < 20) : gp_CW l y_D_addSpan b_D_addSpan 4 none 1 E (gp_wG E I F) (gp_wG E (upd I 5 (nI (ns + 1))) (gp_uF (gp_uF (gp_uF F 1 (upd (F 1) ns x)) 2 (upd (F 2) ns y)) 3 (upd (F 3) ns z))) [.ref (E.2.2.2 1), .int x, .int y, .int z] none := by
  refine gp_ofW (by decide) (Nat.le_of_ble_eq_true rfl) ?_
  intro xp xe xs xm below meth xc ls A hx hb hr hts hown hlocks hml hP hK hD hA hAe hl
  have hS : va_S A xs.heap xs.heap [] := va_S.rf
  have hown : xs.vm.findClass "GuidePlans$Day" = some xm.cls := hown
  have hl : lv_has ls 4 [(0, .ref (E.2.2.2 1)), (1, .int x), (2, .int y), (3, .int z)] := hl
  refine lv_aload_n hx hb d_D_addSpan_0 rfl (lv_at hl 0 rfl) ?_
  refine va_get (D := E.1) (cl := gp_cl) (ci := 1) (v := .int (nI ns)) (C := R_D) (T := T_D) (N := 13) hx hb hts i_D hown hK hP 1 rfl rfl 9 (by decide) (hts _ w1_42) (fun _ h9 => h9) (congrArg (fun z => some (Value.int z)) hN) d_D_addSpan_1 ?_
  refine lv_bipush (v := 20) hx hb d_D_addSpan_4 (by decide) ?_
  refine lv_icmp_lt (tgt := 10) hx hb d_D_addSpan_6 (by decide) (fun c6 => ?_) (fun c6 => ?_)
  · have c6 := c6
    have nc6 : ns < 20 := (nI_ltI (a := ns) (b := 20) (by omega) (by omega)).mp c6
    refine lv_aload_n hx hb d_D_addSpan_10 rfl (lv_at hl 0 rfl) ?_
    refine va_get (D := E.1) (cl := gp_cl) (ci := 1) (v := .ref (E.2.2.2 4)) (C := R_D) (T := T_D) (N := 13) hx hb hts i_D hown hK hP 1 rfl rfl 1 (by decide) (hts _ w1_28) (fun _ h9 => h9) rfl d_D_addSpan_11 ?_
    refine lv_aload_n hx hb d_D_addSpan_14 rfl (lv_at hl 0 rfl) ?_
    refine va_get (D := E.1) (cl := gp_cl) (ci := 1) (v := .int (nI ns)) (C := R_D) (T := T_D) (N := 13) hx hb hts i_D hown hK hP 1 rfl rfl 9 (by decide) (hts _ w1_42) (fun _ h9 => h9) (congrArg (fun z => some (Value.int z)) hN) d_D_addSpan_15 ?_
    refine lv_iload_n hx hb d_D_addSpan_18 rfl (lv_at hl 1 rfl) ?_
    refine gp_ast (f := (F 1)) (n := 20) hx hb hK hP hD hS 4 rfl (ns) rfl (by omega) (by decide) d_D_addSpan_19 (fun H locs hP hD hS => ?_)
    have hP : va_P E.1 gp_cl (gp_wG E I (gp_uF F 1 (upd (F 1) (ns) x))) H := hP
    have hD : va_D A (gp_wG E I (gp_uF F 1 (upd (F 1) (ns) x))) := hD
    refine lv_aload_n hx hb d_D_addSpan_20 rfl (lv_at hl 0 rfl) ?_
    refine va_get (D := E.1) (cl := gp_cl) (ci := 1) (v := .ref (E.2.2.2 5)) (C := R_D) (T := T_D) (N := 13) hx hb hts i_D hown hK hP 1 rfl rfl 2 (by decide) (hts _ w1_29) (fun _ h9 => h9) rfl d_D_addSpan_21 ?_
    refine lv_aload_n hx hb d_D_addSpan_24 rfl (lv_at hl 0 rfl) ?_
    refine va_get (D := E.1) (cl := gp_cl) (ci := 1) (v := .int (nI ns)) (C := R_D) (T := T_D) (N := 13) hx hb hts i_D hown hK hP 1 rfl rfl 9 (by decide) (hts _ w1_42) (fun _ h9 => h9) (congrArg (fun z => some (Value.int z)) hN) d_D_addSpan_25 ?_
    refine lv_iload_n hx hb d_D_addSpan_28 rfl (lv_at hl 2 rfl) ?_
    refine gp_ast (f := (F 2)) (n := 20) hx hb hK hP hD hS 5 rfl (ns) rfl (by omega) (by decide) d_D_addSpan_29 (fun H locs hP hD hS => ?_)
    have hP : va_P E.1 gp_cl (gp_wG E I (gp_uF (gp_uF F 1 (upd (F 1) (ns) x)) 2 (upd (F 2) (ns) y))) H := hP
    have hD : va_D A (gp_wG E I (gp_uF (gp_uF F 1 (upd (F 1) (ns) x)) 2 (upd (F 2) (ns) y))) := hD
    refine lv_aload_n hx hb d_D_addSpan_30 rfl (lv_at hl 0 rfl) ?_
    refine va_get (D := E.1) (cl := gp_cl) (ci := 1) (v := .ref (E.2.2.2 6)) (C := R_D) (T := T_D) (N := 13) hx hb hts i_D hown hK hP 1 rfl rfl 3 (by decide) (hts _ w1_30) (fun _ h9 => h9) rfl d_D_addSpan_31 ?_
    refine lv_aload_n hx hb d_D_addSpan_34 rfl (lv_at hl 0 rfl) ?_
    refine va_get (D := E.1) (cl := gp_cl) (ci := 1) (v := .int (nI ns)) (C := R_D) (T := T_D) (N := 13) hx hb hts i_D hown hK hP 1 rfl rfl 9 (by decide) (hts _ w1_42) (fun _ h9 => h9) (congrArg (fun z => some (Value.int z)) hN) d_D_addSpan_35 ?_
    refine lv_iload_n hx hb d_D_addSpan_38 rfl (lv_at hl 3 rfl) ?_
    refine gp_ast (f := (F 3)) (n := 20) hx hb hK hP hD hS 6 rfl (ns) rfl (by omega) (by decide) d_D_addSpan_39 (fun H locs hP hD hS => ?_)
    have hP : va_P E.1 gp_cl (gp_wG E I (gp_uF (gp_uF (gp_uF F 1 (upd (F 1) (ns) x)) 2 (upd (F 2) (ns) y)) 3 (upd (F 3) (ns) z))) H := hP
    have hD : va_D A (gp_wG E I (gp_uF (gp_uF (gp_uF F 1 (upd (F 1) (ns) x)) 2 (upd (F 2) (ns) y)) 3 (upd (F 3) (ns) z))) := hD
    refine lv_aload_n hx hb d_D_addSpan_40 rfl (lv_at hl 0 rfl) ?_
    refine lv_dup hx hb d_D_addSpan_41 rfl ?_
    refine va_get (D := E.1) (cl := gp_cl) (ci := 1) (v := .int (nI ns)) (C := R_D) (T := T_D) (N := 13) hx hb hts i_D hown hK hP 1 rfl rfl 9 (by decide) (hts _ w1_42) (fun _ h9 => h9) (congrArg (fun z => some (Value.int z)) hN) d_D_addSpan_42 ?_
    refine lv_iconst (v := 1) hx hb d_D_addSpan_45 (by decide) ?_
    refine lv_iadd hx hb d_D_addSpan_46 ?_
    rw [show ((nI ns) + 1) = (nI (ns + 1)) from nI_1 _]
    refine va_put (D := E.1) (cl := gp_cl) (ci := 1) (v := .int (nI (ns + 1))) (ty := .int) (C := R_D) (T := T_D) (N := 13) hx hb hts i_D t_D t_D_ok n_D hown hK hP hD hS 1 rfl rfl 9 (by decide) (hts _ w1_42) (fun _ h9 => h9) rfl (by decide +kernel) rfl rfl (Nat.le_of_ble_eq_true rfl) d_D_addSpan_47 (fun H locs hP hD hS => ?_)
    have hP : va_P E.1 gp_cl (gp_wG E (upd I 5 (nI (ns + 1))) (gp_uF (gp_uF (gp_uF F 1 (upd (F 1) (ns) x)) 2 (upd (F 2) (ns) y)) 3 (upd (F 3) (ns) z))) H := hP
    have hD : va_D A (gp_wG E (upd I 5 (nI (ns + 1))) (gp_uF (gp_uF (gp_uF F 1 (upd (F 1) (ns) x)) 2 (upd (F 2) (ns) y)) 3 (upd (F 3) (ns) z))) := hD
    exact gp_wv hx hb hr hlocks hAe rfl (hP) hS d_D_addSpan_50
  · have c6 := c6
    have nc6 : ¬ ns < 20 := fun h => c6 ((nI_ltI (a := ns) (b := 20) (by omega) (by omega)).mpr h)
    exact False.elim (by omega)
set_option maxHeartbeats 4000000 in
set_option maxRecDepth 100000 in
theorem c_D_dropLatestSpan (l : Launch) (E : gp_E) (I : Nat → Int32) (F : Nat → Nat → Int32) (ns : Nat) (hN : I 5 = nI (ns + 1)) (hns : ns < 20) : gp_CW l y_D_dropLatestSpan b_D_dropLatestSpan 1 none 1 E (gp_wG E I F) (gp_wG E (upd I 5 (nI ns)) F) [.ref (E.2.2.2 1)] none := by
  refine gp_ofW (by decide) (Nat.le_of_ble_eq_true rfl) ?_
  intro xp xe xs xm below meth xc ls A hx hb hr hts hown hlocks hml hP hK hD hA hAe hl
  have hS : va_S A xs.heap xs.heap [] := va_S.rf
  have hown : xs.vm.findClass "GuidePlans$Day" = some xm.cls := hown
  have hl : lv_has ls 1 [(0, .ref (E.2.2.2 1))] := hl
  refine lv_aload_n hx hb d_D_dropLatestSpan_0 rfl (lv_at hl 0 rfl) ?_
  refine va_get (D := E.1) (cl := gp_cl) (ci := 1) (v := .int (nI (ns + 1))) (C := R_D) (T := T_D) (N := 13) hx hb hts i_D hown hK hP 1 rfl rfl 9 (by decide) (hts _ w1_42) (fun _ h9 => h9) (congrArg (fun z => some (Value.int z)) hN) d_D_dropLatestSpan_1 ?_
  refine lv_if_le (tgt := 17) hx hb d_D_dropLatestSpan_4 (by decide) (fun c4 => ?_) (fun c4 => ?_)
  · have c4 := c4
    have nc4 : (ns + 1) ≤ 0 := (nI_leI (a := (ns + 1)) (b := 0) (by omega) (by omega)).mp c4
    exact False.elim (by omega)
  · have c4 := c4
    have nc4 : ¬ (ns + 1) ≤ 0 := fun h => c4 ((nI_leI (a := (ns + 1)) (b := 0) (by omega) (by omega)).mpr h)
    refine lv_aload_n hx hb d_D_dropLatestSpan_7 rfl (lv_at hl 0 rfl) ?_
    refine lv_dup hx hb d_D_dropLatestSpan_8 rfl ?_
    refine va_get (D := E.1) (cl := gp_cl) (ci := 1) (v := .int (nI (ns + 1))) (C := R_D) (T := T_D) (N := 13) hx hb hts i_D hown hK hP 1 rfl rfl 9 (by decide) (hts _ w1_42) (fun _ h9 => h9) (congrArg (fun z => some (Value.int z)) hN) d_D_dropLatestSpan_9 ?_
    refine lv_iconst (v := 1) hx hb d_D_dropLatestSpan_12 (by decide) ?_
    refine lv_isub hx hb d_D_dropLatestSpan_13 ?_
    rw [show ((nI (ns + 1)) - 1) = (nI ns) from nI_pred _]
    refine va_put (D := E.1) (cl := gp_cl) (ci := 1) (v := .int (nI ns)) (ty := .int) (C := R_D) (T := T_D) (N := 13) hx hb hts i_D t_D t_D_ok n_D hown hK hP hD hS 1 rfl rfl 9 (by decide) (hts _ w1_42) (fun _ h9 => h9) rfl (by decide +kernel) rfl rfl (Nat.le_of_ble_eq_true rfl) d_D_dropLatestSpan_14 (fun H locs hP hD hS => ?_)
    have hP : va_P E.1 gp_cl (gp_wG E (upd I 5 (nI ns)) F) H := hP
    have hD : va_D A (gp_wG E (upd I 5 (nI ns)) F) := hD
    exact gp_wv hx hb hr hlocks hAe rfl (hP) hS d_D_dropLatestSpan_17
set_option maxHeartbeats 4000000 in
set_option maxRecDepth 100000 in
theorem c_D_addTask (l : Launch) (E : gp_E) (I : Nat → Int32) (F : Nat → Nat → Int32) (nt : Nat) (x y z b : Int32) (hT : I 6 = nI nt) (hnt : nt < 6) (hb1 : vp_nar .boolean b = b) : gp_CW l y_D_addTask b_D_addTask 5 (some .int) 1 E (gp_wG E I F) (gp_wG E (upd I 6 (nI (nt + 1))) (gp_uF (gp_uF (gp_uF (gp_uF F 4 (upd (F 4) nt x)) 5 (upd (F 5) nt y)) 6 (upd (F 6) nt z)) 7 (upd (F 7) nt b))) [.ref (E.2.2.2 1), .int x, .int y, .int z, .int b] (some (.int (nI nt))) := by
  refine gp_ofW (by decide) (Nat.le_of_ble_eq_true rfl) ?_
  intro xp xe xs xm below meth xc ls A hx hb hr hts hown hlocks hml hP hK hD hA hAe hl
  have hS : va_S A xs.heap xs.heap [] := va_S.rf
  have hown : xs.vm.findClass "GuidePlans$Day" = some xm.cls := hown
  have hl : lv_has ls 5 [(0, .ref (E.2.2.2 1)), (1, .int x), (2, .int y), (3, .int z), (4, .int b)] := hl
  refine lv_aload_n hx hb d_D_addTask_0 rfl (lv_at hl 0 rfl) ?_
  refine va_get (D := E.1) (cl := gp_cl) (ci := 1) (v := .int (nI nt)) (C := R_D) (T := T_D) (N := 13) hx hb hts i_D hown hK hP 1 rfl rfl 10 (by decide) (hts _ w1_44) (fun _ h9 => h9) (congrArg (fun z => some (Value.int z)) hT) d_D_addTask_1 ?_
  refine lv_bipush (v := 6) hx hb d_D_addTask_4 (by decide) ?_
  refine lv_icmp_lt (tgt := 11) hx hb d_D_addTask_6 (by decide) (fun c6 => ?_) (fun c6 => ?_)
  · have c6 := c6
    have nc6 : nt < 6 := (nI_ltI (a := nt) (b := 6) (by omega) (by omega)).mp c6
    refine lv_aload_n hx hb d_D_addTask_11 rfl (lv_at hl 0 rfl) ?_
    refine va_get (D := E.1) (cl := gp_cl) (ci := 1) (v := .ref (E.2.2.2 7)) (C := R_D) (T := T_D) (N := 13) hx hb hts i_D hown hK hP 1 rfl rfl 4 (by decide) (hts _ w1_31) (fun _ h9 => h9) rfl d_D_addTask_12 ?_
    refine lv_aload_n hx hb d_D_addTask_15 rfl (lv_at hl 0 rfl) ?_
    refine va_get (D := E.1) (cl := gp_cl) (ci := 1) (v := .int (nI nt)) (C := R_D) (T := T_D) (N := 13) hx hb hts i_D hown hK hP 1 rfl rfl 10 (by decide) (hts _ w1_44) (fun _ h9 => h9) (congrArg (fun z => some (Value.int z)) hT) d_D_addTask_16 ?_
    refine lv_iload_n hx hb d_D_addTask_19 rfl (lv_at hl 1 rfl) ?_
    refine gp_ast (f := (F 4)) (n := 6) hx hb hK hP hD hS 7 rfl (nt) rfl (by omega) (by decide) d_D_addTask_20 (fun H locs hP hD hS => ?_)
    have hP : va_P E.1 gp_cl (gp_wG E I (gp_uF F 4 (upd (F 4) (nt) x))) H := hP
    have hD : va_D A (gp_wG E I (gp_uF F 4 (upd (F 4) (nt) x))) := hD
    refine lv_aload_n hx hb d_D_addTask_21 rfl (lv_at hl 0 rfl) ?_
    refine va_get (D := E.1) (cl := gp_cl) (ci := 1) (v := .ref (E.2.2.2 8)) (C := R_D) (T := T_D) (N := 13) hx hb hts i_D hown hK hP 1 rfl rfl 5 (by decide) (hts _ w1_32) (fun _ h9 => h9) rfl d_D_addTask_22 ?_
    refine lv_aload_n hx hb d_D_addTask_25 rfl (lv_at hl 0 rfl) ?_
    refine va_get (D := E.1) (cl := gp_cl) (ci := 1) (v := .int (nI nt)) (C := R_D) (T := T_D) (N := 13) hx hb hts i_D hown hK hP 1 rfl rfl 10 (by decide) (hts _ w1_44) (fun _ h9 => h9) (congrArg (fun z => some (Value.int z)) hT) d_D_addTask_26 ?_
    refine lv_iload_n hx hb d_D_addTask_29 rfl (lv_at hl 2 rfl) ?_
    refine gp_ast (f := (F 5)) (n := 6) hx hb hK hP hD hS 8 rfl (nt) rfl (by omega) (by decide) d_D_addTask_30 (fun H locs hP hD hS => ?_)
    have hP : va_P E.1 gp_cl (gp_wG E I (gp_uF (gp_uF F 4 (upd (F 4) (nt) x)) 5 (upd (F 5) (nt) y))) H := hP
    have hD : va_D A (gp_wG E I (gp_uF (gp_uF F 4 (upd (F 4) (nt) x)) 5 (upd (F 5) (nt) y))) := hD
    refine lv_aload_n hx hb d_D_addTask_31 rfl (lv_at hl 0 rfl) ?_
    refine va_get (D := E.1) (cl := gp_cl) (ci := 1) (v := .ref (E.2.2.2 9)) (C := R_D) (T := T_D) (N := 13) hx hb hts i_D hown hK hP 1 rfl rfl 6 (by decide) (hts _ w1_35) (fun _ h9 => h9) rfl d_D_addTask_32 ?_
    refine lv_aload_n hx hb d_D_addTask_35 rfl (lv_at hl 0 rfl) ?_
    refine va_get (D := E.1) (cl := gp_cl) (ci := 1) (v := .int (nI nt)) (C := R_D) (T := T_D) (N := 13) hx hb hts i_D hown hK hP 1 rfl rfl 10 (by decide) (hts _ w1_44) (fun _ h9 => h9) (congrArg (fun z => some (Value.int z)) hT) d_D_addTask_36 ?_
    refine lv_iload_n hx hb d_D_addTask_39 rfl (lv_at hl 3 rfl) ?_
    refine gp_ast (f := (F 6)) (n := 6) hx hb hK hP hD hS 9 rfl (nt) rfl (by omega) (by decide) d_D_addTask_40 (fun H locs hP hD hS => ?_)
    have hP : va_P E.1 gp_cl (gp_wG E I (gp_uF (gp_uF (gp_uF F 4 (upd (F 4) (nt) x)) 5 (upd (F 5) (nt) y)) 6 (upd (F 6) (nt) z))) H := hP
    have hD : va_D A (gp_wG E I (gp_uF (gp_uF (gp_uF F 4 (upd (F 4) (nt) x)) 5 (upd (F 5) (nt) y)) 6 (upd (F 6) (nt) z))) := hD
    refine lv_aload_n hx hb d_D_addTask_41 rfl (lv_at hl 0 rfl) ?_
    refine va_get (D := E.1) (cl := gp_cl) (ci := 1) (v := .ref (E.2.2.2 10)) (C := R_D) (T := T_D) (N := 13) hx hb hts i_D hown hK hP 1 rfl rfl 7 (by decide) (hts _ w1_36) (fun _ h9 => h9) rfl d_D_addTask_42 ?_
    refine lv_aload_n hx hb d_D_addTask_45 rfl (lv_at hl 0 rfl) ?_
    refine va_get (D := E.1) (cl := gp_cl) (ci := 1) (v := .int (nI nt)) (C := R_D) (T := T_D) (N := 13) hx hb hts i_D hown hK hP 1 rfl rfl 10 (by decide) (hts _ w1_44) (fun _ h9 => h9) (congrArg (fun z => some (Value.int z)) hT) d_D_addTask_46 ?_
    refine lv_iload hx hb d_D_addTask_49 (lv_at hl 4 rfl) ?_
    refine gp_zst (f := (F 7)) (n := 6) hx hb hK hP hD hS 10 rfl (nt) rfl (by omega) (by decide) hb1 d_D_addTask_51 (fun H locs hP hD hS => ?_)
    have hP : va_P E.1 gp_cl (gp_wG E I (gp_uF (gp_uF (gp_uF (gp_uF F 4 (upd (F 4) (nt) x)) 5 (upd (F 5) (nt) y)) 6 (upd (F 6) (nt) z)) 7 (upd (F 7) (nt) b))) H := hP
    have hD : va_D A (gp_wG E I (gp_uF (gp_uF (gp_uF (gp_uF F 4 (upd (F 4) (nt) x)) 5 (upd (F 5) (nt) y)) 6 (upd (F 6) (nt) z)) 7 (upd (F 7) (nt) b))) := hD
    refine lv_aload_n hx hb d_D_addTask_52 rfl (lv_at hl 0 rfl) ?_
    refine lv_dup hx hb d_D_addTask_53 rfl ?_
    refine va_get (D := E.1) (cl := gp_cl) (ci := 1) (v := .int (nI nt)) (C := R_D) (T := T_D) (N := 13) hx hb hts i_D hown hK hP 1 rfl rfl 10 (by decide) (hts _ w1_44) (fun _ h9 => h9) (congrArg (fun z => some (Value.int z)) hT) d_D_addTask_54 ?_
    refine lv_iconst (v := 1) hx hb d_D_addTask_57 (by decide) ?_
    refine lv_iadd hx hb d_D_addTask_58 ?_
    rw [show ((nI nt) + 1) = (nI (nt + 1)) from nI_1 _]
    refine va_put (D := E.1) (cl := gp_cl) (ci := 1) (v := .int (nI (nt + 1))) (ty := .int) (C := R_D) (T := T_D) (N := 13) hx hb hts i_D t_D t_D_ok n_D hown hK hP hD hS 1 rfl rfl 10 (by decide) (hts _ w1_44) (fun _ h9 => h9) rfl (by decide +kernel) rfl rfl (Nat.le_of_ble_eq_true rfl) d_D_addTask_59 (fun H locs hP hD hS => ?_)
    have hP : va_P E.1 gp_cl (gp_wG E (upd I 6 (nI (nt + 1))) (gp_uF (gp_uF (gp_uF (gp_uF F 4 (upd (F 4) (nt) x)) 5 (upd (F 5) (nt) y)) 6 (upd (F 6) (nt) z)) 7 (upd (F 7) (nt) b))) H := hP
    have hD : va_D A (gp_wG E (upd I 6 (nI (nt + 1))) (gp_uF (gp_uF (gp_uF (gp_uF F 4 (upd (F 4) (nt) x)) 5 (upd (F 5) (nt) y)) 6 (upd (F 6) (nt) z)) 7 (upd (F 7) (nt) b))) := hD
    refine lv_aload_n hx hb d_D_addTask_62 rfl (lv_at hl 0 rfl) ?_
    refine va_get (D := E.1) (cl := gp_cl) (ci := 1) (v := .int (nI (nt + 1))) (C := R_D) (T := T_D) (N := 13) hx hb hts i_D hown hK hP 1 rfl rfl 10 (by decide) (hts _ w1_44) (fun _ h9 => h9) rfl d_D_addTask_63 ?_
    refine lv_iconst (v := 1) hx hb d_D_addTask_66 (by decide) ?_
    refine lv_isub hx hb d_D_addTask_67 ?_
    rw [show ((nI (nt + 1)) - 1) = (nI nt) from nI_pred _]
    exact gp_wi hx hb hr hlocks hAe (rfl) (hP) hS d_D_addTask_68
  · have c6 := c6
    have nc6 : ¬ nt < 6 := fun h => c6 ((nI_ltI (a := nt) (b := 6) (by omega) (by omega)).mpr h)
    exact False.elim (by omega)
