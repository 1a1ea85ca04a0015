set_option maxHeartbeats 4000000 in
set_option maxRecDepth 100000 in
theorem c_M_personN (l : Launch) (E : gp_E) (I : Nat → Int32) (F : Nat → Nat → Int32) (np : Nat) (x : Int32) (hp4 : I 1 = nI np) (hnp : np < 4) (hw : gm_w x 0 255 = true) : gp_CW l y_M_person b_M_person 2 (some .int) 2 E (gp_wM E I F) (gp_wM E (upd (upd I 0 0) 1 (nI (np + 1))) (gp_uF F 0 (upd (F 0) np x))) [.ref (E.2.2.2 0), .int x] (some (.int (nI np))) := by
  refine gp_ofW (by decide) (Nat.le_of_ble_eq_true rfl) ?_
  intro xp xe xs xm below meth xc ls A hx hb hr hts hown hlocks hml hP hK hD hA hAe hl
  have hS : va_S A xs.heap xs.heap [] := va_S.rf
  have hown : xs.vm.findClass "GuidePlansModel" = some xm.cls := hown
  have hl : lv_has ls 2 [(0, .ref (E.2.2.2 0)), (1, .int x)] := hl
  refine lv_aload_n hx hb d_M_person_0 rfl (lv_at hl 0 rfl) ?_
  refine lv_iload_n hx hb d_M_person_1 rfl (lv_at hl 1 rfl) ?_
  refine lv_iconst (v := 0) hx hb d_M_person_2 (by decide) ?_
  refine lv_sipush (v := 255) hx hb d_M_person_3 (by decide) ?_
  refine gp_cS (As := [.int x, .int 0, .int 255]) (rest := [.ref (E.2.2.2 0)]) ⟨hx, hb, hml, hown, hts⟩ (show gp_CR _ _ _ _ _ _ _ _ _ 1 from by have h9 := c_M_within l E I F x 0 255; rw [hw, if_pos rfl] at h9; exact h9) (k_M_66 hts ⟨by decide, by decide⟩ rfl rfl) hK hP rfl hl.1 rfl (Nat.le_of_ble_eq_true rfl) d_M_person_6 ⟨Nat.le_of_ble_eq_true rfl, Nat.le_of_ble_eq_true rfl⟩ ?_
  refine lv_aload_n hx hb d_M_person_9 rfl (lv_at hl 0 rfl) ?_
  refine va_get (D := E.1) (cl := gp_cl) (ci := 3) (v := .int (nI np)) (C := R_M) (T := T_M) (N := 27) hx hb hts i_M hown hK hP 0 rfl rfl 1 (by decide) (hts _ w3_53) (fun _ h9 => h9) (congrArg (fun z => some (Value.int z)) hp4) d_M_person_10 ?_
  refine lv_iconst (v := 4) hx hb d_M_person_13 (by decide) ?_
  refine lv_icmp_ge (tgt := 21) hx hb d_M_person_14 (by decide) (fun c14 => ?_) (fun c14 => ?_)
  · have c14 := c14
    have nc14 : 4 ≤ np := (nI_leI (a := 4) (b := np) (by omega) (by omega)).mp c14
    exact False.elim (by omega)
  · have c14 := c14
    have nc14 : ¬ 4 ≤ np := fun h => c14 ((nI_leI (a := 4) (b := np) (by omega) (by omega)).mpr h)
    refine lv_iconst (v := 1) hx hb d_M_person_17 (by decide) ?_
    refine lv_goto (tgt := 22) hx hb d_M_person_18 (by decide) ?_
    refine lv_iconst (v := 1) hx hb d_M_person_22 (by decide) ?_
    refine gp_cW (q0 := 0) (ci := 3) (As := [.int 1, .int 1, .int 1]) (rest := []) ⟨hx, hb, hml, hown, hts⟩ (show gp_CW l y_M_goes b_M_goes 4 (some .boolean) 1 E (gp_wM E I F) (gp_wM E (upd I 0 0) F) [.ref (E.2.2.2 0), .int 1, .int 1, .int 1] (some (.int 1)) from c_M_goes l E I F 1 1 1) (k_M_70 hts ⟨by decide, by decide⟩ rfl rfl) hK hP hD hS hA rfl rfl rfl rfl hl.1 rfl (Nat.le_of_ble_eq_true rfl) d_M_person_23 ⟨Nat.le_of_ble_eq_true rfl, Nat.le_of_ble_eq_true rfl⟩ (fun H locs hP hD hS => ?_)
    have hP : va_P E.1 gp_cl (gp_wM E (upd I 0 0) F) H := hP
    have hD : va_D A (gp_wM E (upd I 0 0) F) := hD
    refine W.eq (g2 := F0 xm 26 ls [.int 1]) rfl ?_
    refine lv_if_ne (tgt := 31) hx hb d_M_person_26 (by decide) (fun c26 => ?_) (fun c26 => ?_)
    · have c26 := c26
      have nc26 : ¬ 1 = 0 := fun h => c26 ((nI_eq (a := 1) (b := 0) (by omega) (by omega)).mpr h)
      refine lv_aload_n hx hb d_M_person_31 rfl (lv_at hl 0 rfl) ?_
      refine va_get (D := E.1) (cl := gp_cl) (ci := 3) (v := .ref (E.2.2.2 1)) (C := R_M) (T := T_M) (N := 27) hx hb hts i_M hown hK hP 0 rfl rfl 2 (by decide) (hts _ w3_54) (fun _ h9 => h9) rfl d_M_person_32 ?_
      refine lv_aload_n hx hb d_M_person_35 rfl (lv_at hl 0 rfl) ?_
      refine va_get (D := E.1) (cl := gp_cl) (ci := 3) (v := .int (nI np)) (C := R_M) (T := T_M) (N := 27) hx hb hts i_M hown hK hP 0 rfl rfl 1 (by decide) (hts _ w3_53) (fun _ h9 => h9) (congrArg (fun z => some (Value.int z)) hp4) d_M_person_36 ?_
      refine lv_iload_n hx hb d_M_person_39 rfl (lv_at hl 1 rfl) ?_
      refine gp_ast (f := (F 0)) (n := 4) hx hb hK hP hD hS 1 rfl (np) rfl (by omega) (by decide) d_M_person_40 (fun H locs hP hD hS => ?_)
      have hP : va_P E.1 gp_cl (gp_wM E (upd I 0 0) (gp_uF F 0 (upd (F 0) (np) x))) H := hP
      have hD : va_D A (gp_wM E (upd I 0 0) (gp_uF F 0 (upd (F 0) (np) x))) := hD
      refine lv_aload_n hx hb d_M_person_41 rfl (lv_at hl 0 rfl) ?_
      refine lv_dup hx hb d_M_person_42 rfl ?_
      refine va_get (D := E.1) (cl := gp_cl) (ci := 3) (v := .int (nI np)) (C := R_M) (T := T_M) (N := 27) hx hb hts i_M hown hK hP 0 rfl rfl 1 (by decide) (hts _ w3_53) (fun _ h9 => h9) (congrArg (fun z => some (Value.int z)) hp4) d_M_person_43 ?_
      refine lv_iconst (v := 1) hx hb d_M_person_46 (by decide) ?_
      refine lv_iadd hx hb d_M_person_47 ?_
      rw [show ((nI np) + 1) = (nI (np + 1)) from nI_1 _]
      refine va_put (D := E.1) (cl := gp_cl) (ci := 3) (v := .int (nI (np + 1))) (ty := .int) (C := R_M) (T := T_M) (N := 27) hx hb hts i_M t_M t_M_ok n_M hown hK hP hD hS 0 rfl rfl 1 (by decide) (hts _ w3_53) (fun _ h9 => h9) rfl (by decide +kernel) rfl rfl (Nat.le_of_ble_eq_true rfl) d_M_person_48 (fun H locs hP hD hS => ?_)
      have hP : va_P E.1 gp_cl (gp_wM E (upd (upd I 0 0) 1 (nI (np + 1))) (gp_uF F 0 (upd (F 0) (np) x))) H := hP
      have hD : va_D A (gp_wM E (upd (upd I 0 0) 1 (nI (np + 1))) (gp_uF F 0 (upd (F 0) (np) x))) := hD
      refine lv_aload_n hx hb d_M_person_51 rfl (lv_at hl 0 rfl) ?_
      refine va_get (D := E.1) (cl := gp_cl) (ci := 3) (v := .int (nI (np + 1))) (C := R_M) (T := T_M) (N := 27) hx hb hts i_M hown hK hP 0 rfl rfl 1 (by decide) (hts _ w3_53) (fun _ h9 => h9) rfl d_M_person_52 ?_
      refine lv_iconst (v := 1) hx hb d_M_person_55 (by decide) ?_
      refine lv_isub hx hb d_M_person_56 ?_
      rw [show ((nI (np + 1)) - 1) = (nI np) from nI_pred _]
      exact gp_wi hx hb hr hlocks hAe (rfl) (hP) hS d_M_person_57
    · exact absurd c26 (by decide)
set_option maxHeartbeats 4000000 in
set_option maxRecDepth 100000 in
theorem c_M_personE1 (l : Launch) (E : gp_E) (I : Nat → Int32) (F : Nat → Nat → Int32) (np : Nat) (x : Int32) (hp4 : I 1 = nI np) (hnp : np ≤ 4) (hw : gm_w x 0 255 = false) : gp_CW l y_M_person b_M_person 2 (some .int) 2 E (gp_wM E I F) (gp_wM E (upd I 0 1) F) [.ref (E.2.2.2 0), .int x] (some (.int 0)) := by
  refine gp_ofW (by decide) (Nat.le_of_ble_eq_true rfl) ?_
  intro xp xe xs xm below meth xc ls A hx hb hr hts hown hlocks hml hP hK hD hA hAe hl
  have hS : va_S A xs.heap xs.heap [] := va_S.rf
  have hown : xs.vm.findClass "GuidePlansModel" = some xm.cls := hown
  have hl : lv_has ls 2 [(0, .ref (E.2.2.2 0)), (1, .int x)] := hl
  refine lv_aload_n hx hb d_M_person_0 rfl (lv_at hl 0 rfl) ?_
  refine lv_iload_n hx hb d_M_person_1 rfl (lv_at hl 1 rfl) ?_
  refine lv_iconst (v := 0) hx hb d_M_person_2 (by decide) ?_
  refine lv_sipush (v := 255) hx hb d_M_person_3 (by decide) ?_
  refine gp_cS (As := [.int x, .int 0, .int 255]) (rest := [.ref (E.2.2.2 0)]) ⟨hx, hb, hml, hown, hts⟩ (show gp_CR _ _ _ _ _ _ _ _ _ 0 from by have h9 := c_M_within l E I F x 0 255; rw [hw, if_neg (by decide)] at h9; exact h9) (k_M_66 hts ⟨by decide, by decide⟩ rfl rfl) hK hP rfl hl.1 rfl (Nat.le_of_ble_eq_true rfl) d_M_person_6 ⟨Nat.le_of_ble_eq_true rfl, Nat.le_of_ble_eq_true rfl⟩ ?_
  refine lv_aload_n hx hb d_M_person_9 rfl (lv_at hl 0 rfl) ?_
  refine va_get (D := E.1) (cl := gp_cl) (ci := 3) (v := .int (nI np)) (C := R_M) (T := T_M) (N := 27) hx hb hts i_M hown hK hP 0 rfl rfl 1 (by decide) (hts _ w3_53) (fun _ h9 => h9) (congrArg (fun z => some (Value.int z)) hp4) d_M_person_10 ?_
  refine lv_iconst (v := 4) hx hb d_M_person_13 (by decide) ?_
  refine lv_icmp_ge (tgt := 21) hx hb d_M_person_14 (by decide) (fun c14 => ?_) (fun c14 => ?_)
  · have c14 := c14
    have nc14 : 4 ≤ np := (nI_leI (a := 4) (b := np) (by omega) (by omega)).mp c14
    refine lv_iconst (v := 0) hx hb d_M_person_21 (by decide) ?_
    refine lv_iconst (v := 1) hx hb d_M_person_22 (by decide) ?_
    refine gp_cW (q0 := 0) (ci := 3) (As := [.int 0, .int 0, .int 1]) (rest := []) ⟨hx, hb, hml, hown, hts⟩ (show gp_CW l y_M_goes b_M_goes 4 (some .boolean) 1 E (gp_wM E I F) (gp_wM E (upd I 0 1) F) [.ref (E.2.2.2 0), .int 0, .int 0, .int 1] (some (.int 0)) from c_M_goes l E I F 0 0 1) (k_M_70 hts ⟨by decide, by decide⟩ rfl rfl) hK hP hD hS hA rfl rfl rfl rfl hl.1 rfl (Nat.le_of_ble_eq_true rfl) d_M_person_23 ⟨Nat.le_of_ble_eq_true rfl, Nat.le_of_ble_eq_true rfl⟩ (fun H locs hP hD hS => ?_)
    have hP : va_P E.1 gp_cl (gp_wM E (upd I 0 1) F) H := hP
    have hD : va_D A (gp_wM E (upd I 0 1) F) := hD
    refine W.eq (g2 := F0 xm 26 ls [.int 0]) rfl ?_
    refine lv_if_ne (tgt := 31) hx hb d_M_person_26 (by decide) (fun c26 => ?_) (fun c26 => ?_)
    · exact absurd c26 (by decide)
    · have c26 := c26
      have nc26 : 0 = 0 := (nI_eq (a := 0) (b := 0) (by omega) (by omega)).mp c26
      refine lv_iconst (v := 0) hx hb d_M_person_29 (by decide) ?_
      exact gp_wi hx hb hr hlocks hAe (rfl) (hP) hS d_M_person_30
  · have c14 := c14
    have nc14 : ¬ 4 ≤ np := fun h => c14 ((nI_leI (a := 4) (b := np) (by omega) (by omega)).mpr h)
    refine lv_iconst (v := 1) hx hb d_M_person_17 (by decide) ?_
    refine lv_goto (tgt := 22) hx hb d_M_person_18 (by decide) ?_
    refine lv_iconst (v := 1) hx hb d_M_person_22 (by decide) ?_
    refine gp_cW (q0 := 0) (ci := 3) (As := [.int 0, .int 1, .int 1]) (rest := []) ⟨hx, hb, hml, hown, hts⟩ (show gp_CW l y_M_goes b_M_goes 4 (some .boolean) 1 E (gp_wM E I F) (gp_wM E (upd I 0 1) F) [.ref (E.2.2.2 0), .int 0, .int 1, .int 1] (some (.int 0)) from c_M_goes l E I F 0 1 1) (k_M_70 hts ⟨by decide, by decide⟩ rfl rfl) hK hP hD hS hA rfl rfl rfl rfl hl.1 rfl (Nat.le_of_ble_eq_true rfl) d_M_person_23 ⟨Nat.le_of_ble_eq_true rfl, Nat.le_of_ble_eq_true rfl⟩ (fun H locs hP hD hS => ?_)
    have hP : va_P E.1 gp_cl (gp_wM E (upd I 0 1) F) H := hP
    have hD : va_D A (gp_wM E (upd I 0 1) F) := hD
    refine W.eq (g2 := F0 xm 26 ls [.int 0]) rfl ?_
    refine lv_if_ne (tgt := 31) hx hb d_M_person_26 (by decide) (fun c26 => ?_) (fun c26 => ?_)
    · exact absurd c26 (by decide)
    · have c26 := c26
      have nc26 : 0 = 0 := (nI_eq (a := 0) (b := 0) (by omega) (by omega)).mp c26
      refine lv_iconst (v := 0) hx hb d_M_person_29 (by decide) ?_
      exact gp_wi hx hb hr hlocks hAe (rfl) (hP) hS d_M_person_30
set_option maxHeartbeats 4000000 in
set_option maxRecDepth 100000 in
theorem c_M_personE2 (l : Launch) (E : gp_E) (I : Nat → Int32) (F : Nat → Nat → Int32) (x : Int32) (hp4 : I 1 = nI 4) (hw : gm_w x 0 255 = true) : gp_CW l y_M_person b_M_person 2 (some .int) 2 E (gp_wM E I F) (gp_wM E (upd I 0 2) F) [.ref (E.2.2.2 0), .int x] (some (.int 0)) := by
  refine gp_ofW (by decide) (Nat.le_of_ble_eq_true rfl) ?_
  intro xp xe xs xm below meth xc ls A hx hb hr hts hown hlocks hml hP hK hD hA hAe hl
  have hS : va_S A xs.heap xs.heap [] := va_S.rf
  have hown : xs.vm.findClass "GuidePlansModel" = some xm.cls := hown
  have hl : lv_has ls 2 [(0, .ref (E.2.2.2 0)), (1, .int x)] := hl
  refine lv_aload_n hx hb d_M_person_0 rfl (lv_at hl 0 rfl) ?_
  refine lv_iload_n hx hb d_M_person_1 rfl (lv_at hl 1 rfl) ?_
  refine lv_iconst (v := 0) hx hb d_M_person_2 (by decide) ?_
  refine lv_sipush (v := 255) hx hb d_M_person_3 (by decide) ?_
  refine gp_cS (As := [.int x, .int 0, .int 255]) (rest := [.ref (E.2.2.2 0)]) ⟨hx, hb, hml, hown, hts⟩ (show gp_CR _ _ _ _ _ _ _ _ _ 1 from by have h9 := c_M_within l E I F x 0 255; rw [hw, if_pos rfl] at h9; exact h9) (k_M_66 hts ⟨by decide, by decide⟩ rfl rfl) hK hP rfl hl.1 rfl (Nat.le_of_ble_eq_true rfl) d_M_person_6 ⟨Nat.le_of_ble_eq_true rfl, Nat.le_of_ble_eq_true rfl⟩ ?_
  refine lv_aload_n hx hb d_M_person_9 rfl (lv_at hl 0 rfl) ?_
  refine va_get (D := E.1) (cl := gp_cl) (ci := 3) (v := .int (nI 4)) (C := R_M) (T := T_M) (N := 27) hx hb hts i_M hown hK hP 0 rfl rfl 1 (by decide) (hts _ w3_53) (fun _ h9 => h9) (congrArg (fun z => some (Value.int z)) hp4) d_M_person_10 ?_
  refine lv_iconst (v := 4) hx hb d_M_person_13 (by decide) ?_
  refine lv_icmp_ge (tgt := 21) hx hb d_M_person_14 (by decide) (fun c14 => ?_) (fun c14 => ?_)
  · have c14 := c14
    have nc14 : 4 ≤ 4 := (nI_leI (a := 4) (b := 4) (by omega) (by omega)).mp c14
    refine lv_iconst (v := 0) hx hb d_M_person_21 (by decide) ?_
    refine lv_iconst (v := 1) hx hb d_M_person_22 (by decide) ?_
    refine gp_cW (q0 := 0) (ci := 3) (As := [.int 1, .int 0, .int 1]) (rest := []) ⟨hx, hb, hml, hown, hts⟩ (show gp_CW l y_M_goes b_M_goes 4 (some .boolean) 1 E (gp_wM E I F) (gp_wM E (upd I 0 2) F) [.ref (E.2.2.2 0), .int 1, .int 0, .int 1] (some (.int 0)) from c_M_goes l E I F 1 0 1) (k_M_70 hts ⟨by decide, by decide⟩ rfl rfl) hK hP hD hS hA rfl rfl rfl rfl hl.1 rfl (Nat.le_of_ble_eq_true rfl) d_M_person_23 ⟨Nat.le_of_ble_eq_true rfl, Nat.le_of_ble_eq_true rfl⟩ (fun H locs hP hD hS => ?_)
    have hP : va_P E.1 gp_cl (gp_wM E (upd I 0 2) F) H := hP
    have hD : va_D A (gp_wM E (upd I 0 2) F) := hD
    refine W.eq (g2 := F0 xm 26 ls [.int 0]) rfl ?_
    refine lv_if_ne (tgt := 31) hx hb d_M_person_26 (by decide) (fun c26 => ?_) (fun c26 => ?_)
    · exact absurd c26 (by decide)
    · have c26 := c26
      have nc26 : 0 = 0 := (nI_eq (a := 0) (b := 0) (by omega) (by omega)).mp c26
      refine lv_iconst (v := 0) hx hb d_M_person_29 (by decide) ?_
      exact gp_wi hx hb hr hlocks hAe (rfl) (hP) hS d_M_person_30
  · have c14 := c14
    have nc14 : ¬ 4 ≤ 4 := fun h => c14 ((nI_leI (a := 4) (b := 4) (by omega) (by omega)).mpr h)
    exact False.elim (by omega)
set_option maxHeartbeats 4000000 in
set_option maxRecDepth 100000 in
theorem c_M_offN (l : Launch) (E : gp_E) (I : Nat → Int32) (F : Nat → Nat → Int32) (ns : Nat) (x y z : Int32) (h : gp_in x (I 1) = true) (hs : gm_sp y z = true) (hN : I 2 = nI ns) (hns : ns < 20) : gp_CW l y_M_off b_M_off 4 (some .int) 2 E (gp_wM E I F) (gp_wM E (upd (upd I 0 0) 2 (nI (ns + 1))) (gp_uF (gp_uF (gp_uF F 1 (upd (F 1) ns x)) 2 (upd (F 2) ns y)) 3 (upd (F 3) ns z))) [.ref (E.2.2.2 0), .int x, .int y, .int z] (some (.int (nI (ns + 1)))) := by
  refine gp_ofW (by decide) (Nat.le_of_ble_eq_true rfl) ?_
  intro xp xe xs xm below meth xc ls A hx hb hr hts hown hlocks hml hP hK hD hA hAe hl
  have hS : va_S A xs.heap xs.heap [] := va_S.rf
  have hown : xs.vm.findClass "GuidePlansModel" = some xm.cls := hown
  have hl : lv_has ls 4 [(0, .ref (E.2.2.2 0)), (1, .int x), (2, .int y), (3, .int z)] := hl
  refine lv_aload_n hx hb d_M_off_0 rfl (lv_at hl 0 rfl) ?_
  refine lv_aload_n hx hb d_M_off_1 rfl (lv_at hl 0 rfl) ?_
  refine lv_iload_n hx hb d_M_off_2 rfl (lv_at hl 1 rfl) ?_
  refine gp_cR (q0 := 0) (ci := 3) (As := [.int x]) (rest := [.ref (E.2.2.2 0)]) ⟨hx, hb, hml, hown, hts⟩ (show gp_CR _ _ _ _ _ _ _ _ _ 1 from by have h9 := c_M_isPerson l E I F x; rw [h, if_pos rfl] at h9; exact h9) (k_M_77 hts ⟨by decide, by decide⟩ rfl rfl) hK hP rfl rfl rfl hl.1 rfl (Nat.le_of_ble_eq_true rfl) d_M_off_3 ⟨Nat.le_of_ble_eq_true rfl, Nat.le_of_ble_eq_true rfl⟩ ?_
  refine lv_iload_n hx hb d_M_off_6 rfl (lv_at hl 2 rfl) ?_
  refine lv_iload_n hx hb d_M_off_7 rfl (lv_at hl 3 rfl) ?_
  refine gp_cS (As := [.int y, .int z]) (rest := [.int 1, .ref (E.2.2.2 0)]) ⟨hx, hb, hml, hown, hts⟩ (show gp_CR _ _ _ _ _ _ _ _ _ 1 from by have h9 := c_M_isSpan l E I F y z; rw [hs, if_pos rfl] at h9; exact h9) (k_M_81 hts ⟨by decide, by decide⟩ rfl rfl) hK hP rfl hl.1 rfl (Nat.le_of_ble_eq_true rfl) d_M_off_8 ⟨Nat.le_of_ble_eq_true rfl, Nat.le_of_ble_eq_true rfl⟩ ?_
  refine lv_aload_n hx hb d_M_off_11 rfl (lv_at hl 0 rfl) ?_
  refine va_get (D := E.1) (cl := gp_cl) (ci := 3) (v := .int (nI ns)) (C := R_M) (T := T_M) (N := 27) hx hb hts i_M hown hK hP 0 rfl rfl 3 (by decide) (hts _ w3_55) (fun _ h9 => h9) (congrArg (fun z => some (Value.int z)) hN) d_M_off_12 ?_
  refine lv_bipush (v := 20) hx hb d_M_off_15 (by decide) ?_
  refine lv_icmp_ge (tgt := 24) hx hb d_M_off_17 (by decide) (fun c17 => ?_) (fun c17 => ?_)
  · have c17 := c17
    have nc17 : 20 ≤ ns := (nI_leI (a := 20) (b := ns) (by omega) (by omega)).mp c17
    exact False.elim (by omega)
  · have c17 := c17
    have nc17 : ¬ 20 ≤ ns := fun h => c17 ((nI_leI (a := 20) (b := ns) (by omega) (by omega)).mpr h)
    refine lv_iconst (v := 1) hx hb d_M_off_20 (by decide) ?_
    refine lv_goto (tgt := 25) hx hb d_M_off_21 (by decide) ?_
    refine gp_cW (q0 := 0) (ci := 3) (As := [.int 1, .int 1, .int 1]) (rest := []) ⟨hx, hb, hml, hown, hts⟩ (show gp_CW l y_M_goes b_M_goes 4 (some .boolean) 1 E (gp_wM E I F) (gp_wM E (upd I 0 0) F) [.ref (E.2.2.2 0), .int 1, .int 1, .int 1] (some (.int 1)) from c_M_goes l E I F 1 1 1) (k_M_70 hts ⟨by decide, by decide⟩ rfl rfl) hK hP hD hS hA rfl rfl rfl rfl hl.1 rfl (Nat.le_of_ble_eq_true rfl) d_M_off_25 ⟨Nat.le_of_ble_eq_true rfl, Nat.le_of_ble_eq_true rfl⟩ (fun H locs hP hD hS => ?_)
    have hP : va_P E.1 gp_cl (gp_wM E (upd I 0 0) F) H := hP
    have hD : va_D A (gp_wM E (upd I 0 0) F) := hD
    refine W.eq (g2 := F0 xm 28 ls [.int 1]) rfl ?_
    refine lv_if_ne (tgt := 33) hx hb d_M_off_28 (by decide) (fun c28 => ?_) (fun c28 => ?_)
    · have c28 := c28
      have nc28 : ¬ 1 = 0 := fun h => c28 ((nI_eq (a := 1) (b := 0) (by omega) (by omega)).mpr h)
      refine lv_aload_n hx hb d_M_off_33 rfl (lv_at hl 0 rfl) ?_
      refine lv_iload_n hx hb d_M_off_34 rfl (lv_at hl 1 rfl) ?_
      refine lv_iload_n hx hb d_M_off_35 rfl (lv_at hl 2 rfl) ?_
      refine lv_iload_n hx hb d_M_off_36 rfl (lv_at hl 3 rfl) ?_
      refine gp_cW (q0 := 0) (ci := 3) (As := [.int x, .int y, .int z]) (rest := []) ⟨hx, hb, hml, hown, hts⟩ (c_M_leave l E (upd I 0 0) F ns x y z hN hns) (k_M_85 hts ⟨by decide, by decide⟩ rfl rfl) hK hP hD hS hA rfl rfl rfl rfl hl.1 rfl (Nat.le_of_ble_eq_true rfl) d_M_off_37 ⟨Nat.le_of_ble_eq_true rfl, Nat.le_of_ble_eq_true rfl⟩ (fun H locs hP hD hS => ?_)
      have hP : va_P E.1 gp_cl (gp_wM E (upd (upd I 0 0) 2 (nI (ns + 1))) (gp_uF (gp_uF (gp_uF F 1 (upd (F 1) ns x)) 2 (upd (F 2) ns y)) 3 (upd (F 3) ns z))) H := hP
      have hD : va_D A (gp_wM E (upd (upd I 0 0) 2 (nI (ns + 1))) (gp_uF (gp_uF (gp_uF F 1 (upd (F 1) ns x)) 2 (upd (F 2) ns y)) 3 (upd (F 3) ns z))) := hD
      refine lv_aload_n hx hb d_M_off_40 rfl (lv_at hl 0 rfl) ?_
      refine va_get (D := E.1) (cl := gp_cl) (ci := 3) (v := .int (nI (ns + 1))) (C := R_M) (T := T_M) (N := 27) hx hb hts i_M hown hK hP 0 rfl rfl 3 (by decide) (hts _ w3_55) (fun _ h9 => h9) rfl d_M_off_41 ?_
      exact gp_wi hx hb hr hlocks hAe (rfl) (hP) hS d_M_off_44
    · exact absurd c28 (by decide)
set_option maxHeartbeats 4000000 in
set_option maxRecDepth 100000 in
theorem c_M_offE1 (l : Launch) (E : gp_E) (I : Nat → Int32) (F : Nat → Nat → Int32) (ns : Nat) (x y z : Int32) (h : gp_in x (I 1) = false) (hN : I 2 = nI ns) (hns : ns ≤ 20) : gp_CW l y_M_off b_M_off 4 (some .int) 2 E (gp_wM E I F) (gp_wM E (upd I 0 1) F) [.ref (E.2.2.2 0), .int x, .int y, .int z] (some (.int 0)) := by
  refine gp_ofW (by decide) (Nat.le_of_ble_eq_true rfl) ?_
  intro xp xe xs xm below meth xc ls A hx hb hr hts hown hlocks hml hP hK hD hA hAe hl
  have hS : va_S A xs.heap xs.heap [] := va_S.rf
  have hown : xs.vm.findClass "GuidePlansModel" = some xm.cls := hown
  have hl : lv_has ls 4 [(0, .ref (E.2.2.2 0)), (1, .int x), (2, .int y), (3, .int z)] := hl
  refine lv_aload_n hx hb d_M_off_0 rfl (lv_at hl 0 rfl) ?_
  refine lv_aload_n hx hb d_M_off_1 rfl (lv_at hl 0 rfl) ?_
  refine lv_iload_n hx hb d_M_off_2 rfl (lv_at hl 1 rfl) ?_
  refine gp_cR (q0 := 0) (ci := 3) (As := [.int x]) (rest := [.ref (E.2.2.2 0)]) ⟨hx, hb, hml, hown, hts⟩ (show gp_CR _ _ _ _ _ _ _ _ _ 0 from by have h9 := c_M_isPerson l E I F x; rw [h, if_neg (by decide)] at h9; exact h9) (k_M_77 hts ⟨by decide, by decide⟩ rfl rfl) hK hP rfl rfl rfl hl.1 rfl (Nat.le_of_ble_eq_true rfl) d_M_off_3 ⟨Nat.le_of_ble_eq_true rfl, Nat.le_of_ble_eq_true rfl⟩ ?_
  refine lv_iload_n hx hb d_M_off_6 rfl (lv_at hl 2 rfl) ?_
  refine lv_iload_n hx hb d_M_off_7 rfl (lv_at hl 3 rfl) ?_
  refine gp_cS (As := [.int y, .int z]) (rest := [.int 0, .ref (E.2.2.2 0)]) ⟨hx, hb, hml, hown, hts⟩ (c_M_isSpan l E I F y z) (k_M_81 hts ⟨by decide, by decide⟩ rfl rfl) hK hP rfl hl.1 rfl (Nat.le_of_ble_eq_true rfl) d_M_off_8 ⟨Nat.le_of_ble_eq_true rfl, Nat.le_of_ble_eq_true rfl⟩ ?_
  by_cases hs8 : gm_sp y z = true
  · rw [show ((if gm_sp y z then 1 else 0) : Int32) = 1 from if_pos hs8]
    refine lv_aload_n hx hb d_M_off_11 rfl (lv_at hl 0 rfl) ?_
    refine va_get (D := E.1) (cl := gp_cl) (ci := 3) (v := .int (nI ns)) (C := R_M) (T := T_M) (N := 27) hx hb hts i_M hown hK hP 0 rfl rfl 3 (by decide) (hts _ w3_55) (fun _ h9 => h9) (congrArg (fun z => some (Value.int z)) hN) d_M_off_12 ?_
    refine lv_bipush (v := 20) hx hb d_M_off_15 (by decide) ?_
    refine lv_icmp_ge (tgt := 24) hx hb d_M_off_17 (by decide) (fun c17 => ?_) (fun c17 => ?_)
    · have c17 := c17
      have nc17 : 20 ≤ ns := (nI_leI (a := 20) (b := ns) (by omega) (by omega)).mp c17
      refine lv_iconst (v := 0) hx hb d_M_off_24 (by decide) ?_
      refine gp_cW (q0 := 0) (ci := 3) (As := [.int 0, .int 1, .int 0]) (rest := []) ⟨hx, hb, hml, hown, hts⟩ (show gp_CW l y_M_goes b_M_goes 4 (some .boolean) 1 E (gp_wM E I F) (gp_wM E (upd I 0 1) F) [.ref (E.2.2.2 0), .int 0, .int 1, .int 0] (some (.int 0)) from c_M_goes l E I F 0 1 0) (k_M_70 hts ⟨by decide, by decide⟩ rfl rfl) hK hP hD hS hA rfl rfl rfl rfl hl.1 rfl (Nat.le_of_ble_eq_true rfl) d_M_off_25 ⟨Nat.le_of_ble_eq_true rfl, Nat.le_of_ble_eq_true rfl⟩ (fun H locs hP hD hS => ?_)
      have hP : va_P E.1 gp_cl (gp_wM E (upd I 0 1) F) H := hP
      have hD : va_D A (gp_wM E (upd I 0 1) F) := hD
      refine W.eq (g2 := F0 xm 28 ls [.int 0]) rfl ?_
      refine lv_if_ne (tgt := 33) hx hb d_M_off_28 (by decide) (fun c28 => ?_) (fun c28 => ?_)
      · exact absurd c28 (by decide)
      · have c28 := c28
        have nc28 : 0 = 0 := (nI_eq (a := 0) (b := 0) (by omega) (by omega)).mp c28
        refine lv_iconst (v := 0) hx hb d_M_off_31 (by decide) ?_
        exact gp_wi hx hb hr hlocks hAe (rfl) (hP) hS d_M_off_32
    · have c17 := c17
      have nc17 : ¬ 20 ≤ ns := fun h => c17 ((nI_leI (a := 20) (b := ns) (by omega) (by omega)).mpr h)
      refine lv_iconst (v := 1) hx hb d_M_off_20 (by decide) ?_
      refine lv_goto (tgt := 25) hx hb d_M_off_21 (by decide) ?_
      refine gp_cW (q0 := 0) (ci := 3) (As := [.int 0, .int 1, .int 1]) (rest := []) ⟨hx, hb, hml, hown, hts⟩ (show gp_CW l y_M_goes b_M_goes 4 (some .boolean) 1 E (gp_wM E I F) (gp_wM E (upd I 0 1) F) [.ref (E.2.2.2 0), .int 0, .int 1, .int 1] (some (.int 0)) from c_M_goes l E I F 0 1 1) (k_M_70 hts ⟨by decide, by decide⟩ rfl rfl) hK hP hD hS hA rfl rfl rfl rfl hl.1 rfl (Nat.le_of_ble_eq_true rfl) d_M_off_25 ⟨Nat.le_of_ble_eq_true rfl, Nat.le_of_ble_eq_true rfl⟩ (fun H locs hP hD hS => ?_)
      have hP : va_P E.1 gp_cl (gp_wM E (upd I 0 1) F) H := hP
      have hD : va_D A (gp_wM E (upd I 0 1) F) := hD
      refine W.eq (g2 := F0 xm 28 ls [.int 0]) rfl ?_
      refine lv_if_ne (tgt := 33) hx hb d_M_off_28 (by decide) (fun c28 => ?_) (fun c28 => ?_)
      · exact absurd c28 (by decide)
      · have c28 := c28
        have nc28 : 0 = 0 := (nI_eq (a := 0) (b := 0) (by omega) (by omega)).mp c28
        refine lv_iconst (v := 0) hx hb d_M_off_31 (by decide) ?_
        exact gp_wi hx hb hr hlocks hAe (rfl) (hP) hS d_M_off_32
  · rw [show ((if gm_sp y z then 1 else 0) : Int32) = 0 from if_neg hs8]
    refine lv_aload_n hx hb d_M_off_11 rfl (lv_at hl 0 rfl) ?_
    refine va_get (D := E.1) (cl := gp_cl) (ci := 3) (v := .int (nI ns)) (C := R_M) (T := T_M) (N := 27) hx hb hts i_M hown hK hP 0 rfl rfl 3 (by decide) (hts _ w3_55) (fun _ h9 => h9) (congrArg (fun z => some (Value.int z)) hN) d_M_off_12 ?_
    refine lv_bipush (v := 20) hx hb d_M_off_15 (by decide) ?_
    refine lv_icmp_ge (tgt := 24) hx hb d_M_off_17 (by decide) (fun c17 => ?_) (fun c17 => ?_)
    · have c17 := c17
      have nc17 : 20 ≤ ns := (nI_leI (a := 20) (b := ns) (by omega) (by omega)).mp c17
      refine lv_iconst (v := 0) hx hb d_M_off_24 (by decide) ?_
      refine gp_cW (q0 := 0) (ci := 3) (As := [.int 0, .int 0, .int 0]) (rest := []) ⟨hx, hb, hml, hown, hts⟩ (show gp_CW l y_M_goes b_M_goes 4 (some .boolean) 1 E (gp_wM E I F) (gp_wM E (upd I 0 1) F) [.ref (E.2.2.2 0), .int 0, .int 0, .int 0] (some (.int 0)) from c_M_goes l E I F 0 0 0) (k_M_70 hts ⟨by decide, by decide⟩ rfl rfl) hK hP hD hS hA rfl rfl rfl rfl hl.1 rfl (Nat.le_of_ble_eq_true rfl) d_M_off_25 ⟨Nat.le_of_ble_eq_true rfl, Nat.le_of_ble_eq_true rfl⟩ (fun H locs hP hD hS => ?_)
      have hP : va_P E.1 gp_cl (gp_wM E (upd I 0 1) F) H := hP
      have hD : va_D A (gp_wM E (upd I 0 1) F) := hD
      refine W.eq (g2 := F0 xm 28 ls [.int 0]) rfl ?_
      refine lv_if_ne (tgt := 33) hx hb d_M_off_28 (by decide) (fun c28 => ?_) (fun c28 => ?_)
      · exact absurd c28 (by decide)
      · have c28 := c28
        have nc28 : 0 = 0 := (nI_eq (a := 0) (b := 0) (by omega) (by omega)).mp c28
        refine lv_iconst (v := 0) hx hb d_M_off_31 (by decide) ?_
        exact gp_wi hx hb hr hlocks hAe (rfl) (hP) hS d_M_off_32
    · have c17 := c17
      have nc17 : ¬ 20 ≤ ns := fun h => c17 ((nI_leI (a := 20) (b := ns) (by omega) (by omega)).mpr h)
      refine lv_iconst (v := 1) hx hb d_M_off_20 (by decide) ?_
      refine lv_goto (tgt := 25) hx hb d_M_off_21 (by decide) ?_
      refine gp_cW (q0 := 0) (ci := 3) (As := [.int 0, .int 0, .int 1]) (rest := []) ⟨hx, hb, hml, hown, hts⟩ (show gp_CW l y_M_goes b_M_goes 4 (some .boolean) 1 E (gp_wM E I F) (gp_wM E (upd I 0 1) F) [.ref (E.2.2.2 0), .int 0, .int 0, .int 1] (some (.int 0)) from c_M_goes l E I F 0 0 1) (k_M_70 hts ⟨by decide, by decide⟩ rfl rfl) hK hP hD hS hA rfl rfl rfl rfl hl.1 rfl (Nat.le_of_ble_eq_true rfl) d_M_off_25 ⟨Nat.le_of_ble_eq_true rfl, Nat.le_of_ble_eq_true rfl⟩ (fun H locs hP hD hS => ?_)
      have hP : va_P E.1 gp_cl (gp_wM E (upd I 0 1) F) H := hP
      have hD : va_D A (gp_wM E (upd I 0 1) F) := hD
      refine W.eq (g2 := F0 xm 28 ls [.int 0]) rfl ?_
      refine lv_if_ne (tgt := 33) hx hb d_M_off_28 (by decide) (fun c28 => ?_) (fun c28 => ?_)
      · exact absurd c28 (by decide)
      · have c28 := c28
        have nc28 : 0 = 0 := (nI_eq (a := 0) (b := 0) (by omega) (by omega)).mp c28
        refine lv_iconst (v := 0) hx hb d_M_off_31 (by decide) ?_
        exact gp_wi hx hb hr hlocks hAe (rfl) (hP) hS d_M_off_32
set_option maxHeartbeats 4000000 in
set_option maxRecDepth 100000 in
theorem c_M_offE2 (l : Launch) (E : gp_E) (I : Nat → Int32) (F : Nat → Nat → Int32) (ns : Nat) (x y z : Int32) (h : gp_in x (I 1) = true) (hs : gm_sp y z = false) (hN : I 2 = nI ns) (hns : ns ≤ 20) : gp_CW l y_M_off b_M_off 4 (some .int) 2 E (gp_wM E I F) (gp_wM E (upd I 0 2) F) [.ref (E.2.2.2 0), .int x, .int y, .int z] (some (.int 0)) := by
  refine gp_ofW (by decide) (Nat.le_of_ble_eq_true rfl) ?_
  intro xp xe xs xm below meth xc ls A hx hb hr hts hown hlocks hml hP hK hD hA hAe hl
  have hS : va_S A xs.heap xs.heap [] := va_S.rf
  have hown : xs.vm.findClass "GuidePlansModel" = some xm.cls := hown
  have hl : lv_has ls 4 [(0, .ref (E.2.2.2 0)), (1, .int x), (2, .int y), (3, .int z)] := hl
  refine lv_aload_n hx hb d_M_off_0 rfl (lv_at hl 0 rfl) ?_
  refine lv_aload_n hx hb d_M_off_1 rfl (lv_at hl 0 rfl) ?_
  refine lv_iload_n hx hb d_M_off_2 rfl (lv_at hl 1 rfl) ?_
  refine gp_cR (q0 := 0) (ci := 3) (As := [.int x]) (rest := [.ref (E.2.2.2 0)]) ⟨hx, hb, hml, hown, hts⟩ (show gp_CR _ _ _ _ _ _ _ _ _ 1 from by have h9 := c_M_isPerson l E I F x; rw [h, if_pos rfl] at h9; exact h9) (k_M_77 hts ⟨by decide, by decide⟩ rfl rfl) hK hP rfl rfl rfl hl.1 rfl (Nat.le_of_ble_eq_true rfl) d_M_off_3 ⟨Nat.le_of_ble_eq_true rfl, Nat.le_of_ble_eq_true rfl⟩ ?_
  refine lv_iload_n hx hb d_M_off_6 rfl (lv_at hl 2 rfl) ?_
  refine lv_iload_n hx hb d_M_off_7 rfl (lv_at hl 3 rfl) ?_
  refine gp_cS (As := [.int y, .int z]) (rest := [.int 1, .ref (E.2.2.2 0)]) ⟨hx, hb, hml, hown, hts⟩ (show gp_CR _ _ _ _ _ _ _ _ _ 0 from by have h9 := c_M_isSpan l E I F y z; rw [hs, if_neg (by decide)] at h9; exact h9) (k_M_81 hts ⟨by decide, by decide⟩ rfl rfl) hK hP rfl hl.1 rfl (Nat.le_of_ble_eq_true rfl) d_M_off_8 ⟨Nat.le_of_ble_eq_true rfl, Nat.le_of_ble_eq_true rfl⟩ ?_
  refine lv_aload_n hx hb d_M_off_11 rfl (lv_at hl 0 rfl) ?_
  refine va_get (D := E.1) (cl := gp_cl) (ci := 3) (v := .int (nI ns)) (C := R_M) (T := T_M) (N := 27) hx hb hts i_M hown hK hP 0 rfl rfl 3 (by decide) (hts _ w3_55) (fun _ h9 => h9) (congrArg (fun z => some (Value.int z)) hN) d_M_off_12 ?_
  refine lv_bipush (v := 20) hx hb d_M_off_15 (by decide) ?_
  refine lv_icmp_ge (tgt := 24) hx hb d_M_off_17 (by decide) (fun c17 => ?_) (fun c17 => ?_)
  · have c17 := c17
    have nc17 : 20 ≤ ns := (nI_leI (a := 20) (b := ns) (by omega) (by omega)).mp c17
    refine lv_iconst (v := 0) hx hb d_M_off_24 (by decide) ?_
    refine gp_cW (q0 := 0) (ci := 3) (As := [.int 1, .int 0, .int 0]) (rest := []) ⟨hx, hb, hml, hown, hts⟩ (show gp_CW l y_M_goes b_M_goes 4 (some .boolean) 1 E (gp_wM E I F) (gp_wM E (upd I 0 2) F) [.ref (E.2.2.2 0), .int 1, .int 0, .int 0] (some (.int 0)) from c_M_goes l E I F 1 0 0) (k_M_70 hts ⟨by decide, by decide⟩ rfl rfl) hK hP hD hS hA rfl rfl rfl rfl hl.1 rfl (Nat.le_of_ble_eq_true rfl) d_M_off_25 ⟨Nat.le_of_ble_eq_true rfl, Nat.le_of_ble_eq_true rfl⟩ (fun H locs hP hD hS => ?_)
    have hP : va_P E.1 gp_cl (gp_wM E (upd I 0 2) F) H := hP
    have hD : va_D A (gp_wM E (upd I 0 2) F) := hD
    refine W.eq (g2 := F0 xm 28 ls [.int 0]) rfl ?_
    refine lv_if_ne (tgt := 33) hx hb d_M_off_28 (by decide) (fun c28 => ?_) (fun c28 => ?_)
    · exact absurd c28 (by decide)
    · have c28 := c28
      have nc28 : 0 = 0 := (nI_eq (a := 0) (b := 0) (by omega) (by omega)).mp c28
      refine lv_iconst (v := 0) hx hb d_M_off_31 (by decide) ?_
      exact gp_wi hx hb hr hlocks hAe (rfl) (hP) hS d_M_off_32
  · have c17 := c17
    have nc17 : ¬ 20 ≤ ns := fun h => c17 ((nI_leI (a := 20) (b := ns) (by omega) (by omega)).mpr h)
    refine lv_iconst (v := 1) hx hb d_M_off_20 (by decide) ?_
    refine lv_goto (tgt := 25) hx hb d_M_off_21 (by decide) ?_
    refine gp_cW (q0 := 0) (ci := 3) (As := [.int 1, .int 0, .int 1]) (rest := []) ⟨hx, hb, hml, hown, hts⟩ (show gp_CW l y_M_goes b_M_goes 4 (some .boolean) 1 E (gp_wM E I F) (gp_wM E (upd I 0 2) F) [.ref (E.2.2.2 0), .int 1, .int 0, .int 1] (some (.int 0)) from c_M_goes l E I F 1 0 1) (k_M_70 hts ⟨by decide, by decide⟩ rfl rfl) hK hP hD hS hA rfl rfl rfl rfl hl.1 rfl (Nat.le_of_ble_eq_true rfl) d_M_off_25 ⟨Nat.le_of_ble_eq_true rfl, Nat.le_of_ble_eq_true rfl⟩ (fun H locs hP hD hS => ?_)
    have hP : va_P E.1 gp_cl (gp_wM E (upd I 0 2) F) H := hP
    have hD : va_D A (gp_wM E (upd I 0 2) F) := hD
    refine W.eq (g2 := F0 xm 28 ls [.int 0]) rfl ?_
    refine lv_if_ne (tgt := 33) hx hb d_M_off_28 (by decide) (fun c28 => ?_) (fun c28 => ?_)
    · exact absurd c28 (by decide)
    · have c28 := c28
      have nc28 : 0 = 0 := (nI_eq (a := 0) (b := 0) (by omega) (by omega)).mp c28
      refine lv_iconst (v := 0) hx hb d_M_off_31 (by decide) ?_
      exact gp_wi hx hb hr hlocks hAe (rfl) (hP) hS d_M_off_32
set_option maxHeartbeats 4000000 in
set_option maxRecDepth 100000 in
theorem c_M_offE3 (l : Launch) (E : gp_E) (I : Nat → Int32) (F : Nat → Nat → Int32) (x y z : Int32) (h : gp_in x (I 1) = true) (hs : gm_sp y z = true) (hN : I 2 = nI 20) : gp_CW l y_M_off b_M_off 4 (some .int) 2 E (gp_wM E I F) (gp_wM E (upd I 0 3) F) [.ref (E.2.2.2 0), .int x, .int y, .int z] (some (.int 0)) := by
  refine gp_ofW (by decide) (Nat.le_of_ble_eq_true rfl) ?_
  intro xp xe xs xm below meth xc ls A hx hb hr hts hown hlocks hml hP hK hD hA hAe hl
  have hS : va_S A xs.heap xs.heap [] := va_S.rf
  have hown : xs.vm.findClass "GuidePlansModel" = some xm.cls := hown
  have hl : lv_has ls 4 [(0, .ref (E.2.2.2 0)), (1, .int x), (2, .int y), (3, .int z)] := hl
  refine lv_aload_n hx hb d_M_off_0 rfl (lv_at hl 0 rfl) ?_
  refine lv_aload_n hx hb d_M_off_1 rfl (lv_at hl 0 rfl) ?_
  refine lv_iload_n hx hb d_M_off_2 rfl (lv_at hl 1 rfl) ?_
  refine gp_cR (q0 := 0) (ci := 3) (As := [.int x]) (rest := [.ref (E.2.2.2 0)]) ⟨hx, hb, hml, hown, hts⟩ (show gp_CR _ _ _ _ _ _ _ _ _ 1 from by have h9 := c_M_isPerson l E I F x; rw [h, if_pos rfl] at h9; exact h9) (k_M_77 hts ⟨by decide, by decide⟩ rfl rfl) hK hP rfl rfl rfl hl.1 rfl (Nat.le_of_ble_eq_true rfl) d_M_off_3 ⟨Nat.le_of_ble_eq_true rfl, Nat.le_of_ble_eq_true rfl⟩ ?_
  refine lv_iload_n hx hb d_M_off_6 rfl (lv_at hl 2 rfl) ?_
  refine lv_iload_n hx hb d_M_off_7 rfl (lv_at hl 3 rfl) ?_
  refine gp_cS (As := [.int y, .int z]) (rest := [.int 1, .ref (E.2.2.2 0)]) ⟨hx, hb, hml, hown, hts⟩ (show gp_CR _ _ _ _ _ _ _ _ _ 1 from by have h9 := c_M_isSpan l E I F y z; rw [hs, if_pos rfl] at h9; exact h9) (k_M_81 hts ⟨by decide, by decide⟩ rfl rfl) hK hP rfl hl.1 rfl (Nat.le_of_ble_eq_true rfl) d_M_off_8 ⟨Nat.le_of_ble_eq_true rfl, Nat.le_of_ble_eq_true rfl⟩ ?_
  refine lv_aload_n hx hb d_M_off_11 rfl (lv_at hl 0 rfl) ?_
  refine va_get (D := E.1) (cl := gp_cl) (ci := 3) (v := .int (nI 20)) (C := R_M) (T := T_M) (N := 27) hx hb hts i_M hown hK hP 0 rfl rfl 3 (by decide) (hts _ w3_55) (fun _ h9 => h9) (congrArg (fun z => some (Value.int z)) hN) d_M_off_12 ?_
  refine lv_bipush (v := 20) hx hb d_M_off_15 (by decide) ?_
  refine lv_icmp_ge (tgt := 24) hx hb d_M_off_17 (by decide) (fun c17 => ?_) (fun c17 => ?_)
  · have c17 := c17
    have nc17 : 20 ≤ 20 := (nI_leI (a := 20) (b := 20) (by omega) (by omega)).mp c17
    refine lv_iconst (v := 0) hx hb d_M_off_24 (by decide) ?_
    refine gp_cW (q0 := 0) (ci := 3) (As := [.int 1, .int 1, .int 0]) (rest := []) ⟨hx, hb, hml, hown, hts⟩ (show gp_CW l y_M_goes b_M_goes 4 (some .boolean) 1 E (gp_wM E I F) (gp_wM E (upd I 0 3) F) [.ref (E.2.2.2 0), .int 1, .int 1, .int 0] (some (.int 0)) from c_M_goes l E I F 1 1 0) (k_M_70 hts ⟨by decide, by decide⟩ rfl rfl) hK hP hD hS hA rfl rfl rfl rfl hl.1 rfl (Nat.le_of_ble_eq_true rfl) d_M_off_25 ⟨Nat.le_of_ble_eq_true rfl, Nat.le_of_ble_eq_true rfl⟩ (fun H locs hP hD hS => ?_)
    have hP : va_P E.1 gp_cl (gp_wM E (upd I 0 3) F) H := hP
    have hD : va_D A (gp_wM E (upd I 0 3) F) := hD
    refine W.eq (g2 := F0 xm 28 ls [.int 0]) rfl ?_
    refine lv_if_ne (tgt := 33) hx hb d_M_off_28 (by decide) (fun c28 => ?_) (fun c28 => ?_)
    · exact absurd c28 (by decide)
    · have c28 := c28
      have nc28 : 0 = 0 := (nI_eq (a := 0) (b := 0) (by omega) (by omega)).mp c28
      refine lv_iconst (v := 0) hx hb d_M_off_31 (by decide) ?_
      exact gp_wi hx hb hr hlocks hAe (rfl) (hP) hS d_M_off_32
  · have c17 := c17
    have nc17 : ¬ 20 ≤ 20 := fun h => c17 ((nI_leI (a := 20) (b := 20) (by omega) (by omega)).mpr h)
    exact False.elim (by omega)
set_option maxHeartbeats 4000000 in
set_option maxRecDepth 100000 in
theorem c_M_taskN (l : Launch) (E : gp_E) (I : Nat → Int32) (F : Nat → Nat → Int32) (nt : Nat) (x y z b : Int32) (hw : gm_w x 0 7 = true) (hs : gm_sp y z = true) (hT : I 3 = nI nt) (hnt : nt < 6) (hb1 : vp_nar .boolean b = b) : gp_CW l y_M_task b_M_task 5 (some .int) 2 E (gp_wM E I F) (gp_wM E (upd (upd I 0 0) 3 (nI (nt + 1))) (gp_uF (gp_uF (gp_uF (gp_uF (gp_uF F 4 (upd (F 4) nt x)) 5 (upd (F 5) nt y)) 6 (upd (F 6) nt z)) 7 (upd (F 7) nt b)) 8 (upd (F 8) nt (-1)))) [.ref (E.2.2.2 0), .int x, .int y, .int z, .int b] (some (.int (nI nt))) := by
  refine gp_ofW (by decide) (Nat.le_of_ble_eq_true rfl) ?_
  intro xp xe xs xm below meth xc ls A hx hb hr hts hown hlocks hml hP hK hD hA hAe hl
  have hS : va_S A xs.heap xs.heap [] := va_S.rf
  have hown : xs.vm.findClass "GuidePlansModel" = some xm.cls := hown
  have hl : lv_has ls 5 [(0, .ref (E.2.2.2 0)), (1, .int x), (2, .int y), (3, .int z), (4, .int b)] := hl
  refine lv_aload_n hx hb d_M_task_0 rfl (lv_at hl 0 rfl) ?_
  refine lv_iload_n hx hb d_M_task_1 rfl (lv_at hl 1 rfl) ?_
  refine lv_iconst (v := 0) hx hb d_M_task_2 (by decide) ?_
  refine lv_bipush (v := 7) hx hb d_M_task_3 (by decide) ?_
  refine gp_cS (As := [.int x, .int 0, .int 7]) (rest := [.ref (E.2.2.2 0)]) ⟨hx, hb, hml, hown, hts⟩ (show gp_CR _ _ _ _ _ _ _ _ _ 1 from by have h9 := c_M_within l E I F x 0 7; rw [hw, if_pos rfl] at h9; exact h9) (k_M_66 hts ⟨by decide, by decide⟩ rfl rfl) hK hP rfl hl.1 rfl (Nat.le_of_ble_eq_true rfl) d_M_task_5 ⟨Nat.le_of_ble_eq_true rfl, Nat.le_of_ble_eq_true rfl⟩ ?_
  refine lv_iload_n hx hb d_M_task_8 rfl (lv_at hl 2 rfl) ?_
  refine lv_iload_n hx hb d_M_task_9 rfl (lv_at hl 3 rfl) ?_
  refine gp_cS (As := [.int y, .int z]) (rest := [.int 1, .ref (E.2.2.2 0)]) ⟨hx, hb, hml, hown, hts⟩ (show gp_CR _ _ _ _ _ _ _ _ _ 1 from by have h9 := c_M_isSpan l E I F y z; rw [hs, if_pos rfl] at h9; exact h9) (k_M_81 hts ⟨by decide, by decide⟩ rfl rfl) hK hP rfl hl.1 rfl (Nat.le_of_ble_eq_true rfl) d_M_task_10 ⟨Nat.le_of_ble_eq_true rfl, Nat.le_of_ble_eq_true rfl⟩ ?_
  refine lv_aload_n hx hb d_M_task_13 rfl (lv_at hl 0 rfl) ?_
  refine va_get (D := E.1) (cl := gp_cl) (ci := 3) (v := .int (nI nt)) (C := R_M) (T := T_M) (N := 27) hx hb hts i_M hown hK hP 0 rfl rfl 7 (by decide) (hts _ w3_59) (fun _ h9 => h9) (congrArg (fun z => some (Value.int z)) hT) d_M_task_14 ?_
  refine lv_bipush (v := 6) hx hb d_M_task_17 (by decide) ?_
  refine lv_icmp_ge (tgt := 26) hx hb d_M_task_19 (by decide) (fun c19 => ?_) (fun c19 => ?_)
  · have c19 := c19
    have nc19 : 6 ≤ nt := (nI_leI (a := 6) (b := nt) (by omega) (by omega)).mp c19
    exact False.elim (by omega)
  · have c19 := c19
    have nc19 : ¬ 6 ≤ nt := fun h => c19 ((nI_leI (a := 6) (b := nt) (by omega) (by omega)).mpr h)
    refine lv_iconst (v := 1) hx hb d_M_task_22 (by decide) ?_
    refine lv_goto (tgt := 27) hx hb d_M_task_23 (by decide) ?_
    refine gp_cW (q0 := 0) (ci := 3) (As := [.int 1, .int 1, .int 1]) (rest := []) ⟨hx, hb, hml, hown, hts⟩ (show gp_CW l y_M_goes b_M_goes 4 (some .boolean) 1 E (gp_wM E I F) (gp_wM E (upd I 0 0) F) [.ref (E.2.2.2 0), .int 1, .int 1, .int 1] (some (.int 1)) from c_M_goes l E I F 1 1 1) (k_M_70 hts ⟨by decide, by decide⟩ rfl rfl) hK hP hD hS hA rfl rfl rfl rfl hl.1 rfl (Nat.le_of_ble_eq_true rfl) d_M_task_27 ⟨Nat.le_of_ble_eq_true rfl, Nat.le_of_ble_eq_true rfl⟩ (fun H locs hP hD hS => ?_)
    have hP : va_P E.1 gp_cl (gp_wM E (upd I 0 0) F) H := hP
    have hD : va_D A (gp_wM E (upd I 0 0) F) := hD
    refine W.eq (g2 := F0 xm 30 ls [.int 1]) rfl ?_
    refine lv_if_ne (tgt := 35) hx hb d_M_task_30 (by decide) (fun c30 => ?_) (fun c30 => ?_)
    · have c30 := c30
      have nc30 : ¬ 1 = 0 := fun h => c30 ((nI_eq (a := 1) (b := 0) (by omega) (by omega)).mpr h)
      refine lv_aload_n hx hb d_M_task_35 rfl (lv_at hl 0 rfl) ?_
      refine va_get (D := E.1) (cl := gp_cl) (ci := 3) (v := .ref (E.2.2.2 5)) (C := R_M) (T := T_M) (N := 27) hx hb hts i_M hown hK hP 0 rfl rfl 8 (by decide) (hts _ w3_60) (fun _ h9 => h9) rfl d_M_task_36 ?_
      refine lv_aload_n hx hb d_M_task_39 rfl (lv_at hl 0 rfl) ?_
      refine va_get (D := E.1) (cl := gp_cl) (ci := 3) (v := .int (nI nt)) (C := R_M) (T := T_M) (N := 27) hx hb hts i_M hown hK hP 0 rfl rfl 7 (by decide) (hts _ w3_59) (fun _ h9 => h9) (congrArg (fun z => some (Value.int z)) hT) d_M_task_40 ?_
      refine lv_iload_n hx hb d_M_task_43 rfl (lv_at hl 1 rfl) ?_
      refine gp_ast (f := (F 4)) (n := 6) hx hb hK hP hD hS 5 rfl (nt) rfl (by omega) (by decide) d_M_task_44 (fun H locs hP hD hS => ?_)
      have hP : va_P E.1 gp_cl (gp_wM E (upd I 0 0) (gp_uF F 4 (upd (F 4) (nt) x))) H := hP
      have hD : va_D A (gp_wM E (upd I 0 0) (gp_uF F 4 (upd (F 4) (nt) x))) := hD
      refine lv_aload_n hx hb d_M_task_45 rfl (lv_at hl 0 rfl) ?_
      refine va_get (D := E.1) (cl := gp_cl) (ci := 3) (v := .ref (E.2.2.2 6)) (C := R_M) (T := T_M) (N := 27) hx hb hts i_M hown hK hP 0 rfl rfl 9 (by decide) (hts _ w3_61) (fun _ h9 => h9) rfl d_M_task_46 ?_
      refine lv_aload_n hx hb d_M_task_49 rfl (lv_at hl 0 rfl) ?_
      refine va_get (D := E.1) (cl := gp_cl) (ci := 3) (v := .int (nI nt)) (C := R_M) (T := T_M) (N := 27) hx hb hts i_M hown hK hP 0 rfl rfl 7 (by decide) (hts _ w3_59) (fun _ h9 => h9) (congrArg (fun z => some (Value.int z)) hT) d_M_task_50 ?_
      refine lv_iload_n hx hb d_M_task_53 rfl (lv_at hl 2 rfl) ?_
      refine gp_ast (f := (F 5)) (n := 6) hx hb hK hP hD hS 6 rfl (nt) rfl (by omega) (by decide) d_M_task_54 (fun H locs hP hD hS => ?_)
      have hP : va_P E.1 gp_cl (gp_wM E (upd I 0 0) (gp_uF (gp_uF F 4 (upd (F 4) (nt) x)) 5 (upd (F 5) (nt) y))) H := hP
      have hD : va_D A (gp_wM E (upd I 0 0) (gp_uF (gp_uF F 4 (upd (F 4) (nt) x)) 5 (upd (F 5) (nt) y))) := hD
      refine lv_aload_n hx hb d_M_task_55 rfl (lv_at hl 0 rfl) ?_
      refine va_get (D := E.1) (cl := gp_cl) (ci := 3) (v := .ref (E.2.2.2 7)) (C := R_M) (T := T_M) (N := 27) hx hb hts i_M hown hK hP 0 rfl rfl 10 (by decide) (hts _ w3_62) (fun _ h9 => h9) rfl d_M_task_56 ?_
      refine lv_aload_n hx hb d_M_task_59 rfl (lv_at hl 0 rfl) ?_
      refine va_get (D := E.1) (cl := gp_cl) (ci := 3) (v := .int (nI nt)) (C := R_M) (T := T_M) (N := 27) hx hb hts i_M hown hK hP 0 rfl rfl 7 (by decide) (hts _ w3_59) (fun _ h9 => h9) (congrArg (fun z => some (Value.int z)) hT) d_M_task_60 ?_
      refine lv_iload_n hx hb d_M_task_63 rfl (lv_at hl 3 rfl) ?_
      refine gp_ast (f := (F 6)) (n := 6) hx hb hK hP hD hS 7 rfl (nt) rfl (by omega) (by decide) d_M_task_64 (fun H locs hP hD hS => ?_)
      have hP : va_P E.1 gp_cl (gp_wM E (upd I 0 0) (gp_uF (gp_uF (gp_uF F 4 (upd (F 4) (nt) x)) 5 (upd (F 5) (nt) y)) 6 (upd (F 6) (nt) z))) H := hP
      have hD : va_D A (gp_wM E (upd I 0 0) (gp_uF (gp_uF (gp_uF F 4 (upd (F 4) (nt) x)) 5 (upd (F 5) (nt) y)) 6 (upd (F 6) (nt) z))) := hD
      refine lv_aload_n hx hb d_M_task_65 rfl (lv_at hl 0 rfl) ?_
      refine va_get (D := E.1) (cl := gp_cl) (ci := 3) (v := .ref (E.2.2.2 8)) (C := R_M) (T := T_M) (N := 27) hx hb hts i_M hown hK hP 0 rfl rfl 11 (by decide) (hts _ w3_63) (fun _ h9 => h9) rfl d_M_task_66 ?_
      refine lv_aload_n hx hb d_M_task_69 rfl (lv_at hl 0 rfl) ?_
      refine va_get (D := E.1) (cl := gp_cl) (ci := 3) (v := .int (nI nt)) (C := R_M) (T := T_M) (N := 27) hx hb hts i_M hown hK hP 0 rfl rfl 7 (by decide) (hts _ w3_59) (fun _ h9 => h9) (congrArg (fun z => some (Value.int z)) hT) d_M_task_70 ?_
      refine lv_iload hx hb d_M_task_73 (lv_at hl 4 rfl) ?_
      refine gp_zst (f := (F 7)) (n := 6) hx hb hK hP hD hS 8 rfl (nt) rfl (by omega) (by decide) hb1 d_M_task_75 (fun H locs hP hD hS => ?_)
      have hP : va_P E.1 gp_cl (gp_wM E (upd I 0 0) (gp_uF (gp_uF (gp_uF (gp_uF F 4 (upd (F 4) (nt) x)) 5 (upd (F 5) (nt) y)) 6 (upd (F 6) (nt) z)) 7 (upd (F 7) (nt) b))) H := hP
      have hD : va_D A (gp_wM E (upd I 0 0) (gp_uF (gp_uF (gp_uF (gp_uF F 4 (upd (F 4) (nt) x)) 5 (upd (F 5) (nt) y)) 6 (upd (F 6) (nt) z)) 7 (upd (F 7) (nt) b))) := hD
      refine lv_aload_n hx hb d_M_task_76 rfl (lv_at hl 0 rfl) ?_
      refine va_get (D := E.1) (cl := gp_cl) (ci := 3) (v := .ref (E.2.2.2 9)) (C := R_M) (T := T_M) (N := 27) hx hb hts i_M hown hK hP 0 rfl rfl 12 (by decide) (hts _ w3_64) (fun _ h9 => h9) rfl d_M_task_77 ?_
      refine lv_aload_n hx hb d_M_task_80 rfl (lv_at hl 0 rfl) ?_
      refine va_get (D := E.1) (cl := gp_cl) (ci := 3) (v := .int (nI nt)) (C := R_M) (T := T_M) (N := 27) hx hb hts i_M hown hK hP 0 rfl rfl 7 (by decide) (hts _ w3_59) (fun _ h9 => h9) (congrArg (fun z => some (Value.int z)) hT) d_M_task_81 ?_
      refine lv_iconst (v := (-1)) hx hb d_M_task_84 (by decide) ?_
      refine gp_ast (f := (F 8)) (n := 6) hx hb hK hP hD hS 9 rfl (nt) rfl (by omega) (by decide) d_M_task_85 (fun H locs hP hD hS => ?_)
      have hP : va_P E.1 gp_cl (gp_wM E (upd I 0 0) (gp_uF (gp_uF (gp_uF (gp_uF (gp_uF F 4 (upd (F 4) (nt) x)) 5 (upd (F 5) (nt) y)) 6 (upd (F 6) (nt) z)) 7 (upd (F 7) (nt) b)) 8 (upd (F 8) (nt) (-1)))) H := hP
      have hD : va_D A (gp_wM E (upd I 0 0) (gp_uF (gp_uF (gp_uF (gp_uF (gp_uF F 4 (upd (F 4) (nt) x)) 5 (upd (F 5) (nt) y)) 6 (upd (F 6) (nt) z)) 7 (upd (F 7) (nt) b)) 8 (upd (F 8) (nt) (-1)))) := hD
      refine lv_aload_n hx hb d_M_task_86 rfl (lv_at hl 0 rfl) ?_
      refine lv_dup hx hb d_M_task_87 rfl ?_
      refine va_get (D := E.1) (cl := gp_cl) (ci := 3) (v := .int (nI nt)) (C := R_M) (T := T_M) (N := 27) hx hb hts i_M hown hK hP 0 rfl rfl 7 (by decide) (hts _ w3_59) (fun _ h9 => h9) (congrArg (fun z => some (Value.int z)) hT) d_M_task_88 ?_
      refine lv_iconst (v := 1) hx hb d_M_task_91 (by decide) ?_
      refine lv_iadd hx hb d_M_task_92 ?_
      rw [show ((nI nt) + 1) = (nI (nt + 1)) from nI_1 _]
      refine va_put (D := E.1) (cl := gp_cl) (ci := 3) (v := .int (nI (nt + 1))) (ty := .int) (C := R_M) (T := T_M) (N := 27) hx hb hts i_M t_M t_M_ok n_M hown hK hP hD hS 0 rfl rfl 7 (by decide) (hts _ w3_59) (fun _ h9 => h9) rfl (by decide +kernel) rfl rfl (Nat.le_of_ble_eq_true rfl) d_M_task_93 (fun H locs hP hD hS => ?_)
      have hP : va_P E.1 gp_cl (gp_wM E (upd (upd I 0 0) 3 (nI (nt + 1))) (gp_uF (gp_uF (gp_uF (gp_uF (gp_uF F 4 (upd (F 4) (nt) x)) 5 (upd (F 5) (nt) y)) 6 (upd (F 6) (nt) z)) 7 (upd (F 7) (nt) b)) 8 (upd (F 8) (nt) (-1)))) H := hP
      have hD : va_D A (gp_wM E (upd (upd I 0 0) 3 (nI (nt + 1))) (gp_uF (gp_uF (gp_uF (gp_uF (gp_uF F 4 (upd (F 4) (nt) x)) 5 (upd (F 5) (nt) y)) 6 (upd (F 6) (nt) z)) 7 (upd (F 7) (nt) b)) 8 (upd (F 8) (nt) (-1)))) := hD
      refine lv_aload_n hx hb d_M_task_96 rfl (lv_at hl 0 rfl) ?_
      refine va_get (D := E.1) (cl := gp_cl) (ci := 3) (v := .int (nI (nt + 1))) (C := R_M) (T := T_M) (N := 27) hx hb hts i_M hown hK hP 0 rfl rfl 7 (by decide) (hts _ w3_59) (fun _ h9 => h9) rfl d_M_task_97 ?_
      refine lv_iconst (v := 1) hx hb d_M_task_100 (by decide) ?_
      refine lv_isub hx hb d_M_task_101 ?_
      rw [show ((nI (nt + 1)) - 1) = (nI nt) from nI_pred _]
      exact gp_wi hx hb hr hlocks hAe (rfl) (hP) hS d_M_task_102
    · exact absurd c30 (by decide)
set_option maxHeartbeats 4000000 in
set_option maxRecDepth 100000 in
theorem c_M_taskE1 (l : Launch) (E : gp_E) (I : Nat → Int32) (F : Nat → Nat → Int32) (nt : Nat) (x y z b : Int32) (hw : gm_w x 0 7 = false) (hT : I 3 = nI nt) (hnt : nt ≤ 6) : gp_CW l y_M_task b_M_task 5 (some .int) 2 E (gp_wM E I F) (gp_wM E (upd I 0 1) F) [.ref (E.2.2.2 0), .int x, .int y, .int z, .int b] (some (.int 0)) := by
  refine gp_ofW (by decide) (Nat.le_of_ble_eq_true rfl) ?_
  intro xp xe xs xm below meth xc ls A hx hb hr hts hown hlocks hml hP hK hD hA hAe hl
  have hS : va_S A xs.heap xs.heap [] := va_S.rf
  have hown : xs.vm.findClass "GuidePlansModel" = some xm.cls := hown
  have hl : lv_has ls 5 [(0, .ref (E.2.2.2 0)), (1, .int x), (2, .int y), (3, .int z), (4, .int b)] := hl
  refine lv_aload_n hx hb d_M_task_0 rfl (lv_at hl 0 rfl) ?_
  refine lv_iload_n hx hb d_M_task_1 rfl (lv_at hl 1 rfl) ?_
  refine lv_iconst (v := 0) hx hb d_M_task_2 (by decide) ?_
  refine lv_bipush (v := 7) hx hb d_M_task_3 (by decide) ?_
  refine gp_cS (As := [.int x, .int 0, .int 7]) (rest := [.ref (E.2.2.2 0)]) ⟨hx, hb, hml, hown, hts⟩ (show gp_CR _ _ _ _ _ _ _ _ _ 0 from by have h9 := c_M_within l E I F x 0 7; rw [hw, if_neg (by decide)] at h9; exact h9) (k_M_66 hts ⟨by decide, by decide⟩ rfl rfl) hK hP rfl hl.1 rfl (Nat.le_of_ble_eq_true rfl) d_M_task_5 ⟨Nat.le_of_ble_eq_true rfl, Nat.le_of_ble_eq_true rfl⟩ ?_
  refine lv_iload_n hx hb d_M_task_8 rfl (lv_at hl 2 rfl) ?_
  refine lv_iload_n hx hb d_M_task_9 rfl (lv_at hl 3 rfl) ?_
  refine gp_cS (As := [.int y, .int z]) (rest := [.int 0, .ref (E.2.2.2 0)]) ⟨hx, hb, hml, hown, hts⟩ (c_M_isSpan l E I F y z) (k_M_81 hts ⟨by decide, by decide⟩ rfl rfl) hK hP rfl hl.1 rfl (Nat.le_of_ble_eq_true rfl) d_M_task_10 ⟨Nat.le_of_ble_eq_true rfl, Nat.le_of_ble_eq_true rfl⟩ ?_
  by_cases hs10 : gm_sp y z = true
  · rw [show ((if gm_sp y z then 1 else 0) : Int32) = 1 from if_pos hs10]
    refine lv_aload_n hx hb d_M_task_13 rfl (lv_at hl 0 rfl) ?_
    refine va_get (D := E.1) (cl := gp_cl) (ci := 3) (v := .int (nI nt)) (C := R_M) (T := T_M) (N := 27) hx hb hts i_M hown hK hP 0 rfl rfl 7 (by decide) (hts _ w3_59) (fun _ h9 => h9) (congrArg (fun z => some (Value.int z)) hT) d_M_task_14 ?_
    refine lv_bipush (v := 6) hx hb d_M_task_17 (by decide) ?_
    refine lv_icmp_ge (tgt := 26) hx hb d_M_task_19 (by decide) (fun c19 => ?_) (fun c19 => ?_)
    · have c19 := c19
      have nc19 : 6 ≤ nt := (nI_leI (a := 6) (b := nt) (by omega) (by omega)).mp c19
      refine lv_iconst (v := 0) hx hb d_M_task_26 (by decide) ?_
      refine gp_cW (q0 := 0) (ci := 3) (As := [.int 0, .int 1, .int 0]) (rest := []) ⟨hx, hb, hml, hown, hts⟩ (show gp_CW l y_M_goes b_M_goes 4 (some .boolean) 1 E (gp_wM E I F) (gp_wM E (upd I 0 1) F) [.ref (E.2.2.2 0), .int 0, .int 1, .int 0] (some (.int 0)) from c_M_goes l E I F 0 1 0) (k_M_70 hts ⟨by decide, by decide⟩ rfl rfl) hK hP hD hS hA rfl rfl rfl rfl hl.1 rfl (Nat.le_of_ble_eq_true rfl) d_M_task_27 ⟨Nat.le_of_ble_eq_true rfl, Nat.le_of_ble_eq_true rfl⟩ (fun H locs hP hD hS => ?_)
      have hP : va_P E.1 gp_cl (gp_wM E (upd I 0 1) F) H := hP
      have hD : va_D A (gp_wM E (upd I 0 1) F) := hD
      refine W.eq (g2 := F0 xm 30 ls [.int 0]) rfl ?_
      refine lv_if_ne (tgt := 35) hx hb d_M_task_30 (by decide) (fun c30 => ?_) (fun c30 => ?_)
      · exact absurd c30 (by decide)
      · have c30 := c30
        have nc30 : 0 = 0 := (nI_eq (a := 0) (b := 0) (by omega) (by omega)).mp c30
        refine lv_iconst (v := 0) hx hb d_M_task_33 (by decide) ?_
        exact gp_wi hx hb hr hlocks hAe (rfl) (hP) hS d_M_task_34
    · have c19 := c19
      have nc19 : ¬ 6 ≤ nt := fun h => c19 ((nI_leI (a := 6) (b := nt) (by omega) (by omega)).mpr h)
      refine lv_iconst (v := 1) hx hb d_M_task_22 (by decide) ?_
      refine lv_goto (tgt := 27) hx hb d_M_task_23 (by decide) ?_
      refine gp_cW (q0 := 0) (ci := 3) (As := [.int 0, .int 1, .int 1]) (rest := []) ⟨hx, hb, hml, hown, hts⟩ (show gp_CW l y_M_goes b_M_goes 4 (some .boolean) 1 E (gp_wM E I F) (gp_wM E (upd I 0 1) F) [.ref (E.2.2.2 0), .int 0, .int 1, .int 1] (some (.int 0)) from c_M_goes l E I F 0 1 1) (k_M_70 hts ⟨by decide, by decide⟩ rfl rfl) hK hP hD hS hA rfl rfl rfl rfl hl.1 rfl (Nat.le_of_ble_eq_true rfl) d_M_task_27 ⟨Nat.le_of_ble_eq_true rfl, Nat.le_of_ble_eq_true rfl⟩ (fun H locs hP hD hS => ?_)
      have hP : va_P E.1 gp_cl (gp_wM E (upd I 0 1) F) H := hP
      have hD : va_D A (gp_wM E (upd I 0 1) F) := hD
      refine W.eq (g2 := F0 xm 30 ls [.int 0]) rfl ?_
      refine lv_if_ne (tgt := 35) hx hb d_M_task_30 (by decide) (fun c30 => ?_) (fun c30 => ?_)
      · exact absurd c30 (by decide)
      · have c30 := c30
        have nc30 : 0 = 0 := (nI_eq (a := 0) (b := 0) (by omega) (by omega)).mp c30
        refine lv_iconst (v := 0) hx hb d_M_task_33 (by decide) ?_
        exact gp_wi hx hb hr hlocks hAe (rfl) (hP) hS d_M_task_34
  · rw [show ((if gm_sp y z then 1 else 0) : Int32) = 0 from if_neg hs10]
    refine lv_aload_n hx hb d_M_task_13 rfl (lv_at hl 0 rfl) ?_
    refine va_get (D := E.1) (cl := gp_cl) (ci := 3) (v := .int (nI nt)) (C := R_M) (T := T_M) (N := 27) hx hb hts i_M hown hK hP 0 rfl rfl 7 (by decide) (hts _ w3_59) (fun _ h9 => h9) (congrArg (fun z => some (Value.int z)) hT) d_M_task_14 ?_
    refine lv_bipush (v := 6) hx hb d_M_task_17 (by decide) ?_
    refine lv_icmp_ge (tgt := 26) hx hb d_M_task_19 (by decide) (fun c19 => ?_) (fun c19 => ?_)
    · have c19 := c19
      have nc19 : 6 ≤ nt := (nI_leI (a := 6) (b := nt) (by omega) (by omega)).mp c19
      refine lv_iconst (v := 0) hx hb d_M_task_26 (by decide) ?_
      refine gp_cW (q0 := 0) (ci := 3) (As := [.int 0, .int 0, .int 0]) (rest := []) ⟨hx, hb, hml, hown, hts⟩ (show gp_CW l y_M_goes b_M_goes 4 (some .boolean) 1 E (gp_wM E I F) (gp_wM E (upd I 0 1) F) [.ref (E.2.2.2 0), .int 0, .int 0, .int 0] (some (.int 0)) from c_M_goes l E I F 0 0 0) (k_M_70 hts ⟨by decide, by decide⟩ rfl rfl) hK hP hD hS hA rfl rfl rfl rfl hl.1 rfl (Nat.le_of_ble_eq_true rfl) d_M_task_27 ⟨Nat.le_of_ble_eq_true rfl, Nat.le_of_ble_eq_true rfl⟩ (fun H locs hP hD hS => ?_)
      have hP : va_P E.1 gp_cl (gp_wM E (upd I 0 1) F) H := hP
      have hD : va_D A (gp_wM E (upd I 0 1) F) := hD
      refine W.eq (g2 := F0 xm 30 ls [.int 0]) rfl ?_
      refine lv_if_ne (tgt := 35) hx hb d_M_task_30 (by decide) (fun c30 => ?_) (fun c30 => ?_)
      · exact absurd c30 (by decide)
      · have c30 := c30
        have nc30 : 0 = 0 := (nI_eq (a := 0) (b := 0) (by omega) (by omega)).mp c30
        refine lv_iconst (v := 0) hx hb d_M_task_33 (by decide) ?_
        exact gp_wi hx hb hr hlocks hAe (rfl) (hP) hS d_M_task_34
    · have c19 := c19
      have nc19 : ¬ 6 ≤ nt := fun h => c19 ((nI_leI (a := 6) (b := nt) (by omega) (by omega)).mpr h)
      refine lv_iconst (v := 1) hx hb d_M_task_22 (by decide) ?_
      refine lv_goto (tgt := 27) hx hb d_M_task_23 (by decide) ?_
      refine gp_cW (q0 := 0) (ci := 3) (As := [.int 0, .int 0, .int 1]) (rest := []) ⟨hx, hb, hml, hown, hts⟩ (show gp_CW l y_M_goes b_M_goes 4 (some .boolean) 1 E (gp_wM E I F) (gp_wM E (upd I 0 1) F) [.ref (E.2.2.2 0), .int 0, .int 0, .int 1] (some (.int 0)) from c_M_goes l E I F 0 0 1) (k_M_70 hts ⟨by decide, by decide⟩ rfl rfl) hK hP hD hS hA rfl rfl rfl rfl hl.1 rfl (Nat.le_of_ble_eq_true rfl) d_M_task_27 ⟨Nat.le_of_ble_eq_true rfl, Nat.le_of_ble_eq_true rfl⟩ (fun H locs hP hD hS => ?_)
      have hP : va_P E.1 gp_cl (gp_wM E (upd I 0 1) F) H := hP
      have hD : va_D A (gp_wM E (upd I 0 1) F) := hD
      refine W.eq (g2 := F0 xm 30 ls [.int 0]) rfl ?_
      refine lv_if_ne (tgt := 35) hx hb d_M_task_30 (by decide) (fun c30 => ?_) (fun c30 => ?_)
      · exact absurd c30 (by decide)
      · have c30 := c30
        have nc30 : 0 = 0 := (nI_eq (a := 0) (b := 0) (by omega) (by omega)).mp c30
        refine lv_iconst (v := 0) hx hb d_M_task_33 (by decide) ?_
        exact gp_wi hx hb hr hlocks hAe (rfl) (hP) hS d_M_task_34
set_option maxHeartbeats 4000000 in
set_option maxRecDepth 100000 in
theorem c_M_taskE2 (l : Launch) (E : gp_E) (I : Nat → Int32) (F : Nat → Nat → Int32) (nt : Nat) (x y z b : Int32) (hw : gm_w x 0 7 = true) (hs : gm_sp y z = false) (hT : I 3 = nI nt) (hnt : nt ≤ 6) : gp_CW l y_M_task b_M_task 5 (some .int) 2 E (gp_wM E I F) (gp_wM E (upd I 0 2) F) [.ref (E.2.2.2 0), .int x, .int y, .int z, .int b] (some (.int 0)) := by
  refine gp_ofW (by decide) (Nat.le_of_ble_eq_true rfl) ?_
  intro xp xe xs xm below meth xc ls A hx hb hr hts hown hlocks hml hP hK hD hA hAe hl
  have hS : va_S A xs.heap xs.heap [] := va_S.rf
  have hown : xs.vm.findClass "GuidePlansModel" = some xm.cls := hown
  have hl : lv_has ls 5 [(0, .ref (E.2.2.2 0)), (1, .int x), (2, .int y), (3, .int z), (4, .int b)] := hl
  refine lv_aload_n hx hb d_M_task_0 rfl (lv_at hl 0 rfl) ?_
  refine lv_iload_n hx hb d_M_task_1 rfl (lv_at hl 1 rfl) ?_
  refine lv_iconst (v := 0) hx hb d_M_task_2 (by decide) ?_
  refine lv_bipush (v := 7) hx hb d_M_task_3 (by decide) ?_
  refine gp_cS (As := [.int x, .int 0, .int 7]) (rest := [.ref (E.2.2.2 0)]) ⟨hx, hb, hml, hown, hts⟩ (show gp_CR _ _ _ _ _ _ _ _ _ 1 from by have h9 := c_M_within l E I F x 0 7; rw [hw, if_pos rfl] at h9; exact h9) (k_M_66 hts ⟨by decide, by decide⟩ rfl rfl) hK hP rfl hl.1 rfl (Nat.le_of_ble_eq_true rfl) d_M_task_5 ⟨Nat.le_of_ble_eq_true rfl, Nat.le_of_ble_eq_true rfl⟩ ?_
  refine lv_iload_n hx hb d_M_task_8 rfl (lv_at hl 2 rfl) ?_
  refine lv_iload_n hx hb d_M_task_9 rfl (lv_at hl 3 rfl) ?_
  refine gp_cS (As := [.int y, .int z]) (rest := [.int 1, .ref (E.2.2.2 0)]) ⟨hx, hb, hml, hown, hts⟩ (show gp_CR _ _ _ _ _ _ _ _ _ 0 from by have h9 := c_M_isSpan l E I F y z; rw [hs, if_neg (by decide)] at h9; exact h9) (k_M_81 hts ⟨by decide, by decide⟩ rfl rfl) hK hP rfl hl.1 rfl (Nat.le_of_ble_eq_true rfl) d_M_task_10 ⟨Nat.le_of_ble_eq_true rfl, Nat.le_of_ble_eq_true rfl⟩ ?_
  refine lv_aload_n hx hb d_M_task_13 rfl (lv_at hl 0 rfl) ?_
  refine va_get (D := E.1) (cl := gp_cl) (ci := 3) (v := .int (nI nt)) (C := R_M) (T := T_M) (N := 27) hx hb hts i_M hown hK hP 0 rfl rfl 7 (by decide) (hts _ w3_59) (fun _ h9 => h9) (congrArg (fun z => some (Value.int z)) hT) d_M_task_14 ?_
  refine lv_bipush (v := 6) hx hb d_M_task_17 (by decide) ?_
  refine lv_icmp_ge (tgt := 26) hx hb d_M_task_19 (by decide) (fun c19 => ?_) (fun c19 => ?_)
  · have c19 := c19
    have nc19 : 6 ≤ nt := (nI_leI (a := 6) (b := nt) (by omega) (by omega)).mp c19
    refine lv_iconst (v := 0) hx hb d_M_task_26 (by decide) ?_
    refine gp_cW (q0 := 0) (ci := 3) (As := [.int 1, .int 0, .int 0]) (rest := []) ⟨hx, hb, hml, hown, hts⟩ (show gp_CW l y_M_goes b_M_goes 4 (some .boolean) 1 E (gp_wM E I F) (gp_wM E (upd I 0 2) F) [.ref (E.2.2.2 0), .int 1, .int 0, .int 0] (some (.int 0)) from c_M_goes l E I F 1 0 0) (k_M_70 hts ⟨by decide, by decide⟩ rfl rfl) hK hP hD hS hA rfl rfl rfl rfl hl.1 rfl (Nat.le_of_ble_eq_true rfl) d_M_task_27 ⟨Nat.le_of_ble_eq_true rfl, Nat.le_of_ble_eq_true rfl⟩ (fun H locs hP hD hS => ?_)
    have hP : va_P E.1 gp_cl (gp_wM E (upd I 0 2) F) H := hP
    have hD : va_D A (gp_wM E (upd I 0 2) F) := hD
    refine W.eq (g2 := F0 xm 30 ls [.int 0]) rfl ?_
    refine lv_if_ne (tgt := 35) hx hb d_M_task_30 (by decide) (fun c30 => ?_) (fun c30 => ?_)
    · exact absurd c30 (by decide)
    · have c30 := c30
      have nc30 : 0 = 0 := (nI_eq (a := 0) (b := 0) (by omega) (by omega)).mp c30
      refine lv_iconst (v := 0) hx hb d_M_task_33 (by decide) ?_
      exact gp_wi hx hb hr hlocks hAe (rfl) (hP) hS d_M_task_34
  · have c19 := c19
    have nc19 : ¬ 6 ≤ nt := fun h => c19 ((nI_leI (a := 6) (b := nt) (by omega) (by omega)).mpr h)
    refine lv_iconst (v := 1) hx hb d_M_task_22 (by decide) ?_
    refine lv_goto (tgt := 27) hx hb d_M_task_23 (by decide) ?_
    refine gp_cW (q0 := 0) (ci := 3) (As := [.int 1, .int 0, .int 1]) (rest := []) ⟨hx, hb, hml, hown, hts⟩ (show gp_CW l y_M_goes b_M_goes 4 (some .boolean) 1 E (gp_wM E I F) (gp_wM E (upd I 0 2) F) [.ref (E.2.2.2 0), .int 1, .int 0, .int 1] (some (.int 0)) from c_M_goes l E I F 1 0 1) (k_M_70 hts ⟨by decide, by decide⟩ rfl rfl) hK hP hD hS hA rfl rfl rfl rfl hl.1 rfl (Nat.le_of_ble_eq_true rfl) d_M_task_27 ⟨Nat.le_of_ble_eq_true rfl, Nat.le_of_ble_eq_true rfl⟩ (fun H locs hP hD hS => ?_)
    have hP : va_P E.1 gp_cl (gp_wM E (upd I 0 2) F) H := hP
    have hD : va_D A (gp_wM E (upd I 0 2) F) := hD
    refine W.eq (g2 := F0 xm 30 ls [.int 0]) rfl ?_
    refine lv_if_ne (tgt := 35) hx hb d_M_task_30 (by decide) (fun c30 => ?_) (fun c30 => ?_)
    · exact absurd c30 (by decide)
    · have c30 := c30
      have nc30 : 0 = 0 := (nI_eq (a := 0) (b := 0) (by omega) (by omega)).mp c30
      refine lv_iconst (v := 0) hx hb d_M_task_33 (by decide) ?_
      exact gp_wi hx hb hr hlocks hAe (rfl) (hP) hS d_M_task_34
set_option maxHeartbeats 4000000 in
set_option maxRecDepth 100000 in
theorem c_M_taskE3 (l : Launch) (E : gp_E) (I : Nat → Int32) (F : Nat → Nat → Int32) (x y z b : Int32) (hw : gm_w x 0 7 = true) (hs : gm_sp y z = true) (hT : I 3 = nI 6) : gp_CW l y_M_task b_M_task 5 (some .int) 2 E (gp_wM E I F) (gp_wM E (upd I 0 3) F) [.ref (E.2.2.2 0), .int x, .int y, .int z, .int b] (some (.int 0)) := by
  refine gp_ofW (by decide) (Nat.le_of_ble_eq_true rfl) ?_
  intro xp xe xs xm below meth xc ls A hx hb hr hts hown hlocks hml hP hK hD hA hAe hl
  have hS : va_S A xs.heap xs.heap [] := va_S.rf
  have hown : xs.vm.findClass "GuidePlansModel" = some xm.cls := hown
  have hl : lv_has ls 5 [(0, .ref (E.2.2.2 0)), (1, .int x), (2, .int y), (3, .int z), (4, .int b)] := hl
  refine lv_aload_n hx hb d_M_task_0 rfl (lv_at hl 0 rfl) ?_
  refine lv_iload_n hx hb d_M_task_1 rfl (lv_at hl 1 rfl) ?_
  refine lv_iconst (v := 0) hx hb d_M_task_2 (by decide) ?_
  refine lv_bipush (v := 7) hx hb d_M_task_3 (by decide) ?_
  refine gp_cS (As := [.int x, .int 0, .int 7]) (rest := [.ref (E.2.2.2 0)]) ⟨hx, hb, hml, hown, hts⟩ (show gp_CR _ _ _ _ _ _ _ _ _ 1 from by have h9 := c_M_within l E I F x 0 7; rw [hw, if_pos rfl] at h9; exact h9) (k_M_66 hts ⟨by decide, by decide⟩ rfl rfl) hK hP rfl hl.1 rfl (Nat.le_of_ble_eq_true rfl) d_M_task_5 ⟨Nat.le_of_ble_eq_true rfl, Nat.le_of_ble_eq_true rfl⟩ ?_
  refine lv_iload_n hx hb d_M_task_8 rfl (lv_at hl 2 rfl) ?_
  refine lv_iload_n hx hb d_M_task_9 rfl (lv_at hl 3 rfl) ?_
  refine gp_cS (As := [.int y, .int z]) (rest := [.int 1, .ref (E.2.2.2 0)]) ⟨hx, hb, hml, hown, hts⟩ (show gp_CR _ _ _ _ _ _ _ _ _ 1 from by have h9 := c_M_isSpan l E I F y z; rw [hs, if_pos rfl] at h9; exact h9) (k_M_81 hts ⟨by decide, by decide⟩ rfl rfl) hK hP rfl hl.1 rfl (Nat.le_of_ble_eq_true rfl) d_M_task_10 ⟨Nat.le_of_ble_eq_true rfl, Nat.le_of_ble_eq_true rfl⟩ ?_
  refine lv_aload_n hx hb d_M_task_13 rfl (lv_at hl 0 rfl) ?_
  refine va_get (D := E.1) (cl := gp_cl) (ci := 3) (v := .int (nI 6)) (C := R_M) (T := T_M) (N := 27) hx hb hts i_M hown hK hP 0 rfl rfl 7 (by decide) (hts _ w3_59) (fun _ h9 => h9) (congrArg (fun z => some (Value.int z)) hT) d_M_task_14 ?_
  refine lv_bipush (v := 6) hx hb d_M_task_17 (by decide) ?_
  refine lv_icmp_ge (tgt := 26) hx hb d_M_task_19 (by decide) (fun c19 => ?_) (fun c19 => ?_)
  · have c19 := c19
    have nc19 : 6 ≤ 6 := (nI_leI (a := 6) (b := 6) (by omega) (by omega)).mp c19
    refine lv_iconst (v := 0) hx hb d_M_task_26 (by decide) ?_
    refine gp_cW (q0 := 0) (ci := 3) (As := [.int 1, .int 1, .int 0]) (rest := []) ⟨hx, hb, hml, hown, hts⟩ (show gp_CW l y_M_goes b_M_goes 4 (some .boolean) 1 E (gp_wM E I F) (gp_wM E (upd I 0 3) F) [.ref (E.2.2.2 0), .int 1, .int 1, .int 0] (some (.int 0)) from c_M_goes l E I F 1 1 0) (k_M_70 hts ⟨by decide, by decide⟩ rfl rfl) hK hP hD hS hA rfl rfl rfl rfl hl.1 rfl (Nat.le_of_ble_eq_true rfl) d_M_task_27 ⟨Nat.le_of_ble_eq_true rfl, Nat.le_of_ble_eq_true rfl⟩ (fun H locs hP hD hS => ?_)
    have hP : va_P E.1 gp_cl (gp_wM E (upd I 0 3) F) H := hP
    have hD : va_D A (gp_wM E (upd I 0 3) F) := hD
    refine W.eq (g2 := F0 xm 30 ls [.int 0]) rfl ?_
    refine lv_if_ne (tgt := 35) hx hb d_M_task_30 (by decide) (fun c30 => ?_) (fun c30 => ?_)
    · exact absurd c30 (by decide)
    · have c30 := c30
      have nc30 : 0 = 0 := (nI_eq (a := 0) (b := 0) (by omega) (by omega)).mp c30
      refine lv_iconst (v := 0) hx hb d_M_task_33 (by decide) ?_
      exact gp_wi hx hb hr hlocks hAe (rfl) (hP) hS d_M_task_34
  · have c19 := c19
    have nc19 : ¬ 6 ≤ 6 := fun h => c19 ((nI_leI (a := 6) (b := 6) (by omega) (by omega)).mpr h)
    exact False.elim (by omega)
set_option maxHeartbeats 4000000 in
set_option maxRecDepth 100000 in
theorem c_M_restN (l : Launch) (E : gp_E) (I : Nat → Int32) (F : Nat → Nat → Int32) (x : Int32) (hw : gm_w x 0 96 = true) : gp_CW l y_M_rest b_M_rest 3 (some .int) 2 E (gp_wM E I F) (gp_wM E (upd (upd I 0 0) 5 x) F) [.ref (E.2.2.2 0), .int x] (some (.int (I 5))) := by
  refine gp_ofW (by decide) (Nat.le_of_ble_eq_true rfl) ?_
  intro xp xe xs xm below meth xc ls A hx hb hr hts hown hlocks hml hP hK hD hA hAe hl
  have hS : va_S A xs.heap xs.heap [] := va_S.rf
  have hown : xs.vm.findClass "GuidePlansModel" = some xm.cls := hown
  have hl : lv_has ls 3 [(0, .ref (E.2.2.2 0)), (1, .int x)] := hl
  refine lv_aload_n hx hb d_M_rest_0 rfl (lv_at hl 0 rfl) ?_
  refine lv_iload_n hx hb d_M_rest_1 rfl (lv_at hl 1 rfl) ?_
  refine lv_iconst (v := 0) hx hb d_M_rest_2 (by decide) ?_
  refine lv_bipush (v := 96) hx hb d_M_rest_3 (by decide) ?_
  refine gp_cS (As := [.int x, .int 0, .int 96]) (rest := [.ref (E.2.2.2 0)]) ⟨hx, hb, hml, hown, hts⟩ (show gp_CR _ _ _ _ _ _ _ _ _ 1 from by have h9 := c_M_within l E I F x 0 96; rw [hw, if_pos rfl] at h9; exact h9) (k_M_66 hts ⟨by decide, by decide⟩ rfl rfl) hK hP rfl hl.1 rfl (Nat.le_of_ble_eq_true rfl) d_M_rest_5 ⟨Nat.le_of_ble_eq_true rfl, Nat.le_of_ble_eq_true rfl⟩ ?_
  refine lv_iconst (v := 1) hx hb d_M_rest_8 (by decide) ?_
  refine lv_iconst (v := 1) hx hb d_M_rest_9 (by decide) ?_
  refine gp_cW (q0 := 0) (ci := 3) (As := [.int 1, .int 1, .int 1]) (rest := []) ⟨hx, hb, hml, hown, hts⟩ (show gp_CW l y_M_goes b_M_goes 4 (some .boolean) 1 E (gp_wM E I F) (gp_wM E (upd I 0 0) F) [.ref (E.2.2.2 0), .int 1, .int 1, .int 1] (some (.int 1)) from c_M_goes l E I F 1 1 1) (k_M_70 hts ⟨by decide, by decide⟩ rfl rfl) hK hP hD hS hA rfl rfl rfl rfl hl.1 rfl (Nat.le_of_ble_eq_true rfl) d_M_rest_10 ⟨Nat.le_of_ble_eq_true rfl, Nat.le_of_ble_eq_true rfl⟩ (fun H locs hP hD hS => ?_)
  have hP : va_P E.1 gp_cl (gp_wM E (upd I 0 0) F) H := hP
  have hD : va_D A (gp_wM E (upd I 0 0) F) := hD
  refine W.eq (g2 := F0 xm 13 ls [.int 1]) rfl ?_
  refine lv_if_ne (tgt := 18) hx hb d_M_rest_13 (by decide) (fun c13 => ?_) (fun c13 => ?_)
  · have c13 := c13
    have nc13 : ¬ 1 = 0 := fun h => c13 ((nI_eq (a := 1) (b := 0) (by omega) (by omega)).mpr h)
    refine lv_aload_n hx hb d_M_rest_18 rfl (lv_at hl 0 rfl) ?_
    refine va_get (D := E.1) (cl := gp_cl) (ci := 3) (v := .int (I 5)) (C := R_M) (T := T_M) (N := 27) hx hb hts i_M hown hK hP 0 rfl rfl 17 (by decide) (hts _ w3_69) (fun _ h9 => h9) rfl d_M_rest_19 ?_
    refine lv_istore_n (lv' := [(2, .int (I 5)), (0, .ref (E.2.2.2 0)), (1, .int x)]) hx hb d_M_rest_22 rfl hl (by decide) rfl (fun ls hl => ?_)
    refine lv_aload_n hx hb d_M_rest_23 rfl (lv_at hl 1 rfl) ?_
    refine lv_iload_n hx hb d_M_rest_24 rfl (lv_at hl 2 rfl) ?_
    refine va_put (D := E.1) (cl := gp_cl) (ci := 3) (v := .int x) (ty := .int) (C := R_M) (T := T_M) (N := 27) hx hb hts i_M t_M t_M_ok n_M hown hK hP hD hS 0 rfl rfl 17 (by decide) (hts _ w3_69) (fun _ h9 => h9) rfl (by decide +kernel) rfl rfl (Nat.le_of_ble_eq_true rfl) d_M_rest_25 (fun H locs hP hD hS => ?_)
    have hP : va_P E.1 gp_cl (gp_wM E (upd (upd I 0 0) 5 x) F) H := hP
    have hD : va_D A (gp_wM E (upd (upd I 0 0) 5 x) F) := hD
    refine lv_iload_n hx hb d_M_rest_28 rfl (lv_at hl 0 rfl) ?_
    exact gp_wi hx hb hr hlocks hAe (rfl) (hP) hS d_M_rest_29
  · exact absurd c13 (by decide)
set_option maxHeartbeats 4000000 in
set_option maxRecDepth 100000 in
theorem c_M_restE1 (l : Launch) (E : gp_E) (I : Nat → Int32) (F : Nat → Nat → Int32) (x : Int32) (hw : gm_w x 0 96 = false) : gp_CW l y_M_rest b_M_rest 3 (some .int) 2 E (gp_wM E I F) (gp_wM E (upd I 0 1) F) [.ref (E.2.2.2 0), .int x] (some (.int 0)) := by
  refine gp_ofW (by decide) (Nat.le_of_ble_eq_true rfl) ?_
  intro xp xe xs xm below meth xc ls A hx hb hr hts hown hlocks hml hP hK hD hA hAe hl
  have hS : va_S A xs.heap xs.heap [] := va_S.rf
  have hown : xs.vm.findClass "GuidePlansModel" = some xm.cls := hown
  have hl : lv_has ls 3 [(0, .ref (E.2.2.2 0)), (1, .int x)] := hl
  refine lv_aload_n hx hb d_M_rest_0 rfl (lv_at hl 0 rfl) ?_
  refine lv_iload_n hx hb d_M_rest_1 rfl (lv_at hl 1 rfl) ?_
  refine lv_iconst (v := 0) hx hb d_M_rest_2 (by decide) ?_
  refine lv_bipush (v := 96) hx hb d_M_rest_3 (by decide) ?_
  refine gp_cS (As := [.int x, .int 0, .int 96]) (rest := [.ref (E.2.2.2 0)]) ⟨hx, hb, hml, hown, hts⟩ (show gp_CR _ _ _ _ _ _ _ _ _ 0 from by have h9 := c_M_within l E I F x 0 96; rw [hw, if_neg (by decide)] at h9; exact h9) (k_M_66 hts ⟨by decide, by decide⟩ rfl rfl) hK hP rfl hl.1 rfl (Nat.le_of_ble_eq_true rfl) d_M_rest_5 ⟨Nat.le_of_ble_eq_true rfl, Nat.le_of_ble_eq_true rfl⟩ ?_
  refine lv_iconst (v := 1) hx hb d_M_rest_8 (by decide) ?_
  refine lv_iconst (v := 1) hx hb d_M_rest_9 (by decide) ?_
  refine gp_cW (q0 := 0) (ci := 3) (As := [.int 0, .int 1, .int 1]) (rest := []) ⟨hx, hb, hml, hown, hts⟩ (show gp_CW l y_M_goes b_M_goes 4 (some .boolean) 1 E (gp_wM E I F) (gp_wM E (upd I 0 1) F) [.ref (E.2.2.2 0), .int 0, .int 1, .int 1] (some (.int 0)) from c_M_goes l E I F 0 1 1) (k_M_70 hts ⟨by decide, by decide⟩ rfl rfl) hK hP hD hS hA rfl rfl rfl rfl hl.1 rfl (Nat.le_of_ble_eq_true rfl) d_M_rest_10 ⟨Nat.le_of_ble_eq_true rfl, Nat.le_of_ble_eq_true rfl⟩ (fun H locs hP hD hS => ?_)
  have hP : va_P E.1 gp_cl (gp_wM E (upd I 0 1) F) H := hP
  have hD : va_D A (gp_wM E (upd I 0 1) F) := hD
  refine W.eq (g2 := F0 xm 13 ls [.int 0]) rfl ?_
  refine lv_if_ne (tgt := 18) hx hb d_M_rest_13 (by decide) (fun c13 => ?_) (fun c13 => ?_)
  · exact absurd c13 (by decide)
  · have c13 := c13
    have nc13 : 0 = 0 := (nI_eq (a := 0) (b := 0) (by omega) (by omega)).mp c13
    refine lv_iconst (v := 0) hx hb d_M_rest_16 (by decide) ?_
    exact gp_wi hx hb hr hlocks hAe (rfl) (hP) hS d_M_rest_17
set_option maxHeartbeats 4000000 in
set_option maxRecDepth 100000 in
theorem c_M_limitN (l : Launch) (E : gp_E) (I : Nat → Int32) (F : Nat → Nat → Int32) (x : Int32) (hw : gm_w x 0 96 = true) : gp_CW l y_M_limit b_M_limit 3 (some .int) 2 E (gp_wM E I F) (gp_wM E (upd (upd I 0 0) 6 x) F) [.ref (E.2.2.2 0), .int x] (some (.int (I 6))) := by
  refine gp_ofW (by decide) (Nat.le_of_ble_eq_true rfl) ?_
  intro xp xe xs xm below meth xc ls A hx hb hr hts hown hlocks hml hP hK hD hA hAe hl
  have hS : va_S A xs.heap xs.heap [] := va_S.rf
  have hown : xs.vm.findClass "GuidePlansModel" = some xm.cls := hown
  have hl : lv_has ls 3 [(0, .ref (E.2.2.2 0)), (1, .int x)] := hl
  refine lv_aload_n hx hb d_M_limit_0 rfl (lv_at hl 0 rfl) ?_
  refine lv_iload_n hx hb d_M_limit_1 rfl (lv_at hl 1 rfl) ?_
  refine lv_iconst (v := 0) hx hb d_M_limit_2 (by decide) ?_
  refine lv_bipush (v := 96) hx hb d_M_limit_3 (by decide) ?_
  refine gp_cS (As := [.int x, .int 0, .int 96]) (rest := [.ref (E.2.2.2 0)]) ⟨hx, hb, hml, hown, hts⟩ (show gp_CR _ _ _ _ _ _ _ _ _ 1 from by have h9 := c_M_within l E I F x 0 96; rw [hw, if_pos rfl] at h9; exact h9) (k_M_66 hts ⟨by decide, by decide⟩ rfl rfl) hK hP rfl hl.1 rfl (Nat.le_of_ble_eq_true rfl) d_M_limit_5 ⟨Nat.le_of_ble_eq_true rfl, Nat.le_of_ble_eq_true rfl⟩ ?_
  refine lv_iconst (v := 1) hx hb d_M_limit_8 (by decide) ?_
  refine lv_iconst (v := 1) hx hb d_M_limit_9 (by decide) ?_
  refine gp_cW (q0 := 0) (ci := 3) (As := [.int 1, .int 1, .int 1]) (rest := []) ⟨hx, hb, hml, hown, hts⟩ (show gp_CW l y_M_goes b_M_goes 4 (some .boolean) 1 E (gp_wM E I F) (gp_wM E (upd I 0 0) F) [.ref (E.2.2.2 0), .int 1, .int 1, .int 1] (some (.int 1)) from c_M_goes l E I F 1 1 1) (k_M_70 hts ⟨by decide, by decide⟩ rfl rfl) hK hP hD hS hA rfl rfl rfl rfl hl.1 rfl (Nat.le_of_ble_eq_true rfl) d_M_limit_10 ⟨Nat.le_of_ble_eq_true rfl, Nat.le_of_ble_eq_true rfl⟩ (fun H locs hP hD hS => ?_)
  have hP : va_P E.1 gp_cl (gp_wM E (upd I 0 0) F) H := hP
  have hD : va_D A (gp_wM E (upd I 0 0) F) := hD
  refine W.eq (g2 := F0 xm 13 ls [.int 1]) rfl ?_
  refine lv_if_ne (tgt := 18) hx hb d_M_limit_13 (by decide) (fun c13 => ?_) (fun c13 => ?_)
  · have c13 := c13
    have nc13 : ¬ 1 = 0 := fun h => c13 ((nI_eq (a := 1) (b := 0) (by omega) (by omega)).mpr h)
    refine lv_aload_n hx hb d_M_limit_18 rfl (lv_at hl 0 rfl) ?_
    refine va_get (D := E.1) (cl := gp_cl) (ci := 3) (v := .int (I 6)) (C := R_M) (T := T_M) (N := 27) hx hb hts i_M hown hK hP 0 rfl rfl 18 (by decide) (hts _ w3_70) (fun _ h9 => h9) rfl d_M_limit_19 ?_
    refine lv_istore_n (lv' := [(2, .int (I 6)), (0, .ref (E.2.2.2 0)), (1, .int x)]) hx hb d_M_limit_22 rfl hl (by decide) rfl (fun ls hl => ?_)
    refine lv_aload_n hx hb d_M_limit_23 rfl (lv_at hl 1 rfl) ?_
    refine lv_iload_n hx hb d_M_limit_24 rfl (lv_at hl 2 rfl) ?_
    refine va_put (D := E.1) (cl := gp_cl) (ci := 3) (v := .int x) (ty := .int) (C := R_M) (T := T_M) (N := 27) hx hb hts i_M t_M t_M_ok n_M hown hK hP hD hS 0 rfl rfl 18 (by decide) (hts _ w3_70) (fun _ h9 => h9) rfl (by decide +kernel) rfl rfl (Nat.le_of_ble_eq_true rfl) d_M_limit_25 (fun H locs hP hD hS => ?_)
    have hP : va_P E.1 gp_cl (gp_wM E (upd (upd I 0 0) 6 x) F) H := hP
    have hD : va_D A (gp_wM E (upd (upd I 0 0) 6 x) F) := hD
    refine lv_iload_n hx hb d_M_limit_28 rfl (lv_at hl 0 rfl) ?_
    exact gp_wi hx hb hr hlocks hAe (rfl) (hP) hS d_M_limit_29
  · exact absurd c13 (by decide)
set_option maxHeartbeats 4000000 in
set_option maxRecDepth 100000 in
theorem c_M_limitE1 (l : Launch) (E : gp_E) (I : Nat → Int32) (F : Nat → Nat → Int32) (x : Int32) (hw : gm_w x 0 96 = false) : gp_CW l y_M_limit b_M_limit 3 (some .int) 2 E (gp_wM E I F) (gp_wM E (upd I 0 1) F) [.ref (E.2.2.2 0), .int x] (some (.int 0)) := by
  refine gp_ofW (by decide) (Nat.le_of_ble_eq_true rfl) ?_
  intro xp xe xs xm below meth xc ls A hx hb hr hts hown hlocks hml hP hK hD hA hAe hl
  have hS : va_S A xs.heap xs.heap [] := va_S.rf
  have hown : xs.vm.findClass "GuidePlansModel" = some xm.cls := hown
  have hl : lv_has ls 3 [(0, .ref (E.2.2.2 0)), (1, .int x)] := hl
  refine lv_aload_n hx hb d_M_limit_0 rfl (lv_at hl 0 rfl) ?_
  refine lv_iload_n hx hb d_M_limit_1 rfl (lv_at hl 1 rfl) ?_
  refine lv_iconst (v := 0) hx hb d_M_limit_2 (by decide) ?_
  refine lv_bipush (v := 96) hx hb d_M_limit_3 (by decide) ?_
  refine gp_cS (As := [.int x, .int 0, .int 96]) (rest := [.ref (E.2.2.2 0)]) ⟨hx, hb, hml, hown, hts⟩ (show gp_CR _ _ _ _ _ _ _ _ _ 0 from by have h9 := c_M_within l E I F x 0 96; rw [hw, if_neg (by decide)] at h9; exact h9) (k_M_66 hts ⟨by decide, by decide⟩ rfl rfl) hK hP rfl hl.1 rfl (Nat.le_of_ble_eq_true rfl) d_M_limit_5 ⟨Nat.le_of_ble_eq_true rfl, Nat.le_of_ble_eq_true rfl⟩ ?_
  refine lv_iconst (v := 1) hx hb d_M_limit_8 (by decide) ?_
  refine lv_iconst (v := 1) hx hb d_M_limit_9 (by decide) ?_
  refine gp_cW (q0 := 0) (ci := 3) (As := [.int 0, .int 1, .int 1]) (rest := []) ⟨hx, hb, hml, hown, hts⟩ (show gp_CW l y_M_goes b_M_goes 4 (some .boolean) 1 E (gp_wM E I F) (gp_wM E (upd I 0 1) F) [.ref (E.2.2.2 0), .int 0, .int 1, .int 1] (some (.int 0)) from c_M_goes l E I F 0 1 1) (k_M_70 hts ⟨by decide, by decide⟩ rfl rfl) hK hP hD hS hA rfl rfl rfl rfl hl.1 rfl (Nat.le_of_ble_eq_true rfl) d_M_limit_10 ⟨Nat.le_of_ble_eq_true rfl, Nat.le_of_ble_eq_true rfl⟩ (fun H locs hP hD hS => ?_)
  have hP : va_P E.1 gp_cl (gp_wM E (upd I 0 1) F) H := hP
  have hD : va_D A (gp_wM E (upd I 0 1) F) := hD
  refine W.eq (g2 := F0 xm 13 ls [.int 0]) rfl ?_
  refine lv_if_ne (tgt := 18) hx hb d_M_limit_13 (by decide) (fun c13 => ?_) (fun c13 => ?_)
  · exact absurd c13 (by decide)
  · have c13 := c13
    have nc13 : 0 = 0 := (nI_eq (a := 0) (b := 0) (by omega) (by omega)).mp c13
    refine lv_iconst (v := 0) hx hb d_M_limit_16 (by decide) ?_
    exact gp_wi hx hb hr hlocks hAe (rfl) (hP) hS d_M_limit_17
set_option maxHeartbeats 4000000 in
set_option maxRecDepth 100000 in
theorem c_M_freezeN (l : Launch) (E : gp_E) (I : Nat → Int32) (F : Nat → Nat → Int32) (x : Int32) (hw : gm_w x 0 96 = true) : gp_CW l y_M_freeze b_M_freeze 3 (some .int) 2 E (gp_wM E I F) (gp_wM E (upd (upd I 0 0) 7 x) F) [.ref (E.2.2.2 0), .int x] (some (.int (I 7))) := by
  refine gp_ofW (by decide) (Nat.le_of_ble_eq_true rfl) ?_
  intro xp xe xs xm below meth xc ls A hx hb hr hts hown hlocks hml hP hK hD hA hAe hl
  have hS : va_S A xs.heap xs.heap [] := va_S.rf
  have hown : xs.vm.findClass "GuidePlansModel" = some xm.cls := hown
  have hl : lv_has ls 3 [(0, .ref (E.2.2.2 0)), (1, .int x)] := hl
  refine lv_aload_n hx hb d_M_freeze_0 rfl (lv_at hl 0 rfl) ?_
  refine lv_iload_n hx hb d_M_freeze_1 rfl (lv_at hl 1 rfl) ?_
  refine lv_iconst (v := 0) hx hb d_M_freeze_2 (by decide) ?_
  refine lv_bipush (v := 96) hx hb d_M_freeze_3 (by decide) ?_
  refine gp_cS (As := [.int x, .int 0, .int 96]) (rest := [.ref (E.2.2.2 0)]) ⟨hx, hb, hml, hown, hts⟩ (show gp_CR _ _ _ _ _ _ _ _ _ 1 from by have h9 := c_M_within l E I F x 0 96; rw [hw, if_pos rfl] at h9; exact h9) (k_M_66 hts ⟨by decide, by decide⟩ rfl rfl) hK hP rfl hl.1 rfl (Nat.le_of_ble_eq_true rfl) d_M_freeze_5 ⟨Nat.le_of_ble_eq_true rfl, Nat.le_of_ble_eq_true rfl⟩ ?_
  refine lv_iconst (v := 1) hx hb d_M_freeze_8 (by decide) ?_
  refine lv_iconst (v := 1) hx hb d_M_freeze_9 (by decide) ?_
  refine gp_cW (q0 := 0) (ci := 3) (As := [.int 1, .int 1, .int 1]) (rest := []) ⟨hx, hb, hml, hown, hts⟩ (show gp_CW l y_M_goes b_M_goes 4 (some .boolean) 1 E (gp_wM E I F) (gp_wM E (upd I 0 0) F) [.ref (E.2.2.2 0), .int 1, .int 1, .int 1] (some (.int 1)) from c_M_goes l E I F 1 1 1) (k_M_70 hts ⟨by decide, by decide⟩ rfl rfl) hK hP hD hS hA rfl rfl rfl rfl hl.1 rfl (Nat.le_of_ble_eq_true rfl) d_M_freeze_10 ⟨Nat.le_of_ble_eq_true rfl, Nat.le_of_ble_eq_true rfl⟩ (fun H locs hP hD hS => ?_)
  have hP : va_P E.1 gp_cl (gp_wM E (upd I 0 0) F) H := hP
  have hD : va_D A (gp_wM E (upd I 0 0) F) := hD
  refine W.eq (g2 := F0 xm 13 ls [.int 1]) rfl ?_
  refine lv_if_ne (tgt := 18) hx hb d_M_freeze_13 (by decide) (fun c13 => ?_) (fun c13 => ?_)
  · have c13 := c13
    have nc13 : ¬ 1 = 0 := fun h => c13 ((nI_eq (a := 1) (b := 0) (by omega) (by omega)).mpr h)
    refine lv_aload_n hx hb d_M_freeze_18 rfl (lv_at hl 0 rfl) ?_
    refine va_get (D := E.1) (cl := gp_cl) (ci := 3) (v := .int (I 7)) (C := R_M) (T := T_M) (N := 27) hx hb hts i_M hown hK hP 0 rfl rfl 19 (by decide) (hts _ w3_71) (fun _ h9 => h9) rfl d_M_freeze_19 ?_
    refine lv_istore_n (lv' := [(2, .int (I 7)), (0, .ref (E.2.2.2 0)), (1, .int x)]) hx hb d_M_freeze_22 rfl hl (by decide) rfl (fun ls hl => ?_)
    refine lv_aload_n hx hb d_M_freeze_23 rfl (lv_at hl 1 rfl) ?_
    refine lv_iload_n hx hb d_M_freeze_24 rfl (lv_at hl 2 rfl) ?_
    refine va_put (D := E.1) (cl := gp_cl) (ci := 3) (v := .int x) (ty := .int) (C := R_M) (T := T_M) (N := 27) hx hb hts i_M t_M t_M_ok n_M hown hK hP hD hS 0 rfl rfl 19 (by decide) (hts _ w3_71) (fun _ h9 => h9) rfl (by decide +kernel) rfl rfl (Nat.le_of_ble_eq_true rfl) d_M_freeze_25 (fun H locs hP hD hS => ?_)
    have hP : va_P E.1 gp_cl (gp_wM E (upd (upd I 0 0) 7 x) F) H := hP
    have hD : va_D A (gp_wM E (upd (upd I 0 0) 7 x) F) := hD
    refine lv_iload_n hx hb d_M_freeze_28 rfl (lv_at hl 0 rfl) ?_
    exact gp_wi hx hb hr hlocks hAe (rfl) (hP) hS d_M_freeze_29
  · exact absurd c13 (by decide)
set_option maxHeartbeats 4000000 in
set_option maxRecDepth 100000 in
theorem c_M_freezeE1 (l : Launch) (E : gp_E) (I : Nat → Int32) (F : Nat → Nat → Int32) (x : Int32) (hw : gm_w x 0 96 = false) : gp_CW l y_M_freeze b_M_freeze 3 (some .int) 2 E (gp_wM E I F) (gp_wM E (upd I 0 1) F) [.ref (E.2.2.2 0), .int x] (some (.int 0)) := by
  refine gp_ofW (by decide) (Nat.le_of_ble_eq_true rfl) ?_
  intro xp xe xs xm below meth xc ls A hx hb hr hts hown hlocks hml hP hK hD hA hAe hl
  have hS : va_S A xs.heap xs.heap [] := va_S.rf
  have hown : xs.vm.findClass "GuidePlansModel" = some xm.cls := hown
  have hl : lv_has ls 3 [(0, .ref (E.2.2.2 0)), (1, .int x)] := hl
  refine lv_aload_n hx hb d_M_freeze_0 rfl (lv_at hl 0 rfl) ?_
  refine lv_iload_n hx hb d_M_freeze_1 rfl (lv_at hl 1 rfl) ?_
  refine lv_iconst (v := 0) hx hb d_M_freeze_2 (by decide) ?_
  refine lv_bipush (v := 96) hx hb d_M_freeze_3 (by decide) ?_
  refine gp_cS (As := [.int x, .int 0, .int 96]) (rest := [.ref (E.2.2.2 0)]) ⟨hx, hb, hml, hown, hts⟩ (show gp_CR _ _ _ _ _ _ _ _ _ 0 from by have h9 := c_M_within l E I F x 0 96; rw [hw, if_neg (by decide)] at h9; exact h9) (k_M_66 hts ⟨by decide, by decide⟩ rfl rfl) hK hP rfl hl.1 rfl (Nat.le_of_ble_eq_true rfl) d_M_freeze_5 ⟨Nat.le_of_ble_eq_true rfl, Nat.le_of_ble_eq_true rfl⟩ ?_
  refine lv_iconst (v := 1) hx hb d_M_freeze_8 (by decide) ?_
  refine lv_iconst (v := 1) hx hb d_M_freeze_9 (by decide) ?_
  refine gp_cW (q0 := 0) (ci := 3) (As := [.int 0, .int 1, .int 1]) (rest := []) ⟨hx, hb, hml, hown, hts⟩ (show gp_CW l y_M_goes b_M_goes 4 (some .boolean) 1 E (gp_wM E I F) (gp_wM E (upd I 0 1) F) [.ref (E.2.2.2 0), .int 0, .int 1, .int 1] (some (.int 0)) from c_M_goes l E I F 0 1 1) (k_M_70 hts ⟨by decide, by decide⟩ rfl rfl) hK hP hD hS hA rfl rfl rfl rfl hl.1 rfl (Nat.le_of_ble_eq_true rfl) d_M_freeze_10 ⟨Nat.le_of_ble_eq_true rfl, Nat.le_of_ble_eq_true rfl⟩ (fun H locs hP hD hS => ?_)
  have hP : va_P E.1 gp_cl (gp_wM E (upd I 0 1) F) H := hP
  have hD : va_D A (gp_wM E (upd I 0 1) F) := hD
  refine W.eq (g2 := F0 xm 13 ls [.int 0]) rfl ?_
  refine lv_if_ne (tgt := 18) hx hb d_M_freeze_13 (by decide) (fun c13 => ?_) (fun c13 => ?_)
  · exact absurd c13 (by decide)
  · have c13 := c13
    have nc13 : 0 = 0 := (nI_eq (a := 0) (b := 0) (by omega) (by omega)).mp c13
    refine lv_iconst (v := 0) hx hb d_M_freeze_16 (by decide) ?_
    exact gp_wi hx hb hr hlocks hAe (rfl) (hP) hS d_M_freeze_17
set_option maxHeartbeats 4000000 in
set_option maxRecDepth 100000 in
theorem c_M_told (l : Launch) (E : gp_E) (I : Nat → Int32) (F : Nat → Nat → Int32)   : gp_CW l y_M_told b_M_told 1 (some .int) 1 E (gp_wM E I F) (gp_wM E (upd I 0 0) F) [.ref (E.2.2.2 0)] (some (.int (I 8))) := by
  refine gp_ofW (by decide) (Nat.le_of_ble_eq_true rfl) ?_
  intro xp xe xs xm below meth xc ls A hx hb hr hts hown hlocks hml hP hK hD hA hAe hl
  have hS : va_S A xs.heap xs.heap [] := va_S.rf
  have hown : xs.vm.findClass "GuidePlansModel" = some xm.cls := hown
  have hl : lv_has ls 1 [(0, .ref (E.2.2.2 0))] := hl
  refine lv_aload_n hx hb d_M_told_0 rfl (lv_at hl 0 rfl) ?_
  refine lv_iconst (v := 0) hx hb d_M_told_1 (by decide) ?_
  refine va_put (D := E.1) (cl := gp_cl) (ci := 3) (v := .int 0) (ty := .int) (C := R_M) (T := T_M) (N := 27) hx hb hts i_M t_M t_M_ok n_M hown hK hP hD hS 0 rfl rfl 0 (by decide) (hts _ w3_52) (fun _ h9 => h9) rfl (by decide +kernel) rfl rfl (Nat.le_of_ble_eq_true rfl) d_M_told_2 (fun H locs hP hD hS => ?_)
  have hP : va_P E.1 gp_cl (gp_wM E (upd I 0 0) F) H := hP
  have hD : va_D A (gp_wM E (upd I 0 0) F) := hD
  refine lv_aload_n hx hb d_M_told_5 rfl (lv_at hl 0 rfl) ?_
  refine va_get (D := E.1) (cl := gp_cl) (ci := 3) (v := .int (I 8)) (C := R_M) (T := T_M) (N := 27) hx hb hts i_M hown hK hP 0 rfl rfl 20 (by decide) (hts _ w3_72) (fun _ h9 => h9) rfl d_M_told_6 ?_
  exact gp_wi hx hb hr hlocks hAe (rfl) (hP) hS d_M_told_9
set_option maxHeartbeats 4000000 in
set_option maxRecDepth 100000 in
theorem c_M_ofN (l : Launch) (E : gp_E) (I : Nat → Int32) (F : Nat → Nat → Int32) (nt t : Nat) (hT : I 3 = nI nt) (hnt : nt ≤ 6) (ht : t < nt) : gp_CW l y_M_of b_M_of 2 (some .int) 2 E (gp_wM E I F) (gp_wM E (upd I 0 0) F) [.ref (E.2.2.2 0), .int (nI t)] (some (.int (F 8 t))) := by
  refine gp_ofW (by decide) (Nat.le_of_ble_eq_true rfl) ?_
  intro xp xe xs xm below meth xc ls A hx hb hr hts hown hlocks hml hP hK hD hA hAe hl
  have hS : va_S A xs.heap xs.heap [] := va_S.rf
  have hown : xs.vm.findClass "GuidePlansModel" = some xm.cls := hown
  have hl : lv_has ls 2 [(0, .ref (E.2.2.2 0)), (1, .int (nI t))] := hl
  refine lv_aload_n hx hb d_M_of_0 rfl (lv_at hl 0 rfl) ?_
  refine lv_aload_n hx hb d_M_of_1 rfl (lv_at hl 0 rfl) ?_
  refine lv_iload_n hx hb d_M_of_2 rfl (lv_at hl 1 rfl) ?_
  refine gp_cR (q0 := 0) (ci := 3) (As := [.int (nI t)]) (rest := [.ref (E.2.2.2 0)]) ⟨hx, hb, hml, hown, hts⟩ (show gp_CR _ _ _ _ _ _ _ _ _ 1 from by have h9 := c_M_isTask l E I F (nI t); rw [hT, gp_in_1 ht (by omega), if_pos rfl] at h9; exact h9) (k_M_149 hts ⟨by decide, by decide⟩ rfl rfl) hK hP rfl rfl rfl hl.1 rfl (Nat.le_of_ble_eq_true rfl) d_M_of_3 ⟨Nat.le_of_ble_eq_true rfl, Nat.le_of_ble_eq_true rfl⟩ ?_
  refine lv_iconst (v := 1) hx hb d_M_of_6 (by decide) ?_
  refine lv_iconst (v := 1) hx hb d_M_of_7 (by decide) ?_
  refine gp_cW (q0 := 0) (ci := 3) (As := [.int 1, .int 1, .int 1]) (rest := []) ⟨hx, hb, hml, hown, hts⟩ (show gp_CW l y_M_goes b_M_goes 4 (some .boolean) 1 E (gp_wM E I F) (gp_wM E (upd I 0 0) F) [.ref (E.2.2.2 0), .int 1, .int 1, .int 1] (some (.int 1)) from c_M_goes l E I F 1 1 1) (k_M_70 hts ⟨by decide, by decide⟩ rfl rfl) hK hP hD hS hA rfl rfl rfl rfl hl.1 rfl (Nat.le_of_ble_eq_true rfl) d_M_of_8 ⟨Nat.le_of_ble_eq_true rfl, Nat.le_of_ble_eq_true rfl⟩ (fun H locs hP hD hS => ?_)
  have hP : va_P E.1 gp_cl (gp_wM E (upd I 0 0) F) H := hP
  have hD : va_D A (gp_wM E (upd I 0 0) F) := hD
  refine W.eq (g2 := F0 xm 11 ls [.int 1]) rfl ?_
  refine lv_if_eq (tgt := 23) hx hb d_M_of_11 (by decide) (fun c11 => ?_) (fun c11 => ?_)
  · exact absurd c11 (by decide)
  · have c11 := c11
    have nc11 : ¬ 1 = 0 := fun h => c11 ((nI_eq (a := 1) (b := 0) (by omega) (by omega)).mpr h)
    refine lv_aload_n hx hb d_M_of_14 rfl (lv_at hl 0 rfl) ?_
    refine va_get (D := E.1) (cl := gp_cl) (ci := 3) (v := .ref (E.2.2.2 9)) (C := R_M) (T := T_M) (N := 27) hx hb hts i_M hown hK hP 0 rfl rfl 12 (by decide) (hts _ w3_64) (fun _ h9 => h9) rfl d_M_of_15 ?_
    refine lv_iload_n hx hb d_M_of_18 rfl (lv_at hl 1 rfl) ?_
    refine gp_ald (f := (F 8)) (n := 6) hx hb hK hP 9 rfl (t) rfl (by omega) (by decide) d_M_of_19 ?_
    refine lv_goto (tgt := 24) hx hb d_M_of_20 (by decide) ?_
    exact gp_wi hx hb hr hlocks hAe (rfl) (hP) hS d_M_of_24
set_option maxHeartbeats 4000000 in
set_option maxRecDepth 100000 in
theorem c_M_ofE1 (l : Launch) (E : gp_E) (I : Nat → Int32) (F : Nat → Nat → Int32) (x : Int32) (h : gp_in x (I 3) = false) : gp_CW l y_M_of b_M_of 2 (some .int) 2 E (gp_wM E I F) (gp_wM E (upd I 0 1) F) [.ref (E.2.2.2 0), .int x] (some (.int 0)) := by
  refine gp_ofW (by decide) (Nat.le_of_ble_eq_true rfl) ?_
  intro xp xe xs xm below meth xc ls A hx hb hr hts hown hlocks hml hP hK hD hA hAe hl
  have hS : va_S A xs.heap xs.heap [] := va_S.rf
  have hown : xs.vm.findClass "GuidePlansModel" = some xm.cls := hown
  have hl : lv_has ls 2 [(0, .ref (E.2.2.2 0)), (1, .int x)] := hl
  refine lv_aload_n hx hb d_M_of_0 rfl (lv_at hl 0 rfl) ?_
  refine lv_aload_n hx hb d_M_of_1 rfl (lv_at hl 0 rfl) ?_
  refine lv_iload_n hx hb d_M_of_2 rfl (lv_at hl 1 rfl) ?_
  refine gp_cR (q0 := 0) (ci := 3) (As := [.int x]) (rest := [.ref (E.2.2.2 0)]) ⟨hx, hb, hml, hown, hts⟩ (show gp_CR _ _ _ _ _ _ _ _ _ 0 from by have h9 := c_M_isTask l E I F x; rw [h, if_neg (by decide)] at h9; exact h9) (k_M_149 hts ⟨by decide, by decide⟩ rfl rfl) hK hP rfl rfl rfl hl.1 rfl (Nat.le_of_ble_eq_true rfl) d_M_of_3 ⟨Nat.le_of_ble_eq_true rfl, Nat.le_of_ble_eq_true rfl⟩ ?_
  refine lv_iconst (v := 1) hx hb d_M_of_6 (by decide) ?_
  refine lv_iconst (v := 1) hx hb d_M_of_7 (by decide) ?_
  refine gp_cW (q0 := 0) (ci := 3) (As := [.int 0, .int 1, .int 1]) (rest := []) ⟨hx, hb, hml, hown, hts⟩ (show gp_CW l y_M_goes b_M_goes 4 (some .boolean) 1 E (gp_wM E I F) (gp_wM E (upd I 0 1) F) [.ref (E.2.2.2 0), .int 0, .int 1, .int 1] (some (.int 0)) from c_M_goes l E I F 0 1 1) (k_M_70 hts ⟨by decide, by decide⟩ rfl rfl) hK hP hD hS hA rfl rfl rfl rfl hl.1 rfl (Nat.le_of_ble_eq_true rfl) d_M_of_8 ⟨Nat.le_of_ble_eq_true rfl, Nat.le_of_ble_eq_true rfl⟩ (fun H locs hP hD hS => ?_)
  have hP : va_P E.1 gp_cl (gp_wM E (upd I 0 1) F) H := hP
  have hD : va_D A (gp_wM E (upd I 0 1) F) := hD
  refine W.eq (g2 := F0 xm 11 ls [.int 0]) rfl ?_
  refine lv_if_eq (tgt := 23) hx hb d_M_of_11 (by decide) (fun c11 => ?_) (fun c11 => ?_)
  · have c11 := c11
    have nc11 : 0 = 0 := (nI_eq (a := 0) (b := 0) (by omega) (by omega)).mp c11
    refine lv_iconst (v := 0) hx hb d_M_of_23 (by decide) ?_
    exact gp_wi hx hb hr hlocks hAe (rfl) (hP) hS d_M_of_24
  · exact absurd c11 (by decide)
set_option maxHeartbeats 4000000 in
set_option maxRecDepth 100000 in
theorem c_M_costN (l : Launch) (E : gp_E) (I : Nat → Int32) (F : Nat → Nat → Int32) (np nt : Nat) (hp4 : I 1 = nI np) (hnp : np ≤ 4) (hT : I 3 = nI nt) (hnt : nt ≤ 6) (hpl : I 4 = 1) : gp_CW l y_M_cost b_M_cost 1 (some .int) 2 E (gp_wM E I F) (gp_wM E (upd I 0 0) (gp_uF F 9 (fun j => if j < nt then F 8 j else F 9 j))) [.ref (E.2.2.2 0)] (some (.int (gm_c (fun j => if j < nt then F 8 j else F 9 j) nt np))) := by
  refine gp_ofW (by decide) (Nat.le_of_ble_eq_true rfl) ?_
  intro xp xe xs xm below meth xc ls A hx hb hr hts hown hlocks hml hP hK hD hA hAe hl
  have hS : va_S A xs.heap xs.heap [] := va_S.rf
  have hown : xs.vm.findClass "GuidePlansModel" = some xm.cls := hown
  have hl : lv_has ls 1 [(0, .ref (E.2.2.2 0))] := hl
  refine lv_aload_n hx hb d_M_cost_0 rfl (lv_at hl 0 rfl) ?_
  refine lv_aload_n hx hb d_M_cost_1 rfl (lv_at hl 0 rfl) ?_
  refine va_get (D := E.1) (cl := gp_cl) (ci := 3) (v := .int (I 4)) (C := R_M) (T := T_M) (N := 27) hx hb hts i_M hown hK hP 0 rfl rfl 16 (by decide) (hts _ w3_68) (fun _ h9 => h9) rfl d_M_cost_2 ?_
  rw [show (I 4) = 1 from hpl]
  refine lv_iconst (v := 1) hx hb d_M_cost_5 (by decide) ?_
  refine lv_iconst (v := 1) hx hb d_M_cost_6 (by decide) ?_
  refine gp_cW (q0 := 0) (ci := 3) (As := [.int 1, .int 1, .int 1]) (rest := []) ⟨hx, hb, hml, hown, hts⟩ (show gp_CW l y_M_goes b_M_goes 4 (some .boolean) 1 E (gp_wM E I F) (gp_wM E (upd I 0 0) F) [.ref (E.2.2.2 0), .int 1, .int 1, .int 1] (some (.int 1)) from c_M_goes l E I F 1 1 1) (k_M_70 hts ⟨by decide, by decide⟩ rfl rfl) hK hP hD hS hA rfl rfl rfl rfl hl.1 rfl (Nat.le_of_ble_eq_true rfl) d_M_cost_7 ⟨Nat.le_of_ble_eq_true rfl, Nat.le_of_ble_eq_true rfl⟩ (fun H locs hP hD hS => ?_)
  have hP : va_P E.1 gp_cl (gp_wM E (upd I 0 0) F) H := hP
  have hD : va_D A (gp_wM E (upd I 0 0) F) := hD
  refine W.eq (g2 := F0 xm 10 ls [.int 1]) rfl ?_
  refine lv_if_ne (tgt := 15) hx hb d_M_cost_10 (by decide) (fun c10 => ?_) (fun c10 => ?_)
  · have c10 := c10
    have nc10 : ¬ 1 = 0 := fun h => c10 ((nI_eq (a := 1) (b := 0) (by omega) (by omega)).mpr h)
    refine lv_aload_n hx hb d_M_cost_15 rfl (lv_at hl 0 rfl) ?_
    refine gp_cW (q0 := 0) (ci := 3) (As := []) (rest := []) ⟨hx, hb, hml, hown, hts⟩ (c_M_tryPlan l E (upd I 0 0) F nt hT hnt) (k_M_152 hts ⟨by decide, by decide⟩ rfl rfl) hK hP hD hS hA rfl rfl rfl rfl hl.1 rfl (Nat.le_of_ble_eq_true rfl) d_M_cost_16 ⟨Nat.le_of_ble_eq_true rfl, Nat.le_of_ble_eq_true rfl⟩ (fun H locs hP hD hS => ?_)
    have hP : va_P E.1 gp_cl (gp_wM E (upd I 0 0) (gp_uF F 9 (fun j => if j < nt then F 8 j else F 9 j))) H := hP
    have hD : va_D A (gp_wM E (upd I 0 0) (gp_uF F 9 (fun j => if j < nt then F 8 j else F 9 j))) := hD
    refine lv_aload_n hx hb d_M_cost_19 rfl (lv_at hl 0 rfl) ?_
    refine gp_cR (q0 := 0) (ci := 3) (As := []) (rest := []) ⟨hx, hb, hml, hown, hts⟩ (show gp_CR _ _ _ _ _ _ _ _ _ (gm_c (fun j => if j < nt then F 8 j else F 9 j) nt np) from c_M_costOf l E (upd I 0 0) (gp_uF F 9 (fun j => if j < nt then F 8 j else F 9 j)) np nt hp4 hnp hT hnt) (k_M_129 hts ⟨by decide, by decide⟩ rfl rfl) hK hP rfl rfl rfl hl.1 rfl (Nat.le_of_ble_eq_true rfl) d_M_cost_20 ⟨Nat.le_of_ble_eq_true rfl, Nat.le_of_ble_eq_true rfl⟩ ?_
    exact gp_wi hx hb hr hlocks hAe (rfl) (hP) hS d_M_cost_23
  · exact absurd c10 (by decide)
set_option maxHeartbeats 4000000 in
set_option maxRecDepth 100000 in
theorem c_M_costE1 (l : Launch) (E : gp_E) (I : Nat → Int32) (F : Nat → Nat → Int32)  (hpl : I 4 = 0) : gp_CW l y_M_cost b_M_cost 1 (some .int) 2 E (gp_wM E I F) (gp_wM E (upd I 0 1) F) [.ref (E.2.2.2 0)] (some (.int 0)) := by
  refine gp_ofW (by decide) (Nat.le_of_ble_eq_true rfl) ?_
  intro xp xe xs xm below meth xc ls A hx hb hr hts hown hlocks hml hP hK hD hA hAe hl
  have hS : va_S A xs.heap xs.heap [] := va_S.rf
  have hown : xs.vm.findClass "GuidePlansModel" = some xm.cls := hown
  have hl : lv_has ls 1 [(0, .ref (E.2.2.2 0))] := hl
  refine lv_aload_n hx hb d_M_cost_0 rfl (lv_at hl 0 rfl) ?_
  refine lv_aload_n hx hb d_M_cost_1 rfl (lv_at hl 0 rfl) ?_
  refine va_get (D := E.1) (cl := gp_cl) (ci := 3) (v := .int (I 4)) (C := R_M) (T := T_M) (N := 27) hx hb hts i_M hown hK hP 0 rfl rfl 16 (by decide) (hts _ w3_68) (fun _ h9 => h9) rfl d_M_cost_2 ?_
  rw [show (I 4) = 0 from hpl]
  refine lv_iconst (v := 1) hx hb d_M_cost_5 (by decide) ?_
  refine lv_iconst (v := 1) hx hb d_M_cost_6 (by decide) ?_
  refine gp_cW (q0 := 0) (ci := 3) (As := [.int 0, .int 1, .int 1]) (rest := []) ⟨hx, hb, hml, hown, hts⟩ (show gp_CW l y_M_goes b_M_goes 4 (some .boolean) 1 E (gp_wM E I F) (gp_wM E (upd I 0 1) F) [.ref (E.2.2.2 0), .int 0, .int 1, .int 1] (some (.int 0)) from c_M_goes l E I F 0 1 1) (k_M_70 hts ⟨by decide, by decide⟩ rfl rfl) hK hP hD hS hA rfl rfl rfl rfl hl.1 rfl (Nat.le_of_ble_eq_true rfl) d_M_cost_7 ⟨Nat.le_of_ble_eq_true rfl, Nat.le_of_ble_eq_true rfl⟩ (fun H locs hP hD hS => ?_)
  have hP : va_P E.1 gp_cl (gp_wM E (upd I 0 1) F) H := hP
  have hD : va_D A (gp_wM E (upd I 0 1) F) := hD
  refine W.eq (g2 := F0 xm 10 ls [.int 0]) rfl ?_
  refine lv_if_ne (tgt := 15) hx hb d_M_cost_10 (by decide) (fun c10 => ?_) (fun c10 => ?_)
  · exact absurd c10 (by decide)
  · have c10 := c10
    have nc10 : 0 = 0 := (nI_eq (a := 0) (b := 0) (by omega) (by omega)).mp c10
    refine lv_iconst (v := 0) hx hb d_M_cost_13 (by decide) ?_
    exact gp_wi hx hb hr hlocks hAe (rfl) (hP) hS d_M_cost_14
set_option maxHeartbeats 4000000 in
set_option maxRecDepth 100000 in
theorem c_M_changedN (l : Launch) (E : gp_E) (I : Nat → Int32) (F : Nat → Nat → Int32) (nc j : Nat) (hC : I 9 = nI nc) (hnc : nc ≤ 6) (hj : j < nc) : gp_CW l y_M_changed b_M_changed 2 (some .int) 2 E (gp_wM E I F) (gp_wM E (upd I 0 0) F) [.ref (E.2.2.2 0), .int (nI j)] (some (.int (F 12 j))) := by
  refine gp_ofW (by decide) (Nat.le_of_ble_eq_true rfl) ?_
  intro xp xe xs xm below meth xc ls A hx hb hr hts hown hlocks hml hP hK hD hA hAe hl
  have hS : va_S A xs.heap xs.heap [] := va_S.rf
  have hown : xs.vm.findClass "GuidePlansModel" = some xm.cls := hown
  have hl : lv_has ls 2 [(0, .ref (E.2.2.2 0)), (1, .int (nI j))] := hl
  refine lv_aload_n hx hb d_M_changed_0 rfl (lv_at hl 0 rfl) ?_
  refine lv_iload_n hx hb d_M_changed_1 rfl (lv_at hl 1 rfl) ?_
  refine lv_if_lt (tgt := 17) hx hb d_M_changed_2 (by decide) (fun c2 => ?_) (fun c2 => ?_)
  · have c2 := c2
    have nc2 : j < 0 := (nI_ltI (a := j) (b := 0) (by omega) (by omega)).mp c2
    exact False.elim (by omega)
  · have c2 := c2
    have nc2 : ¬ j < 0 := fun h => c2 ((nI_ltI (a := j) (b := 0) (by omega) (by omega)).mpr h)
    refine lv_iload_n hx hb d_M_changed_5 rfl (lv_at hl 1 rfl) ?_
    refine lv_aload_n hx hb d_M_changed_6 rfl (lv_at hl 0 rfl) ?_
    refine va_get (D := E.1) (cl := gp_cl) (ci := 3) (v := .int (nI nc)) (C := R_M) (T := T_M) (N := 27) hx hb hts i_M hown hK hP 0 rfl rfl 21 (by decide) (hts _ w3_73) (fun _ h9 => h9) (congrArg (fun z => some (Value.int z)) hC) d_M_changed_7 ?_
    refine lv_icmp_ge (tgt := 17) hx hb d_M_changed_10 (by decide) (fun c10 => ?_) (fun c10 => ?_)
    · have c10 := c10
      have nc10 : nc ≤ j := (nI_leI (a := nc) (b := j) (by omega) (by omega)).mp c10
      exact False.elim (by omega)
    · have c10 := c10
      have nc10 : ¬ nc ≤ j := fun h => c10 ((nI_leI (a := nc) (b := j) (by omega) (by omega)).mpr h)
      refine lv_iconst (v := 1) hx hb d_M_changed_13 (by decide) ?_
      refine lv_goto (tgt := 18) hx hb d_M_changed_14 (by decide) ?_
      refine lv_iconst (v := 1) hx hb d_M_changed_18 (by decide) ?_
      refine lv_iconst (v := 1) hx hb d_M_changed_19 (by decide) ?_
      refine gp_cW (q0 := 0) (ci := 3) (As := [.int 1, .int 1, .int 1]) (rest := []) ⟨hx, hb, hml, hown, hts⟩ (show gp_CW l y_M_goes b_M_goes 4 (some .boolean) 1 E (gp_wM E I F) (gp_wM E (upd I 0 0) F) [.ref (E.2.2.2 0), .int 1, .int 1, .int 1] (some (.int 1)) from c_M_goes l E I F 1 1 1) (k_M_70 hts ⟨by decide, by decide⟩ rfl rfl) hK hP hD hS hA rfl rfl rfl rfl hl.1 rfl (Nat.le_of_ble_eq_true rfl) d_M_changed_20 ⟨Nat.le_of_ble_eq_true rfl, Nat.le_of_ble_eq_true rfl⟩ (fun H locs hP hD hS => ?_)
      have hP : va_P E.1 gp_cl (gp_wM E (upd I 0 0) F) H := hP
      have hD : va_D A (gp_wM E (upd I 0 0) F) := hD
      refine W.eq (g2 := F0 xm 23 ls [.int 1]) rfl ?_
      refine lv_if_eq (tgt := 35) hx hb d_M_changed_23 (by decide) (fun c23 => ?_) (fun c23 => ?_)
      · exact absurd c23 (by decide)
      · have c23 := c23
        have nc23 : ¬ 1 = 0 := fun h => c23 ((nI_eq (a := 1) (b := 0) (by omega) (by omega)).mpr h)
        refine lv_aload_n hx hb d_M_changed_26 rfl (lv_at hl 0 rfl) ?_
        refine va_get (D := E.1) (cl := gp_cl) (ci := 3) (v := .ref (E.2.2.2 13)) (C := R_M) (T := T_M) (N := 27) hx hb hts i_M hown hK hP 0 rfl rfl 22 (by decide) (hts _ w3_74) (fun _ h9 => h9) rfl d_M_changed_27 ?_
        refine lv_iload_n hx hb d_M_changed_30 rfl (lv_at hl 1 rfl) ?_
        refine gp_ald (f := (F 12)) (n := 6) hx hb hK hP 13 rfl (j) rfl (by omega) (by decide) d_M_changed_31 ?_
        refine lv_goto (tgt := 36) hx hb d_M_changed_32 (by decide) ?_
        exact gp_wi hx hb hr hlocks hAe (rfl) (hP) hS d_M_changed_36
set_option maxHeartbeats 4000000 in
set_option maxRecDepth 100000 in
theorem c_M_changedE1 (l : Launch) (E : gp_E) (I : Nat → Int32) (F : Nat → Nat → Int32) (x : Int32) (h : ¬ (¬ x < 0 ∧ x < I 9)) : gp_CW l y_M_changed b_M_changed 2 (some .int) 2 E (gp_wM E I F) (gp_wM E (upd I 0 1) F) [.ref (E.2.2.2 0), .int x] (some (.int 0)) := by
  refine gp_ofW (by decide) (Nat.le_of_ble_eq_true rfl) ?_
  intro xp xe xs xm below meth xc ls A hx hb hr hts hown hlocks hml hP hK hD hA hAe hl
  have hS : va_S A xs.heap xs.heap [] := va_S.rf
  have hown : xs.vm.findClass "GuidePlansModel" = some xm.cls := hown
  have hl : lv_has ls 2 [(0, .ref (E.2.2.2 0)), (1, .int x)] := hl
  refine lv_aload_n hx hb d_M_changed_0 rfl (lv_at hl 0 rfl) ?_
  refine lv_iload_n hx hb d_M_changed_1 rfl (lv_at hl 1 rfl) ?_
  refine lv_if_lt (tgt := 17) hx hb d_M_changed_2 (by decide) (fun c2 => ?_) (fun c2 => ?_)
  · have c2 := c2
    have mc2 : ¬ (0 : Int32) ≤ x := Int32.not_le.mpr c2
    refine lv_iconst (v := 0) hx hb d_M_changed_17 (by decide) ?_
    refine lv_iconst (v := 1) hx hb d_M_changed_18 (by decide) ?_
    refine lv_iconst (v := 1) hx hb d_M_changed_19 (by decide) ?_
    refine gp_cW (q0 := 0) (ci := 3) (As := [.int 0, .int 1, .int 1]) (rest := []) ⟨hx, hb, hml, hown, hts⟩ (show gp_CW l y_M_goes b_M_goes 4 (some .boolean) 1 E (gp_wM E I F) (gp_wM E (upd I 0 1) F) [.ref (E.2.2.2 0), .int 0, .int 1, .int 1] (some (.int 0)) from c_M_goes l E I F 0 1 1) (k_M_70 hts ⟨by decide, by decide⟩ rfl rfl) hK hP hD hS hA rfl rfl rfl rfl hl.1 rfl (Nat.le_of_ble_eq_true rfl) d_M_changed_20 ⟨Nat.le_of_ble_eq_true rfl, Nat.le_of_ble_eq_true rfl⟩ (fun H locs hP hD hS => ?_)
    have hP : va_P E.1 gp_cl (gp_wM E (upd I 0 1) F) H := hP
    have hD : va_D A (gp_wM E (upd I 0 1) F) := hD
    refine W.eq (g2 := F0 xm 23 ls [.int 0]) rfl ?_
    refine lv_if_eq (tgt := 35) hx hb d_M_changed_23 (by decide) (fun c23 => ?_) (fun c23 => ?_)
    · have c23 := c23
      have nc23 : 0 = 0 := (nI_eq (a := 0) (b := 0) (by omega) (by omega)).mp c23
      refine lv_iconst (v := 0) hx hb d_M_changed_35 (by decide) ?_
      exact gp_wi hx hb hr hlocks hAe (rfl) (hP) hS d_M_changed_36
    · exact absurd c23 (by decide)
  · have c2 := c2
    have mc2 : (0 : Int32) ≤ x := Int32.not_lt.mp c2
    refine lv_iload_n hx hb d_M_changed_5 rfl (lv_at hl 1 rfl) ?_
    refine lv_aload_n hx hb d_M_changed_6 rfl (lv_at hl 0 rfl) ?_
    refine va_get (D := E.1) (cl := gp_cl) (ci := 3) (v := .int (I 9)) (C := R_M) (T := T_M) (N := 27) hx hb hts i_M hown hK hP 0 rfl rfl 21 (by decide) (hts _ w3_73) (fun _ h9 => h9) rfl d_M_changed_7 ?_
    refine lv_icmp_ge (tgt := 17) hx hb d_M_changed_10 (by decide) (fun c10 => ?_) (fun c10 => ?_)
    · have c10 := c10
      have mc10 : ¬ (x : Int32) < (I 9) := Int32.not_lt.mpr c10
      refine lv_iconst (v := 0) hx hb d_M_changed_17 (by decide) ?_
      refine lv_iconst (v := 1) hx hb d_M_changed_18 (by decide) ?_
      refine lv_iconst (v := 1) hx hb d_M_changed_19 (by decide) ?_
      refine gp_cW (q0 := 0) (ci := 3) (As := [.int 0, .int 1, .int 1]) (rest := []) ⟨hx, hb, hml, hown, hts⟩ (show gp_CW l y_M_goes b_M_goes 4 (some .boolean) 1 E (gp_wM E I F) (gp_wM E (upd I 0 1) F) [.ref (E.2.2.2 0), .int 0, .int 1, .int 1] (some (.int 0)) from c_M_goes l E I F 0 1 1) (k_M_70 hts ⟨by decide, by decide⟩ rfl rfl) hK hP hD hS hA rfl rfl rfl rfl hl.1 rfl (Nat.le_of_ble_eq_true rfl) d_M_changed_20 ⟨Nat.le_of_ble_eq_true rfl, Nat.le_of_ble_eq_true rfl⟩ (fun H locs hP hD hS => ?_)
      have hP : va_P E.1 gp_cl (gp_wM E (upd I 0 1) F) H := hP
      have hD : va_D A (gp_wM E (upd I 0 1) F) := hD
      refine W.eq (g2 := F0 xm 23 ls [.int 0]) rfl ?_
      refine lv_if_eq (tgt := 35) hx hb d_M_changed_23 (by decide) (fun c23 => ?_) (fun c23 => ?_)
      · have c23 := c23
        have nc23 : 0 = 0 := (nI_eq (a := 0) (b := 0) (by omega) (by omega)).mp c23
        refine lv_iconst (v := 0) hx hb d_M_changed_35 (by decide) ?_
        exact gp_wi hx hb hr hlocks hAe (rfl) (hP) hS d_M_changed_36
      · exact absurd c23 (by decide)
    · have c10 := c10
      have mc10 : (x : Int32) < (I 9) := Int32.not_le.mp c10
      exact (h ⟨c2, mc10⟩).elim
set_option maxHeartbeats 4000000 in
set_option maxRecDepth 100000 in
theorem c_M_workN (l : Launch) (E : gp_E) (I : Nat → Int32) (F : Nat → Nat → Int32) (nt : Nat) (x : Int32) (h : gp_in x (I 1) = true) (hT : I 3 = nI nt) (hnt : nt ≤ 6) : gp_CW l y_M_work b_M_work 2 (some .int) 2 E (gp_wM E I F) (gp_wM E (upd I 0 0) (gp_uF F 9 (fun j => if j < nt then F 8 j else F 9 j))) [.ref (E.2.2.2 0), .int x] (some (.int (gm_q (gp_uF F 9 (fun j => if j < nt then F 8 j else F 9 j)) x nt))) := by
  refine gp_ofW (by decide) (Nat.le_of_ble_eq_true rfl) ?_
  intro xp xe xs xm below meth xc ls A hx hb hr hts hown hlocks hml hP hK hD hA hAe hl
  have hS : va_S A xs.heap xs.heap [] := va_S.rf
  have hown : xs.vm.findClass "GuidePlansModel" = some xm.cls := hown
  have hl : lv_has ls 2 [(0, .ref (E.2.2.2 0)), (1, .int x)] := hl
  refine lv_aload_n hx hb d_M_work_0 rfl (lv_at hl 0 rfl) ?_
  refine lv_aload_n hx hb d_M_work_1 rfl (lv_at hl 0 rfl) ?_
  refine lv_iload_n hx hb d_M_work_2 rfl (lv_at hl 1 rfl) ?_
  refine gp_cR (q0 := 0) (ci := 3) (As := [.int x]) (rest := [.ref (E.2.2.2 0)]) ⟨hx, hb, hml, hown, hts⟩ (show gp_CR _ _ _ _ _ _ _ _ _ 1 from by have h9 := c_M_isPerson l E I F x; rw [h, if_pos rfl] at h9; exact h9) (k_M_77 hts ⟨by decide, by decide⟩ rfl rfl) hK hP rfl rfl rfl hl.1 rfl (Nat.le_of_ble_eq_true rfl) d_M_work_3 ⟨Nat.le_of_ble_eq_true rfl, Nat.le_of_ble_eq_true rfl⟩ ?_
  refine lv_iconst (v := 1) hx hb d_M_work_6 (by decide) ?_
  refine lv_iconst (v := 1) hx hb d_M_work_7 (by decide) ?_
  refine gp_cW (q0 := 0) (ci := 3) (As := [.int 1, .int 1, .int 1]) (rest := []) ⟨hx, hb, hml, hown, hts⟩ (show gp_CW l y_M_goes b_M_goes 4 (some .boolean) 1 E (gp_wM E I F) (gp_wM E (upd I 0 0) F) [.ref (E.2.2.2 0), .int 1, .int 1, .int 1] (some (.int 1)) from c_M_goes l E I F 1 1 1) (k_M_70 hts ⟨by decide, by decide⟩ rfl rfl) hK hP hD hS hA rfl rfl rfl rfl hl.1 rfl (Nat.le_of_ble_eq_true rfl) d_M_work_8 ⟨Nat.le_of_ble_eq_true rfl, Nat.le_of_ble_eq_true rfl⟩ (fun H locs hP hD hS => ?_)
  have hP : va_P E.1 gp_cl (gp_wM E (upd I 0 0) F) H := hP
  have hD : va_D A (gp_wM E (upd I 0 0) F) := hD
  refine W.eq (g2 := F0 xm 11 ls [.int 1]) rfl ?_
  refine lv_if_ne (tgt := 16) hx hb d_M_work_11 (by decide) (fun c11 => ?_) (fun c11 => ?_)
  · have c11 := c11
    have nc11 : ¬ 1 = 0 := fun h => c11 ((nI_eq (a := 1) (b := 0) (by omega) (by omega)).mpr h)
    refine lv_aload_n hx hb d_M_work_16 rfl (lv_at hl 0 rfl) ?_
    refine gp_cW (q0 := 0) (ci := 3) (As := []) (rest := []) ⟨hx, hb, hml, hown, hts⟩ (c_M_tryPlan l E (upd I 0 0) F nt hT hnt) (k_M_152 hts ⟨by decide, by decide⟩ rfl rfl) hK hP hD hS hA rfl rfl rfl rfl hl.1 rfl (Nat.le_of_ble_eq_true rfl) d_M_work_17 ⟨Nat.le_of_ble_eq_true rfl, Nat.le_of_ble_eq_true rfl⟩ (fun H locs hP hD hS => ?_)
    have hP : va_P E.1 gp_cl (gp_wM E (upd I 0 0) (gp_uF F 9 (fun j => if j < nt then F 8 j else F 9 j))) H := hP
    have hD : va_D A (gp_wM E (upd I 0 0) (gp_uF F 9 (fun j => if j < nt then F 8 j else F 9 j))) := hD
    refine lv_aload_n hx hb d_M_work_20 rfl (lv_at hl 0 rfl) ?_
    refine lv_iload_n hx hb d_M_work_21 rfl (lv_at hl 1 rfl) ?_
    refine gp_cR (q0 := 0) (ci := 3) (As := [.int x]) (rest := []) ⟨hx, hb, hml, hown, hts⟩ (c_M_quarters l E (upd I 0 0) (gp_uF F 9 (fun j => if j < nt then F 8 j else F 9 j)) nt x hT hnt) (k_M_101 hts ⟨by decide, by decide⟩ rfl rfl) hK hP rfl rfl rfl hl.1 rfl (Nat.le_of_ble_eq_true rfl) d_M_work_22 ⟨Nat.le_of_ble_eq_true rfl, Nat.le_of_ble_eq_true rfl⟩ ?_
    exact gp_wi hx hb hr hlocks hAe (rfl) (hP) hS d_M_work_25
  · exact absurd c11 (by decide)
set_option maxHeartbeats 4000000 in
set_option maxRecDepth 100000 in
theorem c_M_workE1 (l : Launch) (E : gp_E) (I : Nat → Int32) (F : Nat → Nat → Int32) (x : Int32) (h : gp_in x (I 1) = false) : gp_CW l y_M_work b_M_work 2 (some .int) 2 E (gp_wM E I F) (gp_wM E (upd I 0 1) F) [.ref (E.2.2.2 0), .int x] (some (.int 0)) := by
  refine gp_ofW (by decide) (Nat.le_of_ble_eq_true rfl) ?_
  intro xp xe xs xm below meth xc ls A hx hb hr hts hown hlocks hml hP hK hD hA hAe hl
  have hS : va_S A xs.heap xs.heap [] := va_S.rf
  have hown : xs.vm.findClass "GuidePlansModel" = some xm.cls := hown
  have hl : lv_has ls 2 [(0, .ref (E.2.2.2 0)), (1, .int x)] := hl
  refine lv_aload_n hx hb d_M_work_0 rfl (lv_at hl 0 rfl) ?_
  refine lv_aload_n hx hb d_M_work_1 rfl (lv_at hl 0 rfl) ?_
  refine lv_iload_n hx hb d_M_work_2 rfl (lv_at hl 1 rfl) ?_
  refine gp_cR (q0 := 0) (ci := 3) (As := [.int x]) (rest := [.ref (E.2.2.2 0)]) ⟨hx, hb, hml, hown, hts⟩ (show gp_CR _ _ _ _ _ _ _ _ _ 0 from by have h9 := c_M_isPerson l E I F x; rw [h, if_neg (by decide)] at h9; exact h9) (k_M_77 hts ⟨by decide, by decide⟩ rfl rfl) hK hP rfl rfl rfl hl.1 rfl (Nat.le_of_ble_eq_true rfl) d_M_work_3 ⟨Nat.le_of_ble_eq_true rfl, Nat.le_of_ble_eq_true rfl⟩ ?_
  refine lv_iconst (v := 1) hx hb d_M_work_6 (by decide) ?_
  refine lv_iconst (v := 1) hx hb d_M_work_7 (by decide) ?_
  refine gp_cW (q0 := 0) (ci := 3) (As := [.int 0, .int 1, .int 1]) (rest := []) ⟨hx, hb, hml, hown, hts⟩ (show gp_CW l y_M_goes b_M_goes 4 (some .boolean) 1 E (gp_wM E I F) (gp_wM E (upd I 0 1) F) [.ref (E.2.2.2 0), .int 0, .int 1, .int 1] (some (.int 0)) from c_M_goes l E I F 0 1 1) (k_M_70 hts ⟨by decide, by decide⟩ rfl rfl) hK hP hD hS hA rfl rfl rfl rfl hl.1 rfl (Nat.le_of_ble_eq_true rfl) d_M_work_8 ⟨Nat.le_of_ble_eq_true rfl, Nat.le_of_ble_eq_true rfl⟩ (fun H locs hP hD hS => ?_)
  have hP : va_P E.1 gp_cl (gp_wM E (upd I 0 1) F) H := hP
  have hD : va_D A (gp_wM E (upd I 0 1) F) := hD
  refine W.eq (g2 := F0 xm 11 ls [.int 0]) rfl ?_
  refine lv_if_ne (tgt := 16) hx hb d_M_work_11 (by decide) (fun c11 => ?_) (fun c11 => ?_)
  · exact absurd c11 (by decide)
  · have c11 := c11
    have nc11 : 0 = 0 := (nI_eq (a := 0) (b := 0) (by omega) (by omega)).mp c11
    refine lv_iconst (v := 0) hx hb d_M_work_14 (by decide) ?_
    exact gp_wi hx hb hr hlocks hAe (rfl) (hP) hS d_M_work_15
