set_option maxHeartbeats 4000000 in
set_option maxRecDepth 100000 in
theorem c_G_adoptFoundPlan (l : Launch) (E : gp_E) (I : Nat → Int32) (F : Nat → Nat → Int32) (nt : Nat) (hT : I 6 = nI nt) (hnt : nt ≤ 6) : gp_CW l y_G_adoptFoundPlan b_G_adoptFoundPlan 2 none 1 E (gp_wG E I F) (gp_wG E (upd (upd I 3 1) 2 (-1)) (gp_uF F 14 (fun j => if j < nt then F 8 j else F 14 j))) [.ref (E.2.2.2 0)] none := by
  refine gp_ofW (by decide) (Nat.le_of_ble_eq_true rfl) ?_
  intro xp xe xs xm below meth xc ls A hx hb hr hts hown hlocks hml hP hK hD hA hAe hl
  have hS : va_S A xs.heap xs.heap [] := va_S.rf
  have hown : xs.vm.findClass "GuidePlans" = some xm.cls := hown
  have hl : lv_has ls 2 [(0, .ref (E.2.2.2 0))] := hl
  refine lv_iconst (v := 0) hx hb d_G_adoptFoundPlan_0 (by decide) ?_
  refine lv_istore_n (lv' := [(1, .int 0), (0, .ref (E.2.2.2 0))]) hx hb d_G_adoptFoundPlan_1 rfl hl (by decide) rfl (fun ls hl => ?_)
  have L2 : ∀ (n : Nat) (t : Nat), t ≤ nt → nt + 1 ≤ t + n → ∀ (ls : Array Slot) (H : Heap) (locs : List Loc), lv_has ls 2 [(1, .int (nI t)), (0, .ref (E.2.2.2 0))] → va_P E.1 gp_cl (gp_wG E I (gp_uF F 14 (fun j => if j < t then F 8 j else F 14 j))) H → va_D A (gp_wG E I (gp_uF F 14 (fun j => if j < t then F 8 j else F 14 j))) → va_S A xs.heap H locs → W xp l xe (gp_rm 1 0 0) xs xm ([.ref (E.2.2.2 0)] : List Value).toArray below meth xc H locs 0 0 (MQ below (gp_QW E none (gp_wG E I F) (gp_wG E (upd (upd I 3 1) 2 (-1)) (gp_uF F 14 (fun j => if j < nt then F 8 j else F 14 j))) xs.heap.size) ([.ref (E.2.2.2 0)] : List Value).toArray xs 0 0 A) (F0 xm 2 ls []) := by
    intro n
    induction n with
    | zero =>
      intro t h1 hm
      exact absurd hm (by omega)
    | succ n ih2 =>
      intro t h1 hm ls H locs hl hP hD hS
      refine lv_iload_n hx hb d_G_adoptFoundPlan_2 rfl (lv_at hl 0 rfl) ?_
      refine lv_aload_n hx hb d_G_adoptFoundPlan_3 rfl (lv_at hl 1 rfl) ?_
      refine va_get (D := E.1) (cl := gp_cl) (ci := 0) (v := .ref (E.2.2.2 1)) (C := R_G) (T := T_G) (N := 8) hx hb hts i_G hown hK hP 0 rfl rfl 0 (by decide) (hts _ w1_117) (fun _ h9 => h9) rfl d_G_adoptFoundPlan_4 ?_
      refine va_get (D := E.1) (cl := gp_cl) (ci := 1) (v := .int (nI nt)) (C := R_D) (T := T_D) (N := 13) hx hb hts i_D hown hK hP 1 rfl rfl 10 (by decide) (hts _ w1_46) (fun _ h9 => h9) (congrArg (fun z => some (Value.int z)) hT) d_G_adoptFoundPlan_7 ?_
      refine lv_icmp_ge (tgt := 34) hx hb d_G_adoptFoundPlan_10 (by decide) (fun c10 => ?_) (fun c10 => ?_)
      · have c10 := c10
        have nc10 : nt ≤ t := (nI_leI (a := nt) (b := t) (by omega) (by omega)).mp c10
        have hte : nt = t := by omega
        subst hte
        refine lv_aload_n hx hb d_G_adoptFoundPlan_34 rfl (lv_at hl 1 rfl) ?_
        refine lv_iconst (v := 1) hx hb d_G_adoptFoundPlan_35 (by decide) ?_
        refine va_put (D := E.1) (cl := gp_cl) (ci := 0) (v := .int 1) (ty := .boolean) (C := R_G) (T := T_G) (N := 8) hx hb hts i_G t_G t_G_ok n_G hown hK hP hD hS 0 rfl rfl 7 (by decide) (hts _ w1_124) (fun _ h9 => h9) rfl (by decide +kernel) rfl rfl (Nat.le_of_ble_eq_true rfl) d_G_adoptFoundPlan_36 (fun H locs hP hD hS => ?_)
        have hP : va_P E.1 gp_cl (gp_wG E (upd I 3 1) (gp_uF F 14 (fun j => if j < nt then F 8 j else F 14 j))) H := hP
        have hD : va_D A (gp_wG E (upd I 3 1) (gp_uF F 14 (fun j => if j < nt then F 8 j else F 14 j))) := hD
        refine lv_aload_n hx hb d_G_adoptFoundPlan_39 rfl (lv_at hl 1 rfl) ?_
        refine lv_iconst (v := (-1)) hx hb d_G_adoptFoundPlan_40 (by decide) ?_
        refine va_put (D := E.1) (cl := gp_cl) (ci := 0) (v := .int (-1)) (ty := .int) (C := R_G) (T := T_G) (N := 8) hx hb hts i_G t_G t_G_ok n_G hown hK hP hD hS 0 rfl rfl 6 (by decide) (hts _ w1_123) (fun _ h9 => h9) rfl (by decide +kernel) rfl rfl (Nat.le_of_ble_eq_true rfl) d_G_adoptFoundPlan_41 (fun H locs hP hD hS => ?_)
        have hP : va_P E.1 gp_cl (gp_wG E (upd (upd I 3 1) 2 (-1)) (gp_uF F 14 (fun j => if j < nt then F 8 j else F 14 j))) H := hP
        have hD : va_D A (gp_wG E (upd (upd I 3 1) 2 (-1)) (gp_uF F 14 (fun j => if j < nt then F 8 j else F 14 j))) := hD
        exact gp_wv hx hb hr hlocks hAe rfl (hP) hS d_G_adoptFoundPlan_44
      · have c10 := c10
        have nc10 : ¬ nt ≤ t := fun h => c10 ((nI_leI (a := nt) (b := t) (by omega) (by omega)).mpr h)
        refine lv_aload_n hx hb d_G_adoptFoundPlan_13 rfl (lv_at hl 1 rfl) ?_
        refine va_get (D := E.1) (cl := gp_cl) (ci := 0) (v := .ref (E.2.2.2 17)) (C := R_G) (T := T_G) (N := 8) hx hb hts i_G hown hK hP 0 rfl rfl 2 (by decide) (hts _ w1_119) (fun _ h9 => h9) rfl d_G_adoptFoundPlan_14 ?_
        refine lv_iload_n hx hb d_G_adoptFoundPlan_17 rfl (lv_at hl 0 rfl) ?_
        refine lv_aload_n hx hb d_G_adoptFoundPlan_18 rfl (lv_at hl 1 rfl) ?_
        refine va_get (D := E.1) (cl := gp_cl) (ci := 0) (v := .ref (E.2.2.2 2)) (C := R_G) (T := T_G) (N := 8) hx hb hts i_G hown hK hP 0 rfl rfl 1 (by decide) (hts _ w1_118) (fun _ h9 => h9) rfl d_G_adoptFoundPlan_19 ?_
        refine va_get (D := E.1) (cl := gp_cl) (ci := 2) (v := .ref (E.2.2.2 11)) (C := R_S) (T := T_S) (N := 9) hx hb hts i_S hown hK hP 2 rfl rfl 0 (by decide) (hts _ w1_89) (fun _ h9 => h9) rfl d_G_adoptFoundPlan_22 ?_
        refine lv_iload_n hx hb d_G_adoptFoundPlan_25 rfl (lv_at hl 0 rfl) ?_
        refine gp_ald (f := (F 8)) (n := 6) hx hb hK hP 11 rfl (t) rfl (by omega) (by decide) d_G_adoptFoundPlan_26 ?_
        refine gp_ast (f := (fun j => if j < t then F 8 j else F 14 j)) (n := 6) hx hb hK hP hD hS 17 rfl (t) rfl (by omega) (by decide) d_G_adoptFoundPlan_27 (fun H locs hP hD hS => ?_)
        have hP : va_P E.1 gp_cl (gp_wG E I (gp_uF (gp_uF F 14 (fun j => if j < t then F 8 j else F 14 j)) 14 (upd (fun j => if j < t then F 8 j else F 14 j) (t) ((F 8) (t))))) H := hP
        have hD : va_D A (gp_wG E I (gp_uF (gp_uF F 14 (fun j => if j < t then F 8 j else F 14 j)) 14 (upd (fun j => if j < t then F 8 j else F 14 j) (t) ((F 8) (t))))) := hD
        refine lv_iinc (v := (nI (t + 1))) (lv' := [(1, .int (nI (t + 1))), (0, .ref (E.2.2.2 0))]) hx hb d_G_adoptFoundPlan_28 hl (k := 0) rfl (nI_1 _) (by decide) rfl (fun ls hl => ?_)
        refine lv_goto (tgt := 2) hx hb d_G_adoptFoundPlan_31 (by decide) ?_
        exact ih2 (t + 1) (by omega) (by omega) ls _ _ (lv_sub hl [0, 1] rfl) (by rw [← gp_up1 (h := F 8) (k := F 14) rfl]; exact hP) (gp_dd hD rfl) hS
  exact L2 (nt + 1) 0 (Nat.zero_le _) (by omega) ls _ _ (lv_sub hl [0, 1] rfl) (by rw [gp_cp0 (g := F 8)]; exact hP) (gp_dd hD rfl) hS
set_option maxHeartbeats 4000000 in
set_option maxRecDepth 100000 in
theorem c_G_noteChanges (l : Launch) (E : gp_E) (I : Nat → Int32) (F : Nat → Nat → Int32) (nt : Nat) (hT : I 6 = nI nt) (hnt : nt ≤ 6) : gp_CW l y_G_noteChanges b_G_noteChanges 2 none 1 E (gp_wG E I F) (gp_wG E (upd I 0 (nI (gp_nc F nt).1)) (gp_uF F 15 (gp_nc F nt).2)) [.ref (E.2.2.2 0)] none := by
  refine gp_ofW (by decide) (Nat.le_of_ble_eq_true rfl) ?_
  intro xp xe xs xm below meth xc ls A hx hb hr hts hown hlocks hml hP hK hD hA hAe hl
  have hS : va_S A xs.heap xs.heap [] := va_S.rf
  have hown : xs.vm.findClass "GuidePlans" = some xm.cls := hown
  have hl : lv_has ls 2 [(0, .ref (E.2.2.2 0))] := hl
  refine lv_aload_n hx hb d_G_noteChanges_0 rfl (lv_at hl 0 rfl) ?_
  refine lv_iconst (v := 0) hx hb d_G_noteChanges_1 (by decide) ?_
  refine va_put (D := E.1) (cl := gp_cl) (ci := 0) (v := .int 0) (ty := .int) (C := R_G) (T := T_G) (N := 8) hx hb hts i_G t_G t_G_ok n_G hown hK hP hD hS 0 rfl rfl 4 (by decide) (hts _ w1_121) (fun _ h9 => h9) rfl (by decide +kernel) rfl rfl (Nat.le_of_ble_eq_true rfl) d_G_noteChanges_2 (fun H locs hP hD hS => ?_)
  have hP : va_P E.1 gp_cl (gp_wG E (upd I 0 0) F) H := hP
  have hD : va_D A (gp_wG E (upd I 0 0) F) := hD
  refine lv_iconst (v := 0) hx hb d_G_noteChanges_5 (by decide) ?_
  refine lv_istore_n (lv' := [(1, .int 0), (0, .ref (E.2.2.2 0))]) hx hb d_G_noteChanges_6 rfl hl (by decide) rfl (fun ls hl => ?_)
  have L7 : ∀ (n : Nat) (t : Nat), t ≤ nt → nt + 1 ≤ t + n → ∀ (ls : Array Slot) (H : Heap) (locs : List Loc), lv_has ls 2 [(1, .int (nI t)), (0, .ref (E.2.2.2 0))] → va_P E.1 gp_cl (gp_wG E (upd I 0 (nI (gp_nc F t).1)) (gp_uF F 15 (gp_nc F t).2)) H → va_D A (gp_wG E (upd I 0 (nI (gp_nc F t).1)) (gp_uF F 15 (gp_nc F t).2)) → va_S A xs.heap H locs → W xp l xe (gp_rm 1 0 0) xs xm ([.ref (E.2.2.2 0)] : List Value).toArray below meth xc H locs 0 0 (MQ below (gp_QW E none (gp_wG E I F) (gp_wG E (upd I 0 (nI (gp_nc F nt).1)) (gp_uF F 15 (gp_nc F nt).2)) xs.heap.size) ([.ref (E.2.2.2 0)] : List Value).toArray xs 0 0 A) (F0 xm 7 ls []) := by
    intro n
    induction n with
    | zero =>
      intro t h1 hm
      exact absurd hm (by omega)
    | succ n ih7 =>
      intro t h1 hm ls H locs hl hP hD hS
      have hle := gp_nc_le (F := F) t
      refine lv_iload_n hx hb d_G_noteChanges_7 rfl (lv_at hl 0 rfl) ?_
      refine lv_aload_n hx hb d_G_noteChanges_8 rfl (lv_at hl 1 rfl) ?_
      refine va_get (D := E.1) (cl := gp_cl) (ci := 0) (v := .ref (E.2.2.2 1)) (C := R_G) (T := T_G) (N := 8) hx hb hts i_G hown hK hP 0 rfl rfl 0 (by decide) (hts _ w1_117) (fun _ h9 => h9) rfl d_G_noteChanges_9 ?_
      refine va_get (D := E.1) (cl := gp_cl) (ci := 1) (v := .int (nI nt)) (C := R_D) (T := T_D) (N := 13) hx hb hts i_D hown hK hP 1 rfl rfl 10 (by decide) (hts _ w1_46) (fun _ h9 => h9) (congrArg (fun z => some (Value.int z)) hT) d_G_noteChanges_12 ?_
      refine lv_icmp_ge (tgt := 62) hx hb d_G_noteChanges_15 (by decide) (fun c15 => ?_) (fun c15 => ?_)
      · have c15 := c15
        have nc15 : nt ≤ t := (nI_leI (a := nt) (b := t) (by omega) (by omega)).mp c15
        have hte : nt = t := by omega
        subst hte
        exact gp_wv hx hb hr hlocks hAe rfl (hP) hS d_G_noteChanges_62
      · have c15 := c15
        have nc15 : ¬ nt ≤ t := fun h => c15 ((nI_leI (a := nt) (b := t) (by omega) (by omega)).mpr h)
        refine lv_aload_n hx hb d_G_noteChanges_18 rfl (lv_at hl 1 rfl) ?_
        refine va_get (D := E.1) (cl := gp_cl) (ci := 0) (v := .ref (E.2.2.2 17)) (C := R_G) (T := T_G) (N := 8) hx hb hts i_G hown hK hP 0 rfl rfl 2 (by decide) (hts _ w1_119) (fun _ h9 => h9) rfl d_G_noteChanges_19 ?_
        refine lv_iload_n hx hb d_G_noteChanges_22 rfl (lv_at hl 0 rfl) ?_
        refine gp_ald (f := (F 14)) (n := 6) hx hb hK hP 17 rfl (t) rfl (by omega) (by decide) d_G_noteChanges_23 ?_
        refine lv_aload_n hx hb d_G_noteChanges_24 rfl (lv_at hl 1 rfl) ?_
        refine va_get (D := E.1) (cl := gp_cl) (ci := 0) (v := .ref (E.2.2.2 2)) (C := R_G) (T := T_G) (N := 8) hx hb hts i_G hown hK hP 0 rfl rfl 1 (by decide) (hts _ w1_118) (fun _ h9 => h9) rfl d_G_noteChanges_25 ?_
        refine va_get (D := E.1) (cl := gp_cl) (ci := 2) (v := .ref (E.2.2.2 11)) (C := R_S) (T := T_S) (N := 9) hx hb hts i_S hown hK hP 2 rfl rfl 0 (by decide) (hts _ w1_89) (fun _ h9 => h9) rfl d_G_noteChanges_28 ?_
        refine lv_iload_n hx hb d_G_noteChanges_31 rfl (lv_at hl 0 rfl) ?_
        refine gp_ald (f := (F 8)) (n := 6) hx hb hK hP 11 rfl (t) rfl (by omega) (by decide) d_G_noteChanges_32 ?_
        refine lv_icmp_eq (tgt := 56) hx hb d_G_noteChanges_33 (by decide) (fun c33 => ?_) (fun c33 => ?_)
        · have c33 := c33
          refine lv_iinc (v := (nI (t + 1))) (lv' := [(1, .int (nI (t + 1))), (0, .ref (E.2.2.2 0))]) hx hb d_G_noteChanges_56 hl (k := 0) rfl (nI_1 _) (by decide) rfl (fun ls hl => ?_)
          refine lv_goto (tgt := 7) hx hb d_G_noteChanges_59 (by decide) ?_
          exact ih7 (t + 1) (by omega) (by omega) ls _ _ (lv_sub hl [0, 1] rfl) (by first | (rw [show gp_nc F (t + 1) = gp_nc F t from by rw [gp_nc]; exact if_pos c33]; exact hP) | (rw [show gp_nc F (t + 1) = ((gp_nc F t).1 + 1, upd (gp_nc F t).2 (gp_nc F t).1 (nI t)) from by rw [gp_nc]; exact if_neg c33]; exact hP)) (gp_dd hD rfl) hS
        · have c33 := c33
          refine lv_aload_n hx hb d_G_noteChanges_36 rfl (lv_at hl 1 rfl) ?_
          refine va_get (D := E.1) (cl := gp_cl) (ci := 0) (v := .ref (E.2.2.2 18)) (C := R_G) (T := T_G) (N := 8) hx hb hts i_G hown hK hP 0 rfl rfl 3 (by decide) (hts _ w1_120) (fun _ h9 => h9) rfl d_G_noteChanges_37 ?_
          refine lv_aload_n hx hb d_G_noteChanges_40 rfl (lv_at hl 1 rfl) ?_
          refine va_get (D := E.1) (cl := gp_cl) (ci := 0) (v := .int (nI (gp_nc F t).1)) (C := R_G) (T := T_G) (N := 8) hx hb hts i_G hown hK hP 0 rfl rfl 4 (by decide) (hts _ w1_121) (fun _ h9 => h9) rfl d_G_noteChanges_41 ?_
          refine lv_iload_n hx hb d_G_noteChanges_44 rfl (lv_at hl 0 rfl) ?_
          refine gp_ast (f := (gp_nc F t).2) (n := 6) hx hb hK hP hD hS 18 rfl ((gp_nc F t).1) rfl (by omega) (by decide) d_G_noteChanges_45 (fun H locs hP hD hS => ?_)
          have hP : va_P E.1 gp_cl (gp_wG E (upd I 0 (nI (gp_nc F t).1)) (gp_uF (gp_uF F 15 (gp_nc F t).2) 15 (upd (gp_nc F t).2 ((gp_nc F t).1) (nI t)))) H := hP
          have hD : va_D A (gp_wG E (upd I 0 (nI (gp_nc F t).1)) (gp_uF (gp_uF F 15 (gp_nc F t).2) 15 (upd (gp_nc F t).2 ((gp_nc F t).1) (nI t)))) := hD
          refine lv_aload_n hx hb d_G_noteChanges_46 rfl (lv_at hl 1 rfl) ?_
          refine lv_dup hx hb d_G_noteChanges_47 rfl ?_
          refine va_get (D := E.1) (cl := gp_cl) (ci := 0) (v := .int (nI (gp_nc F t).1)) (C := R_G) (T := T_G) (N := 8) hx hb hts i_G hown hK hP 0 rfl rfl 4 (by decide) (hts _ w1_121) (fun _ h9 => h9) rfl d_G_noteChanges_48 ?_
          refine lv_iconst (v := 1) hx hb d_G_noteChanges_51 (by decide) ?_
          refine lv_iadd hx hb d_G_noteChanges_52 ?_
          rw [show ((nI (gp_nc F t).1) + 1) = (nI ((gp_nc F t).1 + 1)) from nI_1 _]
          refine va_put (D := E.1) (cl := gp_cl) (ci := 0) (v := .int (nI ((gp_nc F t).1 + 1))) (ty := .int) (C := R_G) (T := T_G) (N := 8) hx hb hts i_G t_G t_G_ok n_G hown hK hP hD hS 0 rfl rfl 4 (by decide) (hts _ w1_121) (fun _ h9 => h9) rfl (by decide +kernel) rfl rfl (Nat.le_of_ble_eq_true rfl) d_G_noteChanges_53 (fun H locs hP hD hS => ?_)
          have hP : va_P E.1 gp_cl (gp_wG E (upd (upd I 0 (nI (gp_nc F t).1)) 0 (nI ((gp_nc F t).1 + 1))) (gp_uF (gp_uF F 15 (gp_nc F t).2) 15 (upd (gp_nc F t).2 ((gp_nc F t).1) (nI t)))) H := hP
          have hD : va_D A (gp_wG E (upd (upd I 0 (nI (gp_nc F t).1)) 0 (nI ((gp_nc F t).1 + 1))) (gp_uF (gp_uF F 15 (gp_nc F t).2) 15 (upd (gp_nc F t).2 ((gp_nc F t).1) (nI t)))) := hD
          refine lv_iinc (v := (nI (t + 1))) (lv' := [(1, .int (nI (t + 1))), (0, .ref (E.2.2.2 0))]) hx hb d_G_noteChanges_56 hl (k := 0) rfl (nI_1 _) (by decide) rfl (fun ls hl => ?_)
          refine lv_goto (tgt := 7) hx hb d_G_noteChanges_59 (by decide) ?_
          exact ih7 (t + 1) (by omega) (by omega) ls _ _ (lv_sub hl [0, 1] rfl) (by first | (rw [show gp_nc F (t + 1) = gp_nc F t from by rw [gp_nc]; exact if_pos c33]; exact hP) | (rw [show gp_nc F (t + 1) = ((gp_nc F t).1 + 1, upd (gp_nc F t).2 (gp_nc F t).1 (nI t)) from by rw [gp_nc]; exact if_neg c33]; exact hP)) (gp_dd hD rfl) hS
  exact L7 (nt + 1) 0 (Nat.zero_le _) (by omega) ls _ _ (lv_sub hl [0, 1] rfl) (by rw [show (gp_nc F 0).2 = F 15 from rfl, gp_uF_self]; exact hP) (gp_dd hD rfl) hS
