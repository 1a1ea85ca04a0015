theorem gm_m1 (x : Int32) : x + Int32.ofInt (-1) = x - 1 := by rw [Int32.sub_eq_add_neg]; rfl
def gm_tl (F : Nat → Nat → Int32) (fil : Int32) : Nat → Int32 → Int32
  | 0, v => v
  | k + 1, v => if nI k < fil then v else gm_tl F fil k (if F 7 k = 0 then v else F 5 k)
def gm_kn (np nt : Nat) (c : Int32) (σ : gp_S) : gp_S := (upd (upd (upd σ.1 10 1) 11 c) 12 (gm_c (σ.2 9) nt np), gp_uF σ.2 10 (fun j => if j < nt then σ.2 9 j else σ.2 10 j))
def gm_te (nt : Nat) (σ : gp_S) : gp_S := (upd σ.1 8 (if σ.1 10 = 0 then gm_tl σ.2 (σ.1 13) nt (-1) else -1), σ.2)
def gm_tp (nt : Nat) (σ : gp_S) : gp_S := (σ.1, gp_uF σ.2 9 (fun j => if j < nt then σ.2 8 j else σ.2 9 j))
def gm_unf (F : Nat → Nat → Int32) (ns : Nat) (x : Int32) (t : Nat) : Bool := !decide (x = -1) && !gm_su F x.toNatClampNeg t ns
def gm_emp (F : Nat → Nat → Int32) (t : Nat) (x : Int32) : Bool := !decide (F 7 t = 0) && decide (x = -1)
set_option maxHeartbeats 4000000 in
set_option maxRecDepth 100000 in
theorem c_M_keep (l : Launch) (E : gp_E) (I : Nat → Int32) (F : Nat → Nat → Int32) (np nt : Nat) (c : Int32) (hp4 : I 1 = nI np) (hnp : np ≤ 4) (hT : I 3 = nI nt) (hnt : nt ≤ 6) : gp_CW l y_M_keep b_M_keep 3 none 2 E (gp_wM E I F) (gp_wM E (gm_kn np nt c (I, F)).1 (gm_kn np nt c (I, F)).2) [.ref (E.2.2.2 0), .int c] none := by
  refine gp_ofW (by decide) (Nat.le_of_ble_eq_true rfl) ?_
  intro xp xe xs xm below meth xc ls A hx hb hr hts hown hlocks hml hP hK hD hA hAe hl
  have hS : va_S A xs.heap xs.heap [] := va_S.rf
  have hown : xs.vm.findClass "GuidePlansModel" = some xm.cls := hown
  have hl : lv_has ls 3 [(0, .ref (E.2.2.2 0)), (1, .int c)] := hl
  refine lv_aload_n hx hb d_M_keep_0 rfl (lv_at hl 0 rfl) ?_
  refine lv_iconst (v := 1) hx hb d_M_keep_1 (by decide) ?_
  refine va_put (D := E.1) (cl := gp_cl) (ci := 3) (v := .int 1) (ty := .boolean) (C := R_M) (T := T_M) (N := 27) hx hb hts i_M t_M t_M_ok n_M hown hK hP hD hS 0 rfl rfl 23 (by decide) (hts _ w3_75) (fun _ h9 => h9) rfl (by decide +kernel) rfl rfl (Nat.le_of_ble_eq_true rfl) d_M_keep_2 (fun H locs hP hD hS => ?_)
  have hP : va_P E.1 gp_cl (gp_wM E (upd I 10 1) F) H := hP
  have hD : va_D A (gp_wM E (upd I 10 1) F) := hD
  refine lv_aload_n hx hb d_M_keep_5 rfl (lv_at hl 0 rfl) ?_
  refine lv_iload_n hx hb d_M_keep_6 rfl (lv_at hl 1 rfl) ?_
  refine va_put (D := E.1) (cl := gp_cl) (ci := 3) (v := .int c) (ty := .int) (C := R_M) (T := T_M) (N := 27) hx hb hts i_M t_M t_M_ok n_M hown hK hP hD hS 0 rfl rfl 24 (by decide) (hts _ w3_76) (fun _ h9 => h9) rfl (by decide +kernel) rfl rfl (Nat.le_of_ble_eq_true rfl) d_M_keep_7 (fun H locs hP hD hS => ?_)
  have hP : va_P E.1 gp_cl (gp_wM E (upd (upd I 10 1) 11 c) F) H := hP
  have hD : va_D A (gp_wM E (upd (upd I 10 1) 11 c) F) := hD
  refine lv_aload_n hx hb d_M_keep_10 rfl (lv_at hl 0 rfl) ?_
  refine lv_aload_n hx hb d_M_keep_11 rfl (lv_at hl 0 rfl) ?_
  refine gp_cR (q0 := 0) (ci := 3) (As := []) (rest := [.ref (E.2.2.2 0)]) ⟨hx, hb, hml, hown, hts⟩ (c_M_costOf l E (upd (upd I 10 1) 11 c) F np nt hp4 hnp hT hnt) (k_M_129 hts ⟨by decide, by decide⟩ rfl rfl) hK hP rfl rfl rfl hl.1 rfl (Nat.le_of_ble_eq_true rfl) d_M_keep_12 ⟨Nat.le_of_ble_eq_true rfl, Nat.le_of_ble_eq_true rfl⟩ ?_
  refine va_put (D := E.1) (cl := gp_cl) (ci := 3) (v := .int (gm_c (F 9) nt np)) (ty := .int) (C := R_M) (T := T_M) (N := 27) hx hb hts i_M t_M t_M_ok n_M hown hK hP hD hS 0 rfl rfl 25 (by decide) (hts _ w3_77) (fun _ h9 => h9) rfl (by decide +kernel) rfl rfl (Nat.le_of_ble_eq_true rfl) d_M_keep_15 (fun H locs hP hD hS => ?_)
  have hP : va_P E.1 gp_cl (gp_wM E (upd (upd (upd I 10 1) 11 c) 12 (gm_c (F 9) nt np)) F) H := hP
  have hD : va_D A (gp_wM E (upd (upd (upd I 10 1) 11 c) 12 (gm_c (F 9) nt np)) F) := hD
  refine lv_iconst (v := 0) hx hb d_M_keep_18 (by decide) ?_
  refine lv_istore_n (lv' := [(2, .int 0), (0, .ref (E.2.2.2 0)), (1, .int c)]) hx hb d_M_keep_19 rfl hl (by decide) rfl (fun ls hl => ?_)
  have L20 : ∀ (n : Nat) (t : Nat), t ≤ nt → nt + 1 ≤ t + n → ∀ (ls : Array Slot) (H : Heap) (locs : List Loc), lv_has ls 3 [(2, .int (nI t)), (0, .ref (E.2.2.2 0)), (1, .int c)] → va_P E.1 gp_cl (gp_wM E (upd (upd (upd I 10 1) 11 c) 12 (gm_c (F 9) nt np)) (gp_uF F 10 (fun j => if j < t then F 9 j else F 10 j))) H → va_D A (gp_wM E (upd (upd (upd I 10 1) 11 c) 12 (gm_c (F 9) nt np)) (gp_uF F 10 (fun j => if j < t then F 9 j else F 10 j))) → va_S A xs.heap H locs → W xp l xe (gp_rm 2 0 0) xs xm ([.ref (E.2.2.2 0), .int c] : List Value).toArray below meth xc H locs 0 0 (MQ below (gp_QW E none (gp_wM E I F) (gp_wM E (gm_kn np nt c (I, F)).1 (gm_kn np nt c (I, F)).2) xs.heap.size) ([.ref (E.2.2.2 0), .int c] : List Value).toArray xs 0 0 A) (F0 xm 20 ls []) := by
    intro n
    induction n with
    | zero =>
      intro t h1 hm
      exact absurd hm (by omega)
    | succ n ih20 =>
      intro t h1 hm ls H locs hl hP hD hS
      refine lv_iload_n hx hb d_M_keep_20 rfl (lv_at hl 0 rfl) ?_
      refine lv_aload_n hx hb d_M_keep_21 rfl (lv_at hl 1 rfl) ?_
      refine va_get (D := E.1) (cl := gp_cl) (ci := 3) (v := .int (nI nt)) (C := R_M) (T := T_M) (N := 27) hx hb hts i_M hown hK hP 0 rfl rfl 7 (by decide) (hts _ w3_59) (fun _ h9 => h9) (congrArg (fun z => some (Value.int z)) hT) d_M_keep_22 ?_
      refine lv_icmp_ge (tgt := 46) hx hb d_M_keep_25 (by decide) (fun c25 => ?_) (fun c25 => ?_)
      · have c25 := c25
        have nc25 : nt ≤ t := (nI_leI (a := nt) (b := t) (by omega) (by omega)).mp c25
        have hte : nt = t := by omega
        subst hte
        exact gp_wv hx hb hr hlocks hAe rfl (hP) hS d_M_keep_46
      · have c25 := c25
        have nc25 : ¬ nt ≤ t := fun h => c25 ((nI_leI (a := nt) (b := t) (by omega) (by omega)).mpr h)
        refine lv_aload_n hx hb d_M_keep_28 rfl (lv_at hl 1 rfl) ?_
        refine va_get (D := E.1) (cl := gp_cl) (ci := 3) (v := .ref (E.2.2.2 11)) (C := R_M) (T := T_M) (N := 27) hx hb hts i_M hown hK hP 0 rfl rfl 14 (by decide) (hts _ w3_66) (fun _ h9 => h9) rfl d_M_keep_29 ?_
        refine lv_iload_n hx hb d_M_keep_32 rfl (lv_at hl 0 rfl) ?_
        refine lv_aload_n hx hb d_M_keep_33 rfl (lv_at hl 1 rfl) ?_
        refine va_get (D := E.1) (cl := gp_cl) (ci := 3) (v := .ref (E.2.2.2 10)) (C := R_M) (T := T_M) (N := 27) hx hb hts i_M hown hK hP 0 rfl rfl 13 (by decide) (hts _ w3_65) (fun _ h9 => h9) rfl d_M_keep_34 ?_
        refine lv_iload_n hx hb d_M_keep_37 rfl (lv_at hl 0 rfl) ?_
        refine gp_ald (f := (F 9)) (n := 6) hx hb hK hP 10 rfl (t) rfl (by omega) (by decide) d_M_keep_38 ?_
        refine gp_ast (f := (fun j => if j < t then F 9 j else F 10 j)) (n := 6) hx hb hK hP hD hS 11 rfl (t) rfl (by omega) (by decide) d_M_keep_39 (fun H locs hP hD hS => ?_)
        have hP : va_P E.1 gp_cl (gp_wM E (upd (upd (upd I 10 1) 11 c) 12 (gm_c (F 9) nt np)) (gp_uF (gp_uF F 10 (fun j => if j < t then F 9 j else F 10 j)) 10 (upd (fun j => if j < t then F 9 j else F 10 j) (t) ((F 9) (t))))) H := hP
        have hD : va_D A (gp_wM E (upd (upd (upd I 10 1) 11 c) 12 (gm_c (F 9) nt np)) (gp_uF (gp_uF F 10 (fun j => if j < t then F 9 j else F 10 j)) 10 (upd (fun j => if j < t then F 9 j else F 10 j) (t) ((F 9) (t))))) := hD
        refine lv_iinc (v := (nI (t + 1))) (lv' := [(2, .int (nI (t + 1))), (0, .ref (E.2.2.2 0)), (1, .int c)]) hx hb d_M_keep_40 hl (k := 0) rfl (nI_1 _) (by decide) rfl (fun ls hl => ?_)
        refine lv_goto (tgt := 20) hx hb d_M_keep_43 (by decide) ?_
        exact ih20 (t + 1) (by omega) (by omega) ls _ _ (lv_sub hl [0, 1, 2] rfl) (by rw [← gp_up1 (h := F 9) (k := F 10) rfl]; exact hP) (gp_dd hD rfl) hS
  exact L20 (nt + 1) 0 (Nat.zero_le _) (by omega) ls _ _ (lv_sub hl [0, 1, 2] rfl) (by rw [gp_cp0 (g := F 9)]; exact hP) (gp_dd hD rfl) hS
set_option maxHeartbeats 4000000 in
set_option maxRecDepth 100000 in
theorem c_M_tell (l : Launch) (E : gp_E) (I : Nat → Int32) (F : Nat → Nat → Int32) (nt : Nat) (hT : I 3 = nI nt) (hnt : nt ≤ 6) : gp_CW l y_M_tell b_M_tell 2 none 1 E (gp_wM E I F) (gp_wM E (gm_te nt (I, F)).1 (gm_te nt (I, F)).2) [.ref (E.2.2.2 0)] none := by
  refine gp_ofW (by decide) (Nat.le_of_ble_eq_true rfl) ?_
  intro xp xe xs xm below meth xc ls A hx hb hr hts hown hlocks hml hP hK hD hA hAe hl
  have hS : va_S A xs.heap xs.heap [] := va_S.rf
  have hown : xs.vm.findClass "GuidePlansModel" = some xm.cls := hown
  have hl : lv_has ls 2 [(0, .ref (E.2.2.2 0))] := hl
  refine lv_aload_n hx hb d_M_tell_0 rfl (lv_at hl 0 rfl) ?_
  refine lv_iconst (v := (-1)) hx hb d_M_tell_1 (by decide) ?_
  refine va_put (D := E.1) (cl := gp_cl) (ci := 3) (v := .int (-1)) (ty := .int) (C := R_M) (T := T_M) (N := 27) hx hb hts i_M t_M t_M_ok n_M hown hK hP hD hS 0 rfl rfl 20 (by decide) (hts _ w3_72) (fun _ h9 => h9) rfl (by decide +kernel) rfl rfl (Nat.le_of_ble_eq_true rfl) d_M_tell_2 (fun H locs hP hD hS => ?_)
  have hP : va_P E.1 gp_cl (gp_wM E (upd I 8 (-1)) F) H := hP
  have hD : va_D A (gp_wM E (upd I 8 (-1)) F) := hD
  refine lv_aload_n hx hb d_M_tell_5 rfl (lv_at hl 0 rfl) ?_
  refine va_get (D := E.1) (cl := gp_cl) (ci := 3) (v := .int (I 10)) (C := R_M) (T := T_M) (N := 27) hx hb hts i_M hown hK hP 0 rfl rfl 23 (by decide) (hts _ w3_75) (fun _ h9 => h9) rfl d_M_tell_6 ?_
  refine lv_if_eq (tgt := 13) hx hb d_M_tell_9 (by decide) (fun c9 => ?_) (fun c9 => ?_)
  · have c9 := c9
    refine lv_aload_n hx hb d_M_tell_13 rfl (lv_at hl 0 rfl) ?_
    refine va_get (D := E.1) (cl := gp_cl) (ci := 3) (v := .int (nI nt)) (C := R_M) (T := T_M) (N := 27) hx hb hts i_M hown hK hP 0 rfl rfl 7 (by decide) (hts _ w3_59) (fun _ h9 => h9) (congrArg (fun z => some (Value.int z)) hT) d_M_tell_14 ?_
    refine lv_iconst (v := 1) hx hb d_M_tell_17 (by decide) ?_
    refine lv_isub hx hb d_M_tell_18 ?_
    refine lv_istore_n (lv' := [(1, .int ((nI nt) - 1)), (0, .ref (E.2.2.2 0))]) hx hb d_M_tell_19 rfl hl (by decide) rfl (fun ls hl => ?_)
    have L20 : ∀ (n : Nat) (j : Nat) (v : Int32), j ≤ nt → gm_tl F (I 13) j v = gm_tl F (I 13) nt (-1) → j + 1 ≤ n → ∀ (ls : Array Slot) (H : Heap) (locs : List Loc), lv_has ls 2 [(1, .int (nI j - 1)), (0, .ref (E.2.2.2 0))] → va_P E.1 gp_cl (gp_wM E (upd I 8 v) F) H → va_D A (gp_wM E (upd I 8 v) F) → va_S A xs.heap H locs → W xp l xe (gp_rm 1 0 0) xs xm ([.ref (E.2.2.2 0)] : List Value).toArray below meth xc H locs 0 0 (MQ below (gp_QW E none (gp_wM E I F) (gp_wM E (gm_te nt (I, F)).1 (gm_te nt (I, F)).2) xs.heap.size) ([.ref (E.2.2.2 0)] : List Value).toArray xs 0 0 A) (F0 xm 20 ls []) := by
      intro n
      induction n with
      | zero =>
        intro j v h1 h2 hm
        exact absurd hm (by omega)
      | succ n ih20 =>
        intro j v h1 h2 hm ls H locs hl hP hD hS
        by_cases hj20 : j = 0
        · subst hj20
          rw [show ((nI 0 - 1) : Int32) = (-1) from rfl] at hl
          refine lv_iload_n hx hb d_M_tell_20 rfl (lv_at hl 0 rfl) ?_
          refine lv_if_lt (tgt := 64) hx hb d_M_tell_21 (by decide) (fun c21 => ?_) (fun c21 => ?_)
          · have c21 := c21
            have mc21 : ¬ (0 : Int32) ≤ (-1) := Int32.not_le.mpr c21
            exact gp_wv hx hb hr hlocks hAe rfl (by rw [show gm_te nt (I, F) = (upd I 8 v, F) from by rw [gm_te, if_pos c9, ← h2]; first | rfl | (rw [gm_tl, if_pos c29])]; exact hP) hS d_M_tell_64
          · exact absurd c21 (by decide)
        · obtain ⟨k, rfl⟩ : ∃ z, j = z + 1 := ⟨j - 1, by omega⟩
          rw [nI_pred] at hl
          refine lv_iload_n hx hb d_M_tell_20 rfl (lv_at hl 0 rfl) ?_
          refine lv_if_lt (tgt := 64) hx hb d_M_tell_21 (by decide) (fun c21 => ?_) (fun c21 => ?_)
          · have c21 := c21
            have nc21 : k < 0 := (nI_ltI (a := k) (b := 0) (by omega) (by omega)).mp c21
            exact False.elim (by omega)
          · have c21 := c21
            have nc21 : ¬ k < 0 := fun h => c21 ((nI_ltI (a := k) (b := 0) (by omega) (by omega)).mpr h)
            refine lv_iload_n hx hb d_M_tell_24 rfl (lv_at hl 0 rfl) ?_
            refine lv_aload_n hx hb d_M_tell_25 rfl (lv_at hl 1 rfl) ?_
            refine va_get (D := E.1) (cl := gp_cl) (ci := 3) (v := .int (I 13)) (C := R_M) (T := T_M) (N := 27) hx hb hts i_M hown hK hP 0 rfl rfl 26 (by decide) (hts _ w3_78) (fun _ h9 => h9) rfl d_M_tell_26 ?_
            refine lv_icmp_lt (tgt := 64) hx hb d_M_tell_29 (by decide) (fun c29 => ?_) (fun c29 => ?_)
            · have c29 := c29
              have mc29 : ¬ ((I 13) : Int32) ≤ (nI k) := Int32.not_le.mpr c29
              exact gp_wv hx hb hr hlocks hAe rfl (by rw [show gm_te nt (I, F) = (upd I 8 v, F) from by rw [gm_te, if_pos c9, ← h2]; first | rfl | (rw [gm_tl, if_pos c29])]; exact hP) hS d_M_tell_64
            · have c29 := c29
              have mc29 : ((I 13) : Int32) ≤ (nI k) := Int32.not_lt.mp c29
              refine lv_aload_n hx hb d_M_tell_32 rfl (lv_at hl 1 rfl) ?_
              refine lv_aload_n hx hb d_M_tell_33 rfl (lv_at hl 1 rfl) ?_
              refine va_get (D := E.1) (cl := gp_cl) (ci := 3) (v := .ref (E.2.2.2 8)) (C := R_M) (T := T_M) (N := 27) hx hb hts i_M hown hK hP 0 rfl rfl 11 (by decide) (hts _ w3_63) (fun _ h9 => h9) rfl d_M_tell_34 ?_
              refine lv_iload_n hx hb d_M_tell_37 rfl (lv_at hl 0 rfl) ?_
              refine gp_zld (f := (F 7)) (n := 6) hx hb hK hP 8 rfl (k) rfl (by omega) (by decide) d_M_tell_38 ?_
              refine lv_if_eq (tgt := 51) hx hb d_M_tell_39 (by decide) (fun c39 => ?_) (fun c39 => ?_)
              · have c39 := c39
                refine lv_aload_n hx hb d_M_tell_51 rfl (lv_at hl 1 rfl) ?_
                refine va_get (D := E.1) (cl := gp_cl) (ci := 3) (v := .int v) (C := R_M) (T := T_M) (N := 27) hx hb hts i_M hown hK hP 0 rfl rfl 20 (by decide) (hts _ w3_72) (fun _ h9 => h9) rfl d_M_tell_52 ?_
                refine va_put (D := E.1) (cl := gp_cl) (ci := 3) (v := .int v) (ty := .int) (C := R_M) (T := T_M) (N := 27) hx hb hts i_M t_M t_M_ok n_M hown hK hP hD hS 0 rfl rfl 20 (by decide) (hts _ w3_72) (fun _ h9 => h9) rfl (by decide +kernel) rfl rfl (Nat.le_of_ble_eq_true rfl) d_M_tell_55 (fun H locs hP hD hS => ?_)
                have hP : va_P E.1 gp_cl (gp_wM E (upd (upd I 8 v) 8 v) F) H := hP
                have hD : va_D A (gp_wM E (upd (upd I 8 v) 8 v) F) := hD
                refine lv_iinc (v := ((nI k) - 1)) (lv' := [(1, .int ((nI k) - 1)), (0, .ref (E.2.2.2 0))]) hx hb d_M_tell_58 hl (k := 0) rfl (gm_m1 _) (by decide) rfl (fun ls hl => ?_)
                refine lv_goto (tgt := 20) hx hb d_M_tell_61 (by decide) ?_
                exact ih20 k _ (by omega) (by rw [← h2, gm_tl, if_neg c29]; first | rw [if_pos c39] | rw [if_neg c39]) (by omega) ls _ _ (lv_sub hl [0, 1] rfl) (hP) (gp_dd hD rfl) hS
              · have c39 := c39
                refine lv_aload_n hx hb d_M_tell_42 rfl (lv_at hl 1 rfl) ?_
                refine va_get (D := E.1) (cl := gp_cl) (ci := 3) (v := .ref (E.2.2.2 6)) (C := R_M) (T := T_M) (N := 27) hx hb hts i_M hown hK hP 0 rfl rfl 9 (by decide) (hts _ w3_61) (fun _ h9 => h9) rfl d_M_tell_43 ?_
                refine lv_iload_n hx hb d_M_tell_46 rfl (lv_at hl 0 rfl) ?_
                refine gp_ald (f := (F 5)) (n := 6) hx hb hK hP 6 rfl (k) rfl (by omega) (by decide) d_M_tell_47 ?_
                refine lv_goto (tgt := 55) hx hb d_M_tell_48 (by decide) ?_
                refine va_put (D := E.1) (cl := gp_cl) (ci := 3) (v := .int ((F 5) (k))) (ty := .int) (C := R_M) (T := T_M) (N := 27) hx hb hts i_M t_M t_M_ok n_M hown hK hP hD hS 0 rfl rfl 20 (by decide) (hts _ w3_72) (fun _ h9 => h9) rfl (by decide +kernel) rfl rfl (Nat.le_of_ble_eq_true rfl) d_M_tell_55 (fun H locs hP hD hS => ?_)
                have hP : va_P E.1 gp_cl (gp_wM E (upd (upd I 8 v) 8 ((F 5) (k))) F) H := hP
                have hD : va_D A (gp_wM E (upd (upd I 8 v) 8 ((F 5) (k))) F) := hD
                refine lv_iinc (v := ((nI k) - 1)) (lv' := [(1, .int ((nI k) - 1)), (0, .ref (E.2.2.2 0))]) hx hb d_M_tell_58 hl (k := 0) rfl (gm_m1 _) (by decide) rfl (fun ls hl => ?_)
                refine lv_goto (tgt := 20) hx hb d_M_tell_61 (by decide) ?_
                exact ih20 k _ (by omega) (by rw [← h2, gm_tl, if_neg c29]; first | rw [if_pos c39] | rw [if_neg c39]) (by omega) ls _ _ (lv_sub hl [0, 1] rfl) (hP) (gp_dd hD rfl) hS
    exact L20 (nt + 1) nt (-1) (Nat.le_refl _) rfl (by omega) ls _ _ (lv_sub hl [0, 1] rfl) (hP) (hD) hS
  · have c9 := c9
    exact gp_wv hx hb hr hlocks hAe rfl (by rw [show gm_te nt (I, F) = (upd I 8 (-1), F) from by rw [gm_te, if_neg c9]]; exact hP) hS d_M_tell_12
set_option maxHeartbeats 4000000 in
set_option maxRecDepth 100000 in
theorem c_M_tryPlan (l : Launch) (E : gp_E) (I : Nat → Int32) (F : Nat → Nat → Int32) (nt : Nat) (hT : I 3 = nI nt) (hnt : nt ≤ 6) : gp_CW l y_M_tryPlan b_M_tryPlan 2 none 1 E (gp_wM E I F) (gp_wM E (gm_tp nt (I, F)).1 (gm_tp nt (I, F)).2) [.ref (E.2.2.2 0)] none := by
  refine gp_ofW (by decide) (Nat.le_of_ble_eq_true rfl) ?_
  intro xp xe xs xm below meth xc ls A hx hb hr hts hown hlocks hml hP hK hD hA hAe hl
  have hS : va_S A xs.heap xs.heap [] := va_S.rf
  have hown : xs.vm.findClass "GuidePlansModel" = some xm.cls := hown
  have hl : lv_has ls 2 [(0, .ref (E.2.2.2 0))] := hl
  refine lv_iconst (v := 0) hx hb d_M_tryPlan_0 (by decide) ?_
  refine lv_istore_n (lv' := [(1, .int 0), (0, .ref (E.2.2.2 0))]) hx hb d_M_tryPlan_1 rfl hl (by decide) rfl (fun ls hl => ?_)
  have L2 : ∀ (n : Nat) (t : Nat), t ≤ nt → nt + 1 ≤ t + n → ∀ (ls : Array Slot) (H : Heap) (locs : List Loc), lv_has ls 2 [(1, .int (nI t)), (0, .ref (E.2.2.2 0))] → va_P E.1 gp_cl (gp_wM E I (gp_uF F 9 (fun j => if j < t then F 8 j else F 9 j))) H → va_D A (gp_wM E I (gp_uF F 9 (fun j => if j < t then F 8 j else F 9 j))) → va_S A xs.heap H locs → W xp l xe (gp_rm 1 0 0) xs xm ([.ref (E.2.2.2 0)] : List Value).toArray below meth xc H locs 0 0 (MQ below (gp_QW E none (gp_wM E I F) (gp_wM E (gm_tp nt (I, F)).1 (gm_tp nt (I, F)).2) xs.heap.size) ([.ref (E.2.2.2 0)] : List Value).toArray xs 0 0 A) (F0 xm 2 ls []) := by
    intro n
    induction n with
    | zero =>
      intro t h1 hm
      exact absurd hm (by omega)
    | succ n ih2 =>
      intro t h1 hm ls H locs hl hP hD hS
      refine lv_iload_n hx hb d_M_tryPlan_2 rfl (lv_at hl 0 rfl) ?_
      refine lv_aload_n hx hb d_M_tryPlan_3 rfl (lv_at hl 1 rfl) ?_
      refine va_get (D := E.1) (cl := gp_cl) (ci := 3) (v := .int (nI nt)) (C := R_M) (T := T_M) (N := 27) hx hb hts i_M hown hK hP 0 rfl rfl 7 (by decide) (hts _ w3_59) (fun _ h9 => h9) (congrArg (fun z => some (Value.int z)) hT) d_M_tryPlan_4 ?_
      refine lv_icmp_ge (tgt := 28) hx hb d_M_tryPlan_7 (by decide) (fun c7 => ?_) (fun c7 => ?_)
      · have c7 := c7
        have nc7 : nt ≤ t := (nI_leI (a := nt) (b := t) (by omega) (by omega)).mp c7
        have hte : nt = t := by omega
        subst hte
        exact gp_wv hx hb hr hlocks hAe rfl (hP) hS d_M_tryPlan_28
      · have c7 := c7
        have nc7 : ¬ nt ≤ t := fun h => c7 ((nI_leI (a := nt) (b := t) (by omega) (by omega)).mpr h)
        refine lv_aload_n hx hb d_M_tryPlan_10 rfl (lv_at hl 1 rfl) ?_
        refine va_get (D := E.1) (cl := gp_cl) (ci := 3) (v := .ref (E.2.2.2 10)) (C := R_M) (T := T_M) (N := 27) hx hb hts i_M hown hK hP 0 rfl rfl 13 (by decide) (hts _ w3_65) (fun _ h9 => h9) rfl d_M_tryPlan_11 ?_
        refine lv_iload_n hx hb d_M_tryPlan_14 rfl (lv_at hl 0 rfl) ?_
        refine lv_aload_n hx hb d_M_tryPlan_15 rfl (lv_at hl 1 rfl) ?_
        refine va_get (D := E.1) (cl := gp_cl) (ci := 3) (v := .ref (E.2.2.2 9)) (C := R_M) (T := T_M) (N := 27) hx hb hts i_M hown hK hP 0 rfl rfl 12 (by decide) (hts _ w3_64) (fun _ h9 => h9) rfl d_M_tryPlan_16 ?_
        refine lv_iload_n hx hb d_M_tryPlan_19 rfl (lv_at hl 0 rfl) ?_
        refine gp_ald (f := (F 8)) (n := 6) hx hb hK hP 9 rfl (t) rfl (by omega) (by decide) d_M_tryPlan_20 ?_
        refine gp_ast (f := (fun j => if j < t then F 8 j else F 9 j)) (n := 6) hx hb hK hP hD hS 10 rfl (t) rfl (by omega) (by decide) d_M_tryPlan_21 (fun H locs hP hD hS => ?_)
        have hP : va_P E.1 gp_cl (gp_wM E I (gp_uF (gp_uF F 9 (fun j => if j < t then F 8 j else F 9 j)) 9 (upd (fun j => if j < t then F 8 j else F 9 j) (t) ((F 8) (t))))) H := hP
        have hD : va_D A (gp_wM E I (gp_uF (gp_uF F 9 (fun j => if j < t then F 8 j else F 9 j)) 9 (upd (fun j => if j < t then F 8 j else F 9 j) (t) ((F 8) (t))))) := hD
        refine lv_iinc (v := (nI (t + 1))) (lv' := [(1, .int (nI (t + 1))), (0, .ref (E.2.2.2 0))]) hx hb d_M_tryPlan_22 hl (k := 0) rfl (nI_1 _) (by decide) rfl (fun ls hl => ?_)
        refine lv_goto (tgt := 2) hx hb d_M_tryPlan_25 (by decide) ?_
        exact ih2 (t + 1) (by omega) (by omega) ls _ _ (lv_sub hl [0, 1] rfl) (by rw [← gp_up1 (h := F 8) (k := F 9) rfl]; exact hP) (gp_dd hD rfl) hS
  exact L2 (nt + 1) 0 (Nat.zero_le _) (by omega) ls _ _ (lv_sub hl [0, 1] rfl) (by rw [gp_cp0 (g := F 8)]; exact hP) (gp_dd hD rfl) hS
set_option maxHeartbeats 4000000 in
set_option maxRecDepth 100000 in
theorem c_M_isEmptied (l : Launch) (E : gp_E) (I : Nat → Int32) (F : Nat → Nat → Int32) (t : Nat) (x : Int32) (ht : t < 6) : gp_CR l y_M_isEmptied b_M_isEmptied 3 (some .boolean) 1 E (gp_wM E I F) [.ref (E.2.2.2 0), .int (nI t), .int x] (if gm_emp F t x then 1 else 0) := by
  refine gp_ofR (by decide) (Nat.le_of_ble_eq_true rfl) ?_
  intro xp xe xs xm below meth xc ls hx hb hr hts hown hlocks hml hP hK hl
  have hown : xs.vm.findClass "GuidePlansModel" = some xm.cls := hown
  have hl : lv_has ls 3 [(0, .ref (E.2.2.2 0)), (1, .int (nI t)), (2, .int x)] := hl
  refine lv_aload_n hx hb d_M_isEmptied_0 rfl (lv_at hl 0 rfl) ?_
  refine va_get (D := E.1) (cl := gp_cl) (ci := 3) (v := .ref (E.2.2.2 8)) (C := R_M) (T := T_M) (N := 27) hx hb hts i_M hown hK hP 0 rfl rfl 11 (by decide) (hts _ w3_63) (fun _ h9 => h9) rfl d_M_isEmptied_1 ?_
  refine lv_iload_n hx hb d_M_isEmptied_4 rfl (lv_at hl 1 rfl) ?_
  refine gp_zld (f := (F 7)) (n := 6) hx hb hK hP 8 rfl (t) rfl (by omega) (by decide) d_M_isEmptied_5 ?_
  refine lv_if_eq (tgt := 18) hx hb d_M_isEmptied_6 (by decide) (fun c6 => ?_) (fun c6 => ?_)
  · have c6 := c6
    refine lv_iconst (v := 0) hx hb d_M_isEmptied_18 (by decide) ?_
    exact gp_rz hx hb hr hlocks (rfl) (by simp [gm_emp, c6]) d_M_isEmptied_19
  · have c6 := c6
    refine lv_iload_n hx hb d_M_isEmptied_9 rfl (lv_at hl 2 rfl) ?_
    refine lv_iconst (v := (-1)) hx hb d_M_isEmptied_10 (by decide) ?_
    refine lv_icmp_ne (tgt := 18) hx hb d_M_isEmptied_11 (by decide) (fun c11 => ?_) (fun c11 => ?_)
    · have c11 := c11
      refine lv_iconst (v := 0) hx hb d_M_isEmptied_18 (by decide) ?_
      exact gp_rz hx hb hr hlocks (rfl) (by simp [gm_emp, c6, c11]) d_M_isEmptied_19
    · have c11 := c11
      refine lv_iconst (v := 1) hx hb d_M_isEmptied_14 (by decide) ?_
      refine lv_goto (tgt := 19) hx hb d_M_isEmptied_15 (by decide) ?_
      exact gp_rz hx hb hr hlocks (rfl) (by simp [gm_emp, c6, c11]) d_M_isEmptied_19
set_option maxHeartbeats 4000000 in
set_option maxRecDepth 100000 in
theorem c_M_isUnfitN (l : Launch) (E : gp_E) (I : Nat → Int32) (F : Nat → Nat → Int32) (t : Nat) : gp_CR l y_M_isUnfit b_M_isUnfit 3 (some .boolean) 2 E (gp_wM E I F) [.ref (E.2.2.2 0), .int (nI t), .int (-1)] 0 := by
  refine gp_ofR (by decide) (Nat.le_of_ble_eq_true rfl) ?_
  intro xp xe xs xm below meth xc ls hx hb hr hts hown hlocks hml hP hK hl
  have hown : xs.vm.findClass "GuidePlansModel" = some xm.cls := hown
  have hl : lv_has ls 3 [(0, .ref (E.2.2.2 0)), (1, .int (nI t)), (2, .int (-1))] := hl
  refine lv_iload_n hx hb d_M_isUnfit_0 rfl (lv_at hl 2 rfl) ?_
  refine lv_iconst (v := (-1)) hx hb d_M_isUnfit_1 (by decide) ?_
  refine lv_icmp_eq (tgt := 18) hx hb d_M_isUnfit_2 (by decide) (fun c2 => ?_) (fun c2 => ?_)
  · have c2 := c2
    refine lv_iconst (v := 0) hx hb d_M_isUnfit_18 (by decide) ?_
    exact gp_rz hx hb hr hlocks (rfl) (rfl) d_M_isUnfit_19
  · exact absurd c2 (by decide)
set_option maxHeartbeats 4000000 in
set_option maxRecDepth 100000 in
theorem c_M_isUnfitP (l : Launch) (E : gp_E) (I : Nat → Int32) (F : Nat → Nat → Int32) (ns p t : Nat) (hN : I 2 = nI ns) (hns : ns ≤ 20) (hp : p < 4) (ht : t < 6) : gp_CR l y_M_isUnfit b_M_isUnfit 3 (some .boolean) 2 E (gp_wM E I F) [.ref (E.2.2.2 0), .int (nI t), .int (nI p)] (if gm_su F p t ns then 0 else 1) := by
  refine gp_ofR (by decide) (Nat.le_of_ble_eq_true rfl) ?_
  intro xp xe xs xm below meth xc ls hx hb hr hts hown hlocks hml hP hK hl
  have hown : xs.vm.findClass "GuidePlansModel" = some xm.cls := hown
  have hl : lv_has ls 3 [(0, .ref (E.2.2.2 0)), (1, .int (nI t)), (2, .int (nI p))] := hl
  refine lv_iload_n hx hb d_M_isUnfit_0 rfl (lv_at hl 2 rfl) ?_
  refine lv_iconst (v := (-1)) hx hb d_M_isUnfit_1 (by decide) ?_
  refine lv_icmp_eq (tgt := 18) hx hb d_M_isUnfit_2 (by decide) (fun c2 => ?_) (fun c2 => ?_)
  · have c2 := c2
    exact False.elim (gp_nn (by omega) c2)
  · have c2 := c2
    refine lv_aload_n hx hb d_M_isUnfit_5 rfl (lv_at hl 0 rfl) ?_
    refine lv_iload_n hx hb d_M_isUnfit_6 rfl (lv_at hl 2 rfl) ?_
    refine lv_iload_n hx hb d_M_isUnfit_7 rfl (lv_at hl 1 rfl) ?_
    refine gp_cR (q0 := 0) (ci := 3) (As := [.int (nI p), .int (nI t)]) (rest := []) ⟨hx, hb, hml, hown, hts⟩ (c_M_suits l E I F ns p t hN hns hp ht) (k_M_98 hts ⟨by decide, by decide⟩ rfl rfl) hK hP rfl rfl rfl hl.1 rfl (Nat.le_of_ble_eq_true rfl) d_M_isUnfit_8 ⟨Nat.le_of_ble_eq_true rfl, Nat.le_of_ble_eq_true rfl⟩ ?_
    by_cases hs8 : gm_su F p t ns = true
    · rw [show ((if gm_su F p t ns then 1 else 0) : Int32) = 1 from if_pos hs8]
      refine lv_if_ne (tgt := 18) hx hb d_M_isUnfit_11 (by decide) (fun c11 => ?_) (fun c11 => ?_)
      · have c11 := c11
        have nc11 : ¬ 1 = 0 := fun h => c11 ((nI_eq (a := 1) (b := 0) (by omega) (by omega)).mpr h)
        refine lv_iconst (v := 0) hx hb d_M_isUnfit_18 (by decide) ?_
        exact gp_rz hx hb hr hlocks (rfl) (by simp [c2, hs8, c11, nc11]) d_M_isUnfit_19
      · exact absurd c11 (by decide)
    · rw [show ((if gm_su F p t ns then 1 else 0) : Int32) = 0 from if_neg hs8]
      refine lv_if_ne (tgt := 18) hx hb d_M_isUnfit_11 (by decide) (fun c11 => ?_) (fun c11 => ?_)
      · exact absurd c11 (by decide)
      · have c11 := c11
        have nc11 : 0 = 0 := (nI_eq (a := 0) (b := 0) (by omega) (by omega)).mp c11
        refine lv_iconst (v := 1) hx hb d_M_isUnfit_14 (by decide) ?_
        refine lv_goto (tgt := 19) hx hb d_M_isUnfit_15 (by decide) ?_
        exact gp_rz hx hb hr hlocks (rfl) (by simp [c2, hs8, c11, nc11]) d_M_isUnfit_19
theorem c_M_isUnfit (l : Launch) (E : gp_E) (I : Nat → Int32) (F : Nat → Nat → Int32) (np ns t : Nat) (x : Int32) (hN : I 2 = nI ns) (hns : ns ≤ 20) (hnp : np ≤ 4) (ht : t < 6) (hx : x = -1 ∨ ∃ p, p < np ∧ x = nI p) : gp_CR l y_M_isUnfit b_M_isUnfit 3 (some .boolean) 2 E (gp_wM E I F) [.ref (E.2.2.2 0), .int (nI t), .int x] (if gm_unf F ns x t then 1 else 0) := by
  rcases hx with rfl | ⟨p, hp, rfl⟩
  · exact c_M_isUnfitN l E I F t
  · have h := c_M_isUnfitP l E I F ns p t hN hns (by omega) ht
    rw [show (if gm_unf F ns (nI p) t then (1 : Int32) else 0) = (if gm_su F p t ns then 0 else 1) from by
      have e1 : ¬ nI p = -1 := fun e => gp_nn (by omega) e
      simp only [gm_unf, e1, nI_clamp (show p < 2 ^ 31 by omega)]
      cases gm_su F p t ns <;> rfl]
    exact h
