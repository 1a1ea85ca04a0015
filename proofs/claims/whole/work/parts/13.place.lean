set_option maxHeartbeats 4000000 in
set_option maxRecDepth 100000 in
theorem c_S_keepTrial (l : Launch) (E : gp_E) (I : Nat → Int32) (F : Nat → Nat → Int32) (nt : Nat) (sc : Int32) (hnt : nt ≤ 6) : gp_CW l y_S_keepTrial b_S_keepTrial 4 none 1 E (gp_wG E I F) (gp_wG E (gp_kt nt sc (I, F)).1 (gp_kt nt sc (I, F)).2) [.ref (E.2.2.2 2), .int (nI nt), .int sc] none := by
  refine gp_ofW (by decide) (Nat.le_of_ble_eq_true rfl) ?_
  intro xp xe xs xm below meth xc ls A hx hb hr hts hown hlocks hml hP hK hD hA hAe hl
  have hS : va_S A xs.heap xs.heap [] := va_S.rf
  have hown : xs.vm.findClass "GuidePlans$Search" = some xm.cls := hown
  have hl : lv_has ls 4 [(0, .ref (E.2.2.2 2)), (1, .int (nI nt)), (2, .int sc)] := hl
  refine lv_iconst (v := 0) hx hb d_S_keepTrial_0 (by decide) ?_
  refine lv_istore_n (lv' := [(3, .int 0), (0, .ref (E.2.2.2 2)), (1, .int (nI nt)), (2, .int sc)]) hx hb d_S_keepTrial_1 rfl hl (by decide) rfl (fun ls hl => ?_)
  have L2 : ∀ (n : Nat) (t : Nat), t ≤ nt → nt + 1 ≤ t + n → ∀ (ls : Array Slot) (H : Heap) (locs : List Loc), lv_has ls 4 [(3, .int (nI t)), (0, .ref (E.2.2.2 2)), (1, .int (nI nt)), (2, .int sc)] → va_P E.1 gp_cl (gp_wG E I (gp_uF F 8 (fun j => if j < t then F 9 j else F 8 j))) H → va_D A (gp_wG E I (gp_uF F 8 (fun j => if j < t then F 9 j else F 8 j))) → va_S A xs.heap H locs → W xp l xe (gp_rm 1 0 0) xs xm ([.ref (E.2.2.2 2), .int (nI nt), .int sc] : List Value).toArray below meth xc H locs 0 0 (MQ below (gp_QW E none (gp_wG E I F) (gp_wG E (gp_kt nt sc (I, F)).1 (gp_kt nt sc (I, F)).2) xs.heap.size) ([.ref (E.2.2.2 2), .int (nI nt), .int sc] : List Value).toArray xs 0 0 A) (F0 xm 2 ls []) := by
    intro n
    induction n with
    | zero =>
      intro t h1 hm
      exact absurd hm (by omega)
    | succ n ih2 =>
      intro t h1 hm ls H locs hl hP hD hS
      refine lv_iload_n hx hb d_S_keepTrial_2 rfl (lv_at hl 0 rfl) ?_
      refine lv_iload_n hx hb d_S_keepTrial_3 rfl (lv_at hl 2 rfl) ?_
      refine lv_icmp_ge (tgt := 25) hx hb d_S_keepTrial_4 (by decide) (fun c4 => ?_) (fun c4 => ?_)
      · have c4 := c4
        have nc4 : nt ≤ t := (nI_leI (a := nt) (b := t) (by omega) (by omega)).mp c4
        have hte : nt = t := by omega
        subst hte
        refine lv_aload_n hx hb d_S_keepTrial_25 rfl (lv_at hl 1 rfl) ?_
        refine lv_iload_n hx hb d_S_keepTrial_26 rfl (lv_at hl 3 rfl) ?_
        refine va_put (D := E.1) (cl := gp_cl) (ci := 2) (v := .int sc) (ty := .int) (C := R_S) (T := T_S) (N := 9) hx hb hts i_S t_S t_S_ok n_S hown hK hP hD hS 2 rfl rfl 8 (by decide) (hts _ w1_97) (fun _ h9 => h9) rfl (by decide +kernel) rfl rfl (Nat.le_of_ble_eq_true rfl) d_S_keepTrial_27 (fun H locs hP hD hS => ?_)
        have hP : va_P E.1 gp_cl (gp_wG E (upd I 11 sc) (gp_uF F 8 (fun j => if j < nt then F 9 j else F 8 j))) H := hP
        have hD : va_D A (gp_wG E (upd I 11 sc) (gp_uF F 8 (fun j => if j < nt then F 9 j else F 8 j))) := hD
        exact gp_wv hx hb hr hlocks hAe rfl (hP) hS d_S_keepTrial_30
      · have c4 := c4
        have nc4 : ¬ nt ≤ t := fun h => c4 ((nI_leI (a := nt) (b := t) (by omega) (by omega)).mpr h)
        refine lv_aload_n hx hb d_S_keepTrial_7 rfl (lv_at hl 1 rfl) ?_
        refine va_get (D := E.1) (cl := gp_cl) (ci := 2) (v := .ref (E.2.2.2 11)) (C := R_S) (T := T_S) (N := 9) hx hb hts i_S hown hK hP 2 rfl rfl 0 (by decide) (hts _ w1_88) (fun _ h9 => h9) rfl d_S_keepTrial_8 ?_
        refine lv_iload_n hx hb d_S_keepTrial_11 rfl (lv_at hl 0 rfl) ?_
        refine lv_aload_n hx hb d_S_keepTrial_12 rfl (lv_at hl 1 rfl) ?_
        refine va_get (D := E.1) (cl := gp_cl) (ci := 2) (v := .ref (E.2.2.2 12)) (C := R_S) (T := T_S) (N := 9) hx hb hts i_S hown hK hP 2 rfl rfl 1 (by decide) (hts _ w1_90) (fun _ h9 => h9) rfl d_S_keepTrial_13 ?_
        refine lv_iload_n hx hb d_S_keepTrial_16 rfl (lv_at hl 0 rfl) ?_
        refine gp_ald (f := (F 9)) (n := 6) hx hb hK hP 12 rfl (t) rfl (by omega) (by decide) d_S_keepTrial_17 ?_
        refine gp_ast (f := (fun j => if j < t then F 9 j else F 8 j)) (n := 6) hx hb hK hP hD hS 11 rfl (t) rfl (by omega) (by decide) d_S_keepTrial_18 (fun H locs hP hD hS => ?_)
        have hP : va_P E.1 gp_cl (gp_wG E I (gp_uF (gp_uF F 8 (fun j => if j < t then F 9 j else F 8 j)) 8 (upd (fun j => if j < t then F 9 j else F 8 j) (t) ((F 9) (t))))) H := hP
        have hD : va_D A (gp_wG E I (gp_uF (gp_uF F 8 (fun j => if j < t then F 9 j else F 8 j)) 8 (upd (fun j => if j < t then F 9 j else F 8 j) (t) ((F 9) (t))))) := hD
        refine lv_iinc (v := (nI (t + 1))) (lv' := [(3, .int (nI (t + 1))), (0, .ref (E.2.2.2 2)), (1, .int (nI nt)), (2, .int sc)]) hx hb d_S_keepTrial_19 hl (k := 0) rfl (nI_1 _) (by decide) rfl (fun ls hl => ?_)
        refine lv_goto (tgt := 2) hx hb d_S_keepTrial_22 (by decide) ?_
        have hF : gp_uF (gp_uF F 8 (fun j => if j < t then F 9 j else F 8 j)) 8 (upd (fun j => if j < t then F 9 j else F 8 j) t (F 9 t)) = gp_uF F 8 (fun j => if j < t + 1 then F 9 j else F 8 j) := gp_F1 (gp_up1 (h := F 9) rfl) (fun c hc => (gp_uF_ne hc).trans (gp_uF_ne hc))
        rw [hF] at hP
        exact ih2 (t + 1) (by omega) (by omega) ls _ _ (lv_sub hl [0, 1, 2, 3] rfl) (hP) (gp_dd hD rfl) hS
  exact L2 (nt + 1) 0 (Nat.zero_le _) (by omega) ls _ _ (lv_sub hl [0, 1, 2, 3] rfl) (by rw [gp_cp0 (g := F 9)]; exact hP) (gp_dd hD rfl) hS
set_option maxHeartbeats 4000000 in
set_option maxRecDepth 100000 in
theorem c_S_placePerson (l : Launch) (E : gp_E) (rec : Int32 → gp_S → gp_S) (LL np nt t : Nat) (hLL : 4 ≤ LL) (hnp : np ≤ 4) (hnt : nt ≤ 6) (ht : t < nt) (hkp : ∀ sc σ, gp_kp σ (rec sc σ))
    (hrec : ∀ (I : Nat → Int32) (F : Nat → Nat → Int32) (sc : Int32), I 4 = nI np → I 6 = nI nt → gp_CW l y_S_place b_S_place 6 none LL E (gp_wG E I F) (gp_wG E (rec sc (I, F)).1 (rec sc (I, F)).2) [.ref (E.2.2.2 2), .ref (E.2.2.2 1), .ref (E.2.2.2 17), .int (nI (t + 1)), .int sc] none)
    (I : Nat → Int32) (F : Nat → Nat → Int32) (sc : Int32) (p : Nat) (hp : p < np) (hp4 : I 4 = nI np) (hT : I 6 = nI nt) :
    gp_CW l y_S_placePerson b_S_placePerson 8 none (LL + 1) E (gp_wG E I F) (gp_wG E (gp_pp rec t p sc (I, F)).1 (gp_pp rec t p sc (I, F)).2) [.ref (E.2.2.2 2), .ref (E.2.2.2 1), .ref (E.2.2.2 17), .int (nI t), .int sc, .int (nI p)] none := by
  refine gp_ofW (by decide) (Nat.le_of_ble_eq_true rfl) ?_
  intro xp xe xs xm below meth xc ls A hx hb hr hts hown hlocks hml hP hK hD hA hAe hl
  have hS : va_S A xs.heap xs.heap [] := va_S.rf
  have hown : xs.vm.findClass "GuidePlans$Search" = some xm.cls := hown
  have hl : lv_has ls 8 [(0, .ref (E.2.2.2 2)), (1, .ref (E.2.2.2 1)), (2, .ref (E.2.2.2 17)), (3, .int (nI t)), (4, .int sc), (5, .int (nI p))] := hl
  refine lv_aload_n hx hb d_S_placePerson_0 rfl (lv_at hl 0 rfl) ?_
  refine va_get (D := E.1) (cl := gp_cl) (ci := 2) (v := .ref (E.2.2.2 15)) (C := R_S) (T := T_S) (N := 9) hx hb hts i_S hown hK hP 2 rfl rfl 4 (by decide) (hts _ w1_93) (fun _ h9 => h9) rfl d_S_placePerson_1 ?_
  refine lv_iload hx hb d_S_placePerson_4 (lv_at hl 5 rfl) ?_
  refine gp_ald (f := (F 12)) (n := 4) hx hb hK hP 15 rfl (p) rfl (by omega) (by decide) d_S_placePerson_6 ?_
  refine gp_cS (As := [.int ((F 12) (p))]) (rest := []) ⟨hx, hb, hml, hown, hts⟩ (c_J_bitCount l E I F (F 12 p)) (k_S_104 hts ⟨by dsimp only [gp_rm]; omega, by dsimp only [gp_rm]; omega⟩ rfl rfl) hK hP rfl hl.1 rfl (Nat.le_of_ble_eq_true rfl) d_S_placePerson_7 ⟨Nat.le_of_ble_eq_true rfl, Nat.le_of_ble_eq_true rfl⟩ ?_
  refine lv_istore (lv' := [(6, .int (gp_pop (F 12 p))), (0, .ref (E.2.2.2 2)), (1, .ref (E.2.2.2 1)), (2, .ref (E.2.2.2 17)), (3, .int (nI t)), (4, .int sc), (5, .int (nI p))]) hx hb d_S_placePerson_10 hl (by decide) rfl (fun ls hl => ?_)
  refine lv_iconst (v := 2) hx hb d_S_placePerson_12 (by decide) ?_
  refine lv_iload hx hb d_S_placePerson_13 (lv_at hl 0 rfl) ?_
  refine lv_imul hx hb d_S_placePerson_15 ?_
  refine lv_iconst (v := 1) hx hb d_S_placePerson_16 (by decide) ?_
  refine lv_iadd hx hb d_S_placePerson_17 ?_
  refine lv_istore (lv' := [(7, .int ((2 * (gp_pop (F 12 p))) + 1)), (6, .int (gp_pop (F 12 p))), (0, .ref (E.2.2.2 2)), (1, .ref (E.2.2.2 1)), (2, .ref (E.2.2.2 17)), (3, .int (nI t)), (4, .int sc), (5, .int (nI p))]) hx hb d_S_placePerson_18 hl (by decide) rfl (fun ls hl => ?_)
  refine lv_aload_n hx hb d_S_placePerson_20 rfl (lv_at hl 2 rfl) ?_
  refine va_get (D := E.1) (cl := gp_cl) (ci := 2) (v := .ref (E.2.2.2 12)) (C := R_S) (T := T_S) (N := 9) hx hb hts i_S hown hK hP 2 rfl rfl 1 (by decide) (hts _ w1_90) (fun _ h9 => h9) rfl d_S_placePerson_21 ?_
  refine lv_iload_n hx hb d_S_placePerson_24 rfl (lv_at hl 5 rfl) ?_
  refine lv_iload hx hb d_S_placePerson_25 (lv_at hl 7 rfl) ?_
  refine gp_ast (f := (F 9)) (n := 6) hx hb hK hP hD hS 12 rfl (t) rfl (by omega) (by decide) d_S_placePerson_27 (fun H locs hP hD hS => ?_)
  have hP : va_P E.1 gp_cl (gp_wG E I (gp_uF F 9 (upd (F 9) (t) (nI p)))) H := hP
  have hD : va_D A (gp_wG E I (gp_uF F 9 (upd (F 9) (t) (nI p)))) := hD
  refine lv_aload_n hx hb d_S_placePerson_28 rfl (lv_at hl 2 rfl) ?_
  refine va_get (D := E.1) (cl := gp_cl) (ci := 2) (v := .ref (E.2.2.2 15)) (C := R_S) (T := T_S) (N := 9) hx hb hts i_S hown hK hP 2 rfl rfl 4 (by decide) (hts _ w1_93) (fun _ h9 => h9) rfl d_S_placePerson_29 ?_
  refine lv_iload hx hb d_S_placePerson_32 (lv_at hl 7 rfl) ?_
  refine lv_dup2_11 hx hb d_S_placePerson_34 rfl rfl ?_
  refine gp_ald (f := (F 12)) (n := 4) hx hb hK hP 15 rfl (p) rfl (by omega) (by decide) d_S_placePerson_35 ?_
  refine lv_iconst (v := 1) hx hb d_S_placePerson_36 (by decide) ?_
  refine lv_iload_n hx hb d_S_placePerson_37 rfl (lv_at hl 5 rfl) ?_
  refine lv_ishl hx hb d_S_placePerson_38 ?_
  refine lv_ior hx hb d_S_placePerson_39 ?_
  refine gp_ast (f := (F 12)) (n := 4) hx hb hK hP hD hS 15 rfl (p) rfl (by omega) (by decide) d_S_placePerson_40 (fun H locs hP hD hS => ?_)
  have hP : va_P E.1 gp_cl (gp_wG E I (gp_uF (gp_uF F 9 (upd (F 9) (t) (nI p))) 12 (upd (F 12) (p) (((F 12) (p)) ||| (1 <<< ((nI t) &&& 31)))))) H := hP
  have hD : va_D A (gp_wG E I (gp_uF (gp_uF F 9 (upd (F 9) (t) (nI p))) 12 (upd (F 12) (p) (((F 12) (p)) ||| (1 <<< ((nI t) &&& 31)))))) := hD
  refine lv_aload_n hx hb d_S_placePerson_41 rfl (lv_at hl 2 rfl) ?_
  refine va_get (D := E.1) (cl := gp_cl) (ci := 2) (v := .ref (E.2.2.2 16)) (C := R_S) (T := T_S) (N := 9) hx hb hts i_S hown hK hP 2 rfl rfl 5 (by decide) (hts _ w1_94) (fun _ h9 => h9) rfl d_S_placePerson_42 ?_
  refine lv_iload hx hb d_S_placePerson_45 (lv_at hl 7 rfl) ?_
  refine lv_dup2_11 hx hb d_S_placePerson_47 rfl rfl ?_
  refine gp_ald (f := (F 13)) (n := 4) hx hb hK hP 16 rfl (p) rfl (by omega) (by decide) d_S_placePerson_48 ?_
  refine lv_aload_n hx hb d_S_placePerson_49 rfl (lv_at hl 3 rfl) ?_
  refine lv_iload_n hx hb d_S_placePerson_50 rfl (lv_at hl 5 rfl) ?_
  refine gp_cR (q0 := 1) (ci := 1) (As := [.int (nI t)]) (rest := [.int ((F 13) (p)), .int (nI p), .ref (E.2.2.2 16)]) ⟨hx, hb, hml, hown, hts⟩ (show gp_CR _ _ _ _ _ _ _ _ _ (F 6 t - F 5 t) from c_D_lengthOf l E I (gp_uF (gp_uF F 9 (upd (F 9) (t) (nI p))) 12 (upd (F 12) (p) (((F 12) (p)) ||| (1 <<< ((nI t) &&& 31))))) nt t hT hnt ht) (k_S_98 hts ⟨by dsimp only [gp_rm]; omega, by dsimp only [gp_rm]; omega⟩ rfl rfl) hK hP rfl rfl rfl hl.1 rfl (Nat.le_of_ble_eq_true rfl) d_S_placePerson_51 ⟨Nat.le_of_ble_eq_true rfl, Nat.le_of_ble_eq_true rfl⟩ ?_
  refine lv_iadd hx hb d_S_placePerson_54 ?_
  refine gp_ast (f := (F 13)) (n := 4) hx hb hK hP hD hS 16 rfl (p) rfl (by omega) (by decide) d_S_placePerson_55 (fun H locs hP hD hS => ?_)
  have hP : va_P E.1 gp_cl (gp_wG E I (gp_uF (gp_uF (gp_uF F 9 (upd (F 9) (t) (nI p))) 12 (upd (F 12) (p) (((F 12) (p)) ||| (1 <<< ((nI t) &&& 31))))) 13 (upd (F 13) (p) (((F 13) (p)) + (F 6 t - F 5 t))))) H := hP
  have hD : va_D A (gp_wG E I (gp_uF (gp_uF (gp_uF F 9 (upd (F 9) (t) (nI p))) 12 (upd (F 12) (p) (((F 12) (p)) ||| (1 <<< ((nI t) &&& 31))))) 13 (upd (F 13) (p) (((F 13) (p)) + (F 6 t - F 5 t))))) := hD
  refine lv_aload_n hx hb d_S_placePerson_56 rfl (lv_at hl 2 rfl) ?_
  refine lv_aload_n hx hb d_S_placePerson_57 rfl (lv_at hl 3 rfl) ?_
  refine lv_aload_n hx hb d_S_placePerson_58 rfl (lv_at hl 4 rfl) ?_
  refine lv_iload_n hx hb d_S_placePerson_59 rfl (lv_at hl 5 rfl) ?_
  refine lv_iconst (v := 1) hx hb d_S_placePerson_60 (by decide) ?_
  refine lv_iadd hx hb d_S_placePerson_61 ?_
  rw [show ((nI t) + 1) = (nI (t + 1)) from nI_1 _]
  refine lv_iload hx hb d_S_placePerson_62 (lv_at hl 6 rfl) ?_
  refine lv_aload_n hx hb d_S_placePerson_64 rfl (lv_at hl 2 rfl) ?_
  refine lv_aload_n hx hb d_S_placePerson_65 rfl (lv_at hl 4 rfl) ?_
  refine lv_iload_n hx hb d_S_placePerson_66 rfl (lv_at hl 5 rfl) ?_
  refine gp_ald (f := (F 14)) (n := 6) hx hb hK hP 17 rfl (t) rfl (by omega) (by decide) d_S_placePerson_67 ?_
  refine lv_iload hx hb d_S_placePerson_68 (lv_at hl 7 rfl) ?_
  refine lv_iload hx hb d_S_placePerson_70 (lv_at hl 0 rfl) ?_
  refine gp_cR (q0 := 2) (ci := 2) (As := [.int ((F 14) (t)), .int (nI p), .int ((2 * (gp_pop (F 12 p))) + 1)]) (rest := [.int sc, .int (nI (t + 1)), .ref (E.2.2.2 17), .ref (E.2.2.2 1), .ref (E.2.2.2 2)]) ⟨hx, hb, hml, hown, hts⟩ (c_S_weightOf l E I (gp_uF (gp_uF (gp_uF F 9 (upd (F 9) (t) (nI p))) 12 (upd (F 12) (p) (((F 12) (p)) ||| (1 <<< ((nI t) &&& 31))))) 13 (upd (F 13) (p) (((F 13) (p)) + (F 6 t - F 5 t)))) (F 14 t) (nI p) (2 * gp_pop (F 12 p) + 1)) (k_S_94 hts ⟨by dsimp only [gp_rm]; omega, by dsimp only [gp_rm]; omega⟩ rfl rfl) hK hP rfl rfl rfl hl.1 rfl (Nat.le_of_ble_eq_true rfl) d_S_placePerson_72 ⟨Nat.le_of_ble_eq_true rfl, Nat.le_of_ble_eq_true rfl⟩ ?_
  refine lv_iadd hx hb d_S_placePerson_75 ?_
  refine gp_cW (q0 := 2) (ci := 2) (As := [.ref (E.2.2.2 1), .ref (E.2.2.2 17), .int (nI (t + 1)), .int (sc + (gp_wt I (F 14 t) (nI p) (2 * gp_pop (F 12 p) + 1)))]) (rest := []) ⟨hx, hb, hml, hown, hts⟩ (hrec I (gp_uF (gp_uF (gp_uF F 9 (upd (F 9) (t) (nI p))) 12 (upd (F 12) (p) (((F 12) (p)) ||| (1 <<< ((nI t) &&& 31))))) 13 (upd (F 13) (p) (((F 13) (p)) + (F 6 t - F 5 t)))) (sc + gp_wt I (F 14 t) (nI p) (2 * gp_pop (F 12 p) + 1)) hp4 hT) (k_S_68 hts ⟨by dsimp only [gp_rm]; omega, by dsimp only [gp_rm]; omega⟩ rfl rfl) hK hP hD hS hA rfl rfl rfl rfl hl.1 rfl (Nat.le_of_ble_eq_true rfl) d_S_placePerson_76 ⟨Nat.le_of_ble_eq_true rfl, Nat.le_of_ble_eq_true rfl⟩ (fun H locs hP hD hS => ?_)
  have hP : va_P E.1 gp_cl (gp_wG E (rec (sc + gp_wt I (F 14 t) (nI p) (2 * gp_pop (F 12 p) + 1)) (I, (gp_uF (gp_uF (gp_uF F 9 (upd (F 9) (t) (nI p))) 12 (upd (F 12) (p) (((F 12) (p)) ||| (1 <<< ((nI t) &&& 31))))) 13 (upd (F 13) (p) (((F 13) (p)) + (F 6 t - F 5 t)))))).1 (rec (sc + gp_wt I (F 14 t) (nI p) (2 * gp_pop (F 12 p) + 1)) (I, (gp_uF (gp_uF (gp_uF F 9 (upd (F 9) (t) (nI p))) 12 (upd (F 12) (p) (((F 12) (p)) ||| (1 <<< ((nI t) &&& 31))))) 13 (upd (F 13) (p) (((F 13) (p)) + (F 6 t - F 5 t)))))).2) H := hP
  have hD : va_D A (gp_wG E (rec (sc + gp_wt I (F 14 t) (nI p) (2 * gp_pop (F 12 p) + 1)) (I, (gp_uF (gp_uF (gp_uF F 9 (upd (F 9) (t) (nI p))) 12 (upd (F 12) (p) (((F 12) (p)) ||| (1 <<< ((nI t) &&& 31))))) 13 (upd (F 13) (p) (((F 13) (p)) + (F 6 t - F 5 t)))))).1 (rec (sc + gp_wt I (F 14 t) (nI p) (2 * gp_pop (F 12 p) + 1)) (I, (gp_uF (gp_uF (gp_uF F 9 (upd (F 9) (t) (nI p))) 12 (upd (F 12) (p) (((F 12) (p)) ||| (1 <<< ((nI t) &&& 31))))) 13 (upd (F 13) (p) (((F 13) (p)) + (F 6 t - F 5 t)))))).2) := hD
  generalize hτ : rec (sc + gp_wt I (F 14 t) (nI p) (2 * gp_pop (F 12 p) + 1)) (I, gp_uF (gp_uF (gp_uF F 9 (upd (F 9) t (nI p))) 12 (upd (F 12) p (F 12 p ||| (1 <<< (nI t &&& 31))))) 13 (upd (F 13) p (F 13 p + (F 6 t - F 5 t)))) = τ at hP hD
  have hT2 : τ.1 6 = nI nt := by rw [← hτ]; exact ((hkp _ _).1 6 (by decide)).trans hT
  refine lv_aload_n hx hb d_S_placePerson_79 rfl (lv_at hl 2 rfl) ?_
  refine va_get (D := E.1) (cl := gp_cl) (ci := 2) (v := .ref (E.2.2.2 15)) (C := R_S) (T := T_S) (N := 9) hx hb hts i_S hown hK hP 2 rfl rfl 4 (by decide) (hts _ w1_93) (fun _ h9 => h9) rfl d_S_placePerson_80 ?_
  refine lv_iload hx hb d_S_placePerson_83 (lv_at hl 7 rfl) ?_
  refine lv_dup2_11 hx hb d_S_placePerson_85 rfl rfl ?_
  refine gp_ald (f := (τ.2 12)) (n := 4) hx hb hK hP 15 rfl (p) rfl (by omega) (by decide) d_S_placePerson_86 ?_
  refine lv_iconst (v := 1) hx hb d_S_placePerson_87 (by decide) ?_
  refine lv_iload_n hx hb d_S_placePerson_88 rfl (lv_at hl 5 rfl) ?_
  refine lv_ishl hx hb d_S_placePerson_89 ?_
  refine lv_iconst (v := (-1)) hx hb d_S_placePerson_90 (by decide) ?_
  refine lv_ixor hx hb d_S_placePerson_91 ?_
  refine lv_iand hx hb d_S_placePerson_92 ?_
  refine gp_ast (f := (τ.2 12)) (n := 4) hx hb hK hP hD hS 15 rfl (p) rfl (by omega) (by decide) d_S_placePerson_93 (fun H locs hP hD hS => ?_)
  have hP : va_P E.1 gp_cl (gp_wG E τ.1 (gp_uF τ.2 12 (upd (τ.2 12) (p) (((τ.2 12) (p)) &&& ((1 <<< ((nI t) &&& 31)) ^^^ (-1)))))) H := hP
  have hD : va_D A (gp_wG E τ.1 (gp_uF τ.2 12 (upd (τ.2 12) (p) (((τ.2 12) (p)) &&& ((1 <<< ((nI t) &&& 31)) ^^^ (-1)))))) := hD
  refine lv_aload_n hx hb d_S_placePerson_94 rfl (lv_at hl 2 rfl) ?_
  refine va_get (D := E.1) (cl := gp_cl) (ci := 2) (v := .ref (E.2.2.2 16)) (C := R_S) (T := T_S) (N := 9) hx hb hts i_S hown hK hP 2 rfl rfl 5 (by decide) (hts _ w1_94) (fun _ h9 => h9) rfl d_S_placePerson_95 ?_
  refine lv_iload hx hb d_S_placePerson_98 (lv_at hl 7 rfl) ?_
  refine lv_dup2_11 hx hb d_S_placePerson_100 rfl rfl ?_
  refine gp_ald (f := (τ.2 13)) (n := 4) hx hb hK hP 16 rfl (p) rfl (by omega) (by decide) d_S_placePerson_101 ?_
  refine lv_aload_n hx hb d_S_placePerson_102 rfl (lv_at hl 3 rfl) ?_
  refine lv_iload_n hx hb d_S_placePerson_103 rfl (lv_at hl 5 rfl) ?_
  refine gp_cR (q0 := 1) (ci := 1) (As := [.int (nI t)]) (rest := [.int ((τ.2 13) (p)), .int (nI p), .ref (E.2.2.2 16)]) ⟨hx, hb, hml, hown, hts⟩ (c_D_lengthOf l E τ.1 (gp_uF τ.2 12 (upd (τ.2 12) (p) (((τ.2 12) (p)) &&& ((1 <<< ((nI t) &&& 31)) ^^^ (-1))))) nt t hT2 hnt ht) (k_S_98 hts ⟨by dsimp only [gp_rm]; omega, by dsimp only [gp_rm]; omega⟩ rfl rfl) hK hP rfl rfl rfl hl.1 rfl (Nat.le_of_ble_eq_true rfl) d_S_placePerson_104 ⟨Nat.le_of_ble_eq_true rfl, Nat.le_of_ble_eq_true rfl⟩ ?_
  refine lv_isub hx hb d_S_placePerson_107 ?_
  refine gp_ast (f := (τ.2 13)) (n := 4) hx hb hK hP hD hS 16 rfl (p) rfl (by omega) (by decide) d_S_placePerson_108 (fun H locs hP hD hS => ?_)
  have hP : va_P E.1 gp_cl (gp_wG E τ.1 (gp_uF (gp_uF τ.2 12 (upd (τ.2 12) (p) (((τ.2 12) (p)) &&& ((1 <<< ((nI t) &&& 31)) ^^^ (-1))))) 13 (upd (τ.2 13) (p) (((τ.2 13) (p)) - ((gp_uF τ.2 12 (upd (τ.2 12) (p) (((τ.2 12) (p)) &&& ((1 <<< ((nI t) &&& 31)) ^^^ (-1))))) 6 t - (gp_uF τ.2 12 (upd (τ.2 12) (p) (((τ.2 12) (p)) &&& ((1 <<< ((nI t) &&& 31)) ^^^ (-1))))) 5 t))))) H := hP
  have hD : va_D A (gp_wG E τ.1 (gp_uF (gp_uF τ.2 12 (upd (τ.2 12) (p) (((τ.2 12) (p)) &&& ((1 <<< ((nI t) &&& 31)) ^^^ (-1))))) 13 (upd (τ.2 13) (p) (((τ.2 13) (p)) - ((gp_uF τ.2 12 (upd (τ.2 12) (p) (((τ.2 12) (p)) &&& ((1 <<< ((nI t) &&& 31)) ^^^ (-1))))) 6 t - (gp_uF τ.2 12 (upd (τ.2 12) (p) (((τ.2 12) (p)) &&& ((1 <<< ((nI t) &&& 31)) ^^^ (-1))))) 5 t))))) := hD
  exact gp_wv hx hb hr hlocks hAe rfl (by rw [show gp_pp rec t p sc (I, F) = (τ.1, gp_uF (gp_uF τ.2 12 (upd (τ.2 12) p (τ.2 12 p &&& ((1 <<< (nI t &&& 31)) ^^^ (-1))))) 13 (upd (τ.2 13) p (τ.2 13 p - (τ.2 6 t - τ.2 5 t)))) from by rw [← hτ]; rfl]; exact hP) hS d_S_placePerson_109
set_option maxHeartbeats 4000000 in
set_option maxRecDepth 100000 in
theorem c_S_place0 (l : Launch) (E : gp_E) (np nt : Nat) (hnp : np ≤ 4) (hnt : nt ≤ 6)
    (I : Nat → Int32) (F : Nat → Nat → Int32) (sc : Int32) (hp4 : I 4 = nI np) (hT : I 6 = nI nt) :
    gp_CW l y_S_place b_S_place 6 none 4 E (gp_wG E I F) (gp_wG E (gp_pl np nt 0 sc (I, F)).1 (gp_pl np nt 0 sc (I, F)).2) [.ref (E.2.2.2 2), .ref (E.2.2.2 1), .ref (E.2.2.2 17), .int (nI nt), .int sc] none := by
  refine gp_ofW (by decide) (Nat.le_of_ble_eq_true rfl) ?_
  intro xp xe xs xm below meth xc ls A hx hb hr hts hown hlocks hml hP hK hD hA hAe hl
  have hS : va_S A xs.heap xs.heap [] := va_S.rf
  have hown : xs.vm.findClass "GuidePlans$Search" = some xm.cls := hown
  have hl : lv_has ls 6 [(0, .ref (E.2.2.2 2)), (1, .ref (E.2.2.2 1)), (2, .ref (E.2.2.2 17)), (3, .int (nI nt)), (4, .int sc)] := hl
  refine lv_iload hx hb d_S_place_0 (lv_at hl 4 rfl) ?_
  refine lv_aload_n hx hb d_S_place_2 rfl (lv_at hl 0 rfl) ?_
  refine va_get (D := E.1) (cl := gp_cl) (ci := 2) (v := .int (I 10)) (C := R_S) (T := T_S) (N := 9) hx hb hts i_S hown hK hP 2 rfl rfl 7 (by decide) (hts _ w1_96) (fun _ h9 => h9) rfl d_S_place_3 ?_
  refine lv_aload_n hx hb d_S_place_6 rfl (lv_at hl 1 rfl) ?_
  refine va_get (D := E.1) (cl := gp_cl) (ci := 1) (v := .int (nI nt)) (C := R_D) (T := T_D) (N := 13) hx hb hts i_D hown hK hP 1 rfl rfl 10 (by decide) (hts _ w1_45) (fun _ h9 => h9) (congrArg (fun z => some (Value.int z)) hT) d_S_place_7 ?_
  refine lv_iload_n hx hb d_S_place_10 rfl (lv_at hl 3 rfl) ?_
  refine lv_isub hx hb d_S_place_11 ?_
  refine lv_imul hx hb d_S_place_12 ?_
  refine lv_iadd hx hb d_S_place_13 ?_
  refine lv_aload_n hx hb d_S_place_14 rfl (lv_at hl 0 rfl) ?_
  refine va_get (D := E.1) (cl := gp_cl) (ci := 2) (v := .int (I 11)) (C := R_S) (T := T_S) (N := 9) hx hb hts i_S hown hK hP 2 rfl rfl 8 (by decide) (hts _ w1_97) (fun _ h9 => h9) rfl d_S_place_15 ?_
  refine lv_icmp_lt (tgt := 22) hx hb d_S_place_18 (by decide) (fun c18 => ?_) (fun c18 => ?_)
  · have c18 := c18
    have mc18 : ¬ (I 11) ≤ (sc + ((I 10) * ((nI nt) - (nI nt)))) := Int32.not_le.mpr c18
    refine lv_iload_n hx hb d_S_place_22 rfl (lv_at hl 3 rfl) ?_
    refine lv_aload_n hx hb d_S_place_23 rfl (lv_at hl 1 rfl) ?_
    refine va_get (D := E.1) (cl := gp_cl) (ci := 1) (v := .int (nI nt)) (C := R_D) (T := T_D) (N := 13) hx hb hts i_D hown hK hP 1 rfl rfl 10 (by decide) (hts _ w1_45) (fun _ h9 => h9) (congrArg (fun z => some (Value.int z)) hT) d_S_place_24 ?_
    refine lv_icmp_lt (tgt := 41) hx hb d_S_place_27 (by decide) (fun c27 => ?_) (fun c27 => ?_)
    · have c27 := c27
      have nc27 : nt < nt := (nI_ltI (a := nt) (b := nt) (by omega) (by omega)).mp c27
      exact False.elim (by omega)
    · have c27 := c27
      have nc27 : ¬ nt < nt := fun h => c27 ((nI_ltI (a := nt) (b := nt) (by omega) (by omega)).mpr h)
      refine lv_aload_n hx hb d_S_place_30 rfl (lv_at hl 0 rfl) ?_
      refine lv_aload_n hx hb d_S_place_31 rfl (lv_at hl 1 rfl) ?_
      refine va_get (D := E.1) (cl := gp_cl) (ci := 1) (v := .int (nI nt)) (C := R_D) (T := T_D) (N := 13) hx hb hts i_D hown hK hP 1 rfl rfl 10 (by decide) (hts _ w1_45) (fun _ h9 => h9) (congrArg (fun z => some (Value.int z)) hT) d_S_place_32 ?_
      refine lv_iload hx hb d_S_place_35 (lv_at hl 4 rfl) ?_
      refine gp_cW (q0 := 2) (ci := 2) (As := [.int (nI nt), .int sc]) (rest := []) ⟨hx, hb, hml, hown, hts⟩ (c_S_keepTrial l E I F nt sc hnt) (k_S_82 hts ⟨by decide, by decide⟩ rfl rfl) hK hP hD hS hA rfl rfl rfl rfl hl.1 rfl (Nat.le_of_ble_eq_true rfl) d_S_place_37 ⟨Nat.le_of_ble_eq_true rfl, Nat.le_of_ble_eq_true rfl⟩ (fun H locs hP hD hS => ?_)
      have hP : va_P E.1 gp_cl (gp_wG E (gp_kt nt sc (I, F)).1 (gp_kt nt sc (I, F)).2) H := hP
      have hD : va_D A (gp_wG E (gp_kt nt sc (I, F)).1 (gp_kt nt sc (I, F)).2) := hD
      exact gp_wv hx hb hr hlocks hAe rfl (by rw [show gp_pl np nt 0 sc (I, F) = gp_kt nt sc (I, F) from by rw [gp_pl]; exact if_pos c18]; exact hP) hS d_S_place_40
  · have c18 := c18
    have mc18 : (I 11) ≤ (sc + ((I 10) * ((nI nt) - (nI nt)))) := Int32.not_lt.mp c18
    exact gp_wv hx hb hr hlocks hAe rfl (by rw [show gp_pl np nt 0 sc (I, F) = (I, F) from by rw [gp_pl]; exact if_neg c18]; exact hP) hS d_S_place_21
set_option maxHeartbeats 4000000 in
set_option maxRecDepth 100000 in
theorem c_S_placeS (l : Launch) (E : gp_E) (rec : Int32 → gp_S → gp_S) (LL np nt t : Nat) (hLL : 4 ≤ LL) (hnp : np ≤ 4) (hnt : nt ≤ 6) (ht : t < nt) (hkp : ∀ sc σ, gp_kp σ (rec sc σ))
    (hrec : ∀ (I : Nat → Int32) (F : Nat → Nat → Int32) (sc : Int32), I 4 = nI np → I 6 = nI nt → gp_CW l y_S_place b_S_place 6 none LL E (gp_wG E I F) (gp_wG E (rec sc (I, F)).1 (rec sc (I, F)).2) [.ref (E.2.2.2 2), .ref (E.2.2.2 1), .ref (E.2.2.2 17), .int (nI (t + 1)), .int sc] none)
    (I : Nat → Int32) (F : Nat → Nat → Int32) (sc : Int32) (hp4 : I 4 = nI np) (hT : I 6 = nI nt) :
    gp_CW l y_S_place b_S_place 6 none (LL + 2) E (gp_wG E I F) (gp_wG E (if sc + I 10 * (nI nt - nI t) < I 11 then gp_st rec np t sc (I, F) else (I, F)).1 (if sc + I 10 * (nI nt - nI t) < I 11 then gp_st rec np t sc (I, F) else (I, F)).2) [.ref (E.2.2.2 2), .ref (E.2.2.2 1), .ref (E.2.2.2 17), .int (nI t), .int sc] none := by
  refine gp_ofW (by decide) (Nat.le_of_ble_eq_true rfl) ?_
  intro xp xe xs xm below meth xc ls A hx hb hr hts hown hlocks hml hP hK hD hA hAe hl
  have hS : va_S A xs.heap xs.heap [] := va_S.rf
  have hown : xs.vm.findClass "GuidePlans$Search" = some xm.cls := hown
  have hl : lv_has ls 6 [(0, .ref (E.2.2.2 2)), (1, .ref (E.2.2.2 1)), (2, .ref (E.2.2.2 17)), (3, .int (nI t)), (4, .int sc)] := hl
  refine lv_iload hx hb d_S_place_0 (lv_at hl 4 rfl) ?_
  refine lv_aload_n hx hb d_S_place_2 rfl (lv_at hl 0 rfl) ?_
  refine va_get (D := E.1) (cl := gp_cl) (ci := 2) (v := .int (I 10)) (C := R_S) (T := T_S) (N := 9) hx hb hts i_S hown hK hP 2 rfl rfl 7 (by decide) (hts _ w1_96) (fun _ h9 => h9) rfl d_S_place_3 ?_
  refine lv_aload_n hx hb d_S_place_6 rfl (lv_at hl 1 rfl) ?_
  refine va_get (D := E.1) (cl := gp_cl) (ci := 1) (v := .int (nI nt)) (C := R_D) (T := T_D) (N := 13) hx hb hts i_D hown hK hP 1 rfl rfl 10 (by decide) (hts _ w1_45) (fun _ h9 => h9) (congrArg (fun z => some (Value.int z)) hT) d_S_place_7 ?_
  refine lv_iload_n hx hb d_S_place_10 rfl (lv_at hl 3 rfl) ?_
  refine lv_isub hx hb d_S_place_11 ?_
  refine lv_imul hx hb d_S_place_12 ?_
  refine lv_iadd hx hb d_S_place_13 ?_
  refine lv_aload_n hx hb d_S_place_14 rfl (lv_at hl 0 rfl) ?_
  refine va_get (D := E.1) (cl := gp_cl) (ci := 2) (v := .int (I 11)) (C := R_S) (T := T_S) (N := 9) hx hb hts i_S hown hK hP 2 rfl rfl 8 (by decide) (hts _ w1_97) (fun _ h9 => h9) rfl d_S_place_15 ?_
  refine lv_icmp_lt (tgt := 22) hx hb d_S_place_18 (by decide) (fun c18 => ?_) (fun c18 => ?_)
  · have c18 := c18
    have mc18 : ¬ (I 11) ≤ (sc + ((I 10) * ((nI nt) - (nI t)))) := Int32.not_le.mpr c18
    refine lv_iload_n hx hb d_S_place_22 rfl (lv_at hl 3 rfl) ?_
    refine lv_aload_n hx hb d_S_place_23 rfl (lv_at hl 1 rfl) ?_
    refine va_get (D := E.1) (cl := gp_cl) (ci := 1) (v := .int (nI nt)) (C := R_D) (T := T_D) (N := 13) hx hb hts i_D hown hK hP 1 rfl rfl 10 (by decide) (hts _ w1_45) (fun _ h9 => h9) (congrArg (fun z => some (Value.int z)) hT) d_S_place_24 ?_
    refine lv_icmp_lt (tgt := 41) hx hb d_S_place_27 (by decide) (fun c27 => ?_) (fun c27 => ?_)
    · have c27 := c27
      have nc27 : t < nt := (nI_ltI (a := t) (b := nt) (by omega) (by omega)).mp c27
      refine lv_iconst (v := 0) hx hb d_S_place_41 (by decide) ?_
      refine lv_istore (lv' := [(5, .int 0), (0, .ref (E.2.2.2 2)), (1, .ref (E.2.2.2 1)), (2, .ref (E.2.2.2 17)), (3, .int (nI t)), (4, .int sc)]) hx hb d_S_place_42 hl (by decide) rfl (fun ls hl => ?_)
      have L44 : ∀ (n : Nat) (p : Nat), p ≤ np → np + 1 ≤ p + n → ∀ (ls : Array Slot) (H : Heap) (locs : List Loc), lv_has ls 6 [(5, .int (nI p)), (0, .ref (E.2.2.2 2)), (1, .ref (E.2.2.2 1)), (2, .ref (E.2.2.2 17)), (3, .int (nI t)), (4, .int sc)] → va_P E.1 gp_cl (gp_wG E (gp_lp rec t sc (I, F) p).1 (gp_lp rec t sc (I, F) p).2) H → va_D A (gp_wG E (gp_lp rec t sc (I, F) p).1 (gp_lp rec t sc (I, F) p).2) → va_S A xs.heap H locs → W xp l xe (gp_rm (LL + 2) 0 0) xs xm ([.ref (E.2.2.2 2), .ref (E.2.2.2 1), .ref (E.2.2.2 17), .int (nI t), .int sc] : List Value).toArray below meth xc H locs 0 0 (MQ below (gp_QW E none (gp_wG E I F) (gp_wG E (if sc + I 10 * (nI nt - nI t) < I 11 then gp_st rec np t sc (I, F) else (I, F)).1 (if sc + I 10 * (nI nt - nI t) < I 11 then gp_st rec np t sc (I, F) else (I, F)).2) xs.heap.size) ([.ref (E.2.2.2 2), .ref (E.2.2.2 1), .ref (E.2.2.2 17), .int (nI t), .int sc] : List Value).toArray xs 0 0 A) (F0 xm 44 ls []) := by
        intro n
        induction n with
        | zero =>
          intro p h1 hm
          exact absurd hm (by omega)
        | succ n ih44 =>
          intro p h1 hm ls H locs hl hP hD hS
          have hk : gp_kp (I, F) (gp_lp rec t sc (I, F) p) := gp_lp_kp hkp p
          refine lv_iload hx hb d_S_place_44 (lv_at hl 0 rfl) ?_
          refine lv_aload_n hx hb d_S_place_46 rfl (lv_at hl 2 rfl) ?_
          refine va_get (D := E.1) (cl := gp_cl) (ci := 1) (v := .int (nI np)) (C := R_D) (T := T_D) (N := 13) hx hb hts i_D hown hK hP 1 rfl rfl 8 (by decide) (hts _ w1_41) (fun _ h9 => h9) (congrArg (fun z => some (Value.int z)) ((hk.1 4 (by decide)).trans hp4)) d_S_place_47 ?_
          refine lv_icmp_ge (tgt := 81) hx hb d_S_place_50 (by decide) (fun c50 => ?_) (fun c50 => ?_)
          · have c50 := c50
            have nc50 : np ≤ p := (nI_leI (a := np) (b := p) (by omega) (by omega)).mp c50
            have hpe : np = p := by omega
            subst hpe
            refine lv_aload_n hx hb d_S_place_81 rfl (lv_at hl 1 rfl) ?_
            refine va_get (D := E.1) (cl := gp_cl) (ci := 2) (v := .ref (E.2.2.2 13)) (C := R_S) (T := T_S) (N := 9) hx hb hts i_S hown hK hP 2 rfl rfl 2 (by decide) (hts _ w1_91) (fun _ h9 => h9) rfl d_S_place_82 ?_
            refine lv_iload_n hx hb d_S_place_85 rfl (lv_at hl 4 rfl) ?_
            refine gp_ald (f := ((gp_lp rec t sc (I, F) np).2 10)) (n := 6) hx hb hK hP 13 rfl (t) rfl (by omega) (by decide) d_S_place_86 ?_
            refine lv_aload_n hx hb d_S_place_87 rfl (lv_at hl 1 rfl) ?_
            refine lv_iconst (v := (-1)) hx hb d_S_place_88 (by decide) ?_
            refine gp_cR (q0 := 2) (ci := 2) (As := [.int (-1)]) (rest := [.int (((gp_lp rec t sc (I, F) np).2 10) (t))]) ⟨hx, hb, hml, hown, hts⟩ (c_S_bitOf l E (gp_lp rec t sc (I, F) np).1 (gp_lp rec t sc (I, F) np).2 (-1)) (k_S_57 hts ⟨by dsimp only [gp_rm]; omega, by dsimp only [gp_rm]; omega⟩ rfl rfl) hK hP rfl rfl rfl hl.1 rfl (Nat.le_of_ble_eq_true rfl) d_S_place_89 ⟨Nat.le_of_ble_eq_true rfl, Nat.le_of_ble_eq_true rfl⟩ ?_
            refine lv_iand hx hb d_S_place_92 ?_
            refine lv_if_eq (tgt := 125) hx hb d_S_place_93 (by decide) (fun c93 => ?_) (fun c93 => ?_)
            · have c93 := c93
              exact gp_wv hx hb hr hlocks hAe rfl (by rw [if_pos c18]; unfold gp_st; first | (rw [if_pos c93]; exact hP) | (rw [if_neg c93]; exact hP)) hS d_S_place_125
            · have c93 := c93
              refine lv_aload_n hx hb d_S_place_96 rfl (lv_at hl 1 rfl) ?_
              refine va_get (D := E.1) (cl := gp_cl) (ci := 2) (v := .ref (E.2.2.2 12)) (C := R_S) (T := T_S) (N := 9) hx hb hts i_S hown hK hP 2 rfl rfl 1 (by decide) (hts _ w1_90) (fun _ h9 => h9) rfl d_S_place_97 ?_
              refine lv_iload_n hx hb d_S_place_100 rfl (lv_at hl 4 rfl) ?_
              refine lv_iconst (v := (-1)) hx hb d_S_place_101 (by decide) ?_
              refine gp_ast (f := ((gp_lp rec t sc (I, F) np).2 9)) (n := 6) hx hb hK hP hD hS 12 rfl (t) rfl (by omega) (by decide) d_S_place_102 (fun H locs hP hD hS => ?_)
              have hP : va_P E.1 gp_cl (gp_wG E (gp_lp rec t sc (I, F) np).1 (gp_uF (gp_lp rec t sc (I, F) np).2 9 (upd ((gp_lp rec t sc (I, F) np).2 9) (t) (-1)))) H := hP
              have hD : va_D A (gp_wG E (gp_lp rec t sc (I, F) np).1 (gp_uF (gp_lp rec t sc (I, F) np).2 9 (upd ((gp_lp rec t sc (I, F) np).2 9) (t) (-1)))) := hD
              refine lv_aload_n hx hb d_S_place_103 rfl (lv_at hl 1 rfl) ?_
              refine lv_aload_n hx hb d_S_place_104 rfl (lv_at hl 2 rfl) ?_
              refine lv_aload_n hx hb d_S_place_105 rfl (lv_at hl 3 rfl) ?_
              refine lv_iload_n hx hb d_S_place_106 rfl (lv_at hl 4 rfl) ?_
              refine lv_iconst (v := 1) hx hb d_S_place_107 (by decide) ?_
              refine lv_iadd hx hb d_S_place_108 ?_
              rw [show ((nI t) + 1) = (nI (t + 1)) from nI_1 _]
              refine lv_iload hx hb d_S_place_109 (lv_at hl 5 rfl) ?_
              refine lv_aload_n hx hb d_S_place_111 rfl (lv_at hl 1 rfl) ?_
              refine lv_aload_n hx hb d_S_place_112 rfl (lv_at hl 3 rfl) ?_
              refine lv_iload_n hx hb d_S_place_113 rfl (lv_at hl 4 rfl) ?_
              refine gp_ald (f := ((gp_lp rec t sc (I, F) np).2 14)) (n := 6) hx hb hK hP 17 rfl (t) rfl (by omega) (by decide) d_S_place_114 ?_
              refine lv_iconst (v := (-1)) hx hb d_S_place_115 (by decide) ?_
              refine lv_bipush (v := 100) hx hb d_S_place_116 (by decide) ?_
              refine gp_cR (q0 := 2) (ci := 2) (As := [.int (((gp_lp rec t sc (I, F) np).2 14) (t)), .int (-1), .int 100]) (rest := [.int sc, .int (nI (t + 1)), .ref (E.2.2.2 17), .ref (E.2.2.2 1), .ref (E.2.2.2 2)]) ⟨hx, hb, hml, hown, hts⟩ (c_S_weightOf l E (gp_lp rec t sc (I, F) np).1 (gp_uF (gp_lp rec t sc (I, F) np).2 9 (upd ((gp_lp rec t sc (I, F) np).2 9) (t) (-1))) ((gp_lp rec t sc (I, F) np).2 14 t) (-1) 100) (k_S_94 hts ⟨by dsimp only [gp_rm]; omega, by dsimp only [gp_rm]; omega⟩ rfl rfl) hK hP rfl rfl rfl hl.1 rfl (Nat.le_of_ble_eq_true rfl) d_S_place_118 ⟨Nat.le_of_ble_eq_true rfl, Nat.le_of_ble_eq_true rfl⟩ ?_
              refine lv_iadd hx hb d_S_place_121 ?_
              refine gp_cW (q0 := 2) (ci := 2) (As := [.ref (E.2.2.2 1), .ref (E.2.2.2 17), .int (nI (t + 1)), .int (sc + (gp_wt (gp_lp rec t sc (I, F) np).1 ((gp_lp rec t sc (I, F) np).2 14 t) (-1) 100))]) (rest := []) ⟨hx, hb, hml, hown, hts⟩ (hrec (gp_lp rec t sc (I, F) np).1 (gp_uF (gp_lp rec t sc (I, F) np).2 9 (upd ((gp_lp rec t sc (I, F) np).2 9) (t) (-1))) (sc + gp_wt (gp_lp rec t sc (I, F) np).1 ((gp_lp rec t sc (I, F) np).2 14 t) (-1) 100) ((hk.1 4 (by decide)).trans hp4) ((hk.1 6 (by decide)).trans hT)) (k_S_68 hts ⟨by dsimp only [gp_rm]; omega, by dsimp only [gp_rm]; omega⟩ rfl rfl) hK hP hD hS hA rfl rfl rfl rfl hl.1 rfl (Nat.le_of_ble_eq_true rfl) d_S_place_122 ⟨Nat.le_of_ble_eq_true rfl, Nat.le_of_ble_eq_true rfl⟩ (fun H locs hP hD hS => ?_)
              have hP : va_P E.1 gp_cl (gp_wG E (rec (sc + gp_wt (gp_lp rec t sc (I, F) np).1 ((gp_lp rec t sc (I, F) np).2 14 t) (-1) 100) ((gp_lp rec t sc (I, F) np).1, (gp_uF (gp_lp rec t sc (I, F) np).2 9 (upd ((gp_lp rec t sc (I, F) np).2 9) (t) (-1))))).1 (rec (sc + gp_wt (gp_lp rec t sc (I, F) np).1 ((gp_lp rec t sc (I, F) np).2 14 t) (-1) 100) ((gp_lp rec t sc (I, F) np).1, (gp_uF (gp_lp rec t sc (I, F) np).2 9 (upd ((gp_lp rec t sc (I, F) np).2 9) (t) (-1))))).2) H := hP
              have hD : va_D A (gp_wG E (rec (sc + gp_wt (gp_lp rec t sc (I, F) np).1 ((gp_lp rec t sc (I, F) np).2 14 t) (-1) 100) ((gp_lp rec t sc (I, F) np).1, (gp_uF (gp_lp rec t sc (I, F) np).2 9 (upd ((gp_lp rec t sc (I, F) np).2 9) (t) (-1))))).1 (rec (sc + gp_wt (gp_lp rec t sc (I, F) np).1 ((gp_lp rec t sc (I, F) np).2 14 t) (-1) 100) ((gp_lp rec t sc (I, F) np).1, (gp_uF (gp_lp rec t sc (I, F) np).2 9 (upd ((gp_lp rec t sc (I, F) np).2 9) (t) (-1))))).2) := hD
              exact gp_wv hx hb hr hlocks hAe rfl (by rw [if_pos c18]; unfold gp_st; first | (rw [if_pos c93]; exact hP) | (rw [if_neg c93]; exact hP)) hS d_S_place_125
          · have c50 := c50
            have nc50 : ¬ np ≤ p := fun h => c50 ((nI_leI (a := np) (b := p) (by omega) (by omega)).mpr h)
            refine lv_aload_n hx hb d_S_place_53 rfl (lv_at hl 1 rfl) ?_
            refine lv_aload_n hx hb d_S_place_54 rfl (lv_at hl 2 rfl) ?_
            refine lv_iload hx hb d_S_place_55 (lv_at hl 0 rfl) ?_
            refine lv_iload_n hx hb d_S_place_57 rfl (lv_at hl 4 rfl) ?_
            refine gp_cR (q0 := 2) (ci := 2) (As := [.ref (E.2.2.2 1), .int (nI p), .int (nI t)]) (rest := []) ⟨hx, hb, hml, hown, hts⟩ (c_S_mayTake l E (gp_lp rec t sc (I, F) p).1 (gp_lp rec t sc (I, F) p).2 nt p t ((hk.1 6 (by decide)).trans hT) hnt ht (by omega)) (k_S_86 hts ⟨by dsimp only [gp_rm]; omega, by dsimp only [gp_rm]; omega⟩ rfl rfl) hK hP rfl rfl rfl hl.1 rfl (Nat.le_of_ble_eq_true rfl) d_S_place_58 ⟨Nat.le_of_ble_eq_true rfl, Nat.le_of_ble_eq_true rfl⟩ ?_
            by_cases hs58 : gp_may (gp_lp rec t sc (I, F) p).1 (gp_lp rec t sc (I, F) p).2 p t = true
            · rw [if_pos hs58]
              refine lv_if_eq (tgt := 75) hx hb d_S_place_61 (by decide) (fun c61 => ?_) (fun c61 => ?_)
              · exact absurd c61 (by decide)
              · have c61 := c61
                have nc61 : ¬ 1 = 0 := fun h => c61 ((nI_eq (a := 1) (b := 0) (by omega) (by omega)).mpr h)
                refine lv_aload_n hx hb d_S_place_64 rfl (lv_at hl 1 rfl) ?_
                refine lv_aload_n hx hb d_S_place_65 rfl (lv_at hl 2 rfl) ?_
                refine lv_aload_n hx hb d_S_place_66 rfl (lv_at hl 3 rfl) ?_
                refine lv_iload_n hx hb d_S_place_67 rfl (lv_at hl 4 rfl) ?_
                refine lv_iload hx hb d_S_place_68 (lv_at hl 5 rfl) ?_
                refine lv_iload hx hb d_S_place_70 (lv_at hl 0 rfl) ?_
                refine gp_cW (q0 := 2) (ci := 2) (As := [.ref (E.2.2.2 1), .ref (E.2.2.2 17), .int (nI t), .int sc, .int (nI p)]) (rest := []) ⟨hx, hb, hml, hown, hts⟩ (c_S_placePerson l E rec LL np nt t hLL hnp hnt ht hkp hrec (gp_lp rec t sc (I, F) p).1 (gp_lp rec t sc (I, F) p).2 sc p (by omega) ((hk.1 4 (by decide)).trans hp4) ((hk.1 6 (by decide)).trans hT)) (k_S_90 hts ⟨by dsimp only [gp_rm]; omega, by dsimp only [gp_rm]; omega⟩ rfl rfl) hK hP hD hS hA rfl rfl rfl rfl hl.1 rfl (Nat.le_of_ble_eq_true rfl) d_S_place_72 ⟨Nat.le_of_ble_eq_true rfl, Nat.le_of_ble_eq_true rfl⟩ (fun H locs hP hD hS => ?_)
                have hP : va_P E.1 gp_cl (gp_wG E (gp_pp rec t p sc (gp_lp rec t sc (I, F) p)).1 (gp_pp rec t p sc (gp_lp rec t sc (I, F) p)).2) H := hP
                have hD : va_D A (gp_wG E (gp_pp rec t p sc (gp_lp rec t sc (I, F) p)).1 (gp_pp rec t p sc (gp_lp rec t sc (I, F) p)).2) := hD
                refine lv_iinc (v := (nI (p + 1))) (lv' := [(5, .int (nI (p + 1))), (0, .ref (E.2.2.2 2)), (1, .ref (E.2.2.2 1)), (2, .ref (E.2.2.2 17)), (3, .int (nI t)), (4, .int sc)]) hx hb d_S_place_75 hl (k := 0) rfl (nI_1 _) (by decide) rfl (fun ls hl => ?_)
                refine lv_goto (tgt := 44) hx hb d_S_place_78 (by decide) ?_
                exact ih44 (p + 1) (by omega) (by omega) ls _ _ (lv_sub hl [0, 1, 2, 3, 4, 5] rfl) (by first | (rw [gp_lp, if_pos hs58]; exact hP) | (rw [gp_lp, if_neg hs58]; exact hP)) (gp_dd hD rfl) hS
            · rw [if_neg hs58]
              refine lv_if_eq (tgt := 75) hx hb d_S_place_61 (by decide) (fun c61 => ?_) (fun c61 => ?_)
              · have c61 := c61
                have nc61 : 0 = 0 := (nI_eq (a := 0) (b := 0) (by omega) (by omega)).mp c61
                refine lv_iinc (v := (nI (p + 1))) (lv' := [(5, .int (nI (p + 1))), (0, .ref (E.2.2.2 2)), (1, .ref (E.2.2.2 1)), (2, .ref (E.2.2.2 17)), (3, .int (nI t)), (4, .int sc)]) hx hb d_S_place_75 hl (k := 0) rfl (nI_1 _) (by decide) rfl (fun ls hl => ?_)
                refine lv_goto (tgt := 44) hx hb d_S_place_78 (by decide) ?_
                exact ih44 (p + 1) (by omega) (by omega) ls _ _ (lv_sub hl [0, 1, 2, 3, 4, 5] rfl) (by first | (rw [gp_lp, if_pos hs58]; exact hP) | (rw [gp_lp, if_neg hs58]; exact hP)) (gp_dd hD rfl) hS
              · exact absurd c61 (by decide)
      exact L44 (np + 1) 0 (Nat.zero_le _) (by omega) ls _ _ (lv_sub hl [0, 1, 2, 3, 4, 5] rfl) (hP) (hD) hS
    · have c27 := c27
      have nc27 : ¬ t < nt := fun h => c27 ((nI_ltI (a := t) (b := nt) (by omega) (by omega)).mpr h)
      exact False.elim (by omega)
  · have c18 := c18
    have mc18 : (I 11) ≤ (sc + ((I 10) * ((nI nt) - (nI t)))) := Int32.not_lt.mp c18
    exact gp_wv hx hb hr hlocks hAe rfl (by rw [if_neg c18]; exact hP) hS d_S_place_21
theorem c_S_place (l : Launch) (E : gp_E) (np nt : Nat) (hnp : np ≤ 4) (hnt : nt ≤ 6) : ∀ (k t : Nat), t + k = nt → ∀ (I : Nat → Int32) (F : Nat → Nat → Int32) (sc : Int32), I 4 = nI np → I 6 = nI nt →
    gp_CW l y_S_place b_S_place 6 none (4 + 2 * k) E (gp_wG E I F) (gp_wG E (gp_pl np nt k sc (I, F)).1 (gp_pl np nt k sc (I, F)).2) [.ref (E.2.2.2 2), .ref (E.2.2.2 1), .ref (E.2.2.2 17), .int (nI t), .int sc] none := by
  intro k
  induction k with
  | zero =>
    intro t ht I F sc hp4 hT
    obtain rfl : t = nt := ht
    exact c_S_place0 l E np t hnp hnt I F sc hp4 hT
  | succ k ih =>
    intro t ht I F sc hp4 hT
    have h := c_S_placeS l E (gp_pl np nt k) (4 + 2 * k) np nt t (by omega) hnp hnt (by omega) (gp_pl_kp k) (ih (t + 1) (by omega)) I F sc hp4 hT
    have e : gp_pl np nt (k + 1) sc (I, F) = (if sc + I 10 * (nI nt - nI t) < I 11 then gp_st (gp_pl np nt k) np t sc (I, F) else (I, F)) := by
      rw [gp_pl, show nt - (k + 1) = t by omega]
    rw [e]
    exact h
