theorem gm_su_9 {F : Nat → Nat → Int32} {g : Nat → Int32} {p t k : Nat} : gm_su (gp_uF F 9 g) p t k = gm_su F p t k := by
  have h : ∀ k, gp_ofN (gp_uF F 9 g) (nI p) t k = gp_ofN F (nI p) t k := fun k => gp_ofN_c (fun a ha => gp_uF_ne (by omega)) _ _ k
  simp only [gm_su, h]
  rfl
set_option maxHeartbeats 4000000 in
set_option maxRecDepth 100000 in
theorem c_M_swapN (l : Launch) (E : gp_E) (I : Nat → Int32) (F : Nat → Nat → Int32) (np nt ns a b : Nat) (hp4 : I 1 = nI np) (hT : I 3 = nI nt) (hN : I 2 = nI ns) (hnp : np ≤ 4) (hnt : nt ≤ 6) (hns : ns ≤ 20) (ha : a < nt) (hb2 : b < nt) (hva : F 8 a = -1 ∨ ∃ p, p < np ∧ F 8 a = nI p) (hvb : F 8 b = -1 ∨ ∃ p, p < np ∧ F 8 b = nI p) (hpl : I 4 = 1) : gp_CW l y_M_swap b_M_swap 5 (some .int) 3 E (gp_wM E I F) (gp_wM E (upd I 0 0) (gm_sw I F ns nt a b)) [.ref (E.2.2.2 0), .int (nI a), .int (nI b)] (some (.int (gm_swr I F ns nt a b))) := by
  refine gp_ofW (by decide) (Nat.le_of_ble_eq_true rfl) ?_
  intro xp xe xs xm below meth xc ls A hx hb hr hts hown hlocks hml hP hK hD hA hAe hl
  have hS : va_S A xs.heap xs.heap [] := va_S.rf
  have hown : xs.vm.findClass "GuidePlansModel" = some xm.cls := hown
  have hl : lv_has ls 5 [(0, .ref (E.2.2.2 0)), (1, .int (nI a)), (2, .int (nI b))] := hl
  refine lv_aload_n hx hb d_M_swap_0 rfl (lv_at hl 0 rfl) ?_
  refine lv_aload_n hx hb d_M_swap_1 rfl (lv_at hl 0 rfl) ?_
  refine lv_iload_n hx hb d_M_swap_2 rfl (lv_at hl 1 rfl) ?_
  refine gp_cR (q0 := 0) (ci := 3) (As := [.int (nI a)]) (rest := [.ref (E.2.2.2 0)]) ⟨hx, hb, hml, hown, hts⟩ (show gp_CR _ _ _ _ _ _ _ _ _ 1 from by have h9 := c_M_isTask l E I F (nI a); rw [hT, gp_in_1 ha (by omega), if_pos rfl] at h9; exact h9) (k_M_149 hts ⟨by decide, by decide⟩ rfl rfl) hK hP rfl rfl rfl hl.1 rfl (Nat.le_of_ble_eq_true rfl) d_M_swap_3 ⟨Nat.le_of_ble_eq_true rfl, Nat.le_of_ble_eq_true rfl⟩ ?_
  refine lv_if_eq (tgt := 21) hx hb d_M_swap_6 (by decide) (fun c6 => ?_) (fun c6 => ?_)
  · exact absurd c6 (by decide)
  · have c6 := c6
    have nc6 : ¬ 1 = 0 := fun h => c6 ((nI_eq (a := 1) (b := 0) (by omega) (by omega)).mpr h)
    refine lv_aload_n hx hb d_M_swap_9 rfl (lv_at hl 0 rfl) ?_
    refine lv_iload_n hx hb d_M_swap_10 rfl (lv_at hl 2 rfl) ?_
    refine gp_cR (q0 := 0) (ci := 3) (As := [.int (nI b)]) (rest := [.ref (E.2.2.2 0)]) ⟨hx, hb, hml, hown, hts⟩ (show gp_CR _ _ _ _ _ _ _ _ _ 1 from by have h9 := c_M_isTask l E I F (nI b); rw [hT, gp_in_1 hb2 (by omega), if_pos rfl] at h9; exact h9) (k_M_149 hts ⟨by decide, by decide⟩ rfl rfl) hK hP rfl rfl rfl hl.1 rfl (Nat.le_of_ble_eq_true rfl) d_M_swap_11 ⟨Nat.le_of_ble_eq_true rfl, Nat.le_of_ble_eq_true rfl⟩ ?_
    refine lv_if_eq (tgt := 21) hx hb d_M_swap_14 (by decide) (fun c14 => ?_) (fun c14 => ?_)
    · exact absurd c14 (by decide)
    · have c14 := c14
      have nc14 : ¬ 1 = 0 := fun h => c14 ((nI_eq (a := 1) (b := 0) (by omega) (by omega)).mpr h)
      refine lv_iconst (v := 1) hx hb d_M_swap_17 (by decide) ?_
      refine lv_goto (tgt := 22) hx hb d_M_swap_18 (by decide) ?_
      refine lv_aload_n hx hb d_M_swap_22 rfl (lv_at hl 0 rfl) ?_
      refine va_get (D := E.1) (cl := gp_cl) (ci := 3) (v := .int (I 4)) (C := R_M) (T := T_M) (N := 27) hx hb hts i_M hown hK hP 0 rfl rfl 16 (by decide) (hts _ w3_68) (fun _ h9 => h9) rfl d_M_swap_23 ?_
      rw [show (I 4) = 1 from hpl]
      refine lv_iconst (v := 1) hx hb d_M_swap_26 (by decide) ?_
      refine gp_cW (q0 := 0) (ci := 3) (As := [.int 1, .int 1, .int 1]) (rest := []) ⟨hx, hb, hml, hown, hts⟩ (show gp_CW l y_M_goes b_M_goes 4 (some .boolean) 1 E (gp_wM E I F) (gp_wM E (upd I 0 0) F) [.ref (E.2.2.2 0), .int 1, .int 1, .int 1] (some (.int 1)) from c_M_goes l E I F 1 1 1) (k_M_70 hts ⟨by decide, by decide⟩ rfl rfl) hK hP hD hS hA rfl rfl rfl rfl hl.1 rfl (Nat.le_of_ble_eq_true rfl) d_M_swap_27 ⟨Nat.le_of_ble_eq_true rfl, Nat.le_of_ble_eq_true rfl⟩ (fun H locs hP hD hS => ?_)
      have hP : va_P E.1 gp_cl (gp_wM E (upd I 0 0) F) H := hP
      have hD : va_D A (gp_wM E (upd I 0 0) F) := hD
      refine W.eq (g2 := F0 xm 30 ls [.int 1]) rfl ?_
      refine lv_if_ne (tgt := 35) hx hb d_M_swap_30 (by decide) (fun c30 => ?_) (fun c30 => ?_)
      · have c30 := c30
        have nc30 : ¬ 1 = 0 := fun h => c30 ((nI_eq (a := 1) (b := 0) (by omega) (by omega)).mpr h)
        refine lv_aload_n hx hb d_M_swap_35 rfl (lv_at hl 0 rfl) ?_
        refine gp_cW (q0 := 0) (ci := 3) (As := []) (rest := []) ⟨hx, hb, hml, hown, hts⟩ (c_M_tryPlan l E (upd I 0 0) F nt hT hnt) (k_M_152 hts ⟨by decide, by decide⟩ rfl rfl) hK hP hD hS hA rfl rfl rfl rfl hl.1 rfl (Nat.le_of_ble_eq_true rfl) d_M_swap_36 ⟨Nat.le_of_ble_eq_true rfl, Nat.le_of_ble_eq_true rfl⟩ (fun H locs hP hD hS => ?_)
        have hP : va_P E.1 gp_cl (gp_wM E (upd I 0 0) (gp_uF F 9 (fun j => if j < nt then F 8 j else F 9 j))) H := hP
        have hD : va_D A (gp_wM E (upd I 0 0) (gp_uF F 9 (fun j => if j < nt then F 8 j else F 9 j))) := hD
        refine lv_aload_n hx hb d_M_swap_39 rfl (lv_at hl 0 rfl) ?_
        refine va_get (D := E.1) (cl := gp_cl) (ci := 3) (v := .ref (E.2.2.2 10)) (C := R_M) (T := T_M) (N := 27) hx hb hts i_M hown hK hP 0 rfl rfl 13 (by decide) (hts _ w3_65) (fun _ h9 => h9) rfl d_M_swap_40 ?_
        refine lv_iload_n hx hb d_M_swap_43 rfl (lv_at hl 1 rfl) ?_
        refine lv_aload_n hx hb d_M_swap_44 rfl (lv_at hl 0 rfl) ?_
        refine va_get (D := E.1) (cl := gp_cl) (ci := 3) (v := .ref (E.2.2.2 9)) (C := R_M) (T := T_M) (N := 27) hx hb hts i_M hown hK hP 0 rfl rfl 12 (by decide) (hts _ w3_64) (fun _ h9 => h9) rfl d_M_swap_45 ?_
        refine lv_iload_n hx hb d_M_swap_48 rfl (lv_at hl 2 rfl) ?_
        refine gp_ald (f := (F 8)) (n := 6) hx hb hK hP 9 rfl (b) rfl (by omega) (by decide) d_M_swap_49 ?_
        refine gp_ast (f := (fun j => if j < nt then F 8 j else F 9 j)) (n := 6) hx hb hK hP hD hS 10 rfl (a) rfl (by omega) (by decide) d_M_swap_50 (fun H locs hP hD hS => ?_)
        have hP : va_P E.1 gp_cl (gp_wM E (upd I 0 0) (gp_uF (gp_uF F 9 (fun j => if j < nt then F 8 j else F 9 j)) 9 (upd (fun j => if j < nt then F 8 j else F 9 j) (a) ((F 8) (b))))) H := hP
        have hD : va_D A (gp_wM E (upd I 0 0) (gp_uF (gp_uF F 9 (fun j => if j < nt then F 8 j else F 9 j)) 9 (upd (fun j => if j < nt then F 8 j else F 9 j) (a) ((F 8) (b))))) := hD
        refine lv_aload_n hx hb d_M_swap_51 rfl (lv_at hl 0 rfl) ?_
        refine va_get (D := E.1) (cl := gp_cl) (ci := 3) (v := .ref (E.2.2.2 10)) (C := R_M) (T := T_M) (N := 27) hx hb hts i_M hown hK hP 0 rfl rfl 13 (by decide) (hts _ w3_65) (fun _ h9 => h9) rfl d_M_swap_52 ?_
        refine lv_iload_n hx hb d_M_swap_55 rfl (lv_at hl 2 rfl) ?_
        refine lv_aload_n hx hb d_M_swap_56 rfl (lv_at hl 0 rfl) ?_
        refine va_get (D := E.1) (cl := gp_cl) (ci := 3) (v := .ref (E.2.2.2 9)) (C := R_M) (T := T_M) (N := 27) hx hb hts i_M hown hK hP 0 rfl rfl 12 (by decide) (hts _ w3_64) (fun _ h9 => h9) rfl d_M_swap_57 ?_
        refine lv_iload_n hx hb d_M_swap_60 rfl (lv_at hl 1 rfl) ?_
        refine gp_ald (f := (F 8)) (n := 6) hx hb hK hP 9 rfl (a) rfl (by omega) (by decide) d_M_swap_61 ?_
        refine gp_ast (f := (upd (fun j => if j < nt then F 8 j else F 9 j) (a) ((F 8) (b)))) (n := 6) hx hb hK hP hD hS 10 rfl (b) rfl (by omega) (by decide) d_M_swap_62 (fun H locs hP hD hS => ?_)
        have hP : va_P E.1 gp_cl (gp_wM E (upd I 0 0) (gp_uF (gp_uF (gp_uF F 9 (fun j => if j < nt then F 8 j else F 9 j)) 9 (upd (fun j => if j < nt then F 8 j else F 9 j) (a) ((F 8) (b)))) 9 (upd (upd (fun j => if j < nt then F 8 j else F 9 j) (a) ((F 8) (b))) (b) ((F 8) (a))))) H := hP
        have hD : va_D A (gp_wM E (upd I 0 0) (gp_uF (gp_uF (gp_uF F 9 (fun j => if j < nt then F 8 j else F 9 j)) 9 (upd (fun j => if j < nt then F 8 j else F 9 j) (a) ((F 8) (b)))) 9 (upd (upd (fun j => if j < nt then F 8 j else F 9 j) (a) ((F 8) (b))) (b) ((F 8) (a))))) := hD
        have hP : va_P E.1 gp_cl (gp_wM E (upd I 0 0) (gm_sF F nt a b)) H := hP
        have hD : va_D A (gp_wM E (upd I 0 0) (gm_sF F nt a b)) := hD
        refine lv_aload_n hx hb d_M_swap_63 rfl (lv_at hl 0 rfl) ?_
        refine va_get (D := E.1) (cl := gp_cl) (ci := 3) (v := .ref (E.2.2.2 9)) (C := R_M) (T := T_M) (N := 27) hx hb hts i_M hown hK hP 0 rfl rfl 12 (by decide) (hts _ w3_64) (fun _ h9 => h9) rfl d_M_swap_64 ?_
        refine lv_iload_n hx hb d_M_swap_67 rfl (lv_at hl 1 rfl) ?_
        refine gp_ald (f := (F 8)) (n := 6) hx hb hK hP 9 rfl (a) rfl (by omega) (by decide) d_M_swap_68 ?_
        refine lv_istore_n (lv' := [(3, .int ((F 8) (a))), (0, .ref (E.2.2.2 0)), (1, .int (nI a)), (2, .int (nI b))]) hx hb d_M_swap_69 rfl hl (by decide) rfl (fun ls hl => ?_)
        refine lv_aload_n hx hb d_M_swap_70 rfl (lv_at hl 1 rfl) ?_
        refine va_get (D := E.1) (cl := gp_cl) (ci := 3) (v := .ref (E.2.2.2 9)) (C := R_M) (T := T_M) (N := 27) hx hb hts i_M hown hK hP 0 rfl rfl 12 (by decide) (hts _ w3_64) (fun _ h9 => h9) rfl d_M_swap_71 ?_
        refine lv_iload_n hx hb d_M_swap_74 rfl (lv_at hl 3 rfl) ?_
        refine gp_ald (f := (F 8)) (n := 6) hx hb hK hP 9 rfl (b) rfl (by omega) (by decide) d_M_swap_75 ?_
        refine lv_istore (lv' := [(4, .int ((F 8) (b))), (3, .int ((F 8) (a))), (0, .ref (E.2.2.2 0)), (1, .int (nI a)), (2, .int (nI b))]) hx hb d_M_swap_76 hl (by decide) rfl (fun ls hl => ?_)
        refine lv_aload_n hx hb d_M_swap_78 rfl (lv_at hl 2 rfl) ?_
        refine va_get (D := E.1) (cl := gp_cl) (ci := 3) (v := .ref (E.2.2.2 6)) (C := R_M) (T := T_M) (N := 27) hx hb hts i_M hown hK hP 0 rfl rfl 9 (by decide) (hts _ w3_61) (fun _ h9 => h9) rfl d_M_swap_79 ?_
        refine lv_iload_n hx hb d_M_swap_82 rfl (lv_at hl 3 rfl) ?_
        refine gp_ald (f := (F 5)) (n := 6) hx hb hK hP 6 rfl (a) rfl (by omega) (by decide) d_M_swap_83 ?_
        refine lv_aload_n hx hb d_M_swap_84 rfl (lv_at hl 2 rfl) ?_
        refine va_get (D := E.1) (cl := gp_cl) (ci := 3) (v := .int (I 7)) (C := R_M) (T := T_M) (N := 27) hx hb hts i_M hown hK hP 0 rfl rfl 19 (by decide) (hts _ w3_71) (fun _ h9 => h9) rfl d_M_swap_85 ?_
        refine lv_icmp_lt (tgt := 104) hx hb d_M_swap_88 (by decide) (fun c88 => ?_) (fun c88 => ?_)
        · have c88 := c88
          have mc88 : ¬ ((I 7) : Int32) ≤ ((F 5) (a)) := Int32.not_le.mpr c88
          refine lv_iconst (v := 1) hx hb d_M_swap_104 (by decide) ?_
          exact gp_wi hx hb hr hlocks hAe (by first | (rw [gm_swr, if_pos (by first | exact Or.inl c88 | exact Or.inr mc101 | exact Or.inr (Int32.not_le.mp c101))])) (by first | (rw [gm_sw, if_neg (by rw [gm_swr, if_pos (by first | exact Or.inl c88 | exact Or.inr mc101 | exact Or.inr (Int32.not_le.mp c101))]; decide)]; exact hP)) hS d_M_swap_105
        · have c88 := c88
          have mc88 : ((I 7) : Int32) ≤ ((F 5) (a)) := Int32.not_lt.mp c88
          refine lv_aload_n hx hb d_M_swap_91 rfl (lv_at hl 2 rfl) ?_
          refine va_get (D := E.1) (cl := gp_cl) (ci := 3) (v := .ref (E.2.2.2 6)) (C := R_M) (T := T_M) (N := 27) hx hb hts i_M hown hK hP 0 rfl rfl 9 (by decide) (hts _ w3_61) (fun _ h9 => h9) rfl d_M_swap_92 ?_
          refine lv_iload_n hx hb d_M_swap_95 rfl (lv_at hl 4 rfl) ?_
          refine gp_ald (f := (F 5)) (n := 6) hx hb hK hP 6 rfl (b) rfl (by omega) (by decide) d_M_swap_96 ?_
          refine lv_aload_n hx hb d_M_swap_97 rfl (lv_at hl 2 rfl) ?_
          refine va_get (D := E.1) (cl := gp_cl) (ci := 3) (v := .int (I 7)) (C := R_M) (T := T_M) (N := 27) hx hb hts i_M hown hK hP 0 rfl rfl 19 (by decide) (hts _ w3_71) (fun _ h9 => h9) rfl d_M_swap_98 ?_
          refine lv_icmp_ge (tgt := 106) hx hb d_M_swap_101 (by decide) (fun c101 => ?_) (fun c101 => ?_)
          · have c101 := c101
            have mc101 : ¬ (((F 5) (b)) : Int32) < (I 7) := Int32.not_lt.mpr c101
            refine lv_aload_n hx hb d_M_swap_106 rfl (lv_at hl 2 rfl) ?_
            refine lv_iload_n hx hb d_M_swap_107 rfl (lv_at hl 3 rfl) ?_
            refine lv_iload hx hb d_M_swap_108 (lv_at hl 0 rfl) ?_
            refine gp_cR (q0 := 0) (ci := 3) (As := [.int (nI a), .int ((F 8) (b))]) (rest := []) ⟨hx, hb, hml, hown, hts⟩ (show gp_CR _ _ _ _ _ _ _ _ _ (if gm_emp F a (F 8 b) then 1 else 0) from c_M_isEmptied l E (upd I 0 0) (gp_uF F 9 (upd (upd (fun j => if j < nt then F 8 j else F 9 j) a (F 8 b)) b (F 8 a))) a (F 8 b) (by omega)) (k_M_158 hts ⟨by decide, by decide⟩ rfl rfl) hK hP rfl rfl rfl hl.1 rfl (Nat.le_of_ble_eq_true rfl) d_M_swap_110 ⟨Nat.le_of_ble_eq_true rfl, Nat.le_of_ble_eq_true rfl⟩ ?_
            by_cases hs110 : gm_emp F a (F 8 b) = true
            · rw [show ((if gm_emp F a (F 8 b) then 1 else 0) : Int32) = 1 from if_pos hs110]
              refine lv_if_ne (tgt := 125) hx hb d_M_swap_113 (by decide) (fun c113 => ?_) (fun c113 => ?_)
              · have c113 := c113
                have nc113 : ¬ 1 = 0 := fun h => c113 ((nI_eq (a := 1) (b := 0) (by omega) (by omega)).mpr h)
                refine lv_iconst (v := 2) hx hb d_M_swap_125 (by decide) ?_
                exact gp_wi hx hb hr hlocks hAe (by first | (rw [gm_swr, if_neg (fun q => q.elim (fun z => c88 z) (fun z => by first | exact mc101 z | exact (Int32.not_le.mpr z) c101)), if_pos (by first | exact Or.inl hs110 | exact Or.inr hs119)])) (by first | (rw [gm_sw, if_neg (by rw [gm_swr, if_neg (fun q => q.elim (fun z => c88 z) (fun z => by first | exact mc101 z | exact (Int32.not_le.mpr z) c101)), if_pos (by first | exact Or.inl hs110 | exact Or.inr hs119)]; decide)]; exact hP)) hS d_M_swap_126
              · exact absurd c113 (by decide)
            · rw [show ((if gm_emp F a (F 8 b) then 1 else 0) : Int32) = 0 from if_neg hs110]
              refine lv_if_ne (tgt := 125) hx hb d_M_swap_113 (by decide) (fun c113 => ?_) (fun c113 => ?_)
              · exact absurd c113 (by decide)
              · have c113 := c113
                have nc113 : 0 = 0 := (nI_eq (a := 0) (b := 0) (by omega) (by omega)).mp c113
                refine lv_aload_n hx hb d_M_swap_116 rfl (lv_at hl 2 rfl) ?_
                refine lv_iload_n hx hb d_M_swap_117 rfl (lv_at hl 4 rfl) ?_
                refine lv_iload_n hx hb d_M_swap_118 rfl (lv_at hl 1 rfl) ?_
                refine gp_cR (q0 := 0) (ci := 3) (As := [.int (nI b), .int ((F 8) (a))]) (rest := []) ⟨hx, hb, hml, hown, hts⟩ (show gp_CR _ _ _ _ _ _ _ _ _ (if gm_emp F b (F 8 a) then 1 else 0) from c_M_isEmptied l E (upd I 0 0) (gp_uF F 9 (upd (upd (fun j => if j < nt then F 8 j else F 9 j) a (F 8 b)) b (F 8 a))) b (F 8 a) (by omega)) (k_M_158 hts ⟨by decide, by decide⟩ rfl rfl) hK hP rfl rfl rfl hl.1 rfl (Nat.le_of_ble_eq_true rfl) d_M_swap_119 ⟨Nat.le_of_ble_eq_true rfl, Nat.le_of_ble_eq_true rfl⟩ ?_
                by_cases hs119 : gm_emp F b (F 8 a) = true
                · rw [show ((if gm_emp F b (F 8 a) then 1 else 0) : Int32) = 1 from if_pos hs119]
                  refine lv_if_eq (tgt := 127) hx hb d_M_swap_122 (by decide) (fun c122 => ?_) (fun c122 => ?_)
                  · exact absurd c122 (by decide)
                  · have c122 := c122
                    have nc122 : ¬ 1 = 0 := fun h => c122 ((nI_eq (a := 1) (b := 0) (by omega) (by omega)).mpr h)
                    refine lv_iconst (v := 2) hx hb d_M_swap_125 (by decide) ?_
                    exact gp_wi hx hb hr hlocks hAe (by first | (rw [gm_swr, if_neg (fun q => q.elim (fun z => c88 z) (fun z => by first | exact mc101 z | exact (Int32.not_le.mpr z) c101)), if_pos (by first | exact Or.inl hs110 | exact Or.inr hs119)])) (by first | (rw [gm_sw, if_neg (by rw [gm_swr, if_neg (fun q => q.elim (fun z => c88 z) (fun z => by first | exact mc101 z | exact (Int32.not_le.mpr z) c101)), if_pos (by first | exact Or.inl hs110 | exact Or.inr hs119)]; decide)]; exact hP)) hS d_M_swap_126
                · rw [show ((if gm_emp F b (F 8 a) then 1 else 0) : Int32) = 0 from if_neg hs119]
                  refine lv_if_eq (tgt := 127) hx hb d_M_swap_122 (by decide) (fun c122 => ?_) (fun c122 => ?_)
                  · have c122 := c122
                    have nc122 : 0 = 0 := (nI_eq (a := 0) (b := 0) (by omega) (by omega)).mp c122
                    refine lv_aload_n hx hb d_M_swap_127 rfl (lv_at hl 2 rfl) ?_
                    refine lv_iload_n hx hb d_M_swap_128 rfl (lv_at hl 3 rfl) ?_
                    refine lv_iload hx hb d_M_swap_129 (lv_at hl 0 rfl) ?_
                    refine gp_cR (q0 := 0) (ci := 3) (As := [.int (nI a), .int ((F 8) (b))]) (rest := []) ⟨hx, hb, hml, hown, hts⟩ (show gp_CR _ _ _ _ _ _ _ _ _ (if gm_unf F ns (F 8 b) a then 1 else 0) from (show gm_unf (gp_uF F 9 (upd (upd (fun j => if j < nt then F 8 j else F 9 j) a (F 8 b)) b (F 8 a))) ns (F 8 b) a = gm_unf F ns (F 8 b) a from by simp only [gm_unf, gm_su_9]) ▸ c_M_isUnfit l E (upd I 0 0) (gp_uF F 9 (upd (upd (fun j => if j < nt then F 8 j else F 9 j) a (F 8 b)) b (F 8 a))) np ns a (F 8 b) hN hns hnp (by omega) hvb) (k_M_161 hts ⟨by decide, by decide⟩ rfl rfl) hK hP rfl rfl rfl hl.1 rfl (Nat.le_of_ble_eq_true rfl) d_M_swap_131 ⟨Nat.le_of_ble_eq_true rfl, Nat.le_of_ble_eq_true rfl⟩ ?_
                    by_cases hs131 : gm_unf F ns (F 8 b) a = true
                    · rw [show ((if gm_unf F ns (F 8 b) a then 1 else 0) : Int32) = 1 from if_pos hs131]
                      refine lv_if_ne (tgt := 146) hx hb d_M_swap_134 (by decide) (fun c134 => ?_) (fun c134 => ?_)
                      · have c134 := c134
                        have nc134 : ¬ 1 = 0 := fun h => c134 ((nI_eq (a := 1) (b := 0) (by omega) (by omega)).mpr h)
                        refine lv_iconst (v := 3) hx hb d_M_swap_146 (by decide) ?_
                        exact gp_wi hx hb hr hlocks hAe (by first | (rw [gm_swr, if_neg (fun q => q.elim (fun z => c88 z) (fun z => by first | exact mc101 z | exact (Int32.not_le.mpr z) c101)), if_neg (fun q => q.elim hs110 hs119), if_pos (by first | exact Or.inl hs131 | exact Or.inr hs140)])) (by first | (rw [gm_sw, if_neg (by rw [gm_swr, if_neg (fun q => q.elim (fun z => c88 z) (fun z => by first | exact mc101 z | exact (Int32.not_le.mpr z) c101)), if_neg (fun q => q.elim hs110 hs119), if_pos (by first | exact Or.inl hs131 | exact Or.inr hs140)]; decide)]; exact hP)) hS d_M_swap_147
                      · exact absurd c134 (by decide)
                    · rw [show ((if gm_unf F ns (F 8 b) a then 1 else 0) : Int32) = 0 from if_neg hs131]
                      refine lv_if_ne (tgt := 146) hx hb d_M_swap_134 (by decide) (fun c134 => ?_) (fun c134 => ?_)
                      · exact absurd c134 (by decide)
                      · have c134 := c134
                        have nc134 : 0 = 0 := (nI_eq (a := 0) (b := 0) (by omega) (by omega)).mp c134
                        refine lv_aload_n hx hb d_M_swap_137 rfl (lv_at hl 2 rfl) ?_
                        refine lv_iload_n hx hb d_M_swap_138 rfl (lv_at hl 4 rfl) ?_
                        refine lv_iload_n hx hb d_M_swap_139 rfl (lv_at hl 1 rfl) ?_
                        refine gp_cR (q0 := 0) (ci := 3) (As := [.int (nI b), .int ((F 8) (a))]) (rest := []) ⟨hx, hb, hml, hown, hts⟩ (show gp_CR _ _ _ _ _ _ _ _ _ (if gm_unf F ns (F 8 a) b then 1 else 0) from (show gm_unf (gp_uF F 9 (upd (upd (fun j => if j < nt then F 8 j else F 9 j) a (F 8 b)) b (F 8 a))) ns (F 8 a) b = gm_unf F ns (F 8 a) b from by simp only [gm_unf, gm_su_9]) ▸ c_M_isUnfit l E (upd I 0 0) (gp_uF F 9 (upd (upd (fun j => if j < nt then F 8 j else F 9 j) a (F 8 b)) b (F 8 a))) np ns b (F 8 a) hN hns hnp (by omega) hva) (k_M_161 hts ⟨by decide, by decide⟩ rfl rfl) hK hP rfl rfl rfl hl.1 rfl (Nat.le_of_ble_eq_true rfl) d_M_swap_140 ⟨Nat.le_of_ble_eq_true rfl, Nat.le_of_ble_eq_true rfl⟩ ?_
                        by_cases hs140 : gm_unf F ns (F 8 a) b = true
                        · rw [show ((if gm_unf F ns (F 8 a) b then 1 else 0) : Int32) = 1 from if_pos hs140]
                          refine lv_if_eq (tgt := 148) hx hb d_M_swap_143 (by decide) (fun c143 => ?_) (fun c143 => ?_)
                          · exact absurd c143 (by decide)
                          · have c143 := c143
                            have nc143 : ¬ 1 = 0 := fun h => c143 ((nI_eq (a := 1) (b := 0) (by omega) (by omega)).mpr h)
                            refine lv_iconst (v := 3) hx hb d_M_swap_146 (by decide) ?_
                            exact gp_wi hx hb hr hlocks hAe (by first | (rw [gm_swr, if_neg (fun q => q.elim (fun z => c88 z) (fun z => by first | exact mc101 z | exact (Int32.not_le.mpr z) c101)), if_neg (fun q => q.elim hs110 hs119), if_pos (by first | exact Or.inl hs131 | exact Or.inr hs140)])) (by first | (rw [gm_sw, if_neg (by rw [gm_swr, if_neg (fun q => q.elim (fun z => c88 z) (fun z => by first | exact mc101 z | exact (Int32.not_le.mpr z) c101)), if_neg (fun q => q.elim hs110 hs119), if_pos (by first | exact Or.inl hs131 | exact Or.inr hs140)]; decide)]; exact hP)) hS d_M_swap_147
                        · rw [show ((if gm_unf F ns (F 8 a) b then 1 else 0) : Int32) = 0 from if_neg hs140]
                          refine lv_if_eq (tgt := 148) hx hb d_M_swap_143 (by decide) (fun c143 => ?_) (fun c143 => ?_)
                          · have c143 := c143
                            have nc143 : 0 = 0 := (nI_eq (a := 0) (b := 0) (by omega) (by omega)).mp c143
                            refine lv_iload_n hx hb d_M_swap_148 rfl (lv_at hl 1 rfl) ?_
                            refine lv_iconst (v := (-1)) hx hb d_M_swap_149 (by decide) ?_
                            refine lv_icmp_eq (tgt := 161) hx hb d_M_swap_150 (by decide) (fun c150 => ?_) (fun c150 => ?_)
                            · have c150 := c150
                              refine lv_iload hx hb d_M_swap_161 (lv_at hl 0 rfl) ?_
                              refine lv_iconst (v := (-1)) hx hb d_M_swap_163 (by decide) ?_
                              refine lv_icmp_eq (tgt := 178) hx hb d_M_swap_164 (by decide) (fun c164 => ?_) (fun c164 => ?_)
                              · have c164 := c164
                                refine lv_iload_n hx hb d_M_swap_178 rfl (lv_at hl 1 rfl) ?_
                                refine lv_iconst (v := (-1)) hx hb d_M_swap_179 (by decide) ?_
                                refine lv_icmp_eq (tgt := 195) hx hb d_M_swap_180 (by decide) (fun c180 => ?_) (fun c180 => ?_)
                                · have c180 := c180
                                  refine lv_iload hx hb d_M_swap_195 (lv_at hl 0 rfl) ?_
                                  refine lv_iconst (v := (-1)) hx hb d_M_swap_197 (by decide) ?_
                                  refine lv_icmp_eq (tgt := 216) hx hb d_M_swap_198 (by decide) (fun c198 => ?_) (fun c198 => ?_)
                                  · have c198 := c198
                                    refine lv_aload_n hx hb d_M_swap_216 rfl (lv_at hl 2 rfl) ?_
                                    refine va_get (D := E.1) (cl := gp_cl) (ci := 3) (v := .ref (E.2.2.2 9)) (C := R_M) (T := T_M) (N := 27) hx hb hts i_M hown hK hP 0 rfl rfl 12 (by decide) (hts _ w3_64) (fun _ h9 => h9) rfl d_M_swap_217 ?_
                                    refine lv_iload_n hx hb d_M_swap_220 rfl (lv_at hl 3 rfl) ?_
                                    refine lv_iload hx hb d_M_swap_221 (lv_at hl 0 rfl) ?_
                                    refine gp_ast (f := (F 8)) (n := 6) hx hb hK hP hD hS 9 rfl (a) rfl (by omega) (by decide) d_M_swap_223 (fun H locs hP hD hS => ?_)
                                    have hP : va_P E.1 gp_cl (gp_wM E (upd I 0 0) (gp_uF (gp_uF F 9 (upd (upd (fun j => if j < nt then F 8 j else F 9 j) a (F 8 b)) b (F 8 a))) 8 (upd (F 8) (a) ((F 8) (b))))) H := hP
                                    have hD : va_D A (gp_wM E (upd I 0 0) (gp_uF (gp_uF F 9 (upd (upd (fun j => if j < nt then F 8 j else F 9 j) a (F 8 b)) b (F 8 a))) 8 (upd (F 8) (a) ((F 8) (b))))) := hD
                                    refine lv_aload_n hx hb d_M_swap_224 rfl (lv_at hl 2 rfl) ?_
                                    refine va_get (D := E.1) (cl := gp_cl) (ci := 3) (v := .ref (E.2.2.2 9)) (C := R_M) (T := T_M) (N := 27) hx hb hts i_M hown hK hP 0 rfl rfl 12 (by decide) (hts _ w3_64) (fun _ h9 => h9) rfl d_M_swap_225 ?_
                                    refine lv_iload_n hx hb d_M_swap_228 rfl (lv_at hl 4 rfl) ?_
                                    refine lv_iload_n hx hb d_M_swap_229 rfl (lv_at hl 1 rfl) ?_
                                    refine gp_ast (f := (upd (F 8) (a) ((F 8) (b)))) (n := 6) hx hb hK hP hD hS 9 rfl (b) rfl (by omega) (by decide) d_M_swap_230 (fun H locs hP hD hS => ?_)
                                    have hP : va_P E.1 gp_cl (gp_wM E (upd I 0 0) (gp_uF (gp_uF (gp_uF F 9 (upd (upd (fun j => if j < nt then F 8 j else F 9 j) a (F 8 b)) b (F 8 a))) 8 (upd (F 8) (a) ((F 8) (b)))) 8 (upd (upd (F 8) (a) ((F 8) (b))) (b) ((F 8) (a))))) H := hP
                                    have hD : va_D A (gp_wM E (upd I 0 0) (gp_uF (gp_uF (gp_uF F 9 (upd (upd (fun j => if j < nt then F 8 j else F 9 j) a (F 8 b)) b (F 8 a))) 8 (upd (F 8) (a) ((F 8) (b)))) 8 (upd (upd (F 8) (a) ((F 8) (b))) (b) ((F 8) (a))))) := hD
                                    refine lv_iconst (v := 0) hx hb d_M_swap_231 (by decide) ?_
                                    exact gp_wi hx hb hr hlocks hAe (by first | exact absurd c150 c180 | exact absurd c180 c150 | exact absurd c164 c198 | exact absurd c198 c164 | (rw [gm_swr, if_neg (fun q => q.elim (fun z => c88 z) (fun z => by first | exact mc101 z | exact (Int32.not_le.mpr z) c101)), if_neg (fun q => q.elim hs110 hs119), if_neg (fun q => q.elim hs131 hs140), if_neg (fun q => q.elim (fun z => by simp [gm_n2, c150] at z) (fun z => by simp [gm_n2, c164] at z)), if_neg (fun q => q.elim (fun z => by simp [gm_l2, c180] at z) (fun z => by simp [gm_l2, c198] at z))])) (by first | exact absurd c150 c180 | exact absurd c180 c150 | exact absurd c164 c198 | exact absurd c198 c164 | (rw [gm_sw, if_pos (by rw [gm_swr, if_neg (fun q => q.elim (fun z => c88 z) (fun z => by first | exact mc101 z | exact (Int32.not_le.mpr z) c101)), if_neg (fun q => q.elim hs110 hs119), if_neg (fun q => q.elim hs131 hs140), if_neg (fun q => q.elim (fun z => by simp [gm_n2, c150] at z) (fun z => by simp [gm_n2, c164] at z)), if_neg (fun q => q.elim (fun z => by simp [gm_l2, c180] at z) (fun z => by simp [gm_l2, c198] at z))])]; exact hP)) hS d_M_swap_232
                                  · have c198 := c198
                                    refine lv_aload_n hx hb d_M_swap_201 rfl (lv_at hl 2 rfl) ?_
                                    refine lv_iload hx hb d_M_swap_202 (lv_at hl 0 rfl) ?_
                                    refine gp_cR (q0 := 0) (ci := 3) (As := [.int ((F 8) (b))]) (rest := []) ⟨hx, hb, hml, hown, hts⟩ (show gp_CR _ _ _ _ _ _ _ _ _ (gm_q (gm_sF F nt a b) (F 8 b) nt) from c_M_quarters l E (upd I 0 0) (gp_uF F 9 (upd (upd (fun j => if j < nt then F 8 j else F 9 j) a (F 8 b)) b (F 8 a))) nt (F 8 b) hT hnt) (k_M_101 hts ⟨by decide, by decide⟩ rfl rfl) hK hP rfl rfl rfl hl.1 rfl (Nat.le_of_ble_eq_true rfl) d_M_swap_204 ⟨Nat.le_of_ble_eq_true rfl, Nat.le_of_ble_eq_true rfl⟩ ?_
                                    refine lv_aload_n hx hb d_M_swap_207 rfl (lv_at hl 2 rfl) ?_
                                    refine va_get (D := E.1) (cl := gp_cl) (ci := 3) (v := .int (I 6)) (C := R_M) (T := T_M) (N := 27) hx hb hts i_M hown hK hP 0 rfl rfl 18 (by decide) (hts _ w3_70) (fun _ h9 => h9) rfl d_M_swap_208 ?_
                                    refine lv_icmp_le (tgt := 216) hx hb d_M_swap_211 (by decide) (fun c211 => ?_) (fun c211 => ?_)
                                    · have c211 := c211
                                      have mc211 : ¬ ((I 6) : Int32) < (gm_q (gm_sF F nt a b) (F 8 b) nt) := Int32.not_lt.mpr c211
                                      refine lv_aload_n hx hb d_M_swap_216 rfl (lv_at hl 2 rfl) ?_
                                      refine va_get (D := E.1) (cl := gp_cl) (ci := 3) (v := .ref (E.2.2.2 9)) (C := R_M) (T := T_M) (N := 27) hx hb hts i_M hown hK hP 0 rfl rfl 12 (by decide) (hts _ w3_64) (fun _ h9 => h9) rfl d_M_swap_217 ?_
                                      refine lv_iload_n hx hb d_M_swap_220 rfl (lv_at hl 3 rfl) ?_
                                      refine lv_iload hx hb d_M_swap_221 (lv_at hl 0 rfl) ?_
                                      refine gp_ast (f := (F 8)) (n := 6) hx hb hK hP hD hS 9 rfl (a) rfl (by omega) (by decide) d_M_swap_223 (fun H locs hP hD hS => ?_)
                                      have hP : va_P E.1 gp_cl (gp_wM E (upd I 0 0) (gp_uF (gp_uF F 9 (upd (upd (fun j => if j < nt then F 8 j else F 9 j) a (F 8 b)) b (F 8 a))) 8 (upd (F 8) (a) ((F 8) (b))))) H := hP
                                      have hD : va_D A (gp_wM E (upd I 0 0) (gp_uF (gp_uF F 9 (upd (upd (fun j => if j < nt then F 8 j else F 9 j) a (F 8 b)) b (F 8 a))) 8 (upd (F 8) (a) ((F 8) (b))))) := hD
                                      refine lv_aload_n hx hb d_M_swap_224 rfl (lv_at hl 2 rfl) ?_
                                      refine va_get (D := E.1) (cl := gp_cl) (ci := 3) (v := .ref (E.2.2.2 9)) (C := R_M) (T := T_M) (N := 27) hx hb hts i_M hown hK hP 0 rfl rfl 12 (by decide) (hts _ w3_64) (fun _ h9 => h9) rfl d_M_swap_225 ?_
                                      refine lv_iload_n hx hb d_M_swap_228 rfl (lv_at hl 4 rfl) ?_
                                      refine lv_iload_n hx hb d_M_swap_229 rfl (lv_at hl 1 rfl) ?_
                                      refine gp_ast (f := (upd (F 8) (a) ((F 8) (b)))) (n := 6) hx hb hK hP hD hS 9 rfl (b) rfl (by omega) (by decide) d_M_swap_230 (fun H locs hP hD hS => ?_)
                                      have hP : va_P E.1 gp_cl (gp_wM E (upd I 0 0) (gp_uF (gp_uF (gp_uF F 9 (upd (upd (fun j => if j < nt then F 8 j else F 9 j) a (F 8 b)) b (F 8 a))) 8 (upd (F 8) (a) ((F 8) (b)))) 8 (upd (upd (F 8) (a) ((F 8) (b))) (b) ((F 8) (a))))) H := hP
                                      have hD : va_D A (gp_wM E (upd I 0 0) (gp_uF (gp_uF (gp_uF F 9 (upd (upd (fun j => if j < nt then F 8 j else F 9 j) a (F 8 b)) b (F 8 a))) 8 (upd (F 8) (a) ((F 8) (b)))) 8 (upd (upd (F 8) (a) ((F 8) (b))) (b) ((F 8) (a))))) := hD
                                      refine lv_iconst (v := 0) hx hb d_M_swap_231 (by decide) ?_
                                      exact gp_wi hx hb hr hlocks hAe (by first | exact absurd c150 c180 | exact absurd c180 c150 | exact absurd c164 c198 | exact absurd c198 c164 | (rw [gm_swr, if_neg (fun q => q.elim (fun z => c88 z) (fun z => by first | exact mc101 z | exact (Int32.not_le.mpr z) c101)), if_neg (fun q => q.elim hs110 hs119), if_neg (fun q => q.elim hs131 hs140), if_neg (fun q => q.elim (fun z => by simp [gm_n2, c150] at z) (fun z => by simp [gm_n2, c164] at z)), if_neg (fun q => q.elim (fun z => by simp [gm_l2, c180] at z) (fun z => by simp [gm_l2, c198, c211, mc211] at z))])) (by first | exact absurd c150 c180 | exact absurd c180 c150 | exact absurd c164 c198 | exact absurd c198 c164 | (rw [gm_sw, if_pos (by rw [gm_swr, if_neg (fun q => q.elim (fun z => c88 z) (fun z => by first | exact mc101 z | exact (Int32.not_le.mpr z) c101)), if_neg (fun q => q.elim hs110 hs119), if_neg (fun q => q.elim hs131 hs140), if_neg (fun q => q.elim (fun z => by simp [gm_n2, c150] at z) (fun z => by simp [gm_n2, c164] at z)), if_neg (fun q => q.elim (fun z => by simp [gm_l2, c180] at z) (fun z => by simp [gm_l2, c198, c211, mc211] at z))])]; exact hP)) hS d_M_swap_232
                                    · have c211 := c211
                                      have mc211 : ((I 6) : Int32) < (gm_q (gm_sF F nt a b) (F 8 b) nt) := Int32.not_le.mp c211
                                      refine lv_iconst (v := 5) hx hb d_M_swap_214 (by decide) ?_
                                      exact gp_wi hx hb hr hlocks hAe (by first | exact absurd c150 c180 | exact absurd c180 c150 | exact absurd c164 c198 | exact absurd c198 c164 | (rw [gm_swr, if_neg (fun q => q.elim (fun z => c88 z) (fun z => by first | exact mc101 z | exact (Int32.not_le.mpr z) c101)), if_neg (fun q => q.elim hs110 hs119), if_neg (fun q => q.elim hs131 hs140), if_neg (fun q => q.elim (fun z => by simp [gm_n2, c150] at z) (fun z => by simp [gm_n2, c164] at z)), if_pos (Or.inr (by simp [gm_l2, c198, c211, mc211]))])) (by first | exact absurd c150 c180 | exact absurd c180 c150 | exact absurd c164 c198 | exact absurd c198 c164 | (rw [gm_sw, if_neg (by rw [gm_swr, if_neg (fun q => q.elim (fun z => c88 z) (fun z => by first | exact mc101 z | exact (Int32.not_le.mpr z) c101)), if_neg (fun q => q.elim hs110 hs119), if_neg (fun q => q.elim hs131 hs140), if_neg (fun q => q.elim (fun z => by simp [gm_n2, c150] at z) (fun z => by simp [gm_n2, c164] at z)), if_pos (Or.inr (by simp [gm_l2, c198, c211, mc211]))]; decide)]; exact hP)) hS d_M_swap_215
                                · have c180 := c180
                                  refine lv_aload_n hx hb d_M_swap_183 rfl (lv_at hl 2 rfl) ?_
                                  refine lv_iload_n hx hb d_M_swap_184 rfl (lv_at hl 1 rfl) ?_
                                  refine gp_cR (q0 := 0) (ci := 3) (As := [.int ((F 8) (a))]) (rest := []) ⟨hx, hb, hml, hown, hts⟩ (show gp_CR _ _ _ _ _ _ _ _ _ (gm_q (gm_sF F nt a b) (F 8 a) nt) from c_M_quarters l E (upd I 0 0) (gp_uF F 9 (upd (upd (fun j => if j < nt then F 8 j else F 9 j) a (F 8 b)) b (F 8 a))) nt (F 8 a) hT hnt) (k_M_101 hts ⟨by decide, by decide⟩ rfl rfl) hK hP rfl rfl rfl hl.1 rfl (Nat.le_of_ble_eq_true rfl) d_M_swap_185 ⟨Nat.le_of_ble_eq_true rfl, Nat.le_of_ble_eq_true rfl⟩ ?_
                                  refine lv_aload_n hx hb d_M_swap_188 rfl (lv_at hl 2 rfl) ?_
                                  refine va_get (D := E.1) (cl := gp_cl) (ci := 3) (v := .int (I 6)) (C := R_M) (T := T_M) (N := 27) hx hb hts i_M hown hK hP 0 rfl rfl 18 (by decide) (hts _ w3_70) (fun _ h9 => h9) rfl d_M_swap_189 ?_
                                  refine lv_icmp_gt (tgt := 214) hx hb d_M_swap_192 (by decide) (fun c192 => ?_) (fun c192 => ?_)
                                  · have c192 := c192
                                    have mc192 : ¬ ((gm_q (gm_sF F nt a b) (F 8 a) nt) : Int32) ≤ (I 6) := Int32.not_le.mpr c192
                                    refine lv_iconst (v := 5) hx hb d_M_swap_214 (by decide) ?_
                                    exact gp_wi hx hb hr hlocks hAe (by first | exact absurd c150 c180 | exact absurd c180 c150 | (rw [gm_swr, if_neg (fun q => q.elim (fun z => c88 z) (fun z => by first | exact mc101 z | exact (Int32.not_le.mpr z) c101)), if_neg (fun q => q.elim hs110 hs119), if_neg (fun q => q.elim hs131 hs140), if_neg (fun q => q.elim (fun z => by simp [gm_n2, c150] at z) (fun z => by simp [gm_n2, c164] at z)), if_pos (Or.inl (by simp [gm_l2, c180, c192, mc192]))])) (by first | exact absurd c150 c180 | exact absurd c180 c150 | (rw [gm_sw, if_neg (by rw [gm_swr, if_neg (fun q => q.elim (fun z => c88 z) (fun z => by first | exact mc101 z | exact (Int32.not_le.mpr z) c101)), if_neg (fun q => q.elim hs110 hs119), if_neg (fun q => q.elim hs131 hs140), if_neg (fun q => q.elim (fun z => by simp [gm_n2, c150] at z) (fun z => by simp [gm_n2, c164] at z)), if_pos (Or.inl (by simp [gm_l2, c180, c192, mc192]))]; decide)]; exact hP)) hS d_M_swap_215
                                  · have c192 := c192
                                    have mc192 : ((gm_q (gm_sF F nt a b) (F 8 a) nt) : Int32) ≤ (I 6) := Int32.not_lt.mp c192
                                    refine lv_iload hx hb d_M_swap_195 (lv_at hl 0 rfl) ?_
                                    refine lv_iconst (v := (-1)) hx hb d_M_swap_197 (by decide) ?_
                                    refine lv_icmp_eq (tgt := 216) hx hb d_M_swap_198 (by decide) (fun c198 => ?_) (fun c198 => ?_)
                                    · have c198 := c198
                                      refine lv_aload_n hx hb d_M_swap_216 rfl (lv_at hl 2 rfl) ?_
                                      refine va_get (D := E.1) (cl := gp_cl) (ci := 3) (v := .ref (E.2.2.2 9)) (C := R_M) (T := T_M) (N := 27) hx hb hts i_M hown hK hP 0 rfl rfl 12 (by decide) (hts _ w3_64) (fun _ h9 => h9) rfl d_M_swap_217 ?_
                                      refine lv_iload_n hx hb d_M_swap_220 rfl (lv_at hl 3 rfl) ?_
                                      refine lv_iload hx hb d_M_swap_221 (lv_at hl 0 rfl) ?_
                                      refine gp_ast (f := (F 8)) (n := 6) hx hb hK hP hD hS 9 rfl (a) rfl (by omega) (by decide) d_M_swap_223 (fun H locs hP hD hS => ?_)
                                      have hP : va_P E.1 gp_cl (gp_wM E (upd I 0 0) (gp_uF (gp_uF F 9 (upd (upd (fun j => if j < nt then F 8 j else F 9 j) a (F 8 b)) b (F 8 a))) 8 (upd (F 8) (a) ((F 8) (b))))) H := hP
                                      have hD : va_D A (gp_wM E (upd I 0 0) (gp_uF (gp_uF F 9 (upd (upd (fun j => if j < nt then F 8 j else F 9 j) a (F 8 b)) b (F 8 a))) 8 (upd (F 8) (a) ((F 8) (b))))) := hD
                                      refine lv_aload_n hx hb d_M_swap_224 rfl (lv_at hl 2 rfl) ?_
                                      refine va_get (D := E.1) (cl := gp_cl) (ci := 3) (v := .ref (E.2.2.2 9)) (C := R_M) (T := T_M) (N := 27) hx hb hts i_M hown hK hP 0 rfl rfl 12 (by decide) (hts _ w3_64) (fun _ h9 => h9) rfl d_M_swap_225 ?_
                                      refine lv_iload_n hx hb d_M_swap_228 rfl (lv_at hl 4 rfl) ?_
                                      refine lv_iload_n hx hb d_M_swap_229 rfl (lv_at hl 1 rfl) ?_
                                      refine gp_ast (f := (upd (F 8) (a) ((F 8) (b)))) (n := 6) hx hb hK hP hD hS 9 rfl (b) rfl (by omega) (by decide) d_M_swap_230 (fun H locs hP hD hS => ?_)
                                      have hP : va_P E.1 gp_cl (gp_wM E (upd I 0 0) (gp_uF (gp_uF (gp_uF F 9 (upd (upd (fun j => if j < nt then F 8 j else F 9 j) a (F 8 b)) b (F 8 a))) 8 (upd (F 8) (a) ((F 8) (b)))) 8 (upd (upd (F 8) (a) ((F 8) (b))) (b) ((F 8) (a))))) H := hP
                                      have hD : va_D A (gp_wM E (upd I 0 0) (gp_uF (gp_uF (gp_uF F 9 (upd (upd (fun j => if j < nt then F 8 j else F 9 j) a (F 8 b)) b (F 8 a))) 8 (upd (F 8) (a) ((F 8) (b)))) 8 (upd (upd (F 8) (a) ((F 8) (b))) (b) ((F 8) (a))))) := hD
                                      refine lv_iconst (v := 0) hx hb d_M_swap_231 (by decide) ?_
                                      exact gp_wi hx hb hr hlocks hAe (by first | exact absurd c150 c180 | exact absurd c180 c150 | exact absurd c164 c198 | exact absurd c198 c164 | (rw [gm_swr, if_neg (fun q => q.elim (fun z => c88 z) (fun z => by first | exact mc101 z | exact (Int32.not_le.mpr z) c101)), if_neg (fun q => q.elim hs110 hs119), if_neg (fun q => q.elim hs131 hs140), if_neg (fun q => q.elim (fun z => by simp [gm_n2, c150] at z) (fun z => by simp [gm_n2, c164] at z)), if_neg (fun q => q.elim (fun z => by simp [gm_l2, c180, c192, mc192] at z) (fun z => by simp [gm_l2, c198] at z))])) (by first | exact absurd c150 c180 | exact absurd c180 c150 | exact absurd c164 c198 | exact absurd c198 c164 | (rw [gm_sw, if_pos (by rw [gm_swr, if_neg (fun q => q.elim (fun z => c88 z) (fun z => by first | exact mc101 z | exact (Int32.not_le.mpr z) c101)), if_neg (fun q => q.elim hs110 hs119), if_neg (fun q => q.elim hs131 hs140), if_neg (fun q => q.elim (fun z => by simp [gm_n2, c150] at z) (fun z => by simp [gm_n2, c164] at z)), if_neg (fun q => q.elim (fun z => by simp [gm_l2, c180, c192, mc192] at z) (fun z => by simp [gm_l2, c198] at z))])]; exact hP)) hS d_M_swap_232
                                    · have c198 := c198
                                      refine lv_aload_n hx hb d_M_swap_201 rfl (lv_at hl 2 rfl) ?_
                                      refine lv_iload hx hb d_M_swap_202 (lv_at hl 0 rfl) ?_
                                      refine gp_cR (q0 := 0) (ci := 3) (As := [.int ((F 8) (b))]) (rest := []) ⟨hx, hb, hml, hown, hts⟩ (show gp_CR _ _ _ _ _ _ _ _ _ (gm_q (gm_sF F nt a b) (F 8 b) nt) from c_M_quarters l E (upd I 0 0) (gp_uF F 9 (upd (upd (fun j => if j < nt then F 8 j else F 9 j) a (F 8 b)) b (F 8 a))) nt (F 8 b) hT hnt) (k_M_101 hts ⟨by decide, by decide⟩ rfl rfl) hK hP rfl rfl rfl hl.1 rfl (Nat.le_of_ble_eq_true rfl) d_M_swap_204 ⟨Nat.le_of_ble_eq_true rfl, Nat.le_of_ble_eq_true rfl⟩ ?_
                                      refine lv_aload_n hx hb d_M_swap_207 rfl (lv_at hl 2 rfl) ?_
                                      refine va_get (D := E.1) (cl := gp_cl) (ci := 3) (v := .int (I 6)) (C := R_M) (T := T_M) (N := 27) hx hb hts i_M hown hK hP 0 rfl rfl 18 (by decide) (hts _ w3_70) (fun _ h9 => h9) rfl d_M_swap_208 ?_
                                      refine lv_icmp_le (tgt := 216) hx hb d_M_swap_211 (by decide) (fun c211 => ?_) (fun c211 => ?_)
                                      · have c211 := c211
                                        have mc211 : ¬ ((I 6) : Int32) < (gm_q (gm_sF F nt a b) (F 8 b) nt) := Int32.not_lt.mpr c211
                                        refine lv_aload_n hx hb d_M_swap_216 rfl (lv_at hl 2 rfl) ?_
                                        refine va_get (D := E.1) (cl := gp_cl) (ci := 3) (v := .ref (E.2.2.2 9)) (C := R_M) (T := T_M) (N := 27) hx hb hts i_M hown hK hP 0 rfl rfl 12 (by decide) (hts _ w3_64) (fun _ h9 => h9) rfl d_M_swap_217 ?_
                                        refine lv_iload_n hx hb d_M_swap_220 rfl (lv_at hl 3 rfl) ?_
                                        refine lv_iload hx hb d_M_swap_221 (lv_at hl 0 rfl) ?_
                                        refine gp_ast (f := (F 8)) (n := 6) hx hb hK hP hD hS 9 rfl (a) rfl (by omega) (by decide) d_M_swap_223 (fun H locs hP hD hS => ?_)
                                        have hP : va_P E.1 gp_cl (gp_wM E (upd I 0 0) (gp_uF (gp_uF F 9 (upd (upd (fun j => if j < nt then F 8 j else F 9 j) a (F 8 b)) b (F 8 a))) 8 (upd (F 8) (a) ((F 8) (b))))) H := hP
                                        have hD : va_D A (gp_wM E (upd I 0 0) (gp_uF (gp_uF F 9 (upd (upd (fun j => if j < nt then F 8 j else F 9 j) a (F 8 b)) b (F 8 a))) 8 (upd (F 8) (a) ((F 8) (b))))) := hD
                                        refine lv_aload_n hx hb d_M_swap_224 rfl (lv_at hl 2 rfl) ?_
                                        refine va_get (D := E.1) (cl := gp_cl) (ci := 3) (v := .ref (E.2.2.2 9)) (C := R_M) (T := T_M) (N := 27) hx hb hts i_M hown hK hP 0 rfl rfl 12 (by decide) (hts _ w3_64) (fun _ h9 => h9) rfl d_M_swap_225 ?_
                                        refine lv_iload_n hx hb d_M_swap_228 rfl (lv_at hl 4 rfl) ?_
                                        refine lv_iload_n hx hb d_M_swap_229 rfl (lv_at hl 1 rfl) ?_
                                        refine gp_ast (f := (upd (F 8) (a) ((F 8) (b)))) (n := 6) hx hb hK hP hD hS 9 rfl (b) rfl (by omega) (by decide) d_M_swap_230 (fun H locs hP hD hS => ?_)
                                        have hP : va_P E.1 gp_cl (gp_wM E (upd I 0 0) (gp_uF (gp_uF (gp_uF F 9 (upd (upd (fun j => if j < nt then F 8 j else F 9 j) a (F 8 b)) b (F 8 a))) 8 (upd (F 8) (a) ((F 8) (b)))) 8 (upd (upd (F 8) (a) ((F 8) (b))) (b) ((F 8) (a))))) H := hP
                                        have hD : va_D A (gp_wM E (upd I 0 0) (gp_uF (gp_uF (gp_uF F 9 (upd (upd (fun j => if j < nt then F 8 j else F 9 j) a (F 8 b)) b (F 8 a))) 8 (upd (F 8) (a) ((F 8) (b)))) 8 (upd (upd (F 8) (a) ((F 8) (b))) (b) ((F 8) (a))))) := hD
                                        refine lv_iconst (v := 0) hx hb d_M_swap_231 (by decide) ?_
                                        exact gp_wi hx hb hr hlocks hAe (by first | exact absurd c150 c180 | exact absurd c180 c150 | exact absurd c164 c198 | exact absurd c198 c164 | (rw [gm_swr, if_neg (fun q => q.elim (fun z => c88 z) (fun z => by first | exact mc101 z | exact (Int32.not_le.mpr z) c101)), if_neg (fun q => q.elim hs110 hs119), if_neg (fun q => q.elim hs131 hs140), if_neg (fun q => q.elim (fun z => by simp [gm_n2, c150] at z) (fun z => by simp [gm_n2, c164] at z)), if_neg (fun q => q.elim (fun z => by simp [gm_l2, c180, c192, mc192] at z) (fun z => by simp [gm_l2, c198, c211, mc211] at z))])) (by first | exact absurd c150 c180 | exact absurd c180 c150 | exact absurd c164 c198 | exact absurd c198 c164 | (rw [gm_sw, if_pos (by rw [gm_swr, if_neg (fun q => q.elim (fun z => c88 z) (fun z => by first | exact mc101 z | exact (Int32.not_le.mpr z) c101)), if_neg (fun q => q.elim hs110 hs119), if_neg (fun q => q.elim hs131 hs140), if_neg (fun q => q.elim (fun z => by simp [gm_n2, c150] at z) (fun z => by simp [gm_n2, c164] at z)), if_neg (fun q => q.elim (fun z => by simp [gm_l2, c180, c192, mc192] at z) (fun z => by simp [gm_l2, c198, c211, mc211] at z))])]; exact hP)) hS d_M_swap_232
                                      · have c211 := c211
                                        have mc211 : ((I 6) : Int32) < (gm_q (gm_sF F nt a b) (F 8 b) nt) := Int32.not_le.mp c211
                                        refine lv_iconst (v := 5) hx hb d_M_swap_214 (by decide) ?_
                                        exact gp_wi hx hb hr hlocks hAe (by first | exact absurd c150 c180 | exact absurd c180 c150 | exact absurd c164 c198 | exact absurd c198 c164 | (rw [gm_swr, if_neg (fun q => q.elim (fun z => c88 z) (fun z => by first | exact mc101 z | exact (Int32.not_le.mpr z) c101)), if_neg (fun q => q.elim hs110 hs119), if_neg (fun q => q.elim hs131 hs140), if_neg (fun q => q.elim (fun z => by simp [gm_n2, c150] at z) (fun z => by simp [gm_n2, c164] at z)), if_pos (Or.inr (by simp [gm_l2, c198, c211, mc211]))])) (by first | exact absurd c150 c180 | exact absurd c180 c150 | exact absurd c164 c198 | exact absurd c198 c164 | (rw [gm_sw, if_neg (by rw [gm_swr, if_neg (fun q => q.elim (fun z => c88 z) (fun z => by first | exact mc101 z | exact (Int32.not_le.mpr z) c101)), if_neg (fun q => q.elim hs110 hs119), if_neg (fun q => q.elim hs131 hs140), if_neg (fun q => q.elim (fun z => by simp [gm_n2, c150] at z) (fun z => by simp [gm_n2, c164] at z)), if_pos (Or.inr (by simp [gm_l2, c198, c211, mc211]))]; decide)]; exact hP)) hS d_M_swap_215
                              · have c164 := c164
                                refine lv_aload_n hx hb d_M_swap_167 rfl (lv_at hl 2 rfl) ?_
                                refine lv_iload hx hb d_M_swap_168 (lv_at hl 0 rfl) ?_
                                refine gp_cR (q0 := 0) (ci := 3) (As := [.int ((F 8) (b))]) (rest := []) ⟨hx, hb, hml, hown, hts⟩ (show gp_CR _ _ _ _ _ _ _ _ _ (if gm_h2 (I 5) (gm_sF F nt a b) (F 8 b) nt then 1 else 0) from c_M_hasNear l E (upd I 0 0) (gp_uF F 9 (upd (upd (fun j => if j < nt then F 8 j else F 9 j) a (F 8 b)) b (F 8 a))) nt (F 8 b) hT hnt) (k_M_105 hts ⟨by decide, by decide⟩ rfl rfl) hK hP rfl rfl rfl hl.1 rfl (Nat.le_of_ble_eq_true rfl) d_M_swap_170 ⟨Nat.le_of_ble_eq_true rfl, Nat.le_of_ble_eq_true rfl⟩ ?_
                                by_cases hs170 : gm_h2 (I 5) (gm_sF F nt a b) (F 8 b) nt = true
                                · rw [show ((if gm_h2 (I 5) (gm_sF F nt a b) (F 8 b) nt then 1 else 0) : Int32) = 1 from if_pos hs170]
                                  refine lv_if_eq (tgt := 178) hx hb d_M_swap_173 (by decide) (fun c173 => ?_) (fun c173 => ?_)
                                  · exact absurd c173 (by decide)
                                  · have c173 := c173
                                    have nc173 : ¬ 1 = 0 := fun h => c173 ((nI_eq (a := 1) (b := 0) (by omega) (by omega)).mpr h)
                                    refine lv_iconst (v := 4) hx hb d_M_swap_176 (by decide) ?_
                                    exact gp_wi hx hb hr hlocks hAe (by first | (rw [gm_swr, if_neg (fun q => q.elim (fun z => c88 z) (fun z => by first | exact mc101 z | exact (Int32.not_le.mpr z) c101)), if_neg (fun q => q.elim hs110 hs119), if_neg (fun q => q.elim hs131 hs140), if_pos (Or.inr (by simp [gm_n2, c164, hs170]))])) (by first | (rw [gm_sw, if_neg (by rw [gm_swr, if_neg (fun q => q.elim (fun z => c88 z) (fun z => by first | exact mc101 z | exact (Int32.not_le.mpr z) c101)), if_neg (fun q => q.elim hs110 hs119), if_neg (fun q => q.elim hs131 hs140), if_pos (Or.inr (by simp [gm_n2, c164, hs170]))]; decide)]; exact hP)) hS d_M_swap_177
                                · rw [show ((if gm_h2 (I 5) (gm_sF F nt a b) (F 8 b) nt then 1 else 0) : Int32) = 0 from if_neg hs170]
                                  refine lv_if_eq (tgt := 178) hx hb d_M_swap_173 (by decide) (fun c173 => ?_) (fun c173 => ?_)
                                  · have c173 := c173
                                    have nc173 : 0 = 0 := (nI_eq (a := 0) (b := 0) (by omega) (by omega)).mp c173
                                    refine lv_iload_n hx hb d_M_swap_178 rfl (lv_at hl 1 rfl) ?_
                                    refine lv_iconst (v := (-1)) hx hb d_M_swap_179 (by decide) ?_
                                    refine lv_icmp_eq (tgt := 195) hx hb d_M_swap_180 (by decide) (fun c180 => ?_) (fun c180 => ?_)
                                    · have c180 := c180
                                      refine lv_iload hx hb d_M_swap_195 (lv_at hl 0 rfl) ?_
                                      refine lv_iconst (v := (-1)) hx hb d_M_swap_197 (by decide) ?_
                                      refine lv_icmp_eq (tgt := 216) hx hb d_M_swap_198 (by decide) (fun c198 => ?_) (fun c198 => ?_)
                                      · have c198 := c198
                                        refine lv_aload_n hx hb d_M_swap_216 rfl (lv_at hl 2 rfl) ?_
                                        refine va_get (D := E.1) (cl := gp_cl) (ci := 3) (v := .ref (E.2.2.2 9)) (C := R_M) (T := T_M) (N := 27) hx hb hts i_M hown hK hP 0 rfl rfl 12 (by decide) (hts _ w3_64) (fun _ h9 => h9) rfl d_M_swap_217 ?_
                                        refine lv_iload_n hx hb d_M_swap_220 rfl (lv_at hl 3 rfl) ?_
                                        refine lv_iload hx hb d_M_swap_221 (lv_at hl 0 rfl) ?_
                                        refine gp_ast (f := (F 8)) (n := 6) hx hb hK hP hD hS 9 rfl (a) rfl (by omega) (by decide) d_M_swap_223 (fun H locs hP hD hS => ?_)
                                        have hP : va_P E.1 gp_cl (gp_wM E (upd I 0 0) (gp_uF (gp_uF F 9 (upd (upd (fun j => if j < nt then F 8 j else F 9 j) a (F 8 b)) b (F 8 a))) 8 (upd (F 8) (a) ((F 8) (b))))) H := hP
                                        have hD : va_D A (gp_wM E (upd I 0 0) (gp_uF (gp_uF F 9 (upd (upd (fun j => if j < nt then F 8 j else F 9 j) a (F 8 b)) b (F 8 a))) 8 (upd (F 8) (a) ((F 8) (b))))) := hD
                                        refine lv_aload_n hx hb d_M_swap_224 rfl (lv_at hl 2 rfl) ?_
                                        refine va_get (D := E.1) (cl := gp_cl) (ci := 3) (v := .ref (E.2.2.2 9)) (C := R_M) (T := T_M) (N := 27) hx hb hts i_M hown hK hP 0 rfl rfl 12 (by decide) (hts _ w3_64) (fun _ h9 => h9) rfl d_M_swap_225 ?_
                                        refine lv_iload_n hx hb d_M_swap_228 rfl (lv_at hl 4 rfl) ?_
                                        refine lv_iload_n hx hb d_M_swap_229 rfl (lv_at hl 1 rfl) ?_
                                        refine gp_ast (f := (upd (F 8) (a) ((F 8) (b)))) (n := 6) hx hb hK hP hD hS 9 rfl (b) rfl (by omega) (by decide) d_M_swap_230 (fun H locs hP hD hS => ?_)
                                        have hP : va_P E.1 gp_cl (gp_wM E (upd I 0 0) (gp_uF (gp_uF (gp_uF F 9 (upd (upd (fun j => if j < nt then F 8 j else F 9 j) a (F 8 b)) b (F 8 a))) 8 (upd (F 8) (a) ((F 8) (b)))) 8 (upd (upd (F 8) (a) ((F 8) (b))) (b) ((F 8) (a))))) H := hP
                                        have hD : va_D A (gp_wM E (upd I 0 0) (gp_uF (gp_uF (gp_uF F 9 (upd (upd (fun j => if j < nt then F 8 j else F 9 j) a (F 8 b)) b (F 8 a))) 8 (upd (F 8) (a) ((F 8) (b)))) 8 (upd (upd (F 8) (a) ((F 8) (b))) (b) ((F 8) (a))))) := hD
                                        refine lv_iconst (v := 0) hx hb d_M_swap_231 (by decide) ?_
                                        exact gp_wi hx hb hr hlocks hAe (by first | exact absurd c150 c180 | exact absurd c180 c150 | exact absurd c164 c198 | exact absurd c198 c164 | (rw [gm_swr, if_neg (fun q => q.elim (fun z => c88 z) (fun z => by first | exact mc101 z | exact (Int32.not_le.mpr z) c101)), if_neg (fun q => q.elim hs110 hs119), if_neg (fun q => q.elim hs131 hs140), if_neg (fun q => q.elim (fun z => by simp [gm_n2, c150] at z) (fun z => by simp [gm_n2, c164, hs170] at z)), if_neg (fun q => q.elim (fun z => by simp [gm_l2, c180] at z) (fun z => by simp [gm_l2, c198] at z))])) (by first | exact absurd c150 c180 | exact absurd c180 c150 | exact absurd c164 c198 | exact absurd c198 c164 | (rw [gm_sw, if_pos (by rw [gm_swr, if_neg (fun q => q.elim (fun z => c88 z) (fun z => by first | exact mc101 z | exact (Int32.not_le.mpr z) c101)), if_neg (fun q => q.elim hs110 hs119), if_neg (fun q => q.elim hs131 hs140), if_neg (fun q => q.elim (fun z => by simp [gm_n2, c150] at z) (fun z => by simp [gm_n2, c164, hs170] at z)), if_neg (fun q => q.elim (fun z => by simp [gm_l2, c180] at z) (fun z => by simp [gm_l2, c198] at z))])]; exact hP)) hS d_M_swap_232
                                      · have c198 := c198
                                        refine lv_aload_n hx hb d_M_swap_201 rfl (lv_at hl 2 rfl) ?_
                                        refine lv_iload hx hb d_M_swap_202 (lv_at hl 0 rfl) ?_
                                        refine gp_cR (q0 := 0) (ci := 3) (As := [.int ((F 8) (b))]) (rest := []) ⟨hx, hb, hml, hown, hts⟩ (show gp_CR _ _ _ _ _ _ _ _ _ (gm_q (gm_sF F nt a b) (F 8 b) nt) from c_M_quarters l E (upd I 0 0) (gp_uF F 9 (upd (upd (fun j => if j < nt then F 8 j else F 9 j) a (F 8 b)) b (F 8 a))) nt (F 8 b) hT hnt) (k_M_101 hts ⟨by decide, by decide⟩ rfl rfl) hK hP rfl rfl rfl hl.1 rfl (Nat.le_of_ble_eq_true rfl) d_M_swap_204 ⟨Nat.le_of_ble_eq_true rfl, Nat.le_of_ble_eq_true rfl⟩ ?_
                                        refine lv_aload_n hx hb d_M_swap_207 rfl (lv_at hl 2 rfl) ?_
                                        refine va_get (D := E.1) (cl := gp_cl) (ci := 3) (v := .int (I 6)) (C := R_M) (T := T_M) (N := 27) hx hb hts i_M hown hK hP 0 rfl rfl 18 (by decide) (hts _ w3_70) (fun _ h9 => h9) rfl d_M_swap_208 ?_
                                        refine lv_icmp_le (tgt := 216) hx hb d_M_swap_211 (by decide) (fun c211 => ?_) (fun c211 => ?_)
                                        · have c211 := c211
                                          have mc211 : ¬ ((I 6) : Int32) < (gm_q (gm_sF F nt a b) (F 8 b) nt) := Int32.not_lt.mpr c211
                                          refine lv_aload_n hx hb d_M_swap_216 rfl (lv_at hl 2 rfl) ?_
                                          refine va_get (D := E.1) (cl := gp_cl) (ci := 3) (v := .ref (E.2.2.2 9)) (C := R_M) (T := T_M) (N := 27) hx hb hts i_M hown hK hP 0 rfl rfl 12 (by decide) (hts _ w3_64) (fun _ h9 => h9) rfl d_M_swap_217 ?_
                                          refine lv_iload_n hx hb d_M_swap_220 rfl (lv_at hl 3 rfl) ?_
                                          refine lv_iload hx hb d_M_swap_221 (lv_at hl 0 rfl) ?_
                                          refine gp_ast (f := (F 8)) (n := 6) hx hb hK hP hD hS 9 rfl (a) rfl (by omega) (by decide) d_M_swap_223 (fun H locs hP hD hS => ?_)
                                          have hP : va_P E.1 gp_cl (gp_wM E (upd I 0 0) (gp_uF (gp_uF F 9 (upd (upd (fun j => if j < nt then F 8 j else F 9 j) a (F 8 b)) b (F 8 a))) 8 (upd (F 8) (a) ((F 8) (b))))) H := hP
                                          have hD : va_D A (gp_wM E (upd I 0 0) (gp_uF (gp_uF F 9 (upd (upd (fun j => if j < nt then F 8 j else F 9 j) a (F 8 b)) b (F 8 a))) 8 (upd (F 8) (a) ((F 8) (b))))) := hD
                                          refine lv_aload_n hx hb d_M_swap_224 rfl (lv_at hl 2 rfl) ?_
                                          refine va_get (D := E.1) (cl := gp_cl) (ci := 3) (v := .ref (E.2.2.2 9)) (C := R_M) (T := T_M) (N := 27) hx hb hts i_M hown hK hP 0 rfl rfl 12 (by decide) (hts _ w3_64) (fun _ h9 => h9) rfl d_M_swap_225 ?_
                                          refine lv_iload_n hx hb d_M_swap_228 rfl (lv_at hl 4 rfl) ?_
                                          refine lv_iload_n hx hb d_M_swap_229 rfl (lv_at hl 1 rfl) ?_
                                          refine gp_ast (f := (upd (F 8) (a) ((F 8) (b)))) (n := 6) hx hb hK hP hD hS 9 rfl (b) rfl (by omega) (by decide) d_M_swap_230 (fun H locs hP hD hS => ?_)
                                          have hP : va_P E.1 gp_cl (gp_wM E (upd I 0 0) (gp_uF (gp_uF (gp_uF F 9 (upd (upd (fun j => if j < nt then F 8 j else F 9 j) a (F 8 b)) b (F 8 a))) 8 (upd (F 8) (a) ((F 8) (b)))) 8 (upd (upd (F 8) (a) ((F 8) (b))) (b) ((F 8) (a))))) H := hP
                                          have hD : va_D A (gp_wM E (upd I 0 0) (gp_uF (gp_uF (gp_uF F 9 (upd (upd (fun j => if j < nt then F 8 j else F 9 j) a (F 8 b)) b (F 8 a))) 8 (upd (F 8) (a) ((F 8) (b)))) 8 (upd (upd (F 8) (a) ((F 8) (b))) (b) ((F 8) (a))))) := hD
                                          refine lv_iconst (v := 0) hx hb d_M_swap_231 (by decide) ?_
                                          exact gp_wi hx hb hr hlocks hAe (by first | exact absurd c150 c180 | exact absurd c180 c150 | exact absurd c164 c198 | exact absurd c198 c164 | (rw [gm_swr, if_neg (fun q => q.elim (fun z => c88 z) (fun z => by first | exact mc101 z | exact (Int32.not_le.mpr z) c101)), if_neg (fun q => q.elim hs110 hs119), if_neg (fun q => q.elim hs131 hs140), if_neg (fun q => q.elim (fun z => by simp [gm_n2, c150] at z) (fun z => by simp [gm_n2, c164, hs170] at z)), if_neg (fun q => q.elim (fun z => by simp [gm_l2, c180] at z) (fun z => by simp [gm_l2, c198, c211, mc211] at z))])) (by first | exact absurd c150 c180 | exact absurd c180 c150 | exact absurd c164 c198 | exact absurd c198 c164 | (rw [gm_sw, if_pos (by rw [gm_swr, if_neg (fun q => q.elim (fun z => c88 z) (fun z => by first | exact mc101 z | exact (Int32.not_le.mpr z) c101)), if_neg (fun q => q.elim hs110 hs119), if_neg (fun q => q.elim hs131 hs140), if_neg (fun q => q.elim (fun z => by simp [gm_n2, c150] at z) (fun z => by simp [gm_n2, c164, hs170] at z)), if_neg (fun q => q.elim (fun z => by simp [gm_l2, c180] at z) (fun z => by simp [gm_l2, c198, c211, mc211] at z))])]; exact hP)) hS d_M_swap_232
                                        · have c211 := c211
                                          have mc211 : ((I 6) : Int32) < (gm_q (gm_sF F nt a b) (F 8 b) nt) := Int32.not_le.mp c211
                                          refine lv_iconst (v := 5) hx hb d_M_swap_214 (by decide) ?_
                                          exact gp_wi hx hb hr hlocks hAe (by first | exact absurd c150 c180 | exact absurd c180 c150 | exact absurd c164 c198 | exact absurd c198 c164 | (rw [gm_swr, if_neg (fun q => q.elim (fun z => c88 z) (fun z => by first | exact mc101 z | exact (Int32.not_le.mpr z) c101)), if_neg (fun q => q.elim hs110 hs119), if_neg (fun q => q.elim hs131 hs140), if_neg (fun q => q.elim (fun z => by simp [gm_n2, c150] at z) (fun z => by simp [gm_n2, c164, hs170] at z)), if_pos (Or.inr (by simp [gm_l2, c198, c211, mc211]))])) (by first | exact absurd c150 c180 | exact absurd c180 c150 | exact absurd c164 c198 | exact absurd c198 c164 | (rw [gm_sw, if_neg (by rw [gm_swr, if_neg (fun q => q.elim (fun z => c88 z) (fun z => by first | exact mc101 z | exact (Int32.not_le.mpr z) c101)), if_neg (fun q => q.elim hs110 hs119), if_neg (fun q => q.elim hs131 hs140), if_neg (fun q => q.elim (fun z => by simp [gm_n2, c150] at z) (fun z => by simp [gm_n2, c164, hs170] at z)), if_pos (Or.inr (by simp [gm_l2, c198, c211, mc211]))]; decide)]; exact hP)) hS d_M_swap_215
                                    · have c180 := c180
                                      refine lv_aload_n hx hb d_M_swap_183 rfl (lv_at hl 2 rfl) ?_
                                      refine lv_iload_n hx hb d_M_swap_184 rfl (lv_at hl 1 rfl) ?_
                                      refine gp_cR (q0 := 0) (ci := 3) (As := [.int ((F 8) (a))]) (rest := []) ⟨hx, hb, hml, hown, hts⟩ (show gp_CR _ _ _ _ _ _ _ _ _ (gm_q (gm_sF F nt a b) (F 8 a) nt) from c_M_quarters l E (upd I 0 0) (gp_uF F 9 (upd (upd (fun j => if j < nt then F 8 j else F 9 j) a (F 8 b)) b (F 8 a))) nt (F 8 a) hT hnt) (k_M_101 hts ⟨by decide, by decide⟩ rfl rfl) hK hP rfl rfl rfl hl.1 rfl (Nat.le_of_ble_eq_true rfl) d_M_swap_185 ⟨Nat.le_of_ble_eq_true rfl, Nat.le_of_ble_eq_true rfl⟩ ?_
                                      refine lv_aload_n hx hb d_M_swap_188 rfl (lv_at hl 2 rfl) ?_
                                      refine va_get (D := E.1) (cl := gp_cl) (ci := 3) (v := .int (I 6)) (C := R_M) (T := T_M) (N := 27) hx hb hts i_M hown hK hP 0 rfl rfl 18 (by decide) (hts _ w3_70) (fun _ h9 => h9) rfl d_M_swap_189 ?_
                                      refine lv_icmp_gt (tgt := 214) hx hb d_M_swap_192 (by decide) (fun c192 => ?_) (fun c192 => ?_)
                                      · have c192 := c192
                                        have mc192 : ¬ ((gm_q (gm_sF F nt a b) (F 8 a) nt) : Int32) ≤ (I 6) := Int32.not_le.mpr c192
                                        refine lv_iconst (v := 5) hx hb d_M_swap_214 (by decide) ?_
                                        exact gp_wi hx hb hr hlocks hAe (by first | exact absurd c150 c180 | exact absurd c180 c150 | (rw [gm_swr, if_neg (fun q => q.elim (fun z => c88 z) (fun z => by first | exact mc101 z | exact (Int32.not_le.mpr z) c101)), if_neg (fun q => q.elim hs110 hs119), if_neg (fun q => q.elim hs131 hs140), if_neg (fun q => q.elim (fun z => by simp [gm_n2, c150] at z) (fun z => by simp [gm_n2, c164, hs170] at z)), if_pos (Or.inl (by simp [gm_l2, c180, c192, mc192]))])) (by first | exact absurd c150 c180 | exact absurd c180 c150 | (rw [gm_sw, if_neg (by rw [gm_swr, if_neg (fun q => q.elim (fun z => c88 z) (fun z => by first | exact mc101 z | exact (Int32.not_le.mpr z) c101)), if_neg (fun q => q.elim hs110 hs119), if_neg (fun q => q.elim hs131 hs140), if_neg (fun q => q.elim (fun z => by simp [gm_n2, c150] at z) (fun z => by simp [gm_n2, c164, hs170] at z)), if_pos (Or.inl (by simp [gm_l2, c180, c192, mc192]))]; decide)]; exact hP)) hS d_M_swap_215
                                      · have c192 := c192
                                        have mc192 : ((gm_q (gm_sF F nt a b) (F 8 a) nt) : Int32) ≤ (I 6) := Int32.not_lt.mp c192
                                        refine lv_iload hx hb d_M_swap_195 (lv_at hl 0 rfl) ?_
                                        refine lv_iconst (v := (-1)) hx hb d_M_swap_197 (by decide) ?_
                                        refine lv_icmp_eq (tgt := 216) hx hb d_M_swap_198 (by decide) (fun c198 => ?_) (fun c198 => ?_)
                                        · have c198 := c198
                                          refine lv_aload_n hx hb d_M_swap_216 rfl (lv_at hl 2 rfl) ?_
                                          refine va_get (D := E.1) (cl := gp_cl) (ci := 3) (v := .ref (E.2.2.2 9)) (C := R_M) (T := T_M) (N := 27) hx hb hts i_M hown hK hP 0 rfl rfl 12 (by decide) (hts _ w3_64) (fun _ h9 => h9) rfl d_M_swap_217 ?_
                                          refine lv_iload_n hx hb d_M_swap_220 rfl (lv_at hl 3 rfl) ?_
                                          refine lv_iload hx hb d_M_swap_221 (lv_at hl 0 rfl) ?_
                                          refine gp_ast (f := (F 8)) (n := 6) hx hb hK hP hD hS 9 rfl (a) rfl (by omega) (by decide) d_M_swap_223 (fun H locs hP hD hS => ?_)
                                          have hP : va_P E.1 gp_cl (gp_wM E (upd I 0 0) (gp_uF (gp_uF F 9 (upd (upd (fun j => if j < nt then F 8 j else F 9 j) a (F 8 b)) b (F 8 a))) 8 (upd (F 8) (a) ((F 8) (b))))) H := hP
                                          have hD : va_D A (gp_wM E (upd I 0 0) (gp_uF (gp_uF F 9 (upd (upd (fun j => if j < nt then F 8 j else F 9 j) a (F 8 b)) b (F 8 a))) 8 (upd (F 8) (a) ((F 8) (b))))) := hD
                                          refine lv_aload_n hx hb d_M_swap_224 rfl (lv_at hl 2 rfl) ?_
                                          refine va_get (D := E.1) (cl := gp_cl) (ci := 3) (v := .ref (E.2.2.2 9)) (C := R_M) (T := T_M) (N := 27) hx hb hts i_M hown hK hP 0 rfl rfl 12 (by decide) (hts _ w3_64) (fun _ h9 => h9) rfl d_M_swap_225 ?_
                                          refine lv_iload_n hx hb d_M_swap_228 rfl (lv_at hl 4 rfl) ?_
                                          refine lv_iload_n hx hb d_M_swap_229 rfl (lv_at hl 1 rfl) ?_
                                          refine gp_ast (f := (upd (F 8) (a) ((F 8) (b)))) (n := 6) hx hb hK hP hD hS 9 rfl (b) rfl (by omega) (by decide) d_M_swap_230 (fun H locs hP hD hS => ?_)
                                          have hP : va_P E.1 gp_cl (gp_wM E (upd I 0 0) (gp_uF (gp_uF (gp_uF F 9 (upd (upd (fun j => if j < nt then F 8 j else F 9 j) a (F 8 b)) b (F 8 a))) 8 (upd (F 8) (a) ((F 8) (b)))) 8 (upd (upd (F 8) (a) ((F 8) (b))) (b) ((F 8) (a))))) H := hP
                                          have hD : va_D A (gp_wM E (upd I 0 0) (gp_uF (gp_uF (gp_uF F 9 (upd (upd (fun j => if j < nt then F 8 j else F 9 j) a (F 8 b)) b (F 8 a))) 8 (upd (F 8) (a) ((F 8) (b)))) 8 (upd (upd (F 8) (a) ((F 8) (b))) (b) ((F 8) (a))))) := hD
                                          refine lv_iconst (v := 0) hx hb d_M_swap_231 (by decide) ?_
                                          exact gp_wi hx hb hr hlocks hAe (by first | exact absurd c150 c180 | exact absurd c180 c150 | exact absurd c164 c198 | exact absurd c198 c164 | (rw [gm_swr, if_neg (fun q => q.elim (fun z => c88 z) (fun z => by first | exact mc101 z | exact (Int32.not_le.mpr z) c101)), if_neg (fun q => q.elim hs110 hs119), if_neg (fun q => q.elim hs131 hs140), if_neg (fun q => q.elim (fun z => by simp [gm_n2, c150] at z) (fun z => by simp [gm_n2, c164, hs170] at z)), if_neg (fun q => q.elim (fun z => by simp [gm_l2, c180, c192, mc192] at z) (fun z => by simp [gm_l2, c198] at z))])) (by first | exact absurd c150 c180 | exact absurd c180 c150 | exact absurd c164 c198 | exact absurd c198 c164 | (rw [gm_sw, if_pos (by rw [gm_swr, if_neg (fun q => q.elim (fun z => c88 z) (fun z => by first | exact mc101 z | exact (Int32.not_le.mpr z) c101)), if_neg (fun q => q.elim hs110 hs119), if_neg (fun q => q.elim hs131 hs140), if_neg (fun q => q.elim (fun z => by simp [gm_n2, c150] at z) (fun z => by simp [gm_n2, c164, hs170] at z)), if_neg (fun q => q.elim (fun z => by simp [gm_l2, c180, c192, mc192] at z) (fun z => by simp [gm_l2, c198] at z))])]; exact hP)) hS d_M_swap_232
                                        · have c198 := c198
                                          refine lv_aload_n hx hb d_M_swap_201 rfl (lv_at hl 2 rfl) ?_
                                          refine lv_iload hx hb d_M_swap_202 (lv_at hl 0 rfl) ?_
                                          refine gp_cR (q0 := 0) (ci := 3) (As := [.int ((F 8) (b))]) (rest := []) ⟨hx, hb, hml, hown, hts⟩ (show gp_CR _ _ _ _ _ _ _ _ _ (gm_q (gm_sF F nt a b) (F 8 b) nt) from c_M_quarters l E (upd I 0 0) (gp_uF F 9 (upd (upd (fun j => if j < nt then F 8 j else F 9 j) a (F 8 b)) b (F 8 a))) nt (F 8 b) hT hnt) (k_M_101 hts ⟨by decide, by decide⟩ rfl rfl) hK hP rfl rfl rfl hl.1 rfl (Nat.le_of_ble_eq_true rfl) d_M_swap_204 ⟨Nat.le_of_ble_eq_true rfl, Nat.le_of_ble_eq_true rfl⟩ ?_
                                          refine lv_aload_n hx hb d_M_swap_207 rfl (lv_at hl 2 rfl) ?_
                                          refine va_get (D := E.1) (cl := gp_cl) (ci := 3) (v := .int (I 6)) (C := R_M) (T := T_M) (N := 27) hx hb hts i_M hown hK hP 0 rfl rfl 18 (by decide) (hts _ w3_70) (fun _ h9 => h9) rfl d_M_swap_208 ?_
                                          refine lv_icmp_le (tgt := 216) hx hb d_M_swap_211 (by decide) (fun c211 => ?_) (fun c211 => ?_)
                                          · have c211 := c211
                                            have mc211 : ¬ ((I 6) : Int32) < (gm_q (gm_sF F nt a b) (F 8 b) nt) := Int32.not_lt.mpr c211
                                            refine lv_aload_n hx hb d_M_swap_216 rfl (lv_at hl 2 rfl) ?_
                                            refine va_get (D := E.1) (cl := gp_cl) (ci := 3) (v := .ref (E.2.2.2 9)) (C := R_M) (T := T_M) (N := 27) hx hb hts i_M hown hK hP 0 rfl rfl 12 (by decide) (hts _ w3_64) (fun _ h9 => h9) rfl d_M_swap_217 ?_
                                            refine lv_iload_n hx hb d_M_swap_220 rfl (lv_at hl 3 rfl) ?_
                                            refine lv_iload hx hb d_M_swap_221 (lv_at hl 0 rfl) ?_
                                            refine gp_ast (f := (F 8)) (n := 6) hx hb hK hP hD hS 9 rfl (a) rfl (by omega) (by decide) d_M_swap_223 (fun H locs hP hD hS => ?_)
                                            have hP : va_P E.1 gp_cl (gp_wM E (upd I 0 0) (gp_uF (gp_uF F 9 (upd (upd (fun j => if j < nt then F 8 j else F 9 j) a (F 8 b)) b (F 8 a))) 8 (upd (F 8) (a) ((F 8) (b))))) H := hP
                                            have hD : va_D A (gp_wM E (upd I 0 0) (gp_uF (gp_uF F 9 (upd (upd (fun j => if j < nt then F 8 j else F 9 j) a (F 8 b)) b (F 8 a))) 8 (upd (F 8) (a) ((F 8) (b))))) := hD
                                            refine lv_aload_n hx hb d_M_swap_224 rfl (lv_at hl 2 rfl) ?_
                                            refine va_get (D := E.1) (cl := gp_cl) (ci := 3) (v := .ref (E.2.2.2 9)) (C := R_M) (T := T_M) (N := 27) hx hb hts i_M hown hK hP 0 rfl rfl 12 (by decide) (hts _ w3_64) (fun _ h9 => h9) rfl d_M_swap_225 ?_
                                            refine lv_iload_n hx hb d_M_swap_228 rfl (lv_at hl 4 rfl) ?_
                                            refine lv_iload_n hx hb d_M_swap_229 rfl (lv_at hl 1 rfl) ?_
                                            refine gp_ast (f := (upd (F 8) (a) ((F 8) (b)))) (n := 6) hx hb hK hP hD hS 9 rfl (b) rfl (by omega) (by decide) d_M_swap_230 (fun H locs hP hD hS => ?_)
                                            have hP : va_P E.1 gp_cl (gp_wM E (upd I 0 0) (gp_uF (gp_uF (gp_uF F 9 (upd (upd (fun j => if j < nt then F 8 j else F 9 j) a (F 8 b)) b (F 8 a))) 8 (upd (F 8) (a) ((F 8) (b)))) 8 (upd (upd (F 8) (a) ((F 8) (b))) (b) ((F 8) (a))))) H := hP
                                            have hD : va_D A (gp_wM E (upd I 0 0) (gp_uF (gp_uF (gp_uF F 9 (upd (upd (fun j => if j < nt then F 8 j else F 9 j) a (F 8 b)) b (F 8 a))) 8 (upd (F 8) (a) ((F 8) (b)))) 8 (upd (upd (F 8) (a) ((F 8) (b))) (b) ((F 8) (a))))) := hD
                                            refine lv_iconst (v := 0) hx hb d_M_swap_231 (by decide) ?_
                                            exact gp_wi hx hb hr hlocks hAe (by first | exact absurd c150 c180 | exact absurd c180 c150 | exact absurd c164 c198 | exact absurd c198 c164 | (rw [gm_swr, if_neg (fun q => q.elim (fun z => c88 z) (fun z => by first | exact mc101 z | exact (Int32.not_le.mpr z) c101)), if_neg (fun q => q.elim hs110 hs119), if_neg (fun q => q.elim hs131 hs140), if_neg (fun q => q.elim (fun z => by simp [gm_n2, c150] at z) (fun z => by simp [gm_n2, c164, hs170] at z)), if_neg (fun q => q.elim (fun z => by simp [gm_l2, c180, c192, mc192] at z) (fun z => by simp [gm_l2, c198, c211, mc211] at z))])) (by first | exact absurd c150 c180 | exact absurd c180 c150 | exact absurd c164 c198 | exact absurd c198 c164 | (rw [gm_sw, if_pos (by rw [gm_swr, if_neg (fun q => q.elim (fun z => c88 z) (fun z => by first | exact mc101 z | exact (Int32.not_le.mpr z) c101)), if_neg (fun q => q.elim hs110 hs119), if_neg (fun q => q.elim hs131 hs140), if_neg (fun q => q.elim (fun z => by simp [gm_n2, c150] at z) (fun z => by simp [gm_n2, c164, hs170] at z)), if_neg (fun q => q.elim (fun z => by simp [gm_l2, c180, c192, mc192] at z) (fun z => by simp [gm_l2, c198, c211, mc211] at z))])]; exact hP)) hS d_M_swap_232
                                          · have c211 := c211
                                            have mc211 : ((I 6) : Int32) < (gm_q (gm_sF F nt a b) (F 8 b) nt) := Int32.not_le.mp c211
                                            refine lv_iconst (v := 5) hx hb d_M_swap_214 (by decide) ?_
                                            exact gp_wi hx hb hr hlocks hAe (by first | exact absurd c150 c180 | exact absurd c180 c150 | exact absurd c164 c198 | exact absurd c198 c164 | (rw [gm_swr, if_neg (fun q => q.elim (fun z => c88 z) (fun z => by first | exact mc101 z | exact (Int32.not_le.mpr z) c101)), if_neg (fun q => q.elim hs110 hs119), if_neg (fun q => q.elim hs131 hs140), if_neg (fun q => q.elim (fun z => by simp [gm_n2, c150] at z) (fun z => by simp [gm_n2, c164, hs170] at z)), if_pos (Or.inr (by simp [gm_l2, c198, c211, mc211]))])) (by first | exact absurd c150 c180 | exact absurd c180 c150 | exact absurd c164 c198 | exact absurd c198 c164 | (rw [gm_sw, if_neg (by rw [gm_swr, if_neg (fun q => q.elim (fun z => c88 z) (fun z => by first | exact mc101 z | exact (Int32.not_le.mpr z) c101)), if_neg (fun q => q.elim hs110 hs119), if_neg (fun q => q.elim hs131 hs140), if_neg (fun q => q.elim (fun z => by simp [gm_n2, c150] at z) (fun z => by simp [gm_n2, c164, hs170] at z)), if_pos (Or.inr (by simp [gm_l2, c198, c211, mc211]))]; decide)]; exact hP)) hS d_M_swap_215
                                  · exact absurd c173 (by decide)
                            · have c150 := c150
                              refine lv_aload_n hx hb d_M_swap_153 rfl (lv_at hl 2 rfl) ?_
                              refine lv_iload_n hx hb d_M_swap_154 rfl (lv_at hl 1 rfl) ?_
                              refine gp_cR (q0 := 0) (ci := 3) (As := [.int ((F 8) (a))]) (rest := []) ⟨hx, hb, hml, hown, hts⟩ (show gp_CR _ _ _ _ _ _ _ _ _ (if gm_h2 (I 5) (gm_sF F nt a b) (F 8 a) nt then 1 else 0) from c_M_hasNear l E (upd I 0 0) (gp_uF F 9 (upd (upd (fun j => if j < nt then F 8 j else F 9 j) a (F 8 b)) b (F 8 a))) nt (F 8 a) hT hnt) (k_M_105 hts ⟨by decide, by decide⟩ rfl rfl) hK hP rfl rfl rfl hl.1 rfl (Nat.le_of_ble_eq_true rfl) d_M_swap_155 ⟨Nat.le_of_ble_eq_true rfl, Nat.le_of_ble_eq_true rfl⟩ ?_
                              by_cases hs155 : gm_h2 (I 5) (gm_sF F nt a b) (F 8 a) nt = true
                              · rw [show ((if gm_h2 (I 5) (gm_sF F nt a b) (F 8 a) nt then 1 else 0) : Int32) = 1 from if_pos hs155]
                                refine lv_if_ne (tgt := 176) hx hb d_M_swap_158 (by decide) (fun c158 => ?_) (fun c158 => ?_)
                                · have c158 := c158
                                  have nc158 : ¬ 1 = 0 := fun h => c158 ((nI_eq (a := 1) (b := 0) (by omega) (by omega)).mpr h)
                                  refine lv_iconst (v := 4) hx hb d_M_swap_176 (by decide) ?_
                                  exact gp_wi hx hb hr hlocks hAe (by first | (rw [gm_swr, if_neg (fun q => q.elim (fun z => c88 z) (fun z => by first | exact mc101 z | exact (Int32.not_le.mpr z) c101)), if_neg (fun q => q.elim hs110 hs119), if_neg (fun q => q.elim hs131 hs140), if_pos (Or.inl (by simp [gm_n2, c150, hs155]))])) (by first | (rw [gm_sw, if_neg (by rw [gm_swr, if_neg (fun q => q.elim (fun z => c88 z) (fun z => by first | exact mc101 z | exact (Int32.not_le.mpr z) c101)), if_neg (fun q => q.elim hs110 hs119), if_neg (fun q => q.elim hs131 hs140), if_pos (Or.inl (by simp [gm_n2, c150, hs155]))]; decide)]; exact hP)) hS d_M_swap_177
                                · exact absurd c158 (by decide)
                              · rw [show ((if gm_h2 (I 5) (gm_sF F nt a b) (F 8 a) nt then 1 else 0) : Int32) = 0 from if_neg hs155]
                                refine lv_if_ne (tgt := 176) hx hb d_M_swap_158 (by decide) (fun c158 => ?_) (fun c158 => ?_)
                                · exact absurd c158 (by decide)
                                · have c158 := c158
                                  have nc158 : 0 = 0 := (nI_eq (a := 0) (b := 0) (by omega) (by omega)).mp c158
                                  refine lv_iload hx hb d_M_swap_161 (lv_at hl 0 rfl) ?_
                                  refine lv_iconst (v := (-1)) hx hb d_M_swap_163 (by decide) ?_
                                  refine lv_icmp_eq (tgt := 178) hx hb d_M_swap_164 (by decide) (fun c164 => ?_) (fun c164 => ?_)
                                  · have c164 := c164
                                    refine lv_iload_n hx hb d_M_swap_178 rfl (lv_at hl 1 rfl) ?_
                                    refine lv_iconst (v := (-1)) hx hb d_M_swap_179 (by decide) ?_
                                    refine lv_icmp_eq (tgt := 195) hx hb d_M_swap_180 (by decide) (fun c180 => ?_) (fun c180 => ?_)
                                    · have c180 := c180
                                      refine lv_iload hx hb d_M_swap_195 (lv_at hl 0 rfl) ?_
                                      refine lv_iconst (v := (-1)) hx hb d_M_swap_197 (by decide) ?_
                                      refine lv_icmp_eq (tgt := 216) hx hb d_M_swap_198 (by decide) (fun c198 => ?_) (fun c198 => ?_)
                                      · have c198 := c198
                                        refine lv_aload_n hx hb d_M_swap_216 rfl (lv_at hl 2 rfl) ?_
                                        refine va_get (D := E.1) (cl := gp_cl) (ci := 3) (v := .ref (E.2.2.2 9)) (C := R_M) (T := T_M) (N := 27) hx hb hts i_M hown hK hP 0 rfl rfl 12 (by decide) (hts _ w3_64) (fun _ h9 => h9) rfl d_M_swap_217 ?_
                                        refine lv_iload_n hx hb d_M_swap_220 rfl (lv_at hl 3 rfl) ?_
                                        refine lv_iload hx hb d_M_swap_221 (lv_at hl 0 rfl) ?_
                                        refine gp_ast (f := (F 8)) (n := 6) hx hb hK hP hD hS 9 rfl (a) rfl (by omega) (by decide) d_M_swap_223 (fun H locs hP hD hS => ?_)
                                        have hP : va_P E.1 gp_cl (gp_wM E (upd I 0 0) (gp_uF (gp_uF F 9 (upd (upd (fun j => if j < nt then F 8 j else F 9 j) a (F 8 b)) b (F 8 a))) 8 (upd (F 8) (a) ((F 8) (b))))) H := hP
                                        have hD : va_D A (gp_wM E (upd I 0 0) (gp_uF (gp_uF F 9 (upd (upd (fun j => if j < nt then F 8 j else F 9 j) a (F 8 b)) b (F 8 a))) 8 (upd (F 8) (a) ((F 8) (b))))) := hD
                                        refine lv_aload_n hx hb d_M_swap_224 rfl (lv_at hl 2 rfl) ?_
                                        refine va_get (D := E.1) (cl := gp_cl) (ci := 3) (v := .ref (E.2.2.2 9)) (C := R_M) (T := T_M) (N := 27) hx hb hts i_M hown hK hP 0 rfl rfl 12 (by decide) (hts _ w3_64) (fun _ h9 => h9) rfl d_M_swap_225 ?_
                                        refine lv_iload_n hx hb d_M_swap_228 rfl (lv_at hl 4 rfl) ?_
                                        refine lv_iload_n hx hb d_M_swap_229 rfl (lv_at hl 1 rfl) ?_
                                        refine gp_ast (f := (upd (F 8) (a) ((F 8) (b)))) (n := 6) hx hb hK hP hD hS 9 rfl (b) rfl (by omega) (by decide) d_M_swap_230 (fun H locs hP hD hS => ?_)
                                        have hP : va_P E.1 gp_cl (gp_wM E (upd I 0 0) (gp_uF (gp_uF (gp_uF F 9 (upd (upd (fun j => if j < nt then F 8 j else F 9 j) a (F 8 b)) b (F 8 a))) 8 (upd (F 8) (a) ((F 8) (b)))) 8 (upd (upd (F 8) (a) ((F 8) (b))) (b) ((F 8) (a))))) H := hP
                                        have hD : va_D A (gp_wM E (upd I 0 0) (gp_uF (gp_uF (gp_uF F 9 (upd (upd (fun j => if j < nt then F 8 j else F 9 j) a (F 8 b)) b (F 8 a))) 8 (upd (F 8) (a) ((F 8) (b)))) 8 (upd (upd (F 8) (a) ((F 8) (b))) (b) ((F 8) (a))))) := hD
                                        refine lv_iconst (v := 0) hx hb d_M_swap_231 (by decide) ?_
                                        exact gp_wi hx hb hr hlocks hAe (by first | exact absurd c150 c180 | exact absurd c180 c150 | exact absurd c164 c198 | exact absurd c198 c164 | (rw [gm_swr, if_neg (fun q => q.elim (fun z => c88 z) (fun z => by first | exact mc101 z | exact (Int32.not_le.mpr z) c101)), if_neg (fun q => q.elim hs110 hs119), if_neg (fun q => q.elim hs131 hs140), if_neg (fun q => q.elim (fun z => by simp [gm_n2, c150, hs155] at z) (fun z => by simp [gm_n2, c164] at z)), if_neg (fun q => q.elim (fun z => by simp [gm_l2, c180] at z) (fun z => by simp [gm_l2, c198] at z))])) (by first | exact absurd c150 c180 | exact absurd c180 c150 | exact absurd c164 c198 | exact absurd c198 c164 | (rw [gm_sw, if_pos (by rw [gm_swr, if_neg (fun q => q.elim (fun z => c88 z) (fun z => by first | exact mc101 z | exact (Int32.not_le.mpr z) c101)), if_neg (fun q => q.elim hs110 hs119), if_neg (fun q => q.elim hs131 hs140), if_neg (fun q => q.elim (fun z => by simp [gm_n2, c150, hs155] at z) (fun z => by simp [gm_n2, c164] at z)), if_neg (fun q => q.elim (fun z => by simp [gm_l2, c180] at z) (fun z => by simp [gm_l2, c198] at z))])]; exact hP)) hS d_M_swap_232
                                      · have c198 := c198
                                        refine lv_aload_n hx hb d_M_swap_201 rfl (lv_at hl 2 rfl) ?_
                                        refine lv_iload hx hb d_M_swap_202 (lv_at hl 0 rfl) ?_
                                        refine gp_cR (q0 := 0) (ci := 3) (As := [.int ((F 8) (b))]) (rest := []) ⟨hx, hb, hml, hown, hts⟩ (show gp_CR _ _ _ _ _ _ _ _ _ (gm_q (gm_sF F nt a b) (F 8 b) nt) from c_M_quarters l E (upd I 0 0) (gp_uF F 9 (upd (upd (fun j => if j < nt then F 8 j else F 9 j) a (F 8 b)) b (F 8 a))) nt (F 8 b) hT hnt) (k_M_101 hts ⟨by decide, by decide⟩ rfl rfl) hK hP rfl rfl rfl hl.1 rfl (Nat.le_of_ble_eq_true rfl) d_M_swap_204 ⟨Nat.le_of_ble_eq_true rfl, Nat.le_of_ble_eq_true rfl⟩ ?_
                                        refine lv_aload_n hx hb d_M_swap_207 rfl (lv_at hl 2 rfl) ?_
                                        refine va_get (D := E.1) (cl := gp_cl) (ci := 3) (v := .int (I 6)) (C := R_M) (T := T_M) (N := 27) hx hb hts i_M hown hK hP 0 rfl rfl 18 (by decide) (hts _ w3_70) (fun _ h9 => h9) rfl d_M_swap_208 ?_
                                        refine lv_icmp_le (tgt := 216) hx hb d_M_swap_211 (by decide) (fun c211 => ?_) (fun c211 => ?_)
                                        · have c211 := c211
                                          have mc211 : ¬ ((I 6) : Int32) < (gm_q (gm_sF F nt a b) (F 8 b) nt) := Int32.not_lt.mpr c211
                                          refine lv_aload_n hx hb d_M_swap_216 rfl (lv_at hl 2 rfl) ?_
                                          refine va_get (D := E.1) (cl := gp_cl) (ci := 3) (v := .ref (E.2.2.2 9)) (C := R_M) (T := T_M) (N := 27) hx hb hts i_M hown hK hP 0 rfl rfl 12 (by decide) (hts _ w3_64) (fun _ h9 => h9) rfl d_M_swap_217 ?_
                                          refine lv_iload_n hx hb d_M_swap_220 rfl (lv_at hl 3 rfl) ?_
                                          refine lv_iload hx hb d_M_swap_221 (lv_at hl 0 rfl) ?_
                                          refine gp_ast (f := (F 8)) (n := 6) hx hb hK hP hD hS 9 rfl (a) rfl (by omega) (by decide) d_M_swap_223 (fun H locs hP hD hS => ?_)
                                          have hP : va_P E.1 gp_cl (gp_wM E (upd I 0 0) (gp_uF (gp_uF F 9 (upd (upd (fun j => if j < nt then F 8 j else F 9 j) a (F 8 b)) b (F 8 a))) 8 (upd (F 8) (a) ((F 8) (b))))) H := hP
                                          have hD : va_D A (gp_wM E (upd I 0 0) (gp_uF (gp_uF F 9 (upd (upd (fun j => if j < nt then F 8 j else F 9 j) a (F 8 b)) b (F 8 a))) 8 (upd (F 8) (a) ((F 8) (b))))) := hD
                                          refine lv_aload_n hx hb d_M_swap_224 rfl (lv_at hl 2 rfl) ?_
                                          refine va_get (D := E.1) (cl := gp_cl) (ci := 3) (v := .ref (E.2.2.2 9)) (C := R_M) (T := T_M) (N := 27) hx hb hts i_M hown hK hP 0 rfl rfl 12 (by decide) (hts _ w3_64) (fun _ h9 => h9) rfl d_M_swap_225 ?_
                                          refine lv_iload_n hx hb d_M_swap_228 rfl (lv_at hl 4 rfl) ?_
                                          refine lv_iload_n hx hb d_M_swap_229 rfl (lv_at hl 1 rfl) ?_
                                          refine gp_ast (f := (upd (F 8) (a) ((F 8) (b)))) (n := 6) hx hb hK hP hD hS 9 rfl (b) rfl (by omega) (by decide) d_M_swap_230 (fun H locs hP hD hS => ?_)
                                          have hP : va_P E.1 gp_cl (gp_wM E (upd I 0 0) (gp_uF (gp_uF (gp_uF F 9 (upd (upd (fun j => if j < nt then F 8 j else F 9 j) a (F 8 b)) b (F 8 a))) 8 (upd (F 8) (a) ((F 8) (b)))) 8 (upd (upd (F 8) (a) ((F 8) (b))) (b) ((F 8) (a))))) H := hP
                                          have hD : va_D A (gp_wM E (upd I 0 0) (gp_uF (gp_uF (gp_uF F 9 (upd (upd (fun j => if j < nt then F 8 j else F 9 j) a (F 8 b)) b (F 8 a))) 8 (upd (F 8) (a) ((F 8) (b)))) 8 (upd (upd (F 8) (a) ((F 8) (b))) (b) ((F 8) (a))))) := hD
                                          refine lv_iconst (v := 0) hx hb d_M_swap_231 (by decide) ?_
                                          exact gp_wi hx hb hr hlocks hAe (by first | exact absurd c150 c180 | exact absurd c180 c150 | exact absurd c164 c198 | exact absurd c198 c164 | (rw [gm_swr, if_neg (fun q => q.elim (fun z => c88 z) (fun z => by first | exact mc101 z | exact (Int32.not_le.mpr z) c101)), if_neg (fun q => q.elim hs110 hs119), if_neg (fun q => q.elim hs131 hs140), if_neg (fun q => q.elim (fun z => by simp [gm_n2, c150, hs155] at z) (fun z => by simp [gm_n2, c164] at z)), if_neg (fun q => q.elim (fun z => by simp [gm_l2, c180] at z) (fun z => by simp [gm_l2, c198, c211, mc211] at z))])) (by first | exact absurd c150 c180 | exact absurd c180 c150 | exact absurd c164 c198 | exact absurd c198 c164 | (rw [gm_sw, if_pos (by rw [gm_swr, if_neg (fun q => q.elim (fun z => c88 z) (fun z => by first | exact mc101 z | exact (Int32.not_le.mpr z) c101)), if_neg (fun q => q.elim hs110 hs119), if_neg (fun q => q.elim hs131 hs140), if_neg (fun q => q.elim (fun z => by simp [gm_n2, c150, hs155] at z) (fun z => by simp [gm_n2, c164] at z)), if_neg (fun q => q.elim (fun z => by simp [gm_l2, c180] at z) (fun z => by simp [gm_l2, c198, c211, mc211] at z))])]; exact hP)) hS d_M_swap_232
                                        · have c211 := c211
                                          have mc211 : ((I 6) : Int32) < (gm_q (gm_sF F nt a b) (F 8 b) nt) := Int32.not_le.mp c211
                                          refine lv_iconst (v := 5) hx hb d_M_swap_214 (by decide) ?_
                                          exact gp_wi hx hb hr hlocks hAe (by first | exact absurd c150 c180 | exact absurd c180 c150 | exact absurd c164 c198 | exact absurd c198 c164 | (rw [gm_swr, if_neg (fun q => q.elim (fun z => c88 z) (fun z => by first | exact mc101 z | exact (Int32.not_le.mpr z) c101)), if_neg (fun q => q.elim hs110 hs119), if_neg (fun q => q.elim hs131 hs140), if_neg (fun q => q.elim (fun z => by simp [gm_n2, c150, hs155] at z) (fun z => by simp [gm_n2, c164] at z)), if_pos (Or.inr (by simp [gm_l2, c198, c211, mc211]))])) (by first | exact absurd c150 c180 | exact absurd c180 c150 | exact absurd c164 c198 | exact absurd c198 c164 | (rw [gm_sw, if_neg (by rw [gm_swr, if_neg (fun q => q.elim (fun z => c88 z) (fun z => by first | exact mc101 z | exact (Int32.not_le.mpr z) c101)), if_neg (fun q => q.elim hs110 hs119), if_neg (fun q => q.elim hs131 hs140), if_neg (fun q => q.elim (fun z => by simp [gm_n2, c150, hs155] at z) (fun z => by simp [gm_n2, c164] at z)), if_pos (Or.inr (by simp [gm_l2, c198, c211, mc211]))]; decide)]; exact hP)) hS d_M_swap_215
                                    · have c180 := c180
                                      refine lv_aload_n hx hb d_M_swap_183 rfl (lv_at hl 2 rfl) ?_
                                      refine lv_iload_n hx hb d_M_swap_184 rfl (lv_at hl 1 rfl) ?_
                                      refine gp_cR (q0 := 0) (ci := 3) (As := [.int ((F 8) (a))]) (rest := []) ⟨hx, hb, hml, hown, hts⟩ (show gp_CR _ _ _ _ _ _ _ _ _ (gm_q (gm_sF F nt a b) (F 8 a) nt) from c_M_quarters l E (upd I 0 0) (gp_uF F 9 (upd (upd (fun j => if j < nt then F 8 j else F 9 j) a (F 8 b)) b (F 8 a))) nt (F 8 a) hT hnt) (k_M_101 hts ⟨by decide, by decide⟩ rfl rfl) hK hP rfl rfl rfl hl.1 rfl (Nat.le_of_ble_eq_true rfl) d_M_swap_185 ⟨Nat.le_of_ble_eq_true rfl, Nat.le_of_ble_eq_true rfl⟩ ?_
                                      refine lv_aload_n hx hb d_M_swap_188 rfl (lv_at hl 2 rfl) ?_
                                      refine va_get (D := E.1) (cl := gp_cl) (ci := 3) (v := .int (I 6)) (C := R_M) (T := T_M) (N := 27) hx hb hts i_M hown hK hP 0 rfl rfl 18 (by decide) (hts _ w3_70) (fun _ h9 => h9) rfl d_M_swap_189 ?_
                                      refine lv_icmp_gt (tgt := 214) hx hb d_M_swap_192 (by decide) (fun c192 => ?_) (fun c192 => ?_)
                                      · have c192 := c192
                                        have mc192 : ¬ ((gm_q (gm_sF F nt a b) (F 8 a) nt) : Int32) ≤ (I 6) := Int32.not_le.mpr c192
                                        refine lv_iconst (v := 5) hx hb d_M_swap_214 (by decide) ?_
                                        exact gp_wi hx hb hr hlocks hAe (by first | exact absurd c150 c180 | exact absurd c180 c150 | (rw [gm_swr, if_neg (fun q => q.elim (fun z => c88 z) (fun z => by first | exact mc101 z | exact (Int32.not_le.mpr z) c101)), if_neg (fun q => q.elim hs110 hs119), if_neg (fun q => q.elim hs131 hs140), if_neg (fun q => q.elim (fun z => by simp [gm_n2, c150, hs155] at z) (fun z => by simp [gm_n2, c164] at z)), if_pos (Or.inl (by simp [gm_l2, c180, c192, mc192]))])) (by first | exact absurd c150 c180 | exact absurd c180 c150 | (rw [gm_sw, if_neg (by rw [gm_swr, if_neg (fun q => q.elim (fun z => c88 z) (fun z => by first | exact mc101 z | exact (Int32.not_le.mpr z) c101)), if_neg (fun q => q.elim hs110 hs119), if_neg (fun q => q.elim hs131 hs140), if_neg (fun q => q.elim (fun z => by simp [gm_n2, c150, hs155] at z) (fun z => by simp [gm_n2, c164] at z)), if_pos (Or.inl (by simp [gm_l2, c180, c192, mc192]))]; decide)]; exact hP)) hS d_M_swap_215
                                      · have c192 := c192
                                        have mc192 : ((gm_q (gm_sF F nt a b) (F 8 a) nt) : Int32) ≤ (I 6) := Int32.not_lt.mp c192
                                        refine lv_iload hx hb d_M_swap_195 (lv_at hl 0 rfl) ?_
                                        refine lv_iconst (v := (-1)) hx hb d_M_swap_197 (by decide) ?_
                                        refine lv_icmp_eq (tgt := 216) hx hb d_M_swap_198 (by decide) (fun c198 => ?_) (fun c198 => ?_)
                                        · have c198 := c198
                                          refine lv_aload_n hx hb d_M_swap_216 rfl (lv_at hl 2 rfl) ?_
                                          refine va_get (D := E.1) (cl := gp_cl) (ci := 3) (v := .ref (E.2.2.2 9)) (C := R_M) (T := T_M) (N := 27) hx hb hts i_M hown hK hP 0 rfl rfl 12 (by decide) (hts _ w3_64) (fun _ h9 => h9) rfl d_M_swap_217 ?_
                                          refine lv_iload_n hx hb d_M_swap_220 rfl (lv_at hl 3 rfl) ?_
                                          refine lv_iload hx hb d_M_swap_221 (lv_at hl 0 rfl) ?_
                                          refine gp_ast (f := (F 8)) (n := 6) hx hb hK hP hD hS 9 rfl (a) rfl (by omega) (by decide) d_M_swap_223 (fun H locs hP hD hS => ?_)
                                          have hP : va_P E.1 gp_cl (gp_wM E (upd I 0 0) (gp_uF (gp_uF F 9 (upd (upd (fun j => if j < nt then F 8 j else F 9 j) a (F 8 b)) b (F 8 a))) 8 (upd (F 8) (a) ((F 8) (b))))) H := hP
                                          have hD : va_D A (gp_wM E (upd I 0 0) (gp_uF (gp_uF F 9 (upd (upd (fun j => if j < nt then F 8 j else F 9 j) a (F 8 b)) b (F 8 a))) 8 (upd (F 8) (a) ((F 8) (b))))) := hD
                                          refine lv_aload_n hx hb d_M_swap_224 rfl (lv_at hl 2 rfl) ?_
                                          refine va_get (D := E.1) (cl := gp_cl) (ci := 3) (v := .ref (E.2.2.2 9)) (C := R_M) (T := T_M) (N := 27) hx hb hts i_M hown hK hP 0 rfl rfl 12 (by decide) (hts _ w3_64) (fun _ h9 => h9) rfl d_M_swap_225 ?_
                                          refine lv_iload_n hx hb d_M_swap_228 rfl (lv_at hl 4 rfl) ?_
                                          refine lv_iload_n hx hb d_M_swap_229 rfl (lv_at hl 1 rfl) ?_
                                          refine gp_ast (f := (upd (F 8) (a) ((F 8) (b)))) (n := 6) hx hb hK hP hD hS 9 rfl (b) rfl (by omega) (by decide) d_M_swap_230 (fun H locs hP hD hS => ?_)
                                          have hP : va_P E.1 gp_cl (gp_wM E (upd I 0 0) (gp_uF (gp_uF (gp_uF F 9 (upd (upd (fun j => if j < nt then F 8 j else F 9 j) a (F 8 b)) b (F 8 a))) 8 (upd (F 8) (a) ((F 8) (b)))) 8 (upd (upd (F 8) (a) ((F 8) (b))) (b) ((F 8) (a))))) H := hP
                                          have hD : va_D A (gp_wM E (upd I 0 0) (gp_uF (gp_uF (gp_uF F 9 (upd (upd (fun j => if j < nt then F 8 j else F 9 j) a (F 8 b)) b (F 8 a))) 8 (upd (F 8) (a) ((F 8) (b)))) 8 (upd (upd (F 8) (a) ((F 8) (b))) (b) ((F 8) (a))))) := hD
                                          refine lv_iconst (v := 0) hx hb d_M_swap_231 (by decide) ?_
                                          exact gp_wi hx hb hr hlocks hAe (by first | exact absurd c150 c180 | exact absurd c180 c150 | exact absurd c164 c198 | exact absurd c198 c164 | (rw [gm_swr, if_neg (fun q => q.elim (fun z => c88 z) (fun z => by first | exact mc101 z | exact (Int32.not_le.mpr z) c101)), if_neg (fun q => q.elim hs110 hs119), if_neg (fun q => q.elim hs131 hs140), if_neg (fun q => q.elim (fun z => by simp [gm_n2, c150, hs155] at z) (fun z => by simp [gm_n2, c164] at z)), if_neg (fun q => q.elim (fun z => by simp [gm_l2, c180, c192, mc192] at z) (fun z => by simp [gm_l2, c198] at z))])) (by first | exact absurd c150 c180 | exact absurd c180 c150 | exact absurd c164 c198 | exact absurd c198 c164 | (rw [gm_sw, if_pos (by rw [gm_swr, if_neg (fun q => q.elim (fun z => c88 z) (fun z => by first | exact mc101 z | exact (Int32.not_le.mpr z) c101)), if_neg (fun q => q.elim hs110 hs119), if_neg (fun q => q.elim hs131 hs140), if_neg (fun q => q.elim (fun z => by simp [gm_n2, c150, hs155] at z) (fun z => by simp [gm_n2, c164] at z)), if_neg (fun q => q.elim (fun z => by simp [gm_l2, c180, c192, mc192] at z) (fun z => by simp [gm_l2, c198] at z))])]; exact hP)) hS d_M_swap_232
                                        · have c198 := c198
                                          refine lv_aload_n hx hb d_M_swap_201 rfl (lv_at hl 2 rfl) ?_
                                          refine lv_iload hx hb d_M_swap_202 (lv_at hl 0 rfl) ?_
                                          refine gp_cR (q0 := 0) (ci := 3) (As := [.int ((F 8) (b))]) (rest := []) ⟨hx, hb, hml, hown, hts⟩ (show gp_CR _ _ _ _ _ _ _ _ _ (gm_q (gm_sF F nt a b) (F 8 b) nt) from c_M_quarters l E (upd I 0 0) (gp_uF F 9 (upd (upd (fun j => if j < nt then F 8 j else F 9 j) a (F 8 b)) b (F 8 a))) nt (F 8 b) hT hnt) (k_M_101 hts ⟨by decide, by decide⟩ rfl rfl) hK hP rfl rfl rfl hl.1 rfl (Nat.le_of_ble_eq_true rfl) d_M_swap_204 ⟨Nat.le_of_ble_eq_true rfl, Nat.le_of_ble_eq_true rfl⟩ ?_
                                          refine lv_aload_n hx hb d_M_swap_207 rfl (lv_at hl 2 rfl) ?_
                                          refine va_get (D := E.1) (cl := gp_cl) (ci := 3) (v := .int (I 6)) (C := R_M) (T := T_M) (N := 27) hx hb hts i_M hown hK hP 0 rfl rfl 18 (by decide) (hts _ w3_70) (fun _ h9 => h9) rfl d_M_swap_208 ?_
                                          refine lv_icmp_le (tgt := 216) hx hb d_M_swap_211 (by decide) (fun c211 => ?_) (fun c211 => ?_)
                                          · have c211 := c211
                                            have mc211 : ¬ ((I 6) : Int32) < (gm_q (gm_sF F nt a b) (F 8 b) nt) := Int32.not_lt.mpr c211
                                            refine lv_aload_n hx hb d_M_swap_216 rfl (lv_at hl 2 rfl) ?_
                                            refine va_get (D := E.1) (cl := gp_cl) (ci := 3) (v := .ref (E.2.2.2 9)) (C := R_M) (T := T_M) (N := 27) hx hb hts i_M hown hK hP 0 rfl rfl 12 (by decide) (hts _ w3_64) (fun _ h9 => h9) rfl d_M_swap_217 ?_
                                            refine lv_iload_n hx hb d_M_swap_220 rfl (lv_at hl 3 rfl) ?_
                                            refine lv_iload hx hb d_M_swap_221 (lv_at hl 0 rfl) ?_
                                            refine gp_ast (f := (F 8)) (n := 6) hx hb hK hP hD hS 9 rfl (a) rfl (by omega) (by decide) d_M_swap_223 (fun H locs hP hD hS => ?_)
                                            have hP : va_P E.1 gp_cl (gp_wM E (upd I 0 0) (gp_uF (gp_uF F 9 (upd (upd (fun j => if j < nt then F 8 j else F 9 j) a (F 8 b)) b (F 8 a))) 8 (upd (F 8) (a) ((F 8) (b))))) H := hP
                                            have hD : va_D A (gp_wM E (upd I 0 0) (gp_uF (gp_uF F 9 (upd (upd (fun j => if j < nt then F 8 j else F 9 j) a (F 8 b)) b (F 8 a))) 8 (upd (F 8) (a) ((F 8) (b))))) := hD
                                            refine lv_aload_n hx hb d_M_swap_224 rfl (lv_at hl 2 rfl) ?_
                                            refine va_get (D := E.1) (cl := gp_cl) (ci := 3) (v := .ref (E.2.2.2 9)) (C := R_M) (T := T_M) (N := 27) hx hb hts i_M hown hK hP 0 rfl rfl 12 (by decide) (hts _ w3_64) (fun _ h9 => h9) rfl d_M_swap_225 ?_
                                            refine lv_iload_n hx hb d_M_swap_228 rfl (lv_at hl 4 rfl) ?_
                                            refine lv_iload_n hx hb d_M_swap_229 rfl (lv_at hl 1 rfl) ?_
                                            refine gp_ast (f := (upd (F 8) (a) ((F 8) (b)))) (n := 6) hx hb hK hP hD hS 9 rfl (b) rfl (by omega) (by decide) d_M_swap_230 (fun H locs hP hD hS => ?_)
                                            have hP : va_P E.1 gp_cl (gp_wM E (upd I 0 0) (gp_uF (gp_uF (gp_uF F 9 (upd (upd (fun j => if j < nt then F 8 j else F 9 j) a (F 8 b)) b (F 8 a))) 8 (upd (F 8) (a) ((F 8) (b)))) 8 (upd (upd (F 8) (a) ((F 8) (b))) (b) ((F 8) (a))))) H := hP
                                            have hD : va_D A (gp_wM E (upd I 0 0) (gp_uF (gp_uF (gp_uF F 9 (upd (upd (fun j => if j < nt then F 8 j else F 9 j) a (F 8 b)) b (F 8 a))) 8 (upd (F 8) (a) ((F 8) (b)))) 8 (upd (upd (F 8) (a) ((F 8) (b))) (b) ((F 8) (a))))) := hD
                                            refine lv_iconst (v := 0) hx hb d_M_swap_231 (by decide) ?_
                                            exact gp_wi hx hb hr hlocks hAe (by first | exact absurd c150 c180 | exact absurd c180 c150 | exact absurd c164 c198 | exact absurd c198 c164 | (rw [gm_swr, if_neg (fun q => q.elim (fun z => c88 z) (fun z => by first | exact mc101 z | exact (Int32.not_le.mpr z) c101)), if_neg (fun q => q.elim hs110 hs119), if_neg (fun q => q.elim hs131 hs140), if_neg (fun q => q.elim (fun z => by simp [gm_n2, c150, hs155] at z) (fun z => by simp [gm_n2, c164] at z)), if_neg (fun q => q.elim (fun z => by simp [gm_l2, c180, c192, mc192] at z) (fun z => by simp [gm_l2, c198, c211, mc211] at z))])) (by first | exact absurd c150 c180 | exact absurd c180 c150 | exact absurd c164 c198 | exact absurd c198 c164 | (rw [gm_sw, if_pos (by rw [gm_swr, if_neg (fun q => q.elim (fun z => c88 z) (fun z => by first | exact mc101 z | exact (Int32.not_le.mpr z) c101)), if_neg (fun q => q.elim hs110 hs119), if_neg (fun q => q.elim hs131 hs140), if_neg (fun q => q.elim (fun z => by simp [gm_n2, c150, hs155] at z) (fun z => by simp [gm_n2, c164] at z)), if_neg (fun q => q.elim (fun z => by simp [gm_l2, c180, c192, mc192] at z) (fun z => by simp [gm_l2, c198, c211, mc211] at z))])]; exact hP)) hS d_M_swap_232
                                          · have c211 := c211
                                            have mc211 : ((I 6) : Int32) < (gm_q (gm_sF F nt a b) (F 8 b) nt) := Int32.not_le.mp c211
                                            refine lv_iconst (v := 5) hx hb d_M_swap_214 (by decide) ?_
                                            exact gp_wi hx hb hr hlocks hAe (by first | exact absurd c150 c180 | exact absurd c180 c150 | exact absurd c164 c198 | exact absurd c198 c164 | (rw [gm_swr, if_neg (fun q => q.elim (fun z => c88 z) (fun z => by first | exact mc101 z | exact (Int32.not_le.mpr z) c101)), if_neg (fun q => q.elim hs110 hs119), if_neg (fun q => q.elim hs131 hs140), if_neg (fun q => q.elim (fun z => by simp [gm_n2, c150, hs155] at z) (fun z => by simp [gm_n2, c164] at z)), if_pos (Or.inr (by simp [gm_l2, c198, c211, mc211]))])) (by first | exact absurd c150 c180 | exact absurd c180 c150 | exact absurd c164 c198 | exact absurd c198 c164 | (rw [gm_sw, if_neg (by rw [gm_swr, if_neg (fun q => q.elim (fun z => c88 z) (fun z => by first | exact mc101 z | exact (Int32.not_le.mpr z) c101)), if_neg (fun q => q.elim hs110 hs119), if_neg (fun q => q.elim hs131 hs140), if_neg (fun q => q.elim (fun z => by simp [gm_n2, c150, hs155] at z) (fun z => by simp [gm_n2, c164] at z)), if_pos (Or.inr (by simp [gm_l2, c198, c211, mc211]))]; decide)]; exact hP)) hS d_M_swap_215
                                  · have c164 := c164
                                    refine lv_aload_n hx hb d_M_swap_167 rfl (lv_at hl 2 rfl) ?_
                                    refine lv_iload hx hb d_M_swap_168 (lv_at hl 0 rfl) ?_
                                    refine gp_cR (q0 := 0) (ci := 3) (As := [.int ((F 8) (b))]) (rest := []) ⟨hx, hb, hml, hown, hts⟩ (show gp_CR _ _ _ _ _ _ _ _ _ (if gm_h2 (I 5) (gm_sF F nt a b) (F 8 b) nt then 1 else 0) from c_M_hasNear l E (upd I 0 0) (gp_uF F 9 (upd (upd (fun j => if j < nt then F 8 j else F 9 j) a (F 8 b)) b (F 8 a))) nt (F 8 b) hT hnt) (k_M_105 hts ⟨by decide, by decide⟩ rfl rfl) hK hP rfl rfl rfl hl.1 rfl (Nat.le_of_ble_eq_true rfl) d_M_swap_170 ⟨Nat.le_of_ble_eq_true rfl, Nat.le_of_ble_eq_true rfl⟩ ?_
                                    by_cases hs170 : gm_h2 (I 5) (gm_sF F nt a b) (F 8 b) nt = true
                                    · rw [show ((if gm_h2 (I 5) (gm_sF F nt a b) (F 8 b) nt then 1 else 0) : Int32) = 1 from if_pos hs170]
                                      refine lv_if_eq (tgt := 178) hx hb d_M_swap_173 (by decide) (fun c173 => ?_) (fun c173 => ?_)
                                      · exact absurd c173 (by decide)
                                      · have c173 := c173
                                        have nc173 : ¬ 1 = 0 := fun h => c173 ((nI_eq (a := 1) (b := 0) (by omega) (by omega)).mpr h)
                                        refine lv_iconst (v := 4) hx hb d_M_swap_176 (by decide) ?_
                                        exact gp_wi hx hb hr hlocks hAe (by first | (rw [gm_swr, if_neg (fun q => q.elim (fun z => c88 z) (fun z => by first | exact mc101 z | exact (Int32.not_le.mpr z) c101)), if_neg (fun q => q.elim hs110 hs119), if_neg (fun q => q.elim hs131 hs140), if_pos (Or.inr (by simp [gm_n2, c164, hs170]))])) (by first | (rw [gm_sw, if_neg (by rw [gm_swr, if_neg (fun q => q.elim (fun z => c88 z) (fun z => by first | exact mc101 z | exact (Int32.not_le.mpr z) c101)), if_neg (fun q => q.elim hs110 hs119), if_neg (fun q => q.elim hs131 hs140), if_pos (Or.inr (by simp [gm_n2, c164, hs170]))]; decide)]; exact hP)) hS d_M_swap_177
                                    · rw [show ((if gm_h2 (I 5) (gm_sF F nt a b) (F 8 b) nt then 1 else 0) : Int32) = 0 from if_neg hs170]
                                      refine lv_if_eq (tgt := 178) hx hb d_M_swap_173 (by decide) (fun c173 => ?_) (fun c173 => ?_)
                                      · have c173 := c173
                                        have nc173 : 0 = 0 := (nI_eq (a := 0) (b := 0) (by omega) (by omega)).mp c173
                                        refine lv_iload_n hx hb d_M_swap_178 rfl (lv_at hl 1 rfl) ?_
                                        refine lv_iconst (v := (-1)) hx hb d_M_swap_179 (by decide) ?_
                                        refine lv_icmp_eq (tgt := 195) hx hb d_M_swap_180 (by decide) (fun c180 => ?_) (fun c180 => ?_)
                                        · have c180 := c180
                                          refine lv_iload hx hb d_M_swap_195 (lv_at hl 0 rfl) ?_
                                          refine lv_iconst (v := (-1)) hx hb d_M_swap_197 (by decide) ?_
                                          refine lv_icmp_eq (tgt := 216) hx hb d_M_swap_198 (by decide) (fun c198 => ?_) (fun c198 => ?_)
                                          · have c198 := c198
                                            refine lv_aload_n hx hb d_M_swap_216 rfl (lv_at hl 2 rfl) ?_
                                            refine va_get (D := E.1) (cl := gp_cl) (ci := 3) (v := .ref (E.2.2.2 9)) (C := R_M) (T := T_M) (N := 27) hx hb hts i_M hown hK hP 0 rfl rfl 12 (by decide) (hts _ w3_64) (fun _ h9 => h9) rfl d_M_swap_217 ?_
                                            refine lv_iload_n hx hb d_M_swap_220 rfl (lv_at hl 3 rfl) ?_
                                            refine lv_iload hx hb d_M_swap_221 (lv_at hl 0 rfl) ?_
                                            refine gp_ast (f := (F 8)) (n := 6) hx hb hK hP hD hS 9 rfl (a) rfl (by omega) (by decide) d_M_swap_223 (fun H locs hP hD hS => ?_)
                                            have hP : va_P E.1 gp_cl (gp_wM E (upd I 0 0) (gp_uF (gp_uF F 9 (upd (upd (fun j => if j < nt then F 8 j else F 9 j) a (F 8 b)) b (F 8 a))) 8 (upd (F 8) (a) ((F 8) (b))))) H := hP
                                            have hD : va_D A (gp_wM E (upd I 0 0) (gp_uF (gp_uF F 9 (upd (upd (fun j => if j < nt then F 8 j else F 9 j) a (F 8 b)) b (F 8 a))) 8 (upd (F 8) (a) ((F 8) (b))))) := hD
                                            refine lv_aload_n hx hb d_M_swap_224 rfl (lv_at hl 2 rfl) ?_
                                            refine va_get (D := E.1) (cl := gp_cl) (ci := 3) (v := .ref (E.2.2.2 9)) (C := R_M) (T := T_M) (N := 27) hx hb hts i_M hown hK hP 0 rfl rfl 12 (by decide) (hts _ w3_64) (fun _ h9 => h9) rfl d_M_swap_225 ?_
                                            refine lv_iload_n hx hb d_M_swap_228 rfl (lv_at hl 4 rfl) ?_
                                            refine lv_iload_n hx hb d_M_swap_229 rfl (lv_at hl 1 rfl) ?_
                                            refine gp_ast (f := (upd (F 8) (a) ((F 8) (b)))) (n := 6) hx hb hK hP hD hS 9 rfl (b) rfl (by omega) (by decide) d_M_swap_230 (fun H locs hP hD hS => ?_)
                                            have hP : va_P E.1 gp_cl (gp_wM E (upd I 0 0) (gp_uF (gp_uF (gp_uF F 9 (upd (upd (fun j => if j < nt then F 8 j else F 9 j) a (F 8 b)) b (F 8 a))) 8 (upd (F 8) (a) ((F 8) (b)))) 8 (upd (upd (F 8) (a) ((F 8) (b))) (b) ((F 8) (a))))) H := hP
                                            have hD : va_D A (gp_wM E (upd I 0 0) (gp_uF (gp_uF (gp_uF F 9 (upd (upd (fun j => if j < nt then F 8 j else F 9 j) a (F 8 b)) b (F 8 a))) 8 (upd (F 8) (a) ((F 8) (b)))) 8 (upd (upd (F 8) (a) ((F 8) (b))) (b) ((F 8) (a))))) := hD
                                            refine lv_iconst (v := 0) hx hb d_M_swap_231 (by decide) ?_
                                            exact gp_wi hx hb hr hlocks hAe (by first | exact absurd c150 c180 | exact absurd c180 c150 | exact absurd c164 c198 | exact absurd c198 c164 | (rw [gm_swr, if_neg (fun q => q.elim (fun z => c88 z) (fun z => by first | exact mc101 z | exact (Int32.not_le.mpr z) c101)), if_neg (fun q => q.elim hs110 hs119), if_neg (fun q => q.elim hs131 hs140), if_neg (fun q => q.elim (fun z => by simp [gm_n2, c150, hs155] at z) (fun z => by simp [gm_n2, c164, hs170] at z)), if_neg (fun q => q.elim (fun z => by simp [gm_l2, c180] at z) (fun z => by simp [gm_l2, c198] at z))])) (by first | exact absurd c150 c180 | exact absurd c180 c150 | exact absurd c164 c198 | exact absurd c198 c164 | (rw [gm_sw, if_pos (by rw [gm_swr, if_neg (fun q => q.elim (fun z => c88 z) (fun z => by first | exact mc101 z | exact (Int32.not_le.mpr z) c101)), if_neg (fun q => q.elim hs110 hs119), if_neg (fun q => q.elim hs131 hs140), if_neg (fun q => q.elim (fun z => by simp [gm_n2, c150, hs155] at z) (fun z => by simp [gm_n2, c164, hs170] at z)), if_neg (fun q => q.elim (fun z => by simp [gm_l2, c180] at z) (fun z => by simp [gm_l2, c198] at z))])]; exact hP)) hS d_M_swap_232
                                          · have c198 := c198
                                            refine lv_aload_n hx hb d_M_swap_201 rfl (lv_at hl 2 rfl) ?_
                                            refine lv_iload hx hb d_M_swap_202 (lv_at hl 0 rfl) ?_
                                            refine gp_cR (q0 := 0) (ci := 3) (As := [.int ((F 8) (b))]) (rest := []) ⟨hx, hb, hml, hown, hts⟩ (show gp_CR _ _ _ _ _ _ _ _ _ (gm_q (gm_sF F nt a b) (F 8 b) nt) from c_M_quarters l E (upd I 0 0) (gp_uF F 9 (upd (upd (fun j => if j < nt then F 8 j else F 9 j) a (F 8 b)) b (F 8 a))) nt (F 8 b) hT hnt) (k_M_101 hts ⟨by decide, by decide⟩ rfl rfl) hK hP rfl rfl rfl hl.1 rfl (Nat.le_of_ble_eq_true rfl) d_M_swap_204 ⟨Nat.le_of_ble_eq_true rfl, Nat.le_of_ble_eq_true rfl⟩ ?_
                                            refine lv_aload_n hx hb d_M_swap_207 rfl (lv_at hl 2 rfl) ?_
                                            refine va_get (D := E.1) (cl := gp_cl) (ci := 3) (v := .int (I 6)) (C := R_M) (T := T_M) (N := 27) hx hb hts i_M hown hK hP 0 rfl rfl 18 (by decide) (hts _ w3_70) (fun _ h9 => h9) rfl d_M_swap_208 ?_
                                            refine lv_icmp_le (tgt := 216) hx hb d_M_swap_211 (by decide) (fun c211 => ?_) (fun c211 => ?_)
                                            · have c211 := c211
                                              have mc211 : ¬ ((I 6) : Int32) < (gm_q (gm_sF F nt a b) (F 8 b) nt) := Int32.not_lt.mpr c211
                                              refine lv_aload_n hx hb d_M_swap_216 rfl (lv_at hl 2 rfl) ?_
                                              refine va_get (D := E.1) (cl := gp_cl) (ci := 3) (v := .ref (E.2.2.2 9)) (C := R_M) (T := T_M) (N := 27) hx hb hts i_M hown hK hP 0 rfl rfl 12 (by decide) (hts _ w3_64) (fun _ h9 => h9) rfl d_M_swap_217 ?_
                                              refine lv_iload_n hx hb d_M_swap_220 rfl (lv_at hl 3 rfl) ?_
                                              refine lv_iload hx hb d_M_swap_221 (lv_at hl 0 rfl) ?_
                                              refine gp_ast (f := (F 8)) (n := 6) hx hb hK hP hD hS 9 rfl (a) rfl (by omega) (by decide) d_M_swap_223 (fun H locs hP hD hS => ?_)
                                              have hP : va_P E.1 gp_cl (gp_wM E (upd I 0 0) (gp_uF (gp_uF F 9 (upd (upd (fun j => if j < nt then F 8 j else F 9 j) a (F 8 b)) b (F 8 a))) 8 (upd (F 8) (a) ((F 8) (b))))) H := hP
                                              have hD : va_D A (gp_wM E (upd I 0 0) (gp_uF (gp_uF F 9 (upd (upd (fun j => if j < nt then F 8 j else F 9 j) a (F 8 b)) b (F 8 a))) 8 (upd (F 8) (a) ((F 8) (b))))) := hD
                                              refine lv_aload_n hx hb d_M_swap_224 rfl (lv_at hl 2 rfl) ?_
                                              refine va_get (D := E.1) (cl := gp_cl) (ci := 3) (v := .ref (E.2.2.2 9)) (C := R_M) (T := T_M) (N := 27) hx hb hts i_M hown hK hP 0 rfl rfl 12 (by decide) (hts _ w3_64) (fun _ h9 => h9) rfl d_M_swap_225 ?_
                                              refine lv_iload_n hx hb d_M_swap_228 rfl (lv_at hl 4 rfl) ?_
                                              refine lv_iload_n hx hb d_M_swap_229 rfl (lv_at hl 1 rfl) ?_
                                              refine gp_ast (f := (upd (F 8) (a) ((F 8) (b)))) (n := 6) hx hb hK hP hD hS 9 rfl (b) rfl (by omega) (by decide) d_M_swap_230 (fun H locs hP hD hS => ?_)
                                              have hP : va_P E.1 gp_cl (gp_wM E (upd I 0 0) (gp_uF (gp_uF (gp_uF F 9 (upd (upd (fun j => if j < nt then F 8 j else F 9 j) a (F 8 b)) b (F 8 a))) 8 (upd (F 8) (a) ((F 8) (b)))) 8 (upd (upd (F 8) (a) ((F 8) (b))) (b) ((F 8) (a))))) H := hP
                                              have hD : va_D A (gp_wM E (upd I 0 0) (gp_uF (gp_uF (gp_uF F 9 (upd (upd (fun j => if j < nt then F 8 j else F 9 j) a (F 8 b)) b (F 8 a))) 8 (upd (F 8) (a) ((F 8) (b)))) 8 (upd (upd (F 8) (a) ((F 8) (b))) (b) ((F 8) (a))))) := hD
                                              refine lv_iconst (v := 0) hx hb d_M_swap_231 (by decide) ?_
                                              exact gp_wi hx hb hr hlocks hAe (by first | exact absurd c150 c180 | exact absurd c180 c150 | exact absurd c164 c198 | exact absurd c198 c164 | (rw [gm_swr, if_neg (fun q => q.elim (fun z => c88 z) (fun z => by first | exact mc101 z | exact (Int32.not_le.mpr z) c101)), if_neg (fun q => q.elim hs110 hs119), if_neg (fun q => q.elim hs131 hs140), if_neg (fun q => q.elim (fun z => by simp [gm_n2, c150, hs155] at z) (fun z => by simp [gm_n2, c164, hs170] at z)), if_neg (fun q => q.elim (fun z => by simp [gm_l2, c180] at z) (fun z => by simp [gm_l2, c198, c211, mc211] at z))])) (by first | exact absurd c150 c180 | exact absurd c180 c150 | exact absurd c164 c198 | exact absurd c198 c164 | (rw [gm_sw, if_pos (by rw [gm_swr, if_neg (fun q => q.elim (fun z => c88 z) (fun z => by first | exact mc101 z | exact (Int32.not_le.mpr z) c101)), if_neg (fun q => q.elim hs110 hs119), if_neg (fun q => q.elim hs131 hs140), if_neg (fun q => q.elim (fun z => by simp [gm_n2, c150, hs155] at z) (fun z => by simp [gm_n2, c164, hs170] at z)), if_neg (fun q => q.elim (fun z => by simp [gm_l2, c180] at z) (fun z => by simp [gm_l2, c198, c211, mc211] at z))])]; exact hP)) hS d_M_swap_232
                                            · have c211 := c211
                                              have mc211 : ((I 6) : Int32) < (gm_q (gm_sF F nt a b) (F 8 b) nt) := Int32.not_le.mp c211
                                              refine lv_iconst (v := 5) hx hb d_M_swap_214 (by decide) ?_
                                              exact gp_wi hx hb hr hlocks hAe (by first | exact absurd c150 c180 | exact absurd c180 c150 | exact absurd c164 c198 | exact absurd c198 c164 | (rw [gm_swr, if_neg (fun q => q.elim (fun z => c88 z) (fun z => by first | exact mc101 z | exact (Int32.not_le.mpr z) c101)), if_neg (fun q => q.elim hs110 hs119), if_neg (fun q => q.elim hs131 hs140), if_neg (fun q => q.elim (fun z => by simp [gm_n2, c150, hs155] at z) (fun z => by simp [gm_n2, c164, hs170] at z)), if_pos (Or.inr (by simp [gm_l2, c198, c211, mc211]))])) (by first | exact absurd c150 c180 | exact absurd c180 c150 | exact absurd c164 c198 | exact absurd c198 c164 | (rw [gm_sw, if_neg (by rw [gm_swr, if_neg (fun q => q.elim (fun z => c88 z) (fun z => by first | exact mc101 z | exact (Int32.not_le.mpr z) c101)), if_neg (fun q => q.elim hs110 hs119), if_neg (fun q => q.elim hs131 hs140), if_neg (fun q => q.elim (fun z => by simp [gm_n2, c150, hs155] at z) (fun z => by simp [gm_n2, c164, hs170] at z)), if_pos (Or.inr (by simp [gm_l2, c198, c211, mc211]))]; decide)]; exact hP)) hS d_M_swap_215
                                        · have c180 := c180
                                          refine lv_aload_n hx hb d_M_swap_183 rfl (lv_at hl 2 rfl) ?_
                                          refine lv_iload_n hx hb d_M_swap_184 rfl (lv_at hl 1 rfl) ?_
                                          refine gp_cR (q0 := 0) (ci := 3) (As := [.int ((F 8) (a))]) (rest := []) ⟨hx, hb, hml, hown, hts⟩ (show gp_CR _ _ _ _ _ _ _ _ _ (gm_q (gm_sF F nt a b) (F 8 a) nt) from c_M_quarters l E (upd I 0 0) (gp_uF F 9 (upd (upd (fun j => if j < nt then F 8 j else F 9 j) a (F 8 b)) b (F 8 a))) nt (F 8 a) hT hnt) (k_M_101 hts ⟨by decide, by decide⟩ rfl rfl) hK hP rfl rfl rfl hl.1 rfl (Nat.le_of_ble_eq_true rfl) d_M_swap_185 ⟨Nat.le_of_ble_eq_true rfl, Nat.le_of_ble_eq_true rfl⟩ ?_
                                          refine lv_aload_n hx hb d_M_swap_188 rfl (lv_at hl 2 rfl) ?_
                                          refine va_get (D := E.1) (cl := gp_cl) (ci := 3) (v := .int (I 6)) (C := R_M) (T := T_M) (N := 27) hx hb hts i_M hown hK hP 0 rfl rfl 18 (by decide) (hts _ w3_70) (fun _ h9 => h9) rfl d_M_swap_189 ?_
                                          refine lv_icmp_gt (tgt := 214) hx hb d_M_swap_192 (by decide) (fun c192 => ?_) (fun c192 => ?_)
                                          · have c192 := c192
                                            have mc192 : ¬ ((gm_q (gm_sF F nt a b) (F 8 a) nt) : Int32) ≤ (I 6) := Int32.not_le.mpr c192
                                            refine lv_iconst (v := 5) hx hb d_M_swap_214 (by decide) ?_
                                            exact gp_wi hx hb hr hlocks hAe (by first | exact absurd c150 c180 | exact absurd c180 c150 | (rw [gm_swr, if_neg (fun q => q.elim (fun z => c88 z) (fun z => by first | exact mc101 z | exact (Int32.not_le.mpr z) c101)), if_neg (fun q => q.elim hs110 hs119), if_neg (fun q => q.elim hs131 hs140), if_neg (fun q => q.elim (fun z => by simp [gm_n2, c150, hs155] at z) (fun z => by simp [gm_n2, c164, hs170] at z)), if_pos (Or.inl (by simp [gm_l2, c180, c192, mc192]))])) (by first | exact absurd c150 c180 | exact absurd c180 c150 | (rw [gm_sw, if_neg (by rw [gm_swr, if_neg (fun q => q.elim (fun z => c88 z) (fun z => by first | exact mc101 z | exact (Int32.not_le.mpr z) c101)), if_neg (fun q => q.elim hs110 hs119), if_neg (fun q => q.elim hs131 hs140), if_neg (fun q => q.elim (fun z => by simp [gm_n2, c150, hs155] at z) (fun z => by simp [gm_n2, c164, hs170] at z)), if_pos (Or.inl (by simp [gm_l2, c180, c192, mc192]))]; decide)]; exact hP)) hS d_M_swap_215
                                          · have c192 := c192
                                            have mc192 : ((gm_q (gm_sF F nt a b) (F 8 a) nt) : Int32) ≤ (I 6) := Int32.not_lt.mp c192
                                            refine lv_iload hx hb d_M_swap_195 (lv_at hl 0 rfl) ?_
                                            refine lv_iconst (v := (-1)) hx hb d_M_swap_197 (by decide) ?_
                                            refine lv_icmp_eq (tgt := 216) hx hb d_M_swap_198 (by decide) (fun c198 => ?_) (fun c198 => ?_)
                                            · have c198 := c198
                                              refine lv_aload_n hx hb d_M_swap_216 rfl (lv_at hl 2 rfl) ?_
                                              refine va_get (D := E.1) (cl := gp_cl) (ci := 3) (v := .ref (E.2.2.2 9)) (C := R_M) (T := T_M) (N := 27) hx hb hts i_M hown hK hP 0 rfl rfl 12 (by decide) (hts _ w3_64) (fun _ h9 => h9) rfl d_M_swap_217 ?_
                                              refine lv_iload_n hx hb d_M_swap_220 rfl (lv_at hl 3 rfl) ?_
                                              refine lv_iload hx hb d_M_swap_221 (lv_at hl 0 rfl) ?_
                                              refine gp_ast (f := (F 8)) (n := 6) hx hb hK hP hD hS 9 rfl (a) rfl (by omega) (by decide) d_M_swap_223 (fun H locs hP hD hS => ?_)
                                              have hP : va_P E.1 gp_cl (gp_wM E (upd I 0 0) (gp_uF (gp_uF F 9 (upd (upd (fun j => if j < nt then F 8 j else F 9 j) a (F 8 b)) b (F 8 a))) 8 (upd (F 8) (a) ((F 8) (b))))) H := hP
                                              have hD : va_D A (gp_wM E (upd I 0 0) (gp_uF (gp_uF F 9 (upd (upd (fun j => if j < nt then F 8 j else F 9 j) a (F 8 b)) b (F 8 a))) 8 (upd (F 8) (a) ((F 8) (b))))) := hD
                                              refine lv_aload_n hx hb d_M_swap_224 rfl (lv_at hl 2 rfl) ?_
                                              refine va_get (D := E.1) (cl := gp_cl) (ci := 3) (v := .ref (E.2.2.2 9)) (C := R_M) (T := T_M) (N := 27) hx hb hts i_M hown hK hP 0 rfl rfl 12 (by decide) (hts _ w3_64) (fun _ h9 => h9) rfl d_M_swap_225 ?_
                                              refine lv_iload_n hx hb d_M_swap_228 rfl (lv_at hl 4 rfl) ?_
                                              refine lv_iload_n hx hb d_M_swap_229 rfl (lv_at hl 1 rfl) ?_
                                              refine gp_ast (f := (upd (F 8) (a) ((F 8) (b)))) (n := 6) hx hb hK hP hD hS 9 rfl (b) rfl (by omega) (by decide) d_M_swap_230 (fun H locs hP hD hS => ?_)
                                              have hP : va_P E.1 gp_cl (gp_wM E (upd I 0 0) (gp_uF (gp_uF (gp_uF F 9 (upd (upd (fun j => if j < nt then F 8 j else F 9 j) a (F 8 b)) b (F 8 a))) 8 (upd (F 8) (a) ((F 8) (b)))) 8 (upd (upd (F 8) (a) ((F 8) (b))) (b) ((F 8) (a))))) H := hP
                                              have hD : va_D A (gp_wM E (upd I 0 0) (gp_uF (gp_uF (gp_uF F 9 (upd (upd (fun j => if j < nt then F 8 j else F 9 j) a (F 8 b)) b (F 8 a))) 8 (upd (F 8) (a) ((F 8) (b)))) 8 (upd (upd (F 8) (a) ((F 8) (b))) (b) ((F 8) (a))))) := hD
                                              refine lv_iconst (v := 0) hx hb d_M_swap_231 (by decide) ?_
                                              exact gp_wi hx hb hr hlocks hAe (by first | exact absurd c150 c180 | exact absurd c180 c150 | exact absurd c164 c198 | exact absurd c198 c164 | (rw [gm_swr, if_neg (fun q => q.elim (fun z => c88 z) (fun z => by first | exact mc101 z | exact (Int32.not_le.mpr z) c101)), if_neg (fun q => q.elim hs110 hs119), if_neg (fun q => q.elim hs131 hs140), if_neg (fun q => q.elim (fun z => by simp [gm_n2, c150, hs155] at z) (fun z => by simp [gm_n2, c164, hs170] at z)), if_neg (fun q => q.elim (fun z => by simp [gm_l2, c180, c192, mc192] at z) (fun z => by simp [gm_l2, c198] at z))])) (by first | exact absurd c150 c180 | exact absurd c180 c150 | exact absurd c164 c198 | exact absurd c198 c164 | (rw [gm_sw, if_pos (by rw [gm_swr, if_neg (fun q => q.elim (fun z => c88 z) (fun z => by first | exact mc101 z | exact (Int32.not_le.mpr z) c101)), if_neg (fun q => q.elim hs110 hs119), if_neg (fun q => q.elim hs131 hs140), if_neg (fun q => q.elim (fun z => by simp [gm_n2, c150, hs155] at z) (fun z => by simp [gm_n2, c164, hs170] at z)), if_neg (fun q => q.elim (fun z => by simp [gm_l2, c180, c192, mc192] at z) (fun z => by simp [gm_l2, c198] at z))])]; exact hP)) hS d_M_swap_232
                                            · have c198 := c198
                                              refine lv_aload_n hx hb d_M_swap_201 rfl (lv_at hl 2 rfl) ?_
                                              refine lv_iload hx hb d_M_swap_202 (lv_at hl 0 rfl) ?_
                                              refine gp_cR (q0 := 0) (ci := 3) (As := [.int ((F 8) (b))]) (rest := []) ⟨hx, hb, hml, hown, hts⟩ (show gp_CR _ _ _ _ _ _ _ _ _ (gm_q (gm_sF F nt a b) (F 8 b) nt) from c_M_quarters l E (upd I 0 0) (gp_uF F 9 (upd (upd (fun j => if j < nt then F 8 j else F 9 j) a (F 8 b)) b (F 8 a))) nt (F 8 b) hT hnt) (k_M_101 hts ⟨by decide, by decide⟩ rfl rfl) hK hP rfl rfl rfl hl.1 rfl (Nat.le_of_ble_eq_true rfl) d_M_swap_204 ⟨Nat.le_of_ble_eq_true rfl, Nat.le_of_ble_eq_true rfl⟩ ?_
                                              refine lv_aload_n hx hb d_M_swap_207 rfl (lv_at hl 2 rfl) ?_
                                              refine va_get (D := E.1) (cl := gp_cl) (ci := 3) (v := .int (I 6)) (C := R_M) (T := T_M) (N := 27) hx hb hts i_M hown hK hP 0 rfl rfl 18 (by decide) (hts _ w3_70) (fun _ h9 => h9) rfl d_M_swap_208 ?_
                                              refine lv_icmp_le (tgt := 216) hx hb d_M_swap_211 (by decide) (fun c211 => ?_) (fun c211 => ?_)
                                              · have c211 := c211
                                                have mc211 : ¬ ((I 6) : Int32) < (gm_q (gm_sF F nt a b) (F 8 b) nt) := Int32.not_lt.mpr c211
                                                refine lv_aload_n hx hb d_M_swap_216 rfl (lv_at hl 2 rfl) ?_
                                                refine va_get (D := E.1) (cl := gp_cl) (ci := 3) (v := .ref (E.2.2.2 9)) (C := R_M) (T := T_M) (N := 27) hx hb hts i_M hown hK hP 0 rfl rfl 12 (by decide) (hts _ w3_64) (fun _ h9 => h9) rfl d_M_swap_217 ?_
                                                refine lv_iload_n hx hb d_M_swap_220 rfl (lv_at hl 3 rfl) ?_
                                                refine lv_iload hx hb d_M_swap_221 (lv_at hl 0 rfl) ?_
                                                refine gp_ast (f := (F 8)) (n := 6) hx hb hK hP hD hS 9 rfl (a) rfl (by omega) (by decide) d_M_swap_223 (fun H locs hP hD hS => ?_)
                                                have hP : va_P E.1 gp_cl (gp_wM E (upd I 0 0) (gp_uF (gp_uF F 9 (upd (upd (fun j => if j < nt then F 8 j else F 9 j) a (F 8 b)) b (F 8 a))) 8 (upd (F 8) (a) ((F 8) (b))))) H := hP
                                                have hD : va_D A (gp_wM E (upd I 0 0) (gp_uF (gp_uF F 9 (upd (upd (fun j => if j < nt then F 8 j else F 9 j) a (F 8 b)) b (F 8 a))) 8 (upd (F 8) (a) ((F 8) (b))))) := hD
                                                refine lv_aload_n hx hb d_M_swap_224 rfl (lv_at hl 2 rfl) ?_
                                                refine va_get (D := E.1) (cl := gp_cl) (ci := 3) (v := .ref (E.2.2.2 9)) (C := R_M) (T := T_M) (N := 27) hx hb hts i_M hown hK hP 0 rfl rfl 12 (by decide) (hts _ w3_64) (fun _ h9 => h9) rfl d_M_swap_225 ?_
                                                refine lv_iload_n hx hb d_M_swap_228 rfl (lv_at hl 4 rfl) ?_
                                                refine lv_iload_n hx hb d_M_swap_229 rfl (lv_at hl 1 rfl) ?_
                                                refine gp_ast (f := (upd (F 8) (a) ((F 8) (b)))) (n := 6) hx hb hK hP hD hS 9 rfl (b) rfl (by omega) (by decide) d_M_swap_230 (fun H locs hP hD hS => ?_)
                                                have hP : va_P E.1 gp_cl (gp_wM E (upd I 0 0) (gp_uF (gp_uF (gp_uF F 9 (upd (upd (fun j => if j < nt then F 8 j else F 9 j) a (F 8 b)) b (F 8 a))) 8 (upd (F 8) (a) ((F 8) (b)))) 8 (upd (upd (F 8) (a) ((F 8) (b))) (b) ((F 8) (a))))) H := hP
                                                have hD : va_D A (gp_wM E (upd I 0 0) (gp_uF (gp_uF (gp_uF F 9 (upd (upd (fun j => if j < nt then F 8 j else F 9 j) a (F 8 b)) b (F 8 a))) 8 (upd (F 8) (a) ((F 8) (b)))) 8 (upd (upd (F 8) (a) ((F 8) (b))) (b) ((F 8) (a))))) := hD
                                                refine lv_iconst (v := 0) hx hb d_M_swap_231 (by decide) ?_
                                                exact gp_wi hx hb hr hlocks hAe (by first | exact absurd c150 c180 | exact absurd c180 c150 | exact absurd c164 c198 | exact absurd c198 c164 | (rw [gm_swr, if_neg (fun q => q.elim (fun z => c88 z) (fun z => by first | exact mc101 z | exact (Int32.not_le.mpr z) c101)), if_neg (fun q => q.elim hs110 hs119), if_neg (fun q => q.elim hs131 hs140), if_neg (fun q => q.elim (fun z => by simp [gm_n2, c150, hs155] at z) (fun z => by simp [gm_n2, c164, hs170] at z)), if_neg (fun q => q.elim (fun z => by simp [gm_l2, c180, c192, mc192] at z) (fun z => by simp [gm_l2, c198, c211, mc211] at z))])) (by first | exact absurd c150 c180 | exact absurd c180 c150 | exact absurd c164 c198 | exact absurd c198 c164 | (rw [gm_sw, if_pos (by rw [gm_swr, if_neg (fun q => q.elim (fun z => c88 z) (fun z => by first | exact mc101 z | exact (Int32.not_le.mpr z) c101)), if_neg (fun q => q.elim hs110 hs119), if_neg (fun q => q.elim hs131 hs140), if_neg (fun q => q.elim (fun z => by simp [gm_n2, c150, hs155] at z) (fun z => by simp [gm_n2, c164, hs170] at z)), if_neg (fun q => q.elim (fun z => by simp [gm_l2, c180, c192, mc192] at z) (fun z => by simp [gm_l2, c198, c211, mc211] at z))])]; exact hP)) hS d_M_swap_232
                                              · have c211 := c211
                                                have mc211 : ((I 6) : Int32) < (gm_q (gm_sF F nt a b) (F 8 b) nt) := Int32.not_le.mp c211
                                                refine lv_iconst (v := 5) hx hb d_M_swap_214 (by decide) ?_
                                                exact gp_wi hx hb hr hlocks hAe (by first | exact absurd c150 c180 | exact absurd c180 c150 | exact absurd c164 c198 | exact absurd c198 c164 | (rw [gm_swr, if_neg (fun q => q.elim (fun z => c88 z) (fun z => by first | exact mc101 z | exact (Int32.not_le.mpr z) c101)), if_neg (fun q => q.elim hs110 hs119), if_neg (fun q => q.elim hs131 hs140), if_neg (fun q => q.elim (fun z => by simp [gm_n2, c150, hs155] at z) (fun z => by simp [gm_n2, c164, hs170] at z)), if_pos (Or.inr (by simp [gm_l2, c198, c211, mc211]))])) (by first | exact absurd c150 c180 | exact absurd c180 c150 | exact absurd c164 c198 | exact absurd c198 c164 | (rw [gm_sw, if_neg (by rw [gm_swr, if_neg (fun q => q.elim (fun z => c88 z) (fun z => by first | exact mc101 z | exact (Int32.not_le.mpr z) c101)), if_neg (fun q => q.elim hs110 hs119), if_neg (fun q => q.elim hs131 hs140), if_neg (fun q => q.elim (fun z => by simp [gm_n2, c150, hs155] at z) (fun z => by simp [gm_n2, c164, hs170] at z)), if_pos (Or.inr (by simp [gm_l2, c198, c211, mc211]))]; decide)]; exact hP)) hS d_M_swap_215
                                      · exact absurd c173 (by decide)
                          · exact absurd c143 (by decide)
                  · exact absurd c122 (by decide)
          · have c101 := c101
            have mc101 : (((F 5) (b)) : Int32) < (I 7) := Int32.not_le.mp c101
            refine lv_iconst (v := 1) hx hb d_M_swap_104 (by decide) ?_
            exact gp_wi hx hb hr hlocks hAe (by first | (rw [gm_swr, if_pos (by first | exact Or.inl c88 | exact Or.inr mc101 | exact Or.inr (Int32.not_le.mp c101))])) (by first | (rw [gm_sw, if_neg (by rw [gm_swr, if_pos (by first | exact Or.inl c88 | exact Or.inr mc101 | exact Or.inr (Int32.not_le.mp c101))]; decide)]; exact hP)) hS d_M_swap_105
      · exact absurd c30 (by decide)
set_option maxHeartbeats 4000000 in
set_option maxRecDepth 100000 in
theorem c_M_swapE1 (l : Launch) (E : gp_E) (I : Nat → Int32) (F : Nat → Nat → Int32) (x y : Int32) (h : ¬ (gp_in x (I 3) = true ∧ gp_in y (I 3) = true)) : gp_CW l y_M_swap b_M_swap 5 (some .int) 2 E (gp_wM E I F) (gp_wM E (upd I 0 1) F) [.ref (E.2.2.2 0), .int x, .int y] (some (.int 0)) := by
  refine gp_ofW (by decide) (Nat.le_of_ble_eq_true rfl) ?_
  intro xp xe xs xm below meth xc ls A hx hb hr hts hown hlocks hml hP hK hD hA hAe hl
  have hS : va_S A xs.heap xs.heap [] := va_S.rf
  have hown : xs.vm.findClass "GuidePlansModel" = some xm.cls := hown
  have hl : lv_has ls 5 [(0, .ref (E.2.2.2 0)), (1, .int x), (2, .int y)] := hl
  refine lv_aload_n hx hb d_M_swap_0 rfl (lv_at hl 0 rfl) ?_
  refine lv_aload_n hx hb d_M_swap_1 rfl (lv_at hl 0 rfl) ?_
  refine lv_iload_n hx hb d_M_swap_2 rfl (lv_at hl 1 rfl) ?_
  refine gp_cR (q0 := 0) (ci := 3) (As := [.int x]) (rest := [.ref (E.2.2.2 0)]) ⟨hx, hb, hml, hown, hts⟩ (c_M_isTask l E I F x) (k_M_149 hts ⟨by decide, by decide⟩ rfl rfl) hK hP rfl rfl rfl hl.1 rfl (Nat.le_of_ble_eq_true rfl) d_M_swap_3 ⟨Nat.le_of_ble_eq_true rfl, Nat.le_of_ble_eq_true rfl⟩ ?_
  by_cases hs3 : gp_in x (I 3) = true
  · rw [show ((if gp_in x (I 3) then 1 else 0) : Int32) = 1 from if_pos hs3]
    refine lv_if_eq (tgt := 21) hx hb d_M_swap_6 (by decide) (fun c6 => ?_) (fun c6 => ?_)
    · exact absurd c6 (by decide)
    · have c6 := c6
      have nc6 : ¬ 1 = 0 := fun h => c6 ((nI_eq (a := 1) (b := 0) (by omega) (by omega)).mpr h)
      refine lv_aload_n hx hb d_M_swap_9 rfl (lv_at hl 0 rfl) ?_
      refine lv_iload_n hx hb d_M_swap_10 rfl (lv_at hl 2 rfl) ?_
      refine gp_cR (q0 := 0) (ci := 3) (As := [.int y]) (rest := [.ref (E.2.2.2 0)]) ⟨hx, hb, hml, hown, hts⟩ (c_M_isTask l E I F y) (k_M_149 hts ⟨by decide, by decide⟩ rfl rfl) hK hP rfl rfl rfl hl.1 rfl (Nat.le_of_ble_eq_true rfl) d_M_swap_11 ⟨Nat.le_of_ble_eq_true rfl, Nat.le_of_ble_eq_true rfl⟩ ?_
      by_cases hs11 : gp_in y (I 3) = true
      · rw [show ((if gp_in y (I 3) then 1 else 0) : Int32) = 1 from if_pos hs11]
        refine lv_if_eq (tgt := 21) hx hb d_M_swap_14 (by decide) (fun c14 => ?_) (fun c14 => ?_)
        · exact absurd c14 (by decide)
        · have c14 := c14
          have nc14 : ¬ 1 = 0 := fun h => c14 ((nI_eq (a := 1) (b := 0) (by omega) (by omega)).mpr h)
          exact (h ⟨hs3, hs11⟩).elim
      · rw [show ((if gp_in y (I 3) then 1 else 0) : Int32) = 0 from if_neg hs11]
        refine lv_if_eq (tgt := 21) hx hb d_M_swap_14 (by decide) (fun c14 => ?_) (fun c14 => ?_)
        · have c14 := c14
          have nc14 : 0 = 0 := (nI_eq (a := 0) (b := 0) (by omega) (by omega)).mp c14
          refine lv_iconst (v := 0) hx hb d_M_swap_21 (by decide) ?_
          refine lv_aload_n hx hb d_M_swap_22 rfl (lv_at hl 0 rfl) ?_
          refine va_get (D := E.1) (cl := gp_cl) (ci := 3) (v := .int (I 4)) (C := R_M) (T := T_M) (N := 27) hx hb hts i_M hown hK hP 0 rfl rfl 16 (by decide) (hts _ w3_68) (fun _ h9 => h9) rfl d_M_swap_23 ?_
          refine lv_iconst (v := 1) hx hb d_M_swap_26 (by decide) ?_
          refine gp_cW (q0 := 0) (ci := 3) (As := [.int 0, .int (I 4), .int 1]) (rest := []) ⟨hx, hb, hml, hown, hts⟩ (show gp_CW l y_M_goes b_M_goes 4 (some .boolean) 1 E (gp_wM E I F) (gp_wM E (upd I 0 1) F) [.ref (E.2.2.2 0), .int 0, .int (I 4), .int 1] (some (.int 0)) from c_M_goes l E I F 0 (I 4) 1) (k_M_70 hts ⟨by decide, by decide⟩ rfl rfl) hK hP hD hS hA rfl rfl rfl rfl hl.1 rfl (Nat.le_of_ble_eq_true rfl) d_M_swap_27 ⟨Nat.le_of_ble_eq_true rfl, Nat.le_of_ble_eq_true rfl⟩ (fun H locs hP hD hS => ?_)
          have hP : va_P E.1 gp_cl (gp_wM E (upd I 0 1) F) H := hP
          have hD : va_D A (gp_wM E (upd I 0 1) F) := hD
          refine W.eq (g2 := F0 xm 30 ls [.int 0]) rfl ?_
          refine lv_if_ne (tgt := 35) hx hb d_M_swap_30 (by decide) (fun c30 => ?_) (fun c30 => ?_)
          · exact absurd c30 (by decide)
          · have c30 := c30
            have nc30 : 0 = 0 := (nI_eq (a := 0) (b := 0) (by omega) (by omega)).mp c30
            refine lv_iconst (v := 0) hx hb d_M_swap_33 (by decide) ?_
            exact gp_wi hx hb hr hlocks hAe (rfl) (hP) hS d_M_swap_34
        · exact absurd c14 (by decide)
  · rw [show ((if gp_in x (I 3) then 1 else 0) : Int32) = 0 from if_neg hs3]
    refine lv_if_eq (tgt := 21) hx hb d_M_swap_6 (by decide) (fun c6 => ?_) (fun c6 => ?_)
    · have c6 := c6
      have nc6 : 0 = 0 := (nI_eq (a := 0) (b := 0) (by omega) (by omega)).mp c6
      refine lv_iconst (v := 0) hx hb d_M_swap_21 (by decide) ?_
      refine lv_aload_n hx hb d_M_swap_22 rfl (lv_at hl 0 rfl) ?_
      refine va_get (D := E.1) (cl := gp_cl) (ci := 3) (v := .int (I 4)) (C := R_M) (T := T_M) (N := 27) hx hb hts i_M hown hK hP 0 rfl rfl 16 (by decide) (hts _ w3_68) (fun _ h9 => h9) rfl d_M_swap_23 ?_
      refine lv_iconst (v := 1) hx hb d_M_swap_26 (by decide) ?_
      refine gp_cW (q0 := 0) (ci := 3) (As := [.int 0, .int (I 4), .int 1]) (rest := []) ⟨hx, hb, hml, hown, hts⟩ (show gp_CW l y_M_goes b_M_goes 4 (some .boolean) 1 E (gp_wM E I F) (gp_wM E (upd I 0 1) F) [.ref (E.2.2.2 0), .int 0, .int (I 4), .int 1] (some (.int 0)) from c_M_goes l E I F 0 (I 4) 1) (k_M_70 hts ⟨by decide, by decide⟩ rfl rfl) hK hP hD hS hA rfl rfl rfl rfl hl.1 rfl (Nat.le_of_ble_eq_true rfl) d_M_swap_27 ⟨Nat.le_of_ble_eq_true rfl, Nat.le_of_ble_eq_true rfl⟩ (fun H locs hP hD hS => ?_)
      have hP : va_P E.1 gp_cl (gp_wM E (upd I 0 1) F) H := hP
      have hD : va_D A (gp_wM E (upd I 0 1) F) := hD
      refine W.eq (g2 := F0 xm 30 ls [.int 0]) rfl ?_
      refine lv_if_ne (tgt := 35) hx hb d_M_swap_30 (by decide) (fun c30 => ?_) (fun c30 => ?_)
      · exact absurd c30 (by decide)
      · have c30 := c30
        have nc30 : 0 = 0 := (nI_eq (a := 0) (b := 0) (by omega) (by omega)).mp c30
        refine lv_iconst (v := 0) hx hb d_M_swap_33 (by decide) ?_
        exact gp_wi hx hb hr hlocks hAe (rfl) (hP) hS d_M_swap_34
    · exact absurd c6 (by decide)
set_option maxHeartbeats 4000000 in
set_option maxRecDepth 100000 in
theorem c_M_swapE2 (l : Launch) (E : gp_E) (I : Nat → Int32) (F : Nat → Nat → Int32) (x y : Int32) (h1 : gp_in x (I 3) = true) (h2 : gp_in y (I 3) = true) (hpl : I 4 = 0) : gp_CW l y_M_swap b_M_swap 5 (some .int) 2 E (gp_wM E I F) (gp_wM E (upd I 0 2) F) [.ref (E.2.2.2 0), .int x, .int y] (some (.int 0)) := by
  refine gp_ofW (by decide) (Nat.le_of_ble_eq_true rfl) ?_
  intro xp xe xs xm below meth xc ls A hx hb hr hts hown hlocks hml hP hK hD hA hAe hl
  have hS : va_S A xs.heap xs.heap [] := va_S.rf
  have hown : xs.vm.findClass "GuidePlansModel" = some xm.cls := hown
  have hl : lv_has ls 5 [(0, .ref (E.2.2.2 0)), (1, .int x), (2, .int y)] := hl
  refine lv_aload_n hx hb d_M_swap_0 rfl (lv_at hl 0 rfl) ?_
  refine lv_aload_n hx hb d_M_swap_1 rfl (lv_at hl 0 rfl) ?_
  refine lv_iload_n hx hb d_M_swap_2 rfl (lv_at hl 1 rfl) ?_
  refine gp_cR (q0 := 0) (ci := 3) (As := [.int x]) (rest := [.ref (E.2.2.2 0)]) ⟨hx, hb, hml, hown, hts⟩ (show gp_CR _ _ _ _ _ _ _ _ _ 1 from by have h9 := c_M_isTask l E I F x; rw [h1, if_pos rfl] at h9; exact h9) (k_M_149 hts ⟨by decide, by decide⟩ rfl rfl) hK hP rfl rfl rfl hl.1 rfl (Nat.le_of_ble_eq_true rfl) d_M_swap_3 ⟨Nat.le_of_ble_eq_true rfl, Nat.le_of_ble_eq_true rfl⟩ ?_
  refine lv_if_eq (tgt := 21) hx hb d_M_swap_6 (by decide) (fun c6 => ?_) (fun c6 => ?_)
  · exact absurd c6 (by decide)
  · have c6 := c6
    have nc6 : ¬ 1 = 0 := fun h => c6 ((nI_eq (a := 1) (b := 0) (by omega) (by omega)).mpr h)
    refine lv_aload_n hx hb d_M_swap_9 rfl (lv_at hl 0 rfl) ?_
    refine lv_iload_n hx hb d_M_swap_10 rfl (lv_at hl 2 rfl) ?_
    refine gp_cR (q0 := 0) (ci := 3) (As := [.int y]) (rest := [.ref (E.2.2.2 0)]) ⟨hx, hb, hml, hown, hts⟩ (show gp_CR _ _ _ _ _ _ _ _ _ 1 from by have h9 := c_M_isTask l E I F y; rw [h2, if_pos rfl] at h9; exact h9) (k_M_149 hts ⟨by decide, by decide⟩ rfl rfl) hK hP rfl rfl rfl hl.1 rfl (Nat.le_of_ble_eq_true rfl) d_M_swap_11 ⟨Nat.le_of_ble_eq_true rfl, Nat.le_of_ble_eq_true rfl⟩ ?_
    refine lv_if_eq (tgt := 21) hx hb d_M_swap_14 (by decide) (fun c14 => ?_) (fun c14 => ?_)
    · exact absurd c14 (by decide)
    · have c14 := c14
      have nc14 : ¬ 1 = 0 := fun h => c14 ((nI_eq (a := 1) (b := 0) (by omega) (by omega)).mpr h)
      refine lv_iconst (v := 1) hx hb d_M_swap_17 (by decide) ?_
      refine lv_goto (tgt := 22) hx hb d_M_swap_18 (by decide) ?_
      refine lv_aload_n hx hb d_M_swap_22 rfl (lv_at hl 0 rfl) ?_
      refine va_get (D := E.1) (cl := gp_cl) (ci := 3) (v := .int (I 4)) (C := R_M) (T := T_M) (N := 27) hx hb hts i_M hown hK hP 0 rfl rfl 16 (by decide) (hts _ w3_68) (fun _ h9 => h9) rfl d_M_swap_23 ?_
      rw [show (I 4) = 0 from hpl]
      refine lv_iconst (v := 1) hx hb d_M_swap_26 (by decide) ?_
      refine gp_cW (q0 := 0) (ci := 3) (As := [.int 1, .int 0, .int 1]) (rest := []) ⟨hx, hb, hml, hown, hts⟩ (show gp_CW l y_M_goes b_M_goes 4 (some .boolean) 1 E (gp_wM E I F) (gp_wM E (upd I 0 2) F) [.ref (E.2.2.2 0), .int 1, .int 0, .int 1] (some (.int 0)) from c_M_goes l E I F 1 0 1) (k_M_70 hts ⟨by decide, by decide⟩ rfl rfl) hK hP hD hS hA rfl rfl rfl rfl hl.1 rfl (Nat.le_of_ble_eq_true rfl) d_M_swap_27 ⟨Nat.le_of_ble_eq_true rfl, Nat.le_of_ble_eq_true rfl⟩ (fun H locs hP hD hS => ?_)
      have hP : va_P E.1 gp_cl (gp_wM E (upd I 0 2) F) H := hP
      have hD : va_D A (gp_wM E (upd I 0 2) F) := hD
      refine W.eq (g2 := F0 xm 30 ls [.int 0]) rfl ?_
      refine lv_if_ne (tgt := 35) hx hb d_M_swap_30 (by decide) (fun c30 => ?_) (fun c30 => ?_)
      · exact absurd c30 (by decide)
      · have c30 := c30
        have nc30 : 0 = 0 := (nI_eq (a := 0) (b := 0) (by omega) (by omega)).mp c30
        refine lv_iconst (v := 0) hx hb d_M_swap_33 (by decide) ?_
        exact gp_wi hx hb hr hlocks hAe (rfl) (hP) hS d_M_swap_34
