set_option maxHeartbeats 4000000 in
set_option maxRecDepth 100000 in
theorem c_G_swap (l : Launch) (E : gp_E) (I : Nat → Int32) (F : Nat → Nat → Int32) (np nt ns a b : Nat) (hp4 : I 4 = nI np) (hT : I 6 = nI nt) (hN : I 5 = nI ns) (hnp : np ≤ 4) (hnt : nt ≤ 6) (hns : ns ≤ 20) (ha : a < nt) (hb2 : b < nt) (hva : F 14 a = -1 ∨ ∃ p, p < np ∧ F 14 a = nI p) (hvb : F 14 b = -1 ∨ ∃ p, p < np ∧ F 14 b = nI p) (hpl : ¬ I 3 = 0) : gp_CW l y_G_swap b_G_swap 6 (some .int) 6 E (gp_wG E I F) (gp_wG E I (gp_sw I F ns nt a b)) [.ref (E.2.2.2 0), .int (nI a), .int (nI b)] (some (.int (gp_swr I F ns nt a b))) := by
  refine gp_ofW (by decide) (Nat.le_of_ble_eq_true rfl) ?_
  intro xp xe xs xm below meth xc ls A hx hb hr hts hown hlocks hml hP hK hD hA hAe hl
  have hS : va_S A xs.heap xs.heap [] := va_S.rf
  have hown : xs.vm.findClass "GuidePlans" = some xm.cls := hown
  have hl : lv_has ls 6 [(0, .ref (E.2.2.2 0)), (1, .int (nI a)), (2, .int (nI b))] := hl
  refine lv_aload_n hx hb d_G_swap_0 rfl (lv_at hl 0 rfl) ?_
  refine lv_iload_n hx hb d_G_swap_1 rfl (lv_at hl 1 rfl) ?_
  refine gp_cV0 (q0 := 0) (ci := 0) (As := [.int (nI a)]) (rest := []) ⟨hx, hb, hml, hown, hts⟩ (c_G_requireTask l E I F (nI a) (by rw [hT]; exact gp_in_1 ha (by omega))) (k_G_119 hts ⟨by decide, by decide⟩ rfl rfl) hK hP rfl rfl rfl hl.1 rfl (Nat.le_of_ble_eq_true rfl) d_G_swap_2 ⟨Nat.le_of_ble_eq_true rfl, Nat.le_of_ble_eq_true rfl⟩ ?_
  refine lv_aload_n hx hb d_G_swap_5 rfl (lv_at hl 0 rfl) ?_
  refine lv_iload_n hx hb d_G_swap_6 rfl (lv_at hl 2 rfl) ?_
  refine gp_cV0 (q0 := 0) (ci := 0) (As := [.int (nI b)]) (rest := []) ⟨hx, hb, hml, hown, hts⟩ (c_G_requireTask l E I F (nI b) (by rw [hT]; exact gp_in_1 hb2 (by omega))) (k_G_119 hts ⟨by decide, by decide⟩ rfl rfl) hK hP rfl rfl rfl hl.1 rfl (Nat.le_of_ble_eq_true rfl) d_G_swap_7 ⟨Nat.le_of_ble_eq_true rfl, Nat.le_of_ble_eq_true rfl⟩ ?_
  refine lv_aload_n hx hb d_G_swap_10 rfl (lv_at hl 0 rfl) ?_
  refine gp_cV0 (q0 := 0) (ci := 0) (As := []) (rest := []) ⟨hx, hb, hml, hown, hts⟩ (c_G_requirePlan l E I F hpl) (k_G_122 hts ⟨by decide, by decide⟩ rfl rfl) hK hP rfl rfl rfl hl.1 rfl (Nat.le_of_ble_eq_true rfl) d_G_swap_11 ⟨Nat.le_of_ble_eq_true rfl, Nat.le_of_ble_eq_true rfl⟩ ?_
  refine lv_aload_n hx hb d_G_swap_14 rfl (lv_at hl 0 rfl) ?_
  refine va_get (D := E.1) (cl := gp_cl) (ci := 0) (v := .ref (E.2.2.2 1)) (C := R_G) (T := T_G) (N := 8) hx hb hts i_G hown hK hP 0 rfl rfl 0 (by decide) (hts _ w1_117) (fun _ h9 => h9) rfl d_G_swap_15 ?_
  refine va_get (D := E.1) (cl := gp_cl) (ci := 1) (v := .ref (E.2.2.2 8)) (C := R_D) (T := T_D) (N := 13) hx hb hts i_D hown hK hP 1 rfl rfl 5 (by decide) (hts _ w1_34) (fun _ h9 => h9) rfl d_G_swap_18 ?_
  refine lv_iload_n hx hb d_G_swap_21 rfl (lv_at hl 1 rfl) ?_
  refine gp_ald (f := (F 5)) (n := 6) hx hb hK hP 8 rfl (a) rfl (by omega) (by decide) d_G_swap_22 ?_
  refine lv_aload_n hx hb d_G_swap_23 rfl (lv_at hl 0 rfl) ?_
  refine va_get (D := E.1) (cl := gp_cl) (ci := 0) (v := .int (I 1)) (C := R_G) (T := T_G) (N := 8) hx hb hts i_G hown hK hP 0 rfl rfl 5 (by decide) (hts _ w1_122) (fun _ h9 => h9) rfl d_G_swap_24 ?_
  refine lv_icmp_lt (tgt := 46) hx hb d_G_swap_27 (by decide) (fun c27 => ?_) (fun c27 => ?_)
  · have c27 := c27
    have mc27 : ¬ (I 1) ≤ ((F 5) (a)) := Int32.not_le.mpr c27
    refine lv_iconst (v := 1) hx hb d_G_swap_46 (by decide) ?_
    exact gp_wi hx hb hr hlocks hAe (by rw [gp_swr, if_pos (by first | exact Or.inl c27 | exact Or.inr mc43 | exact Or.inr (Int32.not_le.mp c43))]) (by rw [gp_sw, if_neg (by rw [gp_swr, if_pos (by first | exact Or.inl c27 | exact Or.inr mc43 | exact Or.inr (Int32.not_le.mp c43))]; decide)]; exact hP) hS d_G_swap_47
  · have c27 := c27
    have mc27 : (I 1) ≤ ((F 5) (a)) := Int32.not_lt.mp c27
    refine lv_aload_n hx hb d_G_swap_30 rfl (lv_at hl 0 rfl) ?_
    refine va_get (D := E.1) (cl := gp_cl) (ci := 0) (v := .ref (E.2.2.2 1)) (C := R_G) (T := T_G) (N := 8) hx hb hts i_G hown hK hP 0 rfl rfl 0 (by decide) (hts _ w1_117) (fun _ h9 => h9) rfl d_G_swap_31 ?_
    refine va_get (D := E.1) (cl := gp_cl) (ci := 1) (v := .ref (E.2.2.2 8)) (C := R_D) (T := T_D) (N := 13) hx hb hts i_D hown hK hP 1 rfl rfl 5 (by decide) (hts _ w1_34) (fun _ h9 => h9) rfl d_G_swap_34 ?_
    refine lv_iload_n hx hb d_G_swap_37 rfl (lv_at hl 2 rfl) ?_
    refine gp_ald (f := (F 5)) (n := 6) hx hb hK hP 8 rfl (b) rfl (by omega) (by decide) d_G_swap_38 ?_
    refine lv_aload_n hx hb d_G_swap_39 rfl (lv_at hl 0 rfl) ?_
    refine va_get (D := E.1) (cl := gp_cl) (ci := 0) (v := .int (I 1)) (C := R_G) (T := T_G) (N := 8) hx hb hts i_G hown hK hP 0 rfl rfl 5 (by decide) (hts _ w1_122) (fun _ h9 => h9) rfl d_G_swap_40 ?_
    refine lv_icmp_ge (tgt := 48) hx hb d_G_swap_43 (by decide) (fun c43 => ?_) (fun c43 => ?_)
    · have c43 := c43
      have mc43 : ¬ ((F 5) (b)) < (I 1) := Int32.not_lt.mpr c43
      refine lv_aload_n hx hb d_G_swap_48 rfl (lv_at hl 0 rfl) ?_
      refine va_get (D := E.1) (cl := gp_cl) (ci := 0) (v := .ref (E.2.2.2 17)) (C := R_G) (T := T_G) (N := 8) hx hb hts i_G hown hK hP 0 rfl rfl 2 (by decide) (hts _ w1_119) (fun _ h9 => h9) rfl d_G_swap_49 ?_
      refine lv_iload_n hx hb d_G_swap_52 rfl (lv_at hl 1 rfl) ?_
      refine gp_ald (f := (F 14)) (n := 6) hx hb hK hP 17 rfl (a) rfl (by omega) (by decide) d_G_swap_53 ?_
      refine lv_istore_n (lv' := [(3, .int ((F 14) (a))), (0, .ref (E.2.2.2 0)), (1, .int (nI a)), (2, .int (nI b))]) hx hb d_G_swap_54 rfl hl (by decide) rfl (fun ls hl => ?_)
      refine lv_aload_n hx hb d_G_swap_55 rfl (lv_at hl 1 rfl) ?_
      refine va_get (D := E.1) (cl := gp_cl) (ci := 0) (v := .ref (E.2.2.2 17)) (C := R_G) (T := T_G) (N := 8) hx hb hts i_G hown hK hP 0 rfl rfl 2 (by decide) (hts _ w1_119) (fun _ h9 => h9) rfl d_G_swap_56 ?_
      refine lv_iload_n hx hb d_G_swap_59 rfl (lv_at hl 3 rfl) ?_
      refine gp_ald (f := (F 14)) (n := 6) hx hb hK hP 17 rfl (b) rfl (by omega) (by decide) d_G_swap_60 ?_
      refine lv_istore (lv' := [(4, .int ((F 14) (b))), (3, .int ((F 14) (a))), (0, .ref (E.2.2.2 0)), (1, .int (nI a)), (2, .int (nI b))]) hx hb d_G_swap_61 hl (by decide) rfl (fun ls hl => ?_)
      refine lv_aload_n hx hb d_G_swap_63 rfl (lv_at hl 2 rfl) ?_
      refine lv_iload_n hx hb d_G_swap_64 rfl (lv_at hl 3 rfl) ?_
      refine lv_iload hx hb d_G_swap_65 (lv_at hl 0 rfl) ?_
      refine gp_cR (q0 := 0) (ci := 0) (As := [.int (nI a), .int ((F 14) (b))]) (rest := []) ⟨hx, hb, hml, hown, hts⟩ (show gp_CR _ _ _ _ _ _ _ _ _ (if gp_emp F a (F 14 b) then 1 else 0) from c_G_empties l E I F a (F 14 b) (by omega)) (k_G_140 hts ⟨by decide, by decide⟩ rfl rfl) hK hP rfl rfl rfl hl.1 rfl (Nat.le_of_ble_eq_true rfl) d_G_swap_67 ⟨Nat.le_of_ble_eq_true rfl, Nat.le_of_ble_eq_true rfl⟩ ?_
      by_cases hs67 : gp_emp F a (F 14 b) = true
      · rw [show ((if gp_emp F a (F 14 b) then 1 else 0) : Int32) = 1 from if_pos hs67]
        refine lv_if_ne (tgt := 82) hx hb d_G_swap_70 (by decide) (fun c70 => ?_) (fun c70 => ?_)
        · have c70 := c70
          have nc70 : ¬ 1 = 0 := fun h => c70 ((nI_eq (a := 1) (b := 0) (by omega) (by omega)).mpr h)
          refine lv_iconst (v := 2) hx hb d_G_swap_82 (by decide) ?_
          exact gp_wi hx hb hr hlocks hAe (by rw [gp_swr, if_neg (fun q => q.elim (fun z => c27 z) (fun z => by first | exact mc43 z | exact (Int32.not_le.mpr z) c43)), if_pos (by first | exact Or.inl hs67 | exact Or.inr hs76)]) (by rw [gp_sw, if_neg (by rw [gp_swr, if_neg (fun q => q.elim (fun z => c27 z) (fun z => by first | exact mc43 z | exact (Int32.not_le.mpr z) c43)), if_pos (by first | exact Or.inl hs67 | exact Or.inr hs76)]; decide)]; exact hP) hS d_G_swap_83
        · exact absurd c70 (by decide)
      · rw [show ((if gp_emp F a (F 14 b) then 1 else 0) : Int32) = 0 from if_neg hs67]
        refine lv_if_ne (tgt := 82) hx hb d_G_swap_70 (by decide) (fun c70 => ?_) (fun c70 => ?_)
        · exact absurd c70 (by decide)
        · have c70 := c70
          have nc70 : 0 = 0 := (nI_eq (a := 0) (b := 0) (by omega) (by omega)).mp c70
          refine lv_aload_n hx hb d_G_swap_73 rfl (lv_at hl 2 rfl) ?_
          refine lv_iload_n hx hb d_G_swap_74 rfl (lv_at hl 4 rfl) ?_
          refine lv_iload_n hx hb d_G_swap_75 rfl (lv_at hl 1 rfl) ?_
          refine gp_cR (q0 := 0) (ci := 0) (As := [.int (nI b), .int ((F 14) (a))]) (rest := []) ⟨hx, hb, hml, hown, hts⟩ (show gp_CR _ _ _ _ _ _ _ _ _ (if gp_emp F b (F 14 a) then 1 else 0) from c_G_empties l E I F b (F 14 a) (by omega)) (k_G_140 hts ⟨by decide, by decide⟩ rfl rfl) hK hP rfl rfl rfl hl.1 rfl (Nat.le_of_ble_eq_true rfl) d_G_swap_76 ⟨Nat.le_of_ble_eq_true rfl, Nat.le_of_ble_eq_true rfl⟩ ?_
          by_cases hs76 : gp_emp F b (F 14 a) = true
          · rw [show ((if gp_emp F b (F 14 a) then 1 else 0) : Int32) = 1 from if_pos hs76]
            refine lv_if_eq (tgt := 84) hx hb d_G_swap_79 (by decide) (fun c79 => ?_) (fun c79 => ?_)
            · exact absurd c79 (by decide)
            · have c79 := c79
              have nc79 : ¬ 1 = 0 := fun h => c79 ((nI_eq (a := 1) (b := 0) (by omega) (by omega)).mpr h)
              refine lv_iconst (v := 2) hx hb d_G_swap_82 (by decide) ?_
              exact gp_wi hx hb hr hlocks hAe (by rw [gp_swr, if_neg (fun q => q.elim (fun z => c27 z) (fun z => by first | exact mc43 z | exact (Int32.not_le.mpr z) c43)), if_pos (by first | exact Or.inl hs67 | exact Or.inr hs76)]) (by rw [gp_sw, if_neg (by rw [gp_swr, if_neg (fun q => q.elim (fun z => c27 z) (fun z => by first | exact mc43 z | exact (Int32.not_le.mpr z) c43)), if_pos (by first | exact Or.inl hs67 | exact Or.inr hs76)]; decide)]; exact hP) hS d_G_swap_83
          · rw [show ((if gp_emp F b (F 14 a) then 1 else 0) : Int32) = 0 from if_neg hs76]
            refine lv_if_eq (tgt := 84) hx hb d_G_swap_79 (by decide) (fun c79 => ?_) (fun c79 => ?_)
            · have c79 := c79
              have nc79 : 0 = 0 := (nI_eq (a := 0) (b := 0) (by omega) (by omega)).mp c79
              refine lv_aload_n hx hb d_G_swap_84 rfl (lv_at hl 2 rfl) ?_
              refine lv_iload_n hx hb d_G_swap_85 rfl (lv_at hl 3 rfl) ?_
              refine lv_iload hx hb d_G_swap_86 (lv_at hl 0 rfl) ?_
              refine gp_cR (q0 := 0) (ci := 0) (As := [.int (nI a), .int ((F 14) (b))]) (rest := []) ⟨hx, hb, hml, hown, hts⟩ (c_G_isUnsuited l E I F np nt ns a (F 14 b) hp4 hT hN hnp hnt hns (by omega) hvb) (k_G_144 hts ⟨by decide, by decide⟩ rfl rfl) hK hP rfl rfl rfl hl.1 rfl (Nat.le_of_ble_eq_true rfl) d_G_swap_88 ⟨Nat.le_of_ble_eq_true rfl, Nat.le_of_ble_eq_true rfl⟩ ?_
              by_cases hs88 : gp_uns F ns (F 14 b) a = true
              · rw [show ((if gp_uns F ns (F 14 b) a then 1 else 0) : Int32) = 1 from if_pos hs88]
                refine lv_if_ne (tgt := 103) hx hb d_G_swap_91 (by decide) (fun c91 => ?_) (fun c91 => ?_)
                · have c91 := c91
                  have nc91 : ¬ 1 = 0 := fun h => c91 ((nI_eq (a := 1) (b := 0) (by omega) (by omega)).mpr h)
                  refine lv_iconst (v := 3) hx hb d_G_swap_103 (by decide) ?_
                  exact gp_wi hx hb hr hlocks hAe (by rw [gp_swr, if_neg (fun q => q.elim (fun z => c27 z) (fun z => by first | exact mc43 z | exact (Int32.not_le.mpr z) c43)), if_neg (fun q => q.elim hs67 hs76), if_pos (by first | exact Or.inl hs88 | exact Or.inr hs97)]) (by rw [gp_sw, if_neg (by rw [gp_swr, if_neg (fun q => q.elim (fun z => c27 z) (fun z => by first | exact mc43 z | exact (Int32.not_le.mpr z) c43)), if_neg (fun q => q.elim hs67 hs76), if_pos (by first | exact Or.inl hs88 | exact Or.inr hs97)]; decide)]; exact hP) hS d_G_swap_104
                · exact absurd c91 (by decide)
              · rw [show ((if gp_uns F ns (F 14 b) a then 1 else 0) : Int32) = 0 from if_neg hs88]
                refine lv_if_ne (tgt := 103) hx hb d_G_swap_91 (by decide) (fun c91 => ?_) (fun c91 => ?_)
                · exact absurd c91 (by decide)
                · have c91 := c91
                  have nc91 : 0 = 0 := (nI_eq (a := 0) (b := 0) (by omega) (by omega)).mp c91
                  refine lv_aload_n hx hb d_G_swap_94 rfl (lv_at hl 2 rfl) ?_
                  refine lv_iload_n hx hb d_G_swap_95 rfl (lv_at hl 4 rfl) ?_
                  refine lv_iload_n hx hb d_G_swap_96 rfl (lv_at hl 1 rfl) ?_
                  refine gp_cR (q0 := 0) (ci := 0) (As := [.int (nI b), .int ((F 14) (a))]) (rest := []) ⟨hx, hb, hml, hown, hts⟩ (c_G_isUnsuited l E I F np nt ns b (F 14 a) hp4 hT hN hnp hnt hns (by omega) hva) (k_G_144 hts ⟨by decide, by decide⟩ rfl rfl) hK hP rfl rfl rfl hl.1 rfl (Nat.le_of_ble_eq_true rfl) d_G_swap_97 ⟨Nat.le_of_ble_eq_true rfl, Nat.le_of_ble_eq_true rfl⟩ ?_
                  by_cases hs97 : gp_uns F ns (F 14 a) b = true
                  · rw [show ((if gp_uns F ns (F 14 a) b then 1 else 0) : Int32) = 1 from if_pos hs97]
                    refine lv_if_eq (tgt := 105) hx hb d_G_swap_100 (by decide) (fun c100 => ?_) (fun c100 => ?_)
                    · exact absurd c100 (by decide)
                    · have c100 := c100
                      have nc100 : ¬ 1 = 0 := fun h => c100 ((nI_eq (a := 1) (b := 0) (by omega) (by omega)).mpr h)
                      refine lv_iconst (v := 3) hx hb d_G_swap_103 (by decide) ?_
                      exact gp_wi hx hb hr hlocks hAe (by rw [gp_swr, if_neg (fun q => q.elim (fun z => c27 z) (fun z => by first | exact mc43 z | exact (Int32.not_le.mpr z) c43)), if_neg (fun q => q.elim hs67 hs76), if_pos (by first | exact Or.inl hs88 | exact Or.inr hs97)]) (by rw [gp_sw, if_neg (by rw [gp_swr, if_neg (fun q => q.elim (fun z => c27 z) (fun z => by first | exact mc43 z | exact (Int32.not_le.mpr z) c43)), if_neg (fun q => q.elim hs67 hs76), if_pos (by first | exact Or.inl hs88 | exact Or.inr hs97)]; decide)]; exact hP) hS d_G_swap_104
                  · rw [show ((if gp_uns F ns (F 14 a) b then 1 else 0) : Int32) = 0 from if_neg hs97]
                    refine lv_if_eq (tgt := 105) hx hb d_G_swap_100 (by decide) (fun c100 => ?_) (fun c100 => ?_)
                    · have c100 := c100
                      have nc100 : 0 = 0 := (nI_eq (a := 0) (b := 0) (by omega) (by omega)).mp c100
                      refine lv_aload_n hx hb d_G_swap_105 rfl (lv_at hl 2 rfl) ?_
                      refine va_get (D := E.1) (cl := gp_cl) (ci := 0) (v := .ref (E.2.2.2 17)) (C := R_G) (T := T_G) (N := 8) hx hb hts i_G hown hK hP 0 rfl rfl 2 (by decide) (hts _ w1_119) (fun _ h9 => h9) rfl d_G_swap_106 ?_
                      refine lv_iload_n hx hb d_G_swap_109 rfl (lv_at hl 3 rfl) ?_
                      refine lv_iload hx hb d_G_swap_110 (lv_at hl 0 rfl) ?_
                      refine gp_ast (f := (F 14)) (n := 6) hx hb hK hP hD hS 17 rfl (a) rfl (by omega) (by decide) d_G_swap_112 (fun H locs hP hD hS => ?_)
                      have hP : va_P E.1 gp_cl (gp_wG E I (gp_uF F 14 (upd (F 14) (a) ((F 14) (b))))) H := hP
                      have hD : va_D A (gp_wG E I (gp_uF F 14 (upd (F 14) (a) ((F 14) (b))))) := hD
                      refine lv_aload_n hx hb d_G_swap_113 rfl (lv_at hl 2 rfl) ?_
                      refine va_get (D := E.1) (cl := gp_cl) (ci := 0) (v := .ref (E.2.2.2 17)) (C := R_G) (T := T_G) (N := 8) hx hb hts i_G hown hK hP 0 rfl rfl 2 (by decide) (hts _ w1_119) (fun _ h9 => h9) rfl d_G_swap_114 ?_
                      refine lv_iload_n hx hb d_G_swap_117 rfl (lv_at hl 4 rfl) ?_
                      refine lv_iload_n hx hb d_G_swap_118 rfl (lv_at hl 1 rfl) ?_
                      refine gp_ast (f := (upd (F 14) (a) ((F 14) (b)))) (n := 6) hx hb hK hP hD hS 17 rfl (b) rfl (by omega) (by decide) d_G_swap_119 (fun H locs hP hD hS => ?_)
                      have hP : va_P E.1 gp_cl (gp_wG E I (gp_uF (gp_uF F 14 (upd (F 14) (a) ((F 14) (b)))) 14 (upd (upd (F 14) (a) ((F 14) (b))) (b) ((F 14) (a))))) H := hP
                      have hD : va_D A (gp_wG E I (gp_uF (gp_uF F 14 (upd (F 14) (a) ((F 14) (b)))) 14 (upd (upd (F 14) (a) ((F 14) (b))) (b) ((F 14) (a))))) := hD
                      have hP : va_P E.1 gp_cl (gp_wG E I (gp_swF F a b)) H := hP
                      have hD : va_D A (gp_wG E I (gp_swF F a b)) := hD
                      have e0 : ¬ (F 5 a < I 1 ∨ F 5 b < I 1) := fun q => q.elim (fun z => c27 z) (fun z => by first | exact mc43 z | exact (Int32.not_le.mpr z) c43)
                      have e3 : gp_swr I F ns nt a b = gp_fs I (gp_swF F a b) (F 14 a) (F 14 b) nt := by rw [gp_swr, if_neg e0, if_neg (fun q => q.elim hs67 hs76), if_neg (fun q => q.elim hs88 hs97)]
                      refine lv_aload_n hx hb d_G_swap_120 rfl (lv_at hl 2 rfl) ?_
                      refine lv_iload_n hx hb d_G_swap_121 rfl (lv_at hl 1 rfl) ?_
                      refine lv_iload hx hb d_G_swap_122 (lv_at hl 0 rfl) ?_
                      refine gp_cR (q0 := 0) (ci := 0) (As := [.int ((F 14) (a)), .int ((F 14) (b))]) (rest := []) ⟨hx, hb, hml, hown, hts⟩ (show gp_CR _ _ _ _ _ _ _ _ _ (gp_fs I (gp_swF F a b) (F 14 a) (F 14 b) nt) from c_G_faultOfSets l E I (gp_swF F a b) nt (F 14 a) (F 14 b) hT hnt) (k_G_147 hts ⟨by decide, by decide⟩ rfl rfl) hK hP rfl rfl rfl hl.1 rfl (Nat.le_of_ble_eq_true rfl) d_G_swap_124 ⟨Nat.le_of_ble_eq_true rfl, Nat.le_of_ble_eq_true rfl⟩ ?_
                      refine lv_istore (lv' := [(5, .int (gp_fs I (gp_swF F a b) (F 14 a) (F 14 b) nt)), (4, .int ((F 14) (b))), (3, .int ((F 14) (a))), (0, .ref (E.2.2.2 0)), (1, .int (nI a)), (2, .int (nI b))]) hx hb d_G_swap_127 hl (by decide) rfl (fun ls hl => ?_)
                      refine lv_iload hx hb d_G_swap_129 (lv_at hl 0 rfl) ?_
                      refine lv_if_eq (tgt := 149) hx hb d_G_swap_131 (by decide) (fun c131 => ?_) (fun c131 => ?_)
                      · have c131 := c131
                        refine lv_iload hx hb d_G_swap_149 (lv_at hl 0 rfl) ?_
                        exact gp_wi hx hb hr hlocks hAe (by rw [e3]) (by first | (rw [gp_sw, if_pos (by rw [e3]; exact c131)]; exact hP) | (rw [gp_sw, if_neg (by rw [e3]; exact c131)]; have h9 : va_P E.1 gp_cl (gp_wG E I (gp_uF F 14 (upd (upd (upd (upd (F 14) a (F 14 b)) b (F 14 a)) a (F 14 a)) b (F 14 b)))) H := hP; rw [gp_back, gp_uF_self] at h9; exact h9)) hS d_G_swap_151
                      · have c131 := c131
                        refine lv_aload_n hx hb d_G_swap_134 rfl (lv_at hl 3 rfl) ?_
                        refine va_get (D := E.1) (cl := gp_cl) (ci := 0) (v := .ref (E.2.2.2 17)) (C := R_G) (T := T_G) (N := 8) hx hb hts i_G hown hK hP 0 rfl rfl 2 (by decide) (hts _ w1_119) (fun _ h9 => h9) rfl d_G_swap_135 ?_
                        refine lv_iload_n hx hb d_G_swap_138 rfl (lv_at hl 4 rfl) ?_
                        refine lv_iload_n hx hb d_G_swap_139 rfl (lv_at hl 2 rfl) ?_
                        refine gp_ast (f := (upd (upd (F 14) (a) ((F 14) (b))) (b) ((F 14) (a)))) (n := 6) hx hb hK hP hD hS 17 rfl (a) rfl (by omega) (by decide) d_G_swap_140 (fun H locs hP hD hS => ?_)
                        have hP : va_P E.1 gp_cl (gp_wG E I (gp_uF (gp_uF (gp_uF F 14 (upd (F 14) (a) ((F 14) (b)))) 14 (upd (upd (F 14) (a) ((F 14) (b))) (b) ((F 14) (a)))) 14 (upd (upd (upd (F 14) (a) ((F 14) (b))) (b) ((F 14) (a))) (a) ((F 14) (a))))) H := hP
                        have hD : va_D A (gp_wG E I (gp_uF (gp_uF (gp_uF F 14 (upd (F 14) (a) ((F 14) (b)))) 14 (upd (upd (F 14) (a) ((F 14) (b))) (b) ((F 14) (a)))) 14 (upd (upd (upd (F 14) (a) ((F 14) (b))) (b) ((F 14) (a))) (a) ((F 14) (a))))) := hD
                        refine lv_aload_n hx hb d_G_swap_141 rfl (lv_at hl 3 rfl) ?_
                        refine va_get (D := E.1) (cl := gp_cl) (ci := 0) (v := .ref (E.2.2.2 17)) (C := R_G) (T := T_G) (N := 8) hx hb hts i_G hown hK hP 0 rfl rfl 2 (by decide) (hts _ w1_119) (fun _ h9 => h9) rfl d_G_swap_142 ?_
                        refine lv_iload_n hx hb d_G_swap_145 rfl (lv_at hl 5 rfl) ?_
                        refine lv_iload hx hb d_G_swap_146 (lv_at hl 1 rfl) ?_
                        refine gp_ast (f := (upd (upd (upd (F 14) (a) ((F 14) (b))) (b) ((F 14) (a))) (a) ((F 14) (a)))) (n := 6) hx hb hK hP hD hS 17 rfl (b) rfl (by omega) (by decide) d_G_swap_148 (fun H locs hP hD hS => ?_)
                        have hP : va_P E.1 gp_cl (gp_wG E I (gp_uF (gp_uF (gp_uF (gp_uF F 14 (upd (F 14) (a) ((F 14) (b)))) 14 (upd (upd (F 14) (a) ((F 14) (b))) (b) ((F 14) (a)))) 14 (upd (upd (upd (F 14) (a) ((F 14) (b))) (b) ((F 14) (a))) (a) ((F 14) (a)))) 14 (upd (upd (upd (upd (F 14) (a) ((F 14) (b))) (b) ((F 14) (a))) (a) ((F 14) (a))) (b) ((F 14) (b))))) H := hP
                        have hD : va_D A (gp_wG E I (gp_uF (gp_uF (gp_uF (gp_uF F 14 (upd (F 14) (a) ((F 14) (b)))) 14 (upd (upd (F 14) (a) ((F 14) (b))) (b) ((F 14) (a)))) 14 (upd (upd (upd (F 14) (a) ((F 14) (b))) (b) ((F 14) (a))) (a) ((F 14) (a)))) 14 (upd (upd (upd (upd (F 14) (a) ((F 14) (b))) (b) ((F 14) (a))) (a) ((F 14) (a))) (b) ((F 14) (b))))) := hD
                        refine lv_iload hx hb d_G_swap_149 (lv_at hl 0 rfl) ?_
                        exact gp_wi hx hb hr hlocks hAe (by rw [e3]) (by first | (rw [gp_sw, if_pos (by rw [e3]; exact c131)]; exact hP) | (rw [gp_sw, if_neg (by rw [e3]; exact c131)]; have h9 : va_P E.1 gp_cl (gp_wG E I (gp_uF F 14 (upd (upd (upd (upd (F 14) a (F 14 b)) b (F 14 a)) a (F 14 a)) b (F 14 b)))) H := hP; rw [gp_back, gp_uF_self] at h9; exact h9)) hS d_G_swap_151
                    · exact absurd c100 (by decide)
            · exact absurd c79 (by decide)
    · have c43 := c43
      have mc43 : ((F 5) (b)) < (I 1) := Int32.not_le.mp c43
      refine lv_iconst (v := 1) hx hb d_G_swap_46 (by decide) ?_
      exact gp_wi hx hb hr hlocks hAe (by rw [gp_swr, if_pos (by first | exact Or.inl c27 | exact Or.inr mc43 | exact Or.inr (Int32.not_le.mp c43))]) (by rw [gp_sw, if_neg (by rw [gp_swr, if_pos (by first | exact Or.inl c27 | exact Or.inr mc43 | exact Or.inr (Int32.not_le.mp c43))]; decide)]; exact hP) hS d_G_swap_47
