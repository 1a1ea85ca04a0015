set_option maxHeartbeats 4000000 in
set_option maxRecDepth 100000 in
theorem c_M_may (l : Launch) (E : gp_E) (I : Nat → Int32) (F : Nat → Nat → Int32) (np nt ns : Nat) (hp4 : I 1 = nI np) (hT : I 3 = nI nt) (hN : I 2 = nI ns) (hnp : np ≤ 4) (hnt : nt ≤ 6) (hns : ns ≤ 20) (hv : ∀ t, t < nt → F 11 t = 0 → F 9 t = -1 ∨ ∃ p, p < np ∧ F 9 t = nI p) : gp_CR l y_M_may b_M_may 3 (some .boolean) 3 E (gp_wM E I F) [.ref (E.2.2.2 0)] (if gm_may I F np nt ns then 1 else 0) := by
  refine gp_ofR (by decide) (Nat.le_of_ble_eq_true rfl) ?_
  intro xp xe xs xm below meth xc ls hx hb hr hts hown hlocks hml hP hK hl
  have hown : xs.vm.findClass "GuidePlansModel" = some xm.cls := hown
  have hl : lv_has ls 3 [(0, .ref (E.2.2.2 0))] := hl
  refine lv_iconst (v := 1) hx hb d_M_may_0 (by decide) ?_
  refine lv_istore_n (lv' := [(1, .int 1), (0, .ref (E.2.2.2 0))]) hx hb d_M_may_1 rfl hl (by decide) rfl (fun ls hl => ?_)
  refine lv_iconst (v := 0) hx hb d_M_may_2 (by decide) ?_
  refine lv_istore_n (lv' := [(2, .int 0), (1, .int 1), (0, .ref (E.2.2.2 0))]) hx hb d_M_may_3 rfl hl (by decide) rfl (fun ls hl => ?_)
  have L4 : ∀ (n : Nat) (t : Nat), t ≤ nt → nt + 1 ≤ t + n → ∀ (ls : Array Slot), lv_has ls 3 [(2, .int (nI t)), (1, .int (if gm_at F ns t then 1 else 0)), (0, .ref (E.2.2.2 0))] → W xp l xe (gp_rm 3 0 0) xs xm ([.ref (E.2.2.2 0)] : List Value).toArray below meth xc xs.heap [] 0 0 (MQ below (QcRead (if gm_may I F np nt ns then 1 else 0)) ([.ref (E.2.2.2 0)] : List Value).toArray xs 0 0 (fun _ => False)) (F0 xm 4 ls []) := by
    intro n
    induction n with
    | zero =>
      intro t h1 hm
      exact absurd hm (by omega)
    | succ n ih4 =>
      intro t h1 hm ls hl
      by_cases hb4 : gm_at F ns t = true
      · rw [show ((if gm_at F ns t then 1 else 0) : Int32) = 1 from if_pos hb4] at hl
        refine lv_iload_n hx hb d_M_may_4 rfl (lv_at hl 0 rfl) ?_
        refine lv_aload_n hx hb d_M_may_5 rfl (lv_at hl 2 rfl) ?_
        refine va_get (D := E.1) (cl := gp_cl) (ci := 3) (v := .int (nI nt)) (C := R_M) (T := T_M) (N := 27) hx hb hts i_M hown hK hP 0 rfl rfl 7 (by decide) (hts _ w3_59) (fun _ h9 => h9) (congrArg (fun z => some (Value.int z)) hT) d_M_may_6 ?_
        refine lv_icmp_ge (tgt := 84) hx hb d_M_may_9 (by decide) (fun c9 => ?_) (fun c9 => ?_)
        · have c9 := c9
          have nc9 : nt ≤ t := (nI_leI (a := nt) (b := t) (by omega) (by omega)).mp c9
          refine lv_iconst (v := 0) hx hb d_M_may_84 (by decide) ?_
          refine lv_istore_n (lv' := [(2, .int 0), (1, .int 1), (0, .ref (E.2.2.2 0))]) hx hb d_M_may_85 rfl hl (by decide) rfl (fun ls hl => ?_)
          have L86 : ∀ (n : Nat) (p : Nat), p ≤ np → np + 1 ≤ p + n → ∀ (ls : Array Slot), lv_has ls 3 [(2, .int (nI p)), (1, .int (if gm_ap I F nt p then 1 else 0)), (0, .ref (E.2.2.2 0))] → W xp l xe (gp_rm 3 0 0) xs xm ([.ref (E.2.2.2 0)] : List Value).toArray below meth xc xs.heap [] 0 0 (MQ below (QcRead (if gm_may I F np nt ns then 1 else 0)) ([.ref (E.2.2.2 0)] : List Value).toArray xs 0 0 (fun _ => False)) (F0 xm 86 ls []) := by
            intro n
            induction n with
            | zero =>
              intro p k1 hm
              exact absurd hm (by omega)
            | succ n ih86 =>
              intro p k1 hm ls hl
              by_cases hb86 : gm_ap I F nt p = true
              · rw [show ((if gm_ap I F nt p then 1 else 0) : Int32) = 1 from if_pos hb86] at hl
                refine lv_iload_n hx hb d_M_may_86 rfl (lv_at hl 0 rfl) ?_
                refine lv_aload_n hx hb d_M_may_87 rfl (lv_at hl 2 rfl) ?_
                refine va_get (D := E.1) (cl := gp_cl) (ci := 3) (v := .int (nI np)) (C := R_M) (T := T_M) (N := 27) hx hb hts i_M hown hK hP 0 rfl rfl 1 (by decide) (hts _ w3_53) (fun _ h9 => h9) (congrArg (fun z => some (Value.int z)) hp4) d_M_may_88 ?_
                refine lv_icmp_ge (tgt := 130) hx hb d_M_may_91 (by decide) (fun c91 => ?_) (fun c91 => ?_)
                · have c91 := c91
                  have nc91 : np ≤ p := (nI_leI (a := np) (b := p) (by omega) (by omega)).mp c91
                  refine lv_iload_n hx hb d_M_may_130 rfl (lv_at hl 1 rfl) ?_
                  exact gp_rz hx hb hr hlocks (rfl) (by first | (rw [show gm_may I F np nt ns = false from by rw [gm_may, gm_at_f (t := t) (by simpa using hb4) nt (by omega)]; rfl]; rfl) | (rw [show gm_may I F np nt ns = false from by rw [gm_may, gm_ap_f (t := p) (by simpa using hb86) np (by omega)]; simp]; rfl) | (rw [show gm_may I F np nt ns = true from by rw [gm_may, show nt = t by omega, hb4, show np = p by omega]; simpa [show t = nt by omega] using hb86]; rfl)) d_M_may_131
                · have c91 := c91
                  have nc91 : ¬ np ≤ p := fun h => c91 ((nI_leI (a := np) (b := p) (by omega) (by omega)).mpr h)
                  refine lv_iload_n hx hb d_M_may_94 rfl (lv_at hl 1 rfl) ?_
                  refine lv_if_eq (tgt := 130) hx hb d_M_may_95 (by decide) (fun c95 => ?_) (fun c95 => ?_)
                  · exact absurd c95 (by decide)
                  · have c95 := c95
                    have nc95 : ¬ 1 = 0 := fun h => c95 ((nI_eq (a := 1) (b := 0) (by omega) (by omega)).mpr h)
                    refine lv_aload_n hx hb d_M_may_98 rfl (lv_at hl 2 rfl) ?_
                    refine lv_iload_n hx hb d_M_may_99 rfl (lv_at hl 0 rfl) ?_
                    refine gp_cR (q0 := 0) (ci := 3) (As := [.int (nI p)]) (rest := []) ⟨hx, hb, hml, hown, hts⟩ (c_M_quarters l E I F nt (nI p) hT hnt) (k_M_101 hts ⟨by decide, by decide⟩ rfl rfl) hK hP rfl rfl rfl hl.1 rfl (Nat.le_of_ble_eq_true rfl) d_M_may_100 ⟨Nat.le_of_ble_eq_true rfl, Nat.le_of_ble_eq_true rfl⟩ ?_
                    refine lv_aload_n hx hb d_M_may_103 rfl (lv_at hl 2 rfl) ?_
                    refine va_get (D := E.1) (cl := gp_cl) (ci := 3) (v := .int (I 6)) (C := R_M) (T := T_M) (N := 27) hx hb hts i_M hown hK hP 0 rfl rfl 18 (by decide) (hts _ w3_70) (fun _ h9 => h9) rfl d_M_may_104 ?_
                    refine lv_icmp_gt (tgt := 122) hx hb d_M_may_107 (by decide) (fun c107 => ?_) (fun c107 => ?_)
                    · have c107 := c107
                      have mc107 : ¬ (gm_q F (nI p) nt) ≤ (I 6) := Int32.not_le.mpr c107
                      refine lv_iconst (v := 0) hx hb d_M_may_122 (by decide) ?_
                      refine lv_istore_n (lv' := [(1, .int 0), (2, .int (nI p)), (0, .ref (E.2.2.2 0))]) hx hb d_M_may_123 rfl hl (by decide) rfl (fun ls hl => ?_)
                      refine lv_iinc (v := (nI (p + 1))) (lv' := [(2, .int (nI (p + 1))), (1, .int 0), (0, .ref (E.2.2.2 0))]) hx hb d_M_may_124 hl (k := 1) rfl (nI_1 _) (by decide) rfl (fun ls hl => ?_)
                      refine lv_goto (tgt := 86) hx hb d_M_may_127 (by decide) ?_
                      rw [show (0 : Int32) = (if gm_ap I F nt (p + 1) then 1 else 0) from by have q := hb86; simp [gm_ap, q, h1, hb4, c9, nc9, k1, hb86, c91, nc91, c95, nc95, c107, mc107]] at hl
                      exact ih86 (p + 1) (by omega) (by omega) ls (lv_sub hl [0, 1, 2] rfl)
                    · have c107 := c107
                      have mc107 : (gm_q F (nI p) nt) ≤ (I 6) := Int32.not_lt.mp c107
                      refine lv_aload_n hx hb d_M_may_110 rfl (lv_at hl 2 rfl) ?_
                      refine lv_iload_n hx hb d_M_may_111 rfl (lv_at hl 0 rfl) ?_
                      refine gp_cR (q0 := 0) (ci := 3) (As := [.int (nI p)]) (rest := []) ⟨hx, hb, hml, hown, hts⟩ (c_M_hasNear l E I F nt (nI p) hT hnt) (k_M_105 hts ⟨by decide, by decide⟩ rfl rfl) hK hP rfl rfl rfl hl.1 rfl (Nat.le_of_ble_eq_true rfl) d_M_may_112 ⟨Nat.le_of_ble_eq_true rfl, Nat.le_of_ble_eq_true rfl⟩ ?_
                      by_cases hs112 : gm_h2 (I 5) F (nI p) nt = true
                      · rw [show ((if gm_h2 (I 5) F (nI p) nt then 1 else 0) : Int32) = 1 from if_pos hs112]
                        refine lv_if_ne (tgt := 122) hx hb d_M_may_115 (by decide) (fun c115 => ?_) (fun c115 => ?_)
                        · have c115 := c115
                          have nc115 : ¬ 1 = 0 := fun h => c115 ((nI_eq (a := 1) (b := 0) (by omega) (by omega)).mpr h)
                          refine lv_iconst (v := 0) hx hb d_M_may_122 (by decide) ?_
                          refine lv_istore_n (lv' := [(1, .int 0), (2, .int (nI p)), (0, .ref (E.2.2.2 0))]) hx hb d_M_may_123 rfl hl (by decide) rfl (fun ls hl => ?_)
                          refine lv_iinc (v := (nI (p + 1))) (lv' := [(2, .int (nI (p + 1))), (1, .int 0), (0, .ref (E.2.2.2 0))]) hx hb d_M_may_124 hl (k := 1) rfl (nI_1 _) (by decide) rfl (fun ls hl => ?_)
                          refine lv_goto (tgt := 86) hx hb d_M_may_127 (by decide) ?_
                          rw [show (0 : Int32) = (if gm_ap I F nt (p + 1) then 1 else 0) from by have q := hb86; simp [gm_ap, q, h1, hb4, c9, nc9, k1, hb86, c91, nc91, c95, nc95, c107, mc107, hs112, c115, nc115]] at hl
                          exact ih86 (p + 1) (by omega) (by omega) ls (lv_sub hl [0, 1, 2] rfl)
                        · exact absurd c115 (by decide)
                      · rw [show ((if gm_h2 (I 5) F (nI p) nt then 1 else 0) : Int32) = 0 from if_neg hs112]
                        refine lv_if_ne (tgt := 122) hx hb d_M_may_115 (by decide) (fun c115 => ?_) (fun c115 => ?_)
                        · exact absurd c115 (by decide)
                        · have c115 := c115
                          have nc115 : 0 = 0 := (nI_eq (a := 0) (b := 0) (by omega) (by omega)).mp c115
                          refine lv_iconst (v := 1) hx hb d_M_may_118 (by decide) ?_
                          refine lv_goto (tgt := 123) hx hb d_M_may_119 (by decide) ?_
                          refine lv_istore_n (lv' := [(1, .int 1), (2, .int (nI p)), (0, .ref (E.2.2.2 0))]) hx hb d_M_may_123 rfl hl (by decide) rfl (fun ls hl => ?_)
                          refine lv_iinc (v := (nI (p + 1))) (lv' := [(2, .int (nI (p + 1))), (1, .int 1), (0, .ref (E.2.2.2 0))]) hx hb d_M_may_124 hl (k := 1) rfl (nI_1 _) (by decide) rfl (fun ls hl => ?_)
                          refine lv_goto (tgt := 86) hx hb d_M_may_127 (by decide) ?_
                          rw [show (1 : Int32) = (if gm_ap I F nt (p + 1) then 1 else 0) from by have q := hb86; simp [gm_ap, q, h1, hb4, c9, nc9, k1, hb86, c91, nc91, c95, nc95, c107, mc107, hs112, c115, nc115]] at hl
                          exact ih86 (p + 1) (by omega) (by omega) ls (lv_sub hl [0, 1, 2] rfl)
              · rw [show ((if gm_ap I F nt p then 1 else 0) : Int32) = 0 from if_neg hb86] at hl
                refine lv_iload_n hx hb d_M_may_86 rfl (lv_at hl 0 rfl) ?_
                refine lv_aload_n hx hb d_M_may_87 rfl (lv_at hl 2 rfl) ?_
                refine va_get (D := E.1) (cl := gp_cl) (ci := 3) (v := .int (nI np)) (C := R_M) (T := T_M) (N := 27) hx hb hts i_M hown hK hP 0 rfl rfl 1 (by decide) (hts _ w3_53) (fun _ h9 => h9) (congrArg (fun z => some (Value.int z)) hp4) d_M_may_88 ?_
                refine lv_icmp_ge (tgt := 130) hx hb d_M_may_91 (by decide) (fun c91 => ?_) (fun c91 => ?_)
                · have c91 := c91
                  have nc91 : np ≤ p := (nI_leI (a := np) (b := p) (by omega) (by omega)).mp c91
                  refine lv_iload_n hx hb d_M_may_130 rfl (lv_at hl 1 rfl) ?_
                  exact gp_rz hx hb hr hlocks (rfl) (by first | (rw [show gm_may I F np nt ns = false from by rw [gm_may, gm_at_f (t := t) (by simpa using hb4) nt (by omega)]; rfl]; rfl) | (rw [show gm_may I F np nt ns = false from by rw [gm_may, gm_ap_f (t := p) (by simpa using hb86) np (by omega)]; simp]; rfl) | (rw [show gm_may I F np nt ns = true from by rw [gm_may, show nt = t by omega, hb4, show np = p by omega]; simpa [show t = nt by omega] using hb86]; rfl)) d_M_may_131
                · have c91 := c91
                  have nc91 : ¬ np ≤ p := fun h => c91 ((nI_leI (a := np) (b := p) (by omega) (by omega)).mpr h)
                  refine lv_iload_n hx hb d_M_may_94 rfl (lv_at hl 1 rfl) ?_
                  refine lv_if_eq (tgt := 130) hx hb d_M_may_95 (by decide) (fun c95 => ?_) (fun c95 => ?_)
                  · have c95 := c95
                    have nc95 : 0 = 0 := (nI_eq (a := 0) (b := 0) (by omega) (by omega)).mp c95
                    refine lv_iload_n hx hb d_M_may_130 rfl (lv_at hl 1 rfl) ?_
                    exact gp_rz hx hb hr hlocks (rfl) (by first | (rw [show gm_may I F np nt ns = false from by rw [gm_may, gm_at_f (t := t) (by simpa using hb4) nt (by omega)]; rfl]; rfl) | (rw [show gm_may I F np nt ns = false from by rw [gm_may, gm_ap_f (t := p) (by simpa using hb86) np (by omega)]; simp]; rfl) | (rw [show gm_may I F np nt ns = true from by rw [gm_may, show nt = t by omega, hb4, show np = p by omega]; simpa [show t = nt by omega] using hb86]; rfl)) d_M_may_131
                  · exact absurd c95 (by decide)
          exact L86 (np + 1) 0 (Nat.zero_le _) (by omega) ls (lv_sub hl [0, 1, 2] rfl)
        · have c9 := c9
          have nc9 : ¬ nt ≤ t := fun h => c9 ((nI_leI (a := nt) (b := t) (by omega) (by omega)).mpr h)
          refine lv_iload_n hx hb d_M_may_12 rfl (lv_at hl 1 rfl) ?_
          refine lv_if_eq (tgt := 84) hx hb d_M_may_13 (by decide) (fun c13 => ?_) (fun c13 => ?_)
          · exact absurd c13 (by decide)
          · have c13 := c13
            have nc13 : ¬ 1 = 0 := fun h => c13 ((nI_eq (a := 1) (b := 0) (by omega) (by omega)).mpr h)
            refine lv_aload_n hx hb d_M_may_16 rfl (lv_at hl 2 rfl) ?_
            refine va_get (D := E.1) (cl := gp_cl) (ci := 3) (v := .ref (E.2.2.2 12)) (C := R_M) (T := T_M) (N := 27) hx hb hts i_M hown hK hP 0 rfl rfl 15 (by decide) (hts _ w3_67) (fun _ h9 => h9) rfl d_M_may_17 ?_
            refine lv_iload_n hx hb d_M_may_20 rfl (lv_at hl 0 rfl) ?_
            refine gp_zld (f := (F 11)) (n := 6) hx hb hK hP 12 rfl (t) rfl (by omega) (by decide) d_M_may_21 ?_
            refine lv_if_eq (tgt := 48) hx hb d_M_may_22 (by decide) (fun c22 => ?_) (fun c22 => ?_)
            · have c22 := c22
              refine lv_aload_n hx hb d_M_may_48 rfl (lv_at hl 2 rfl) ?_
              refine va_get (D := E.1) (cl := gp_cl) (ci := 3) (v := .ref (E.2.2.2 10)) (C := R_M) (T := T_M) (N := 27) hx hb hts i_M hown hK hP 0 rfl rfl 13 (by decide) (hts _ w3_65) (fun _ h9 => h9) rfl d_M_may_49 ?_
              refine lv_iload_n hx hb d_M_may_52 rfl (lv_at hl 0 rfl) ?_
              refine gp_ald (f := (F 9)) (n := 6) hx hb hK hP 10 rfl (t) rfl (by omega) (by decide) d_M_may_53 ?_
              refine lv_iconst (v := (-1)) hx hb d_M_may_54 (by decide) ?_
              refine lv_icmp_eq (tgt := 72) hx hb d_M_may_55 (by decide) (fun c55 => ?_) (fun c55 => ?_)
              · have c55 := c55
                refine lv_iconst (v := 1) hx hb d_M_may_72 (by decide) ?_
                refine lv_goto (tgt := 77) hx hb d_M_may_73 (by decide) ?_
                refine lv_istore_n (lv' := [(1, .int 1), (2, .int (nI t)), (0, .ref (E.2.2.2 0))]) hx hb d_M_may_77 rfl hl (by decide) rfl (fun ls hl => ?_)
                refine lv_iinc (v := (nI (t + 1))) (lv' := [(2, .int (nI (t + 1))), (1, .int 1), (0, .ref (E.2.2.2 0))]) hx hb d_M_may_78 hl (k := 1) rfl (nI_1 _) (by decide) rfl (fun ls hl => ?_)
                refine lv_goto (tgt := 4) hx hb d_M_may_81 (by decide) ?_
                rw [show (1 : Int32) = (if gm_at F ns (t + 1) then 1 else 0) from by have q := hb4; simp [gm_at, gm_ok, q, h1, hb4, c9, nc9, c13, nc13, c22, c55]] at hl
                exact ih4 (t + 1) (by omega) (by omega) ls (lv_sub hl [0, 1, 2] rfl)
              · have c55 := c55
                obtain ⟨p9, hp9, e9⟩ : ∃ p, p < np ∧ F 9 t = nI p := (hv t (by omega) c22).resolve_left c55
                refine lv_aload_n hx hb d_M_may_58 rfl (lv_at hl 2 rfl) ?_
                refine lv_aload_n hx hb d_M_may_59 rfl (lv_at hl 2 rfl) ?_
                refine va_get (D := E.1) (cl := gp_cl) (ci := 3) (v := .ref (E.2.2.2 10)) (C := R_M) (T := T_M) (N := 27) hx hb hts i_M hown hK hP 0 rfl rfl 13 (by decide) (hts _ w3_65) (fun _ h9 => h9) rfl d_M_may_60 ?_
                refine lv_iload_n hx hb d_M_may_63 rfl (lv_at hl 0 rfl) ?_
                refine gp_ald (f := (F 9)) (n := 6) hx hb hK hP 10 rfl (t) rfl (by omega) (by decide) d_M_may_64 ?_
                refine lv_iload_n hx hb d_M_may_65 rfl (lv_at hl 0 rfl) ?_
                refine gp_cR (q0 := 0) (ci := 3) (As := [.int ((F 9) (t)), .int (nI t)]) (rest := []) ⟨hx, hb, hml, hown, hts⟩ (show gp_CR l y_M_suits b_M_suits 5 (some .boolean) 1 E (gp_wM E I F) [.ref (E.2.2.2 0), .int (F 9 t), .int (nI t)] (if gm_su F (F 9 t).toNatClampNeg t ns then 1 else 0) from by rw [e9, nI_clamp (by omega)]; exact c_M_suits l E I F ns p9 t hN hns (by omega) (by omega)) (k_M_98 hts ⟨by decide, by decide⟩ rfl rfl) hK hP rfl rfl rfl hl.1 rfl (Nat.le_of_ble_eq_true rfl) d_M_may_66 ⟨Nat.le_of_ble_eq_true rfl, Nat.le_of_ble_eq_true rfl⟩ ?_
                by_cases hs66 : gm_su F (F 9 t).toNatClampNeg t ns = true
                · rw [show ((if gm_su F (F 9 t).toNatClampNeg t ns then 1 else 0) : Int32) = 1 from if_pos hs66]
                  refine lv_if_eq (tgt := 76) hx hb d_M_may_69 (by decide) (fun c69 => ?_) (fun c69 => ?_)
                  · exact absurd c69 (by decide)
                  · have c69 := c69
                    have nc69 : ¬ 1 = 0 := fun h => c69 ((nI_eq (a := 1) (b := 0) (by omega) (by omega)).mpr h)
                    refine lv_iconst (v := 1) hx hb d_M_may_72 (by decide) ?_
                    refine lv_goto (tgt := 77) hx hb d_M_may_73 (by decide) ?_
                    refine lv_istore_n (lv' := [(1, .int 1), (2, .int (nI t)), (0, .ref (E.2.2.2 0))]) hx hb d_M_may_77 rfl hl (by decide) rfl (fun ls hl => ?_)
                    refine lv_iinc (v := (nI (t + 1))) (lv' := [(2, .int (nI (t + 1))), (1, .int 1), (0, .ref (E.2.2.2 0))]) hx hb d_M_may_78 hl (k := 1) rfl (nI_1 _) (by decide) rfl (fun ls hl => ?_)
                    refine lv_goto (tgt := 4) hx hb d_M_may_81 (by decide) ?_
                    rw [show (1 : Int32) = (if gm_at F ns (t + 1) then 1 else 0) from by have q := hb4; simp [gm_at, gm_ok, q, h1, hb4, c9, nc9, c13, nc13, c22, c55, hs66, c69, nc69]] at hl
                    exact ih4 (t + 1) (by omega) (by omega) ls (lv_sub hl [0, 1, 2] rfl)
                · rw [show ((if gm_su F (F 9 t).toNatClampNeg t ns then 1 else 0) : Int32) = 0 from if_neg hs66]
                  refine lv_if_eq (tgt := 76) hx hb d_M_may_69 (by decide) (fun c69 => ?_) (fun c69 => ?_)
                  · have c69 := c69
                    have nc69 : 0 = 0 := (nI_eq (a := 0) (b := 0) (by omega) (by omega)).mp c69
                    refine lv_iconst (v := 0) hx hb d_M_may_76 (by decide) ?_
                    refine lv_istore_n (lv' := [(1, .int 0), (2, .int (nI t)), (0, .ref (E.2.2.2 0))]) hx hb d_M_may_77 rfl hl (by decide) rfl (fun ls hl => ?_)
                    refine lv_iinc (v := (nI (t + 1))) (lv' := [(2, .int (nI (t + 1))), (1, .int 0), (0, .ref (E.2.2.2 0))]) hx hb d_M_may_78 hl (k := 1) rfl (nI_1 _) (by decide) rfl (fun ls hl => ?_)
                    refine lv_goto (tgt := 4) hx hb d_M_may_81 (by decide) ?_
                    rw [show (0 : Int32) = (if gm_at F ns (t + 1) then 1 else 0) from by have q := hb4; simp [gm_at, gm_ok, q, h1, hb4, c9, nc9, c13, nc13, c22, c55, hs66, c69, nc69]] at hl
                    exact ih4 (t + 1) (by omega) (by omega) ls (lv_sub hl [0, 1, 2] rfl)
                  · exact absurd c69 (by decide)
            · have c22 := c22
              refine lv_aload_n hx hb d_M_may_25 rfl (lv_at hl 2 rfl) ?_
              refine va_get (D := E.1) (cl := gp_cl) (ci := 3) (v := .ref (E.2.2.2 10)) (C := R_M) (T := T_M) (N := 27) hx hb hts i_M hown hK hP 0 rfl rfl 13 (by decide) (hts _ w3_65) (fun _ h9 => h9) rfl d_M_may_26 ?_
              refine lv_iload_n hx hb d_M_may_29 rfl (lv_at hl 0 rfl) ?_
              refine gp_ald (f := (F 9)) (n := 6) hx hb hK hP 10 rfl (t) rfl (by omega) (by decide) d_M_may_30 ?_
              refine lv_aload_n hx hb d_M_may_31 rfl (lv_at hl 2 rfl) ?_
              refine va_get (D := E.1) (cl := gp_cl) (ci := 3) (v := .ref (E.2.2.2 9)) (C := R_M) (T := T_M) (N := 27) hx hb hts i_M hown hK hP 0 rfl rfl 12 (by decide) (hts _ w3_64) (fun _ h9 => h9) rfl d_M_may_32 ?_
              refine lv_iload_n hx hb d_M_may_35 rfl (lv_at hl 0 rfl) ?_
              refine gp_ald (f := (F 8)) (n := 6) hx hb hK hP 9 rfl (t) rfl (by omega) (by decide) d_M_may_36 ?_
              refine lv_icmp_ne (tgt := 44) hx hb d_M_may_37 (by decide) (fun c37 => ?_) (fun c37 => ?_)
              · have c37 := c37
                refine lv_iconst (v := 0) hx hb d_M_may_44 (by decide) ?_
                refine lv_goto (tgt := 77) hx hb d_M_may_45 (by decide) ?_
                refine lv_istore_n (lv' := [(1, .int 0), (2, .int (nI t)), (0, .ref (E.2.2.2 0))]) hx hb d_M_may_77 rfl hl (by decide) rfl (fun ls hl => ?_)
                refine lv_iinc (v := (nI (t + 1))) (lv' := [(2, .int (nI (t + 1))), (1, .int 0), (0, .ref (E.2.2.2 0))]) hx hb d_M_may_78 hl (k := 1) rfl (nI_1 _) (by decide) rfl (fun ls hl => ?_)
                refine lv_goto (tgt := 4) hx hb d_M_may_81 (by decide) ?_
                rw [show (0 : Int32) = (if gm_at F ns (t + 1) then 1 else 0) from by have q := hb4; simp [gm_at, gm_ok, q, h1, hb4, c9, nc9, c13, nc13, c22, c37]] at hl
                exact ih4 (t + 1) (by omega) (by omega) ls (lv_sub hl [0, 1, 2] rfl)
              · have c37 := c37
                refine lv_iconst (v := 1) hx hb d_M_may_40 (by decide) ?_
                refine lv_goto (tgt := 77) hx hb d_M_may_41 (by decide) ?_
                refine lv_istore_n (lv' := [(1, .int 1), (2, .int (nI t)), (0, .ref (E.2.2.2 0))]) hx hb d_M_may_77 rfl hl (by decide) rfl (fun ls hl => ?_)
                refine lv_iinc (v := (nI (t + 1))) (lv' := [(2, .int (nI (t + 1))), (1, .int 1), (0, .ref (E.2.2.2 0))]) hx hb d_M_may_78 hl (k := 1) rfl (nI_1 _) (by decide) rfl (fun ls hl => ?_)
                refine lv_goto (tgt := 4) hx hb d_M_may_81 (by decide) ?_
                rw [show (1 : Int32) = (if gm_at F ns (t + 1) then 1 else 0) from by have q := hb4; simp [gm_at, gm_ok, q, h1, hb4, c9, nc9, c13, nc13, c22, c37]] at hl
                exact ih4 (t + 1) (by omega) (by omega) ls (lv_sub hl [0, 1, 2] rfl)
      · rw [show ((if gm_at F ns t then 1 else 0) : Int32) = 0 from if_neg hb4] at hl
        refine lv_iload_n hx hb d_M_may_4 rfl (lv_at hl 0 rfl) ?_
        refine lv_aload_n hx hb d_M_may_5 rfl (lv_at hl 2 rfl) ?_
        refine va_get (D := E.1) (cl := gp_cl) (ci := 3) (v := .int (nI nt)) (C := R_M) (T := T_M) (N := 27) hx hb hts i_M hown hK hP 0 rfl rfl 7 (by decide) (hts _ w3_59) (fun _ h9 => h9) (congrArg (fun z => some (Value.int z)) hT) d_M_may_6 ?_
        refine lv_icmp_ge (tgt := 84) hx hb d_M_may_9 (by decide) (fun c9 => ?_) (fun c9 => ?_)
        · have c9 := c9
          have nc9 : nt ≤ t := (nI_leI (a := nt) (b := t) (by omega) (by omega)).mp c9
          refine lv_iconst (v := 0) hx hb d_M_may_84 (by decide) ?_
          refine lv_istore_n (lv' := [(2, .int 0), (1, .int 0), (0, .ref (E.2.2.2 0))]) hx hb d_M_may_85 rfl hl (by decide) rfl (fun ls hl => ?_)
          refine lv_iload_n hx hb d_M_may_86 rfl (lv_at hl 0 rfl) ?_
          refine lv_aload_n hx hb d_M_may_87 rfl (lv_at hl 2 rfl) ?_
          refine va_get (D := E.1) (cl := gp_cl) (ci := 3) (v := .int (nI np)) (C := R_M) (T := T_M) (N := 27) hx hb hts i_M hown hK hP 0 rfl rfl 1 (by decide) (hts _ w3_53) (fun _ h9 => h9) (congrArg (fun z => some (Value.int z)) hp4) d_M_may_88 ?_
          refine lv_icmp_ge (tgt := 130) hx hb d_M_may_91 (by decide) (fun c91 => ?_) (fun c91 => ?_)
          · have c91 := c91
            have nc91 : np ≤ 0 := (nI_leI (a := np) (b := 0) (by omega) (by omega)).mp c91
            refine lv_iload_n hx hb d_M_may_130 rfl (lv_at hl 1 rfl) ?_
            exact gp_rz hx hb hr hlocks (rfl) (by first | (rw [show gm_may I F np nt ns = false from by rw [gm_may, gm_at_f (t := t) (by simpa using hb4) nt (by omega)]; rfl]; rfl) | (rw [show gm_may I F np nt ns = false from by rw [gm_may, gm_ap_f (t := p) (by simpa using hb86) np (by omega)]; simp]; rfl) | (rw [show gm_may I F np nt ns = true from by rw [gm_may, show nt = t by omega, hb4, show np = p by omega]; simpa [show t = nt by omega] using hb86]; rfl)) d_M_may_131
          · have c91 := c91
            have nc91 : ¬ np ≤ 0 := fun h => c91 ((nI_leI (a := np) (b := 0) (by omega) (by omega)).mpr h)
            refine lv_iload_n hx hb d_M_may_94 rfl (lv_at hl 1 rfl) ?_
            refine lv_if_eq (tgt := 130) hx hb d_M_may_95 (by decide) (fun c95 => ?_) (fun c95 => ?_)
            · have c95 := c95
              have nc95 : 0 = 0 := (nI_eq (a := 0) (b := 0) (by omega) (by omega)).mp c95
              refine lv_iload_n hx hb d_M_may_130 rfl (lv_at hl 1 rfl) ?_
              exact gp_rz hx hb hr hlocks (rfl) (by first | (rw [show gm_may I F np nt ns = false from by rw [gm_may, gm_at_f (t := t) (by simpa using hb4) nt (by omega)]; rfl]; rfl) | (rw [show gm_may I F np nt ns = false from by rw [gm_may, gm_ap_f (t := p) (by simpa using hb86) np (by omega)]; simp]; rfl) | (rw [show gm_may I F np nt ns = true from by rw [gm_may, show nt = t by omega, hb4, show np = p by omega]; simpa [show t = nt by omega] using hb86]; rfl)) d_M_may_131
            · exact absurd c95 (by decide)
        · have c9 := c9
          have nc9 : ¬ nt ≤ t := fun h => c9 ((nI_leI (a := nt) (b := t) (by omega) (by omega)).mpr h)
          refine lv_iload_n hx hb d_M_may_12 rfl (lv_at hl 1 rfl) ?_
          refine lv_if_eq (tgt := 84) hx hb d_M_may_13 (by decide) (fun c13 => ?_) (fun c13 => ?_)
          · have c13 := c13
            have nc13 : 0 = 0 := (nI_eq (a := 0) (b := 0) (by omega) (by omega)).mp c13
            refine lv_iconst (v := 0) hx hb d_M_may_84 (by decide) ?_
            refine lv_istore_n (lv' := [(2, .int 0), (1, .int 0), (0, .ref (E.2.2.2 0))]) hx hb d_M_may_85 rfl hl (by decide) rfl (fun ls hl => ?_)
            refine lv_iload_n hx hb d_M_may_86 rfl (lv_at hl 0 rfl) ?_
            refine lv_aload_n hx hb d_M_may_87 rfl (lv_at hl 2 rfl) ?_
            refine va_get (D := E.1) (cl := gp_cl) (ci := 3) (v := .int (nI np)) (C := R_M) (T := T_M) (N := 27) hx hb hts i_M hown hK hP 0 rfl rfl 1 (by decide) (hts _ w3_53) (fun _ h9 => h9) (congrArg (fun z => some (Value.int z)) hp4) d_M_may_88 ?_
            refine lv_icmp_ge (tgt := 130) hx hb d_M_may_91 (by decide) (fun c91 => ?_) (fun c91 => ?_)
            · have c91 := c91
              have nc91 : np ≤ 0 := (nI_leI (a := np) (b := 0) (by omega) (by omega)).mp c91
              refine lv_iload_n hx hb d_M_may_130 rfl (lv_at hl 1 rfl) ?_
              exact gp_rz hx hb hr hlocks (rfl) (by first | (rw [show gm_may I F np nt ns = false from by rw [gm_may, gm_at_f (t := t) (by simpa using hb4) nt (by omega)]; rfl]; rfl) | (rw [show gm_may I F np nt ns = false from by rw [gm_may, gm_ap_f (t := p) (by simpa using hb86) np (by omega)]; simp]; rfl) | (rw [show gm_may I F np nt ns = true from by rw [gm_may, show nt = t by omega, hb4, show np = p by omega]; simpa [show t = nt by omega] using hb86]; rfl)) d_M_may_131
            · have c91 := c91
              have nc91 : ¬ np ≤ 0 := fun h => c91 ((nI_leI (a := np) (b := 0) (by omega) (by omega)).mpr h)
              refine lv_iload_n hx hb d_M_may_94 rfl (lv_at hl 1 rfl) ?_
              refine lv_if_eq (tgt := 130) hx hb d_M_may_95 (by decide) (fun c95 => ?_) (fun c95 => ?_)
              · have c95 := c95
                have nc95 : 0 = 0 := (nI_eq (a := 0) (b := 0) (by omega) (by omega)).mp c95
                refine lv_iload_n hx hb d_M_may_130 rfl (lv_at hl 1 rfl) ?_
                exact gp_rz hx hb hr hlocks (rfl) (by first | (rw [show gm_may I F np nt ns = false from by rw [gm_may, gm_at_f (t := t) (by simpa using hb4) nt (by omega)]; rfl]; rfl) | (rw [show gm_may I F np nt ns = false from by rw [gm_may, gm_ap_f (t := p) (by simpa using hb86) np (by omega)]; simp]; rfl) | (rw [show gm_may I F np nt ns = true from by rw [gm_may, show nt = t by omega, hb4, show np = p by omega]; simpa [show t = nt by omega] using hb86]; rfl)) d_M_may_131
              · exact absurd c95 (by decide)
          · exact absurd c13 (by decide)
  exact L4 (nt + 1) 0 (Nat.zero_le _) (by omega) ls (lv_sub hl [0, 1, 2] rfl)
set_option maxHeartbeats 4000000 in
set_option maxRecDepth 100000 in
theorem c_M_full (l : Launch) (E : gp_E) (I : Nat → Int32) (F : Nat → Nat → Int32) (nt : Nat) (hT : I 3 = nI nt) (hnt : nt ≤ 6) : gp_CR l y_M_full b_M_full 2 (some .int) 1 E (gp_wM E I F) [.ref (E.2.2.2 0)] (nI (gm_fu F nt 0)) := by
  refine gp_ofR (by decide) (Nat.le_of_ble_eq_true rfl) ?_
  intro xp xe xs xm below meth xc ls hx hb hr hts hown hlocks hml hP hK hl
  have hown : xs.vm.findClass "GuidePlansModel" = some xm.cls := hown
  have hl : lv_has ls 2 [(0, .ref (E.2.2.2 0))] := hl
  refine lv_iconst (v := 0) hx hb d_M_full_0 (by decide) ?_
  refine lv_istore_n (lv' := [(1, .int 0), (0, .ref (E.2.2.2 0))]) hx hb d_M_full_1 rfl hl (by decide) rfl (fun ls hl => ?_)
  have L2 : ∀ (n : Nat) (t : Nat), t ≤ nt → gm_fu F (nt - t) t = gm_fu F nt 0 → nt + 1 ≤ t + n → ∀ (ls : Array Slot), lv_has ls 2 [(1, .int (nI t)), (0, .ref (E.2.2.2 0))] → W xp l xe (gp_rm 1 0 0) xs xm ([.ref (E.2.2.2 0)] : List Value).toArray below meth xc xs.heap [] 0 0 (MQ below (QcRead (nI (gm_fu F nt 0))) ([.ref (E.2.2.2 0)] : List Value).toArray xs 0 0 (fun _ => False)) (F0 xm 2 ls []) := by
    intro n
    induction n with
    | zero =>
      intro t h1 h2 hm
      exact absurd hm (by omega)
    | succ n ih2 =>
      intro t h1 h2 hm ls hl
      refine lv_iload_n hx hb d_M_full_2 rfl (lv_at hl 0 rfl) ?_
      refine lv_aload_n hx hb d_M_full_3 rfl (lv_at hl 1 rfl) ?_
      refine va_get (D := E.1) (cl := gp_cl) (ci := 3) (v := .int (nI nt)) (C := R_M) (T := T_M) (N := 27) hx hb hts i_M hown hK hP 0 rfl rfl 7 (by decide) (hts _ w3_59) (fun _ h9 => h9) (congrArg (fun z => some (Value.int z)) hT) d_M_full_4 ?_
      refine lv_icmp_ge (tgt := 35) hx hb d_M_full_7 (by decide) (fun c7 => ?_) (fun c7 => ?_)
      · have c7 := c7
        have nc7 : nt ≤ t := (nI_leI (a := nt) (b := t) (by omega) (by omega)).mp c7
        refine lv_iload_n hx hb d_M_full_35 rfl (lv_at hl 0 rfl) ?_
        exact gp_ri hx hb hr hlocks (by rw [← h2]; first | (rw [show nt - t = 0 by omega, gm_fu]; done) | (rw [show nt - t = (nt - (t + 1)) + 1 by omega, gm_fu, if_neg c16, if_pos c26])) d_M_full_36
      · have c7 := c7
        have nc7 : ¬ nt ≤ t := fun h => c7 ((nI_leI (a := nt) (b := t) (by omega) (by omega)).mpr h)
        refine lv_aload_n hx hb d_M_full_10 rfl (lv_at hl 1 rfl) ?_
        refine va_get (D := E.1) (cl := gp_cl) (ci := 3) (v := .ref (E.2.2.2 8)) (C := R_M) (T := T_M) (N := 27) hx hb hts i_M hown hK hP 0 rfl rfl 11 (by decide) (hts _ w3_63) (fun _ h9 => h9) rfl d_M_full_11 ?_
        refine lv_iload_n hx hb d_M_full_14 rfl (lv_at hl 0 rfl) ?_
        refine gp_zld (f := (F 7)) (n := 6) hx hb hK hP 8 rfl (t) rfl (by omega) (by decide) d_M_full_15 ?_
        refine lv_if_eq (tgt := 29) hx hb d_M_full_16 (by decide) (fun c16 => ?_) (fun c16 => ?_)
        · have c16 := c16
          refine lv_iinc (v := (nI (t + 1))) (lv' := [(1, .int (nI (t + 1))), (0, .ref (E.2.2.2 0))]) hx hb d_M_full_29 hl (k := 0) rfl (nI_1 _) (by decide) rfl (fun ls hl => ?_)
          refine lv_goto (tgt := 2) hx hb d_M_full_32 (by decide) ?_
          exact ih2 (t + 1) (by omega) (by rw [← h2, show nt - t = (nt - (t + 1)) + 1 by omega, gm_fu]; first | rw [if_pos c16] | rw [if_neg c16, if_neg c26]) (by omega) ls (lv_sub hl [0, 1] rfl)
        · have c16 := c16
          refine lv_aload_n hx hb d_M_full_19 rfl (lv_at hl 1 rfl) ?_
          refine va_get (D := E.1) (cl := gp_cl) (ci := 3) (v := .ref (E.2.2.2 10)) (C := R_M) (T := T_M) (N := 27) hx hb hts i_M hown hK hP 0 rfl rfl 13 (by decide) (hts _ w3_65) (fun _ h9 => h9) rfl d_M_full_20 ?_
          refine lv_iload_n hx hb d_M_full_23 rfl (lv_at hl 0 rfl) ?_
          refine gp_ald (f := (F 9)) (n := 6) hx hb hK hP 10 rfl (t) rfl (by omega) (by decide) d_M_full_24 ?_
          refine lv_iconst (v := (-1)) hx hb d_M_full_25 (by decide) ?_
          refine lv_icmp_eq (tgt := 35) hx hb d_M_full_26 (by decide) (fun c26 => ?_) (fun c26 => ?_)
          · have c26 := c26
            refine lv_iload_n hx hb d_M_full_35 rfl (lv_at hl 0 rfl) ?_
            exact gp_ri hx hb hr hlocks (by rw [← h2]; first | (rw [show nt - t = 0 by omega, gm_fu]; done) | (rw [show nt - t = (nt - (t + 1)) + 1 by omega, gm_fu, if_neg c16, if_pos c26])) d_M_full_36
          · have c26 := c26
            refine lv_iinc (v := (nI (t + 1))) (lv' := [(1, .int (nI (t + 1))), (0, .ref (E.2.2.2 0))]) hx hb d_M_full_29 hl (k := 0) rfl (nI_1 _) (by decide) rfl (fun ls hl => ?_)
            refine lv_goto (tgt := 2) hx hb d_M_full_32 (by decide) ?_
            exact ih2 (t + 1) (by omega) (by rw [← h2, show nt - t = (nt - (t + 1)) + 1 by omega, gm_fu]; first | rw [if_pos c16] | rw [if_neg c16, if_neg c26]) (by omega) ls (lv_sub hl [0, 1] rfl)
  exact L2 (nt + 1) 0 (Nat.zero_le _) rfl (by omega) ls (lv_sub hl [0, 1] rfl)
set_option maxHeartbeats 4000000 in
set_option maxRecDepth 100000 in
theorem c_M_differences (l : Launch) (E : gp_E) (I : Nat → Int32) (F : Nat → Nat → Int32) (nt : Nat) (hT : I 3 = nI nt) (hnt : nt ≤ 6) : gp_CR l y_M_differences b_M_differences 3 (some .int) 1 E (gp_wM E I F) [.ref (E.2.2.2 0)] (nI (gm_df F nt)) := by
  refine gp_ofR (by decide) (Nat.le_of_ble_eq_true rfl) ?_
  intro xp xe xs xm below meth xc ls hx hb hr hts hown hlocks hml hP hK hl
  have hown : xs.vm.findClass "GuidePlansModel" = some xm.cls := hown
  have hl : lv_has ls 3 [(0, .ref (E.2.2.2 0))] := hl
  refine lv_iconst (v := 0) hx hb d_M_differences_0 (by decide) ?_
  refine lv_istore_n (lv' := [(1, .int 0), (0, .ref (E.2.2.2 0))]) hx hb d_M_differences_1 rfl hl (by decide) rfl (fun ls hl => ?_)
  refine lv_iconst (v := 0) hx hb d_M_differences_2 (by decide) ?_
  refine lv_istore_n (lv' := [(2, .int 0), (1, .int 0), (0, .ref (E.2.2.2 0))]) hx hb d_M_differences_3 rfl hl (by decide) rfl (fun ls hl => ?_)
  have L4 : ∀ (n : Nat) (t : Nat), t ≤ nt → nt + 1 ≤ t + n → ∀ (ls : Array Slot), lv_has ls 3 [(2, .int (nI t)), (1, .int (nI (gm_df F t))), (0, .ref (E.2.2.2 0))] → W xp l xe (gp_rm 1 0 0) xs xm ([.ref (E.2.2.2 0)] : List Value).toArray below meth xc xs.heap [] 0 0 (MQ below (QcRead (nI (gm_df F nt))) ([.ref (E.2.2.2 0)] : List Value).toArray xs 0 0 (fun _ => False)) (F0 xm 4 ls []) := by
    intro n
    induction n with
    | zero =>
      intro t h1 hm
      exact absurd hm (by omega)
    | succ n ih4 =>
      intro t h1 hm ls hl
      refine lv_iload_n hx hb d_M_differences_4 rfl (lv_at hl 0 rfl) ?_
      refine lv_aload_n hx hb d_M_differences_5 rfl (lv_at hl 2 rfl) ?_
      refine va_get (D := E.1) (cl := gp_cl) (ci := 3) (v := .int (nI nt)) (C := R_M) (T := T_M) (N := 27) hx hb hts i_M hown hK hP 0 rfl rfl 7 (by decide) (hts _ w3_59) (fun _ h9 => h9) (congrArg (fun z => some (Value.int z)) hT) d_M_differences_6 ?_
      refine lv_icmp_ge (tgt := 41) hx hb d_M_differences_9 (by decide) (fun c9 => ?_) (fun c9 => ?_)
      · have c9 := c9
        have nc9 : nt ≤ t := (nI_leI (a := nt) (b := t) (by omega) (by omega)).mp c9
        refine lv_iload_n hx hb d_M_differences_41 rfl (lv_at hl 1 rfl) ?_
        exact gp_ri hx hb hr hlocks (by rw [show t = nt by omega]) d_M_differences_42
      · have c9 := c9
        have nc9 : ¬ nt ≤ t := fun h => c9 ((nI_leI (a := nt) (b := t) (by omega) (by omega)).mpr h)
        refine lv_aload_n hx hb d_M_differences_12 rfl (lv_at hl 2 rfl) ?_
        refine va_get (D := E.1) (cl := gp_cl) (ci := 3) (v := .ref (E.2.2.2 10)) (C := R_M) (T := T_M) (N := 27) hx hb hts i_M hown hK hP 0 rfl rfl 13 (by decide) (hts _ w3_65) (fun _ h9 => h9) rfl d_M_differences_13 ?_
        refine lv_iload_n hx hb d_M_differences_16 rfl (lv_at hl 0 rfl) ?_
        refine gp_ald (f := (F 9)) (n := 6) hx hb hK hP 10 rfl (t) rfl (by omega) (by decide) d_M_differences_17 ?_
        refine lv_aload_n hx hb d_M_differences_18 rfl (lv_at hl 2 rfl) ?_
        refine va_get (D := E.1) (cl := gp_cl) (ci := 3) (v := .ref (E.2.2.2 9)) (C := R_M) (T := T_M) (N := 27) hx hb hts i_M hown hK hP 0 rfl rfl 12 (by decide) (hts _ w3_64) (fun _ h9 => h9) rfl d_M_differences_19 ?_
        refine lv_iload_n hx hb d_M_differences_22 rfl (lv_at hl 0 rfl) ?_
        refine gp_ald (f := (F 8)) (n := 6) hx hb hK hP 9 rfl (t) rfl (by omega) (by decide) d_M_differences_23 ?_
        refine lv_icmp_eq (tgt := 33) hx hb d_M_differences_24 (by decide) (fun c24 => ?_) (fun c24 => ?_)
        · have c24 := c24
          refine lv_iload_n hx hb d_M_differences_33 rfl (lv_at hl 1 rfl) ?_
          refine lv_istore_n (lv' := [(1, .int (nI (gm_df F t))), (2, .int (nI t)), (0, .ref (E.2.2.2 0))]) hx hb d_M_differences_34 rfl hl (by decide) rfl (fun ls hl => ?_)
          refine lv_iinc (v := (nI (t + 1))) (lv' := [(2, .int (nI (t + 1))), (1, .int (nI (gm_df F t))), (0, .ref (E.2.2.2 0))]) hx hb d_M_differences_35 hl (k := 1) rfl (nI_1 _) (by decide) rfl (fun ls hl => ?_)
          refine lv_goto (tgt := 4) hx hb d_M_differences_38 (by decide) ?_
          rw [show ((nI (gm_df F t)) : Int32) = (nI (gm_df F (t + 1))) from by simp [gm_df, h1, c9, nc9, c24]] at hl
          exact ih4 (t + 1) (by omega) (by omega) ls (lv_sub hl [0, 1, 2] rfl)
        · have c24 := c24
          refine lv_iload_n hx hb d_M_differences_27 rfl (lv_at hl 1 rfl) ?_
          refine lv_iconst (v := 1) hx hb d_M_differences_28 (by decide) ?_
          refine lv_iadd hx hb d_M_differences_29 ?_
          rw [show ((nI (gm_df F t)) + 1) = (nI ((gm_df F t) + 1)) from nI_1 _]
          refine lv_goto (tgt := 34) hx hb d_M_differences_30 (by decide) ?_
          refine lv_istore_n (lv' := [(1, .int (nI ((gm_df F t) + 1))), (2, .int (nI t)), (0, .ref (E.2.2.2 0))]) hx hb d_M_differences_34 rfl hl (by decide) rfl (fun ls hl => ?_)
          refine lv_iinc (v := (nI (t + 1))) (lv' := [(2, .int (nI (t + 1))), (1, .int (nI ((gm_df F t) + 1))), (0, .ref (E.2.2.2 0))]) hx hb d_M_differences_35 hl (k := 1) rfl (nI_1 _) (by decide) rfl (fun ls hl => ?_)
          refine lv_goto (tgt := 4) hx hb d_M_differences_38 (by decide) ?_
          rw [show ((nI ((gm_df F t) + 1)) : Int32) = (nI (gm_df F (t + 1))) from by simp [gm_df, h1, c9, nc9, c24]] at hl
          exact ih4 (t + 1) (by omega) (by omega) ls (lv_sub hl [0, 1, 2] rfl)
  exact L4 (nt + 1) 0 (Nat.zero_le _) (by omega) ls (lv_sub hl [0, 1, 2] rfl)
