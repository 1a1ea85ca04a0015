/-! ===== run, absent, swap ===== -/
theorem gp_kq.tr {σ τ ρ : gp_S} (h : gp_kq σ τ) (h2 : gp_kq τ ρ) : gp_kq σ ρ := ⟨fun i hi => (h2.1 i hi).trans (h.1 i hi), fun a ha => (h2.2.1 a ha).trans (h.2.1 a ha), fun a ha => (h2.2.2 a ha).trans (h.2.2 a ha)⟩
theorem gp_fl_kq {np nt ns : Nat} {fr : Int32} : ∀ (k t : Nat) (σ : gp_S), gp_kq σ (gp_fl np nt ns fr k t σ).2 := by
  intro k
  induction k with
  | zero => intro t σ; exact ⟨fun _ _ => rfl, fun _ _ => rfl, fun _ _ => rfl⟩
  | succ k ih =>
    intro t σ
    rw [gp_fl]
    split
    · exact ih _ _
    · split
      · exact gp_fd_kq.tr (ih _ _)
      · exact gp_fd_kq
def gp_ad (nt : Nat) (σ : gp_S) : gp_S := (upd (upd σ.1 3 1) 2 (-1), gp_uF σ.2 14 (fun j => if j < nt then σ.2 8 j else σ.2 14 j))
def gp_n1 (nt : Nat) (σ : gp_S) : gp_S := (upd σ.1 0 (nI (gp_nc σ.2 nt).1), gp_uF σ.2 15 (gp_nc σ.2 nt).2)
def gp_fL (np nt ns : Nat) (fr : Int32) (σ : gp_S) : Int32 × gp_S := gp_fl np nt ns fr nt 0 (upd (upd σ.1 9 0) 10 0, σ.2)
def gp_la (np nt ns : Nat) (fr : Int32) (σ : gp_S) : gp_S := (upd (gp_fL np nt ns fr σ).2.1 2 (gp_fL np nt ns fr σ).1, (gp_fL np nt ns fr σ).2.2)
def gp_fA (np nt ns : Nat) (σ : gp_S) : gp_S := gp_fd np nt ns 0 nt (upd (upd σ.1 9 0) 10 1, σ.2)
def gp_fN (np nt ns : Nat) (fr : Int32) (σ : gp_S) : gp_S := gp_fd np nt ns fr nt (upd (upd σ.1 9 1000) 10 1, σ.2)
def gp_run (np nt ns : Nat) (σ : gp_S) : Int32 × gp_S := if (gp_fA np nt ns σ).1 11 < 1000000 then (gp_e2 ((gp_ad nt (gp_fA np nt ns σ)).2 14) nt np, gp_ad nt (gp_fA np nt ns σ)) else (-1, gp_la np nt ns 0 (gp_fA np nt ns σ))
def gp_o1 (ns : Nat) (x y : Int32) (σ : gp_S) : gp_S := (upd σ.1 5 (nI (ns + 1)), gp_uF (gp_uF (gp_uF σ.2 1 (upd (σ.2 1) ns x)) 2 (upd (σ.2 2) ns y)) 3 (upd (σ.2 3) ns 96))
def gp_abs (np nt ns : Nat) (x y : Int32) (σ : gp_S) : Int32 × gp_S := if (gp_fN np nt (ns + 1) (σ.1 1) (gp_o1 ns x y σ)).1 11 < 1000000 then (nI (gp_nc (gp_fN np nt (ns + 1) (σ.1 1) (gp_o1 ns x y σ)).2 nt).1, gp_ad nt (gp_n1 nt (gp_fN np nt (ns + 1) (σ.1 1) (gp_o1 ns x y σ))))
  else (-1, (upd (gp_la np nt (ns + 1) (σ.1 1) (gp_fN np nt (ns + 1) (σ.1 1) (gp_o1 ns x y σ))).1 5 (nI ns), (gp_la np nt (ns + 1) (σ.1 1) (gp_fN np nt (ns + 1) (σ.1 1) (gp_o1 ns x y σ))).2))
theorem gp_fA_kq {np nt ns : Nat} {σ : gp_S} : gp_kq (upd (upd σ.1 9 0) 10 1, σ.2) (gp_fA np nt ns σ) := gp_fd_kq
theorem gp_fN_kq {np nt ns : Nat} {fr : Int32} {σ : gp_S} : gp_kq (upd (upd σ.1 9 1000) 10 1, σ.2) (gp_fN np nt ns fr σ) := gp_fd_kq
theorem gp_fL_kq {np nt ns : Nat} {fr : Int32} {σ : gp_S} : gp_kq (upd (upd σ.1 9 0) 10 0, σ.2) (gp_fL np nt ns fr σ).2 := gp_fl_kq _ _ _
def gp_emp (F : Nat → Nat → Int32) (t : Nat) (x : Int32) : Bool := !decide (F 7 t = 0) && decide (x = -1)
def gp_swF (F : Nat → Nat → Int32) (a b : Nat) : Nat → Nat → Int32 := gp_uF F 14 (upd (upd (F 14) a (F 14 b)) b (F 14 a))
def gp_swr (I : Nat → Int32) (F : Nat → Nat → Int32) (ns nt a b : Nat) : Int32 :=
  if F 5 a < I 1 ∨ F 5 b < I 1 then 1 else if gp_emp F a (F 14 b) = true ∨ gp_emp F b (F 14 a) = true then 2 else if gp_uns F ns (F 14 b) a = true ∨ gp_uns F ns (F 14 a) b = true then 3 else gp_fs I (gp_swF F a b) (F 14 a) (F 14 b) nt
def gp_sw (I : Nat → Int32) (F : Nat → Nat → Int32) (ns nt a b : Nat) : Nat → Nat → Int32 := if gp_swr I F ns nt a b = 0 then gp_swF F a b else F
theorem gp_back {f : Nat → Int32} {a b : Nat} : upd (upd (upd (upd f a (f b)) b (f a)) a (f a)) b (f b) = f := by
  funext j
  by_cases e1 : j = b
  · subst e1; simp [upd]
  · by_cases e2 : j = a
    · subst e2; simp [upd, e1]
    · simp [upd, e1, e2]
set_option maxHeartbeats 4000000 in
set_option maxRecDepth 100000 in
theorem c_G_run (l : Launch) (E : gp_E) (I : Nat → Int32) (F : Nat → Nat → Int32) (np nt ns : Nat) (hp4 : I 4 = nI np) (hT : I 6 = nI nt) (hN : I 5 = nI ns) (hnp : np ≤ 4) (hnt : nt ≤ 6) (hns : ns ≤ 20) : gp_CW l y_G_run b_G_run 1 (some .int) 19 E (gp_wG E I F) (gp_wG E (gp_run np nt ns (I, F)).2.1 (gp_run np nt ns (I, F)).2.2) [.ref (E.2.2.2 0)] (some (.int (gp_run np nt ns (I, F)).1)) := by
  refine gp_ofW (by decide) (Nat.le_of_ble_eq_true rfl) ?_
  intro xp xe xs xm below meth xc ls A hx hb hr hts hown hlocks hml hP hK hD hA hAe hl
  have hS : va_S A xs.heap xs.heap [] := va_S.rf
  have hown : xs.vm.findClass "GuidePlans" = some xm.cls := hown
  have hl : lv_has ls 1 [(0, .ref (E.2.2.2 0))] := hl
  refine lv_aload_n hx hb d_G_run_0 rfl (lv_at hl 0 rfl) ?_
  refine va_get (D := E.1) (cl := gp_cl) (ci := 0) (v := .ref (E.2.2.2 2)) (C := R_G) (T := T_G) (N := 8) hx hb hts i_G hown hK hP 0 rfl rfl 1 (by decide) (hts _ w1_118) (fun _ h9 => h9) rfl d_G_run_1 ?_
  refine lv_aload_n hx hb d_G_run_4 rfl (lv_at hl 0 rfl) ?_
  refine va_get (D := E.1) (cl := gp_cl) (ci := 0) (v := .ref (E.2.2.2 1)) (C := R_G) (T := T_G) (N := 8) hx hb hts i_G hown hK hP 0 rfl rfl 0 (by decide) (hts _ w1_117) (fun _ h9 => h9) rfl d_G_run_5 ?_
  refine lv_aload_n hx hb d_G_run_8 rfl (lv_at hl 0 rfl) ?_
  refine va_get (D := E.1) (cl := gp_cl) (ci := 0) (v := .ref (E.2.2.2 17)) (C := R_G) (T := T_G) (N := 8) hx hb hts i_G hown hK hP 0 rfl rfl 2 (by decide) (hts _ w1_119) (fun _ h9 => h9) rfl d_G_run_9 ?_
  refine gp_cW (q0 := 2) (ci := 2) (As := [.ref (E.2.2.2 1), .ref (E.2.2.2 17)]) (rest := []) ⟨hx, hb, hml, hown, hts⟩ (c_S_findAnew l E I F np nt ns hp4 hT hN hnp hnt hns) (k_G_104 hts ⟨by decide, by decide⟩ rfl rfl) hK hP hD hS hA rfl rfl rfl rfl hl.1 rfl (Nat.le_of_ble_eq_true rfl) d_G_run_12 ⟨Nat.le_of_ble_eq_true rfl, Nat.le_of_ble_eq_true rfl⟩ (fun H locs hP hD hS => ?_)
  have hP : va_P E.1 gp_cl (gp_wG E (gp_fA np nt ns (I, F)).1 (gp_fA np nt ns (I, F)).2) H := hP
  have hD : va_D A (gp_wG E (gp_fA np nt ns (I, F)).1 (gp_fA np nt ns (I, F)).2) := hD
  refine W.eq (g2 := F0 xm 15 ls [.int (if (gp_fA np nt ns (I, F)).1 11 < 1000000 then 1 else 0)]) rfl ?_
  by_cases hs12 : (gp_fA np nt ns (I, F)).1 11 < 1000000
  · rw [show ((if (gp_fA np nt ns (I, F)).1 11 < 1000000 then 1 else 0) : Int32) = 1 from if_pos hs12]
    refine lv_if_ne (tgt := 40) hx hb d_G_run_15 (by decide) (fun c15 => ?_) (fun c15 => ?_)
    · have c15 := c15
      have nc15 : ¬ 1 = 0 := fun h => c15 ((nI_eq (a := 1) (b := 0) (by omega) (by omega)).mpr h)
      have e2 : gp_run np nt ns (I, F) = (gp_e2 ((gp_ad nt (gp_fA np nt ns (I, F))).2 14) nt np, gp_ad nt (gp_fA np nt ns (I, F))) := if_pos hs12
      refine lv_aload_n hx hb d_G_run_40 rfl (lv_at hl 0 rfl) ?_
      refine gp_cW (q0 := 0) (ci := 0) (As := []) (rest := []) ⟨hx, hb, hml, hown, hts⟩ (c_G_adoptFoundPlan l E (gp_fA np nt ns (I, F)).1 (gp_fA np nt ns (I, F)).2 nt (((gp_fA_kq (σ := (I, F))).1 6 (by decide)).trans hT) hnt) (k_G_112 hts ⟨by decide, by decide⟩ rfl rfl) hK hP hD hS hA rfl rfl rfl rfl hl.1 rfl (Nat.le_of_ble_eq_true rfl) d_G_run_41 ⟨Nat.le_of_ble_eq_true rfl, Nat.le_of_ble_eq_true rfl⟩ (fun H locs hP hD hS => ?_)
      have hP : va_P E.1 gp_cl (gp_wG E (upd (upd (gp_fA np nt ns (I, F)).1 3 1) 2 (-1)) (gp_uF (gp_fA np nt ns (I, F)).2 14 (fun j => if j < nt then (gp_fA np nt ns (I, F)).2 8 j else (gp_fA np nt ns (I, F)).2 14 j))) H := hP
      have hD : va_D A (gp_wG E (upd (upd (gp_fA np nt ns (I, F)).1 3 1) 2 (-1)) (gp_uF (gp_fA np nt ns (I, F)).2 14 (fun j => if j < nt then (gp_fA np nt ns (I, F)).2 8 j else (gp_fA np nt ns (I, F)).2 14 j))) := hD
      refine lv_aload_n hx hb d_G_run_44 rfl (lv_at hl 0 rfl) ?_
      refine gp_cR (q0 := 0) (ci := 0) (As := []) (rest := []) ⟨hx, hb, hml, hown, hts⟩ (c_G_planCost l E (upd (upd (gp_fA np nt ns (I, F)).1 3 1) 2 (-1)) (gp_uF (gp_fA np nt ns (I, F)).2 14 (fun j => if j < nt then (gp_fA np nt ns (I, F)).2 8 j else (gp_fA np nt ns (I, F)).2 14 j)) np nt (((gp_fA_kq (σ := (I, F))).1 4 (by decide)).trans hp4) hnp (((gp_fA_kq (σ := (I, F))).1 6 (by decide)).trans hT) hnt) (k_G_115 hts ⟨by decide, by decide⟩ rfl rfl) hK hP rfl rfl rfl hl.1 rfl (Nat.le_of_ble_eq_true rfl) d_G_run_45 ⟨Nat.le_of_ble_eq_true rfl, Nat.le_of_ble_eq_true rfl⟩ ?_
      exact gp_wi hx hb hr hlocks hAe (by rw [e2] <;> rfl) (by rw [e2]; exact hP) hS d_G_run_48
    · exact absurd c15 (by decide)
  · rw [show ((if (gp_fA np nt ns (I, F)).1 11 < 1000000 then 1 else 0) : Int32) = 0 from if_neg hs12]
    refine lv_if_ne (tgt := 40) hx hb d_G_run_15 (by decide) (fun c15 => ?_) (fun c15 => ?_)
    · exact absurd c15 (by decide)
    · have c15 := c15
      have nc15 : 0 = 0 := (nI_eq (a := 0) (b := 0) (by omega) (by omega)).mp c15
      have e2 : gp_run np nt ns (I, F) = (-1, gp_la np nt ns 0 (gp_fA np nt ns (I, F))) := if_neg hs12
      refine lv_aload_n hx hb d_G_run_18 rfl (lv_at hl 0 rfl) ?_
      refine lv_aload_n hx hb d_G_run_19 rfl (lv_at hl 0 rfl) ?_
      refine va_get (D := E.1) (cl := gp_cl) (ci := 0) (v := .ref (E.2.2.2 2)) (C := R_G) (T := T_G) (N := 8) hx hb hts i_G hown hK hP 0 rfl rfl 1 (by decide) (hts _ w1_118) (fun _ h9 => h9) rfl d_G_run_20 ?_
      refine lv_aload_n hx hb d_G_run_23 rfl (lv_at hl 0 rfl) ?_
      refine va_get (D := E.1) (cl := gp_cl) (ci := 0) (v := .ref (E.2.2.2 1)) (C := R_G) (T := T_G) (N := 8) hx hb hts i_G hown hK hP 0 rfl rfl 0 (by decide) (hts _ w1_117) (fun _ h9 => h9) rfl d_G_run_24 ?_
      refine lv_aload_n hx hb d_G_run_27 rfl (lv_at hl 0 rfl) ?_
      refine va_get (D := E.1) (cl := gp_cl) (ci := 0) (v := .ref (E.2.2.2 17)) (C := R_G) (T := T_G) (N := 8) hx hb hts i_G hown hK hP 0 rfl rfl 2 (by decide) (hts _ w1_119) (fun _ h9 => h9) rfl d_G_run_28 ?_
      refine lv_iconst (v := 0) hx hb d_G_run_31 (by decide) ?_
      refine gp_cW (q0 := 2) (ci := 2) (As := [.ref (E.2.2.2 1), .ref (E.2.2.2 17), .int 0]) (rest := [.ref (E.2.2.2 0)]) ⟨hx, hb, hml, hown, hts⟩ (c_S_firstLacking l E (gp_fA np nt ns (I, F)).1 (gp_fA np nt ns (I, F)).2 np nt ns 0 (((gp_fA_kq (σ := (I, F))).1 4 (by decide)).trans hp4) (((gp_fA_kq (σ := (I, F))).1 6 (by decide)).trans hT) (((gp_fA_kq (σ := (I, F))).1 5 (by decide)).trans hN) hnp hnt hns) (k_G_108 hts ⟨by decide, by decide⟩ rfl rfl) hK hP hD hS hA rfl rfl rfl rfl hl.1 rfl (Nat.le_of_ble_eq_true rfl) d_G_run_32 ⟨Nat.le_of_ble_eq_true rfl, Nat.le_of_ble_eq_true rfl⟩ (fun H locs hP hD hS => ?_)
      have hP : va_P E.1 gp_cl (gp_wG E (gp_fL np nt ns 0 (gp_fA np nt ns (I, F))).2.1 (gp_fL np nt ns 0 (gp_fA np nt ns (I, F))).2.2) H := hP
      have hD : va_D A (gp_wG E (gp_fL np nt ns 0 (gp_fA np nt ns (I, F))).2.1 (gp_fL np nt ns 0 (gp_fA np nt ns (I, F))).2.2) := hD
      refine W.eq (g2 := F0 xm 35 ls [.int (gp_fL np nt ns 0 (gp_fA np nt ns (I, F))).1, .ref (E.2.2.2 0)]) rfl ?_
      refine va_put (D := E.1) (cl := gp_cl) (ci := 0) (v := .int (gp_fL np nt ns 0 (gp_fA np nt ns (I, F))).1) (ty := .int) (C := R_G) (T := T_G) (N := 8) hx hb hts i_G t_G t_G_ok n_G hown hK hP hD hS 0 rfl rfl 6 (by decide) (hts _ w1_123) (fun _ h9 => h9) rfl (by decide +kernel) rfl rfl (Nat.le_of_ble_eq_true rfl) d_G_run_35 (fun H locs hP hD hS => ?_)
      have hP : va_P E.1 gp_cl (gp_wG E (upd (gp_fL np nt ns 0 (gp_fA np nt ns (I, F))).2.1 2 (gp_fL np nt ns 0 (gp_fA np nt ns (I, F))).1) (gp_fL np nt ns 0 (gp_fA np nt ns (I, F))).2.2) H := hP
      have hD : va_D A (gp_wG E (upd (gp_fL np nt ns 0 (gp_fA np nt ns (I, F))).2.1 2 (gp_fL np nt ns 0 (gp_fA np nt ns (I, F))).1) (gp_fL np nt ns 0 (gp_fA np nt ns (I, F))).2.2) := hD
      refine lv_iconst (v := (-1)) hx hb d_G_run_38 (by decide) ?_
      exact gp_wi hx hb hr hlocks hAe (by rw [e2] <;> rfl) (by rw [e2]; exact hP) hS d_G_run_39
set_option maxHeartbeats 4000000 in
set_option maxRecDepth 100000 in
theorem c_G_absent (l : Launch) (E : gp_E) (I : Nat → Int32) (F : Nat → Nat → Int32) (np nt ns : Nat) (x y : Int32) (hp4 : I 4 = nI np) (hT : I 6 = nI nt) (hN : I 5 = nI ns) (hnp : np ≤ 4) (hnt : nt ≤ 6) (hns : ns < 20) (h : gp_in x (I 4) = true) (s1 : ¬ y < 0) (s2 : ¬ 96 ≤ y) (hpl : ¬ I 3 = 0) : gp_CW l y_G_absent b_G_absent 3 (some .int) 19 E (gp_wG E I F) (gp_wG E (gp_abs np nt ns x y (I, F)).2.1 (gp_abs np nt ns x y (I, F)).2.2) [.ref (E.2.2.2 0), .int x, .int y] (some (.int (gp_abs np nt ns x y (I, F)).1)) := by
  refine gp_ofW (by decide) (Nat.le_of_ble_eq_true rfl) ?_
  intro xp xe xs xm below meth xc ls A hx hb hr hts hown hlocks hml hP hK hD hA hAe hl
  have hS : va_S A xs.heap xs.heap [] := va_S.rf
  have hown : xs.vm.findClass "GuidePlans" = some xm.cls := hown
  have hl : lv_has ls 3 [(0, .ref (E.2.2.2 0)), (1, .int x), (2, .int y)] := hl
  refine lv_aload_n hx hb d_G_absent_0 rfl (lv_at hl 0 rfl) ?_
  refine lv_iload_n hx hb d_G_absent_1 rfl (lv_at hl 1 rfl) ?_
  refine gp_cV0 (q0 := 0) (ci := 0) (As := [.int x]) (rest := []) ⟨hx, hb, hml, hown, hts⟩ (c_G_requirePerson l E I F x h) (k_G_63 hts ⟨by decide, by decide⟩ rfl rfl) hK hP rfl rfl rfl hl.1 rfl (Nat.le_of_ble_eq_true rfl) d_G_absent_2 ⟨Nat.le_of_ble_eq_true rfl, Nat.le_of_ble_eq_true rfl⟩ ?_
  refine lv_aload_n hx hb d_G_absent_5 rfl (lv_at hl 0 rfl) ?_
  refine lv_iload_n hx hb d_G_absent_6 rfl (lv_at hl 2 rfl) ?_
  refine lv_bipush (v := 96) hx hb d_G_absent_7 (by decide) ?_
  refine gp_cV0 (q0 := 0) (ci := 0) (As := [.int y, .int 96]) (rest := []) ⟨hx, hb, hml, hown, hts⟩ (c_G_requireSpan l E I F y 96 s1 s2 (by decide)) (k_G_67 hts ⟨by decide, by decide⟩ rfl rfl) hK hP rfl rfl rfl hl.1 rfl (Nat.le_of_ble_eq_true rfl) d_G_absent_9 ⟨Nat.le_of_ble_eq_true rfl, Nat.le_of_ble_eq_true rfl⟩ ?_
  refine lv_aload_n hx hb d_G_absent_12 rfl (lv_at hl 0 rfl) ?_
  refine gp_cV0 (q0 := 0) (ci := 0) (As := []) (rest := []) ⟨hx, hb, hml, hown, hts⟩ (c_G_requirePlan l E I F hpl) (k_G_122 hts ⟨by decide, by decide⟩ rfl rfl) hK hP rfl rfl rfl hl.1 rfl (Nat.le_of_ble_eq_true rfl) d_G_absent_13 ⟨Nat.le_of_ble_eq_true rfl, Nat.le_of_ble_eq_true rfl⟩ ?_
  refine lv_aload_n hx hb d_G_absent_16 rfl (lv_at hl 0 rfl) ?_
  refine gp_cV0 (q0 := 0) (ci := 0) (As := []) (rest := []) ⟨hx, hb, hml, hown, hts⟩ (c_G_requireRoomForSpan l E I F ns hN hns) (k_G_71 hts ⟨by decide, by decide⟩ rfl rfl) hK hP rfl rfl rfl hl.1 rfl (Nat.le_of_ble_eq_true rfl) d_G_absent_17 ⟨Nat.le_of_ble_eq_true rfl, Nat.le_of_ble_eq_true rfl⟩ ?_
  refine lv_aload_n hx hb d_G_absent_20 rfl (lv_at hl 0 rfl) ?_
  refine va_get (D := E.1) (cl := gp_cl) (ci := 0) (v := .ref (E.2.2.2 1)) (C := R_G) (T := T_G) (N := 8) hx hb hts i_G hown hK hP 0 rfl rfl 0 (by decide) (hts _ w1_117) (fun _ h9 => h9) rfl d_G_absent_21 ?_
  refine lv_iload_n hx hb d_G_absent_24 rfl (lv_at hl 1 rfl) ?_
  refine lv_iload_n hx hb d_G_absent_25 rfl (lv_at hl 2 rfl) ?_
  refine lv_bipush (v := 96) hx hb d_G_absent_26 (by decide) ?_
  refine gp_cW (q0 := 1) (ci := 1) (As := [.int x, .int y, .int 96]) (rest := []) ⟨hx, hb, hml, hown, hts⟩ (c_D_addSpan l E I F ns x y 96 hN hns) (k_G_74 hts ⟨by decide, by decide⟩ rfl rfl) hK hP hD hS hA rfl rfl rfl rfl hl.1 rfl (Nat.le_of_ble_eq_true rfl) d_G_absent_28 ⟨Nat.le_of_ble_eq_true rfl, Nat.le_of_ble_eq_true rfl⟩ (fun H locs hP hD hS => ?_)
  have hP : va_P E.1 gp_cl (gp_wG E (upd I 5 (nI (ns + 1))) (gp_uF (gp_uF (gp_uF F 1 (upd (F 1) ns x)) 2 (upd (F 2) ns y)) 3 (upd (F 3) ns 96))) H := hP
  have hD : va_D A (gp_wG E (upd I 5 (nI (ns + 1))) (gp_uF (gp_uF (gp_uF F 1 (upd (F 1) ns x)) 2 (upd (F 2) ns y)) 3 (upd (F 3) ns 96))) := hD
  refine lv_aload_n hx hb d_G_absent_31 rfl (lv_at hl 0 rfl) ?_
  refine va_get (D := E.1) (cl := gp_cl) (ci := 0) (v := .ref (E.2.2.2 2)) (C := R_G) (T := T_G) (N := 8) hx hb hts i_G hown hK hP 0 rfl rfl 1 (by decide) (hts _ w1_118) (fun _ h9 => h9) rfl d_G_absent_32 ?_
  refine lv_aload_n hx hb d_G_absent_35 rfl (lv_at hl 0 rfl) ?_
  refine va_get (D := E.1) (cl := gp_cl) (ci := 0) (v := .ref (E.2.2.2 1)) (C := R_G) (T := T_G) (N := 8) hx hb hts i_G hown hK hP 0 rfl rfl 0 (by decide) (hts _ w1_117) (fun _ h9 => h9) rfl d_G_absent_36 ?_
  refine lv_aload_n hx hb d_G_absent_39 rfl (lv_at hl 0 rfl) ?_
  refine va_get (D := E.1) (cl := gp_cl) (ci := 0) (v := .ref (E.2.2.2 17)) (C := R_G) (T := T_G) (N := 8) hx hb hts i_G hown hK hP 0 rfl rfl 2 (by decide) (hts _ w1_119) (fun _ h9 => h9) rfl d_G_absent_40 ?_
  refine lv_aload_n hx hb d_G_absent_43 rfl (lv_at hl 0 rfl) ?_
  refine va_get (D := E.1) (cl := gp_cl) (ci := 0) (v := .int (I 1)) (C := R_G) (T := T_G) (N := 8) hx hb hts i_G hown hK hP 0 rfl rfl 5 (by decide) (hts _ w1_122) (fun _ h9 => h9) rfl d_G_absent_44 ?_
  refine gp_cW (q0 := 2) (ci := 2) (As := [.ref (E.2.2.2 1), .ref (E.2.2.2 17), .int (I 1)]) (rest := []) ⟨hx, hb, hml, hown, hts⟩ (c_S_findNearest l E (upd I 5 (nI (ns + 1))) (gp_uF (gp_uF (gp_uF F 1 (upd (F 1) ns x)) 2 (upd (F 2) ns y)) 3 (upd (F 3) ns 96)) np nt (ns + 1) (I 1) hp4 hT rfl hnp hnt (by omega)) (k_G_125 hts ⟨by decide, by decide⟩ rfl rfl) hK hP hD hS hA rfl rfl rfl rfl hl.1 rfl (Nat.le_of_ble_eq_true rfl) d_G_absent_47 ⟨Nat.le_of_ble_eq_true rfl, Nat.le_of_ble_eq_true rfl⟩ (fun H locs hP hD hS => ?_)
  have hP : va_P E.1 gp_cl (gp_wG E (gp_fN np nt (ns + 1) (I 1) (gp_o1 ns x y (I, F))).1 (gp_fN np nt (ns + 1) (I 1) (gp_o1 ns x y (I, F))).2) H := hP
  have hD : va_D A (gp_wG E (gp_fN np nt (ns + 1) (I 1) (gp_o1 ns x y (I, F))).1 (gp_fN np nt (ns + 1) (I 1) (gp_o1 ns x y (I, F))).2) := hD
  refine W.eq (g2 := F0 xm 50 ls [.int (if (gp_fN np nt (ns + 1) (I 1) (gp_o1 ns x y (I, F))).1 11 < 1000000 then 1 else 0)]) rfl ?_
  by_cases hs47 : (gp_fN np nt (ns + 1) (I 1) (gp_o1 ns x y (I, F))).1 11 < 1000000
  · rw [show ((if (gp_fN np nt (ns + 1) (I 1) (gp_o1 ns x y (I, F))).1 11 < 1000000 then 1 else 0) : Int32) = 1 from if_pos hs47]
    refine lv_if_ne (tgt := 85) hx hb d_G_absent_50 (by decide) (fun c50 => ?_) (fun c50 => ?_)
    · have c50 := c50
      have nc50 : ¬ 1 = 0 := fun h => c50 ((nI_eq (a := 1) (b := 0) (by omega) (by omega)).mpr h)
      have e2 : gp_abs np nt ns x y (I, F) = (nI (gp_nc (gp_fN np nt (ns + 1) (I 1) (gp_o1 ns x y (I, F))).2 nt).1, gp_ad nt (gp_n1 nt (gp_fN np nt (ns + 1) (I 1) (gp_o1 ns x y (I, F))))) := if_pos hs47
      refine lv_aload_n hx hb d_G_absent_85 rfl (lv_at hl 0 rfl) ?_
      refine gp_cW (q0 := 0) (ci := 0) (As := []) (rest := []) ⟨hx, hb, hml, hown, hts⟩ (c_G_noteChanges l E (gp_fN np nt (ns + 1) (I 1) (gp_o1 ns x y (I, F))).1 (gp_fN np nt (ns + 1) (I 1) (gp_o1 ns x y (I, F))).2 nt (((gp_fN_kq (σ := (gp_o1 ns x y (I, F)))).1 6 (by decide)).trans hT) hnt) (k_G_132 hts ⟨by decide, by decide⟩ rfl rfl) hK hP hD hS hA rfl rfl rfl rfl hl.1 rfl (Nat.le_of_ble_eq_true rfl) d_G_absent_86 ⟨Nat.le_of_ble_eq_true rfl, Nat.le_of_ble_eq_true rfl⟩ (fun H locs hP hD hS => ?_)
      have hP : va_P E.1 gp_cl (gp_wG E (upd (gp_fN np nt (ns + 1) (I 1) (gp_o1 ns x y (I, F))).1 0 (nI (gp_nc (gp_fN np nt (ns + 1) (I 1) (gp_o1 ns x y (I, F))).2 nt).1)) (gp_uF (gp_fN np nt (ns + 1) (I 1) (gp_o1 ns x y (I, F))).2 15 (gp_nc (gp_fN np nt (ns + 1) (I 1) (gp_o1 ns x y (I, F))).2 nt).2)) H := hP
      have hD : va_D A (gp_wG E (upd (gp_fN np nt (ns + 1) (I 1) (gp_o1 ns x y (I, F))).1 0 (nI (gp_nc (gp_fN np nt (ns + 1) (I 1) (gp_o1 ns x y (I, F))).2 nt).1)) (gp_uF (gp_fN np nt (ns + 1) (I 1) (gp_o1 ns x y (I, F))).2 15 (gp_nc (gp_fN np nt (ns + 1) (I 1) (gp_o1 ns x y (I, F))).2 nt).2)) := hD
      refine lv_aload_n hx hb d_G_absent_89 rfl (lv_at hl 0 rfl) ?_
      refine gp_cW (q0 := 0) (ci := 0) (As := []) (rest := []) ⟨hx, hb, hml, hown, hts⟩ (c_G_adoptFoundPlan l E (upd (gp_fN np nt (ns + 1) (I 1) (gp_o1 ns x y (I, F))).1 0 (nI (gp_nc (gp_fN np nt (ns + 1) (I 1) (gp_o1 ns x y (I, F))).2 nt).1)) (gp_uF (gp_fN np nt (ns + 1) (I 1) (gp_o1 ns x y (I, F))).2 15 (gp_nc (gp_fN np nt (ns + 1) (I 1) (gp_o1 ns x y (I, F))).2 nt).2) nt (((gp_fN_kq (σ := (gp_o1 ns x y (I, F)))).1 6 (by decide)).trans hT) hnt) (k_G_112 hts ⟨by decide, by decide⟩ rfl rfl) hK hP hD hS hA rfl rfl rfl rfl hl.1 rfl (Nat.le_of_ble_eq_true rfl) d_G_absent_90 ⟨Nat.le_of_ble_eq_true rfl, Nat.le_of_ble_eq_true rfl⟩ (fun H locs hP hD hS => ?_)
      have hP : va_P E.1 gp_cl (gp_wG E (upd (upd (upd (gp_fN np nt (ns + 1) (I 1) (gp_o1 ns x y (I, F))).1 0 (nI (gp_nc (gp_fN np nt (ns + 1) (I 1) (gp_o1 ns x y (I, F))).2 nt).1)) 3 1) 2 (-1)) (gp_uF (gp_uF (gp_fN np nt (ns + 1) (I 1) (gp_o1 ns x y (I, F))).2 15 (gp_nc (gp_fN np nt (ns + 1) (I 1) (gp_o1 ns x y (I, F))).2 nt).2) 14 (fun j => if j < nt then (gp_fN np nt (ns + 1) (I 1) (gp_o1 ns x y (I, F))).2 8 j else (gp_fN np nt (ns + 1) (I 1) (gp_o1 ns x y (I, F))).2 14 j))) H := hP
      have hD : va_D A (gp_wG E (upd (upd (upd (gp_fN np nt (ns + 1) (I 1) (gp_o1 ns x y (I, F))).1 0 (nI (gp_nc (gp_fN np nt (ns + 1) (I 1) (gp_o1 ns x y (I, F))).2 nt).1)) 3 1) 2 (-1)) (gp_uF (gp_uF (gp_fN np nt (ns + 1) (I 1) (gp_o1 ns x y (I, F))).2 15 (gp_nc (gp_fN np nt (ns + 1) (I 1) (gp_o1 ns x y (I, F))).2 nt).2) 14 (fun j => if j < nt then (gp_fN np nt (ns + 1) (I 1) (gp_o1 ns x y (I, F))).2 8 j else (gp_fN np nt (ns + 1) (I 1) (gp_o1 ns x y (I, F))).2 14 j))) := hD
      refine lv_aload_n hx hb d_G_absent_93 rfl (lv_at hl 0 rfl) ?_
      refine va_get (D := E.1) (cl := gp_cl) (ci := 0) (v := .int (nI (gp_nc (gp_fN np nt (ns + 1) (I 1) (gp_o1 ns x y (I, F))).2 nt).1)) (C := R_G) (T := T_G) (N := 8) hx hb hts i_G hown hK hP 0 rfl rfl 4 (by decide) (hts _ w1_121) (fun _ h9 => h9) rfl d_G_absent_94 ?_
      exact gp_wi hx hb hr hlocks hAe (by rw [e2]) (by rw [e2]; exact hP) hS d_G_absent_97
    · exact absurd c50 (by decide)
  · rw [show ((if (gp_fN np nt (ns + 1) (I 1) (gp_o1 ns x y (I, F))).1 11 < 1000000 then 1 else 0) : Int32) = 0 from if_neg hs47]
    refine lv_if_ne (tgt := 85) hx hb d_G_absent_50 (by decide) (fun c50 => ?_) (fun c50 => ?_)
    · exact absurd c50 (by decide)
    · have c50 := c50
      have nc50 : 0 = 0 := (nI_eq (a := 0) (b := 0) (by omega) (by omega)).mp c50
      have e2 : gp_abs np nt ns x y (I, F) = (-1, (upd (gp_la np nt (ns + 1) (I 1) (gp_fN np nt (ns + 1) (I 1) (gp_o1 ns x y (I, F)))).1 5 (nI ns), (gp_la np nt (ns + 1) (I 1) (gp_fN np nt (ns + 1) (I 1) (gp_o1 ns x y (I, F)))).2)) := if_neg hs47
      refine lv_aload_n hx hb d_G_absent_53 rfl (lv_at hl 0 rfl) ?_
      refine lv_aload_n hx hb d_G_absent_54 rfl (lv_at hl 0 rfl) ?_
      refine va_get (D := E.1) (cl := gp_cl) (ci := 0) (v := .ref (E.2.2.2 2)) (C := R_G) (T := T_G) (N := 8) hx hb hts i_G hown hK hP 0 rfl rfl 1 (by decide) (hts _ w1_118) (fun _ h9 => h9) rfl d_G_absent_55 ?_
      refine lv_aload_n hx hb d_G_absent_58 rfl (lv_at hl 0 rfl) ?_
      refine va_get (D := E.1) (cl := gp_cl) (ci := 0) (v := .ref (E.2.2.2 1)) (C := R_G) (T := T_G) (N := 8) hx hb hts i_G hown hK hP 0 rfl rfl 0 (by decide) (hts _ w1_117) (fun _ h9 => h9) rfl d_G_absent_59 ?_
      refine lv_aload_n hx hb d_G_absent_62 rfl (lv_at hl 0 rfl) ?_
      refine va_get (D := E.1) (cl := gp_cl) (ci := 0) (v := .ref (E.2.2.2 17)) (C := R_G) (T := T_G) (N := 8) hx hb hts i_G hown hK hP 0 rfl rfl 2 (by decide) (hts _ w1_119) (fun _ h9 => h9) rfl d_G_absent_63 ?_
      refine lv_aload_n hx hb d_G_absent_66 rfl (lv_at hl 0 rfl) ?_
      refine va_get (D := E.1) (cl := gp_cl) (ci := 0) (v := .int ((gp_fN np nt (ns + 1) (I 1) (gp_o1 ns x y (I, F))).1 1)) (C := R_G) (T := T_G) (N := 8) hx hb hts i_G hown hK hP 0 rfl rfl 5 (by decide) (hts _ w1_122) (fun _ h9 => h9) rfl d_G_absent_67 ?_
      rw [show ((gp_fN np nt (ns + 1) (I 1) (gp_o1 ns x y (I, F))).1 1) = (I 1) from (gp_fN_kq (σ := (gp_o1 ns x y (I, F)))).1 1 (by decide)]
      refine gp_cW (q0 := 2) (ci := 2) (As := [.ref (E.2.2.2 1), .ref (E.2.2.2 17), .int (I 1)]) (rest := [.ref (E.2.2.2 0)]) ⟨hx, hb, hml, hown, hts⟩ (c_S_firstLacking l E (gp_fN np nt (ns + 1) (I 1) (gp_o1 ns x y (I, F))).1 (gp_fN np nt (ns + 1) (I 1) (gp_o1 ns x y (I, F))).2 np nt (ns + 1) (I 1) (((gp_fN_kq (σ := (gp_o1 ns x y (I, F)))).1 4 (by decide)).trans hp4) (((gp_fN_kq (σ := (gp_o1 ns x y (I, F)))).1 6 (by decide)).trans hT) (((gp_fN_kq (σ := (gp_o1 ns x y (I, F)))).1 5 (by decide)).trans rfl) hnp hnt (by omega)) (k_G_108 hts ⟨by decide, by decide⟩ rfl rfl) hK hP hD hS hA rfl rfl rfl rfl hl.1 rfl (Nat.le_of_ble_eq_true rfl) d_G_absent_70 ⟨Nat.le_of_ble_eq_true rfl, Nat.le_of_ble_eq_true rfl⟩ (fun H locs hP hD hS => ?_)
      have hP : va_P E.1 gp_cl (gp_wG E (gp_fL np nt (ns + 1) (I 1) (gp_fN np nt (ns + 1) (I 1) (gp_o1 ns x y (I, F)))).2.1 (gp_fL np nt (ns + 1) (I 1) (gp_fN np nt (ns + 1) (I 1) (gp_o1 ns x y (I, F)))).2.2) H := hP
      have hD : va_D A (gp_wG E (gp_fL np nt (ns + 1) (I 1) (gp_fN np nt (ns + 1) (I 1) (gp_o1 ns x y (I, F)))).2.1 (gp_fL np nt (ns + 1) (I 1) (gp_fN np nt (ns + 1) (I 1) (gp_o1 ns x y (I, F)))).2.2) := hD
      refine W.eq (g2 := F0 xm 73 ls [.int (gp_fL np nt (ns + 1) (I 1) (gp_fN np nt (ns + 1) (I 1) (gp_o1 ns x y (I, F)))).1, .ref (E.2.2.2 0)]) rfl ?_
      refine va_put (D := E.1) (cl := gp_cl) (ci := 0) (v := .int (gp_fL np nt (ns + 1) (I 1) (gp_fN np nt (ns + 1) (I 1) (gp_o1 ns x y (I, F)))).1) (ty := .int) (C := R_G) (T := T_G) (N := 8) hx hb hts i_G t_G t_G_ok n_G hown hK hP hD hS 0 rfl rfl 6 (by decide) (hts _ w1_123) (fun _ h9 => h9) rfl (by decide +kernel) rfl rfl (Nat.le_of_ble_eq_true rfl) d_G_absent_73 (fun H locs hP hD hS => ?_)
      have hP : va_P E.1 gp_cl (gp_wG E (upd (gp_fL np nt (ns + 1) (I 1) (gp_fN np nt (ns + 1) (I 1) (gp_o1 ns x y (I, F)))).2.1 2 (gp_fL np nt (ns + 1) (I 1) (gp_fN np nt (ns + 1) (I 1) (gp_o1 ns x y (I, F)))).1) (gp_fL np nt (ns + 1) (I 1) (gp_fN np nt (ns + 1) (I 1) (gp_o1 ns x y (I, F)))).2.2) H := hP
      have hD : va_D A (gp_wG E (upd (gp_fL np nt (ns + 1) (I 1) (gp_fN np nt (ns + 1) (I 1) (gp_o1 ns x y (I, F)))).2.1 2 (gp_fL np nt (ns + 1) (I 1) (gp_fN np nt (ns + 1) (I 1) (gp_o1 ns x y (I, F)))).1) (gp_fL np nt (ns + 1) (I 1) (gp_fN np nt (ns + 1) (I 1) (gp_o1 ns x y (I, F)))).2.2) := hD
      refine lv_aload_n hx hb d_G_absent_76 rfl (lv_at hl 0 rfl) ?_
      refine va_get (D := E.1) (cl := gp_cl) (ci := 0) (v := .ref (E.2.2.2 1)) (C := R_G) (T := T_G) (N := 8) hx hb hts i_G hown hK hP 0 rfl rfl 0 (by decide) (hts _ w1_117) (fun _ h9 => h9) rfl d_G_absent_77 ?_
      refine gp_cW (q0 := 1) (ci := 1) (As := []) (rest := []) ⟨hx, hb, hml, hown, hts⟩ (c_D_dropLatestSpan l E (upd (gp_fL np nt (ns + 1) (I 1) (gp_fN np nt (ns + 1) (I 1) (gp_o1 ns x y (I, F)))).2.1 2 (gp_fL np nt (ns + 1) (I 1) (gp_fN np nt (ns + 1) (I 1) (gp_o1 ns x y (I, F)))).1) (gp_fL np nt (ns + 1) (I 1) (gp_fN np nt (ns + 1) (I 1) (gp_o1 ns x y (I, F)))).2.2 ns (((gp_fL_kq (σ := (gp_fN np nt (ns + 1) (I 1) (gp_o1 ns x y (I, F))))).1 5 (by decide)).trans (((gp_fN_kq (σ := (gp_o1 ns x y (I, F)))).1 5 (by decide)).trans rfl)) hns) (k_G_129 hts ⟨by decide, by decide⟩ rfl rfl) hK hP hD hS hA rfl rfl rfl rfl hl.1 rfl (Nat.le_of_ble_eq_true rfl) d_G_absent_80 ⟨Nat.le_of_ble_eq_true rfl, Nat.le_of_ble_eq_true rfl⟩ (fun H locs hP hD hS => ?_)
      have hP : va_P E.1 gp_cl (gp_wG E (upd (upd (gp_fL np nt (ns + 1) (I 1) (gp_fN np nt (ns + 1) (I 1) (gp_o1 ns x y (I, F)))).2.1 2 (gp_fL np nt (ns + 1) (I 1) (gp_fN np nt (ns + 1) (I 1) (gp_o1 ns x y (I, F)))).1) 5 (nI ns)) (gp_fL np nt (ns + 1) (I 1) (gp_fN np nt (ns + 1) (I 1) (gp_o1 ns x y (I, F)))).2.2) H := hP
      have hD : va_D A (gp_wG E (upd (upd (gp_fL np nt (ns + 1) (I 1) (gp_fN np nt (ns + 1) (I 1) (gp_o1 ns x y (I, F)))).2.1 2 (gp_fL np nt (ns + 1) (I 1) (gp_fN np nt (ns + 1) (I 1) (gp_o1 ns x y (I, F)))).1) 5 (nI ns)) (gp_fL np nt (ns + 1) (I 1) (gp_fN np nt (ns + 1) (I 1) (gp_o1 ns x y (I, F)))).2.2) := hD
      refine lv_iconst (v := (-1)) hx hb d_G_absent_83 (by decide) ?_
      exact gp_wi hx hb hr hlocks hAe (by rw [e2]) (by rw [e2]; exact hP) hS d_G_absent_84
set_option maxHeartbeats 4000000 in
set_option maxRecDepth 100000 in
theorem x_G_absent1 (l : Launch) (E : gp_E) (I : Nat → Int32) (F : Nat → Nat → Int32) (x y : Int32) (hlt : l.stackTraces = false) (h : gp_in x (I 4) = false) : gx_CT l y_G_absent b_G_absent 3 (some .int) 7 E (gp_wG E I F) [.ref (E.2.2.2 0), .int x, .int y] "java/util/NoSuchElementException" := by
  refine gx_ofT (by decide) (Nat.le_of_ble_eq_true rfl) ?_
  intro xp xe xs xm below meth xc ls hx hb hr hts hown hlocks hml hem hP hK hSt hl
  have hown : xs.vm.findClass "GuidePlans" = some xm.cls := hown
  have hl : lv_has ls 3 [(0, .ref (E.2.2.2 0)), (1, .int x), (2, .int y)] := hl
  refine lv_aload_n hx hb d_G_absent_0 rfl (lv_at hl 0 rfl) ?_
  refine lv_iload_n hx hb d_G_absent_1 rfl (lv_at hl 1 rfl) ?_
  exact gx_cV (q0 := 0) (ci := 0) (As := [.int x]) (rest := []) ⟨hx, hb, hml, hown, hts⟩ (x_G_requirePerson l E I F x hlt h) (k_G_63 hts ⟨by decide, by decide⟩ rfl rfl) hK hP hSt rfl rfl rfl hl.1 rfl (Nat.le_of_ble_eq_true rfl) d_G_absent_2 ⟨Nat.le_of_ble_eq_true rfl, Nat.le_of_ble_eq_true rfl⟩ hem hlocks
set_option maxHeartbeats 4000000 in
set_option maxRecDepth 100000 in
theorem x_G_absent2 (l : Launch) (E : gp_E) (I : Nat → Int32) (F : Nat → Nat → Int32) (x y : Int32) (hlt : l.stackTraces = false) (h : gp_in x (I 4) = true) (hs : ¬ (¬ y < 0 ∧ ¬ 96 ≤ y)) : gx_CT l y_G_absent b_G_absent 3 (some .int) 7 E (gp_wG E I F) [.ref (E.2.2.2 0), .int x, .int y] "java/lang/IllegalArgumentException" := by
  refine gx_ofT (by decide) (Nat.le_of_ble_eq_true rfl) ?_
  intro xp xe xs xm below meth xc ls hx hb hr hts hown hlocks hml hem hP hK hSt hl
  have hown : xs.vm.findClass "GuidePlans" = some xm.cls := hown
  have hl : lv_has ls 3 [(0, .ref (E.2.2.2 0)), (1, .int x), (2, .int y)] := hl
  refine lv_aload_n hx hb d_G_absent_0 rfl (lv_at hl 0 rfl) ?_
  refine lv_iload_n hx hb d_G_absent_1 rfl (lv_at hl 1 rfl) ?_
  refine gp_cV0 (q0 := 0) (ci := 0) (As := [.int x]) (rest := []) ⟨hx, hb, hml, hown, hts⟩ (c_G_requirePerson l E I F x h) (k_G_63 hts ⟨by decide, by decide⟩ rfl rfl) hK hP rfl rfl rfl hl.1 rfl (Nat.le_of_ble_eq_true rfl) d_G_absent_2 ⟨Nat.le_of_ble_eq_true rfl, Nat.le_of_ble_eq_true rfl⟩ ?_
  refine lv_aload_n hx hb d_G_absent_5 rfl (lv_at hl 0 rfl) ?_
  refine lv_iload_n hx hb d_G_absent_6 rfl (lv_at hl 2 rfl) ?_
  refine lv_bipush (v := 96) hx hb d_G_absent_7 (by decide) ?_
  exact gx_cV (q0 := 0) (ci := 0) (As := [.int y, .int 96]) (rest := []) ⟨hx, hb, hml, hown, hts⟩ (x_G_requireSpan l E I F y 96 hlt (fun q => hs ⟨q.1, q.2.1⟩)) (k_G_67 hts ⟨by decide, by decide⟩ rfl rfl) hK hP hSt rfl rfl rfl hl.1 rfl (Nat.le_of_ble_eq_true rfl) d_G_absent_9 ⟨Nat.le_of_ble_eq_true rfl, Nat.le_of_ble_eq_true rfl⟩ hem hlocks
set_option maxHeartbeats 4000000 in
set_option maxRecDepth 100000 in
theorem x_G_absent3 (l : Launch) (E : gp_E) (I : Nat → Int32) (F : Nat → Nat → Int32) (x y : Int32) (hlt : l.stackTraces = false) (h : gp_in x (I 4) = true) (s1 : ¬ y < 0) (s2 : ¬ 96 ≤ y) (hpl : I 3 = 0) : gx_CT l y_G_absent b_G_absent 3 (some .int) 7 E (gp_wG E I F) [.ref (E.2.2.2 0), .int x, .int y] "java/lang/IllegalStateException" := by
  refine gx_ofT (by decide) (Nat.le_of_ble_eq_true rfl) ?_
  intro xp xe xs xm below meth xc ls hx hb hr hts hown hlocks hml hem hP hK hSt hl
  have hown : xs.vm.findClass "GuidePlans" = some xm.cls := hown
  have hl : lv_has ls 3 [(0, .ref (E.2.2.2 0)), (1, .int x), (2, .int y)] := hl
  refine lv_aload_n hx hb d_G_absent_0 rfl (lv_at hl 0 rfl) ?_
  refine lv_iload_n hx hb d_G_absent_1 rfl (lv_at hl 1 rfl) ?_
  refine gp_cV0 (q0 := 0) (ci := 0) (As := [.int x]) (rest := []) ⟨hx, hb, hml, hown, hts⟩ (c_G_requirePerson l E I F x h) (k_G_63 hts ⟨by decide, by decide⟩ rfl rfl) hK hP rfl rfl rfl hl.1 rfl (Nat.le_of_ble_eq_true rfl) d_G_absent_2 ⟨Nat.le_of_ble_eq_true rfl, Nat.le_of_ble_eq_true rfl⟩ ?_
  refine lv_aload_n hx hb d_G_absent_5 rfl (lv_at hl 0 rfl) ?_
  refine lv_iload_n hx hb d_G_absent_6 rfl (lv_at hl 2 rfl) ?_
  refine lv_bipush (v := 96) hx hb d_G_absent_7 (by decide) ?_
  refine gp_cV0 (q0 := 0) (ci := 0) (As := [.int y, .int 96]) (rest := []) ⟨hx, hb, hml, hown, hts⟩ (c_G_requireSpan l E I F y 96 s1 s2 (by decide)) (k_G_67 hts ⟨by decide, by decide⟩ rfl rfl) hK hP rfl rfl rfl hl.1 rfl (Nat.le_of_ble_eq_true rfl) d_G_absent_9 ⟨Nat.le_of_ble_eq_true rfl, Nat.le_of_ble_eq_true rfl⟩ ?_
  refine lv_aload_n hx hb d_G_absent_12 rfl (lv_at hl 0 rfl) ?_
  exact gx_cV (q0 := 0) (ci := 0) (As := []) (rest := []) ⟨hx, hb, hml, hown, hts⟩ (x_G_requirePlan l E I F hlt hpl) (k_G_122 hts ⟨by decide, by decide⟩ rfl rfl) hK hP hSt rfl rfl rfl hl.1 rfl (Nat.le_of_ble_eq_true rfl) d_G_absent_13 ⟨Nat.le_of_ble_eq_true rfl, Nat.le_of_ble_eq_true rfl⟩ hem hlocks
set_option maxHeartbeats 4000000 in
set_option maxRecDepth 100000 in
theorem x_G_absent4 (l : Launch) (E : gp_E) (I : Nat → Int32) (F : Nat → Nat → Int32) (x y : Int32) (hlt : l.stackTraces = false) (h : gp_in x (I 4) = true) (s1 : ¬ y < 0) (s2 : ¬ 96 ≤ y) (hpl : ¬ I 3 = 0) (hN : I 5 = nI 20) : gx_CT l y_G_absent b_G_absent 3 (some .int) 7 E (gp_wG E I F) [.ref (E.2.2.2 0), .int x, .int y] "java/lang/IllegalStateException" := by
  refine gx_ofT (by decide) (Nat.le_of_ble_eq_true rfl) ?_
  intro xp xe xs xm below meth xc ls hx hb hr hts hown hlocks hml hem hP hK hSt hl
  have hown : xs.vm.findClass "GuidePlans" = some xm.cls := hown
  have hl : lv_has ls 3 [(0, .ref (E.2.2.2 0)), (1, .int x), (2, .int y)] := hl
  refine lv_aload_n hx hb d_G_absent_0 rfl (lv_at hl 0 rfl) ?_
  refine lv_iload_n hx hb d_G_absent_1 rfl (lv_at hl 1 rfl) ?_
  refine gp_cV0 (q0 := 0) (ci := 0) (As := [.int x]) (rest := []) ⟨hx, hb, hml, hown, hts⟩ (c_G_requirePerson l E I F x h) (k_G_63 hts ⟨by decide, by decide⟩ rfl rfl) hK hP rfl rfl rfl hl.1 rfl (Nat.le_of_ble_eq_true rfl) d_G_absent_2 ⟨Nat.le_of_ble_eq_true rfl, Nat.le_of_ble_eq_true rfl⟩ ?_
  refine lv_aload_n hx hb d_G_absent_5 rfl (lv_at hl 0 rfl) ?_
  refine lv_iload_n hx hb d_G_absent_6 rfl (lv_at hl 2 rfl) ?_
  refine lv_bipush (v := 96) hx hb d_G_absent_7 (by decide) ?_
  refine gp_cV0 (q0 := 0) (ci := 0) (As := [.int y, .int 96]) (rest := []) ⟨hx, hb, hml, hown, hts⟩ (c_G_requireSpan l E I F y 96 s1 s2 (by decide)) (k_G_67 hts ⟨by decide, by decide⟩ rfl rfl) hK hP rfl rfl rfl hl.1 rfl (Nat.le_of_ble_eq_true rfl) d_G_absent_9 ⟨Nat.le_of_ble_eq_true rfl, Nat.le_of_ble_eq_true rfl⟩ ?_
  refine lv_aload_n hx hb d_G_absent_12 rfl (lv_at hl 0 rfl) ?_
  refine gp_cV0 (q0 := 0) (ci := 0) (As := []) (rest := []) ⟨hx, hb, hml, hown, hts⟩ (c_G_requirePlan l E I F hpl) (k_G_122 hts ⟨by decide, by decide⟩ rfl rfl) hK hP rfl rfl rfl hl.1 rfl (Nat.le_of_ble_eq_true rfl) d_G_absent_13 ⟨Nat.le_of_ble_eq_true rfl, Nat.le_of_ble_eq_true rfl⟩ ?_
  refine lv_aload_n hx hb d_G_absent_16 rfl (lv_at hl 0 rfl) ?_
  exact gx_cV (q0 := 0) (ci := 0) (As := []) (rest := []) ⟨hx, hb, hml, hown, hts⟩ (x_G_requireRoomForSpan l E I F hlt hN) (k_G_71 hts ⟨by decide, by decide⟩ rfl rfl) hK hP hSt rfl rfl rfl hl.1 rfl (Nat.le_of_ble_eq_true rfl) d_G_absent_17 ⟨Nat.le_of_ble_eq_true rfl, Nat.le_of_ble_eq_true rfl⟩ hem hlocks
set_option maxHeartbeats 4000000 in
set_option maxRecDepth 100000 in
theorem x_G_swap1 (l : Launch) (E : gp_E) (I : Nat → Int32) (F : Nat → Nat → Int32) (x y : Int32) (hlt : l.stackTraces = false) (h : gp_in x (I 6) = false) : gx_CT l y_G_swap b_G_swap 6 (some .int) 7 E (gp_wG E I F) [.ref (E.2.2.2 0), .int x, .int y] "java/util/NoSuchElementException" := by
  refine gx_ofT (by decide) (Nat.le_of_ble_eq_true rfl) ?_
  intro xp xe xs xm below meth xc ls hx hb hr hts hown hlocks hml hem hP hK hSt hl
  have hown : xs.vm.findClass "GuidePlans" = some xm.cls := hown
  have hl : lv_has ls 6 [(0, .ref (E.2.2.2 0)), (1, .int x), (2, .int y)] := hl
  refine lv_aload_n hx hb d_G_swap_0 rfl (lv_at hl 0 rfl) ?_
  refine lv_iload_n hx hb d_G_swap_1 rfl (lv_at hl 1 rfl) ?_
  exact gx_cV (q0 := 0) (ci := 0) (As := [.int x]) (rest := []) ⟨hx, hb, hml, hown, hts⟩ (x_G_requireTask l E I F x hlt h) (k_G_119 hts ⟨by decide, by decide⟩ rfl rfl) hK hP hSt rfl rfl rfl hl.1 rfl (Nat.le_of_ble_eq_true rfl) d_G_swap_2 ⟨Nat.le_of_ble_eq_true rfl, Nat.le_of_ble_eq_true rfl⟩ hem hlocks
set_option maxHeartbeats 4000000 in
set_option maxRecDepth 100000 in
theorem x_G_swap2 (l : Launch) (E : gp_E) (I : Nat → Int32) (F : Nat → Nat → Int32) (x y : Int32) (hlt : l.stackTraces = false) (h1 : gp_in x (I 6) = true) (h : gp_in y (I 6) = false) : gx_CT l y_G_swap b_G_swap 6 (some .int) 7 E (gp_wG E I F) [.ref (E.2.2.2 0), .int x, .int y] "java/util/NoSuchElementException" := by
  refine gx_ofT (by decide) (Nat.le_of_ble_eq_true rfl) ?_
  intro xp xe xs xm below meth xc ls hx hb hr hts hown hlocks hml hem hP hK hSt hl
  have hown : xs.vm.findClass "GuidePlans" = some xm.cls := hown
  have hl : lv_has ls 6 [(0, .ref (E.2.2.2 0)), (1, .int x), (2, .int y)] := hl
  refine lv_aload_n hx hb d_G_swap_0 rfl (lv_at hl 0 rfl) ?_
  refine lv_iload_n hx hb d_G_swap_1 rfl (lv_at hl 1 rfl) ?_
  refine gp_cV0 (q0 := 0) (ci := 0) (As := [.int x]) (rest := []) ⟨hx, hb, hml, hown, hts⟩ (c_G_requireTask l E I F x h1) (k_G_119 hts ⟨by decide, by decide⟩ rfl rfl) hK hP rfl rfl rfl hl.1 rfl (Nat.le_of_ble_eq_true rfl) d_G_swap_2 ⟨Nat.le_of_ble_eq_true rfl, Nat.le_of_ble_eq_true rfl⟩ ?_
  refine lv_aload_n hx hb d_G_swap_5 rfl (lv_at hl 0 rfl) ?_
  refine lv_iload_n hx hb d_G_swap_6 rfl (lv_at hl 2 rfl) ?_
  exact gx_cV (q0 := 0) (ci := 0) (As := [.int y]) (rest := []) ⟨hx, hb, hml, hown, hts⟩ (x_G_requireTask l E I F y hlt h) (k_G_119 hts ⟨by decide, by decide⟩ rfl rfl) hK hP hSt rfl rfl rfl hl.1 rfl (Nat.le_of_ble_eq_true rfl) d_G_swap_7 ⟨Nat.le_of_ble_eq_true rfl, Nat.le_of_ble_eq_true rfl⟩ hem hlocks
set_option maxHeartbeats 4000000 in
set_option maxRecDepth 100000 in
theorem x_G_swap3 (l : Launch) (E : gp_E) (I : Nat → Int32) (F : Nat → Nat → Int32) (x y : Int32) (hlt : l.stackTraces = false) (h1 : gp_in x (I 6) = true) (h : gp_in y (I 6) = true) (hpl : I 3 = 0) : gx_CT l y_G_swap b_G_swap 6 (some .int) 7 E (gp_wG E I F) [.ref (E.2.2.2 0), .int x, .int y] "java/lang/IllegalStateException" := by
  refine gx_ofT (by decide) (Nat.le_of_ble_eq_true rfl) ?_
  intro xp xe xs xm below meth xc ls hx hb hr hts hown hlocks hml hem hP hK hSt hl
  have hown : xs.vm.findClass "GuidePlans" = some xm.cls := hown
  have hl : lv_has ls 6 [(0, .ref (E.2.2.2 0)), (1, .int x), (2, .int y)] := hl
  refine lv_aload_n hx hb d_G_swap_0 rfl (lv_at hl 0 rfl) ?_
  refine lv_iload_n hx hb d_G_swap_1 rfl (lv_at hl 1 rfl) ?_
  refine gp_cV0 (q0 := 0) (ci := 0) (As := [.int x]) (rest := []) ⟨hx, hb, hml, hown, hts⟩ (c_G_requireTask l E I F x h1) (k_G_119 hts ⟨by decide, by decide⟩ rfl rfl) hK hP rfl rfl rfl hl.1 rfl (Nat.le_of_ble_eq_true rfl) d_G_swap_2 ⟨Nat.le_of_ble_eq_true rfl, Nat.le_of_ble_eq_true rfl⟩ ?_
  refine lv_aload_n hx hb d_G_swap_5 rfl (lv_at hl 0 rfl) ?_
  refine lv_iload_n hx hb d_G_swap_6 rfl (lv_at hl 2 rfl) ?_
  refine gp_cV0 (q0 := 0) (ci := 0) (As := [.int y]) (rest := []) ⟨hx, hb, hml, hown, hts⟩ (c_G_requireTask l E I F y h) (k_G_119 hts ⟨by decide, by decide⟩ rfl rfl) hK hP rfl rfl rfl hl.1 rfl (Nat.le_of_ble_eq_true rfl) d_G_swap_7 ⟨Nat.le_of_ble_eq_true rfl, Nat.le_of_ble_eq_true rfl⟩ ?_
  refine lv_aload_n hx hb d_G_swap_10 rfl (lv_at hl 0 rfl) ?_
  exact gx_cV (q0 := 0) (ci := 0) (As := []) (rest := []) ⟨hx, hb, hml, hown, hts⟩ (x_G_requirePlan l E I F hlt hpl) (k_G_122 hts ⟨by decide, by decide⟩ rfl rfl) hK hP hSt rfl rfl rfl hl.1 rfl (Nat.le_of_ble_eq_true rfl) d_G_swap_11 ⟨Nat.le_of_ble_eq_true rfl, Nat.le_of_ble_eq_true rfl⟩ hem hlocks
