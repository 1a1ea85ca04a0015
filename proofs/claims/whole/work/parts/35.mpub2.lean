/-! ===== the reference: run, absent, swap, fair, count ===== -/
def gm_kq (σ τ : gp_S) : Prop := (∀ i, i < 10 → τ.1 i = σ.1 i) ∧ ∀ a, a ≠ 9 → a ≠ 10 → τ.2 a = σ.2 a
theorem gm_s1_k {np nt ns : Nat} {cz : Int32} {i : Nat} {σ : gp_S} : gm_kq σ (gm_s1 np nt ns cz i σ) := by
  unfold gm_s1
  split
  · split
    · refine ⟨fun i hi => ?_, fun a h9 h10 => ?_⟩
      · simp [gm_kn, gm_J2, upd, show i ≠ 10 by omega, show i ≠ 11 by omega, show i ≠ 12 by omega, show i ≠ 13 by omega]
      · exact (gp_uF_ne h10).trans (gp_uF_ne h9)
    · refine ⟨fun i hi => ?_, fun a h9 h10 => gp_uF_ne h9⟩
      simp [gm_J2, upd, show i ≠ 13 by omega]
  · exact ⟨fun _ _ => rfl, fun a h9 _ => gp_uF_ne h9⟩
theorem gm_sk_k {np nt ns : Nat} {cz : Int32} {σ : gp_S} : ∀ i, gm_kq σ (gm_sk np nt ns cz σ i) := by
  intro i
  induction i with
  | zero => exact ⟨fun _ _ => rfl, fun _ _ _ => rfl⟩
  | succ i ih =>
    have h := gm_s1_k (np := np) (nt := nt) (ns := ns) (cz := cz) (i := i) (σ := gm_sk np nt ns cz σ i)
    exact ⟨fun j hj => (h.1 j hj).trans (ih.1 j hj), fun a h9 h10 => (h.2 a h9 h10).trans (ih.2 a h9 h10)⟩
theorem gm_se_k {np nt ns : Nat} {cz : Int32} {σ : gp_S} : gm_kq σ (gm_se np nt ns cz σ) := by
  have h := gm_sk_k (np := np) (nt := nt) (ns := ns) (cz := cz) (σ := (upd (upd σ.1 10 0) 13 (-1), σ.2)) ((np + 1) ^ nt)
  exact ⟨fun j hj => (h.1 j hj).trans (by simp [upd, show j ≠ 10 by omega, show j ≠ 13 by omega]), h.2⟩
theorem gm_te_k {nt : Nat} {σ : gp_S} {j : Nat} (hj : j ≠ 8) : (gm_te nt σ).1 j = σ.1 j := by simp [gm_te, upd, hj]
def gm_r1 (np nt ns : Nat) (σ : gp_S) : gp_S := gm_te nt (gm_se np nt ns 0 (upd σ.1 0 0, gp_uF σ.2 11 (fun j => if j < 6 then 0 else σ.2 11 j)))
theorem gm_r1_k {np nt ns : Nat} {σ : gp_S} {j : Nat} (h1 : j < 10) (h2 : j ≠ 8) (h3 : j ≠ 0) : (gm_r1 np nt ns σ).1 j = σ.1 j := (gm_te_k h2).trans ((gm_se_k.1 j h1).trans (by simp [upd, h3]))
def gm_ad (nt : Nat) (σ : gp_S) : gp_S := (σ.1, gp_uF σ.2 8 (fun j => if j < nt then σ.2 10 j else σ.2 8 j))
def gm_run (np nt ns : Nat) (σ : gp_S) : Int32 × gp_S := if (gm_r1 np nt ns σ).1 10 = 0 then (-1, gm_r1 np nt ns σ) else ((gm_r1 np nt ns σ).1 12, (upd (gm_r1 np nt ns σ).1 4 1, gp_uF (gm_r1 np nt ns σ).2 8 (fun j => if j < nt then (gm_r1 np nt ns σ).2 10 j else (gm_r1 np nt ns σ).2 8 j)))
def gm_kf (nt : Nat) (σ : gp_S) : Nat → Int32 := fun j => if j < nt then (if σ.2 5 j < σ.1 7 then 1 else 0) else σ.2 11 j
def gm_o1 (ns : Nat) (x y : Int32) (σ : gp_S) : gp_S := (upd (upd σ.1 0 0) 2 (nI (ns + 1)), gp_uF (gp_uF (gp_uF σ.2 1 (upd (σ.2 1) ns x)) 2 (upd (σ.2 2) ns y)) 3 (upd (σ.2 3) ns 96))
def gm_a1 (np nt ns : Nat) (x y : Int32) (σ : gp_S) : gp_S := gm_te nt (gm_se np nt (ns + 1) 1 ((gm_o1 ns x y σ).1, gp_uF (gm_o1 ns x y σ).2 11 (gm_kf nt (gm_o1 ns x y σ))))
theorem gm_a1_k {np nt ns : Nat} {x y : Int32} {σ : gp_S} {j : Nat} (h1 : j < 10) (h2 : j ≠ 8) : (gm_a1 np nt ns x y σ).1 j = (gm_o1 ns x y σ).1 j := (gm_te_k h2).trans (gm_se_k.1 j h1)
def gm_nc (F : Nat → Nat → Int32) : Nat → Nat × (Nat → Int32)
  | 0 => (0, F 12)
  | k + 1 => if F 10 k = F 8 k then gm_nc F k else ((gm_nc F k).1 + 1, upd (gm_nc F k).2 (gm_nc F k).1 (nI k))
theorem gm_nc_le {F : Nat → Nat → Int32} : ∀ k, (gm_nc F k).1 ≤ k := by
  intro k
  induction k with
  | zero => exact Nat.le_refl _
  | succ k ih =>
    rw [gm_nc]
    split
    · omega
    · show (gm_nc F k).1 + 1 ≤ k + 1
      omega
def gm_abs (np nt ns : Nat) (x y : Int32) (σ : gp_S) : Int32 × gp_S := if (gm_a1 np nt ns x y σ).1 10 = 0 then (-1, (upd (gm_a1 np nt ns x y σ).1 2 (nI ns), (gm_a1 np nt ns x y σ).2))
  else (nI (gm_nc (gm_a1 np nt ns x y σ).2 nt).1, (upd (gm_a1 np nt ns x y σ).1 9 (nI (gm_nc (gm_a1 np nt ns x y σ).2 nt).1), gp_uF (gp_uF (gm_a1 np nt ns x y σ).2 12 (gm_nc (gm_a1 np nt ns x y σ).2 nt).2) 8 (fun j => if j < nt then (gm_a1 np nt ns x y σ).2 10 j else (gm_a1 np nt ns x y σ).2 8 j)))
def gm_fw (f : Nat → Int32) (nt : Nat) : Nat → Int32
  | 0 => 99
  | k + 1 => if gp_nu f (nI k) nt < gm_fw f nt k then gp_nu f (nI k) nt else gm_fw f nt k
def gm_sF (F : Nat → Nat → Int32) (nt a b : Nat) : Nat → Nat → Int32 := gp_uF F 9 (upd (upd (fun j => if j < nt then F 8 j else F 9 j) a (F 8 b)) b (F 8 a))
def gm_n2 (I : Nat → Int32) (G : Nat → Nat → Int32) (x : Int32) (nt : Nat) : Bool := !decide (x = -1) && gm_h2 (I 5) G x nt
def gm_l2 (I : Nat → Int32) (G : Nat → Nat → Int32) (x : Int32) (nt : Nat) : Bool := !decide (x = -1) && decide (I 6 < gm_q G x nt)
def gm_swr (I : Nat → Int32) (F : Nat → Nat → Int32) (ns nt a b : Nat) : Int32 :=
  if F 5 a < I 7 ∨ F 5 b < I 7 then 1 else if gm_emp F a (F 8 b) = true ∨ gm_emp F b (F 8 a) = true then 2 else if gm_unf F ns (F 8 b) a = true ∨ gm_unf F ns (F 8 a) b = true then 3
  else if gm_n2 I (gm_sF F nt a b) (F 8 a) nt = true ∨ gm_n2 I (gm_sF F nt a b) (F 8 b) nt = true then 4 else if gm_l2 I (gm_sF F nt a b) (F 8 a) nt = true ∨ gm_l2 I (gm_sF F nt a b) (F 8 b) nt = true then 5 else 0
def gm_sw (I : Nat → Int32) (F : Nat → Nat → Int32) (ns nt a b : Nat) : Nat → Nat → Int32 := if gm_swr I F ns nt a b = 0 then gp_uF (gm_sF F nt a b) 8 (upd (upd (F 8) a (F 8 b)) b (F 8 a)) else gm_sF F nt a b
set_option maxHeartbeats 4000000 in
set_option maxRecDepth 100000 in
theorem c_M_run (l : Launch) (E : gp_E) (I : Nat → Int32) (F : Nat → Nat → Int32) (np nt ns : Nat) (hp4 : I 1 = nI np) (hT : I 3 = nI nt) (hN : I 2 = nI ns) (hnp : np ≤ 4) (hnt : nt ≤ 6) (hns : ns ≤ 20) : gp_CW l y_M_run b_M_run 2 (some .int) 5 E (gp_wM E I F) (gp_wM E (gm_run np nt ns (I, F)).2.1 (gm_run np nt ns (I, F)).2.2) [.ref (E.2.2.2 0)] (some (.int (gm_run np nt ns (I, F)).1)) := by
  refine gp_ofW (by decide) (Nat.le_of_ble_eq_true rfl) ?_
  intro xp xe xs xm below meth xc ls A hx hb hr hts hown hlocks hml hP hK hD hA hAe hl
  have hS : va_S A xs.heap xs.heap [] := va_S.rf
  have hown : xs.vm.findClass "GuidePlansModel" = some xm.cls := hown
  have hl : lv_has ls 2 [(0, .ref (E.2.2.2 0))] := hl
  refine lv_aload_n hx hb d_M_run_0 rfl (lv_at hl 0 rfl) ?_
  refine lv_iconst (v := 0) hx hb d_M_run_1 (by decide) ?_
  refine va_put (D := E.1) (cl := gp_cl) (ci := 3) (v := .int 0) (ty := .int) (C := R_M) (T := T_M) (N := 27) hx hb hts i_M t_M t_M_ok n_M hown hK hP hD hS 0 rfl rfl 0 (by decide) (hts _ w3_52) (fun _ h9 => h9) rfl (by decide +kernel) rfl rfl (Nat.le_of_ble_eq_true rfl) d_M_run_2 (fun H locs hP hD hS => ?_)
  have hP : va_P E.1 gp_cl (gp_wM E (upd I 0 0) F) H := hP
  have hD : va_D A (gp_wM E (upd I 0 0) F) := hD
  refine lv_iconst (v := 0) hx hb d_M_run_5 (by decide) ?_
  refine lv_istore_n (lv' := [(1, .int 0), (0, .ref (E.2.2.2 0))]) hx hb d_M_run_6 rfl hl (by decide) rfl (fun ls hl => ?_)
  have L7 : ∀ (n : Nat) (t : Nat), t ≤ 6 → 7 ≤ t + n → ∀ (ls : Array Slot) (H : Heap) (locs : List Loc), lv_has ls 2 [(1, .int (nI t)), (0, .ref (E.2.2.2 0))] → va_P E.1 gp_cl (gp_wM E (upd I 0 0) (gp_uF F 11 (fun j => if j < t then 0 else F 11 j))) H → va_D A (gp_wM E (upd I 0 0) (gp_uF F 11 (fun j => if j < t then 0 else F 11 j))) → va_S A xs.heap H locs → W xp l xe (gp_rm 5 0 0) xs xm ([.ref (E.2.2.2 0)] : List Value).toArray below meth xc H locs 0 0 (MQ below (gp_QW E (some (.int (gm_run np nt ns (I, F)).1)) (gp_wM E I F) (gp_wM E (gm_run np nt ns (I, F)).2.1 (gm_run np nt ns (I, F)).2.2) xs.heap.size) ([.ref (E.2.2.2 0)] : List Value).toArray xs 0 0 A) (F0 xm 7 ls []) := by
    intro n
    induction n with
    | zero =>
      intro t h1 hm
      exact absurd hm (by omega)
    | succ n ih7 =>
      intro t h1 hm ls H locs hl hP hD hS
      refine lv_iload_n hx hb d_M_run_7 rfl (lv_at hl 0 rfl) ?_
      refine lv_bipush (v := 6) hx hb d_M_run_8 (by decide) ?_
      refine lv_icmp_ge (tgt := 26) hx hb d_M_run_10 (by decide) (fun c10 => ?_) (fun c10 => ?_)
      · have c10 := c10
        have nc10 : 6 ≤ t := (nI_leI (a := 6) (b := t) (by omega) (by omega)).mp c10
        have hte : t = 6 := by omega
        subst hte
        refine lv_aload_n hx hb d_M_run_26 rfl (lv_at hl 1 rfl) ?_
        refine lv_iconst (v := 0) hx hb d_M_run_27 (by decide) ?_
        refine gp_cW (q0 := 0) (ci := 3) (As := [.int 0]) (rest := []) ⟨hx, hb, hml, hown, hts⟩ (c_M_seek l E (upd I 0 0) (gp_uF F 11 (fun j => if j < 6 then 0 else F 11 j)) np nt ns 0 hp4 hT hN hnp hnt hns) (k_M_139 hts ⟨by decide, by decide⟩ rfl rfl) hK hP hD hS hA rfl rfl rfl rfl hl.1 rfl (Nat.le_of_ble_eq_true rfl) d_M_run_28 ⟨Nat.le_of_ble_eq_true rfl, Nat.le_of_ble_eq_true rfl⟩ (fun H locs hP hD hS => ?_)
        have hP : va_P E.1 gp_cl (gp_wM E (gm_se np nt ns 0 (upd I 0 0, (gp_uF F 11 (fun j => if j < 6 then 0 else F 11 j)))).1 (gm_se np nt ns 0 (upd I 0 0, (gp_uF F 11 (fun j => if j < 6 then 0 else F 11 j)))).2) H := hP
        have hD : va_D A (gp_wM E (gm_se np nt ns 0 (upd I 0 0, (gp_uF F 11 (fun j => if j < 6 then 0 else F 11 j)))).1 (gm_se np nt ns 0 (upd I 0 0, (gp_uF F 11 (fun j => if j < 6 then 0 else F 11 j)))).2) := hD
        refine lv_aload_n hx hb d_M_run_31 rfl (lv_at hl 1 rfl) ?_
        refine gp_cW (q0 := 0) (ci := 3) (As := []) (rest := []) ⟨hx, hb, hml, hown, hts⟩ (c_M_tell l E (gm_se np nt ns 0 (upd I 0 0, (gp_uF F 11 (fun j => if j < 6 then 0 else F 11 j)))).1 (gm_se np nt ns 0 (upd I 0 0, (gp_uF F 11 (fun j => if j < 6 then 0 else F 11 j)))).2 nt ((gm_se_k.1 3 (by decide)).trans hT) hnt) (k_M_143 hts ⟨by decide, by decide⟩ rfl rfl) hK hP hD hS hA rfl rfl rfl rfl hl.1 rfl (Nat.le_of_ble_eq_true rfl) d_M_run_32 ⟨Nat.le_of_ble_eq_true rfl, Nat.le_of_ble_eq_true rfl⟩ (fun H locs hP hD hS => ?_)
        have hP : va_P E.1 gp_cl (gp_wM E (gm_r1 np nt ns (I, F)).1 (gm_r1 np nt ns (I, F)).2) H := hP
        have hD : va_D A (gp_wM E (gm_r1 np nt ns (I, F)).1 (gm_r1 np nt ns (I, F)).2) := hD
        have hX3 : (gm_r1 np nt ns (I, F)).1 3 = nI nt := (gm_r1_k (by decide) (by decide) (by decide)).trans hT
        refine lv_aload_n hx hb d_M_run_35 rfl (lv_at hl 1 rfl) ?_
        refine va_get (D := E.1) (cl := gp_cl) (ci := 3) (v := .int ((gm_r1 np nt ns (I, F)).1 10)) (C := R_M) (T := T_M) (N := 27) hx hb hts i_M hown hK hP 0 rfl rfl 23 (by decide) (hts _ w3_75) (fun _ h9 => h9) rfl d_M_run_36 ?_
        refine lv_if_ne (tgt := 44) hx hb d_M_run_39 (by decide) (fun c39 => ?_) (fun c39 => ?_)
        · have c39 := c39
          have e2 : gm_run np nt ns (I, F) = ((gm_r1 np nt ns (I, F)).1 12, (upd (gm_r1 np nt ns (I, F)).1 4 1, gp_uF (gm_r1 np nt ns (I, F)).2 8 (fun j => if j < nt then (gm_r1 np nt ns (I, F)).2 10 j else (gm_r1 np nt ns (I, F)).2 8 j))) := if_neg c39
          refine lv_iconst (v := 0) hx hb d_M_run_44 (by decide) ?_
          refine lv_istore_n (lv' := [(1, .int 0), (0, .ref (E.2.2.2 0))]) hx hb d_M_run_45 rfl hl (by decide) rfl (fun ls hl => ?_)
          have L46 : ∀ (n : Nat) (t : Nat), t ≤ nt → nt + 1 ≤ t + n → ∀ (ls : Array Slot) (H : Heap) (locs : List Loc), lv_has ls 2 [(1, .int (nI t)), (0, .ref (E.2.2.2 0))] → va_P E.1 gp_cl (gp_wM E (gm_r1 np nt ns (I, F)).1 (gp_uF (gm_r1 np nt ns (I, F)).2 8 (fun j => if j < t then (gm_r1 np nt ns (I, F)).2 10 j else (gm_r1 np nt ns (I, F)).2 8 j))) H → va_D A (gp_wM E (gm_r1 np nt ns (I, F)).1 (gp_uF (gm_r1 np nt ns (I, F)).2 8 (fun j => if j < t then (gm_r1 np nt ns (I, F)).2 10 j else (gm_r1 np nt ns (I, F)).2 8 j))) → va_S A xs.heap H locs → W xp l xe (gp_rm 5 0 0) xs xm ([.ref (E.2.2.2 0)] : List Value).toArray below meth xc H locs 0 0 (MQ below (gp_QW E (some (.int (gm_run np nt ns (I, F)).1)) (gp_wM E I F) (gp_wM E (gm_run np nt ns (I, F)).2.1 (gm_run np nt ns (I, F)).2.2) xs.heap.size) ([.ref (E.2.2.2 0)] : List Value).toArray xs 0 0 A) (F0 xm 46 ls []) := by
            intro n
            induction n with
            | zero =>
              intro t h1 hm
              exact absurd hm (by omega)
            | succ n ih46 =>
              intro t h1 hm ls H locs hl hP hD hS
              refine lv_iload_n hx hb d_M_run_46 rfl (lv_at hl 0 rfl) ?_
              refine lv_aload_n hx hb d_M_run_47 rfl (lv_at hl 1 rfl) ?_
              refine va_get (D := E.1) (cl := gp_cl) (ci := 3) (v := .int (nI nt)) (C := R_M) (T := T_M) (N := 27) hx hb hts i_M hown hK hP 0 rfl rfl 7 (by decide) (hts _ w3_59) (fun _ h9 => h9) (congrArg (fun z => some (Value.int z)) hX3) d_M_run_48 ?_
              refine lv_icmp_ge (tgt := 72) hx hb d_M_run_51 (by decide) (fun c51 => ?_) (fun c51 => ?_)
              · have c51 := c51
                have nc51 : nt ≤ t := (nI_leI (a := nt) (b := t) (by omega) (by omega)).mp c51
                have hte : nt = t := by omega
                subst hte
                refine lv_aload_n hx hb d_M_run_72 rfl (lv_at hl 1 rfl) ?_
                refine lv_iconst (v := 1) hx hb d_M_run_73 (by decide) ?_
                refine va_put (D := E.1) (cl := gp_cl) (ci := 3) (v := .int 1) (ty := .boolean) (C := R_M) (T := T_M) (N := 27) hx hb hts i_M t_M t_M_ok n_M hown hK hP hD hS 0 rfl rfl 16 (by decide) (hts _ w3_68) (fun _ h9 => h9) rfl (by decide +kernel) rfl rfl (Nat.le_of_ble_eq_true rfl) d_M_run_74 (fun H locs hP hD hS => ?_)
                have hP : va_P E.1 gp_cl (gp_wM E (upd (gm_r1 np nt ns (I, F)).1 4 1) (gp_uF (gm_r1 np nt ns (I, F)).2 8 (fun j => if j < nt then (gm_r1 np nt ns (I, F)).2 10 j else (gm_r1 np nt ns (I, F)).2 8 j))) H := hP
                have hD : va_D A (gp_wM E (upd (gm_r1 np nt ns (I, F)).1 4 1) (gp_uF (gm_r1 np nt ns (I, F)).2 8 (fun j => if j < nt then (gm_r1 np nt ns (I, F)).2 10 j else (gm_r1 np nt ns (I, F)).2 8 j))) := hD
                refine lv_aload_n hx hb d_M_run_77 rfl (lv_at hl 1 rfl) ?_
                refine va_get (D := E.1) (cl := gp_cl) (ci := 3) (v := .int ((gm_r1 np nt ns (I, F)).1 12)) (C := R_M) (T := T_M) (N := 27) hx hb hts i_M hown hK hP 0 rfl rfl 25 (by decide) (hts _ w3_77) (fun _ h9 => h9) rfl d_M_run_78 ?_
                exact gp_wi hx hb hr hlocks hAe (by rw [e2] <;> rfl) (by rw [e2]; exact hP) hS d_M_run_81
              · have c51 := c51
                have nc51 : ¬ nt ≤ t := fun h => c51 ((nI_leI (a := nt) (b := t) (by omega) (by omega)).mpr h)
                refine lv_aload_n hx hb d_M_run_54 rfl (lv_at hl 1 rfl) ?_
                refine va_get (D := E.1) (cl := gp_cl) (ci := 3) (v := .ref (E.2.2.2 9)) (C := R_M) (T := T_M) (N := 27) hx hb hts i_M hown hK hP 0 rfl rfl 12 (by decide) (hts _ w3_64) (fun _ h9 => h9) rfl d_M_run_55 ?_
                refine lv_iload_n hx hb d_M_run_58 rfl (lv_at hl 0 rfl) ?_
                refine lv_aload_n hx hb d_M_run_59 rfl (lv_at hl 1 rfl) ?_
                refine va_get (D := E.1) (cl := gp_cl) (ci := 3) (v := .ref (E.2.2.2 11)) (C := R_M) (T := T_M) (N := 27) hx hb hts i_M hown hK hP 0 rfl rfl 14 (by decide) (hts _ w3_66) (fun _ h9 => h9) rfl d_M_run_60 ?_
                refine lv_iload_n hx hb d_M_run_63 rfl (lv_at hl 0 rfl) ?_
                refine gp_ald (f := ((gm_r1 np nt ns (I, F)).2 10)) (n := 6) hx hb hK hP 11 rfl (t) rfl (by omega) (by decide) d_M_run_64 ?_
                refine gp_ast (f := (fun j => if j < t then (gm_r1 np nt ns (I, F)).2 10 j else (gm_r1 np nt ns (I, F)).2 8 j)) (n := 6) hx hb hK hP hD hS 9 rfl (t) rfl (by omega) (by decide) d_M_run_65 (fun H locs hP hD hS => ?_)
                have hP : va_P E.1 gp_cl (gp_wM E (gm_r1 np nt ns (I, F)).1 (gp_uF (gp_uF (gm_r1 np nt ns (I, F)).2 8 (fun j => if j < t then (gm_r1 np nt ns (I, F)).2 10 j else (gm_r1 np nt ns (I, F)).2 8 j)) 8 (upd (fun j => if j < t then (gm_r1 np nt ns (I, F)).2 10 j else (gm_r1 np nt ns (I, F)).2 8 j) (t) (((gm_r1 np nt ns (I, F)).2 10) (t))))) H := hP
                have hD : va_D A (gp_wM E (gm_r1 np nt ns (I, F)).1 (gp_uF (gp_uF (gm_r1 np nt ns (I, F)).2 8 (fun j => if j < t then (gm_r1 np nt ns (I, F)).2 10 j else (gm_r1 np nt ns (I, F)).2 8 j)) 8 (upd (fun j => if j < t then (gm_r1 np nt ns (I, F)).2 10 j else (gm_r1 np nt ns (I, F)).2 8 j) (t) (((gm_r1 np nt ns (I, F)).2 10) (t))))) := hD
                refine lv_iinc (v := (nI (t + 1))) (lv' := [(1, .int (nI (t + 1))), (0, .ref (E.2.2.2 0))]) hx hb d_M_run_66 hl (k := 0) rfl (nI_1 _) (by decide) rfl (fun ls hl => ?_)
                refine lv_goto (tgt := 46) hx hb d_M_run_69 (by decide) ?_
                exact ih46 (t + 1) (by omega) (by omega) ls _ _ (lv_sub hl [0, 1] rfl) (by rw [← gp_up1 (h := (gm_r1 np nt ns (I, F)).2 10) (k := (gm_r1 np nt ns (I, F)).2 8) rfl]; exact hP) (gp_dd hD rfl) hS
          exact L46 (nt + 1) 0 (Nat.zero_le _) (by omega) ls _ _ (lv_sub hl [0, 1] rfl) (by rw [gp_cp0 (g := (gm_r1 np nt ns (I, F)).2 10)]; exact hP) (gp_dd hD rfl) hS
        · have c39 := c39
          have e2 : gm_run np nt ns (I, F) = (-1, (gm_r1 np nt ns (I, F))) := if_pos c39
          refine lv_iconst (v := (-1)) hx hb d_M_run_42 (by decide) ?_
          exact gp_wi hx hb hr hlocks hAe (by rw [e2] <;> rfl) (by rw [e2]; exact hP) hS d_M_run_43
      · have c10 := c10
        have nc10 : ¬ 6 ≤ t := fun h => c10 ((nI_leI (a := 6) (b := t) (by omega) (by omega)).mpr h)
        refine lv_aload_n hx hb d_M_run_13 rfl (lv_at hl 1 rfl) ?_
        refine va_get (D := E.1) (cl := gp_cl) (ci := 3) (v := .ref (E.2.2.2 12)) (C := R_M) (T := T_M) (N := 27) hx hb hts i_M hown hK hP 0 rfl rfl 15 (by decide) (hts _ w3_67) (fun _ h9 => h9) rfl d_M_run_14 ?_
        refine lv_iload_n hx hb d_M_run_17 rfl (lv_at hl 0 rfl) ?_
        refine lv_iconst (v := 0) hx hb d_M_run_18 (by decide) ?_
        refine gp_zst (f := (fun j => if j < t then 0 else F 11 j)) (n := 6) hx hb hK hP hD hS 12 rfl (t) rfl (by omega) (by decide) rfl d_M_run_19 (fun H locs hP hD hS => ?_)
        have hP : va_P E.1 gp_cl (gp_wM E (upd I 0 0) (gp_uF (gp_uF F 11 (fun j => if j < t then 0 else F 11 j)) 11 (upd (fun j => if j < t then 0 else F 11 j) (t) 0))) H := hP
        have hD : va_D A (gp_wM E (upd I 0 0) (gp_uF (gp_uF F 11 (fun j => if j < t then 0 else F 11 j)) 11 (upd (fun j => if j < t then 0 else F 11 j) (t) 0))) := hD
        refine lv_iinc (v := (nI (t + 1))) (lv' := [(1, .int (nI (t + 1))), (0, .ref (E.2.2.2 0))]) hx hb d_M_run_20 hl (k := 0) rfl (nI_1 _) (by decide) rfl (fun ls hl => ?_)
        refine lv_goto (tgt := 7) hx hb d_M_run_23 (by decide) ?_
        exact ih7 (t + 1) (by omega) (by omega) ls _ _ (lv_sub hl [0, 1] rfl) (by rw [← gp_up1 (h := fun _ => 0) (k := F 11) rfl]; exact hP) (gp_dd hD rfl) hS
  exact L7 7 0 (Nat.zero_le _) (by omega) ls _ _ (lv_sub hl [0, 1] rfl) (by rw [gp_cp0 (g := fun _ => 0)]; exact hP) (gp_dd hD rfl) hS
set_option maxHeartbeats 4000000 in
set_option maxRecDepth 100000 in
theorem c_M_absentN (l : Launch) (E : gp_E) (I : Nat → Int32) (F : Nat → Nat → Int32) (np nt ns : Nat) (x y : Int32) (hp4 : I 1 = nI np) (hT : I 3 = nI nt) (hN : I 2 = nI ns) (hnp : np ≤ 4) (hnt : nt ≤ 6) (hns : ns < 20) (h : gp_in x (I 1) = true) (hw : gm_w y 0 95 = true) (hpl : I 4 = 1) : gp_CW l y_M_absent b_M_absent 4 (some .int) 5 E (gp_wM E I F) (gp_wM E (gm_abs np nt ns x y (I, F)).2.1 (gm_abs np nt ns x y (I, F)).2.2) [.ref (E.2.2.2 0), .int x, .int y] (some (.int (gm_abs np nt ns x y (I, F)).1)) := by
  refine gp_ofW (by decide) (Nat.le_of_ble_eq_true rfl) ?_
  intro xp xe xs xm below meth xc ls A hx hb hr hts hown hlocks hml hP hK hD hA hAe hl
  have hS : va_S A xs.heap xs.heap [] := va_S.rf
  have hown : xs.vm.findClass "GuidePlansModel" = some xm.cls := hown
  have hl : lv_has ls 4 [(0, .ref (E.2.2.2 0)), (1, .int x), (2, .int y)] := hl
  refine lv_aload_n hx hb d_M_absent_0 rfl (lv_at hl 0 rfl) ?_
  refine lv_aload_n hx hb d_M_absent_1 rfl (lv_at hl 0 rfl) ?_
  refine lv_iload_n hx hb d_M_absent_2 rfl (lv_at hl 1 rfl) ?_
  refine gp_cR (q0 := 0) (ci := 3) (As := [.int x]) (rest := [.ref (E.2.2.2 0)]) ⟨hx, hb, hml, hown, hts⟩ (show gp_CR _ _ _ _ _ _ _ _ _ 1 from by have h9 := c_M_isPerson l E I F x; rw [h, if_pos rfl] at h9; exact h9) (k_M_77 hts ⟨by decide, by decide⟩ rfl rfl) hK hP rfl rfl rfl hl.1 rfl (Nat.le_of_ble_eq_true rfl) d_M_absent_3 ⟨Nat.le_of_ble_eq_true rfl, Nat.le_of_ble_eq_true rfl⟩ ?_
  refine lv_iload_n hx hb d_M_absent_6 rfl (lv_at hl 2 rfl) ?_
  refine lv_iconst (v := 0) hx hb d_M_absent_7 (by decide) ?_
  refine lv_bipush (v := 95) hx hb d_M_absent_8 (by decide) ?_
  refine gp_cS (As := [.int y, .int 0, .int 95]) (rest := [.int 1, .ref (E.2.2.2 0)]) ⟨hx, hb, hml, hown, hts⟩ (show gp_CR _ _ _ _ _ _ _ _ _ 1 from by have h9 := c_M_within l E I F y 0 95; rw [hw, if_pos rfl] at h9; exact h9) (k_M_66 hts ⟨by decide, by decide⟩ rfl rfl) hK hP rfl hl.1 rfl (Nat.le_of_ble_eq_true rfl) d_M_absent_10 ⟨Nat.le_of_ble_eq_true rfl, Nat.le_of_ble_eq_true rfl⟩ ?_
  refine lv_aload_n hx hb d_M_absent_13 rfl (lv_at hl 0 rfl) ?_
  refine va_get (D := E.1) (cl := gp_cl) (ci := 3) (v := .int (I 4)) (C := R_M) (T := T_M) (N := 27) hx hb hts i_M hown hK hP 0 rfl rfl 16 (by decide) (hts _ w3_68) (fun _ h9 => h9) rfl d_M_absent_14 ?_
  rw [show (I 4) = 1 from hpl]
  refine lv_if_eq (tgt := 33) hx hb d_M_absent_17 (by decide) (fun c17 => ?_) (fun c17 => ?_)
  · exact absurd c17 (by decide)
  · have c17 := c17
    have nc17 : ¬ 1 = 0 := fun h => c17 ((nI_eq (a := 1) (b := 0) (by omega) (by omega)).mpr h)
    refine lv_aload_n hx hb d_M_absent_20 rfl (lv_at hl 0 rfl) ?_
    refine va_get (D := E.1) (cl := gp_cl) (ci := 3) (v := .int (nI ns)) (C := R_M) (T := T_M) (N := 27) hx hb hts i_M hown hK hP 0 rfl rfl 3 (by decide) (hts _ w3_55) (fun _ h9 => h9) (congrArg (fun z => some (Value.int z)) hN) d_M_absent_21 ?_
    refine lv_bipush (v := 20) hx hb d_M_absent_24 (by decide) ?_
    refine lv_icmp_ge (tgt := 33) hx hb d_M_absent_26 (by decide) (fun c26 => ?_) (fun c26 => ?_)
    · have c26 := c26
      have nc26 : 20 ≤ ns := (nI_leI (a := 20) (b := ns) (by omega) (by omega)).mp c26
      exact False.elim (by omega)
    · have c26 := c26
      have nc26 : ¬ 20 ≤ ns := fun h => c26 ((nI_leI (a := 20) (b := ns) (by omega) (by omega)).mpr h)
      refine lv_iconst (v := 1) hx hb d_M_absent_29 (by decide) ?_
      refine lv_goto (tgt := 34) hx hb d_M_absent_30 (by decide) ?_
      refine gp_cW (q0 := 0) (ci := 3) (As := [.int 1, .int 1, .int 1]) (rest := []) ⟨hx, hb, hml, hown, hts⟩ (show gp_CW l y_M_goes b_M_goes 4 (some .boolean) 1 E (gp_wM E I F) (gp_wM E (upd I 0 0) F) [.ref (E.2.2.2 0), .int 1, .int 1, .int 1] (some (.int 1)) from c_M_goes l E I F 1 1 1) (k_M_70 hts ⟨by decide, by decide⟩ rfl rfl) hK hP hD hS hA rfl rfl rfl rfl hl.1 rfl (Nat.le_of_ble_eq_true rfl) d_M_absent_34 ⟨Nat.le_of_ble_eq_true rfl, Nat.le_of_ble_eq_true rfl⟩ (fun H locs hP hD hS => ?_)
      have hP : va_P E.1 gp_cl (gp_wM E (upd I 0 0) F) H := hP
      have hD : va_D A (gp_wM E (upd I 0 0) F) := hD
      refine W.eq (g2 := F0 xm 37 ls [.int 1]) rfl ?_
      refine lv_if_ne (tgt := 42) hx hb d_M_absent_37 (by decide) (fun c37 => ?_) (fun c37 => ?_)
      · have c37 := c37
        have nc37 : ¬ 1 = 0 := fun h => c37 ((nI_eq (a := 1) (b := 0) (by omega) (by omega)).mpr h)
        refine lv_aload_n hx hb d_M_absent_42 rfl (lv_at hl 0 rfl) ?_
        refine lv_iload_n hx hb d_M_absent_43 rfl (lv_at hl 1 rfl) ?_
        refine lv_iload_n hx hb d_M_absent_44 rfl (lv_at hl 2 rfl) ?_
        refine lv_bipush (v := 96) hx hb d_M_absent_45 (by decide) ?_
        refine gp_cW (q0 := 0) (ci := 3) (As := [.int x, .int y, .int 96]) (rest := []) ⟨hx, hb, hml, hown, hts⟩ (c_M_leave l E (upd I 0 0) F ns x y 96 hN hns) (k_M_85 hts ⟨by decide, by decide⟩ rfl rfl) hK hP hD hS hA rfl rfl rfl rfl hl.1 rfl (Nat.le_of_ble_eq_true rfl) d_M_absent_47 ⟨Nat.le_of_ble_eq_true rfl, Nat.le_of_ble_eq_true rfl⟩ (fun H locs hP hD hS => ?_)
        have hP : va_P E.1 gp_cl (gp_wM E (upd (upd I 0 0) 2 (nI (ns + 1))) (gp_uF (gp_uF (gp_uF F 1 (upd (F 1) ns x)) 2 (upd (F 2) ns y)) 3 (upd (F 3) ns 96))) H := hP
        have hD : va_D A (gp_wM E (upd (upd I 0 0) 2 (nI (ns + 1))) (gp_uF (gp_uF (gp_uF F 1 (upd (F 1) ns x)) 2 (upd (F 2) ns y)) 3 (upd (F 3) ns 96))) := hD
        refine lv_iconst (v := 0) hx hb d_M_absent_50 (by decide) ?_
        refine lv_istore_n (lv' := [(3, .int 0), (0, .ref (E.2.2.2 0)), (1, .int x), (2, .int y)]) hx hb d_M_absent_51 rfl hl (by decide) rfl (fun ls hl => ?_)
        have L52 : ∀ (n : Nat) (t : Nat), t ≤ nt → nt + 1 ≤ t + n → ∀ (ls : Array Slot) (H : Heap) (locs : List Loc), lv_has ls 4 [(3, .int (nI t)), (0, .ref (E.2.2.2 0)), (1, .int x), (2, .int y)] → va_P E.1 gp_cl (gp_wM E (upd (upd I 0 0) 2 (nI (ns + 1))) (gp_uF (gp_uF (gp_uF (gp_uF F 1 (upd (F 1) ns x)) 2 (upd (F 2) ns y)) 3 (upd (F 3) ns 96)) 11 (fun j => if j < t then (if F 5 j < I 7 then 1 else 0) else F 11 j))) H → va_D A (gp_wM E (upd (upd I 0 0) 2 (nI (ns + 1))) (gp_uF (gp_uF (gp_uF (gp_uF F 1 (upd (F 1) ns x)) 2 (upd (F 2) ns y)) 3 (upd (F 3) ns 96)) 11 (fun j => if j < t then (if F 5 j < I 7 then 1 else 0) else F 11 j))) → va_S A xs.heap H locs → W xp l xe (gp_rm 5 0 0) xs xm ([.ref (E.2.2.2 0), .int x, .int y] : List Value).toArray below meth xc H locs 0 0 (MQ below (gp_QW E (some (.int (gm_abs np nt ns x y (I, F)).1)) (gp_wM E I F) (gp_wM E (gm_abs np nt ns x y (I, F)).2.1 (gm_abs np nt ns x y (I, F)).2.2) xs.heap.size) ([.ref (E.2.2.2 0), .int x, .int y] : List Value).toArray xs 0 0 A) (F0 xm 52 ls []) := by
          intro n
          induction n with
          | zero =>
            intro t h1 hm
            exact absurd hm (by omega)
          | succ n ih52 =>
            intro t h1 hm ls H locs hl hP hD hS
            refine lv_iload_n hx hb d_M_absent_52 rfl (lv_at hl 0 rfl) ?_
            refine lv_aload_n hx hb d_M_absent_53 rfl (lv_at hl 1 rfl) ?_
            refine va_get (D := E.1) (cl := gp_cl) (ci := 3) (v := .int (nI nt)) (C := R_M) (T := T_M) (N := 27) hx hb hts i_M hown hK hP 0 rfl rfl 7 (by decide) (hts _ w3_59) (fun _ h9 => h9) (congrArg (fun z => some (Value.int z)) hT) d_M_absent_54 ?_
            refine lv_icmp_ge (tgt := 90) hx hb d_M_absent_57 (by decide) (fun c57 => ?_) (fun c57 => ?_)
            · have c57 := c57
              have nc57 : nt ≤ t := (nI_leI (a := nt) (b := t) (by omega) (by omega)).mp c57
              have hte : nt = t := by omega
              subst hte
              refine lv_aload_n hx hb d_M_absent_90 rfl (lv_at hl 1 rfl) ?_
              refine lv_iconst (v := 1) hx hb d_M_absent_91 (by decide) ?_
              refine gp_cW (q0 := 0) (ci := 3) (As := [.int 1]) (rest := []) ⟨hx, hb, hml, hown, hts⟩ (c_M_seek l E (upd (upd I 0 0) 2 (nI (ns + 1))) (gp_uF (gp_uF (gp_uF (gp_uF F 1 (upd (F 1) ns x)) 2 (upd (F 2) ns y)) 3 (upd (F 3) ns 96)) 11 (fun j => if j < nt then (if F 5 j < I 7 then 1 else 0) else F 11 j)) np nt (ns + 1) 1 hp4 hT rfl hnp hnt (by omega)) (k_M_139 hts ⟨by decide, by decide⟩ rfl rfl) hK hP hD hS hA rfl rfl rfl rfl hl.1 rfl (Nat.le_of_ble_eq_true rfl) d_M_absent_92 ⟨Nat.le_of_ble_eq_true rfl, Nat.le_of_ble_eq_true rfl⟩ (fun H locs hP hD hS => ?_)
              have hP : va_P E.1 gp_cl (gp_wM E (gm_se np nt (ns + 1) 1 ((upd (upd I 0 0) 2 (nI (ns + 1))), (gp_uF (gp_uF (gp_uF (gp_uF F 1 (upd (F 1) ns x)) 2 (upd (F 2) ns y)) 3 (upd (F 3) ns 96)) 11 (fun j => if j < nt then (if F 5 j < I 7 then 1 else 0) else F 11 j)))).1 (gm_se np nt (ns + 1) 1 ((upd (upd I 0 0) 2 (nI (ns + 1))), (gp_uF (gp_uF (gp_uF (gp_uF F 1 (upd (F 1) ns x)) 2 (upd (F 2) ns y)) 3 (upd (F 3) ns 96)) 11 (fun j => if j < nt then (if F 5 j < I 7 then 1 else 0) else F 11 j)))).2) H := hP
              have hD : va_D A (gp_wM E (gm_se np nt (ns + 1) 1 ((upd (upd I 0 0) 2 (nI (ns + 1))), (gp_uF (gp_uF (gp_uF (gp_uF F 1 (upd (F 1) ns x)) 2 (upd (F 2) ns y)) 3 (upd (F 3) ns 96)) 11 (fun j => if j < nt then (if F 5 j < I 7 then 1 else 0) else F 11 j)))).1 (gm_se np nt (ns + 1) 1 ((upd (upd I 0 0) 2 (nI (ns + 1))), (gp_uF (gp_uF (gp_uF (gp_uF F 1 (upd (F 1) ns x)) 2 (upd (F 2) ns y)) 3 (upd (F 3) ns 96)) 11 (fun j => if j < nt then (if F 5 j < I 7 then 1 else 0) else F 11 j)))).2) := hD
              refine lv_aload_n hx hb d_M_absent_95 rfl (lv_at hl 1 rfl) ?_
              refine gp_cW (q0 := 0) (ci := 3) (As := []) (rest := []) ⟨hx, hb, hml, hown, hts⟩ (c_M_tell l E (gm_se np nt (ns + 1) 1 ((upd (upd I 0 0) 2 (nI (ns + 1))), (gp_uF (gp_uF (gp_uF (gp_uF F 1 (upd (F 1) ns x)) 2 (upd (F 2) ns y)) 3 (upd (F 3) ns 96)) 11 (fun j => if j < nt then (if F 5 j < I 7 then 1 else 0) else F 11 j)))).1 (gm_se np nt (ns + 1) 1 ((upd (upd I 0 0) 2 (nI (ns + 1))), (gp_uF (gp_uF (gp_uF (gp_uF F 1 (upd (F 1) ns x)) 2 (upd (F 2) ns y)) 3 (upd (F 3) ns 96)) 11 (fun j => if j < nt then (if F 5 j < I 7 then 1 else 0) else F 11 j)))).2 nt ((gm_se_k.1 3 (by decide)).trans hT) hnt) (k_M_143 hts ⟨by decide, by decide⟩ rfl rfl) hK hP hD hS hA rfl rfl rfl rfl hl.1 rfl (Nat.le_of_ble_eq_true rfl) d_M_absent_96 ⟨Nat.le_of_ble_eq_true rfl, Nat.le_of_ble_eq_true rfl⟩ (fun H locs hP hD hS => ?_)
              have hP : va_P E.1 gp_cl (gp_wM E (gm_a1 np nt ns x y (I, F)).1 (gm_a1 np nt ns x y (I, F)).2) H := hP
              have hD : va_D A (gp_wM E (gm_a1 np nt ns x y (I, F)).1 (gm_a1 np nt ns x y (I, F)).2) := hD
              have hX3 : (gm_a1 np nt ns x y (I, F)).1 3 = nI nt := (gm_a1_k (by decide) (by decide)).trans hT
              have hX2 : (gm_a1 np nt ns x y (I, F)).1 2 = nI (ns + 1) := gm_a1_k (by decide) (by decide)
              refine lv_aload_n hx hb d_M_absent_99 rfl (lv_at hl 1 rfl) ?_
              refine va_get (D := E.1) (cl := gp_cl) (ci := 3) (v := .int ((gm_a1 np nt ns x y (I, F)).1 10)) (C := R_M) (T := T_M) (N := 27) hx hb hts i_M hown hK hP 0 rfl rfl 23 (by decide) (hts _ w3_75) (fun _ h9 => h9) rfl d_M_absent_100 ?_
              refine lv_if_ne (tgt := 118) hx hb d_M_absent_103 (by decide) (fun c103 => ?_) (fun c103 => ?_)
              · have c103 := c103
                have e2 : gm_abs np nt ns x y (I, F) = (nI (gm_nc (gm_a1 np nt ns x y (I, F)).2 nt).1, (upd (gm_a1 np nt ns x y (I, F)).1 9 (nI (gm_nc (gm_a1 np nt ns x y (I, F)).2 nt).1), gp_uF (gp_uF (gm_a1 np nt ns x y (I, F)).2 12 (gm_nc (gm_a1 np nt ns x y (I, F)).2 nt).2) 8 (fun j => if j < nt then (gm_a1 np nt ns x y (I, F)).2 10 j else (gm_a1 np nt ns x y (I, F)).2 8 j))) := if_neg c103
                refine lv_aload_n hx hb d_M_absent_118 rfl (lv_at hl 1 rfl) ?_
                refine lv_iconst (v := 0) hx hb d_M_absent_119 (by decide) ?_
                refine va_put (D := E.1) (cl := gp_cl) (ci := 3) (v := .int 0) (ty := .int) (C := R_M) (T := T_M) (N := 27) hx hb hts i_M t_M t_M_ok n_M hown hK hP hD hS 0 rfl rfl 21 (by decide) (hts _ w3_73) (fun _ h9 => h9) rfl (by decide +kernel) rfl rfl (Nat.le_of_ble_eq_true rfl) d_M_absent_120 (fun H locs hP hD hS => ?_)
                have hP : va_P E.1 gp_cl (gp_wM E (upd (gm_a1 np nt ns x y (I, F)).1 9 0) (gm_a1 np nt ns x y (I, F)).2) H := hP
                have hD : va_D A (gp_wM E (upd (gm_a1 np nt ns x y (I, F)).1 9 0) (gm_a1 np nt ns x y (I, F)).2) := hD
                refine lv_iconst (v := 0) hx hb d_M_absent_123 (by decide) ?_
                refine lv_istore_n (lv' := [(3, .int 0), (0, .ref (E.2.2.2 0)), (1, .int x), (2, .int y)]) hx hb d_M_absent_124 rfl hl (by decide) rfl (fun ls hl => ?_)
                have L125 : ∀ (n : Nat) (t : Nat), t ≤ nt → nt + 1 ≤ t + n → ∀ (ls : Array Slot) (H : Heap) (locs : List Loc), lv_has ls 4 [(3, .int (nI t)), (0, .ref (E.2.2.2 0)), (1, .int x), (2, .int y)] → va_P E.1 gp_cl (gp_wM E (upd (gm_a1 np nt ns x y (I, F)).1 9 (nI (gm_nc (gm_a1 np nt ns x y (I, F)).2 t).1)) (gp_uF (gp_uF (gm_a1 np nt ns x y (I, F)).2 12 (gm_nc (gm_a1 np nt ns x y (I, F)).2 t).2) 8 (fun j => if j < t then (gm_a1 np nt ns x y (I, F)).2 10 j else (gm_a1 np nt ns x y (I, F)).2 8 j))) H → va_D A (gp_wM E (upd (gm_a1 np nt ns x y (I, F)).1 9 (nI (gm_nc (gm_a1 np nt ns x y (I, F)).2 t).1)) (gp_uF (gp_uF (gm_a1 np nt ns x y (I, F)).2 12 (gm_nc (gm_a1 np nt ns x y (I, F)).2 t).2) 8 (fun j => if j < t then (gm_a1 np nt ns x y (I, F)).2 10 j else (gm_a1 np nt ns x y (I, F)).2 8 j))) → va_S A xs.heap H locs → W xp l xe (gp_rm 5 0 0) xs xm ([.ref (E.2.2.2 0), .int x, .int y] : List Value).toArray below meth xc H locs 0 0 (MQ below (gp_QW E (some (.int (gm_abs np nt ns x y (I, F)).1)) (gp_wM E I F) (gp_wM E (gm_abs np nt ns x y (I, F)).2.1 (gm_abs np nt ns x y (I, F)).2.2) xs.heap.size) ([.ref (E.2.2.2 0), .int x, .int y] : List Value).toArray xs 0 0 A) (F0 xm 125 ls []) := by
                  intro n
                  induction n with
                  | zero =>
                    intro t h1 hm
                    exact absurd hm (by omega)
                  | succ n ih125 =>
                    intro t h1 hm ls H locs hl hP hD hS
                    have hle := gm_nc_le (F := (gm_a1 np nt ns x y (I, F)).2) t
                    refine lv_iload_n hx hb d_M_absent_125 rfl (lv_at hl 0 rfl) ?_
                    refine lv_aload_n hx hb d_M_absent_126 rfl (lv_at hl 1 rfl) ?_
                    refine va_get (D := E.1) (cl := gp_cl) (ci := 3) (v := .int (nI nt)) (C := R_M) (T := T_M) (N := 27) hx hb hts i_M hown hK hP 0 rfl rfl 7 (by decide) (hts _ w3_59) (fun _ h9 => h9) (congrArg (fun z => some (Value.int z)) hX3) d_M_absent_127 ?_
                    refine lv_icmp_ge (tgt := 186) hx hb d_M_absent_130 (by decide) (fun c130 => ?_) (fun c130 => ?_)
                    · have c130 := c130
                      have nc130 : nt ≤ t := (nI_leI (a := nt) (b := t) (by omega) (by omega)).mp c130
                      have hte : nt = t := by omega
                      subst hte
                      refine lv_aload_n hx hb d_M_absent_186 rfl (lv_at hl 1 rfl) ?_
                      refine va_get (D := E.1) (cl := gp_cl) (ci := 3) (v := .int (nI (gm_nc (gm_a1 np nt ns x y (I, F)).2 nt).1)) (C := R_M) (T := T_M) (N := 27) hx hb hts i_M hown hK hP 0 rfl rfl 21 (by decide) (hts _ w3_73) (fun _ h9 => h9) rfl d_M_absent_187 ?_
                      exact gp_wi hx hb hr hlocks hAe (by rw [e2] <;> rfl) (by rw [e2]; exact hP) hS d_M_absent_190
                    · have c130 := c130
                      have nc130 : ¬ nt ≤ t := fun h => c130 ((nI_leI (a := nt) (b := t) (by omega) (by omega)).mpr h)
                      refine lv_aload_n hx hb d_M_absent_133 rfl (lv_at hl 1 rfl) ?_
                      refine va_get (D := E.1) (cl := gp_cl) (ci := 3) (v := .ref (E.2.2.2 11)) (C := R_M) (T := T_M) (N := 27) hx hb hts i_M hown hK hP 0 rfl rfl 14 (by decide) (hts _ w3_66) (fun _ h9 => h9) rfl d_M_absent_134 ?_
                      refine lv_iload_n hx hb d_M_absent_137 rfl (lv_at hl 0 rfl) ?_
                      refine gp_ald (f := ((gm_a1 np nt ns x y (I, F)).2 10)) (n := 6) hx hb hK hP 11 rfl (t) rfl (by omega) (by decide) d_M_absent_138 ?_
                      refine lv_aload_n hx hb d_M_absent_139 rfl (lv_at hl 1 rfl) ?_
                      refine va_get (D := E.1) (cl := gp_cl) (ci := 3) (v := .ref (E.2.2.2 9)) (C := R_M) (T := T_M) (N := 27) hx hb hts i_M hown hK hP 0 rfl rfl 12 (by decide) (hts _ w3_64) (fun _ h9 => h9) rfl d_M_absent_140 ?_
                      refine lv_iload_n hx hb d_M_absent_143 rfl (lv_at hl 0 rfl) ?_
                      refine gp_ald (f := (fun j => if j < t then (gm_a1 np nt ns x y (I, F)).2 10 j else (gm_a1 np nt ns x y (I, F)).2 8 j)) (n := 6) hx hb hK hP 9 rfl (t) rfl (by omega) (by decide) d_M_absent_144 ?_
                      rw [if_neg (Nat.lt_irrefl t)]
                      refine lv_icmp_eq (tgt := 168) hx hb d_M_absent_145 (by decide) (fun c145 => ?_) (fun c145 => ?_)
                      · have c145 := c145
                        refine lv_aload_n hx hb d_M_absent_168 rfl (lv_at hl 1 rfl) ?_
                        refine va_get (D := E.1) (cl := gp_cl) (ci := 3) (v := .ref (E.2.2.2 9)) (C := R_M) (T := T_M) (N := 27) hx hb hts i_M hown hK hP 0 rfl rfl 12 (by decide) (hts _ w3_64) (fun _ h9 => h9) rfl d_M_absent_169 ?_
                        refine lv_iload_n hx hb d_M_absent_172 rfl (lv_at hl 0 rfl) ?_
                        refine lv_aload_n hx hb d_M_absent_173 rfl (lv_at hl 1 rfl) ?_
                        refine va_get (D := E.1) (cl := gp_cl) (ci := 3) (v := .ref (E.2.2.2 11)) (C := R_M) (T := T_M) (N := 27) hx hb hts i_M hown hK hP 0 rfl rfl 14 (by decide) (hts _ w3_66) (fun _ h9 => h9) rfl d_M_absent_174 ?_
                        refine lv_iload_n hx hb d_M_absent_177 rfl (lv_at hl 0 rfl) ?_
                        refine gp_ald (f := ((gm_a1 np nt ns x y (I, F)).2 10)) (n := 6) hx hb hK hP 11 rfl (t) rfl (by omega) (by decide) d_M_absent_178 ?_
                        refine gp_ast (f := (fun j => if j < t then (gm_a1 np nt ns x y (I, F)).2 10 j else (gm_a1 np nt ns x y (I, F)).2 8 j)) (n := 6) hx hb hK hP hD hS 9 rfl (t) rfl (by omega) (by decide) d_M_absent_179 (fun H locs hP hD hS => ?_)
                        have hP : va_P E.1 gp_cl (gp_wM E (upd (gm_a1 np nt ns x y (I, F)).1 9 (nI (gm_nc (gm_a1 np nt ns x y (I, F)).2 t).1)) (gp_uF (gp_uF (gp_uF (gm_a1 np nt ns x y (I, F)).2 12 (gm_nc (gm_a1 np nt ns x y (I, F)).2 t).2) 8 (fun j => if j < t then (gm_a1 np nt ns x y (I, F)).2 10 j else (gm_a1 np nt ns x y (I, F)).2 8 j)) 8 (upd (fun j => if j < t then (gm_a1 np nt ns x y (I, F)).2 10 j else (gm_a1 np nt ns x y (I, F)).2 8 j) (t) (((gm_a1 np nt ns x y (I, F)).2 10) (t))))) H := hP
                        have hD : va_D A (gp_wM E (upd (gm_a1 np nt ns x y (I, F)).1 9 (nI (gm_nc (gm_a1 np nt ns x y (I, F)).2 t).1)) (gp_uF (gp_uF (gp_uF (gm_a1 np nt ns x y (I, F)).2 12 (gm_nc (gm_a1 np nt ns x y (I, F)).2 t).2) 8 (fun j => if j < t then (gm_a1 np nt ns x y (I, F)).2 10 j else (gm_a1 np nt ns x y (I, F)).2 8 j)) 8 (upd (fun j => if j < t then (gm_a1 np nt ns x y (I, F)).2 10 j else (gm_a1 np nt ns x y (I, F)).2 8 j) (t) (((gm_a1 np nt ns x y (I, F)).2 10) (t))))) := hD
                        refine lv_iinc (v := (nI (t + 1))) (lv' := [(3, .int (nI (t + 1))), (0, .ref (E.2.2.2 0)), (1, .int x), (2, .int y)]) hx hb d_M_absent_180 hl (k := 0) rfl (nI_1 _) (by decide) rfl (fun ls hl => ?_)
                        refine lv_goto (tgt := 125) hx hb d_M_absent_183 (by decide) ?_
                        exact ih125 (t + 1) (by omega) (by omega) ls _ _ (lv_sub hl [0, 1, 2, 3] rfl) (by rw [← gp_up1 (h := (gm_a1 np nt ns x y (I, F)).2 10) (k := (gm_a1 np nt ns x y (I, F)).2 8) rfl]; first | (rw [show gm_nc (gm_a1 np nt ns x y (I, F)).2 (t + 1) = gm_nc (gm_a1 np nt ns x y (I, F)).2 t from by rw [gm_nc]; exact if_pos c145]; exact hP) | (rw [show gm_nc (gm_a1 np nt ns x y (I, F)).2 (t + 1) = ((gm_nc (gm_a1 np nt ns x y (I, F)).2 t).1 + 1, upd (gm_nc (gm_a1 np nt ns x y (I, F)).2 t).2 (gm_nc (gm_a1 np nt ns x y (I, F)).2 t).1 (nI t)) from by rw [gm_nc]; exact if_neg c145]; exact hP)) (gp_dd hD rfl) hS
                      · have c145 := c145
                        refine lv_aload_n hx hb d_M_absent_148 rfl (lv_at hl 1 rfl) ?_
                        refine va_get (D := E.1) (cl := gp_cl) (ci := 3) (v := .ref (E.2.2.2 13)) (C := R_M) (T := T_M) (N := 27) hx hb hts i_M hown hK hP 0 rfl rfl 22 (by decide) (hts _ w3_74) (fun _ h9 => h9) rfl d_M_absent_149 ?_
                        refine lv_aload_n hx hb d_M_absent_152 rfl (lv_at hl 1 rfl) ?_
                        refine va_get (D := E.1) (cl := gp_cl) (ci := 3) (v := .int (nI (gm_nc (gm_a1 np nt ns x y (I, F)).2 t).1)) (C := R_M) (T := T_M) (N := 27) hx hb hts i_M hown hK hP 0 rfl rfl 21 (by decide) (hts _ w3_73) (fun _ h9 => h9) rfl d_M_absent_153 ?_
                        refine lv_iload_n hx hb d_M_absent_156 rfl (lv_at hl 0 rfl) ?_
                        refine gp_ast (f := (gm_nc (gm_a1 np nt ns x y (I, F)).2 t).2) (n := 6) hx hb hK hP hD hS 13 rfl ((gm_nc (gm_a1 np nt ns x y (I, F)).2 t).1) rfl (by omega) (by decide) d_M_absent_157 (fun H locs hP hD hS => ?_)
                        have hP : va_P E.1 gp_cl (gp_wM E (upd (gm_a1 np nt ns x y (I, F)).1 9 (nI (gm_nc (gm_a1 np nt ns x y (I, F)).2 t).1)) (gp_uF (gp_uF (gp_uF (gm_a1 np nt ns x y (I, F)).2 12 (gm_nc (gm_a1 np nt ns x y (I, F)).2 t).2) 8 (fun j => if j < t then (gm_a1 np nt ns x y (I, F)).2 10 j else (gm_a1 np nt ns x y (I, F)).2 8 j)) 12 (upd (gm_nc (gm_a1 np nt ns x y (I, F)).2 t).2 ((gm_nc (gm_a1 np nt ns x y (I, F)).2 t).1) (nI t)))) H := hP
                        have hD : va_D A (gp_wM E (upd (gm_a1 np nt ns x y (I, F)).1 9 (nI (gm_nc (gm_a1 np nt ns x y (I, F)).2 t).1)) (gp_uF (gp_uF (gp_uF (gm_a1 np nt ns x y (I, F)).2 12 (gm_nc (gm_a1 np nt ns x y (I, F)).2 t).2) 8 (fun j => if j < t then (gm_a1 np nt ns x y (I, F)).2 10 j else (gm_a1 np nt ns x y (I, F)).2 8 j)) 12 (upd (gm_nc (gm_a1 np nt ns x y (I, F)).2 t).2 ((gm_nc (gm_a1 np nt ns x y (I, F)).2 t).1) (nI t)))) := hD
                        refine lv_aload_n hx hb d_M_absent_158 rfl (lv_at hl 1 rfl) ?_
                        refine lv_dup hx hb d_M_absent_159 rfl ?_
                        refine va_get (D := E.1) (cl := gp_cl) (ci := 3) (v := .int (nI (gm_nc (gm_a1 np nt ns x y (I, F)).2 t).1)) (C := R_M) (T := T_M) (N := 27) hx hb hts i_M hown hK hP 0 rfl rfl 21 (by decide) (hts _ w3_73) (fun _ h9 => h9) rfl d_M_absent_160 ?_
                        refine lv_iconst (v := 1) hx hb d_M_absent_163 (by decide) ?_
                        refine lv_iadd hx hb d_M_absent_164 ?_
                        rw [show ((nI (gm_nc (gm_a1 np nt ns x y (I, F)).2 t).1) + 1) = (nI ((gm_nc (gm_a1 np nt ns x y (I, F)).2 t).1 + 1)) from nI_1 _]
                        refine va_put (D := E.1) (cl := gp_cl) (ci := 3) (v := .int (nI ((gm_nc (gm_a1 np nt ns x y (I, F)).2 t).1 + 1))) (ty := .int) (C := R_M) (T := T_M) (N := 27) hx hb hts i_M t_M t_M_ok n_M hown hK hP hD hS 0 rfl rfl 21 (by decide) (hts _ w3_73) (fun _ h9 => h9) rfl (by decide +kernel) rfl rfl (Nat.le_of_ble_eq_true rfl) d_M_absent_165 (fun H locs hP hD hS => ?_)
                        have hP : va_P E.1 gp_cl (gp_wM E (upd (upd (gm_a1 np nt ns x y (I, F)).1 9 (nI (gm_nc (gm_a1 np nt ns x y (I, F)).2 t).1)) 9 (nI ((gm_nc (gm_a1 np nt ns x y (I, F)).2 t).1 + 1))) (gp_uF (gp_uF (gp_uF (gm_a1 np nt ns x y (I, F)).2 12 (gm_nc (gm_a1 np nt ns x y (I, F)).2 t).2) 8 (fun j => if j < t then (gm_a1 np nt ns x y (I, F)).2 10 j else (gm_a1 np nt ns x y (I, F)).2 8 j)) 12 (upd (gm_nc (gm_a1 np nt ns x y (I, F)).2 t).2 ((gm_nc (gm_a1 np nt ns x y (I, F)).2 t).1) (nI t)))) H := hP
                        have hD : va_D A (gp_wM E (upd (upd (gm_a1 np nt ns x y (I, F)).1 9 (nI (gm_nc (gm_a1 np nt ns x y (I, F)).2 t).1)) 9 (nI ((gm_nc (gm_a1 np nt ns x y (I, F)).2 t).1 + 1))) (gp_uF (gp_uF (gp_uF (gm_a1 np nt ns x y (I, F)).2 12 (gm_nc (gm_a1 np nt ns x y (I, F)).2 t).2) 8 (fun j => if j < t then (gm_a1 np nt ns x y (I, F)).2 10 j else (gm_a1 np nt ns x y (I, F)).2 8 j)) 12 (upd (gm_nc (gm_a1 np nt ns x y (I, F)).2 t).2 ((gm_nc (gm_a1 np nt ns x y (I, F)).2 t).1) (nI t)))) := hD
                        refine lv_aload_n hx hb d_M_absent_168 rfl (lv_at hl 1 rfl) ?_
                        refine va_get (D := E.1) (cl := gp_cl) (ci := 3) (v := .ref (E.2.2.2 9)) (C := R_M) (T := T_M) (N := 27) hx hb hts i_M hown hK hP 0 rfl rfl 12 (by decide) (hts _ w3_64) (fun _ h9 => h9) rfl d_M_absent_169 ?_
                        refine lv_iload_n hx hb d_M_absent_172 rfl (lv_at hl 0 rfl) ?_
                        refine lv_aload_n hx hb d_M_absent_173 rfl (lv_at hl 1 rfl) ?_
                        refine va_get (D := E.1) (cl := gp_cl) (ci := 3) (v := .ref (E.2.2.2 11)) (C := R_M) (T := T_M) (N := 27) hx hb hts i_M hown hK hP 0 rfl rfl 14 (by decide) (hts _ w3_66) (fun _ h9 => h9) rfl d_M_absent_174 ?_
                        refine lv_iload_n hx hb d_M_absent_177 rfl (lv_at hl 0 rfl) ?_
                        refine gp_ald (f := ((gm_a1 np nt ns x y (I, F)).2 10)) (n := 6) hx hb hK hP 11 rfl (t) rfl (by omega) (by decide) d_M_absent_178 ?_
                        refine gp_ast (f := (fun j => if j < t then (gm_a1 np nt ns x y (I, F)).2 10 j else (gm_a1 np nt ns x y (I, F)).2 8 j)) (n := 6) hx hb hK hP hD hS 9 rfl (t) rfl (by omega) (by decide) d_M_absent_179 (fun H locs hP hD hS => ?_)
                        have hP : va_P E.1 gp_cl (gp_wM E (upd (upd (gm_a1 np nt ns x y (I, F)).1 9 (nI (gm_nc (gm_a1 np nt ns x y (I, F)).2 t).1)) 9 (nI ((gm_nc (gm_a1 np nt ns x y (I, F)).2 t).1 + 1))) (gp_uF (gp_uF (gp_uF (gp_uF (gm_a1 np nt ns x y (I, F)).2 12 (gm_nc (gm_a1 np nt ns x y (I, F)).2 t).2) 8 (fun j => if j < t then (gm_a1 np nt ns x y (I, F)).2 10 j else (gm_a1 np nt ns x y (I, F)).2 8 j)) 12 (upd (gm_nc (gm_a1 np nt ns x y (I, F)).2 t).2 ((gm_nc (gm_a1 np nt ns x y (I, F)).2 t).1) (nI t))) 8 (upd (fun j => if j < t then (gm_a1 np nt ns x y (I, F)).2 10 j else (gm_a1 np nt ns x y (I, F)).2 8 j) (t) (((gm_a1 np nt ns x y (I, F)).2 10) (t))))) H := hP
                        have hD : va_D A (gp_wM E (upd (upd (gm_a1 np nt ns x y (I, F)).1 9 (nI (gm_nc (gm_a1 np nt ns x y (I, F)).2 t).1)) 9 (nI ((gm_nc (gm_a1 np nt ns x y (I, F)).2 t).1 + 1))) (gp_uF (gp_uF (gp_uF (gp_uF (gm_a1 np nt ns x y (I, F)).2 12 (gm_nc (gm_a1 np nt ns x y (I, F)).2 t).2) 8 (fun j => if j < t then (gm_a1 np nt ns x y (I, F)).2 10 j else (gm_a1 np nt ns x y (I, F)).2 8 j)) 12 (upd (gm_nc (gm_a1 np nt ns x y (I, F)).2 t).2 ((gm_nc (gm_a1 np nt ns x y (I, F)).2 t).1) (nI t))) 8 (upd (fun j => if j < t then (gm_a1 np nt ns x y (I, F)).2 10 j else (gm_a1 np nt ns x y (I, F)).2 8 j) (t) (((gm_a1 np nt ns x y (I, F)).2 10) (t))))) := hD
                        refine lv_iinc (v := (nI (t + 1))) (lv' := [(3, .int (nI (t + 1))), (0, .ref (E.2.2.2 0)), (1, .int x), (2, .int y)]) hx hb d_M_absent_180 hl (k := 0) rfl (nI_1 _) (by decide) rfl (fun ls hl => ?_)
                        refine lv_goto (tgt := 125) hx hb d_M_absent_183 (by decide) ?_
                        exact ih125 (t + 1) (by omega) (by omega) ls _ _ (lv_sub hl [0, 1, 2, 3] rfl) (by rw [← gp_up1 (h := (gm_a1 np nt ns x y (I, F)).2 10) (k := (gm_a1 np nt ns x y (I, F)).2 8) rfl]; first | (rw [show gm_nc (gm_a1 np nt ns x y (I, F)).2 (t + 1) = gm_nc (gm_a1 np nt ns x y (I, F)).2 t from by rw [gm_nc]; exact if_pos c145]; exact hP) | (rw [show gm_nc (gm_a1 np nt ns x y (I, F)).2 (t + 1) = ((gm_nc (gm_a1 np nt ns x y (I, F)).2 t).1 + 1, upd (gm_nc (gm_a1 np nt ns x y (I, F)).2 t).2 (gm_nc (gm_a1 np nt ns x y (I, F)).2 t).1 (nI t)) from by rw [gm_nc]; exact if_neg c145]; exact hP)) (gp_dd hD rfl) hS
                exact L125 (nt + 1) 0 (Nat.zero_le _) (by omega) ls _ _ (lv_sub hl [0, 1, 2, 3] rfl) (by rw [show (gm_nc (gm_a1 np nt ns x y (I, F)).2 0).2 = (gm_a1 np nt ns x y (I, F)).2 12 from rfl, gp_uF_self, gp_cp0 (g := (gm_a1 np nt ns x y (I, F)).2 10)]; exact hP) (gp_dd hD rfl) hS
              · have c103 := c103
                have e2 : gm_abs np nt ns x y (I, F) = (-1, (upd (gm_a1 np nt ns x y (I, F)).1 2 (nI ns), (gm_a1 np nt ns x y (I, F)).2)) := if_pos c103
                refine lv_aload_n hx hb d_M_absent_106 rfl (lv_at hl 1 rfl) ?_
                refine lv_dup hx hb d_M_absent_107 rfl ?_
                refine va_get (D := E.1) (cl := gp_cl) (ci := 3) (v := .int (nI (ns + 1))) (C := R_M) (T := T_M) (N := 27) hx hb hts i_M hown hK hP 0 rfl rfl 3 (by decide) (hts _ w3_55) (fun _ h9 => h9) (congrArg (fun z => some (Value.int z)) hX2) d_M_absent_108 ?_
                refine lv_iconst (v := 1) hx hb d_M_absent_111 (by decide) ?_
                refine lv_isub hx hb d_M_absent_112 ?_
                rw [show ((nI (ns + 1)) - 1) = (nI ns) from nI_pred _]
                refine va_put (D := E.1) (cl := gp_cl) (ci := 3) (v := .int (nI ns)) (ty := .int) (C := R_M) (T := T_M) (N := 27) hx hb hts i_M t_M t_M_ok n_M hown hK hP hD hS 0 rfl rfl 3 (by decide) (hts _ w3_55) (fun _ h9 => h9) rfl (by decide +kernel) rfl rfl (Nat.le_of_ble_eq_true rfl) d_M_absent_113 (fun H locs hP hD hS => ?_)
                have hP : va_P E.1 gp_cl (gp_wM E (upd (gm_a1 np nt ns x y (I, F)).1 2 (nI ns)) (gm_a1 np nt ns x y (I, F)).2) H := hP
                have hD : va_D A (gp_wM E (upd (gm_a1 np nt ns x y (I, F)).1 2 (nI ns)) (gm_a1 np nt ns x y (I, F)).2) := hD
                refine lv_iconst (v := (-1)) hx hb d_M_absent_116 (by decide) ?_
                exact gp_wi hx hb hr hlocks hAe (by rw [e2] <;> rfl) (by rw [e2]; exact hP) hS d_M_absent_117
            · have c57 := c57
              have nc57 : ¬ nt ≤ t := fun h => c57 ((nI_leI (a := nt) (b := t) (by omega) (by omega)).mpr h)
              refine lv_aload_n hx hb d_M_absent_60 rfl (lv_at hl 1 rfl) ?_
              refine va_get (D := E.1) (cl := gp_cl) (ci := 3) (v := .ref (E.2.2.2 12)) (C := R_M) (T := T_M) (N := 27) hx hb hts i_M hown hK hP 0 rfl rfl 15 (by decide) (hts _ w3_67) (fun _ h9 => h9) rfl d_M_absent_61 ?_
              refine lv_iload_n hx hb d_M_absent_64 rfl (lv_at hl 0 rfl) ?_
              refine lv_aload_n hx hb d_M_absent_65 rfl (lv_at hl 1 rfl) ?_
              refine va_get (D := E.1) (cl := gp_cl) (ci := 3) (v := .ref (E.2.2.2 6)) (C := R_M) (T := T_M) (N := 27) hx hb hts i_M hown hK hP 0 rfl rfl 9 (by decide) (hts _ w3_61) (fun _ h9 => h9) rfl d_M_absent_66 ?_
              refine lv_iload_n hx hb d_M_absent_69 rfl (lv_at hl 0 rfl) ?_
              refine gp_ald (f := (F 5)) (n := 6) hx hb hK hP 6 rfl (t) rfl (by omega) (by decide) d_M_absent_70 ?_
              refine lv_aload_n hx hb d_M_absent_71 rfl (lv_at hl 1 rfl) ?_
              refine va_get (D := E.1) (cl := gp_cl) (ci := 3) (v := .int (I 7)) (C := R_M) (T := T_M) (N := 27) hx hb hts i_M hown hK hP 0 rfl rfl 19 (by decide) (hts _ w3_71) (fun _ h9 => h9) rfl d_M_absent_72 ?_
              refine lv_icmp_ge (tgt := 82) hx hb d_M_absent_75 (by decide) (fun c75 => ?_) (fun c75 => ?_)
              · have c75 := c75
                have mc75 : ¬ (((F 5) (t)) : Int32) < (I 7) := Int32.not_lt.mpr c75
                refine lv_iconst (v := 0) hx hb d_M_absent_82 (by decide) ?_
                refine gp_zst (f := (fun j => if j < t then (if F 5 j < I 7 then 1 else 0) else F 11 j)) (n := 6) hx hb hK hP hD hS 12 rfl (t) rfl (by omega) (by decide) rfl d_M_absent_83 (fun H locs hP hD hS => ?_)
                have hP : va_P E.1 gp_cl (gp_wM E (upd (upd I 0 0) 2 (nI (ns + 1))) (gp_uF (gp_uF (gp_uF (gp_uF (gp_uF F 1 (upd (F 1) ns x)) 2 (upd (F 2) ns y)) 3 (upd (F 3) ns 96)) 11 (fun j => if j < t then (if F 5 j < I 7 then 1 else 0) else F 11 j)) 11 (upd (fun j => if j < t then (if F 5 j < I 7 then 1 else 0) else F 11 j) (t) 0))) H := hP
                have hD : va_D A (gp_wM E (upd (upd I 0 0) 2 (nI (ns + 1))) (gp_uF (gp_uF (gp_uF (gp_uF (gp_uF F 1 (upd (F 1) ns x)) 2 (upd (F 2) ns y)) 3 (upd (F 3) ns 96)) 11 (fun j => if j < t then (if F 5 j < I 7 then 1 else 0) else F 11 j)) 11 (upd (fun j => if j < t then (if F 5 j < I 7 then 1 else 0) else F 11 j) (t) 0))) := hD
                refine lv_iinc (v := (nI (t + 1))) (lv' := [(3, .int (nI (t + 1))), (0, .ref (E.2.2.2 0)), (1, .int x), (2, .int y)]) hx hb d_M_absent_84 hl (k := 0) rfl (nI_1 _) (by decide) rfl (fun ls hl => ?_)
                refine lv_goto (tgt := 52) hx hb d_M_absent_87 (by decide) ?_
                exact ih52 (t + 1) (by omega) (by omega) ls _ _ (lv_sub hl [0, 1, 2, 3] rfl) (by rw [← gp_up1 (h := fun j => if F 5 j < I 7 then 1 else 0) (k := F 11) (V := 0) (by simp [c75, mc75])]; exact hP) (gp_dd hD rfl) hS
              · have c75 := c75
                have mc75 : (((F 5) (t)) : Int32) < (I 7) := Int32.not_le.mp c75
                refine lv_iconst (v := 1) hx hb d_M_absent_78 (by decide) ?_
                refine lv_goto (tgt := 83) hx hb d_M_absent_79 (by decide) ?_
                refine gp_zst (f := (fun j => if j < t then (if F 5 j < I 7 then 1 else 0) else F 11 j)) (n := 6) hx hb hK hP hD hS 12 rfl (t) rfl (by omega) (by decide) rfl d_M_absent_83 (fun H locs hP hD hS => ?_)
                have hP : va_P E.1 gp_cl (gp_wM E (upd (upd I 0 0) 2 (nI (ns + 1))) (gp_uF (gp_uF (gp_uF (gp_uF (gp_uF F 1 (upd (F 1) ns x)) 2 (upd (F 2) ns y)) 3 (upd (F 3) ns 96)) 11 (fun j => if j < t then (if F 5 j < I 7 then 1 else 0) else F 11 j)) 11 (upd (fun j => if j < t then (if F 5 j < I 7 then 1 else 0) else F 11 j) (t) 1))) H := hP
                have hD : va_D A (gp_wM E (upd (upd I 0 0) 2 (nI (ns + 1))) (gp_uF (gp_uF (gp_uF (gp_uF (gp_uF F 1 (upd (F 1) ns x)) 2 (upd (F 2) ns y)) 3 (upd (F 3) ns 96)) 11 (fun j => if j < t then (if F 5 j < I 7 then 1 else 0) else F 11 j)) 11 (upd (fun j => if j < t then (if F 5 j < I 7 then 1 else 0) else F 11 j) (t) 1))) := hD
                refine lv_iinc (v := (nI (t + 1))) (lv' := [(3, .int (nI (t + 1))), (0, .ref (E.2.2.2 0)), (1, .int x), (2, .int y)]) hx hb d_M_absent_84 hl (k := 0) rfl (nI_1 _) (by decide) rfl (fun ls hl => ?_)
                refine lv_goto (tgt := 52) hx hb d_M_absent_87 (by decide) ?_
                exact ih52 (t + 1) (by omega) (by omega) ls _ _ (lv_sub hl [0, 1, 2, 3] rfl) (by rw [← gp_up1 (h := fun j => if F 5 j < I 7 then 1 else 0) (k := F 11) (V := 1) (by simp [c75, mc75])]; exact hP) (gp_dd hD rfl) hS
        exact L52 (nt + 1) 0 (Nat.zero_le _) (by omega) ls _ _ (lv_sub hl [0, 1, 2, 3] rfl) (by rw [← gp_F1 (F := (gp_uF (gp_uF (gp_uF F 1 (upd (F 1) ns x)) 2 (upd (F 2) ns y)) 3 (upd (F 3) ns 96))) (G := (gp_uF (gp_uF (gp_uF F 1 (upd (F 1) ns x)) 2 (upd (F 2) ns y)) 3 (upd (F 3) ns 96))) (a := 11) (f := (fun j => if j < 0 then (if F 5 j < I 7 then 1 else 0) else F 11 j)) (by funext j; simp [gp_uF]) (fun _ _ => rfl)]; exact hP) (gp_dd hD rfl) hS
      · exact absurd c37 (by decide)
set_option maxHeartbeats 4000000 in
set_option maxRecDepth 100000 in
theorem c_M_absentE1 (l : Launch) (E : gp_E) (I : Nat → Int32) (F : Nat → Nat → Int32) (ns : Nat) (x y : Int32) (h : gp_in x (I 1) = false) (hN : I 2 = nI ns) (hns : ns ≤ 20) : gp_CW l y_M_absent b_M_absent 4 (some .int) 2 E (gp_wM E I F) (gp_wM E (upd I 0 1) F) [.ref (E.2.2.2 0), .int x, .int y] (some (.int 0)) := by
  refine gp_ofW (by decide) (Nat.le_of_ble_eq_true rfl) ?_
  intro xp xe xs xm below meth xc ls A hx hb hr hts hown hlocks hml hP hK hD hA hAe hl
  have hS : va_S A xs.heap xs.heap [] := va_S.rf
  have hown : xs.vm.findClass "GuidePlansModel" = some xm.cls := hown
  have hl : lv_has ls 4 [(0, .ref (E.2.2.2 0)), (1, .int x), (2, .int y)] := hl
  refine lv_aload_n hx hb d_M_absent_0 rfl (lv_at hl 0 rfl) ?_
  refine lv_aload_n hx hb d_M_absent_1 rfl (lv_at hl 0 rfl) ?_
  refine lv_iload_n hx hb d_M_absent_2 rfl (lv_at hl 1 rfl) ?_
  refine gp_cR (q0 := 0) (ci := 3) (As := [.int x]) (rest := [.ref (E.2.2.2 0)]) ⟨hx, hb, hml, hown, hts⟩ (show gp_CR _ _ _ _ _ _ _ _ _ 0 from by have h9 := c_M_isPerson l E I F x; rw [h, if_neg (by decide)] at h9; exact h9) (k_M_77 hts ⟨by decide, by decide⟩ rfl rfl) hK hP rfl rfl rfl hl.1 rfl (Nat.le_of_ble_eq_true rfl) d_M_absent_3 ⟨Nat.le_of_ble_eq_true rfl, Nat.le_of_ble_eq_true rfl⟩ ?_
  refine lv_iload_n hx hb d_M_absent_6 rfl (lv_at hl 2 rfl) ?_
  refine lv_iconst (v := 0) hx hb d_M_absent_7 (by decide) ?_
  refine lv_bipush (v := 95) hx hb d_M_absent_8 (by decide) ?_
  refine gp_cS (As := [.int y, .int 0, .int 95]) (rest := [.int 0, .ref (E.2.2.2 0)]) ⟨hx, hb, hml, hown, hts⟩ (c_M_within l E I F y 0 95) (k_M_66 hts ⟨by decide, by decide⟩ rfl rfl) hK hP rfl hl.1 rfl (Nat.le_of_ble_eq_true rfl) d_M_absent_10 ⟨Nat.le_of_ble_eq_true rfl, Nat.le_of_ble_eq_true rfl⟩ ?_
  by_cases hs10 : gm_w y 0 95 = true
  · rw [show ((if gm_w y 0 95 then 1 else 0) : Int32) = 1 from if_pos hs10]
    refine lv_aload_n hx hb d_M_absent_13 rfl (lv_at hl 0 rfl) ?_
    refine va_get (D := E.1) (cl := gp_cl) (ci := 3) (v := .int (I 4)) (C := R_M) (T := T_M) (N := 27) hx hb hts i_M hown hK hP 0 rfl rfl 16 (by decide) (hts _ w3_68) (fun _ h9 => h9) rfl d_M_absent_14 ?_
    refine lv_if_eq (tgt := 33) hx hb d_M_absent_17 (by decide) (fun c17 => ?_) (fun c17 => ?_)
    · have c17 := c17
      refine lv_iconst (v := 0) hx hb d_M_absent_33 (by decide) ?_
      refine gp_cW (q0 := 0) (ci := 3) (As := [.int 0, .int 1, .int 0]) (rest := []) ⟨hx, hb, hml, hown, hts⟩ (show gp_CW l y_M_goes b_M_goes 4 (some .boolean) 1 E (gp_wM E I F) (gp_wM E (upd I 0 1) F) [.ref (E.2.2.2 0), .int 0, .int 1, .int 0] (some (.int 0)) from c_M_goes l E I F 0 1 0) (k_M_70 hts ⟨by decide, by decide⟩ rfl rfl) hK hP hD hS hA rfl rfl rfl rfl hl.1 rfl (Nat.le_of_ble_eq_true rfl) d_M_absent_34 ⟨Nat.le_of_ble_eq_true rfl, Nat.le_of_ble_eq_true rfl⟩ (fun H locs hP hD hS => ?_)
      have hP : va_P E.1 gp_cl (gp_wM E (upd I 0 1) F) H := hP
      have hD : va_D A (gp_wM E (upd I 0 1) F) := hD
      refine W.eq (g2 := F0 xm 37 ls [.int 0]) rfl ?_
      refine lv_if_ne (tgt := 42) hx hb d_M_absent_37 (by decide) (fun c37 => ?_) (fun c37 => ?_)
      · exact absurd c37 (by decide)
      · have c37 := c37
        have nc37 : 0 = 0 := (nI_eq (a := 0) (b := 0) (by omega) (by omega)).mp c37
        refine lv_iconst (v := 0) hx hb d_M_absent_40 (by decide) ?_
        exact gp_wi hx hb hr hlocks hAe (rfl) (hP) hS d_M_absent_41
    · have c17 := c17
      refine lv_aload_n hx hb d_M_absent_20 rfl (lv_at hl 0 rfl) ?_
      refine va_get (D := E.1) (cl := gp_cl) (ci := 3) (v := .int (nI ns)) (C := R_M) (T := T_M) (N := 27) hx hb hts i_M hown hK hP 0 rfl rfl 3 (by decide) (hts _ w3_55) (fun _ h9 => h9) (congrArg (fun z => some (Value.int z)) hN) d_M_absent_21 ?_
      refine lv_bipush (v := 20) hx hb d_M_absent_24 (by decide) ?_
      refine lv_icmp_ge (tgt := 33) hx hb d_M_absent_26 (by decide) (fun c26 => ?_) (fun c26 => ?_)
      · have c26 := c26
        have nc26 : 20 ≤ ns := (nI_leI (a := 20) (b := ns) (by omega) (by omega)).mp c26
        refine lv_iconst (v := 0) hx hb d_M_absent_33 (by decide) ?_
        refine gp_cW (q0 := 0) (ci := 3) (As := [.int 0, .int 1, .int 0]) (rest := []) ⟨hx, hb, hml, hown, hts⟩ (show gp_CW l y_M_goes b_M_goes 4 (some .boolean) 1 E (gp_wM E I F) (gp_wM E (upd I 0 1) F) [.ref (E.2.2.2 0), .int 0, .int 1, .int 0] (some (.int 0)) from c_M_goes l E I F 0 1 0) (k_M_70 hts ⟨by decide, by decide⟩ rfl rfl) hK hP hD hS hA rfl rfl rfl rfl hl.1 rfl (Nat.le_of_ble_eq_true rfl) d_M_absent_34 ⟨Nat.le_of_ble_eq_true rfl, Nat.le_of_ble_eq_true rfl⟩ (fun H locs hP hD hS => ?_)
        have hP : va_P E.1 gp_cl (gp_wM E (upd I 0 1) F) H := hP
        have hD : va_D A (gp_wM E (upd I 0 1) F) := hD
        refine W.eq (g2 := F0 xm 37 ls [.int 0]) rfl ?_
        refine lv_if_ne (tgt := 42) hx hb d_M_absent_37 (by decide) (fun c37 => ?_) (fun c37 => ?_)
        · exact absurd c37 (by decide)
        · have c37 := c37
          have nc37 : 0 = 0 := (nI_eq (a := 0) (b := 0) (by omega) (by omega)).mp c37
          refine lv_iconst (v := 0) hx hb d_M_absent_40 (by decide) ?_
          exact gp_wi hx hb hr hlocks hAe (rfl) (hP) hS d_M_absent_41
      · have c26 := c26
        have nc26 : ¬ 20 ≤ ns := fun h => c26 ((nI_leI (a := 20) (b := ns) (by omega) (by omega)).mpr h)
        refine lv_iconst (v := 1) hx hb d_M_absent_29 (by decide) ?_
        refine lv_goto (tgt := 34) hx hb d_M_absent_30 (by decide) ?_
        refine gp_cW (q0 := 0) (ci := 3) (As := [.int 0, .int 1, .int 1]) (rest := []) ⟨hx, hb, hml, hown, hts⟩ (show gp_CW l y_M_goes b_M_goes 4 (some .boolean) 1 E (gp_wM E I F) (gp_wM E (upd I 0 1) F) [.ref (E.2.2.2 0), .int 0, .int 1, .int 1] (some (.int 0)) from c_M_goes l E I F 0 1 1) (k_M_70 hts ⟨by decide, by decide⟩ rfl rfl) hK hP hD hS hA rfl rfl rfl rfl hl.1 rfl (Nat.le_of_ble_eq_true rfl) d_M_absent_34 ⟨Nat.le_of_ble_eq_true rfl, Nat.le_of_ble_eq_true rfl⟩ (fun H locs hP hD hS => ?_)
        have hP : va_P E.1 gp_cl (gp_wM E (upd I 0 1) F) H := hP
        have hD : va_D A (gp_wM E (upd I 0 1) F) := hD
        refine W.eq (g2 := F0 xm 37 ls [.int 0]) rfl ?_
        refine lv_if_ne (tgt := 42) hx hb d_M_absent_37 (by decide) (fun c37 => ?_) (fun c37 => ?_)
        · exact absurd c37 (by decide)
        · have c37 := c37
          have nc37 : 0 = 0 := (nI_eq (a := 0) (b := 0) (by omega) (by omega)).mp c37
          refine lv_iconst (v := 0) hx hb d_M_absent_40 (by decide) ?_
          exact gp_wi hx hb hr hlocks hAe (rfl) (hP) hS d_M_absent_41
  · rw [show ((if gm_w y 0 95 then 1 else 0) : Int32) = 0 from if_neg hs10]
    refine lv_aload_n hx hb d_M_absent_13 rfl (lv_at hl 0 rfl) ?_
    refine va_get (D := E.1) (cl := gp_cl) (ci := 3) (v := .int (I 4)) (C := R_M) (T := T_M) (N := 27) hx hb hts i_M hown hK hP 0 rfl rfl 16 (by decide) (hts _ w3_68) (fun _ h9 => h9) rfl d_M_absent_14 ?_
    refine lv_if_eq (tgt := 33) hx hb d_M_absent_17 (by decide) (fun c17 => ?_) (fun c17 => ?_)
    · have c17 := c17
      refine lv_iconst (v := 0) hx hb d_M_absent_33 (by decide) ?_
      refine gp_cW (q0 := 0) (ci := 3) (As := [.int 0, .int 0, .int 0]) (rest := []) ⟨hx, hb, hml, hown, hts⟩ (show gp_CW l y_M_goes b_M_goes 4 (some .boolean) 1 E (gp_wM E I F) (gp_wM E (upd I 0 1) F) [.ref (E.2.2.2 0), .int 0, .int 0, .int 0] (some (.int 0)) from c_M_goes l E I F 0 0 0) (k_M_70 hts ⟨by decide, by decide⟩ rfl rfl) hK hP hD hS hA rfl rfl rfl rfl hl.1 rfl (Nat.le_of_ble_eq_true rfl) d_M_absent_34 ⟨Nat.le_of_ble_eq_true rfl, Nat.le_of_ble_eq_true rfl⟩ (fun H locs hP hD hS => ?_)
      have hP : va_P E.1 gp_cl (gp_wM E (upd I 0 1) F) H := hP
      have hD : va_D A (gp_wM E (upd I 0 1) F) := hD
      refine W.eq (g2 := F0 xm 37 ls [.int 0]) rfl ?_
      refine lv_if_ne (tgt := 42) hx hb d_M_absent_37 (by decide) (fun c37 => ?_) (fun c37 => ?_)
      · exact absurd c37 (by decide)
      · have c37 := c37
        have nc37 : 0 = 0 := (nI_eq (a := 0) (b := 0) (by omega) (by omega)).mp c37
        refine lv_iconst (v := 0) hx hb d_M_absent_40 (by decide) ?_
        exact gp_wi hx hb hr hlocks hAe (rfl) (hP) hS d_M_absent_41
    · have c17 := c17
      refine lv_aload_n hx hb d_M_absent_20 rfl (lv_at hl 0 rfl) ?_
      refine va_get (D := E.1) (cl := gp_cl) (ci := 3) (v := .int (nI ns)) (C := R_M) (T := T_M) (N := 27) hx hb hts i_M hown hK hP 0 rfl rfl 3 (by decide) (hts _ w3_55) (fun _ h9 => h9) (congrArg (fun z => some (Value.int z)) hN) d_M_absent_21 ?_
      refine lv_bipush (v := 20) hx hb d_M_absent_24 (by decide) ?_
      refine lv_icmp_ge (tgt := 33) hx hb d_M_absent_26 (by decide) (fun c26 => ?_) (fun c26 => ?_)
      · have c26 := c26
        have nc26 : 20 ≤ ns := (nI_leI (a := 20) (b := ns) (by omega) (by omega)).mp c26
        refine lv_iconst (v := 0) hx hb d_M_absent_33 (by decide) ?_
        refine gp_cW (q0 := 0) (ci := 3) (As := [.int 0, .int 0, .int 0]) (rest := []) ⟨hx, hb, hml, hown, hts⟩ (show gp_CW l y_M_goes b_M_goes 4 (some .boolean) 1 E (gp_wM E I F) (gp_wM E (upd I 0 1) F) [.ref (E.2.2.2 0), .int 0, .int 0, .int 0] (some (.int 0)) from c_M_goes l E I F 0 0 0) (k_M_70 hts ⟨by decide, by decide⟩ rfl rfl) hK hP hD hS hA rfl rfl rfl rfl hl.1 rfl (Nat.le_of_ble_eq_true rfl) d_M_absent_34 ⟨Nat.le_of_ble_eq_true rfl, Nat.le_of_ble_eq_true rfl⟩ (fun H locs hP hD hS => ?_)
        have hP : va_P E.1 gp_cl (gp_wM E (upd I 0 1) F) H := hP
        have hD : va_D A (gp_wM E (upd I 0 1) F) := hD
        refine W.eq (g2 := F0 xm 37 ls [.int 0]) rfl ?_
        refine lv_if_ne (tgt := 42) hx hb d_M_absent_37 (by decide) (fun c37 => ?_) (fun c37 => ?_)
        · exact absurd c37 (by decide)
        · have c37 := c37
          have nc37 : 0 = 0 := (nI_eq (a := 0) (b := 0) (by omega) (by omega)).mp c37
          refine lv_iconst (v := 0) hx hb d_M_absent_40 (by decide) ?_
          exact gp_wi hx hb hr hlocks hAe (rfl) (hP) hS d_M_absent_41
      · have c26 := c26
        have nc26 : ¬ 20 ≤ ns := fun h => c26 ((nI_leI (a := 20) (b := ns) (by omega) (by omega)).mpr h)
        refine lv_iconst (v := 1) hx hb d_M_absent_29 (by decide) ?_
        refine lv_goto (tgt := 34) hx hb d_M_absent_30 (by decide) ?_
        refine gp_cW (q0 := 0) (ci := 3) (As := [.int 0, .int 0, .int 1]) (rest := []) ⟨hx, hb, hml, hown, hts⟩ (show gp_CW l y_M_goes b_M_goes 4 (some .boolean) 1 E (gp_wM E I F) (gp_wM E (upd I 0 1) F) [.ref (E.2.2.2 0), .int 0, .int 0, .int 1] (some (.int 0)) from c_M_goes l E I F 0 0 1) (k_M_70 hts ⟨by decide, by decide⟩ rfl rfl) hK hP hD hS hA rfl rfl rfl rfl hl.1 rfl (Nat.le_of_ble_eq_true rfl) d_M_absent_34 ⟨Nat.le_of_ble_eq_true rfl, Nat.le_of_ble_eq_true rfl⟩ (fun H locs hP hD hS => ?_)
        have hP : va_P E.1 gp_cl (gp_wM E (upd I 0 1) F) H := hP
        have hD : va_D A (gp_wM E (upd I 0 1) F) := hD
        refine W.eq (g2 := F0 xm 37 ls [.int 0]) rfl ?_
        refine lv_if_ne (tgt := 42) hx hb d_M_absent_37 (by decide) (fun c37 => ?_) (fun c37 => ?_)
        · exact absurd c37 (by decide)
        · have c37 := c37
          have nc37 : 0 = 0 := (nI_eq (a := 0) (b := 0) (by omega) (by omega)).mp c37
          refine lv_iconst (v := 0) hx hb d_M_absent_40 (by decide) ?_
          exact gp_wi hx hb hr hlocks hAe (rfl) (hP) hS d_M_absent_41
set_option maxHeartbeats 4000000 in
set_option maxRecDepth 100000 in
theorem c_M_absentE2 (l : Launch) (E : gp_E) (I : Nat → Int32) (F : Nat → Nat → Int32) (ns : Nat) (x y : Int32) (h : gp_in x (I 1) = true) (hw : gm_w y 0 95 = false) (hN : I 2 = nI ns) (hns : ns ≤ 20) : gp_CW l y_M_absent b_M_absent 4 (some .int) 2 E (gp_wM E I F) (gp_wM E (upd I 0 2) F) [.ref (E.2.2.2 0), .int x, .int y] (some (.int 0)) := by
  refine gp_ofW (by decide) (Nat.le_of_ble_eq_true rfl) ?_
  intro xp xe xs xm below meth xc ls A hx hb hr hts hown hlocks hml hP hK hD hA hAe hl
  have hS : va_S A xs.heap xs.heap [] := va_S.rf
  have hown : xs.vm.findClass "GuidePlansModel" = some xm.cls := hown
  have hl : lv_has ls 4 [(0, .ref (E.2.2.2 0)), (1, .int x), (2, .int y)] := hl
  refine lv_aload_n hx hb d_M_absent_0 rfl (lv_at hl 0 rfl) ?_
  refine lv_aload_n hx hb d_M_absent_1 rfl (lv_at hl 0 rfl) ?_
  refine lv_iload_n hx hb d_M_absent_2 rfl (lv_at hl 1 rfl) ?_
  refine gp_cR (q0 := 0) (ci := 3) (As := [.int x]) (rest := [.ref (E.2.2.2 0)]) ⟨hx, hb, hml, hown, hts⟩ (show gp_CR _ _ _ _ _ _ _ _ _ 1 from by have h9 := c_M_isPerson l E I F x; rw [h, if_pos rfl] at h9; exact h9) (k_M_77 hts ⟨by decide, by decide⟩ rfl rfl) hK hP rfl rfl rfl hl.1 rfl (Nat.le_of_ble_eq_true rfl) d_M_absent_3 ⟨Nat.le_of_ble_eq_true rfl, Nat.le_of_ble_eq_true rfl⟩ ?_
  refine lv_iload_n hx hb d_M_absent_6 rfl (lv_at hl 2 rfl) ?_
  refine lv_iconst (v := 0) hx hb d_M_absent_7 (by decide) ?_
  refine lv_bipush (v := 95) hx hb d_M_absent_8 (by decide) ?_
  refine gp_cS (As := [.int y, .int 0, .int 95]) (rest := [.int 1, .ref (E.2.2.2 0)]) ⟨hx, hb, hml, hown, hts⟩ (show gp_CR _ _ _ _ _ _ _ _ _ 0 from by have h9 := c_M_within l E I F y 0 95; rw [hw, if_neg (by decide)] at h9; exact h9) (k_M_66 hts ⟨by decide, by decide⟩ rfl rfl) hK hP rfl hl.1 rfl (Nat.le_of_ble_eq_true rfl) d_M_absent_10 ⟨Nat.le_of_ble_eq_true rfl, Nat.le_of_ble_eq_true rfl⟩ ?_
  refine lv_aload_n hx hb d_M_absent_13 rfl (lv_at hl 0 rfl) ?_
  refine va_get (D := E.1) (cl := gp_cl) (ci := 3) (v := .int (I 4)) (C := R_M) (T := T_M) (N := 27) hx hb hts i_M hown hK hP 0 rfl rfl 16 (by decide) (hts _ w3_68) (fun _ h9 => h9) rfl d_M_absent_14 ?_
  refine lv_if_eq (tgt := 33) hx hb d_M_absent_17 (by decide) (fun c17 => ?_) (fun c17 => ?_)
  · have c17 := c17
    refine lv_iconst (v := 0) hx hb d_M_absent_33 (by decide) ?_
    refine gp_cW (q0 := 0) (ci := 3) (As := [.int 1, .int 0, .int 0]) (rest := []) ⟨hx, hb, hml, hown, hts⟩ (show gp_CW l y_M_goes b_M_goes 4 (some .boolean) 1 E (gp_wM E I F) (gp_wM E (upd I 0 2) F) [.ref (E.2.2.2 0), .int 1, .int 0, .int 0] (some (.int 0)) from c_M_goes l E I F 1 0 0) (k_M_70 hts ⟨by decide, by decide⟩ rfl rfl) hK hP hD hS hA rfl rfl rfl rfl hl.1 rfl (Nat.le_of_ble_eq_true rfl) d_M_absent_34 ⟨Nat.le_of_ble_eq_true rfl, Nat.le_of_ble_eq_true rfl⟩ (fun H locs hP hD hS => ?_)
    have hP : va_P E.1 gp_cl (gp_wM E (upd I 0 2) F) H := hP
    have hD : va_D A (gp_wM E (upd I 0 2) F) := hD
    refine W.eq (g2 := F0 xm 37 ls [.int 0]) rfl ?_
    refine lv_if_ne (tgt := 42) hx hb d_M_absent_37 (by decide) (fun c37 => ?_) (fun c37 => ?_)
    · exact absurd c37 (by decide)
    · have c37 := c37
      have nc37 : 0 = 0 := (nI_eq (a := 0) (b := 0) (by omega) (by omega)).mp c37
      refine lv_iconst (v := 0) hx hb d_M_absent_40 (by decide) ?_
      exact gp_wi hx hb hr hlocks hAe (rfl) (hP) hS d_M_absent_41
  · have c17 := c17
    refine lv_aload_n hx hb d_M_absent_20 rfl (lv_at hl 0 rfl) ?_
    refine va_get (D := E.1) (cl := gp_cl) (ci := 3) (v := .int (nI ns)) (C := R_M) (T := T_M) (N := 27) hx hb hts i_M hown hK hP 0 rfl rfl 3 (by decide) (hts _ w3_55) (fun _ h9 => h9) (congrArg (fun z => some (Value.int z)) hN) d_M_absent_21 ?_
    refine lv_bipush (v := 20) hx hb d_M_absent_24 (by decide) ?_
    refine lv_icmp_ge (tgt := 33) hx hb d_M_absent_26 (by decide) (fun c26 => ?_) (fun c26 => ?_)
    · have c26 := c26
      have nc26 : 20 ≤ ns := (nI_leI (a := 20) (b := ns) (by omega) (by omega)).mp c26
      refine lv_iconst (v := 0) hx hb d_M_absent_33 (by decide) ?_
      refine gp_cW (q0 := 0) (ci := 3) (As := [.int 1, .int 0, .int 0]) (rest := []) ⟨hx, hb, hml, hown, hts⟩ (show gp_CW l y_M_goes b_M_goes 4 (some .boolean) 1 E (gp_wM E I F) (gp_wM E (upd I 0 2) F) [.ref (E.2.2.2 0), .int 1, .int 0, .int 0] (some (.int 0)) from c_M_goes l E I F 1 0 0) (k_M_70 hts ⟨by decide, by decide⟩ rfl rfl) hK hP hD hS hA rfl rfl rfl rfl hl.1 rfl (Nat.le_of_ble_eq_true rfl) d_M_absent_34 ⟨Nat.le_of_ble_eq_true rfl, Nat.le_of_ble_eq_true rfl⟩ (fun H locs hP hD hS => ?_)
      have hP : va_P E.1 gp_cl (gp_wM E (upd I 0 2) F) H := hP
      have hD : va_D A (gp_wM E (upd I 0 2) F) := hD
      refine W.eq (g2 := F0 xm 37 ls [.int 0]) rfl ?_
      refine lv_if_ne (tgt := 42) hx hb d_M_absent_37 (by decide) (fun c37 => ?_) (fun c37 => ?_)
      · exact absurd c37 (by decide)
      · have c37 := c37
        have nc37 : 0 = 0 := (nI_eq (a := 0) (b := 0) (by omega) (by omega)).mp c37
        refine lv_iconst (v := 0) hx hb d_M_absent_40 (by decide) ?_
        exact gp_wi hx hb hr hlocks hAe (rfl) (hP) hS d_M_absent_41
    · have c26 := c26
      have nc26 : ¬ 20 ≤ ns := fun h => c26 ((nI_leI (a := 20) (b := ns) (by omega) (by omega)).mpr h)
      refine lv_iconst (v := 1) hx hb d_M_absent_29 (by decide) ?_
      refine lv_goto (tgt := 34) hx hb d_M_absent_30 (by decide) ?_
      refine gp_cW (q0 := 0) (ci := 3) (As := [.int 1, .int 0, .int 1]) (rest := []) ⟨hx, hb, hml, hown, hts⟩ (show gp_CW l y_M_goes b_M_goes 4 (some .boolean) 1 E (gp_wM E I F) (gp_wM E (upd I 0 2) F) [.ref (E.2.2.2 0), .int 1, .int 0, .int 1] (some (.int 0)) from c_M_goes l E I F 1 0 1) (k_M_70 hts ⟨by decide, by decide⟩ rfl rfl) hK hP hD hS hA rfl rfl rfl rfl hl.1 rfl (Nat.le_of_ble_eq_true rfl) d_M_absent_34 ⟨Nat.le_of_ble_eq_true rfl, Nat.le_of_ble_eq_true rfl⟩ (fun H locs hP hD hS => ?_)
      have hP : va_P E.1 gp_cl (gp_wM E (upd I 0 2) F) H := hP
      have hD : va_D A (gp_wM E (upd I 0 2) F) := hD
      refine W.eq (g2 := F0 xm 37 ls [.int 0]) rfl ?_
      refine lv_if_ne (tgt := 42) hx hb d_M_absent_37 (by decide) (fun c37 => ?_) (fun c37 => ?_)
      · exact absurd c37 (by decide)
      · have c37 := c37
        have nc37 : 0 = 0 := (nI_eq (a := 0) (b := 0) (by omega) (by omega)).mp c37
        refine lv_iconst (v := 0) hx hb d_M_absent_40 (by decide) ?_
        exact gp_wi hx hb hr hlocks hAe (rfl) (hP) hS d_M_absent_41
set_option maxHeartbeats 4000000 in
set_option maxRecDepth 100000 in
theorem c_M_absentE3 (l : Launch) (E : gp_E) (I : Nat → Int32) (F : Nat → Nat → Int32) (ns : Nat) (x y : Int32) (h : gp_in x (I 1) = true) (hw : gm_w y 0 95 = true) (hq : I 4 = 0 ∨ ns = 20) (hN : I 2 = nI ns) (hns : ns ≤ 20) : gp_CW l y_M_absent b_M_absent 4 (some .int) 2 E (gp_wM E I F) (gp_wM E (upd I 0 3) F) [.ref (E.2.2.2 0), .int x, .int y] (some (.int 0)) := by
  refine gp_ofW (by decide) (Nat.le_of_ble_eq_true rfl) ?_
  intro xp xe xs xm below meth xc ls A hx hb hr hts hown hlocks hml hP hK hD hA hAe hl
  have hS : va_S A xs.heap xs.heap [] := va_S.rf
  have hown : xs.vm.findClass "GuidePlansModel" = some xm.cls := hown
  have hl : lv_has ls 4 [(0, .ref (E.2.2.2 0)), (1, .int x), (2, .int y)] := hl
  refine lv_aload_n hx hb d_M_absent_0 rfl (lv_at hl 0 rfl) ?_
  refine lv_aload_n hx hb d_M_absent_1 rfl (lv_at hl 0 rfl) ?_
  refine lv_iload_n hx hb d_M_absent_2 rfl (lv_at hl 1 rfl) ?_
  refine gp_cR (q0 := 0) (ci := 3) (As := [.int x]) (rest := [.ref (E.2.2.2 0)]) ⟨hx, hb, hml, hown, hts⟩ (show gp_CR _ _ _ _ _ _ _ _ _ 1 from by have h9 := c_M_isPerson l E I F x; rw [h, if_pos rfl] at h9; exact h9) (k_M_77 hts ⟨by decide, by decide⟩ rfl rfl) hK hP rfl rfl rfl hl.1 rfl (Nat.le_of_ble_eq_true rfl) d_M_absent_3 ⟨Nat.le_of_ble_eq_true rfl, Nat.le_of_ble_eq_true rfl⟩ ?_
  refine lv_iload_n hx hb d_M_absent_6 rfl (lv_at hl 2 rfl) ?_
  refine lv_iconst (v := 0) hx hb d_M_absent_7 (by decide) ?_
  refine lv_bipush (v := 95) hx hb d_M_absent_8 (by decide) ?_
  refine gp_cS (As := [.int y, .int 0, .int 95]) (rest := [.int 1, .ref (E.2.2.2 0)]) ⟨hx, hb, hml, hown, hts⟩ (show gp_CR _ _ _ _ _ _ _ _ _ 1 from by have h9 := c_M_within l E I F y 0 95; rw [hw, if_pos rfl] at h9; exact h9) (k_M_66 hts ⟨by decide, by decide⟩ rfl rfl) hK hP rfl hl.1 rfl (Nat.le_of_ble_eq_true rfl) d_M_absent_10 ⟨Nat.le_of_ble_eq_true rfl, Nat.le_of_ble_eq_true rfl⟩ ?_
  refine lv_aload_n hx hb d_M_absent_13 rfl (lv_at hl 0 rfl) ?_
  refine va_get (D := E.1) (cl := gp_cl) (ci := 3) (v := .int (I 4)) (C := R_M) (T := T_M) (N := 27) hx hb hts i_M hown hK hP 0 rfl rfl 16 (by decide) (hts _ w3_68) (fun _ h9 => h9) rfl d_M_absent_14 ?_
  refine lv_if_eq (tgt := 33) hx hb d_M_absent_17 (by decide) (fun c17 => ?_) (fun c17 => ?_)
  · have c17 := c17
    refine lv_iconst (v := 0) hx hb d_M_absent_33 (by decide) ?_
    refine gp_cW (q0 := 0) (ci := 3) (As := [.int 1, .int 1, .int 0]) (rest := []) ⟨hx, hb, hml, hown, hts⟩ (show gp_CW l y_M_goes b_M_goes 4 (some .boolean) 1 E (gp_wM E I F) (gp_wM E (upd I 0 3) F) [.ref (E.2.2.2 0), .int 1, .int 1, .int 0] (some (.int 0)) from c_M_goes l E I F 1 1 0) (k_M_70 hts ⟨by decide, by decide⟩ rfl rfl) hK hP hD hS hA rfl rfl rfl rfl hl.1 rfl (Nat.le_of_ble_eq_true rfl) d_M_absent_34 ⟨Nat.le_of_ble_eq_true rfl, Nat.le_of_ble_eq_true rfl⟩ (fun H locs hP hD hS => ?_)
    have hP : va_P E.1 gp_cl (gp_wM E (upd I 0 3) F) H := hP
    have hD : va_D A (gp_wM E (upd I 0 3) F) := hD
    refine W.eq (g2 := F0 xm 37 ls [.int 0]) rfl ?_
    refine lv_if_ne (tgt := 42) hx hb d_M_absent_37 (by decide) (fun c37 => ?_) (fun c37 => ?_)
    · exact absurd c37 (by decide)
    · have c37 := c37
      have nc37 : 0 = 0 := (nI_eq (a := 0) (b := 0) (by omega) (by omega)).mp c37
      refine lv_iconst (v := 0) hx hb d_M_absent_40 (by decide) ?_
      exact gp_wi hx hb hr hlocks hAe (rfl) (hP) hS d_M_absent_41
  · have c17 := c17
    refine lv_aload_n hx hb d_M_absent_20 rfl (lv_at hl 0 rfl) ?_
    refine va_get (D := E.1) (cl := gp_cl) (ci := 3) (v := .int (nI ns)) (C := R_M) (T := T_M) (N := 27) hx hb hts i_M hown hK hP 0 rfl rfl 3 (by decide) (hts _ w3_55) (fun _ h9 => h9) (congrArg (fun z => some (Value.int z)) hN) d_M_absent_21 ?_
    refine lv_bipush (v := 20) hx hb d_M_absent_24 (by decide) ?_
    refine lv_icmp_ge (tgt := 33) hx hb d_M_absent_26 (by decide) (fun c26 => ?_) (fun c26 => ?_)
    · have c26 := c26
      have nc26 : 20 ≤ ns := (nI_leI (a := 20) (b := ns) (by omega) (by omega)).mp c26
      refine lv_iconst (v := 0) hx hb d_M_absent_33 (by decide) ?_
      refine gp_cW (q0 := 0) (ci := 3) (As := [.int 1, .int 1, .int 0]) (rest := []) ⟨hx, hb, hml, hown, hts⟩ (show gp_CW l y_M_goes b_M_goes 4 (some .boolean) 1 E (gp_wM E I F) (gp_wM E (upd I 0 3) F) [.ref (E.2.2.2 0), .int 1, .int 1, .int 0] (some (.int 0)) from c_M_goes l E I F 1 1 0) (k_M_70 hts ⟨by decide, by decide⟩ rfl rfl) hK hP hD hS hA rfl rfl rfl rfl hl.1 rfl (Nat.le_of_ble_eq_true rfl) d_M_absent_34 ⟨Nat.le_of_ble_eq_true rfl, Nat.le_of_ble_eq_true rfl⟩ (fun H locs hP hD hS => ?_)
      have hP : va_P E.1 gp_cl (gp_wM E (upd I 0 3) F) H := hP
      have hD : va_D A (gp_wM E (upd I 0 3) F) := hD
      refine W.eq (g2 := F0 xm 37 ls [.int 0]) rfl ?_
      refine lv_if_ne (tgt := 42) hx hb d_M_absent_37 (by decide) (fun c37 => ?_) (fun c37 => ?_)
      · exact absurd c37 (by decide)
      · have c37 := c37
        have nc37 : 0 = 0 := (nI_eq (a := 0) (b := 0) (by omega) (by omega)).mp c37
        refine lv_iconst (v := 0) hx hb d_M_absent_40 (by decide) ?_
        exact gp_wi hx hb hr hlocks hAe (rfl) (hP) hS d_M_absent_41
    · have c26 := c26
      have nc26 : ¬ 20 ≤ ns := fun h => c26 ((nI_leI (a := 20) (b := ns) (by omega) (by omega)).mpr h)
      exact (hq.elim (fun z => c17 z) (fun z => by omega)).elim
set_option maxHeartbeats 4000000 in
set_option maxRecDepth 100000 in
theorem c_M_fair (l : Launch) (E : gp_E) (I : Nat → Int32) (F : Nat → Nat → Int32) (np nt : Nat) (hp4 : I 1 = nI np) (hnp : np ≤ 4) (hT : I 3 = nI nt) (hnt : nt ≤ 6) : gp_CW l y_M_fair b_M_fair 6 (some .int) 1 E (gp_wM E I F) (gp_wM E (upd I 0 0) F) [.ref (E.2.2.2 0)] (some (.int (if np = 0 then 0 else gp_fm (F 8) nt np - gm_fw (F 8) nt np))) := by
  refine gp_ofW (by decide) (Nat.le_of_ble_eq_true rfl) ?_
  intro xp xe xs xm below meth xc ls A hx hb hr hts hown hlocks hml hP hK hD hA hAe hl
  have hS : va_S A xs.heap xs.heap [] := va_S.rf
  have hown : xs.vm.findClass "GuidePlansModel" = some xm.cls := hown
  have hl : lv_has ls 6 [(0, .ref (E.2.2.2 0))] := hl
  refine lv_aload_n hx hb d_M_fair_0 rfl (lv_at hl 0 rfl) ?_
  refine lv_iconst (v := 0) hx hb d_M_fair_1 (by decide) ?_
  refine va_put (D := E.1) (cl := gp_cl) (ci := 3) (v := .int 0) (ty := .int) (C := R_M) (T := T_M) (N := 27) hx hb hts i_M t_M t_M_ok n_M hown hK hP hD hS 0 rfl rfl 0 (by decide) (hts _ w3_52) (fun _ h9 => h9) rfl (by decide +kernel) rfl rfl (Nat.le_of_ble_eq_true rfl) d_M_fair_2 (fun H locs hP hD hS => ?_)
  have hP : va_P E.1 gp_cl (gp_wM E (upd I 0 0) F) H := hP
  have hD : va_D A (gp_wM E (upd I 0 0) F) := hD
  refine lv_iconst (v := 0) hx hb d_M_fair_5 (by decide) ?_
  refine lv_istore_n (lv' := [(1, .int 0), (0, .ref (E.2.2.2 0))]) hx hb d_M_fair_6 rfl hl (by decide) rfl (fun ls hl => ?_)
  refine lv_bipush (v := 99) hx hb d_M_fair_7 (by decide) ?_
  refine lv_istore_n (lv' := [(2, .int 99), (1, .int 0), (0, .ref (E.2.2.2 0))]) hx hb d_M_fair_9 rfl hl (by decide) rfl (fun ls hl => ?_)
  refine lv_iconst (v := 0) hx hb d_M_fair_10 (by decide) ?_
  refine lv_istore_n (lv' := [(3, .int 0), (2, .int 99), (1, .int 0), (0, .ref (E.2.2.2 0))]) hx hb d_M_fair_11 rfl hl (by decide) rfl (fun ls hl => ?_)
  have L12 : ∀ (n : Nat) (p : Nat), p ≤ np → np + 1 ≤ p + n → ∀ (ls : Array Slot) (H : Heap) (locs : List Loc), lv_has ls 6 [(3, .int (nI p)), (2, .int (gm_fw (F 8) nt p)), (1, .int (gp_fm (F 8) nt p)), (0, .ref (E.2.2.2 0))] → va_P E.1 gp_cl (gp_wM E (upd I 0 0) F) H → va_D A (gp_wM E (upd I 0 0) F) → va_S A xs.heap H locs → W xp l xe (gp_rm 1 0 0) xs xm ([.ref (E.2.2.2 0)] : List Value).toArray below meth xc H locs 0 0 (MQ below (gp_QW E (some (.int (if np = 0 then 0 else gp_fm (F 8) nt np - gm_fw (F 8) nt np))) (gp_wM E I F) (gp_wM E (upd I 0 0) F) xs.heap.size) ([.ref (E.2.2.2 0)] : List Value).toArray xs 0 0 A) (F0 xm 12 ls []) := by
    intro n
    induction n with
    | zero =>
      intro p q1 hm
      exact absurd hm (by omega)
    | succ n ih12 =>
      intro p q1 hm ls H locs hl hP hD hS
      refine lv_iload_n hx hb d_M_fair_12 rfl (lv_at hl 0 rfl) ?_
      refine lv_aload_n hx hb d_M_fair_13 rfl (lv_at hl 3 rfl) ?_
      refine va_get (D := E.1) (cl := gp_cl) (ci := 3) (v := .int (nI np)) (C := R_M) (T := T_M) (N := 27) hx hb hts i_M hown hK hP 0 rfl rfl 1 (by decide) (hts _ w3_53) (fun _ h9 => h9) (congrArg (fun z => some (Value.int z)) hp4) d_M_fair_14 ?_
      refine lv_icmp_ge (tgt := 95) hx hb d_M_fair_17 (by decide) (fun c17 => ?_) (fun c17 => ?_)
      · have c17 := c17
        have nc17 : np ≤ p := (nI_leI (a := np) (b := p) (by omega) (by omega)).mp c17
        refine lv_aload_n hx hb d_M_fair_95 rfl (lv_at hl 3 rfl) ?_
        refine va_get (D := E.1) (cl := gp_cl) (ci := 3) (v := .int (nI np)) (C := R_M) (T := T_M) (N := 27) hx hb hts i_M hown hK hP 0 rfl rfl 1 (by decide) (hts _ w3_53) (fun _ h9 => h9) (congrArg (fun z => some (Value.int z)) hp4) d_M_fair_96 ?_
        refine lv_if_ne (tgt := 106) hx hb d_M_fair_99 (by decide) (fun c99 => ?_) (fun c99 => ?_)
        · have c99 := c99
          have nc99 : ¬ np = 0 := fun h => c99 ((nI_eq (a := np) (b := 0) (by omega) (by omega)).mpr h)
          refine lv_iload_n hx hb d_M_fair_106 rfl (lv_at hl 2 rfl) ?_
          refine lv_iload_n hx hb d_M_fair_107 rfl (lv_at hl 1 rfl) ?_
          refine lv_isub hx hb d_M_fair_108 ?_
          exact gp_wi hx hb hr hlocks hAe (by first | (rw [if_pos nc99]; done) | (rw [if_neg nc99, show np = p by omega])) (hP) hS d_M_fair_109
        · have c99 := c99
          have nc99 : np = 0 := (nI_eq (a := np) (b := 0) (by omega) (by omega)).mp c99
          refine lv_iconst (v := 0) hx hb d_M_fair_102 (by decide) ?_
          refine lv_goto (tgt := 109) hx hb d_M_fair_103 (by decide) ?_
          exact gp_wi hx hb hr hlocks hAe (by first | (rw [if_pos nc99]; done) | (rw [if_neg nc99, show np = p by omega])) (hP) hS d_M_fair_109
      · have c17 := c17
        have nc17 : ¬ np ≤ p := fun h => c17 ((nI_leI (a := np) (b := p) (by omega) (by omega)).mpr h)
        refine lv_iconst (v := 0) hx hb d_M_fair_20 (by decide) ?_
        refine lv_istore (lv' := [(4, .int 0), (3, .int (nI p)), (2, .int (gm_fw (F 8) nt p)), (1, .int (gp_fm (F 8) nt p)), (0, .ref (E.2.2.2 0))]) hx hb d_M_fair_21 hl (by decide) rfl (fun ls hl => ?_)
        refine lv_iconst (v := 0) hx hb d_M_fair_23 (by decide) ?_
        refine lv_istore (lv' := [(5, .int 0), (4, .int 0), (3, .int (nI p)), (2, .int (gm_fw (F 8) nt p)), (1, .int (gp_fm (F 8) nt p)), (0, .ref (E.2.2.2 0))]) hx hb d_M_fair_24 hl (by decide) rfl (fun ls hl => ?_)
        have L26 : ∀ (n : Nat) (t : Nat), t ≤ nt → nt + 1 ≤ t + n → ∀ (ls : Array Slot) (H : Heap) (locs : List Loc), lv_has ls 6 [(5, .int (nI t)), (4, .int (gp_nu (F 8) (nI p) t)), (3, .int (nI p)), (2, .int (gm_fw (F 8) nt p)), (1, .int (gp_fm (F 8) nt p)), (0, .ref (E.2.2.2 0))] → va_P E.1 gp_cl (gp_wM E (upd I 0 0) F) H → va_D A (gp_wM E (upd I 0 0) F) → va_S A xs.heap H locs → W xp l xe (gp_rm 1 0 0) xs xm ([.ref (E.2.2.2 0)] : List Value).toArray below meth xc H locs 0 0 (MQ below (gp_QW E (some (.int (if np = 0 then 0 else gp_fm (F 8) nt np - gm_fw (F 8) nt np))) (gp_wM E I F) (gp_wM E (upd I 0 0) F) xs.heap.size) ([.ref (E.2.2.2 0)] : List Value).toArray xs 0 0 A) (F0 xm 26 ls []) := by
          intro n
          induction n with
          | zero =>
            intro t k1 hm
            exact absurd hm (by omega)
          | succ n ih26 =>
            intro t k1 hm ls H locs hl hP hD hS
            refine lv_iload hx hb d_M_fair_26 (lv_at hl 0 rfl) ?_
            refine lv_aload_n hx hb d_M_fair_28 rfl (lv_at hl 5 rfl) ?_
            refine va_get (D := E.1) (cl := gp_cl) (ci := 3) (v := .int (nI nt)) (C := R_M) (T := T_M) (N := 27) hx hb hts i_M hown hK hP 0 rfl rfl 7 (by decide) (hts _ w3_59) (fun _ h9 => h9) (congrArg (fun z => some (Value.int z)) hT) d_M_fair_29 ?_
            refine lv_icmp_ge (tgt := 63) hx hb d_M_fair_32 (by decide) (fun c32 => ?_) (fun c32 => ?_)
            · have c32 := c32
              have nc32 : nt ≤ t := (nI_leI (a := nt) (b := t) (by omega) (by omega)).mp c32
              have hte : nt = t := by omega
              subst hte
              refine lv_iload hx hb d_M_fair_63 (lv_at hl 1 rfl) ?_
              refine lv_iload_n hx hb d_M_fair_65 rfl (lv_at hl 4 rfl) ?_
              refine lv_icmp_le (tgt := 74) hx hb d_M_fair_66 (by decide) (fun c66 => ?_) (fun c66 => ?_)
              · have c66 := c66
                have mc66 : ¬ ((gp_fm (F 8) nt p) : Int32) < (gp_nu (F 8) (nI p) nt) := Int32.not_lt.mpr c66
                refine lv_iload_n hx hb d_M_fair_74 rfl (lv_at hl 4 rfl) ?_
                refine lv_istore_n (lv' := [(1, .int (gp_fm (F 8) nt p)), (5, .int (nI nt)), (4, .int (gp_nu (F 8) (nI p) nt)), (3, .int (nI p)), (2, .int (gm_fw (F 8) nt p)), (0, .ref (E.2.2.2 0))]) hx hb d_M_fair_75 rfl hl (by decide) rfl (fun ls hl => ?_)
                refine lv_iload hx hb d_M_fair_76 (lv_at hl 2 rfl) ?_
                refine lv_iload_n hx hb d_M_fair_78 rfl (lv_at hl 4 rfl) ?_
                refine lv_icmp_ge (tgt := 87) hx hb d_M_fair_79 (by decide) (fun c79 => ?_) (fun c79 => ?_)
                · have c79 := c79
                  have mc79 : ¬ ((gp_nu (F 8) (nI p) nt) : Int32) < (gm_fw (F 8) nt p) := Int32.not_lt.mpr c79
                  refine lv_iload_n hx hb d_M_fair_87 rfl (lv_at hl 4 rfl) ?_
                  refine lv_istore_n (lv' := [(2, .int (gm_fw (F 8) nt p)), (1, .int (gp_fm (F 8) nt p)), (5, .int (nI nt)), (4, .int (gp_nu (F 8) (nI p) nt)), (3, .int (nI p)), (0, .ref (E.2.2.2 0))]) hx hb d_M_fair_88 rfl hl (by decide) rfl (fun ls hl => ?_)
                  refine lv_iinc (v := (nI (p + 1))) (lv' := [(3, .int (nI (p + 1))), (2, .int (gm_fw (F 8) nt p)), (1, .int (gp_fm (F 8) nt p)), (5, .int (nI nt)), (4, .int (gp_nu (F 8) (nI p) nt)), (0, .ref (E.2.2.2 0))]) hx hb d_M_fair_89 hl (k := 4) rfl (nI_1 _) (by decide) rfl (fun ls hl => ?_)
                  refine lv_goto (tgt := 12) hx hb d_M_fair_92 (by decide) ?_
                  have hl : lv_has ls 6 [(3, .int (nI (p + 1))), (2, .int (gm_fw (F 8) nt p)), (1, .int (gp_fm (F 8) nt (p + 1))), (5, .int (nI nt)), (4, .int (gp_nu (F 8) (nI p) nt)), (0, .ref (E.2.2.2 0))] := by rw [← (show ((gp_fm (F 8) nt p) : Int32) = (gp_fm (F 8) nt (p + 1)) from by simp [gp_fm, c66, mc66])]; exact hl
                  have hl : lv_has ls 6 [(3, .int (nI (p + 1))), (2, .int (gm_fw (F 8) nt (p + 1))), (1, .int (gp_fm (F 8) nt (p + 1))), (5, .int (nI nt)), (4, .int (gp_nu (F 8) (nI p) nt)), (0, .ref (E.2.2.2 0))] := by rw [← (show ((gm_fw (F 8) nt p) : Int32) = (gm_fw (F 8) nt (p + 1)) from by simp [gm_fw, c79, mc79])]; exact hl
                  exact ih12 (p + 1) (by omega) (by omega) ls _ _ (lv_sub hl [0, 1, 2, 5] rfl) (hP) (hD) hS
                · have c79 := c79
                  have mc79 : ((gp_nu (F 8) (nI p) nt) : Int32) < (gm_fw (F 8) nt p) := Int32.not_le.mp c79
                  refine lv_iload hx hb d_M_fair_82 (lv_at hl 2 rfl) ?_
                  refine lv_goto (tgt := 88) hx hb d_M_fair_84 (by decide) ?_
                  refine lv_istore_n (lv' := [(2, .int (gp_nu (F 8) (nI p) nt)), (1, .int (gp_fm (F 8) nt p)), (5, .int (nI nt)), (4, .int (gp_nu (F 8) (nI p) nt)), (3, .int (nI p)), (0, .ref (E.2.2.2 0))]) hx hb d_M_fair_88 rfl hl (by decide) rfl (fun ls hl => ?_)
                  refine lv_iinc (v := (nI (p + 1))) (lv' := [(3, .int (nI (p + 1))), (2, .int (gp_nu (F 8) (nI p) nt)), (1, .int (gp_fm (F 8) nt p)), (5, .int (nI nt)), (4, .int (gp_nu (F 8) (nI p) nt)), (0, .ref (E.2.2.2 0))]) hx hb d_M_fair_89 hl (k := 4) rfl (nI_1 _) (by decide) rfl (fun ls hl => ?_)
                  refine lv_goto (tgt := 12) hx hb d_M_fair_92 (by decide) ?_
                  have hl : lv_has ls 6 [(3, .int (nI (p + 1))), (2, .int (gp_nu (F 8) (nI p) nt)), (1, .int (gp_fm (F 8) nt (p + 1))), (5, .int (nI nt)), (4, .int (gp_nu (F 8) (nI p) nt)), (0, .ref (E.2.2.2 0))] := by rw [← (show ((gp_fm (F 8) nt p) : Int32) = (gp_fm (F 8) nt (p + 1)) from by simp [gp_fm, c66, mc66])]; exact hl
                  have hl : lv_has ls 6 [(3, .int (nI (p + 1))), (2, .int (gm_fw (F 8) nt (p + 1))), (1, .int (gp_fm (F 8) nt (p + 1))), (5, .int (nI nt)), (4, .int (gp_nu (F 8) (nI p) nt)), (0, .ref (E.2.2.2 0))] := by rw [← (show ((gp_nu (F 8) (nI p) nt) : Int32) = (gm_fw (F 8) nt (p + 1)) from by simp [gm_fw, c79, mc79])]; exact hl
                  exact ih12 (p + 1) (by omega) (by omega) ls _ _ (lv_sub hl [0, 1, 2, 5] rfl) (hP) (hD) hS
              · have c66 := c66
                have mc66 : ((gp_fm (F 8) nt p) : Int32) < (gp_nu (F 8) (nI p) nt) := Int32.not_le.mp c66
                refine lv_iload hx hb d_M_fair_69 (lv_at hl 1 rfl) ?_
                refine lv_goto (tgt := 75) hx hb d_M_fair_71 (by decide) ?_
                refine lv_istore_n (lv' := [(1, .int (gp_nu (F 8) (nI p) nt)), (5, .int (nI nt)), (4, .int (gp_nu (F 8) (nI p) nt)), (3, .int (nI p)), (2, .int (gm_fw (F 8) nt p)), (0, .ref (E.2.2.2 0))]) hx hb d_M_fair_75 rfl hl (by decide) rfl (fun ls hl => ?_)
                refine lv_iload hx hb d_M_fair_76 (lv_at hl 2 rfl) ?_
                refine lv_iload_n hx hb d_M_fair_78 rfl (lv_at hl 4 rfl) ?_
                refine lv_icmp_ge (tgt := 87) hx hb d_M_fair_79 (by decide) (fun c79 => ?_) (fun c79 => ?_)
                · have c79 := c79
                  have mc79 : ¬ ((gp_nu (F 8) (nI p) nt) : Int32) < (gm_fw (F 8) nt p) := Int32.not_lt.mpr c79
                  refine lv_iload_n hx hb d_M_fair_87 rfl (lv_at hl 4 rfl) ?_
                  refine lv_istore_n (lv' := [(2, .int (gm_fw (F 8) nt p)), (1, .int (gp_nu (F 8) (nI p) nt)), (5, .int (nI nt)), (4, .int (gp_nu (F 8) (nI p) nt)), (3, .int (nI p)), (0, .ref (E.2.2.2 0))]) hx hb d_M_fair_88 rfl hl (by decide) rfl (fun ls hl => ?_)
                  refine lv_iinc (v := (nI (p + 1))) (lv' := [(3, .int (nI (p + 1))), (2, .int (gm_fw (F 8) nt p)), (1, .int (gp_nu (F 8) (nI p) nt)), (5, .int (nI nt)), (4, .int (gp_nu (F 8) (nI p) nt)), (0, .ref (E.2.2.2 0))]) hx hb d_M_fair_89 hl (k := 4) rfl (nI_1 _) (by decide) rfl (fun ls hl => ?_)
                  refine lv_goto (tgt := 12) hx hb d_M_fair_92 (by decide) ?_
                  have hl : lv_has ls 6 [(3, .int (nI (p + 1))), (2, .int (gm_fw (F 8) nt p)), (1, .int (gp_fm (F 8) nt (p + 1))), (5, .int (nI nt)), (4, .int (gp_nu (F 8) (nI p) nt)), (0, .ref (E.2.2.2 0))] := by rw [← (show ((gp_nu (F 8) (nI p) nt) : Int32) = (gp_fm (F 8) nt (p + 1)) from by simp [gp_fm, c66, mc66])]; exact hl
                  have hl : lv_has ls 6 [(3, .int (nI (p + 1))), (2, .int (gm_fw (F 8) nt (p + 1))), (1, .int (gp_fm (F 8) nt (p + 1))), (5, .int (nI nt)), (4, .int (gp_nu (F 8) (nI p) nt)), (0, .ref (E.2.2.2 0))] := by rw [← (show ((gm_fw (F 8) nt p) : Int32) = (gm_fw (F 8) nt (p + 1)) from by simp [gm_fw, c79, mc79])]; exact hl
                  exact ih12 (p + 1) (by omega) (by omega) ls _ _ (lv_sub hl [0, 1, 2, 5] rfl) (hP) (hD) hS
                · have c79 := c79
                  have mc79 : ((gp_nu (F 8) (nI p) nt) : Int32) < (gm_fw (F 8) nt p) := Int32.not_le.mp c79
                  refine lv_iload hx hb d_M_fair_82 (lv_at hl 2 rfl) ?_
                  refine lv_goto (tgt := 88) hx hb d_M_fair_84 (by decide) ?_
                  refine lv_istore_n (lv' := [(2, .int (gp_nu (F 8) (nI p) nt)), (1, .int (gp_nu (F 8) (nI p) nt)), (5, .int (nI nt)), (4, .int (gp_nu (F 8) (nI p) nt)), (3, .int (nI p)), (0, .ref (E.2.2.2 0))]) hx hb d_M_fair_88 rfl hl (by decide) rfl (fun ls hl => ?_)
                  refine lv_iinc (v := (nI (p + 1))) (lv' := [(3, .int (nI (p + 1))), (2, .int (gp_nu (F 8) (nI p) nt)), (1, .int (gp_nu (F 8) (nI p) nt)), (5, .int (nI nt)), (4, .int (gp_nu (F 8) (nI p) nt)), (0, .ref (E.2.2.2 0))]) hx hb d_M_fair_89 hl (k := 4) rfl (nI_1 _) (by decide) rfl (fun ls hl => ?_)
                  refine lv_goto (tgt := 12) hx hb d_M_fair_92 (by decide) ?_
                  have hl : lv_has ls 6 [(3, .int (nI (p + 1))), (2, .int (gp_nu (F 8) (nI p) nt)), (1, .int (gp_fm (F 8) nt (p + 1))), (5, .int (nI nt)), (4, .int (gp_nu (F 8) (nI p) nt)), (0, .ref (E.2.2.2 0))] := by rw [← (show ((gp_nu (F 8) (nI p) nt) : Int32) = (gp_fm (F 8) nt (p + 1)) from by simp [gp_fm, c66, mc66])]; exact hl
                  have hl : lv_has ls 6 [(3, .int (nI (p + 1))), (2, .int (gm_fw (F 8) nt (p + 1))), (1, .int (gp_fm (F 8) nt (p + 1))), (5, .int (nI nt)), (4, .int (gp_nu (F 8) (nI p) nt)), (0, .ref (E.2.2.2 0))] := by rw [← (show ((gp_nu (F 8) (nI p) nt) : Int32) = (gm_fw (F 8) nt (p + 1)) from by simp [gm_fw, c79, mc79])]; exact hl
                  exact ih12 (p + 1) (by omega) (by omega) ls _ _ (lv_sub hl [0, 1, 2, 5] rfl) (hP) (hD) hS
            · have c32 := c32
              have nc32 : ¬ nt ≤ t := fun h => c32 ((nI_leI (a := nt) (b := t) (by omega) (by omega)).mpr h)
              refine lv_aload_n hx hb d_M_fair_35 rfl (lv_at hl 5 rfl) ?_
              refine va_get (D := E.1) (cl := gp_cl) (ci := 3) (v := .ref (E.2.2.2 9)) (C := R_M) (T := T_M) (N := 27) hx hb hts i_M hown hK hP 0 rfl rfl 12 (by decide) (hts _ w3_64) (fun _ h9 => h9) rfl d_M_fair_36 ?_
              refine lv_iload hx hb d_M_fair_39 (lv_at hl 0 rfl) ?_
              refine gp_ald (f := (F 8)) (n := 6) hx hb hK hP 9 rfl (t) rfl (by omega) (by decide) d_M_fair_41 ?_
              refine lv_iload_n hx hb d_M_fair_42 rfl (lv_at hl 2 rfl) ?_
              refine lv_icmp_ne (tgt := 53) hx hb d_M_fair_43 (by decide) (fun c43 => ?_) (fun c43 => ?_)
              · have c43 := c43
                refine lv_iload hx hb d_M_fair_53 (lv_at hl 1 rfl) ?_
                refine lv_istore (lv' := [(4, .int (gp_nu (F 8) (nI p) t)), (5, .int (nI t)), (3, .int (nI p)), (2, .int (gm_fw (F 8) nt p)), (1, .int (gp_fm (F 8) nt p)), (0, .ref (E.2.2.2 0))]) hx hb d_M_fair_55 hl (by decide) rfl (fun ls hl => ?_)
                refine lv_iinc (v := (nI (t + 1))) (lv' := [(5, .int (nI (t + 1))), (4, .int (gp_nu (F 8) (nI p) t)), (3, .int (nI p)), (2, .int (gm_fw (F 8) nt p)), (1, .int (gp_fm (F 8) nt p)), (0, .ref (E.2.2.2 0))]) hx hb d_M_fair_57 hl (k := 1) rfl (nI_1 _) (by decide) rfl (fun ls hl => ?_)
                refine lv_goto (tgt := 26) hx hb d_M_fair_60 (by decide) ?_
                have hl : lv_has ls 6 [(5, .int (nI (t + 1))), (4, .int (gp_nu (F 8) (nI p) (t + 1))), (3, .int (nI p)), (2, .int (gm_fw (F 8) nt p)), (1, .int (gp_fm (F 8) nt p)), (0, .ref (E.2.2.2 0))] := by rw [← (show ((gp_nu (F 8) (nI p) t) : Int32) = (gp_nu (F 8) (nI p) (t + 1)) from by simp [gp_nu, c43])]; exact hl
                exact ih26 (t + 1) (by omega) (by omega) ls _ _ (lv_sub hl [0, 1, 2, 3, 4, 5] rfl) (hP) (hD) hS
              · have c43 := c43
                refine lv_iload hx hb d_M_fair_46 (lv_at hl 1 rfl) ?_
                refine lv_iconst (v := 1) hx hb d_M_fair_48 (by decide) ?_
                refine lv_iadd hx hb d_M_fair_49 ?_
                refine lv_goto (tgt := 55) hx hb d_M_fair_50 (by decide) ?_
                refine lv_istore (lv' := [(4, .int ((gp_nu (F 8) (nI p) t) + 1)), (5, .int (nI t)), (3, .int (nI p)), (2, .int (gm_fw (F 8) nt p)), (1, .int (gp_fm (F 8) nt p)), (0, .ref (E.2.2.2 0))]) hx hb d_M_fair_55 hl (by decide) rfl (fun ls hl => ?_)
                refine lv_iinc (v := (nI (t + 1))) (lv' := [(5, .int (nI (t + 1))), (4, .int ((gp_nu (F 8) (nI p) t) + 1)), (3, .int (nI p)), (2, .int (gm_fw (F 8) nt p)), (1, .int (gp_fm (F 8) nt p)), (0, .ref (E.2.2.2 0))]) hx hb d_M_fair_57 hl (k := 1) rfl (nI_1 _) (by decide) rfl (fun ls hl => ?_)
                refine lv_goto (tgt := 26) hx hb d_M_fair_60 (by decide) ?_
                have hl : lv_has ls 6 [(5, .int (nI (t + 1))), (4, .int (gp_nu (F 8) (nI p) (t + 1))), (3, .int (nI p)), (2, .int (gm_fw (F 8) nt p)), (1, .int (gp_fm (F 8) nt p)), (0, .ref (E.2.2.2 0))] := by rw [← (show (((gp_nu (F 8) (nI p) t) + 1) : Int32) = (gp_nu (F 8) (nI p) (t + 1)) from by simp [gp_nu, c43])]; exact hl
                exact ih26 (t + 1) (by omega) (by omega) ls _ _ (lv_sub hl [0, 1, 2, 3, 4, 5] rfl) (hP) (hD) hS
        exact L26 (nt + 1) 0 (Nat.zero_le _) (by omega) ls _ _ (lv_sub hl [0, 1, 2, 3, 4, 5] rfl) (hP) (hD) hS
  exact L12 (np + 1) 0 (Nat.zero_le _) (by omega) ls _ _ (lv_sub hl [0, 1, 2, 3] rfl) (hP) (hD) hS
set_option maxHeartbeats 4000000 in
set_option maxRecDepth 100000 in
theorem c_M_count0 (l : Launch) (E : gp_E) (I : Nat → Int32) (F : Nat → Nat → Int32)   : gp_CW l y_M_count b_M_count 2 (some .int) 2 E (gp_wM E I F) (gp_wM E (upd I 0 0) F) [.ref (E.2.2.2 0), .int 0] (some (.int (I 1))) := by
  refine gp_ofW (by decide) (Nat.le_of_ble_eq_true rfl) ?_
  intro xp xe xs xm below meth xc ls A hx hb hr hts hown hlocks hml hP hK hD hA hAe hl
  have hS : va_S A xs.heap xs.heap [] := va_S.rf
  have hown : xs.vm.findClass "GuidePlansModel" = some xm.cls := hown
  have hl : lv_has ls 2 [(0, .ref (E.2.2.2 0)), (1, .int 0)] := hl
  refine lv_aload_n hx hb d_M_count_0 rfl (lv_at hl 0 rfl) ?_
  refine lv_iload_n hx hb d_M_count_1 rfl (lv_at hl 1 rfl) ?_
  refine lv_iconst (v := 0) hx hb d_M_count_2 (by decide) ?_
  refine lv_iconst (v := 3) hx hb d_M_count_3 (by decide) ?_
  refine gp_cS (As := [.int 0, .int 0, .int 3]) (rest := [.ref (E.2.2.2 0)]) ⟨hx, hb, hml, hown, hts⟩ (show gp_CR _ _ _ _ _ _ _ _ _ 1 from by have h9 := c_M_within l E I F 0 0 3; rw [(show gm_w 0 0 3 = true by decide), if_pos rfl] at h9; exact h9) (k_M_66 hts ⟨by decide, by decide⟩ rfl rfl) hK hP rfl hl.1 rfl (Nat.le_of_ble_eq_true rfl) d_M_count_4 ⟨Nat.le_of_ble_eq_true rfl, Nat.le_of_ble_eq_true rfl⟩ ?_
  refine lv_iconst (v := 1) hx hb d_M_count_7 (by decide) ?_
  refine lv_iconst (v := 1) hx hb d_M_count_8 (by decide) ?_
  refine gp_cW (q0 := 0) (ci := 3) (As := [.int 1, .int 1, .int 1]) (rest := []) ⟨hx, hb, hml, hown, hts⟩ (show gp_CW l y_M_goes b_M_goes 4 (some .boolean) 1 E (gp_wM E I F) (gp_wM E (upd I 0 0) F) [.ref (E.2.2.2 0), .int 1, .int 1, .int 1] (some (.int 1)) from c_M_goes l E I F 1 1 1) (k_M_70 hts ⟨by decide, by decide⟩ rfl rfl) hK hP hD hS hA rfl rfl rfl rfl hl.1 rfl (Nat.le_of_ble_eq_true rfl) d_M_count_9 ⟨Nat.le_of_ble_eq_true rfl, Nat.le_of_ble_eq_true rfl⟩ (fun H locs hP hD hS => ?_)
  have hP : va_P E.1 gp_cl (gp_wM E (upd I 0 0) F) H := hP
  have hD : va_D A (gp_wM E (upd I 0 0) F) := hD
  refine W.eq (g2 := F0 xm 12 ls [.int 1]) rfl ?_
  refine lv_if_ne (tgt := 17) hx hb d_M_count_12 (by decide) (fun c12 => ?_) (fun c12 => ?_)
  · have c12 := c12
    have nc12 : ¬ 1 = 0 := fun h => c12 ((nI_eq (a := 1) (b := 0) (by omega) (by omega)).mpr h)
    refine lv_iload_n hx hb d_M_count_17 rfl (lv_at hl 1 rfl) ?_
    refine lv_if_ne (tgt := 28) hx hb d_M_count_18 (by decide) (fun c18 => ?_) (fun c18 => ?_)
    · exact absurd c18 (by decide)
    · have c18 := c18
      refine lv_aload_n hx hb d_M_count_21 rfl (lv_at hl 0 rfl) ?_
      refine va_get (D := E.1) (cl := gp_cl) (ci := 3) (v := .int (I 1)) (C := R_M) (T := T_M) (N := 27) hx hb hts i_M hown hK hP 0 rfl rfl 1 (by decide) (hts _ w3_53) (fun _ h9 => h9) rfl d_M_count_22 ?_
      refine lv_goto (tgt := 56) hx hb d_M_count_25 (by decide) ?_
      exact gp_wi hx hb hr hlocks hAe (rfl) (hP) hS d_M_count_56
  · exact absurd c12 (by decide)
set_option maxHeartbeats 4000000 in
set_option maxRecDepth 100000 in
theorem c_M_count1 (l : Launch) (E : gp_E) (I : Nat → Int32) (F : Nat → Nat → Int32)   : gp_CW l y_M_count b_M_count 2 (some .int) 2 E (gp_wM E I F) (gp_wM E (upd I 0 0) F) [.ref (E.2.2.2 0), .int 1] (some (.int (I 3))) := by
  refine gp_ofW (by decide) (Nat.le_of_ble_eq_true rfl) ?_
  intro xp xe xs xm below meth xc ls A hx hb hr hts hown hlocks hml hP hK hD hA hAe hl
  have hS : va_S A xs.heap xs.heap [] := va_S.rf
  have hown : xs.vm.findClass "GuidePlansModel" = some xm.cls := hown
  have hl : lv_has ls 2 [(0, .ref (E.2.2.2 0)), (1, .int 1)] := hl
  refine lv_aload_n hx hb d_M_count_0 rfl (lv_at hl 0 rfl) ?_
  refine lv_iload_n hx hb d_M_count_1 rfl (lv_at hl 1 rfl) ?_
  refine lv_iconst (v := 0) hx hb d_M_count_2 (by decide) ?_
  refine lv_iconst (v := 3) hx hb d_M_count_3 (by decide) ?_
  refine gp_cS (As := [.int 1, .int 0, .int 3]) (rest := [.ref (E.2.2.2 0)]) ⟨hx, hb, hml, hown, hts⟩ (show gp_CR _ _ _ _ _ _ _ _ _ 1 from by have h9 := c_M_within l E I F 1 0 3; rw [(show gm_w 1 0 3 = true by decide), if_pos rfl] at h9; exact h9) (k_M_66 hts ⟨by decide, by decide⟩ rfl rfl) hK hP rfl hl.1 rfl (Nat.le_of_ble_eq_true rfl) d_M_count_4 ⟨Nat.le_of_ble_eq_true rfl, Nat.le_of_ble_eq_true rfl⟩ ?_
  refine lv_iconst (v := 1) hx hb d_M_count_7 (by decide) ?_
  refine lv_iconst (v := 1) hx hb d_M_count_8 (by decide) ?_
  refine gp_cW (q0 := 0) (ci := 3) (As := [.int 1, .int 1, .int 1]) (rest := []) ⟨hx, hb, hml, hown, hts⟩ (show gp_CW l y_M_goes b_M_goes 4 (some .boolean) 1 E (gp_wM E I F) (gp_wM E (upd I 0 0) F) [.ref (E.2.2.2 0), .int 1, .int 1, .int 1] (some (.int 1)) from c_M_goes l E I F 1 1 1) (k_M_70 hts ⟨by decide, by decide⟩ rfl rfl) hK hP hD hS hA rfl rfl rfl rfl hl.1 rfl (Nat.le_of_ble_eq_true rfl) d_M_count_9 ⟨Nat.le_of_ble_eq_true rfl, Nat.le_of_ble_eq_true rfl⟩ (fun H locs hP hD hS => ?_)
  have hP : va_P E.1 gp_cl (gp_wM E (upd I 0 0) F) H := hP
  have hD : va_D A (gp_wM E (upd I 0 0) F) := hD
  refine W.eq (g2 := F0 xm 12 ls [.int 1]) rfl ?_
  refine lv_if_ne (tgt := 17) hx hb d_M_count_12 (by decide) (fun c12 => ?_) (fun c12 => ?_)
  · have c12 := c12
    have nc12 : ¬ 1 = 0 := fun h => c12 ((nI_eq (a := 1) (b := 0) (by omega) (by omega)).mpr h)
    refine lv_iload_n hx hb d_M_count_17 rfl (lv_at hl 1 rfl) ?_
    refine lv_if_ne (tgt := 28) hx hb d_M_count_18 (by decide) (fun c18 => ?_) (fun c18 => ?_)
    · have c18 := c18
      refine lv_iload_n hx hb d_M_count_28 rfl (lv_at hl 1 rfl) ?_
      refine lv_iconst (v := 1) hx hb d_M_count_29 (by decide) ?_
      refine lv_icmp_ne (tgt := 40) hx hb d_M_count_30 (by decide) (fun c30 => ?_) (fun c30 => ?_)
      · exact absurd c30 (by decide)
      · have c30 := c30
        refine lv_aload_n hx hb d_M_count_33 rfl (lv_at hl 0 rfl) ?_
        refine va_get (D := E.1) (cl := gp_cl) (ci := 3) (v := .int (I 3)) (C := R_M) (T := T_M) (N := 27) hx hb hts i_M hown hK hP 0 rfl rfl 7 (by decide) (hts _ w3_59) (fun _ h9 => h9) rfl d_M_count_34 ?_
        refine lv_goto (tgt := 56) hx hb d_M_count_37 (by decide) ?_
        exact gp_wi hx hb hr hlocks hAe (rfl) (hP) hS d_M_count_56
    · exact absurd c18 (by decide)
  · exact absurd c12 (by decide)
set_option maxHeartbeats 4000000 in
set_option maxRecDepth 100000 in
theorem c_M_count2 (l : Launch) (E : gp_E) (I : Nat → Int32) (F : Nat → Nat → Int32)   : gp_CW l y_M_count b_M_count 2 (some .int) 2 E (gp_wM E I F) (gp_wM E (upd I 0 0) F) [.ref (E.2.2.2 0), .int 2] (some (.int (I 2))) := by
  refine gp_ofW (by decide) (Nat.le_of_ble_eq_true rfl) ?_
  intro xp xe xs xm below meth xc ls A hx hb hr hts hown hlocks hml hP hK hD hA hAe hl
  have hS : va_S A xs.heap xs.heap [] := va_S.rf
  have hown : xs.vm.findClass "GuidePlansModel" = some xm.cls := hown
  have hl : lv_has ls 2 [(0, .ref (E.2.2.2 0)), (1, .int 2)] := hl
  refine lv_aload_n hx hb d_M_count_0 rfl (lv_at hl 0 rfl) ?_
  refine lv_iload_n hx hb d_M_count_1 rfl (lv_at hl 1 rfl) ?_
  refine lv_iconst (v := 0) hx hb d_M_count_2 (by decide) ?_
  refine lv_iconst (v := 3) hx hb d_M_count_3 (by decide) ?_
  refine gp_cS (As := [.int 2, .int 0, .int 3]) (rest := [.ref (E.2.2.2 0)]) ⟨hx, hb, hml, hown, hts⟩ (show gp_CR _ _ _ _ _ _ _ _ _ 1 from by have h9 := c_M_within l E I F 2 0 3; rw [(show gm_w 2 0 3 = true by decide), if_pos rfl] at h9; exact h9) (k_M_66 hts ⟨by decide, by decide⟩ rfl rfl) hK hP rfl hl.1 rfl (Nat.le_of_ble_eq_true rfl) d_M_count_4 ⟨Nat.le_of_ble_eq_true rfl, Nat.le_of_ble_eq_true rfl⟩ ?_
  refine lv_iconst (v := 1) hx hb d_M_count_7 (by decide) ?_
  refine lv_iconst (v := 1) hx hb d_M_count_8 (by decide) ?_
  refine gp_cW (q0 := 0) (ci := 3) (As := [.int 1, .int 1, .int 1]) (rest := []) ⟨hx, hb, hml, hown, hts⟩ (show gp_CW l y_M_goes b_M_goes 4 (some .boolean) 1 E (gp_wM E I F) (gp_wM E (upd I 0 0) F) [.ref (E.2.2.2 0), .int 1, .int 1, .int 1] (some (.int 1)) from c_M_goes l E I F 1 1 1) (k_M_70 hts ⟨by decide, by decide⟩ rfl rfl) hK hP hD hS hA rfl rfl rfl rfl hl.1 rfl (Nat.le_of_ble_eq_true rfl) d_M_count_9 ⟨Nat.le_of_ble_eq_true rfl, Nat.le_of_ble_eq_true rfl⟩ (fun H locs hP hD hS => ?_)
  have hP : va_P E.1 gp_cl (gp_wM E (upd I 0 0) F) H := hP
  have hD : va_D A (gp_wM E (upd I 0 0) F) := hD
  refine W.eq (g2 := F0 xm 12 ls [.int 1]) rfl ?_
  refine lv_if_ne (tgt := 17) hx hb d_M_count_12 (by decide) (fun c12 => ?_) (fun c12 => ?_)
  · have c12 := c12
    have nc12 : ¬ 1 = 0 := fun h => c12 ((nI_eq (a := 1) (b := 0) (by omega) (by omega)).mpr h)
    refine lv_iload_n hx hb d_M_count_17 rfl (lv_at hl 1 rfl) ?_
    refine lv_if_ne (tgt := 28) hx hb d_M_count_18 (by decide) (fun c18 => ?_) (fun c18 => ?_)
    · have c18 := c18
      refine lv_iload_n hx hb d_M_count_28 rfl (lv_at hl 1 rfl) ?_
      refine lv_iconst (v := 1) hx hb d_M_count_29 (by decide) ?_
      refine lv_icmp_ne (tgt := 40) hx hb d_M_count_30 (by decide) (fun c30 => ?_) (fun c30 => ?_)
      · have c30 := c30
        refine lv_iload_n hx hb d_M_count_40 rfl (lv_at hl 1 rfl) ?_
        refine lv_iconst (v := 2) hx hb d_M_count_41 (by decide) ?_
        refine lv_icmp_ne (tgt := 52) hx hb d_M_count_42 (by decide) (fun c42 => ?_) (fun c42 => ?_)
        · exact absurd c42 (by decide)
        · have c42 := c42
          refine lv_aload_n hx hb d_M_count_45 rfl (lv_at hl 0 rfl) ?_
          refine va_get (D := E.1) (cl := gp_cl) (ci := 3) (v := .int (I 2)) (C := R_M) (T := T_M) (N := 27) hx hb hts i_M hown hK hP 0 rfl rfl 3 (by decide) (hts _ w3_55) (fun _ h9 => h9) rfl d_M_count_46 ?_
          refine lv_goto (tgt := 56) hx hb d_M_count_49 (by decide) ?_
          exact gp_wi hx hb hr hlocks hAe (rfl) (hP) hS d_M_count_56
      · exact absurd c30 (by decide)
    · exact absurd c18 (by decide)
  · exact absurd c12 (by decide)
set_option maxHeartbeats 4000000 in
set_option maxRecDepth 100000 in
theorem c_M_count3 (l : Launch) (E : gp_E) (I : Nat → Int32) (F : Nat → Nat → Int32)   : gp_CW l y_M_count b_M_count 2 (some .int) 2 E (gp_wM E I F) (gp_wM E (upd I 0 0) F) [.ref (E.2.2.2 0), .int 3] (some (.int (I 9))) := by
  refine gp_ofW (by decide) (Nat.le_of_ble_eq_true rfl) ?_
  intro xp xe xs xm below meth xc ls A hx hb hr hts hown hlocks hml hP hK hD hA hAe hl
  have hS : va_S A xs.heap xs.heap [] := va_S.rf
  have hown : xs.vm.findClass "GuidePlansModel" = some xm.cls := hown
  have hl : lv_has ls 2 [(0, .ref (E.2.2.2 0)), (1, .int 3)] := hl
  refine lv_aload_n hx hb d_M_count_0 rfl (lv_at hl 0 rfl) ?_
  refine lv_iload_n hx hb d_M_count_1 rfl (lv_at hl 1 rfl) ?_
  refine lv_iconst (v := 0) hx hb d_M_count_2 (by decide) ?_
  refine lv_iconst (v := 3) hx hb d_M_count_3 (by decide) ?_
  refine gp_cS (As := [.int 3, .int 0, .int 3]) (rest := [.ref (E.2.2.2 0)]) ⟨hx, hb, hml, hown, hts⟩ (show gp_CR _ _ _ _ _ _ _ _ _ 1 from by have h9 := c_M_within l E I F 3 0 3; rw [(show gm_w 3 0 3 = true by decide), if_pos rfl] at h9; exact h9) (k_M_66 hts ⟨by decide, by decide⟩ rfl rfl) hK hP rfl hl.1 rfl (Nat.le_of_ble_eq_true rfl) d_M_count_4 ⟨Nat.le_of_ble_eq_true rfl, Nat.le_of_ble_eq_true rfl⟩ ?_
  refine lv_iconst (v := 1) hx hb d_M_count_7 (by decide) ?_
  refine lv_iconst (v := 1) hx hb d_M_count_8 (by decide) ?_
  refine gp_cW (q0 := 0) (ci := 3) (As := [.int 1, .int 1, .int 1]) (rest := []) ⟨hx, hb, hml, hown, hts⟩ (show gp_CW l y_M_goes b_M_goes 4 (some .boolean) 1 E (gp_wM E I F) (gp_wM E (upd I 0 0) F) [.ref (E.2.2.2 0), .int 1, .int 1, .int 1] (some (.int 1)) from c_M_goes l E I F 1 1 1) (k_M_70 hts ⟨by decide, by decide⟩ rfl rfl) hK hP hD hS hA rfl rfl rfl rfl hl.1 rfl (Nat.le_of_ble_eq_true rfl) d_M_count_9 ⟨Nat.le_of_ble_eq_true rfl, Nat.le_of_ble_eq_true rfl⟩ (fun H locs hP hD hS => ?_)
  have hP : va_P E.1 gp_cl (gp_wM E (upd I 0 0) F) H := hP
  have hD : va_D A (gp_wM E (upd I 0 0) F) := hD
  refine W.eq (g2 := F0 xm 12 ls [.int 1]) rfl ?_
  refine lv_if_ne (tgt := 17) hx hb d_M_count_12 (by decide) (fun c12 => ?_) (fun c12 => ?_)
  · have c12 := c12
    have nc12 : ¬ 1 = 0 := fun h => c12 ((nI_eq (a := 1) (b := 0) (by omega) (by omega)).mpr h)
    refine lv_iload_n hx hb d_M_count_17 rfl (lv_at hl 1 rfl) ?_
    refine lv_if_ne (tgt := 28) hx hb d_M_count_18 (by decide) (fun c18 => ?_) (fun c18 => ?_)
    · have c18 := c18
      refine lv_iload_n hx hb d_M_count_28 rfl (lv_at hl 1 rfl) ?_
      refine lv_iconst (v := 1) hx hb d_M_count_29 (by decide) ?_
      refine lv_icmp_ne (tgt := 40) hx hb d_M_count_30 (by decide) (fun c30 => ?_) (fun c30 => ?_)
      · have c30 := c30
        refine lv_iload_n hx hb d_M_count_40 rfl (lv_at hl 1 rfl) ?_
        refine lv_iconst (v := 2) hx hb d_M_count_41 (by decide) ?_
        refine lv_icmp_ne (tgt := 52) hx hb d_M_count_42 (by decide) (fun c42 => ?_) (fun c42 => ?_)
        · have c42 := c42
          refine lv_aload_n hx hb d_M_count_52 rfl (lv_at hl 0 rfl) ?_
          refine va_get (D := E.1) (cl := gp_cl) (ci := 3) (v := .int (I 9)) (C := R_M) (T := T_M) (N := 27) hx hb hts i_M hown hK hP 0 rfl rfl 21 (by decide) (hts _ w3_73) (fun _ h9 => h9) rfl d_M_count_53 ?_
          exact gp_wi hx hb hr hlocks hAe (rfl) (hP) hS d_M_count_56
        · exact absurd c42 (by decide)
      · exact absurd c30 (by decide)
    · exact absurd c18 (by decide)
  · exact absurd c12 (by decide)
set_option maxHeartbeats 4000000 in
set_option maxRecDepth 100000 in
theorem c_M_countE1 (l : Launch) (E : gp_E) (I : Nat → Int32) (F : Nat → Nat → Int32) (x : Int32) (hw : gm_w x 0 3 = false) : gp_CW l y_M_count b_M_count 2 (some .int) 2 E (gp_wM E I F) (gp_wM E (upd I 0 1) F) [.ref (E.2.2.2 0), .int x] (some (.int 0)) := by
  refine gp_ofW (by decide) (Nat.le_of_ble_eq_true rfl) ?_
  intro xp xe xs xm below meth xc ls A hx hb hr hts hown hlocks hml hP hK hD hA hAe hl
  have hS : va_S A xs.heap xs.heap [] := va_S.rf
  have hown : xs.vm.findClass "GuidePlansModel" = some xm.cls := hown
  have hl : lv_has ls 2 [(0, .ref (E.2.2.2 0)), (1, .int x)] := hl
  refine lv_aload_n hx hb d_M_count_0 rfl (lv_at hl 0 rfl) ?_
  refine lv_iload_n hx hb d_M_count_1 rfl (lv_at hl 1 rfl) ?_
  refine lv_iconst (v := 0) hx hb d_M_count_2 (by decide) ?_
  refine lv_iconst (v := 3) hx hb d_M_count_3 (by decide) ?_
  refine gp_cS (As := [.int x, .int 0, .int 3]) (rest := [.ref (E.2.2.2 0)]) ⟨hx, hb, hml, hown, hts⟩ (show gp_CR _ _ _ _ _ _ _ _ _ 0 from by have h9 := c_M_within l E I F x 0 3; rw [hw, if_neg (by decide)] at h9; exact h9) (k_M_66 hts ⟨by decide, by decide⟩ rfl rfl) hK hP rfl hl.1 rfl (Nat.le_of_ble_eq_true rfl) d_M_count_4 ⟨Nat.le_of_ble_eq_true rfl, Nat.le_of_ble_eq_true rfl⟩ ?_
  refine lv_iconst (v := 1) hx hb d_M_count_7 (by decide) ?_
  refine lv_iconst (v := 1) hx hb d_M_count_8 (by decide) ?_
  refine gp_cW (q0 := 0) (ci := 3) (As := [.int 0, .int 1, .int 1]) (rest := []) ⟨hx, hb, hml, hown, hts⟩ (show gp_CW l y_M_goes b_M_goes 4 (some .boolean) 1 E (gp_wM E I F) (gp_wM E (upd I 0 1) F) [.ref (E.2.2.2 0), .int 0, .int 1, .int 1] (some (.int 0)) from c_M_goes l E I F 0 1 1) (k_M_70 hts ⟨by decide, by decide⟩ rfl rfl) hK hP hD hS hA rfl rfl rfl rfl hl.1 rfl (Nat.le_of_ble_eq_true rfl) d_M_count_9 ⟨Nat.le_of_ble_eq_true rfl, Nat.le_of_ble_eq_true rfl⟩ (fun H locs hP hD hS => ?_)
  have hP : va_P E.1 gp_cl (gp_wM E (upd I 0 1) F) H := hP
  have hD : va_D A (gp_wM E (upd I 0 1) F) := hD
  refine W.eq (g2 := F0 xm 12 ls [.int 0]) rfl ?_
  refine lv_if_ne (tgt := 17) hx hb d_M_count_12 (by decide) (fun c12 => ?_) (fun c12 => ?_)
  · exact absurd c12 (by decide)
  · have c12 := c12
    have nc12 : 0 = 0 := (nI_eq (a := 0) (b := 0) (by omega) (by omega)).mp c12
    refine lv_iconst (v := 0) hx hb d_M_count_15 (by decide) ?_
    exact gp_wi hx hb hr hlocks hAe (rfl) (hP) hS d_M_count_16
