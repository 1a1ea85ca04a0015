/-! ===== GuidePlans: the methods that read ===== -/
theorem gp_nn {p : Nat} (h : p < 2 ^ 31) (e : nI p = -1) : False := by
  have h1 := nI_toInt h
  rw [e] at h1
  have h2 : (-1 : Int32).toInt = -1 := by decide
  omega
def gp_nu (f : Nat → Int32) (x : Int32) : Nat → Int32
  | 0 => 0
  | k + 1 => if f k = x then gp_nu f x k + 1 else gp_nu f x k
def gp_qo (F : Nat → Nat → Int32) (f : Nat → Int32) (x : Int32) : Nat → Int32
  | 0 => 0
  | k + 1 => if f k = x then gp_qo F f x k + (F 6 k - F 5 k) else gp_qo F f x k
def gp_e1 (f : Nat → Int32) : Nat → Int32
  | 0 => 0
  | k + 1 => if f k = -1 then gp_e1 f k + 100 else gp_e1 f k
def gp_e2 (f : Nat → Int32) (nt : Nat) : Nat → Int32
  | 0 => gp_e1 f nt
  | k + 1 => gp_e2 f nt k + gp_nu f (nI k) nt * gp_nu f (nI k) nt
def gp_pr (I : Nat → Int32) (F : Nat → Nat → Int32) (x : Int32) (t u : Nat) : Bool := decide (F 14 t = x) && decide (F 14 u = x) && gp_near I F t u
def gp_hi (I : Nat → Int32) (F : Nat → Nat → Int32) (x : Int32) (t : Nat) : Nat → Bool
  | 0 => false
  | k + 1 => gp_hi I F x t k || (decide (t < k) && gp_pr I F x t k)
def gp_ho (I : Nat → Int32) (F : Nat → Nat → Int32) (x : Int32) (nt : Nat) : Nat → Bool
  | 0 => false
  | k + 1 => gp_ho I F x nt k || gp_hi I F x k nt
theorem gp_hi_0 {I : Nat → Int32} {F : Nat → Nat → Int32} {x : Int32} {t : Nat} : ∀ k, k ≤ t + 1 → gp_hi I F x t k = false := by
  intro k
  induction k with
  | zero => intro _; rfl
  | succ k ih => intro h; simp [gp_hi, ih (by omega), show ¬ t < k by omega]
theorem gp_hi_up {I : Nat → Int32} {F : Nat → Nat → Int32} {x : Int32} {t u : Nat} (h : gp_pr I F x t u = true) (htu : t < u) : ∀ k, u < k → gp_hi I F x t k = true := by
  intro k
  induction k with
  | zero => intro h; omega
  | succ k ih =>
    intro hs
    by_cases e : u = k
    · subst e; simp [gp_hi, h, htu]
    · simp [gp_hi, ih (by omega)]
theorem gp_ho_up {I : Nat → Int32} {F : Nat → Nat → Int32} {x : Int32} {nt t : Nat} (h : gp_hi I F x t nt = true) : ∀ k, t < k → gp_ho I F x nt k = true := by
  intro k
  induction k with
  | zero => intro h; omega
  | succ k ih =>
    intro hs
    by_cases e : t = k
    · subst e; simp [gp_ho, h]
    · simp [gp_ho, ih (by omega)]
def gp_htn (I : Nat → Int32) (F : Nat → Nat → Int32) (x : Int32) (nt : Nat) : Bool := !decide (x = -1) && gp_ho I F x nt nt
def gp_wtl (I : Nat → Int32) (F : Nat → Nat → Int32) (x : Int32) (nt : Nat) : Bool := !decide (x = -1) && decide (I 8 < gp_qo F (F 14) x nt)
def gp_uns (F : Nat → Nat → Int32) (ns : Nat) (x : Int32) (t : Nat) : Bool := !decide (x = -1) && !gp_suit F ns x.toNatClampNeg t
def gp_fs (I : Nat → Int32) (F : Nat → Nat → Int32) (x y : Int32) (nt : Nat) : Int32 := if gp_htn I F x nt || gp_htn I F y nt then 4 else if gp_wtl I F x nt || gp_wtl I F y nt then 5 else 0
/-- the tasks that a new plan changes: how many, which -/
def gp_nc (F : Nat → Nat → Int32) : Nat → Nat × (Nat → Int32)
  | 0 => (0, F 15)
  | k + 1 => if F 14 k = F 8 k then gp_nc F k else ((gp_nc F k).1 + 1, upd (gp_nc F k).2 (gp_nc F k).1 (nI k))
theorem gp_nc_le {F : Nat → Nat → Int32} : ∀ k, (gp_nc F k).1 ≤ k := by
  intro k
  induction k with
  | zero => exact Nat.le_refl _
  | succ k ih =>
    rw [gp_nc]
    split
    · omega
    · show (gp_nc F k).1 + 1 ≤ k + 1
      omega
theorem gp_uF_self {F : Nat → Nat → Int32} {a : Nat} : gp_uF F a (F a) = F := by
  funext c j
  by_cases e : c = a
  · subst e; simp [gp_uF]
  · simp [gp_uF, e]
set_option maxHeartbeats 4000000 in
set_option maxRecDepth 100000 in
theorem c_G_told (l : Launch) (E : gp_E) (I : Nat → Int32) (F : Nat → Nat → Int32)   : gp_CR l y_G_told b_G_told 1 (some .int) 1 E (gp_wG E I F) [.ref (E.2.2.2 0)] (I 2) := by
  refine gp_ofR (by decide) (Nat.le_of_ble_eq_true rfl) ?_
  intro xp xe xs xm below meth xc ls hx hb hr hts hown hlocks hml hP hK hl
  have hown : xs.vm.findClass "GuidePlans" = some xm.cls := hown
  have hl : lv_has ls 1 [(0, .ref (E.2.2.2 0))] := hl
  refine lv_aload_n hx hb d_G_told_0 rfl (lv_at hl 0 rfl) ?_
  refine va_get (D := E.1) (cl := gp_cl) (ci := 0) (v := .int (I 2)) (C := R_G) (T := T_G) (N := 8) hx hb hts i_G hown hK hP 0 rfl rfl 6 (by decide) (hts _ w1_123) (fun _ h9 => h9) rfl d_G_told_1 ?_
  exact gp_ri hx hb hr hlocks (rfl) d_G_told_4
set_option maxHeartbeats 4000000 in
set_option maxRecDepth 100000 in
theorem c_G_numberOfTasks (l : Launch) (E : gp_E) (I : Nat → Int32) (F : Nat → Nat → Int32) (nt : Nat) (x : Int32) (hT : I 6 = nI nt) (hnt : nt ≤ 6) : gp_CR l y_G_numberOfTasks b_G_numberOfTasks 4 (some .int) 1 E (gp_wG E I F) [.ref (E.2.2.2 0), .int x] (gp_nu (F 14) x nt) := by
  refine gp_ofR (by decide) (Nat.le_of_ble_eq_true rfl) ?_
  intro xp xe xs xm below meth xc ls hx hb hr hts hown hlocks hml hP hK hl
  have hown : xs.vm.findClass "GuidePlans" = some xm.cls := hown
  have hl : lv_has ls 4 [(0, .ref (E.2.2.2 0)), (1, .int x)] := hl
  refine lv_iconst (v := 0) hx hb d_G_numberOfTasks_0 (by decide) ?_
  refine lv_istore_n (lv' := [(2, .int 0), (0, .ref (E.2.2.2 0)), (1, .int x)]) hx hb d_G_numberOfTasks_1 rfl hl (by decide) rfl (fun ls hl => ?_)
  refine lv_iconst (v := 0) hx hb d_G_numberOfTasks_2 (by decide) ?_
  refine lv_istore_n (lv' := [(3, .int 0), (2, .int 0), (0, .ref (E.2.2.2 0)), (1, .int x)]) hx hb d_G_numberOfTasks_3 rfl hl (by decide) rfl (fun ls hl => ?_)
  have L4 : ∀ (n : Nat) (t : Nat), t ≤ nt → nt + 1 ≤ t + n → ∀ (ls : Array Slot), lv_has ls 4 [(3, .int (nI t)), (2, .int (gp_nu (F 14) x t)), (0, .ref (E.2.2.2 0)), (1, .int x)] → W xp l xe (gp_rm 1 0 0) xs xm ([.ref (E.2.2.2 0), .int x] : List Value).toArray below meth xc xs.heap [] 0 0 (MQ below (QcRead (gp_nu (F 14) x nt)) ([.ref (E.2.2.2 0), .int x] : List Value).toArray xs 0 0 (fun _ => False)) (F0 xm 4 ls []) := by
    intro n
    induction n with
    | zero =>
      intro t h1 hm
      exact absurd hm (by omega)
    | succ n ih4 =>
      intro t h1 hm ls hl
      refine lv_iload_n hx hb d_G_numberOfTasks_4 rfl (lv_at hl 0 rfl) ?_
      refine lv_aload_n hx hb d_G_numberOfTasks_5 rfl (lv_at hl 2 rfl) ?_
      refine va_get (D := E.1) (cl := gp_cl) (ci := 0) (v := .ref (E.2.2.2 1)) (C := R_G) (T := T_G) (N := 8) hx hb hts i_G hown hK hP 0 rfl rfl 0 (by decide) (hts _ w1_117) (fun _ h9 => h9) rfl d_G_numberOfTasks_6 ?_
      refine va_get (D := E.1) (cl := gp_cl) (ci := 1) (v := .int (nI nt)) (C := R_D) (T := T_D) (N := 13) hx hb hts i_D hown hK hP 1 rfl rfl 10 (by decide) (hts _ w1_46) (fun _ h9 => h9) (congrArg (fun z => some (Value.int z)) hT) d_G_numberOfTasks_9 ?_
      refine lv_icmp_ge (tgt := 34) hx hb d_G_numberOfTasks_12 (by decide) (fun c12 => ?_) (fun c12 => ?_)
      · have c12 := c12
        have nc12 : nt ≤ t := (nI_leI (a := nt) (b := t) (by omega) (by omega)).mp c12
        refine lv_iload_n hx hb d_G_numberOfTasks_34 rfl (lv_at hl 1 rfl) ?_
        exact gp_ri hx hb hr hlocks (by rw [show t = nt by omega]) d_G_numberOfTasks_35
      · have c12 := c12
        have nc12 : ¬ nt ≤ t := fun h => c12 ((nI_leI (a := nt) (b := t) (by omega) (by omega)).mpr h)
        refine lv_aload_n hx hb d_G_numberOfTasks_15 rfl (lv_at hl 2 rfl) ?_
        refine va_get (D := E.1) (cl := gp_cl) (ci := 0) (v := .ref (E.2.2.2 17)) (C := R_G) (T := T_G) (N := 8) hx hb hts i_G hown hK hP 0 rfl rfl 2 (by decide) (hts _ w1_119) (fun _ h9 => h9) rfl d_G_numberOfTasks_16 ?_
        refine lv_iload_n hx hb d_G_numberOfTasks_19 rfl (lv_at hl 0 rfl) ?_
        refine gp_ald (f := (F 14)) (n := 6) hx hb hK hP 17 rfl (t) rfl (by omega) (by decide) d_G_numberOfTasks_20 ?_
        refine lv_iload_n hx hb d_G_numberOfTasks_21 rfl (lv_at hl 3 rfl) ?_
        refine lv_icmp_ne (tgt := 28) hx hb d_G_numberOfTasks_22 (by decide) (fun c22 => ?_) (fun c22 => ?_)
        · have c22 := c22
          refine lv_iinc (v := (nI (t + 1))) (lv' := [(3, .int (nI (t + 1))), (2, .int (gp_nu (F 14) x t)), (0, .ref (E.2.2.2 0)), (1, .int x)]) hx hb d_G_numberOfTasks_28 hl (k := 0) rfl (nI_1 _) (by decide) rfl (fun ls hl => ?_)
          refine lv_goto (tgt := 4) hx hb d_G_numberOfTasks_31 (by decide) ?_
          rw [show (gp_nu (F 14) x t) = (gp_nu (F 14) x (t + 1)) from by simp [gp_nu, h1, c12, nc12, c22]] at hl
          exact ih4 (t + 1) (by omega) (by omega) ls (lv_sub hl [0, 1, 2, 3] rfl)
        · have c22 := c22
          refine lv_iinc (v := ((gp_nu (F 14) x t) + 1)) (lv' := [(2, .int ((gp_nu (F 14) x t) + 1)), (3, .int (nI t)), (0, .ref (E.2.2.2 0)), (1, .int x)]) hx hb d_G_numberOfTasks_25 hl (k := 1) rfl rfl (by decide) rfl (fun ls hl => ?_)
          refine lv_iinc (v := (nI (t + 1))) (lv' := [(3, .int (nI (t + 1))), (2, .int ((gp_nu (F 14) x t) + 1)), (0, .ref (E.2.2.2 0)), (1, .int x)]) hx hb d_G_numberOfTasks_28 hl (k := 1) rfl (nI_1 _) (by decide) rfl (fun ls hl => ?_)
          refine lv_goto (tgt := 4) hx hb d_G_numberOfTasks_31 (by decide) ?_
          rw [show ((gp_nu (F 14) x t) + 1) = (gp_nu (F 14) x (t + 1)) from by simp [gp_nu, h1, c12, nc12, c22]] at hl
          exact ih4 (t + 1) (by omega) (by omega) ls (lv_sub hl [0, 1, 2, 3] rfl)
  exact L4 (nt + 1) 0 (Nat.zero_le _) (by omega) ls (lv_sub hl [0, 1, 2, 3] rfl)
set_option maxHeartbeats 4000000 in
set_option maxRecDepth 100000 in
theorem c_G_quartersOf (l : Launch) (E : gp_E) (I : Nat → Int32) (F : Nat → Nat → Int32) (nt : Nat) (x : Int32) (hT : I 6 = nI nt) (hnt : nt ≤ 6) : gp_CR l y_G_quartersOf b_G_quartersOf 4 (some .int) 3 E (gp_wG E I F) [.ref (E.2.2.2 0), .int x] (gp_qo F (F 14) x nt) := by
  refine gp_ofR (by decide) (Nat.le_of_ble_eq_true rfl) ?_
  intro xp xe xs xm below meth xc ls hx hb hr hts hown hlocks hml hP hK hl
  have hown : xs.vm.findClass "GuidePlans" = some xm.cls := hown
  have hl : lv_has ls 4 [(0, .ref (E.2.2.2 0)), (1, .int x)] := hl
  refine lv_iconst (v := 0) hx hb d_G_quartersOf_0 (by decide) ?_
  refine lv_istore_n (lv' := [(2, .int 0), (0, .ref (E.2.2.2 0)), (1, .int x)]) hx hb d_G_quartersOf_1 rfl hl (by decide) rfl (fun ls hl => ?_)
  refine lv_iconst (v := 0) hx hb d_G_quartersOf_2 (by decide) ?_
  refine lv_istore_n (lv' := [(3, .int 0), (2, .int 0), (0, .ref (E.2.2.2 0)), (1, .int x)]) hx hb d_G_quartersOf_3 rfl hl (by decide) rfl (fun ls hl => ?_)
  have L4 : ∀ (n : Nat) (t : Nat), t ≤ nt → nt + 1 ≤ t + n → ∀ (ls : Array Slot), lv_has ls 4 [(3, .int (nI t)), (2, .int (gp_qo F (F 14) x t)), (0, .ref (E.2.2.2 0)), (1, .int x)] → W xp l xe (gp_rm 3 0 0) xs xm ([.ref (E.2.2.2 0), .int x] : List Value).toArray below meth xc xs.heap [] 0 0 (MQ below (QcRead (gp_qo F (F 14) x nt)) ([.ref (E.2.2.2 0), .int x] : List Value).toArray xs 0 0 (fun _ => False)) (F0 xm 4 ls []) := by
    intro n
    induction n with
    | zero =>
      intro t h1 hm
      exact absurd hm (by omega)
    | succ n ih4 =>
      intro t h1 hm ls hl
      refine lv_iload_n hx hb d_G_quartersOf_4 rfl (lv_at hl 0 rfl) ?_
      refine lv_aload_n hx hb d_G_quartersOf_5 rfl (lv_at hl 2 rfl) ?_
      refine va_get (D := E.1) (cl := gp_cl) (ci := 0) (v := .ref (E.2.2.2 1)) (C := R_G) (T := T_G) (N := 8) hx hb hts i_G hown hK hP 0 rfl rfl 0 (by decide) (hts _ w1_117) (fun _ h9 => h9) rfl d_G_quartersOf_6 ?_
      refine va_get (D := E.1) (cl := gp_cl) (ci := 1) (v := .int (nI nt)) (C := R_D) (T := T_D) (N := 13) hx hb hts i_D hown hK hP 1 rfl rfl 10 (by decide) (hts _ w1_46) (fun _ h9 => h9) (congrArg (fun z => some (Value.int z)) hT) d_G_quartersOf_9 ?_
      refine lv_icmp_ge (tgt := 42) hx hb d_G_quartersOf_12 (by decide) (fun c12 => ?_) (fun c12 => ?_)
      · have c12 := c12
        have nc12 : nt ≤ t := (nI_leI (a := nt) (b := t) (by omega) (by omega)).mp c12
        refine lv_iload_n hx hb d_G_quartersOf_42 rfl (lv_at hl 1 rfl) ?_
        exact gp_ri hx hb hr hlocks (by rw [show t = nt by omega]) d_G_quartersOf_43
      · have c12 := c12
        have nc12 : ¬ nt ≤ t := fun h => c12 ((nI_leI (a := nt) (b := t) (by omega) (by omega)).mpr h)
        refine lv_aload_n hx hb d_G_quartersOf_15 rfl (lv_at hl 2 rfl) ?_
        refine va_get (D := E.1) (cl := gp_cl) (ci := 0) (v := .ref (E.2.2.2 17)) (C := R_G) (T := T_G) (N := 8) hx hb hts i_G hown hK hP 0 rfl rfl 2 (by decide) (hts _ w1_119) (fun _ h9 => h9) rfl d_G_quartersOf_16 ?_
        refine lv_iload_n hx hb d_G_quartersOf_19 rfl (lv_at hl 0 rfl) ?_
        refine gp_ald (f := (F 14)) (n := 6) hx hb hK hP 17 rfl (t) rfl (by omega) (by decide) d_G_quartersOf_20 ?_
        refine lv_iload_n hx hb d_G_quartersOf_21 rfl (lv_at hl 3 rfl) ?_
        refine lv_icmp_ne (tgt := 36) hx hb d_G_quartersOf_22 (by decide) (fun c22 => ?_) (fun c22 => ?_)
        · have c22 := c22
          refine lv_iinc (v := (nI (t + 1))) (lv' := [(3, .int (nI (t + 1))), (2, .int (gp_qo F (F 14) x t)), (0, .ref (E.2.2.2 0)), (1, .int x)]) hx hb d_G_quartersOf_36 hl (k := 0) rfl (nI_1 _) (by decide) rfl (fun ls hl => ?_)
          refine lv_goto (tgt := 4) hx hb d_G_quartersOf_39 (by decide) ?_
          rw [show (gp_qo F (F 14) x t) = (gp_qo F (F 14) x (t + 1)) from by simp [gp_qo, h1, c12, nc12, c22]] at hl
          exact ih4 (t + 1) (by omega) (by omega) ls (lv_sub hl [0, 1, 2, 3] rfl)
        · have c22 := c22
          refine lv_iload_n hx hb d_G_quartersOf_25 rfl (lv_at hl 1 rfl) ?_
          refine lv_aload_n hx hb d_G_quartersOf_26 rfl (lv_at hl 2 rfl) ?_
          refine va_get (D := E.1) (cl := gp_cl) (ci := 0) (v := .ref (E.2.2.2 1)) (C := R_G) (T := T_G) (N := 8) hx hb hts i_G hown hK hP 0 rfl rfl 0 (by decide) (hts _ w1_117) (fun _ h9 => h9) rfl d_G_quartersOf_27 ?_
          refine lv_iload_n hx hb d_G_quartersOf_30 rfl (lv_at hl 0 rfl) ?_
          refine gp_cR (q0 := 1) (ci := 1) (As := [.int (nI t)]) (rest := [.int (gp_qo F (F 14) x t)]) ⟨hx, hb, hml, hown, hts⟩ (c_D_lengthOf l E I F nt t hT hnt (by omega)) (k_G_189 hts ⟨by decide, by decide⟩ rfl rfl) hK hP rfl rfl rfl hl.1 rfl (Nat.le_of_ble_eq_true rfl) d_G_quartersOf_31 ⟨Nat.le_of_ble_eq_true rfl, Nat.le_of_ble_eq_true rfl⟩ ?_
          refine lv_iadd hx hb d_G_quartersOf_34 ?_
          refine lv_istore_n (lv' := [(2, .int ((gp_qo F (F 14) x t) + (F 6 t - F 5 t))), (3, .int (nI t)), (0, .ref (E.2.2.2 0)), (1, .int x)]) hx hb d_G_quartersOf_35 rfl hl (by decide) rfl (fun ls hl => ?_)
          refine lv_iinc (v := (nI (t + 1))) (lv' := [(3, .int (nI (t + 1))), (2, .int ((gp_qo F (F 14) x t) + (F 6 t - F 5 t))), (0, .ref (E.2.2.2 0)), (1, .int x)]) hx hb d_G_quartersOf_36 hl (k := 1) rfl (nI_1 _) (by decide) rfl (fun ls hl => ?_)
          refine lv_goto (tgt := 4) hx hb d_G_quartersOf_39 (by decide) ?_
          rw [show ((gp_qo F (F 14) x t) + (F 6 t - F 5 t)) = (gp_qo F (F 14) x (t + 1)) from by simp [gp_qo, h1, c12, nc12, c22]] at hl
          exact ih4 (t + 1) (by omega) (by omega) ls (lv_sub hl [0, 1, 2, 3] rfl)
  exact L4 (nt + 1) 0 (Nat.zero_le _) (by omega) ls (lv_sub hl [0, 1, 2, 3] rfl)
set_option maxHeartbeats 4000000 in
set_option maxRecDepth 100000 in
theorem c_G_planCost (l : Launch) (E : gp_E) (I : Nat → Int32) (F : Nat → Nat → Int32) (np nt : Nat) (hp4 : I 4 = nI np) (hnp : np ≤ 4) (hT : I 6 = nI nt) (hnt : nt ≤ 6) : gp_CR l y_G_planCost b_G_planCost 4 (some .int) 2 E (gp_wG E I F) [.ref (E.2.2.2 0)] (gp_e2 (F 14) nt np) := by
  refine gp_ofR (by decide) (Nat.le_of_ble_eq_true rfl) ?_
  intro xp xe xs xm below meth xc ls hx hb hr hts hown hlocks hml hP hK hl
  have hown : xs.vm.findClass "GuidePlans" = some xm.cls := hown
  have hl : lv_has ls 4 [(0, .ref (E.2.2.2 0))] := hl
  refine lv_iconst (v := 0) hx hb d_G_planCost_0 (by decide) ?_
  refine lv_istore_n (lv' := [(1, .int 0), (0, .ref (E.2.2.2 0))]) hx hb d_G_planCost_1 rfl hl (by decide) rfl (fun ls hl => ?_)
  refine lv_iconst (v := 0) hx hb d_G_planCost_2 (by decide) ?_
  refine lv_istore_n (lv' := [(2, .int 0), (1, .int 0), (0, .ref (E.2.2.2 0))]) hx hb d_G_planCost_3 rfl hl (by decide) rfl (fun ls hl => ?_)
  have L4 : ∀ (n : Nat) (t : Nat), t ≤ nt → nt + 1 ≤ t + n → ∀ (ls : Array Slot), lv_has ls 4 [(2, .int (nI t)), (1, .int (gp_e1 (F 14) t)), (0, .ref (E.2.2.2 0))] → W xp l xe (gp_rm 2 0 0) xs xm ([.ref (E.2.2.2 0)] : List Value).toArray below meth xc xs.heap [] 0 0 (MQ below (QcRead (gp_e2 (F 14) nt np)) ([.ref (E.2.2.2 0)] : List Value).toArray xs 0 0 (fun _ => False)) (F0 xm 4 ls []) := by
    intro n
    induction n with
    | zero =>
      intro t h1 hm
      exact absurd hm (by omega)
    | succ n ih4 =>
      intro t h1 hm ls hl
      refine lv_iload_n hx hb d_G_planCost_4 rfl (lv_at hl 0 rfl) ?_
      refine lv_aload_n hx hb d_G_planCost_5 rfl (lv_at hl 2 rfl) ?_
      refine va_get (D := E.1) (cl := gp_cl) (ci := 0) (v := .ref (E.2.2.2 1)) (C := R_G) (T := T_G) (N := 8) hx hb hts i_G hown hK hP 0 rfl rfl 0 (by decide) (hts _ w1_117) (fun _ h9 => h9) rfl d_G_planCost_6 ?_
      refine va_get (D := E.1) (cl := gp_cl) (ci := 1) (v := .int (nI nt)) (C := R_D) (T := T_D) (N := 13) hx hb hts i_D hown hK hP 1 rfl rfl 10 (by decide) (hts _ w1_46) (fun _ h9 => h9) (congrArg (fun z => some (Value.int z)) hT) d_G_planCost_9 ?_
      refine lv_icmp_ge (tgt := 34) hx hb d_G_planCost_12 (by decide) (fun c12 => ?_) (fun c12 => ?_)
      · have c12 := c12
        have nc12 : nt ≤ t := (nI_leI (a := nt) (b := t) (by omega) (by omega)).mp c12
        have hte : nt = t := by omega
        subst hte
        refine lv_iconst (v := 0) hx hb d_G_planCost_34 (by decide) ?_
        refine lv_istore_n (lv' := [(2, .int 0), (1, .int (gp_e1 (F 14) nt)), (0, .ref (E.2.2.2 0))]) hx hb d_G_planCost_35 rfl hl (by decide) rfl (fun ls hl => ?_)
        have L36 : ∀ (n : Nat) (p : Nat), p ≤ np → np + 1 ≤ p + n → ∀ (ls : Array Slot), lv_has ls 4 [(2, .int (nI p)), (1, .int (gp_e2 (F 14) nt p)), (0, .ref (E.2.2.2 0))] → W xp l xe (gp_rm 2 0 0) xs xm ([.ref (E.2.2.2 0)] : List Value).toArray below meth xc xs.heap [] 0 0 (MQ below (QcRead (gp_e2 (F 14) nt np)) ([.ref (E.2.2.2 0)] : List Value).toArray xs 0 0 (fun _ => False)) (F0 xm 36 ls []) := by
          intro n
          induction n with
          | zero =>
            intro p h1 hm
            exact absurd hm (by omega)
          | succ n ih36 =>
            intro p h1 hm ls hl
            refine lv_iload_n hx hb d_G_planCost_36 rfl (lv_at hl 0 rfl) ?_
            refine lv_aload_n hx hb d_G_planCost_37 rfl (lv_at hl 2 rfl) ?_
            refine va_get (D := E.1) (cl := gp_cl) (ci := 0) (v := .ref (E.2.2.2 1)) (C := R_G) (T := T_G) (N := 8) hx hb hts i_G hown hK hP 0 rfl rfl 0 (by decide) (hts _ w1_117) (fun _ h9 => h9) rfl d_G_planCost_38 ?_
            refine va_get (D := E.1) (cl := gp_cl) (ci := 1) (v := .int (nI np)) (C := R_D) (T := T_D) (N := 13) hx hb hts i_D hown hK hP 1 rfl rfl 8 (by decide) (hts _ w1_40) (fun _ h9 => h9) (congrArg (fun z => some (Value.int z)) hp4) d_G_planCost_41 ?_
            refine lv_icmp_ge (tgt := 65) hx hb d_G_planCost_44 (by decide) (fun c44 => ?_) (fun c44 => ?_)
            · have c44 := c44
              have nc44 : np ≤ p := (nI_leI (a := np) (b := p) (by omega) (by omega)).mp c44
              refine lv_iload_n hx hb d_G_planCost_65 rfl (lv_at hl 1 rfl) ?_
              exact gp_ri hx hb hr hlocks (by rw [show p = np by omega]) d_G_planCost_66
            · have c44 := c44
              have nc44 : ¬ np ≤ p := fun h => c44 ((nI_leI (a := np) (b := p) (by omega) (by omega)).mpr h)
              refine lv_aload_n hx hb d_G_planCost_47 rfl (lv_at hl 2 rfl) ?_
              refine lv_iload_n hx hb d_G_planCost_48 rfl (lv_at hl 0 rfl) ?_
              refine gp_cR (q0 := 0) (ci := 0) (As := [.int (nI p)]) (rest := []) ⟨hx, hb, hml, hown, hts⟩ (c_G_numberOfTasks l E I F nt (nI p) hT hnt) (k_G_154 hts ⟨by decide, by decide⟩ rfl rfl) hK hP rfl rfl rfl hl.1 rfl (Nat.le_of_ble_eq_true rfl) d_G_planCost_49 ⟨Nat.le_of_ble_eq_true rfl, Nat.le_of_ble_eq_true rfl⟩ ?_
              refine lv_istore_n (lv' := [(3, .int (gp_nu (F 14) (nI p) nt)), (2, .int (nI p)), (1, .int (gp_e2 (F 14) nt p)), (0, .ref (E.2.2.2 0))]) hx hb d_G_planCost_52 rfl hl (by decide) rfl (fun ls hl => ?_)
              refine lv_iload_n hx hb d_G_planCost_53 rfl (lv_at hl 2 rfl) ?_
              refine lv_iload_n hx hb d_G_planCost_54 rfl (lv_at hl 0 rfl) ?_
              refine lv_iload_n hx hb d_G_planCost_55 rfl (lv_at hl 0 rfl) ?_
              refine lv_imul hx hb d_G_planCost_56 ?_
              refine lv_iadd hx hb d_G_planCost_57 ?_
              refine lv_istore_n (lv' := [(1, .int ((gp_e2 (F 14) nt p) + ((gp_nu (F 14) (nI p) nt) * (gp_nu (F 14) (nI p) nt)))), (3, .int (gp_nu (F 14) (nI p) nt)), (2, .int (nI p)), (0, .ref (E.2.2.2 0))]) hx hb d_G_planCost_58 rfl hl (by decide) rfl (fun ls hl => ?_)
              refine lv_iinc (v := (nI (p + 1))) (lv' := [(2, .int (nI (p + 1))), (1, .int ((gp_e2 (F 14) nt p) + ((gp_nu (F 14) (nI p) nt) * (gp_nu (F 14) (nI p) nt)))), (3, .int (gp_nu (F 14) (nI p) nt)), (0, .ref (E.2.2.2 0))]) hx hb d_G_planCost_59 hl (k := 2) rfl (nI_1 _) (by decide) rfl (fun ls hl => ?_)
              refine lv_goto (tgt := 36) hx hb d_G_planCost_62 (by decide) ?_
              rw [show ((gp_e2 (F 14) nt p) + ((gp_nu (F 14) (nI p) nt) * (gp_nu (F 14) (nI p) nt))) = (gp_e2 (F 14) nt (p + 1)) from rfl] at hl
              exact ih36 (p + 1) (by omega) (by omega) ls (lv_sub hl [0, 1, 3] rfl)
        exact L36 (np + 1) 0 (Nat.zero_le _) (by omega) ls (lv_sub hl [0, 1, 2] rfl)
      · have c12 := c12
        have nc12 : ¬ nt ≤ t := fun h => c12 ((nI_leI (a := nt) (b := t) (by omega) (by omega)).mpr h)
        refine lv_aload_n hx hb d_G_planCost_15 rfl (lv_at hl 2 rfl) ?_
        refine va_get (D := E.1) (cl := gp_cl) (ci := 0) (v := .ref (E.2.2.2 17)) (C := R_G) (T := T_G) (N := 8) hx hb hts i_G hown hK hP 0 rfl rfl 2 (by decide) (hts _ w1_119) (fun _ h9 => h9) rfl d_G_planCost_16 ?_
        refine lv_iload_n hx hb d_G_planCost_19 rfl (lv_at hl 0 rfl) ?_
        refine gp_ald (f := (F 14)) (n := 6) hx hb hK hP 17 rfl (t) rfl (by omega) (by decide) d_G_planCost_20 ?_
        refine lv_iconst (v := (-1)) hx hb d_G_planCost_21 (by decide) ?_
        refine lv_icmp_ne (tgt := 28) hx hb d_G_planCost_22 (by decide) (fun c22 => ?_) (fun c22 => ?_)
        · have c22 := c22
          refine lv_iinc (v := (nI (t + 1))) (lv' := [(2, .int (nI (t + 1))), (1, .int (gp_e1 (F 14) t)), (0, .ref (E.2.2.2 0))]) hx hb d_G_planCost_28 hl (k := 0) rfl (nI_1 _) (by decide) rfl (fun ls hl => ?_)
          refine lv_goto (tgt := 4) hx hb d_G_planCost_31 (by decide) ?_
          rw [show (gp_e1 (F 14) t) = (gp_e1 (F 14) (t + 1)) from by simp [gp_e1, h1, c12, nc12, c22]] at hl
          exact ih4 (t + 1) (by omega) (by omega) ls (lv_sub hl [0, 1, 2] rfl)
        · have c22 := c22
          refine lv_iinc (v := ((gp_e1 (F 14) t) + 100)) (lv' := [(1, .int ((gp_e1 (F 14) t) + 100)), (2, .int (nI t)), (0, .ref (E.2.2.2 0))]) hx hb d_G_planCost_25 hl (k := 1) rfl rfl (by decide) rfl (fun ls hl => ?_)
          refine lv_iinc (v := (nI (t + 1))) (lv' := [(2, .int (nI (t + 1))), (1, .int ((gp_e1 (F 14) t) + 100)), (0, .ref (E.2.2.2 0))]) hx hb d_G_planCost_28 hl (k := 1) rfl (nI_1 _) (by decide) rfl (fun ls hl => ?_)
          refine lv_goto (tgt := 4) hx hb d_G_planCost_31 (by decide) ?_
          rw [show ((gp_e1 (F 14) t) + 100) = (gp_e1 (F 14) (t + 1)) from by simp [gp_e1, h1, c12, nc12, c22]] at hl
          exact ih4 (t + 1) (by omega) (by omega) ls (lv_sub hl [0, 1, 2] rfl)
  exact L4 (nt + 1) 0 (Nat.zero_le _) (by omega) ls (lv_sub hl [0, 1, 2] rfl)
set_option maxHeartbeats 4000000 in
set_option maxRecDepth 100000 in
theorem c_G_empties (l : Launch) (E : gp_E) (I : Nat → Int32) (F : Nat → Nat → Int32) (t : Nat) (x : Int32) (ht : t < 6) : gp_CR l y_G_empties b_G_empties 3 (some .boolean) 1 E (gp_wG E I F) [.ref (E.2.2.2 0), .int (nI t), .int x] (if (!decide (F 7 t = 0) && decide (x = -1)) then 1 else 0) := by
  refine gp_ofR (by decide) (Nat.le_of_ble_eq_true rfl) ?_
  intro xp xe xs xm below meth xc ls hx hb hr hts hown hlocks hml hP hK hl
  have hown : xs.vm.findClass "GuidePlans" = some xm.cls := hown
  have hl : lv_has ls 3 [(0, .ref (E.2.2.2 0)), (1, .int (nI t)), (2, .int x)] := hl
  refine lv_aload_n hx hb d_G_empties_0 rfl (lv_at hl 0 rfl) ?_
  refine va_get (D := E.1) (cl := gp_cl) (ci := 0) (v := .ref (E.2.2.2 1)) (C := R_G) (T := T_G) (N := 8) hx hb hts i_G hown hK hP 0 rfl rfl 0 (by decide) (hts _ w1_117) (fun _ h9 => h9) rfl d_G_empties_1 ?_
  refine va_get (D := E.1) (cl := gp_cl) (ci := 1) (v := .ref (E.2.2.2 10)) (C := R_D) (T := T_D) (N := 13) hx hb hts i_D hown hK hP 1 rfl rfl 7 (by decide) (hts _ w1_38) (fun _ h9 => h9) rfl d_G_empties_4 ?_
  refine lv_iload_n hx hb d_G_empties_7 rfl (lv_at hl 1 rfl) ?_
  refine gp_zld (f := (F 7)) (n := 6) hx hb hK hP 10 rfl (t) rfl (by omega) (by decide) d_G_empties_8 ?_
  refine lv_if_eq (tgt := 21) hx hb d_G_empties_9 (by decide) (fun c9 => ?_) (fun c9 => ?_)
  · have c9 := c9
    refine lv_iconst (v := 0) hx hb d_G_empties_21 (by decide) ?_
    exact gp_rz hx hb hr hlocks (rfl) (by simp [c9]) d_G_empties_22
  · have c9 := c9
    refine lv_iload_n hx hb d_G_empties_12 rfl (lv_at hl 2 rfl) ?_
    refine lv_iconst (v := (-1)) hx hb d_G_empties_13 (by decide) ?_
    refine lv_icmp_ne (tgt := 21) hx hb d_G_empties_14 (by decide) (fun c14 => ?_) (fun c14 => ?_)
    · have c14 := c14
      refine lv_iconst (v := 0) hx hb d_G_empties_21 (by decide) ?_
      exact gp_rz hx hb hr hlocks (rfl) (by simp [c9, c14]) d_G_empties_22
    · have c14 := c14
      refine lv_iconst (v := 1) hx hb d_G_empties_17 (by decide) ?_
      refine lv_goto (tgt := 22) hx hb d_G_empties_18 (by decide) ?_
      exact gp_rz hx hb hr hlocks (rfl) (by simp [c9, c14]) d_G_empties_22
set_option maxHeartbeats 4000000 in
set_option maxRecDepth 100000 in
theorem c_G_hasTasksTooNear (l : Launch) (E : gp_E) (I : Nat → Int32) (F : Nat → Nat → Int32) (nt : Nat) (x : Int32) (hT : I 6 = nI nt) (hnt : nt ≤ 6) : gp_CR l y_G_hasTasksTooNear b_G_hasTasksTooNear 4 (some .boolean) 3 E (gp_wG E I F) [.ref (E.2.2.2 0), .int x] (if gp_htn I F x nt then 1 else 0) := by
  refine gp_ofR (by decide) (Nat.le_of_ble_eq_true rfl) ?_
  intro xp xe xs xm below meth xc ls hx hb hr hts hown hlocks hml hP hK hl
  have hown : xs.vm.findClass "GuidePlans" = some xm.cls := hown
  have hl : lv_has ls 4 [(0, .ref (E.2.2.2 0)), (1, .int x)] := hl
  refine lv_iload_n hx hb d_G_hasTasksTooNear_0 rfl (lv_at hl 1 rfl) ?_
  refine lv_iconst (v := (-1)) hx hb d_G_hasTasksTooNear_1 (by decide) ?_
  refine lv_icmp_ne (tgt := 7) hx hb d_G_hasTasksTooNear_2 (by decide) (fun c2 => ?_) (fun c2 => ?_)
  · have c2 := c2
    refine lv_iconst (v := 0) hx hb d_G_hasTasksTooNear_7 (by decide) ?_
    refine lv_istore_n (lv' := [(2, .int 0), (0, .ref (E.2.2.2 0)), (1, .int x)]) hx hb d_G_hasTasksTooNear_8 rfl hl (by decide) rfl (fun ls hl => ?_)
    have L9 : ∀ (n : Nat) (t : Nat), t ≤ nt → gp_ho I F x nt t = false → nt + 1 ≤ t + n → ∀ (ls : Array Slot), lv_has ls 4 [(2, .int (nI t)), (0, .ref (E.2.2.2 0)), (1, .int x)] → W xp l xe (gp_rm 3 0 0) xs xm ([.ref (E.2.2.2 0), .int x] : List Value).toArray below meth xc xs.heap [] 0 0 (MQ below (QcRead (if gp_htn I F x nt then 1 else 0)) ([.ref (E.2.2.2 0), .int x] : List Value).toArray xs 0 0 (fun _ => False)) (F0 xm 9 ls []) := by
      intro n
      induction n with
      | zero =>
        intro t h1 h2 hm
        exact absurd hm (by omega)
      | succ n ih9 =>
        intro t h1 h2 hm ls hl
        refine lv_iload_n hx hb d_G_hasTasksTooNear_9 rfl (lv_at hl 0 rfl) ?_
        refine lv_aload_n hx hb d_G_hasTasksTooNear_10 rfl (lv_at hl 1 rfl) ?_
        refine va_get (D := E.1) (cl := gp_cl) (ci := 0) (v := .ref (E.2.2.2 1)) (C := R_G) (T := T_G) (N := 8) hx hb hts i_G hown hK hP 0 rfl rfl 0 (by decide) (hts _ w1_117) (fun _ h9 => h9) rfl d_G_hasTasksTooNear_11 ?_
        refine va_get (D := E.1) (cl := gp_cl) (ci := 1) (v := .int (nI nt)) (C := R_D) (T := T_D) (N := 13) hx hb hts i_D hown hK hP 1 rfl rfl 10 (by decide) (hts _ w1_46) (fun _ h9 => h9) (congrArg (fun z => some (Value.int z)) hT) d_G_hasTasksTooNear_14 ?_
        refine lv_icmp_ge (tgt := 81) hx hb d_G_hasTasksTooNear_17 (by decide) (fun c17 => ?_) (fun c17 => ?_)
        · have c17 := c17
          have nc17 : nt ≤ t := (nI_leI (a := nt) (b := t) (by omega) (by omega)).mp c17
          refine lv_iconst (v := 0) hx hb d_G_hasTasksTooNear_81 (by decide) ?_
          exact gp_rz hx hb hr hlocks (rfl) (by rw [show gp_htn I F x nt = false from by simp [gp_htn, c2, show gp_ho I F x nt nt = false from (show t = nt by omega) ▸ h2]]; rfl) d_G_hasTasksTooNear_82
        · have c17 := c17
          have nc17 : ¬ nt ≤ t := fun h => c17 ((nI_leI (a := nt) (b := t) (by omega) (by omega)).mpr h)
          refine lv_iload_n hx hb d_G_hasTasksTooNear_20 rfl (lv_at hl 0 rfl) ?_
          refine lv_iconst (v := 1) hx hb d_G_hasTasksTooNear_21 (by decide) ?_
          refine lv_iadd hx hb d_G_hasTasksTooNear_22 ?_
          rw [show ((nI t) + 1) = (nI (t + 1)) from nI_1 _]
          refine lv_istore_n (lv' := [(3, .int (nI (t + 1))), (2, .int (nI t)), (0, .ref (E.2.2.2 0)), (1, .int x)]) hx hb d_G_hasTasksTooNear_23 rfl hl (by decide) rfl (fun ls hl => ?_)
          have L24 : ∀ (n : Nat) (u : Nat), u ≤ nt → t < u → gp_hi I F x t u = false → nt + 1 ≤ u + n → ∀ (ls : Array Slot), lv_has ls 4 [(3, .int (nI u)), (2, .int (nI t)), (0, .ref (E.2.2.2 0)), (1, .int x)] → W xp l xe (gp_rm 3 0 0) xs xm ([.ref (E.2.2.2 0), .int x] : List Value).toArray below meth xc xs.heap [] 0 0 (MQ below (QcRead (if gp_htn I F x nt then 1 else 0)) ([.ref (E.2.2.2 0), .int x] : List Value).toArray xs 0 0 (fun _ => False)) (F0 xm 24 ls []) := by
            intro n
            induction n with
            | zero =>
              intro u k1 k0 k2 hm
              exact absurd hm (by omega)
            | succ n ih24 =>
              intro u k1 k0 k2 hm ls hl
              refine lv_iload_n hx hb d_G_hasTasksTooNear_24 rfl (lv_at hl 0 rfl) ?_
              refine lv_aload_n hx hb d_G_hasTasksTooNear_25 rfl (lv_at hl 2 rfl) ?_
              refine va_get (D := E.1) (cl := gp_cl) (ci := 0) (v := .ref (E.2.2.2 1)) (C := R_G) (T := T_G) (N := 8) hx hb hts i_G hown hK hP 0 rfl rfl 0 (by decide) (hts _ w1_117) (fun _ h9 => h9) rfl d_G_hasTasksTooNear_26 ?_
              refine va_get (D := E.1) (cl := gp_cl) (ci := 1) (v := .int (nI nt)) (C := R_D) (T := T_D) (N := 13) hx hb hts i_D hown hK hP 1 rfl rfl 10 (by decide) (hts _ w1_46) (fun _ h9 => h9) (congrArg (fun z => some (Value.int z)) hT) d_G_hasTasksTooNear_29 ?_
              refine lv_icmp_ge (tgt := 75) hx hb d_G_hasTasksTooNear_32 (by decide) (fun c32 => ?_) (fun c32 => ?_)
              · have c32 := c32
                have nc32 : nt ≤ u := (nI_leI (a := nt) (b := u) (by omega) (by omega)).mp c32
                refine lv_iinc (v := (nI (t + 1))) (lv' := [(2, .int (nI (t + 1))), (3, .int (nI u)), (0, .ref (E.2.2.2 0)), (1, .int x)]) hx hb d_G_hasTasksTooNear_75 hl (k := 1) rfl (nI_1 _) (by decide) rfl (fun ls hl => ?_)
                refine lv_goto (tgt := 9) hx hb d_G_hasTasksTooNear_78 (by decide) ?_
                exact ih9 (t + 1) (by omega) (by simp [gp_ho, h2, show gp_hi I F x t nt = false from (show u = nt by omega) ▸ k2]) (by omega) ls (lv_sub hl [0, 2, 3] rfl)
              · have c32 := c32
                have nc32 : ¬ nt ≤ u := fun h => c32 ((nI_leI (a := nt) (b := u) (by omega) (by omega)).mpr h)
                refine lv_aload_n hx hb d_G_hasTasksTooNear_35 rfl (lv_at hl 2 rfl) ?_
                refine va_get (D := E.1) (cl := gp_cl) (ci := 0) (v := .ref (E.2.2.2 17)) (C := R_G) (T := T_G) (N := 8) hx hb hts i_G hown hK hP 0 rfl rfl 2 (by decide) (hts _ w1_119) (fun _ h9 => h9) rfl d_G_hasTasksTooNear_36 ?_
                refine lv_iload_n hx hb d_G_hasTasksTooNear_39 rfl (lv_at hl 1 rfl) ?_
                refine gp_ald (f := (F 14)) (n := 6) hx hb hK hP 17 rfl (t) rfl (by omega) (by decide) d_G_hasTasksTooNear_40 ?_
                refine lv_iload_n hx hb d_G_hasTasksTooNear_41 rfl (lv_at hl 3 rfl) ?_
                refine lv_icmp_ne (tgt := 69) hx hb d_G_hasTasksTooNear_42 (by decide) (fun c42 => ?_) (fun c42 => ?_)
                · have c42 := c42
                  refine lv_iinc (v := (nI (u + 1))) (lv' := [(3, .int (nI (u + 1))), (2, .int (nI t)), (0, .ref (E.2.2.2 0)), (1, .int x)]) hx hb d_G_hasTasksTooNear_69 hl (k := 0) rfl (nI_1 _) (by decide) rfl (fun ls hl => ?_)
                  refine lv_goto (tgt := 24) hx hb d_G_hasTasksTooNear_72 (by decide) ?_
                  exact ih24 (u + 1) (by omega) (by omega) (by simp [gp_hi, gp_pr, c2, h1, h2, c17, nc17, k1, k0, k2, c32, nc32, c42]) (by omega) ls (lv_sub hl [0, 1, 2, 3] rfl)
                · have c42 := c42
                  refine lv_aload_n hx hb d_G_hasTasksTooNear_45 rfl (lv_at hl 2 rfl) ?_
                  refine va_get (D := E.1) (cl := gp_cl) (ci := 0) (v := .ref (E.2.2.2 17)) (C := R_G) (T := T_G) (N := 8) hx hb hts i_G hown hK hP 0 rfl rfl 2 (by decide) (hts _ w1_119) (fun _ h9 => h9) rfl d_G_hasTasksTooNear_46 ?_
                  refine lv_iload_n hx hb d_G_hasTasksTooNear_49 rfl (lv_at hl 0 rfl) ?_
                  refine gp_ald (f := (F 14)) (n := 6) hx hb hK hP 17 rfl (u) rfl (by omega) (by decide) d_G_hasTasksTooNear_50 ?_
                  refine lv_iload_n hx hb d_G_hasTasksTooNear_51 rfl (lv_at hl 3 rfl) ?_
                  refine lv_icmp_ne (tgt := 69) hx hb d_G_hasTasksTooNear_52 (by decide) (fun c52 => ?_) (fun c52 => ?_)
                  · have c52 := c52
                    refine lv_iinc (v := (nI (u + 1))) (lv' := [(3, .int (nI (u + 1))), (2, .int (nI t)), (0, .ref (E.2.2.2 0)), (1, .int x)]) hx hb d_G_hasTasksTooNear_69 hl (k := 0) rfl (nI_1 _) (by decide) rfl (fun ls hl => ?_)
                    refine lv_goto (tgt := 24) hx hb d_G_hasTasksTooNear_72 (by decide) ?_
                    exact ih24 (u + 1) (by omega) (by omega) (by simp [gp_hi, gp_pr, c2, h1, h2, c17, nc17, k1, k0, k2, c32, nc32, c42, c52]) (by omega) ls (lv_sub hl [0, 1, 2, 3] rfl)
                  · have c52 := c52
                    refine lv_aload_n hx hb d_G_hasTasksTooNear_55 rfl (lv_at hl 2 rfl) ?_
                    refine va_get (D := E.1) (cl := gp_cl) (ci := 0) (v := .ref (E.2.2.2 1)) (C := R_G) (T := T_G) (N := 8) hx hb hts i_G hown hK hP 0 rfl rfl 0 (by decide) (hts _ w1_117) (fun _ h9 => h9) rfl d_G_hasTasksTooNear_56 ?_
                    refine lv_iload_n hx hb d_G_hasTasksTooNear_59 rfl (lv_at hl 1 rfl) ?_
                    refine lv_iload_n hx hb d_G_hasTasksTooNear_60 rfl (lv_at hl 0 rfl) ?_
                    refine gp_cR (q0 := 1) (ci := 1) (As := [.int (nI t), .int (nI u)]) (rest := []) ⟨hx, hb, hml, hown, hts⟩ (c_D_areTooNear l E I F nt t u hT hnt (by omega) (by omega)) (k_G_205 hts ⟨by decide, by decide⟩ rfl rfl) hK hP rfl rfl rfl hl.1 rfl (Nat.le_of_ble_eq_true rfl) d_G_hasTasksTooNear_61 ⟨Nat.le_of_ble_eq_true rfl, Nat.le_of_ble_eq_true rfl⟩ ?_
                    by_cases hs61 : gp_near I F t u = true
                    · rw [show ((if gp_near I F t u then 1 else 0) : Int32) = 1 from if_pos hs61]
                      refine lv_if_eq (tgt := 69) hx hb d_G_hasTasksTooNear_64 (by decide) (fun c64 => ?_) (fun c64 => ?_)
                      · exact absurd c64 (by decide)
                      · have c64 := c64
                        have nc64 : ¬ 1 = 0 := fun h => c64 ((nI_eq (a := 1) (b := 0) (by omega) (by omega)).mpr h)
                        refine lv_iconst (v := 1) hx hb d_G_hasTasksTooNear_67 (by decide) ?_
                        exact gp_rz hx hb hr hlocks (rfl) (by rw [show gp_htn I F x nt = true from by simp [gp_htn, c2, gp_ho_up (I := I) (F := F) (x := x) (nt := nt) (t := t) (gp_hi_up (I := I) (F := F) (x := x) (t := t) (u := u) (by simp [gp_pr, c2, h1, h2, c17, nc17, k1, k0, k2, c32, nc32, c42, c52, hs61, c64, nc64]) (by omega) nt (by omega)) nt (show t < nt by omega)]]; rfl) d_G_hasTasksTooNear_68
                    · rw [show ((if gp_near I F t u then 1 else 0) : Int32) = 0 from if_neg hs61]
                      refine lv_if_eq (tgt := 69) hx hb d_G_hasTasksTooNear_64 (by decide) (fun c64 => ?_) (fun c64 => ?_)
                      · have c64 := c64
                        have nc64 : 0 = 0 := (nI_eq (a := 0) (b := 0) (by omega) (by omega)).mp c64
                        refine lv_iinc (v := (nI (u + 1))) (lv' := [(3, .int (nI (u + 1))), (2, .int (nI t)), (0, .ref (E.2.2.2 0)), (1, .int x)]) hx hb d_G_hasTasksTooNear_69 hl (k := 0) rfl (nI_1 _) (by decide) rfl (fun ls hl => ?_)
                        refine lv_goto (tgt := 24) hx hb d_G_hasTasksTooNear_72 (by decide) ?_
                        exact ih24 (u + 1) (by omega) (by omega) (by simp [gp_hi, gp_pr, c2, h1, h2, c17, nc17, k1, k0, k2, c32, nc32, c42, c52, hs61, c64, nc64]) (by omega) ls (lv_sub hl [0, 1, 2, 3] rfl)
                      · exact absurd c64 (by decide)
          exact L24 (nt + 1) (t + 1) (by omega) (by omega) (gp_hi_0 _ (Nat.le_refl _)) (by omega) ls (lv_sub hl [0, 1, 2, 3] rfl)
    exact L9 (nt + 1) 0 (Nat.zero_le _) rfl (by omega) ls (lv_sub hl [0, 1, 2] rfl)
  · have c2 := c2
    refine lv_iconst (v := 0) hx hb d_G_hasTasksTooNear_5 (by decide) ?_
    exact gp_rz hx hb hr hlocks (rfl) (by simp [gp_htn, c2]) d_G_hasTasksTooNear_6
set_option maxHeartbeats 4000000 in
set_option maxRecDepth 100000 in
theorem c_G_worksTooLong (l : Launch) (E : gp_E) (I : Nat → Int32) (F : Nat → Nat → Int32) (nt : Nat) (x : Int32) (hT : I 6 = nI nt) (hnt : nt ≤ 6) : gp_CR l y_G_worksTooLong b_G_worksTooLong 2 (some .boolean) 4 E (gp_wG E I F) [.ref (E.2.2.2 0), .int x] (if gp_wtl I F x nt then 1 else 0) := by
  refine gp_ofR (by decide) (Nat.le_of_ble_eq_true rfl) ?_
  intro xp xe xs xm below meth xc ls hx hb hr hts hown hlocks hml hP hK hl
  have hown : xs.vm.findClass "GuidePlans" = some xm.cls := hown
  have hl : lv_has ls 2 [(0, .ref (E.2.2.2 0)), (1, .int x)] := hl
  refine lv_iload_n hx hb d_G_worksTooLong_0 rfl (lv_at hl 1 rfl) ?_
  refine lv_iconst (v := (-1)) hx hb d_G_worksTooLong_1 (by decide) ?_
  refine lv_icmp_eq (tgt := 24) hx hb d_G_worksTooLong_2 (by decide) (fun c2 => ?_) (fun c2 => ?_)
  · have c2 := c2
    refine lv_iconst (v := 0) hx hb d_G_worksTooLong_24 (by decide) ?_
    exact gp_rz hx hb hr hlocks (rfl) (by simp [gp_wtl, c2]) d_G_worksTooLong_25
  · have c2 := c2
    refine lv_aload_n hx hb d_G_worksTooLong_5 rfl (lv_at hl 0 rfl) ?_
    refine lv_iload_n hx hb d_G_worksTooLong_6 rfl (lv_at hl 1 rfl) ?_
    refine gp_cR (q0 := 0) (ci := 0) (As := [.int x]) (rest := []) ⟨hx, hb, hml, hown, hts⟩ (c_G_quartersOf l E I F nt x hT hnt) (k_G_151 hts ⟨by decide, by decide⟩ rfl rfl) hK hP rfl rfl rfl hl.1 rfl (Nat.le_of_ble_eq_true rfl) d_G_worksTooLong_7 ⟨Nat.le_of_ble_eq_true rfl, Nat.le_of_ble_eq_true rfl⟩ ?_
    refine lv_aload_n hx hb d_G_worksTooLong_10 rfl (lv_at hl 0 rfl) ?_
    refine va_get (D := E.1) (cl := gp_cl) (ci := 0) (v := .ref (E.2.2.2 1)) (C := R_G) (T := T_G) (N := 8) hx hb hts i_G hown hK hP 0 rfl rfl 0 (by decide) (hts _ w1_117) (fun _ h9 => h9) rfl d_G_worksTooLong_11 ?_
    refine va_get (D := E.1) (cl := gp_cl) (ci := 1) (v := .int (I 8)) (C := R_D) (T := T_D) (N := 13) hx hb hts i_D hown hK hP 1 rfl rfl 12 (by decide) (hts _ w1_50) (fun _ h9 => h9) rfl d_G_worksTooLong_14 ?_
    refine lv_icmp_le (tgt := 24) hx hb d_G_worksTooLong_17 (by decide) (fun c17 => ?_) (fun c17 => ?_)
    · have c17 := c17
      have mc17 : ¬ (I 8) < (gp_qo F (F 14) x nt) := Int32.not_lt.mpr c17
      refine lv_iconst (v := 0) hx hb d_G_worksTooLong_24 (by decide) ?_
      exact gp_rz hx hb hr hlocks (rfl) (by simp [gp_wtl, c2, c17, mc17]) d_G_worksTooLong_25
    · have c17 := c17
      have mc17 : (I 8) < (gp_qo F (F 14) x nt) := Int32.not_le.mp c17
      refine lv_iconst (v := 1) hx hb d_G_worksTooLong_20 (by decide) ?_
      refine lv_goto (tgt := 25) hx hb d_G_worksTooLong_21 (by decide) ?_
      exact gp_rz hx hb hr hlocks (rfl) (by simp [gp_wtl, c2, c17, mc17]) d_G_worksTooLong_25
set_option maxHeartbeats 4000000 in
set_option maxRecDepth 100000 in
theorem c_G_faultOfSets (l : Launch) (E : gp_E) (I : Nat → Int32) (F : Nat → Nat → Int32) (nt : Nat) (x y : Int32) (hT : I 6 = nI nt) (hnt : nt ≤ 6) : gp_CR l y_G_faultOfSets b_G_faultOfSets 3 (some .int) 5 E (gp_wG E I F) [.ref (E.2.2.2 0), .int x, .int y] (gp_fs I F x y nt) := by
  refine gp_ofR (by decide) (Nat.le_of_ble_eq_true rfl) ?_
  intro xp xe xs xm below meth xc ls hx hb hr hts hown hlocks hml hP hK hl
  have hown : xs.vm.findClass "GuidePlans" = some xm.cls := hown
  have hl : lv_has ls 3 [(0, .ref (E.2.2.2 0)), (1, .int x), (2, .int y)] := hl
  refine lv_aload_n hx hb d_G_faultOfSets_0 rfl (lv_at hl 0 rfl) ?_
  refine lv_iload_n hx hb d_G_faultOfSets_1 rfl (lv_at hl 1 rfl) ?_
  refine gp_cR (q0 := 0) (ci := 0) (As := [.int x]) (rest := []) ⟨hx, hb, hml, hown, hts⟩ (c_G_hasTasksTooNear l E I F nt x hT hnt) (k_G_199 hts ⟨by decide, by decide⟩ rfl rfl) hK hP rfl rfl rfl hl.1 rfl (Nat.le_of_ble_eq_true rfl) d_G_faultOfSets_2 ⟨Nat.le_of_ble_eq_true rfl, Nat.le_of_ble_eq_true rfl⟩ ?_
  by_cases hs2 : gp_htn I F x nt = true
  · rw [show ((if gp_htn I F x nt then 1 else 0) : Int32) = 1 from if_pos hs2]
    refine lv_if_ne (tgt := 16) hx hb d_G_faultOfSets_5 (by decide) (fun c5 => ?_) (fun c5 => ?_)
    · have c5 := c5
      have nc5 : ¬ 1 = 0 := fun h => c5 ((nI_eq (a := 1) (b := 0) (by omega) (by omega)).mpr h)
      refine lv_iconst (v := 4) hx hb d_G_faultOfSets_16 (by decide) ?_
      exact gp_ri hx hb hr hlocks (by simp [gp_fs, hs2, c5, nc5]) d_G_faultOfSets_17
    · exact absurd c5 (by decide)
  · rw [show ((if gp_htn I F x nt then 1 else 0) : Int32) = 0 from if_neg hs2]
    refine lv_if_ne (tgt := 16) hx hb d_G_faultOfSets_5 (by decide) (fun c5 => ?_) (fun c5 => ?_)
    · exact absurd c5 (by decide)
    · have c5 := c5
      have nc5 : 0 = 0 := (nI_eq (a := 0) (b := 0) (by omega) (by omega)).mp c5
      refine lv_aload_n hx hb d_G_faultOfSets_8 rfl (lv_at hl 0 rfl) ?_
      refine lv_iload_n hx hb d_G_faultOfSets_9 rfl (lv_at hl 2 rfl) ?_
      refine gp_cR (q0 := 0) (ci := 0) (As := [.int y]) (rest := []) ⟨hx, hb, hml, hown, hts⟩ (c_G_hasTasksTooNear l E I F nt y hT hnt) (k_G_199 hts ⟨by decide, by decide⟩ rfl rfl) hK hP rfl rfl rfl hl.1 rfl (Nat.le_of_ble_eq_true rfl) d_G_faultOfSets_10 ⟨Nat.le_of_ble_eq_true rfl, Nat.le_of_ble_eq_true rfl⟩ ?_
      by_cases hs10 : gp_htn I F y nt = true
      · rw [show ((if gp_htn I F y nt then 1 else 0) : Int32) = 1 from if_pos hs10]
        refine lv_if_eq (tgt := 18) hx hb d_G_faultOfSets_13 (by decide) (fun c13 => ?_) (fun c13 => ?_)
        · exact absurd c13 (by decide)
        · have c13 := c13
          have nc13 : ¬ 1 = 0 := fun h => c13 ((nI_eq (a := 1) (b := 0) (by omega) (by omega)).mpr h)
          refine lv_iconst (v := 4) hx hb d_G_faultOfSets_16 (by decide) ?_
          exact gp_ri hx hb hr hlocks (by simp [gp_fs, hs2, c5, nc5, hs10, c13, nc13]) d_G_faultOfSets_17
      · rw [show ((if gp_htn I F y nt then 1 else 0) : Int32) = 0 from if_neg hs10]
        refine lv_if_eq (tgt := 18) hx hb d_G_faultOfSets_13 (by decide) (fun c13 => ?_) (fun c13 => ?_)
        · have c13 := c13
          have nc13 : 0 = 0 := (nI_eq (a := 0) (b := 0) (by omega) (by omega)).mp c13
          refine lv_aload_n hx hb d_G_faultOfSets_18 rfl (lv_at hl 0 rfl) ?_
          refine lv_iload_n hx hb d_G_faultOfSets_19 rfl (lv_at hl 1 rfl) ?_
          refine gp_cR (q0 := 0) (ci := 0) (As := [.int x]) (rest := []) ⟨hx, hb, hml, hown, hts⟩ (c_G_worksTooLong l E I F nt x hT hnt) (k_G_202 hts ⟨by decide, by decide⟩ rfl rfl) hK hP rfl rfl rfl hl.1 rfl (Nat.le_of_ble_eq_true rfl) d_G_faultOfSets_20 ⟨Nat.le_of_ble_eq_true rfl, Nat.le_of_ble_eq_true rfl⟩ ?_
          by_cases hs20 : gp_wtl I F x nt = true
          · rw [show ((if gp_wtl I F x nt then 1 else 0) : Int32) = 1 from if_pos hs20]
            refine lv_if_ne (tgt := 34) hx hb d_G_faultOfSets_23 (by decide) (fun c23 => ?_) (fun c23 => ?_)
            · have c23 := c23
              have nc23 : ¬ 1 = 0 := fun h => c23 ((nI_eq (a := 1) (b := 0) (by omega) (by omega)).mpr h)
              refine lv_iconst (v := 5) hx hb d_G_faultOfSets_34 (by decide) ?_
              exact gp_ri hx hb hr hlocks (by simp [gp_fs, hs2, c5, nc5, hs10, c13, nc13, hs20, c23, nc23]) d_G_faultOfSets_35
            · exact absurd c23 (by decide)
          · rw [show ((if gp_wtl I F x nt then 1 else 0) : Int32) = 0 from if_neg hs20]
            refine lv_if_ne (tgt := 34) hx hb d_G_faultOfSets_23 (by decide) (fun c23 => ?_) (fun c23 => ?_)
            · exact absurd c23 (by decide)
            · have c23 := c23
              have nc23 : 0 = 0 := (nI_eq (a := 0) (b := 0) (by omega) (by omega)).mp c23
              refine lv_aload_n hx hb d_G_faultOfSets_26 rfl (lv_at hl 0 rfl) ?_
              refine lv_iload_n hx hb d_G_faultOfSets_27 rfl (lv_at hl 2 rfl) ?_
              refine gp_cR (q0 := 0) (ci := 0) (As := [.int y]) (rest := []) ⟨hx, hb, hml, hown, hts⟩ (c_G_worksTooLong l E I F nt y hT hnt) (k_G_202 hts ⟨by decide, by decide⟩ rfl rfl) hK hP rfl rfl rfl hl.1 rfl (Nat.le_of_ble_eq_true rfl) d_G_faultOfSets_28 ⟨Nat.le_of_ble_eq_true rfl, Nat.le_of_ble_eq_true rfl⟩ ?_
              by_cases hs28 : gp_wtl I F y nt = true
              · rw [show ((if gp_wtl I F y nt then 1 else 0) : Int32) = 1 from if_pos hs28]
                refine lv_if_eq (tgt := 36) hx hb d_G_faultOfSets_31 (by decide) (fun c31 => ?_) (fun c31 => ?_)
                · exact absurd c31 (by decide)
                · have c31 := c31
                  have nc31 : ¬ 1 = 0 := fun h => c31 ((nI_eq (a := 1) (b := 0) (by omega) (by omega)).mpr h)
                  refine lv_iconst (v := 5) hx hb d_G_faultOfSets_34 (by decide) ?_
                  exact gp_ri hx hb hr hlocks (by simp [gp_fs, hs2, c5, nc5, hs10, c13, nc13, hs20, c23, nc23, hs28, c31, nc31]) d_G_faultOfSets_35
              · rw [show ((if gp_wtl I F y nt then 1 else 0) : Int32) = 0 from if_neg hs28]
                refine lv_if_eq (tgt := 36) hx hb d_G_faultOfSets_31 (by decide) (fun c31 => ?_) (fun c31 => ?_)
                · have c31 := c31
                  have nc31 : 0 = 0 := (nI_eq (a := 0) (b := 0) (by omega) (by omega)).mp c31
                  refine lv_iconst (v := 0) hx hb d_G_faultOfSets_36 (by decide) ?_
                  exact gp_ri hx hb hr hlocks (by simp [gp_fs, hs2, c5, nc5, hs10, c13, nc13, hs20, c23, nc23, hs28, c31, nc31]) d_G_faultOfSets_37
                · exact absurd c31 (by decide)
        · exact absurd c13 (by decide)
set_option maxHeartbeats 4000000 in
set_option maxRecDepth 100000 in
theorem c_G_isUnsuitedN (l : Launch) (E : gp_E) (I : Nat → Int32) (F : Nat → Nat → Int32) (t : Nat) : gp_CR l y_G_isUnsuited b_G_isUnsuited 3 (some .boolean) 3 E (gp_wG E I F) [.ref (E.2.2.2 0), .int (nI t), .int (-1)] 0 := by
  refine gp_ofR (by decide) (Nat.le_of_ble_eq_true rfl) ?_
  intro xp xe xs xm below meth xc ls hx hb hr hts hown hlocks hml hP hK hl
  have hown : xs.vm.findClass "GuidePlans" = some xm.cls := hown
  have hl : lv_has ls 3 [(0, .ref (E.2.2.2 0)), (1, .int (nI t)), (2, .int (-1))] := hl
  refine lv_iload_n hx hb d_G_isUnsuited_0 rfl (lv_at hl 2 rfl) ?_
  refine lv_iconst (v := (-1)) hx hb d_G_isUnsuited_1 (by decide) ?_
  refine lv_icmp_eq (tgt := 21) hx hb d_G_isUnsuited_2 (by decide) (fun c2 => ?_) (fun c2 => ?_)
  · have c2 := c2
    refine lv_iconst (v := 0) hx hb d_G_isUnsuited_21 (by decide) ?_
    exact gp_rz hx hb hr hlocks (rfl) (rfl) d_G_isUnsuited_22
  · exact absurd c2 (by decide)
set_option maxHeartbeats 4000000 in
set_option maxRecDepth 100000 in
theorem c_G_isUnsuitedP (l : Launch) (E : gp_E) (I : Nat → Int32) (F : Nat → Nat → Int32) (np nt ns p t : Nat) (hp4 : I 4 = nI np) (hT : I 6 = nI nt) (hN : I 5 = nI ns) (hnp : np ≤ 4) (hnt : nt ≤ 6) (hns : ns ≤ 20) (ht : t < nt) (hp : p < np) : gp_CR l y_G_isUnsuited b_G_isUnsuited 3 (some .boolean) 3 E (gp_wG E I F) [.ref (E.2.2.2 0), .int (nI t), .int (nI p)] (if gp_suit F ns p t then 0 else 1) := by
  refine gp_ofR (by decide) (Nat.le_of_ble_eq_true rfl) ?_
  intro xp xe xs xm below meth xc ls hx hb hr hts hown hlocks hml hP hK hl
  have hown : xs.vm.findClass "GuidePlans" = some xm.cls := hown
  have hl : lv_has ls 3 [(0, .ref (E.2.2.2 0)), (1, .int (nI t)), (2, .int (nI p))] := hl
  refine lv_iload_n hx hb d_G_isUnsuited_0 rfl (lv_at hl 2 rfl) ?_
  refine lv_iconst (v := (-1)) hx hb d_G_isUnsuited_1 (by decide) ?_
  refine lv_icmp_eq (tgt := 21) hx hb d_G_isUnsuited_2 (by decide) (fun c2 => ?_) (fun c2 => ?_)
  · have c2 := c2
    exact False.elim (gp_nn (by omega) c2)
  · have c2 := c2
    refine lv_aload_n hx hb d_G_isUnsuited_5 rfl (lv_at hl 0 rfl) ?_
    refine va_get (D := E.1) (cl := gp_cl) (ci := 0) (v := .ref (E.2.2.2 1)) (C := R_G) (T := T_G) (N := 8) hx hb hts i_G hown hK hP 0 rfl rfl 0 (by decide) (hts _ w1_117) (fun _ h9 => h9) rfl d_G_isUnsuited_6 ?_
    refine lv_iload_n hx hb d_G_isUnsuited_9 rfl (lv_at hl 2 rfl) ?_
    refine lv_iload_n hx hb d_G_isUnsuited_10 rfl (lv_at hl 1 rfl) ?_
    refine gp_cR (q0 := 1) (ci := 1) (As := [.int (nI p), .int (nI t)]) (rest := []) ⟨hx, hb, hml, hown, hts⟩ (c_D_suits l E I F np nt ns p t hp4 hT hN hnp hnt hns hp ht) (k_G_196 hts ⟨by decide, by decide⟩ rfl rfl) hK hP rfl rfl rfl hl.1 rfl (Nat.le_of_ble_eq_true rfl) d_G_isUnsuited_11 ⟨Nat.le_of_ble_eq_true rfl, Nat.le_of_ble_eq_true rfl⟩ ?_
    by_cases hs11 : gp_suit F ns p t = true
    · rw [show ((if gp_suit F ns p t then 1 else 0) : Int32) = 1 from if_pos hs11]
      refine lv_if_ne (tgt := 21) hx hb d_G_isUnsuited_14 (by decide) (fun c14 => ?_) (fun c14 => ?_)
      · have c14 := c14
        have nc14 : ¬ 1 = 0 := fun h => c14 ((nI_eq (a := 1) (b := 0) (by omega) (by omega)).mpr h)
        refine lv_iconst (v := 0) hx hb d_G_isUnsuited_21 (by decide) ?_
        exact gp_rz hx hb hr hlocks (rfl) (by simp [c2, hs11, c14, nc14]) d_G_isUnsuited_22
      · exact absurd c14 (by decide)
    · rw [show ((if gp_suit F ns p t then 1 else 0) : Int32) = 0 from if_neg hs11]
      refine lv_if_ne (tgt := 21) hx hb d_G_isUnsuited_14 (by decide) (fun c14 => ?_) (fun c14 => ?_)
      · exact absurd c14 (by decide)
      · have c14 := c14
        have nc14 : 0 = 0 := (nI_eq (a := 0) (b := 0) (by omega) (by omega)).mp c14
        refine lv_iconst (v := 1) hx hb d_G_isUnsuited_17 (by decide) ?_
        refine lv_goto (tgt := 22) hx hb d_G_isUnsuited_18 (by decide) ?_
        exact gp_rz hx hb hr hlocks (rfl) (by simp [c2, hs11, c14, nc14]) d_G_isUnsuited_22
theorem c_G_isUnsuited (l : Launch) (E : gp_E) (I : Nat → Int32) (F : Nat → Nat → Int32) (np nt ns t : Nat) (x : Int32) (hp4 : I 4 = nI np) (hT : I 6 = nI nt) (hN : I 5 = nI ns) (hnp : np ≤ 4) (hnt : nt ≤ 6) (hns : ns ≤ 20) (ht : t < nt) (hx : x = -1 ∨ ∃ p, p < np ∧ x = nI p) : gp_CR l y_G_isUnsuited b_G_isUnsuited 3 (some .boolean) 3 E (gp_wG E I F) [.ref (E.2.2.2 0), .int (nI t), .int x] (if gp_uns F ns x t then 1 else 0) := by
  rcases hx with rfl | ⟨p, hp, rfl⟩
  · exact c_G_isUnsuitedN l E I F t
  · have h := c_G_isUnsuitedP l E I F np nt ns p t hp4 hT hN hnp hnt hns ht hp
    rw [show (if gp_uns F ns (nI p) t then (1 : Int32) else 0) = (if gp_suit F ns p t then 0 else 1) from by
      have e1 : ¬ nI p = -1 := fun e => gp_nn (by omega) e
      simp only [gp_uns, e1, nI_clamp (show p < 2 ^ 31 by omega)]
      cases gp_suit F ns p t <;> rfl]
    exact h
