/-! ===== GuidePlansModel: what its methods answer ===== -/
theorem gm_ge {p : Nat} (h : p < 2 ^ 31) (e : nI p ≤ -1) : False := by
  have h1 := nI_toInt h
  have h2 : (nI p).toInt ≤ (-1 : Int32).toInt := Int32.le_iff_toInt_le.mp e
  have h3 : (-1 : Int32).toInt = -1 := by decide
  omega
def gm_g (a b c : Int32) : Int32 := if a = 0 then 1 else if b = 0 then 2 else if c = 0 then 3 else 0
def gm_w (v lo hi : Int32) : Bool := !decide (v < lo) && !decide (hi < v)
def gm_sp (x y : Int32) : Bool := !decide (x < 0) && !decide (y ≤ x) && !decide (96 < y)
def gm_su (F : Nat → Nat → Int32) (p t k : Nat) : Bool := decide ((F 0 p >>> (F 4 t &&& 31)) &&& 1 = 1) && !gp_ofN F (nI p) t k
def gm_near (r : Int32) (F : Nat → Nat → Int32) (a b : Nat) : Bool := decide (F 5 b < F 6 a + r) && decide (F 5 a < F 6 b + r)
def gm_h1 (r : Int32) (F : Nat → Nat → Int32) (x : Int32) (a : Nat) : Nat → Bool
  | 0 => false
  | k + 1 => gm_h1 r F x a k || (decide (F 9 a = x) && decide (F 9 k = x) && gm_near r F a k)
def gm_h2 (r : Int32) (F : Nat → Nat → Int32) (x : Int32) : Nat → Bool
  | 0 => false
  | k + 1 => gm_h2 r F x k || gm_h1 r F x k k
def gm_q (F : Nat → Nat → Int32) (x : Int32) : Nat → Int32
  | 0 => 0
  | k + 1 => if F 9 k = x then gm_q F x k + F 6 k - F 5 k else gm_q F x k
def gm_c (f : Nat → Int32) (nt : Nat) : Nat → Int32
  | 0 => 0 + 100 * gp_nu f (-1) nt
  | k + 1 => gm_c f nt k + gp_nu f (nI k) nt * gp_nu f (nI k) nt
def gm_ok (F : Nat → Nat → Int32) (ns t : Nat) : Bool := if F 11 t = 0 then decide (F 9 t = -1) || gm_su F (F 9 t).toNatClampNeg t ns else decide (F 9 t = F 8 t)
def gm_at (F : Nat → Nat → Int32) (ns : Nat) : Nat → Bool
  | 0 => true
  | k + 1 => gm_at F ns k && gm_ok F ns k
theorem gm_at_f {F : Nat → Nat → Int32} {ns t : Nat} (h : gm_at F ns t = false) : ∀ k, t ≤ k → gm_at F ns k = false := by
  intro k
  induction k with
  | zero => intro e; rw [show (0 : Nat) = t by omega]; exact h
  | succ k ih =>
    intro e
    by_cases e2 : t ≤ k
    · simp [gm_at, ih e2]
    · rw [show k + 1 = t by omega]; exact h
def gm_ap (I : Nat → Int32) (F : Nat → Nat → Int32) (nt : Nat) : Nat → Bool
  | 0 => true
  | k + 1 => gm_ap I F nt k && (!decide (I 6 < gm_q F (nI k) nt) && !gm_h2 (I 5) F (nI k) nt)
theorem gm_ap_f {I : Nat → Int32} {F : Nat → Nat → Int32} {nt t : Nat} (h : gm_ap I F nt t = false) : ∀ k, t ≤ k → gm_ap I F nt k = false := by
  intro k
  induction k with
  | zero => intro e; rw [show (0 : Nat) = t by omega]; exact h
  | succ k ih =>
    intro e
    by_cases e2 : t ≤ k
    · simp [gm_ap, ih e2]
    · rw [show k + 1 = t by omega]; exact h
def gm_may (I : Nat → Int32) (F : Nat → Nat → Int32) (np nt ns : Nat) : Bool := gm_at F ns nt && gm_ap I F nt np
def gm_fu (F : Nat → Nat → Int32) : Nat → Nat → Nat
  | 0, t => t
  | k + 1, t => if F 7 t = 0 then gm_fu F k (t + 1) else if F 9 t = -1 then t else gm_fu F k (t + 1)
def gm_df (F : Nat → Nat → Int32) : Nat → Nat
  | 0 => 0
  | k + 1 => if F 9 k = F 8 k then gm_df F k else gm_df F k + 1
set_option maxHeartbeats 4000000 in
set_option maxRecDepth 100000 in
theorem c_M_thrown (l : Launch) (E : gp_E) (I : Nat → Int32) (F : Nat → Nat → Int32)   : gp_CR l y_M_thrown b_M_thrown 1 (some .int) 1 E (gp_wM E I F) [.ref (E.2.2.2 0)] (I 0) := by
  refine gp_ofR (by decide) (Nat.le_of_ble_eq_true rfl) ?_
  intro xp xe xs xm below meth xc ls hx hb hr hts hown hlocks hml hP hK hl
  have hown : xs.vm.findClass "GuidePlansModel" = some xm.cls := hown
  have hl : lv_has ls 1 [(0, .ref (E.2.2.2 0))] := hl
  refine lv_aload_n hx hb d_M_thrown_0 rfl (lv_at hl 0 rfl) ?_
  refine va_get (D := E.1) (cl := gp_cl) (ci := 3) (v := .int (I 0)) (C := R_M) (T := T_M) (N := 27) hx hb hts i_M hown hK hP 0 rfl rfl 0 (by decide) (hts _ w3_52) (fun _ h9 => h9) rfl d_M_thrown_1 ?_
  exact gp_ri hx hb hr hlocks (rfl) d_M_thrown_4
set_option maxHeartbeats 4000000 in
set_option maxRecDepth 100000 in
theorem c_M_goes (l : Launch) (E : gp_E) (I : Nat → Int32) (F : Nat → Nat → Int32) (a b c : Int32)  : gp_CW l y_M_goes b_M_goes 4 (some .boolean) 1 E (gp_wM E I F) (gp_wM E (upd I 0 (gm_g a b c)) F) [.ref (E.2.2.2 0), .int a, .int b, .int c] (some (.int (if gm_g a b c = 0 then 1 else 0))) := by
  refine gp_ofW (by decide) (Nat.le_of_ble_eq_true rfl) ?_
  intro xp xe xs xm below meth xc ls A hx hb hr hts hown hlocks hml hP hK hD hA hAe hl
  have hS : va_S A xs.heap xs.heap [] := va_S.rf
  have hown : xs.vm.findClass "GuidePlansModel" = some xm.cls := hown
  have hl : lv_has ls 4 [(0, .ref (E.2.2.2 0)), (1, .int a), (2, .int b), (3, .int c)] := hl
  refine lv_aload_n hx hb d_M_goes_0 rfl (lv_at hl 0 rfl) ?_
  refine lv_iload_n hx hb d_M_goes_1 rfl (lv_at hl 1 rfl) ?_
  refine lv_if_ne (tgt := 9) hx hb d_M_goes_2 (by decide) (fun c2 => ?_) (fun c2 => ?_)
  · have c2 := c2
    refine lv_iload_n hx hb d_M_goes_9 rfl (lv_at hl 2 rfl) ?_
    refine lv_if_ne (tgt := 17) hx hb d_M_goes_10 (by decide) (fun c10 => ?_) (fun c10 => ?_)
    · have c10 := c10
      refine lv_iload_n hx hb d_M_goes_17 rfl (lv_at hl 3 rfl) ?_
      refine lv_if_ne (tgt := 25) hx hb d_M_goes_18 (by decide) (fun c18 => ?_) (fun c18 => ?_)
      · have c18 := c18
        refine lv_iconst (v := 0) hx hb d_M_goes_25 (by decide) ?_
        refine va_put (D := E.1) (cl := gp_cl) (ci := 3) (v := .int 0) (ty := .int) (C := R_M) (T := T_M) (N := 27) hx hb hts i_M t_M t_M_ok n_M hown hK hP hD hS 0 rfl rfl 0 (by decide) (hts _ w3_52) (fun _ h9 => h9) rfl (by decide +kernel) rfl rfl (Nat.le_of_ble_eq_true rfl) d_M_goes_26 (fun H locs hP hD hS => ?_)
        have hP : va_P E.1 gp_cl (gp_wM E (upd I 0 0) F) H := hP
        have hD : va_D A (gp_wM E (upd I 0 0) F) := hD
        refine lv_aload_n hx hb d_M_goes_29 rfl (lv_at hl 0 rfl) ?_
        refine va_get (D := E.1) (cl := gp_cl) (ci := 3) (v := .int 0) (C := R_M) (T := T_M) (N := 27) hx hb hts i_M hown hK hP 0 rfl rfl 0 (by decide) (hts _ w3_52) (fun _ h9 => h9) rfl d_M_goes_30 ?_
        refine lv_if_ne (tgt := 40) hx hb d_M_goes_33 (by decide) (fun c33 => ?_) (fun c33 => ?_)
        · exact absurd c33 (by decide)
        · have c33 := c33
          have nc33 : 0 = 0 := (nI_eq (a := 0) (b := 0) (by omega) (by omega)).mp c33
          refine lv_iconst (v := 1) hx hb d_M_goes_36 (by decide) ?_
          refine lv_goto (tgt := 41) hx hb d_M_goes_37 (by decide) ?_
          exact gp_wz hx hb hr hlocks hAe (rfl) (by simp [gm_g, c2, c10, c18, c33, nc33]) (by rw [show gm_g a b c = 0 from by simp [gm_g, c2, c10, c18, c33, nc33]]; exact hP) hS d_M_goes_41
      · have c18 := c18
        refine lv_iconst (v := 3) hx hb d_M_goes_21 (by decide) ?_
        refine lv_goto (tgt := 26) hx hb d_M_goes_22 (by decide) ?_
        refine va_put (D := E.1) (cl := gp_cl) (ci := 3) (v := .int 3) (ty := .int) (C := R_M) (T := T_M) (N := 27) hx hb hts i_M t_M t_M_ok n_M hown hK hP hD hS 0 rfl rfl 0 (by decide) (hts _ w3_52) (fun _ h9 => h9) rfl (by decide +kernel) rfl rfl (Nat.le_of_ble_eq_true rfl) d_M_goes_26 (fun H locs hP hD hS => ?_)
        have hP : va_P E.1 gp_cl (gp_wM E (upd I 0 3) F) H := hP
        have hD : va_D A (gp_wM E (upd I 0 3) F) := hD
        refine lv_aload_n hx hb d_M_goes_29 rfl (lv_at hl 0 rfl) ?_
        refine va_get (D := E.1) (cl := gp_cl) (ci := 3) (v := .int 3) (C := R_M) (T := T_M) (N := 27) hx hb hts i_M hown hK hP 0 rfl rfl 0 (by decide) (hts _ w3_52) (fun _ h9 => h9) rfl d_M_goes_30 ?_
        refine lv_if_ne (tgt := 40) hx hb d_M_goes_33 (by decide) (fun c33 => ?_) (fun c33 => ?_)
        · have c33 := c33
          have nc33 : ¬ 3 = 0 := fun h => c33 ((nI_eq (a := 3) (b := 0) (by omega) (by omega)).mpr h)
          refine lv_iconst (v := 0) hx hb d_M_goes_40 (by decide) ?_
          exact gp_wz hx hb hr hlocks hAe (rfl) (by simp [gm_g, c2, c10, c18, c33, nc33]) (by rw [show gm_g a b c = 3 from by simp [gm_g, c2, c10, c18, c33, nc33]]; exact hP) hS d_M_goes_41
        · exact absurd c33 (by decide)
    · have c10 := c10
      refine lv_iconst (v := 2) hx hb d_M_goes_13 (by decide) ?_
      refine lv_goto (tgt := 26) hx hb d_M_goes_14 (by decide) ?_
      refine va_put (D := E.1) (cl := gp_cl) (ci := 3) (v := .int 2) (ty := .int) (C := R_M) (T := T_M) (N := 27) hx hb hts i_M t_M t_M_ok n_M hown hK hP hD hS 0 rfl rfl 0 (by decide) (hts _ w3_52) (fun _ h9 => h9) rfl (by decide +kernel) rfl rfl (Nat.le_of_ble_eq_true rfl) d_M_goes_26 (fun H locs hP hD hS => ?_)
      have hP : va_P E.1 gp_cl (gp_wM E (upd I 0 2) F) H := hP
      have hD : va_D A (gp_wM E (upd I 0 2) F) := hD
      refine lv_aload_n hx hb d_M_goes_29 rfl (lv_at hl 0 rfl) ?_
      refine va_get (D := E.1) (cl := gp_cl) (ci := 3) (v := .int 2) (C := R_M) (T := T_M) (N := 27) hx hb hts i_M hown hK hP 0 rfl rfl 0 (by decide) (hts _ w3_52) (fun _ h9 => h9) rfl d_M_goes_30 ?_
      refine lv_if_ne (tgt := 40) hx hb d_M_goes_33 (by decide) (fun c33 => ?_) (fun c33 => ?_)
      · have c33 := c33
        have nc33 : ¬ 2 = 0 := fun h => c33 ((nI_eq (a := 2) (b := 0) (by omega) (by omega)).mpr h)
        refine lv_iconst (v := 0) hx hb d_M_goes_40 (by decide) ?_
        exact gp_wz hx hb hr hlocks hAe (rfl) (by simp [gm_g, c2, c10, c33, nc33]) (by rw [show gm_g a b c = 2 from by simp [gm_g, c2, c10, c33, nc33]]; exact hP) hS d_M_goes_41
      · exact absurd c33 (by decide)
  · have c2 := c2
    refine lv_iconst (v := 1) hx hb d_M_goes_5 (by decide) ?_
    refine lv_goto (tgt := 26) hx hb d_M_goes_6 (by decide) ?_
    refine va_put (D := E.1) (cl := gp_cl) (ci := 3) (v := .int 1) (ty := .int) (C := R_M) (T := T_M) (N := 27) hx hb hts i_M t_M t_M_ok n_M hown hK hP hD hS 0 rfl rfl 0 (by decide) (hts _ w3_52) (fun _ h9 => h9) rfl (by decide +kernel) rfl rfl (Nat.le_of_ble_eq_true rfl) d_M_goes_26 (fun H locs hP hD hS => ?_)
    have hP : va_P E.1 gp_cl (gp_wM E (upd I 0 1) F) H := hP
    have hD : va_D A (gp_wM E (upd I 0 1) F) := hD
    refine lv_aload_n hx hb d_M_goes_29 rfl (lv_at hl 0 rfl) ?_
    refine va_get (D := E.1) (cl := gp_cl) (ci := 3) (v := .int 1) (C := R_M) (T := T_M) (N := 27) hx hb hts i_M hown hK hP 0 rfl rfl 0 (by decide) (hts _ w3_52) (fun _ h9 => h9) rfl d_M_goes_30 ?_
    refine lv_if_ne (tgt := 40) hx hb d_M_goes_33 (by decide) (fun c33 => ?_) (fun c33 => ?_)
    · have c33 := c33
      have nc33 : ¬ 1 = 0 := fun h => c33 ((nI_eq (a := 1) (b := 0) (by omega) (by omega)).mpr h)
      refine lv_iconst (v := 0) hx hb d_M_goes_40 (by decide) ?_
      exact gp_wz hx hb hr hlocks hAe (rfl) (by simp [gm_g, c2, c33, nc33]) (by rw [show gm_g a b c = 1 from by simp [gm_g, c2, c33, nc33]]; exact hP) hS d_M_goes_41
    · exact absurd c33 (by decide)
set_option maxHeartbeats 4000000 in
set_option maxRecDepth 100000 in
theorem c_M_within (l : Launch) (E : gp_E) (I : Nat → Int32) (F : Nat → Nat → Int32) (v lo hi : Int32)  : gp_CR l y_M_within b_M_within 3 (some .boolean) 1 E (gp_wM E I F) [.int v, .int lo, .int hi] (if gm_w v lo hi then 1 else 0) := by
  refine gp_ofR (by decide) (Nat.le_of_ble_eq_true rfl) ?_
  intro xp xe xs xm below meth xc ls hx hb hr hts hown hlocks hml hP hK hl
  have hown : xs.vm.findClass "GuidePlansModel" = some xm.cls := hown
  have hl : lv_has ls 3 [(0, .int v), (1, .int lo), (2, .int hi)] := hl
  refine lv_iload_n hx hb d_M_within_0 rfl (lv_at hl 0 rfl) ?_
  refine lv_iload_n hx hb d_M_within_1 rfl (lv_at hl 1 rfl) ?_
  refine lv_icmp_lt (tgt := 14) hx hb d_M_within_2 (by decide) (fun c2 => ?_) (fun c2 => ?_)
  · have c2 := c2
    have mc2 : ¬ lo ≤ v := Int32.not_le.mpr c2
    refine lv_iconst (v := 0) hx hb d_M_within_14 (by decide) ?_
    exact gp_rz hx hb hr hlocks (rfl) (by simp [gm_w, c2, mc2]) d_M_within_15
  · have c2 := c2
    have mc2 : lo ≤ v := Int32.not_lt.mp c2
    refine lv_iload_n hx hb d_M_within_5 rfl (lv_at hl 0 rfl) ?_
    refine lv_iload_n hx hb d_M_within_6 rfl (lv_at hl 2 rfl) ?_
    refine lv_icmp_gt (tgt := 14) hx hb d_M_within_7 (by decide) (fun c7 => ?_) (fun c7 => ?_)
    · have c7 := c7
      have mc7 : ¬ v ≤ hi := Int32.not_le.mpr c7
      refine lv_iconst (v := 0) hx hb d_M_within_14 (by decide) ?_
      exact gp_rz hx hb hr hlocks (rfl) (by simp [gm_w, c2, mc2, c7, mc7]) d_M_within_15
    · have c7 := c7
      have mc7 : v ≤ hi := Int32.not_lt.mp c7
      refine lv_iconst (v := 1) hx hb d_M_within_10 (by decide) ?_
      refine lv_goto (tgt := 15) hx hb d_M_within_11 (by decide) ?_
      exact gp_rz hx hb hr hlocks (rfl) (by simp [gm_w, c2, mc2, c7, mc7]) d_M_within_15
set_option maxHeartbeats 4000000 in
set_option maxRecDepth 100000 in
theorem c_M_isSpan (l : Launch) (E : gp_E) (I : Nat → Int32) (F : Nat → Nat → Int32) (x y : Int32)  : gp_CR l y_M_isSpan b_M_isSpan 2 (some .boolean) 1 E (gp_wM E I F) [.int x, .int y] (if gm_sp x y then 1 else 0) := by
  refine gp_ofR (by decide) (Nat.le_of_ble_eq_true rfl) ?_
  intro xp xe xs xm below meth xc ls hx hb hr hts hown hlocks hml hP hK hl
  have hown : xs.vm.findClass "GuidePlansModel" = some xm.cls := hown
  have hl : lv_has ls 2 [(0, .int x), (1, .int y)] := hl
  refine lv_iload_n hx hb d_M_isSpan_0 rfl (lv_at hl 0 rfl) ?_
  refine lv_if_lt (tgt := 19) hx hb d_M_isSpan_1 (by decide) (fun c1 => ?_) (fun c1 => ?_)
  · have c1 := c1
    have mc1 : ¬ 0 ≤ x := Int32.not_le.mpr c1
    refine lv_iconst (v := 0) hx hb d_M_isSpan_19 (by decide) ?_
    exact gp_rz hx hb hr hlocks (rfl) (by simp [gm_sp, c1, mc1]) d_M_isSpan_20
  · have c1 := c1
    have mc1 : 0 ≤ x := Int32.not_lt.mp c1
    refine lv_iload_n hx hb d_M_isSpan_4 rfl (lv_at hl 0 rfl) ?_
    refine lv_iload_n hx hb d_M_isSpan_5 rfl (lv_at hl 1 rfl) ?_
    refine lv_icmp_ge (tgt := 19) hx hb d_M_isSpan_6 (by decide) (fun c6 => ?_) (fun c6 => ?_)
    · have c6 := c6
      have mc6 : ¬ x < y := Int32.not_lt.mpr c6
      refine lv_iconst (v := 0) hx hb d_M_isSpan_19 (by decide) ?_
      exact gp_rz hx hb hr hlocks (rfl) (by simp [gm_sp, c1, mc1, c6, mc6]) d_M_isSpan_20
    · have c6 := c6
      have mc6 : x < y := Int32.not_le.mp c6
      refine lv_iload_n hx hb d_M_isSpan_9 rfl (lv_at hl 1 rfl) ?_
      refine lv_bipush (v := 96) hx hb d_M_isSpan_10 (by decide) ?_
      refine lv_icmp_gt (tgt := 19) hx hb d_M_isSpan_12 (by decide) (fun c12 => ?_) (fun c12 => ?_)
      · have c12 := c12
        have mc12 : ¬ y ≤ 96 := Int32.not_le.mpr c12
        refine lv_iconst (v := 0) hx hb d_M_isSpan_19 (by decide) ?_
        exact gp_rz hx hb hr hlocks (rfl) (by simp [gm_sp, c1, mc1, c6, mc6, c12, mc12]) d_M_isSpan_20
      · have c12 := c12
        have mc12 : y ≤ 96 := Int32.not_lt.mp c12
        refine lv_iconst (v := 1) hx hb d_M_isSpan_15 (by decide) ?_
        refine lv_goto (tgt := 20) hx hb d_M_isSpan_16 (by decide) ?_
        exact gp_rz hx hb hr hlocks (rfl) (by simp [gm_sp, c1, mc1, c6, mc6, c12, mc12]) d_M_isSpan_20
set_option maxHeartbeats 4000000 in
set_option maxRecDepth 100000 in
theorem c_M_isPerson (l : Launch) (E : gp_E) (I : Nat → Int32) (F : Nat → Nat → Int32) (x : Int32)  : gp_CR l y_M_isPerson b_M_isPerson 2 (some .boolean) 1 E (gp_wM E I F) [.ref (E.2.2.2 0), .int x] (if gp_in x (I 1) then 1 else 0) := by
  refine gp_ofR (by decide) (Nat.le_of_ble_eq_true rfl) ?_
  intro xp xe xs xm below meth xc ls hx hb hr hts hown hlocks hml hP hK hl
  have hown : xs.vm.findClass "GuidePlansModel" = some xm.cls := hown
  have hl : lv_has ls 2 [(0, .ref (E.2.2.2 0)), (1, .int x)] := hl
  refine lv_iload_n hx hb d_M_isPerson_0 rfl (lv_at hl 1 rfl) ?_
  refine lv_if_lt (tgt := 16) hx hb d_M_isPerson_1 (by decide) (fun c1 => ?_) (fun c1 => ?_)
  · have c1 := c1
    have mc1 : ¬ 0 ≤ x := Int32.not_le.mpr c1
    refine lv_iconst (v := 0) hx hb d_M_isPerson_16 (by decide) ?_
    exact gp_rz hx hb hr hlocks (rfl) (by simp [gp_in, c1, mc1]) d_M_isPerson_17
  · have c1 := c1
    have mc1 : 0 ≤ x := Int32.not_lt.mp c1
    refine lv_iload_n hx hb d_M_isPerson_4 rfl (lv_at hl 1 rfl) ?_
    refine lv_aload_n hx hb d_M_isPerson_5 rfl (lv_at hl 0 rfl) ?_
    refine va_get (D := E.1) (cl := gp_cl) (ci := 3) (v := .int (I 1)) (C := R_M) (T := T_M) (N := 27) hx hb hts i_M hown hK hP 0 rfl rfl 1 (by decide) (hts _ w3_53) (fun _ h9 => h9) rfl d_M_isPerson_6 ?_
    refine lv_icmp_ge (tgt := 16) hx hb d_M_isPerson_9 (by decide) (fun c9 => ?_) (fun c9 => ?_)
    · have c9 := c9
      have mc9 : ¬ x < (I 1) := Int32.not_lt.mpr c9
      refine lv_iconst (v := 0) hx hb d_M_isPerson_16 (by decide) ?_
      exact gp_rz hx hb hr hlocks (rfl) (by simp [gp_in, c1, mc1, c9, mc9]) d_M_isPerson_17
    · have c9 := c9
      have mc9 : x < (I 1) := Int32.not_le.mp c9
      refine lv_iconst (v := 1) hx hb d_M_isPerson_12 (by decide) ?_
      refine lv_goto (tgt := 17) hx hb d_M_isPerson_13 (by decide) ?_
      exact gp_rz hx hb hr hlocks (rfl) (by simp [gp_in, c1, mc1, c9, mc9]) d_M_isPerson_17
set_option maxHeartbeats 4000000 in
set_option maxRecDepth 100000 in
theorem c_M_isTask (l : Launch) (E : gp_E) (I : Nat → Int32) (F : Nat → Nat → Int32) (x : Int32)  : gp_CR l y_M_isTask b_M_isTask 2 (some .boolean) 1 E (gp_wM E I F) [.ref (E.2.2.2 0), .int x] (if gp_in x (I 3) then 1 else 0) := by
  refine gp_ofR (by decide) (Nat.le_of_ble_eq_true rfl) ?_
  intro xp xe xs xm below meth xc ls hx hb hr hts hown hlocks hml hP hK hl
  have hown : xs.vm.findClass "GuidePlansModel" = some xm.cls := hown
  have hl : lv_has ls 2 [(0, .ref (E.2.2.2 0)), (1, .int x)] := hl
  refine lv_iload_n hx hb d_M_isTask_0 rfl (lv_at hl 1 rfl) ?_
  refine lv_if_lt (tgt := 16) hx hb d_M_isTask_1 (by decide) (fun c1 => ?_) (fun c1 => ?_)
  · have c1 := c1
    have mc1 : ¬ 0 ≤ x := Int32.not_le.mpr c1
    refine lv_iconst (v := 0) hx hb d_M_isTask_16 (by decide) ?_
    exact gp_rz hx hb hr hlocks (rfl) (by simp [gp_in, c1, mc1]) d_M_isTask_17
  · have c1 := c1
    have mc1 : 0 ≤ x := Int32.not_lt.mp c1
    refine lv_iload_n hx hb d_M_isTask_4 rfl (lv_at hl 1 rfl) ?_
    refine lv_aload_n hx hb d_M_isTask_5 rfl (lv_at hl 0 rfl) ?_
    refine va_get (D := E.1) (cl := gp_cl) (ci := 3) (v := .int (I 3)) (C := R_M) (T := T_M) (N := 27) hx hb hts i_M hown hK hP 0 rfl rfl 7 (by decide) (hts _ w3_59) (fun _ h9 => h9) rfl d_M_isTask_6 ?_
    refine lv_icmp_ge (tgt := 16) hx hb d_M_isTask_9 (by decide) (fun c9 => ?_) (fun c9 => ?_)
    · have c9 := c9
      have mc9 : ¬ x < (I 3) := Int32.not_lt.mpr c9
      refine lv_iconst (v := 0) hx hb d_M_isTask_16 (by decide) ?_
      exact gp_rz hx hb hr hlocks (rfl) (by simp [gp_in, c1, mc1, c9, mc9]) d_M_isTask_17
    · have c9 := c9
      have mc9 : x < (I 3) := Int32.not_le.mp c9
      refine lv_iconst (v := 1) hx hb d_M_isTask_12 (by decide) ?_
      refine lv_goto (tgt := 17) hx hb d_M_isTask_13 (by decide) ?_
      exact gp_rz hx hb hr hlocks (rfl) (by simp [gp_in, c1, mc1, c9, mc9]) d_M_isTask_17
set_option maxHeartbeats 4000000 in
set_option maxRecDepth 100000 in
theorem c_M_leave (l : Launch) (E : gp_E) (I : Nat → Int32) (F : Nat → Nat → Int32) (ns : Nat) (x y z : Int32) (hN : I 2 = nI ns) (hns : ns < 20) : gp_CW l y_M_leave b_M_leave 4 none 1 E (gp_wM E I F) (gp_wM E (upd I 2 (nI (ns + 1))) (gp_uF (gp_uF (gp_uF F 1 (upd (F 1) ns x)) 2 (upd (F 2) ns y)) 3 (upd (F 3) ns z))) [.ref (E.2.2.2 0), .int x, .int y, .int z] none := by
  refine gp_ofW (by decide) (Nat.le_of_ble_eq_true rfl) ?_
  intro xp xe xs xm below meth xc ls A hx hb hr hts hown hlocks hml hP hK hD hA hAe hl
  have hS : va_S A xs.heap xs.heap [] := va_S.rf
  have hown : xs.vm.findClass "GuidePlansModel" = some xm.cls := hown
  have hl : lv_has ls 4 [(0, .ref (E.2.2.2 0)), (1, .int x), (2, .int y), (3, .int z)] := hl
  refine lv_aload_n hx hb d_M_leave_0 rfl (lv_at hl 0 rfl) ?_
  refine va_get (D := E.1) (cl := gp_cl) (ci := 3) (v := .ref (E.2.2.2 2)) (C := R_M) (T := T_M) (N := 27) hx hb hts i_M hown hK hP 0 rfl rfl 4 (by decide) (hts _ w3_56) (fun _ h9 => h9) rfl d_M_leave_1 ?_
  refine lv_aload_n hx hb d_M_leave_4 rfl (lv_at hl 0 rfl) ?_
  refine va_get (D := E.1) (cl := gp_cl) (ci := 3) (v := .int (nI ns)) (C := R_M) (T := T_M) (N := 27) hx hb hts i_M hown hK hP 0 rfl rfl 3 (by decide) (hts _ w3_55) (fun _ h9 => h9) (congrArg (fun z => some (Value.int z)) hN) d_M_leave_5 ?_
  refine lv_iload_n hx hb d_M_leave_8 rfl (lv_at hl 1 rfl) ?_
  refine gp_ast (f := (F 1)) (n := 20) hx hb hK hP hD hS 2 rfl (ns) rfl (by omega) (by decide) d_M_leave_9 (fun H locs hP hD hS => ?_)
  have hP : va_P E.1 gp_cl (gp_wM E I (gp_uF F 1 (upd (F 1) (ns) x))) H := hP
  have hD : va_D A (gp_wM E I (gp_uF F 1 (upd (F 1) (ns) x))) := hD
  refine lv_aload_n hx hb d_M_leave_10 rfl (lv_at hl 0 rfl) ?_
  refine va_get (D := E.1) (cl := gp_cl) (ci := 3) (v := .ref (E.2.2.2 3)) (C := R_M) (T := T_M) (N := 27) hx hb hts i_M hown hK hP 0 rfl rfl 5 (by decide) (hts _ w3_57) (fun _ h9 => h9) rfl d_M_leave_11 ?_
  refine lv_aload_n hx hb d_M_leave_14 rfl (lv_at hl 0 rfl) ?_
  refine va_get (D := E.1) (cl := gp_cl) (ci := 3) (v := .int (nI ns)) (C := R_M) (T := T_M) (N := 27) hx hb hts i_M hown hK hP 0 rfl rfl 3 (by decide) (hts _ w3_55) (fun _ h9 => h9) (congrArg (fun z => some (Value.int z)) hN) d_M_leave_15 ?_
  refine lv_iload_n hx hb d_M_leave_18 rfl (lv_at hl 2 rfl) ?_
  refine gp_ast (f := (F 2)) (n := 20) hx hb hK hP hD hS 3 rfl (ns) rfl (by omega) (by decide) d_M_leave_19 (fun H locs hP hD hS => ?_)
  have hP : va_P E.1 gp_cl (gp_wM E I (gp_uF (gp_uF F 1 (upd (F 1) (ns) x)) 2 (upd (F 2) (ns) y))) H := hP
  have hD : va_D A (gp_wM E I (gp_uF (gp_uF F 1 (upd (F 1) (ns) x)) 2 (upd (F 2) (ns) y))) := hD
  refine lv_aload_n hx hb d_M_leave_20 rfl (lv_at hl 0 rfl) ?_
  refine va_get (D := E.1) (cl := gp_cl) (ci := 3) (v := .ref (E.2.2.2 4)) (C := R_M) (T := T_M) (N := 27) hx hb hts i_M hown hK hP 0 rfl rfl 6 (by decide) (hts _ w3_58) (fun _ h9 => h9) rfl d_M_leave_21 ?_
  refine lv_aload_n hx hb d_M_leave_24 rfl (lv_at hl 0 rfl) ?_
  refine va_get (D := E.1) (cl := gp_cl) (ci := 3) (v := .int (nI ns)) (C := R_M) (T := T_M) (N := 27) hx hb hts i_M hown hK hP 0 rfl rfl 3 (by decide) (hts _ w3_55) (fun _ h9 => h9) (congrArg (fun z => some (Value.int z)) hN) d_M_leave_25 ?_
  refine lv_iload_n hx hb d_M_leave_28 rfl (lv_at hl 3 rfl) ?_
  refine gp_ast (f := (F 3)) (n := 20) hx hb hK hP hD hS 4 rfl (ns) rfl (by omega) (by decide) d_M_leave_29 (fun H locs hP hD hS => ?_)
  have hP : va_P E.1 gp_cl (gp_wM E I (gp_uF (gp_uF (gp_uF F 1 (upd (F 1) (ns) x)) 2 (upd (F 2) (ns) y)) 3 (upd (F 3) (ns) z))) H := hP
  have hD : va_D A (gp_wM E I (gp_uF (gp_uF (gp_uF F 1 (upd (F 1) (ns) x)) 2 (upd (F 2) (ns) y)) 3 (upd (F 3) (ns) z))) := hD
  refine lv_aload_n hx hb d_M_leave_30 rfl (lv_at hl 0 rfl) ?_
  refine lv_dup hx hb d_M_leave_31 rfl ?_
  refine va_get (D := E.1) (cl := gp_cl) (ci := 3) (v := .int (nI ns)) (C := R_M) (T := T_M) (N := 27) hx hb hts i_M hown hK hP 0 rfl rfl 3 (by decide) (hts _ w3_55) (fun _ h9 => h9) (congrArg (fun z => some (Value.int z)) hN) d_M_leave_32 ?_
  refine lv_iconst (v := 1) hx hb d_M_leave_35 (by decide) ?_
  refine lv_iadd hx hb d_M_leave_36 ?_
  rw [show ((nI ns) + 1) = (nI (ns + 1)) from nI_1 _]
  refine va_put (D := E.1) (cl := gp_cl) (ci := 3) (v := .int (nI (ns + 1))) (ty := .int) (C := R_M) (T := T_M) (N := 27) hx hb hts i_M t_M t_M_ok n_M hown hK hP hD hS 0 rfl rfl 3 (by decide) (hts _ w3_55) (fun _ h9 => h9) rfl (by decide +kernel) rfl rfl (Nat.le_of_ble_eq_true rfl) d_M_leave_37 (fun H locs hP hD hS => ?_)
  have hP : va_P E.1 gp_cl (gp_wM E (upd I 2 (nI (ns + 1))) (gp_uF (gp_uF (gp_uF F 1 (upd (F 1) (ns) x)) 2 (upd (F 2) (ns) y)) 3 (upd (F 3) (ns) z))) H := hP
  have hD : va_D A (gp_wM E (upd I 2 (nI (ns + 1))) (gp_uF (gp_uF (gp_uF F 1 (upd (F 1) (ns) x)) 2 (upd (F 2) (ns) y)) 3 (upd (F 3) (ns) z))) := hD
  exact gp_wv hx hb hr hlocks hAe rfl (hP) hS d_M_leave_40
set_option maxHeartbeats 4000000 in
set_option maxRecDepth 100000 in
theorem c_M_suits (l : Launch) (E : gp_E) (I : Nat → Int32) (F : Nat → Nat → Int32) (ns p t : Nat) (hN : I 2 = nI ns) (hns : ns ≤ 20) (hp : p < 4) (ht : t < 6) : gp_CR l y_M_suits b_M_suits 5 (some .boolean) 1 E (gp_wM E I F) [.ref (E.2.2.2 0), .int (nI p), .int (nI t)] (if gm_su F p t ns then 1 else 0) := by
  refine gp_ofR (by decide) (Nat.le_of_ble_eq_true rfl) ?_
  intro xp xe xs xm below meth xc ls hx hb hr hts hown hlocks hml hP hK hl
  have hown : xs.vm.findClass "GuidePlansModel" = some xm.cls := hown
  have hl : lv_has ls 5 [(0, .ref (E.2.2.2 0)), (1, .int (nI p)), (2, .int (nI t))] := hl
  refine lv_aload_n hx hb d_M_suits_0 rfl (lv_at hl 0 rfl) ?_
  refine va_get (D := E.1) (cl := gp_cl) (ci := 3) (v := .ref (E.2.2.2 1)) (C := R_M) (T := T_M) (N := 27) hx hb hts i_M hown hK hP 0 rfl rfl 2 (by decide) (hts _ w3_54) (fun _ h9 => h9) rfl d_M_suits_1 ?_
  refine lv_iload_n hx hb d_M_suits_4 rfl (lv_at hl 1 rfl) ?_
  refine gp_ald (f := (F 0)) (n := 4) hx hb hK hP 1 rfl (p) rfl (by omega) (by decide) d_M_suits_5 ?_
  refine lv_aload_n hx hb d_M_suits_6 rfl (lv_at hl 0 rfl) ?_
  refine va_get (D := E.1) (cl := gp_cl) (ci := 3) (v := .ref (E.2.2.2 5)) (C := R_M) (T := T_M) (N := 27) hx hb hts i_M hown hK hP 0 rfl rfl 8 (by decide) (hts _ w3_60) (fun _ h9 => h9) rfl d_M_suits_7 ?_
  refine lv_iload_n hx hb d_M_suits_10 rfl (lv_at hl 2 rfl) ?_
  refine gp_ald (f := (F 4)) (n := 6) hx hb hK hP 5 rfl (t) rfl (by omega) (by decide) d_M_suits_11 ?_
  refine lv_ishr hx hb d_M_suits_12 ?_
  refine lv_iconst (v := 1) hx hb d_M_suits_13 (by decide) ?_
  refine lv_iand hx hb d_M_suits_14 ?_
  refine lv_iconst (v := 1) hx hb d_M_suits_15 (by decide) ?_
  refine lv_icmp_ne (tgt := 23) hx hb d_M_suits_16 (by decide) (fun c16 => ?_) (fun c16 => ?_)
  · have c16 := c16
    refine lv_iconst (v := 0) hx hb d_M_suits_23 (by decide) ?_
    refine lv_istore_n (lv' := [(3, .int 0), (0, .ref (E.2.2.2 0)), (1, .int (nI p)), (2, .int (nI t))]) hx hb d_M_suits_24 rfl hl (by decide) rfl (fun ls hl => ?_)
    rw [show (0 : Int32) = (if gm_su F p t 0 then 1 else 0) from by simp [gm_su, gp_ofN, c16]] at hl
    refine lv_iconst (v := 0) hx hb d_M_suits_25 (by decide) ?_
    refine lv_istore (lv' := [(4, .int 0), (3, .int (if gm_su F p t 0 then 1 else 0)), (0, .ref (E.2.2.2 0)), (1, .int (nI p)), (2, .int (nI t))]) hx hb d_M_suits_26 hl (by decide) rfl (fun ls hl => ?_)
    have L28 : ∀ (n : Nat) (s : Nat), s ≤ ns → ns + 1 ≤ s + n → ∀ (ls : Array Slot), lv_has ls 5 [(4, .int (nI s)), (3, .int (if gm_su F p t s then 1 else 0)), (0, .ref (E.2.2.2 0)), (1, .int (nI p)), (2, .int (nI t))] → W xp l xe (gp_rm 1 0 0) xs xm ([.ref (E.2.2.2 0), .int (nI p), .int (nI t)] : List Value).toArray below meth xc xs.heap [] 0 0 (MQ below (QcRead (if gm_su F p t ns then 1 else 0)) ([.ref (E.2.2.2 0), .int (nI p), .int (nI t)] : List Value).toArray xs 0 0 (fun _ => False)) (F0 xm 28 ls []) := by
      intro n
      induction n with
      | zero =>
        intro s h1 hm
        exact absurd hm (by omega)
      | succ n ih28 =>
        intro s h1 hm ls hl
        by_cases hb28 : gm_su F p t s = true
        · rw [show ((if gm_su F p t s then 1 else 0) : Int32) = 1 from if_pos hb28] at hl
          refine lv_iload hx hb d_M_suits_28 (lv_at hl 0 rfl) ?_
          refine lv_aload_n hx hb d_M_suits_30 rfl (lv_at hl 2 rfl) ?_
          refine va_get (D := E.1) (cl := gp_cl) (ci := 3) (v := .int (nI ns)) (C := R_M) (T := T_M) (N := 27) hx hb hts i_M hown hK hP 0 rfl rfl 3 (by decide) (hts _ w3_55) (fun _ h9 => h9) (congrArg (fun z => some (Value.int z)) hN) d_M_suits_31 ?_
          refine lv_icmp_ge (tgt := 96) hx hb d_M_suits_34 (by decide) (fun c34 => ?_) (fun c34 => ?_)
          · have c34 := c34
            have nc34 : ns ≤ s := (nI_leI (a := ns) (b := s) (by omega) (by omega)).mp c34
            refine lv_iload_n hx hb d_M_suits_96 rfl (lv_at hl 1 rfl) ?_
            exact gp_rz hx hb hr hlocks (rfl) (by rw [show ns = s by omega]; first | rw [if_pos hb28] | rw [if_neg hb28]) d_M_suits_97
          · have c34 := c34
            have nc34 : ¬ ns ≤ s := fun h => c34 ((nI_leI (a := ns) (b := s) (by omega) (by omega)).mpr h)
            refine lv_iload_n hx hb d_M_suits_37 rfl (lv_at hl 1 rfl) ?_
            refine lv_if_eq (tgt := 88) hx hb d_M_suits_38 (by decide) (fun c38 => ?_) (fun c38 => ?_)
            · exact absurd c38 (by decide)
            · have c38 := c38
              have nc38 : ¬ 1 = 0 := fun h => c38 ((nI_eq (a := 1) (b := 0) (by omega) (by omega)).mpr h)
              refine lv_aload_n hx hb d_M_suits_41 rfl (lv_at hl 2 rfl) ?_
              refine va_get (D := E.1) (cl := gp_cl) (ci := 3) (v := .ref (E.2.2.2 2)) (C := R_M) (T := T_M) (N := 27) hx hb hts i_M hown hK hP 0 rfl rfl 4 (by decide) (hts _ w3_56) (fun _ h9 => h9) rfl d_M_suits_42 ?_
              refine lv_iload hx hb d_M_suits_45 (lv_at hl 0 rfl) ?_
              refine gp_ald (f := (F 1)) (n := 20) hx hb hK hP 2 rfl (s) rfl (by omega) (by decide) d_M_suits_47 ?_
              refine lv_iload_n hx hb d_M_suits_48 rfl (lv_at hl 3 rfl) ?_
              refine lv_icmp_ne (tgt := 84) hx hb d_M_suits_49 (by decide) (fun c49 => ?_) (fun c49 => ?_)
              · have c49 := c49
                refine lv_iconst (v := 1) hx hb d_M_suits_84 (by decide) ?_
                refine lv_goto (tgt := 89) hx hb d_M_suits_85 (by decide) ?_
                refine lv_istore_n (lv' := [(3, .int 1), (4, .int (nI s)), (0, .ref (E.2.2.2 0)), (1, .int (nI p)), (2, .int (nI t))]) hx hb d_M_suits_89 rfl hl (by decide) rfl (fun ls hl => ?_)
                refine lv_iinc (v := (nI (s + 1))) (lv' := [(4, .int (nI (s + 1))), (3, .int 1), (0, .ref (E.2.2.2 0)), (1, .int (nI p)), (2, .int (nI t))]) hx hb d_M_suits_90 hl (k := 1) rfl (nI_1 _) (by decide) rfl (fun ls hl => ?_)
                refine lv_goto (tgt := 28) hx hb d_M_suits_93 (by decide) ?_
                rw [show (1 : Int32) = (if gm_su F p t (s + 1) then 1 else 0) from by have q := hb28; simp [gm_su] at q; simp [gm_su, gp_ofN, gp_of1, q, c16, h1, hb28, c34, nc34, c38, nc38, c49]] at hl
                exact ih28 (s + 1) (by omega) (by omega) ls (lv_sub hl [0, 1, 2, 3, 4] rfl)
              · have c49 := c49
                refine lv_aload_n hx hb d_M_suits_52 rfl (lv_at hl 2 rfl) ?_
                refine va_get (D := E.1) (cl := gp_cl) (ci := 3) (v := .ref (E.2.2.2 3)) (C := R_M) (T := T_M) (N := 27) hx hb hts i_M hown hK hP 0 rfl rfl 5 (by decide) (hts _ w3_57) (fun _ h9 => h9) rfl d_M_suits_53 ?_
                refine lv_iload hx hb d_M_suits_56 (lv_at hl 0 rfl) ?_
                refine gp_ald (f := (F 2)) (n := 20) hx hb hK hP 3 rfl (s) rfl (by omega) (by decide) d_M_suits_58 ?_
                refine lv_aload_n hx hb d_M_suits_59 rfl (lv_at hl 2 rfl) ?_
                refine va_get (D := E.1) (cl := gp_cl) (ci := 3) (v := .ref (E.2.2.2 7)) (C := R_M) (T := T_M) (N := 27) hx hb hts i_M hown hK hP 0 rfl rfl 10 (by decide) (hts _ w3_62) (fun _ h9 => h9) rfl d_M_suits_60 ?_
                refine lv_iload_n hx hb d_M_suits_63 rfl (lv_at hl 4 rfl) ?_
                refine gp_ald (f := (F 6)) (n := 6) hx hb hK hP 7 rfl (t) rfl (by omega) (by decide) d_M_suits_64 ?_
                refine lv_icmp_ge (tgt := 84) hx hb d_M_suits_65 (by decide) (fun c65 => ?_) (fun c65 => ?_)
                · have c65 := c65
                  have mc65 : ¬ ((F 2) (s)) < ((F 6) (t)) := Int32.not_lt.mpr c65
                  refine lv_iconst (v := 1) hx hb d_M_suits_84 (by decide) ?_
                  refine lv_goto (tgt := 89) hx hb d_M_suits_85 (by decide) ?_
                  refine lv_istore_n (lv' := [(3, .int 1), (4, .int (nI s)), (0, .ref (E.2.2.2 0)), (1, .int (nI p)), (2, .int (nI t))]) hx hb d_M_suits_89 rfl hl (by decide) rfl (fun ls hl => ?_)
                  refine lv_iinc (v := (nI (s + 1))) (lv' := [(4, .int (nI (s + 1))), (3, .int 1), (0, .ref (E.2.2.2 0)), (1, .int (nI p)), (2, .int (nI t))]) hx hb d_M_suits_90 hl (k := 1) rfl (nI_1 _) (by decide) rfl (fun ls hl => ?_)
                  refine lv_goto (tgt := 28) hx hb d_M_suits_93 (by decide) ?_
                  rw [show (1 : Int32) = (if gm_su F p t (s + 1) then 1 else 0) from by have q := hb28; simp [gm_su] at q; simp [gm_su, gp_ofN, gp_of1, q, c16, h1, hb28, c34, nc34, c38, nc38, c49, c65, mc65]] at hl
                  exact ih28 (s + 1) (by omega) (by omega) ls (lv_sub hl [0, 1, 2, 3, 4] rfl)
                · have c65 := c65
                  have mc65 : ((F 2) (s)) < ((F 6) (t)) := Int32.not_le.mp c65
                  refine lv_aload_n hx hb d_M_suits_68 rfl (lv_at hl 2 rfl) ?_
                  refine va_get (D := E.1) (cl := gp_cl) (ci := 3) (v := .ref (E.2.2.2 6)) (C := R_M) (T := T_M) (N := 27) hx hb hts i_M hown hK hP 0 rfl rfl 9 (by decide) (hts _ w3_61) (fun _ h9 => h9) rfl d_M_suits_69 ?_
                  refine lv_iload_n hx hb d_M_suits_72 rfl (lv_at hl 4 rfl) ?_
                  refine gp_ald (f := (F 5)) (n := 6) hx hb hK hP 6 rfl (t) rfl (by omega) (by decide) d_M_suits_73 ?_
                  refine lv_aload_n hx hb d_M_suits_74 rfl (lv_at hl 2 rfl) ?_
                  refine va_get (D := E.1) (cl := gp_cl) (ci := 3) (v := .ref (E.2.2.2 4)) (C := R_M) (T := T_M) (N := 27) hx hb hts i_M hown hK hP 0 rfl rfl 6 (by decide) (hts _ w3_58) (fun _ h9 => h9) rfl d_M_suits_75 ?_
                  refine lv_iload hx hb d_M_suits_78 (lv_at hl 0 rfl) ?_
                  refine gp_ald (f := (F 3)) (n := 20) hx hb hK hP 4 rfl (s) rfl (by omega) (by decide) d_M_suits_80 ?_
                  refine lv_icmp_lt (tgt := 88) hx hb d_M_suits_81 (by decide) (fun c81 => ?_) (fun c81 => ?_)
                  · have c81 := c81
                    have mc81 : ¬ ((F 3) (s)) ≤ ((F 5) (t)) := Int32.not_le.mpr c81
                    refine lv_iconst (v := 0) hx hb d_M_suits_88 (by decide) ?_
                    refine lv_istore_n (lv' := [(3, .int 0), (4, .int (nI s)), (0, .ref (E.2.2.2 0)), (1, .int (nI p)), (2, .int (nI t))]) hx hb d_M_suits_89 rfl hl (by decide) rfl (fun ls hl => ?_)
                    refine lv_iinc (v := (nI (s + 1))) (lv' := [(4, .int (nI (s + 1))), (3, .int 0), (0, .ref (E.2.2.2 0)), (1, .int (nI p)), (2, .int (nI t))]) hx hb d_M_suits_90 hl (k := 1) rfl (nI_1 _) (by decide) rfl (fun ls hl => ?_)
                    refine lv_goto (tgt := 28) hx hb d_M_suits_93 (by decide) ?_
                    rw [show (0 : Int32) = (if gm_su F p t (s + 1) then 1 else 0) from by have q := hb28; simp [gm_su] at q; simp [gm_su, gp_ofN, gp_of1, q, c16, h1, hb28, c34, nc34, c38, nc38, c49, c65, mc65, c81, mc81]] at hl
                    exact ih28 (s + 1) (by omega) (by omega) ls (lv_sub hl [0, 1, 2, 3, 4] rfl)
                  · have c81 := c81
                    have mc81 : ((F 3) (s)) ≤ ((F 5) (t)) := Int32.not_lt.mp c81
                    refine lv_iconst (v := 1) hx hb d_M_suits_84 (by decide) ?_
                    refine lv_goto (tgt := 89) hx hb d_M_suits_85 (by decide) ?_
                    refine lv_istore_n (lv' := [(3, .int 1), (4, .int (nI s)), (0, .ref (E.2.2.2 0)), (1, .int (nI p)), (2, .int (nI t))]) hx hb d_M_suits_89 rfl hl (by decide) rfl (fun ls hl => ?_)
                    refine lv_iinc (v := (nI (s + 1))) (lv' := [(4, .int (nI (s + 1))), (3, .int 1), (0, .ref (E.2.2.2 0)), (1, .int (nI p)), (2, .int (nI t))]) hx hb d_M_suits_90 hl (k := 1) rfl (nI_1 _) (by decide) rfl (fun ls hl => ?_)
                    refine lv_goto (tgt := 28) hx hb d_M_suits_93 (by decide) ?_
                    rw [show (1 : Int32) = (if gm_su F p t (s + 1) then 1 else 0) from by have q := hb28; simp [gm_su] at q; simp [gm_su, gp_ofN, gp_of1, q, c16, h1, hb28, c34, nc34, c38, nc38, c49, c65, mc65, c81, mc81]] at hl
                    exact ih28 (s + 1) (by omega) (by omega) ls (lv_sub hl [0, 1, 2, 3, 4] rfl)
        · rw [show ((if gm_su F p t s then 1 else 0) : Int32) = 0 from if_neg hb28] at hl
          refine lv_iload hx hb d_M_suits_28 (lv_at hl 0 rfl) ?_
          refine lv_aload_n hx hb d_M_suits_30 rfl (lv_at hl 2 rfl) ?_
          refine va_get (D := E.1) (cl := gp_cl) (ci := 3) (v := .int (nI ns)) (C := R_M) (T := T_M) (N := 27) hx hb hts i_M hown hK hP 0 rfl rfl 3 (by decide) (hts _ w3_55) (fun _ h9 => h9) (congrArg (fun z => some (Value.int z)) hN) d_M_suits_31 ?_
          refine lv_icmp_ge (tgt := 96) hx hb d_M_suits_34 (by decide) (fun c34 => ?_) (fun c34 => ?_)
          · have c34 := c34
            have nc34 : ns ≤ s := (nI_leI (a := ns) (b := s) (by omega) (by omega)).mp c34
            refine lv_iload_n hx hb d_M_suits_96 rfl (lv_at hl 1 rfl) ?_
            exact gp_rz hx hb hr hlocks (rfl) (by rw [show ns = s by omega]; first | rw [if_pos hb28] | rw [if_neg hb28]) d_M_suits_97
          · have c34 := c34
            have nc34 : ¬ ns ≤ s := fun h => c34 ((nI_leI (a := ns) (b := s) (by omega) (by omega)).mpr h)
            refine lv_iload_n hx hb d_M_suits_37 rfl (lv_at hl 1 rfl) ?_
            refine lv_if_eq (tgt := 88) hx hb d_M_suits_38 (by decide) (fun c38 => ?_) (fun c38 => ?_)
            · have c38 := c38
              have nc38 : 0 = 0 := (nI_eq (a := 0) (b := 0) (by omega) (by omega)).mp c38
              refine lv_iconst (v := 0) hx hb d_M_suits_88 (by decide) ?_
              refine lv_istore_n (lv' := [(3, .int 0), (4, .int (nI s)), (0, .ref (E.2.2.2 0)), (1, .int (nI p)), (2, .int (nI t))]) hx hb d_M_suits_89 rfl hl (by decide) rfl (fun ls hl => ?_)
              refine lv_iinc (v := (nI (s + 1))) (lv' := [(4, .int (nI (s + 1))), (3, .int 0), (0, .ref (E.2.2.2 0)), (1, .int (nI p)), (2, .int (nI t))]) hx hb d_M_suits_90 hl (k := 1) rfl (nI_1 _) (by decide) rfl (fun ls hl => ?_)
              refine lv_goto (tgt := 28) hx hb d_M_suits_93 (by decide) ?_
              rw [show (0 : Int32) = (if gm_su F p t (s + 1) then 1 else 0) from by have q := hb28; simp [gm_su] at q; simp [gm_su, gp_ofN, gp_of1, q, c16, h1, hb28, c34, nc34, c38, nc38]] at hl
              exact ih28 (s + 1) (by omega) (by omega) ls (lv_sub hl [0, 1, 2, 3, 4] rfl)
            · exact absurd c38 (by decide)
    exact L28 (ns + 1) 0 (Nat.zero_le _) (by omega) ls (lv_sub hl [0, 1, 2, 3, 4] rfl)
  · have c16 := c16
    refine lv_iconst (v := 1) hx hb d_M_suits_19 (by decide) ?_
    refine lv_goto (tgt := 24) hx hb d_M_suits_20 (by decide) ?_
    refine lv_istore_n (lv' := [(3, .int 1), (0, .ref (E.2.2.2 0)), (1, .int (nI p)), (2, .int (nI t))]) hx hb d_M_suits_24 rfl hl (by decide) rfl (fun ls hl => ?_)
    rw [show (1 : Int32) = (if gm_su F p t 0 then 1 else 0) from by simp [gm_su, gp_ofN, c16]] at hl
    refine lv_iconst (v := 0) hx hb d_M_suits_25 (by decide) ?_
    refine lv_istore (lv' := [(4, .int 0), (3, .int (if gm_su F p t 0 then 1 else 0)), (0, .ref (E.2.2.2 0)), (1, .int (nI p)), (2, .int (nI t))]) hx hb d_M_suits_26 hl (by decide) rfl (fun ls hl => ?_)
    have L28 : ∀ (n : Nat) (s : Nat), s ≤ ns → ns + 1 ≤ s + n → ∀ (ls : Array Slot), lv_has ls 5 [(4, .int (nI s)), (3, .int (if gm_su F p t s then 1 else 0)), (0, .ref (E.2.2.2 0)), (1, .int (nI p)), (2, .int (nI t))] → W xp l xe (gp_rm 1 0 0) xs xm ([.ref (E.2.2.2 0), .int (nI p), .int (nI t)] : List Value).toArray below meth xc xs.heap [] 0 0 (MQ below (QcRead (if gm_su F p t ns then 1 else 0)) ([.ref (E.2.2.2 0), .int (nI p), .int (nI t)] : List Value).toArray xs 0 0 (fun _ => False)) (F0 xm 28 ls []) := by
      intro n
      induction n with
      | zero =>
        intro s h1 hm
        exact absurd hm (by omega)
      | succ n ih28 =>
        intro s h1 hm ls hl
        by_cases hb28 : gm_su F p t s = true
        · rw [show ((if gm_su F p t s then 1 else 0) : Int32) = 1 from if_pos hb28] at hl
          refine lv_iload hx hb d_M_suits_28 (lv_at hl 0 rfl) ?_
          refine lv_aload_n hx hb d_M_suits_30 rfl (lv_at hl 2 rfl) ?_
          refine va_get (D := E.1) (cl := gp_cl) (ci := 3) (v := .int (nI ns)) (C := R_M) (T := T_M) (N := 27) hx hb hts i_M hown hK hP 0 rfl rfl 3 (by decide) (hts _ w3_55) (fun _ h9 => h9) (congrArg (fun z => some (Value.int z)) hN) d_M_suits_31 ?_
          refine lv_icmp_ge (tgt := 96) hx hb d_M_suits_34 (by decide) (fun c34 => ?_) (fun c34 => ?_)
          · have c34 := c34
            have nc34 : ns ≤ s := (nI_leI (a := ns) (b := s) (by omega) (by omega)).mp c34
            refine lv_iload_n hx hb d_M_suits_96 rfl (lv_at hl 1 rfl) ?_
            exact gp_rz hx hb hr hlocks (rfl) (by rw [show ns = s by omega]; first | rw [if_pos hb28] | rw [if_neg hb28]) d_M_suits_97
          · have c34 := c34
            have nc34 : ¬ ns ≤ s := fun h => c34 ((nI_leI (a := ns) (b := s) (by omega) (by omega)).mpr h)
            refine lv_iload_n hx hb d_M_suits_37 rfl (lv_at hl 1 rfl) ?_
            refine lv_if_eq (tgt := 88) hx hb d_M_suits_38 (by decide) (fun c38 => ?_) (fun c38 => ?_)
            · exact absurd c38 (by decide)
            · have c38 := c38
              have nc38 : ¬ 1 = 0 := fun h => c38 ((nI_eq (a := 1) (b := 0) (by omega) (by omega)).mpr h)
              refine lv_aload_n hx hb d_M_suits_41 rfl (lv_at hl 2 rfl) ?_
              refine va_get (D := E.1) (cl := gp_cl) (ci := 3) (v := .ref (E.2.2.2 2)) (C := R_M) (T := T_M) (N := 27) hx hb hts i_M hown hK hP 0 rfl rfl 4 (by decide) (hts _ w3_56) (fun _ h9 => h9) rfl d_M_suits_42 ?_
              refine lv_iload hx hb d_M_suits_45 (lv_at hl 0 rfl) ?_
              refine gp_ald (f := (F 1)) (n := 20) hx hb hK hP 2 rfl (s) rfl (by omega) (by decide) d_M_suits_47 ?_
              refine lv_iload_n hx hb d_M_suits_48 rfl (lv_at hl 3 rfl) ?_
              refine lv_icmp_ne (tgt := 84) hx hb d_M_suits_49 (by decide) (fun c49 => ?_) (fun c49 => ?_)
              · have c49 := c49
                refine lv_iconst (v := 1) hx hb d_M_suits_84 (by decide) ?_
                refine lv_goto (tgt := 89) hx hb d_M_suits_85 (by decide) ?_
                refine lv_istore_n (lv' := [(3, .int 1), (4, .int (nI s)), (0, .ref (E.2.2.2 0)), (1, .int (nI p)), (2, .int (nI t))]) hx hb d_M_suits_89 rfl hl (by decide) rfl (fun ls hl => ?_)
                refine lv_iinc (v := (nI (s + 1))) (lv' := [(4, .int (nI (s + 1))), (3, .int 1), (0, .ref (E.2.2.2 0)), (1, .int (nI p)), (2, .int (nI t))]) hx hb d_M_suits_90 hl (k := 1) rfl (nI_1 _) (by decide) rfl (fun ls hl => ?_)
                refine lv_goto (tgt := 28) hx hb d_M_suits_93 (by decide) ?_
                rw [show (1 : Int32) = (if gm_su F p t (s + 1) then 1 else 0) from by have q := hb28; simp [gm_su] at q; simp [gm_su, gp_ofN, gp_of1, q, c16, h1, hb28, c34, nc34, c38, nc38, c49]] at hl
                exact ih28 (s + 1) (by omega) (by omega) ls (lv_sub hl [0, 1, 2, 3, 4] rfl)
              · have c49 := c49
                refine lv_aload_n hx hb d_M_suits_52 rfl (lv_at hl 2 rfl) ?_
                refine va_get (D := E.1) (cl := gp_cl) (ci := 3) (v := .ref (E.2.2.2 3)) (C := R_M) (T := T_M) (N := 27) hx hb hts i_M hown hK hP 0 rfl rfl 5 (by decide) (hts _ w3_57) (fun _ h9 => h9) rfl d_M_suits_53 ?_
                refine lv_iload hx hb d_M_suits_56 (lv_at hl 0 rfl) ?_
                refine gp_ald (f := (F 2)) (n := 20) hx hb hK hP 3 rfl (s) rfl (by omega) (by decide) d_M_suits_58 ?_
                refine lv_aload_n hx hb d_M_suits_59 rfl (lv_at hl 2 rfl) ?_
                refine va_get (D := E.1) (cl := gp_cl) (ci := 3) (v := .ref (E.2.2.2 7)) (C := R_M) (T := T_M) (N := 27) hx hb hts i_M hown hK hP 0 rfl rfl 10 (by decide) (hts _ w3_62) (fun _ h9 => h9) rfl d_M_suits_60 ?_
                refine lv_iload_n hx hb d_M_suits_63 rfl (lv_at hl 4 rfl) ?_
                refine gp_ald (f := (F 6)) (n := 6) hx hb hK hP 7 rfl (t) rfl (by omega) (by decide) d_M_suits_64 ?_
                refine lv_icmp_ge (tgt := 84) hx hb d_M_suits_65 (by decide) (fun c65 => ?_) (fun c65 => ?_)
                · have c65 := c65
                  have mc65 : ¬ ((F 2) (s)) < ((F 6) (t)) := Int32.not_lt.mpr c65
                  refine lv_iconst (v := 1) hx hb d_M_suits_84 (by decide) ?_
                  refine lv_goto (tgt := 89) hx hb d_M_suits_85 (by decide) ?_
                  refine lv_istore_n (lv' := [(3, .int 1), (4, .int (nI s)), (0, .ref (E.2.2.2 0)), (1, .int (nI p)), (2, .int (nI t))]) hx hb d_M_suits_89 rfl hl (by decide) rfl (fun ls hl => ?_)
                  refine lv_iinc (v := (nI (s + 1))) (lv' := [(4, .int (nI (s + 1))), (3, .int 1), (0, .ref (E.2.2.2 0)), (1, .int (nI p)), (2, .int (nI t))]) hx hb d_M_suits_90 hl (k := 1) rfl (nI_1 _) (by decide) rfl (fun ls hl => ?_)
                  refine lv_goto (tgt := 28) hx hb d_M_suits_93 (by decide) ?_
                  rw [show (1 : Int32) = (if gm_su F p t (s + 1) then 1 else 0) from by have q := hb28; simp [gm_su] at q; simp [gm_su, gp_ofN, gp_of1, q, c16, h1, hb28, c34, nc34, c38, nc38, c49, c65, mc65]] at hl
                  exact ih28 (s + 1) (by omega) (by omega) ls (lv_sub hl [0, 1, 2, 3, 4] rfl)
                · have c65 := c65
                  have mc65 : ((F 2) (s)) < ((F 6) (t)) := Int32.not_le.mp c65
                  refine lv_aload_n hx hb d_M_suits_68 rfl (lv_at hl 2 rfl) ?_
                  refine va_get (D := E.1) (cl := gp_cl) (ci := 3) (v := .ref (E.2.2.2 6)) (C := R_M) (T := T_M) (N := 27) hx hb hts i_M hown hK hP 0 rfl rfl 9 (by decide) (hts _ w3_61) (fun _ h9 => h9) rfl d_M_suits_69 ?_
                  refine lv_iload_n hx hb d_M_suits_72 rfl (lv_at hl 4 rfl) ?_
                  refine gp_ald (f := (F 5)) (n := 6) hx hb hK hP 6 rfl (t) rfl (by omega) (by decide) d_M_suits_73 ?_
                  refine lv_aload_n hx hb d_M_suits_74 rfl (lv_at hl 2 rfl) ?_
                  refine va_get (D := E.1) (cl := gp_cl) (ci := 3) (v := .ref (E.2.2.2 4)) (C := R_M) (T := T_M) (N := 27) hx hb hts i_M hown hK hP 0 rfl rfl 6 (by decide) (hts _ w3_58) (fun _ h9 => h9) rfl d_M_suits_75 ?_
                  refine lv_iload hx hb d_M_suits_78 (lv_at hl 0 rfl) ?_
                  refine gp_ald (f := (F 3)) (n := 20) hx hb hK hP 4 rfl (s) rfl (by omega) (by decide) d_M_suits_80 ?_
                  refine lv_icmp_lt (tgt := 88) hx hb d_M_suits_81 (by decide) (fun c81 => ?_) (fun c81 => ?_)
                  · have c81 := c81
                    have mc81 : ¬ ((F 3) (s)) ≤ ((F 5) (t)) := Int32.not_le.mpr c81
                    refine lv_iconst (v := 0) hx hb d_M_suits_88 (by decide) ?_
                    refine lv_istore_n (lv' := [(3, .int 0), (4, .int (nI s)), (0, .ref (E.2.2.2 0)), (1, .int (nI p)), (2, .int (nI t))]) hx hb d_M_suits_89 rfl hl (by decide) rfl (fun ls hl => ?_)
                    refine lv_iinc (v := (nI (s + 1))) (lv' := [(4, .int (nI (s + 1))), (3, .int 0), (0, .ref (E.2.2.2 0)), (1, .int (nI p)), (2, .int (nI t))]) hx hb d_M_suits_90 hl (k := 1) rfl (nI_1 _) (by decide) rfl (fun ls hl => ?_)
                    refine lv_goto (tgt := 28) hx hb d_M_suits_93 (by decide) ?_
                    rw [show (0 : Int32) = (if gm_su F p t (s + 1) then 1 else 0) from by have q := hb28; simp [gm_su] at q; simp [gm_su, gp_ofN, gp_of1, q, c16, h1, hb28, c34, nc34, c38, nc38, c49, c65, mc65, c81, mc81]] at hl
                    exact ih28 (s + 1) (by omega) (by omega) ls (lv_sub hl [0, 1, 2, 3, 4] rfl)
                  · have c81 := c81
                    have mc81 : ((F 3) (s)) ≤ ((F 5) (t)) := Int32.not_lt.mp c81
                    refine lv_iconst (v := 1) hx hb d_M_suits_84 (by decide) ?_
                    refine lv_goto (tgt := 89) hx hb d_M_suits_85 (by decide) ?_
                    refine lv_istore_n (lv' := [(3, .int 1), (4, .int (nI s)), (0, .ref (E.2.2.2 0)), (1, .int (nI p)), (2, .int (nI t))]) hx hb d_M_suits_89 rfl hl (by decide) rfl (fun ls hl => ?_)
                    refine lv_iinc (v := (nI (s + 1))) (lv' := [(4, .int (nI (s + 1))), (3, .int 1), (0, .ref (E.2.2.2 0)), (1, .int (nI p)), (2, .int (nI t))]) hx hb d_M_suits_90 hl (k := 1) rfl (nI_1 _) (by decide) rfl (fun ls hl => ?_)
                    refine lv_goto (tgt := 28) hx hb d_M_suits_93 (by decide) ?_
                    rw [show (1 : Int32) = (if gm_su F p t (s + 1) then 1 else 0) from by have q := hb28; simp [gm_su] at q; simp [gm_su, gp_ofN, gp_of1, q, c16, h1, hb28, c34, nc34, c38, nc38, c49, c65, mc65, c81, mc81]] at hl
                    exact ih28 (s + 1) (by omega) (by omega) ls (lv_sub hl [0, 1, 2, 3, 4] rfl)
        · rw [show ((if gm_su F p t s then 1 else 0) : Int32) = 0 from if_neg hb28] at hl
          refine lv_iload hx hb d_M_suits_28 (lv_at hl 0 rfl) ?_
          refine lv_aload_n hx hb d_M_suits_30 rfl (lv_at hl 2 rfl) ?_
          refine va_get (D := E.1) (cl := gp_cl) (ci := 3) (v := .int (nI ns)) (C := R_M) (T := T_M) (N := 27) hx hb hts i_M hown hK hP 0 rfl rfl 3 (by decide) (hts _ w3_55) (fun _ h9 => h9) (congrArg (fun z => some (Value.int z)) hN) d_M_suits_31 ?_
          refine lv_icmp_ge (tgt := 96) hx hb d_M_suits_34 (by decide) (fun c34 => ?_) (fun c34 => ?_)
          · have c34 := c34
            have nc34 : ns ≤ s := (nI_leI (a := ns) (b := s) (by omega) (by omega)).mp c34
            refine lv_iload_n hx hb d_M_suits_96 rfl (lv_at hl 1 rfl) ?_
            exact gp_rz hx hb hr hlocks (rfl) (by rw [show ns = s by omega]; first | rw [if_pos hb28] | rw [if_neg hb28]) d_M_suits_97
          · have c34 := c34
            have nc34 : ¬ ns ≤ s := fun h => c34 ((nI_leI (a := ns) (b := s) (by omega) (by omega)).mpr h)
            refine lv_iload_n hx hb d_M_suits_37 rfl (lv_at hl 1 rfl) ?_
            refine lv_if_eq (tgt := 88) hx hb d_M_suits_38 (by decide) (fun c38 => ?_) (fun c38 => ?_)
            · have c38 := c38
              have nc38 : 0 = 0 := (nI_eq (a := 0) (b := 0) (by omega) (by omega)).mp c38
              refine lv_iconst (v := 0) hx hb d_M_suits_88 (by decide) ?_
              refine lv_istore_n (lv' := [(3, .int 0), (4, .int (nI s)), (0, .ref (E.2.2.2 0)), (1, .int (nI p)), (2, .int (nI t))]) hx hb d_M_suits_89 rfl hl (by decide) rfl (fun ls hl => ?_)
              refine lv_iinc (v := (nI (s + 1))) (lv' := [(4, .int (nI (s + 1))), (3, .int 0), (0, .ref (E.2.2.2 0)), (1, .int (nI p)), (2, .int (nI t))]) hx hb d_M_suits_90 hl (k := 1) rfl (nI_1 _) (by decide) rfl (fun ls hl => ?_)
              refine lv_goto (tgt := 28) hx hb d_M_suits_93 (by decide) ?_
              rw [show (0 : Int32) = (if gm_su F p t (s + 1) then 1 else 0) from by have q := hb28; simp [gm_su] at q; simp [gm_su, gp_ofN, gp_of1, q, c16, h1, hb28, c34, nc34, c38, nc38]] at hl
              exact ih28 (s + 1) (by omega) (by omega) ls (lv_sub hl [0, 1, 2, 3, 4] rfl)
            · exact absurd c38 (by decide)
    exact L28 (ns + 1) 0 (Nat.zero_le _) (by omega) ls (lv_sub hl [0, 1, 2, 3, 4] rfl)
set_option maxHeartbeats 4000000 in
set_option maxRecDepth 100000 in
theorem c_M_isNear (l : Launch) (E : gp_E) (I : Nat → Int32) (F : Nat → Nat → Int32) (a b : Nat) (ha : a < 6) (hb2 : b < 6) : gp_CR l y_M_isNear b_M_isNear 3 (some .boolean) 1 E (gp_wM E I F) [.ref (E.2.2.2 0), .int (nI a), .int (nI b)] (if gm_near (I 5) F a b then 1 else 0) := by
  refine gp_ofR (by decide) (Nat.le_of_ble_eq_true rfl) ?_
  intro xp xe xs xm below meth xc ls hx hb hr hts hown hlocks hml hP hK hl
  have hown : xs.vm.findClass "GuidePlansModel" = some xm.cls := hown
  have hl : lv_has ls 3 [(0, .ref (E.2.2.2 0)), (1, .int (nI a)), (2, .int (nI b))] := hl
  refine lv_aload_n hx hb d_M_isNear_0 rfl (lv_at hl 0 rfl) ?_
  refine va_get (D := E.1) (cl := gp_cl) (ci := 3) (v := .ref (E.2.2.2 6)) (C := R_M) (T := T_M) (N := 27) hx hb hts i_M hown hK hP 0 rfl rfl 9 (by decide) (hts _ w3_61) (fun _ h9 => h9) rfl d_M_isNear_1 ?_
  refine lv_iload_n hx hb d_M_isNear_4 rfl (lv_at hl 2 rfl) ?_
  refine gp_ald (f := (F 5)) (n := 6) hx hb hK hP 6 rfl (b) rfl (by omega) (by decide) d_M_isNear_5 ?_
  refine lv_aload_n hx hb d_M_isNear_6 rfl (lv_at hl 0 rfl) ?_
  refine va_get (D := E.1) (cl := gp_cl) (ci := 3) (v := .ref (E.2.2.2 7)) (C := R_M) (T := T_M) (N := 27) hx hb hts i_M hown hK hP 0 rfl rfl 10 (by decide) (hts _ w3_62) (fun _ h9 => h9) rfl d_M_isNear_7 ?_
  refine lv_iload_n hx hb d_M_isNear_10 rfl (lv_at hl 1 rfl) ?_
  refine gp_ald (f := (F 6)) (n := 6) hx hb hK hP 7 rfl (a) rfl (by omega) (by decide) d_M_isNear_11 ?_
  refine lv_aload_n hx hb d_M_isNear_12 rfl (lv_at hl 0 rfl) ?_
  refine va_get (D := E.1) (cl := gp_cl) (ci := 3) (v := .int (I 5)) (C := R_M) (T := T_M) (N := 27) hx hb hts i_M hown hK hP 0 rfl rfl 17 (by decide) (hts _ w3_69) (fun _ h9 => h9) rfl d_M_isNear_13 ?_
  refine lv_iadd hx hb d_M_isNear_16 ?_
  refine lv_icmp_ge (tgt := 44) hx hb d_M_isNear_17 (by decide) (fun c17 => ?_) (fun c17 => ?_)
  · have c17 := c17
    have mc17 : ¬ ((F 5) (b)) < (((F 6) (a)) + (I 5)) := Int32.not_lt.mpr c17
    refine lv_iconst (v := 0) hx hb d_M_isNear_44 (by decide) ?_
    exact gp_rz hx hb hr hlocks (rfl) (by simp [gm_near, c17, mc17]) d_M_isNear_45
  · have c17 := c17
    have mc17 : ((F 5) (b)) < (((F 6) (a)) + (I 5)) := Int32.not_le.mp c17
    refine lv_aload_n hx hb d_M_isNear_20 rfl (lv_at hl 0 rfl) ?_
    refine va_get (D := E.1) (cl := gp_cl) (ci := 3) (v := .ref (E.2.2.2 6)) (C := R_M) (T := T_M) (N := 27) hx hb hts i_M hown hK hP 0 rfl rfl 9 (by decide) (hts _ w3_61) (fun _ h9 => h9) rfl d_M_isNear_21 ?_
    refine lv_iload_n hx hb d_M_isNear_24 rfl (lv_at hl 1 rfl) ?_
    refine gp_ald (f := (F 5)) (n := 6) hx hb hK hP 6 rfl (a) rfl (by omega) (by decide) d_M_isNear_25 ?_
    refine lv_aload_n hx hb d_M_isNear_26 rfl (lv_at hl 0 rfl) ?_
    refine va_get (D := E.1) (cl := gp_cl) (ci := 3) (v := .ref (E.2.2.2 7)) (C := R_M) (T := T_M) (N := 27) hx hb hts i_M hown hK hP 0 rfl rfl 10 (by decide) (hts _ w3_62) (fun _ h9 => h9) rfl d_M_isNear_27 ?_
    refine lv_iload_n hx hb d_M_isNear_30 rfl (lv_at hl 2 rfl) ?_
    refine gp_ald (f := (F 6)) (n := 6) hx hb hK hP 7 rfl (b) rfl (by omega) (by decide) d_M_isNear_31 ?_
    refine lv_aload_n hx hb d_M_isNear_32 rfl (lv_at hl 0 rfl) ?_
    refine va_get (D := E.1) (cl := gp_cl) (ci := 3) (v := .int (I 5)) (C := R_M) (T := T_M) (N := 27) hx hb hts i_M hown hK hP 0 rfl rfl 17 (by decide) (hts _ w3_69) (fun _ h9 => h9) rfl d_M_isNear_33 ?_
    refine lv_iadd hx hb d_M_isNear_36 ?_
    refine lv_icmp_ge (tgt := 44) hx hb d_M_isNear_37 (by decide) (fun c37 => ?_) (fun c37 => ?_)
    · have c37 := c37
      have mc37 : ¬ ((F 5) (a)) < (((F 6) (b)) + (I 5)) := Int32.not_lt.mpr c37
      refine lv_iconst (v := 0) hx hb d_M_isNear_44 (by decide) ?_
      exact gp_rz hx hb hr hlocks (rfl) (by simp [gm_near, c17, mc17, c37, mc37]) d_M_isNear_45
    · have c37 := c37
      have mc37 : ((F 5) (a)) < (((F 6) (b)) + (I 5)) := Int32.not_le.mp c37
      refine lv_iconst (v := 1) hx hb d_M_isNear_40 (by decide) ?_
      refine lv_goto (tgt := 45) hx hb d_M_isNear_41 (by decide) ?_
      exact gp_rz hx hb hr hlocks (rfl) (by simp [gm_near, c17, mc17, c37, mc37]) d_M_isNear_45
set_option maxHeartbeats 4000000 in
set_option maxRecDepth 100000 in
theorem c_M_hasNear (l : Launch) (E : gp_E) (I : Nat → Int32) (F : Nat → Nat → Int32) (nt : Nat) (x : Int32) (hT : I 3 = nI nt) (hnt : nt ≤ 6) : gp_CR l y_M_hasNear b_M_hasNear 5 (some .boolean) 2 E (gp_wM E I F) [.ref (E.2.2.2 0), .int x] (if gm_h2 (I 5) F x nt then 1 else 0) := by
  refine gp_ofR (by decide) (Nat.le_of_ble_eq_true rfl) ?_
  intro xp xe xs xm below meth xc ls hx hb hr hts hown hlocks hml hP hK hl
  have hown : xs.vm.findClass "GuidePlansModel" = some xm.cls := hown
  have hl : lv_has ls 5 [(0, .ref (E.2.2.2 0)), (1, .int x)] := hl
  refine lv_iconst (v := 0) hx hb d_M_hasNear_0 (by decide) ?_
  refine lv_istore_n (lv' := [(2, .int 0), (0, .ref (E.2.2.2 0)), (1, .int x)]) hx hb d_M_hasNear_1 rfl hl (by decide) rfl (fun ls hl => ?_)
  refine lv_iconst (v := 0) hx hb d_M_hasNear_2 (by decide) ?_
  refine lv_istore_n (lv' := [(3, .int 0), (2, .int 0), (0, .ref (E.2.2.2 0)), (1, .int x)]) hx hb d_M_hasNear_3 rfl hl (by decide) rfl (fun ls hl => ?_)
  have L4 : ∀ (n : Nat) (a : Nat), a ≤ nt → nt + 1 ≤ a + n → ∀ (ls : Array Slot), lv_has ls 5 [(3, .int (nI a)), (2, .int (if gm_h2 (I 5) F x a then 1 else 0)), (0, .ref (E.2.2.2 0)), (1, .int x)] → W xp l xe (gp_rm 2 0 0) xs xm ([.ref (E.2.2.2 0), .int x] : List Value).toArray below meth xc xs.heap [] 0 0 (MQ below (QcRead (if gm_h2 (I 5) F x nt then 1 else 0)) ([.ref (E.2.2.2 0), .int x] : List Value).toArray xs 0 0 (fun _ => False)) (F0 xm 4 ls []) := by
    intro n
    induction n with
    | zero =>
      intro a h1 hm
      exact absurd hm (by omega)
    | succ n ih4 =>
      intro a h1 hm ls hl
      refine lv_iload_n hx hb d_M_hasNear_4 rfl (lv_at hl 0 rfl) ?_
      refine lv_aload_n hx hb d_M_hasNear_5 rfl (lv_at hl 2 rfl) ?_
      refine va_get (D := E.1) (cl := gp_cl) (ci := 3) (v := .int (nI nt)) (C := R_M) (T := T_M) (N := 27) hx hb hts i_M hown hK hP 0 rfl rfl 7 (by decide) (hts _ w3_59) (fun _ h9 => h9) (congrArg (fun z => some (Value.int z)) hT) d_M_hasNear_6 ?_
      refine lv_icmp_ge (tgt := 74) hx hb d_M_hasNear_9 (by decide) (fun c9 => ?_) (fun c9 => ?_)
      · have c9 := c9
        have nc9 : nt ≤ a := (nI_leI (a := nt) (b := a) (by omega) (by omega)).mp c9
        refine lv_iload_n hx hb d_M_hasNear_74 rfl (lv_at hl 1 rfl) ?_
        exact gp_rz hx hb hr hlocks (by split <;> rfl) (by rw [show a = nt by omega]) d_M_hasNear_75
      · have c9 := c9
        have nc9 : ¬ nt ≤ a := fun h => c9 ((nI_leI (a := nt) (b := a) (by omega) (by omega)).mpr h)
        rw [show ((if gm_h2 (I 5) F x a then 1 else 0) : Int32) = (if (gm_h2 (I 5) F x a || gm_h1 (I 5) F x a 0) then 1 else 0) from by simp [gm_h1]] at hl
        refine lv_iconst (v := 0) hx hb d_M_hasNear_12 (by decide) ?_
        refine lv_istore (lv' := [(4, .int 0), (3, .int (nI a)), (2, .int (if (gm_h2 (I 5) F x a || gm_h1 (I 5) F x a 0) then 1 else 0)), (0, .ref (E.2.2.2 0)), (1, .int x)]) hx hb d_M_hasNear_13 hl (by decide) rfl (fun ls hl => ?_)
        have L15 : ∀ (n : Nat) (b : Nat), b ≤ a → a + 1 ≤ b + n → ∀ (ls : Array Slot), lv_has ls 5 [(4, .int (nI b)), (3, .int (nI a)), (2, .int (if (gm_h2 (I 5) F x a || gm_h1 (I 5) F x a b) then 1 else 0)), (0, .ref (E.2.2.2 0)), (1, .int x)] → W xp l xe (gp_rm 2 0 0) xs xm ([.ref (E.2.2.2 0), .int x] : List Value).toArray below meth xc xs.heap [] 0 0 (MQ below (QcRead (if gm_h2 (I 5) F x nt then 1 else 0)) ([.ref (E.2.2.2 0), .int x] : List Value).toArray xs 0 0 (fun _ => False)) (F0 xm 15 ls []) := by
          intro n
          induction n with
          | zero =>
            intro b k1 hm
            exact absurd hm (by omega)
          | succ n ih15 =>
            intro b k1 hm ls hl
            by_cases hb15 : (gm_h2 (I 5) F x a || gm_h1 (I 5) F x a b) = true
            · rw [show ((if (gm_h2 (I 5) F x a || gm_h1 (I 5) F x a b) then 1 else 0) : Int32) = 1 from if_pos hb15] at hl
              refine lv_iload hx hb d_M_hasNear_15 (lv_at hl 0 rfl) ?_
              refine lv_iload_n hx hb d_M_hasNear_17 rfl (lv_at hl 1 rfl) ?_
              refine lv_icmp_ge (tgt := 68) hx hb d_M_hasNear_18 (by decide) (fun c18 => ?_) (fun c18 => ?_)
              · have c18 := c18
                have nc18 : a ≤ b := (nI_leI (a := a) (b := b) (by omega) (by omega)).mp c18
                refine lv_iinc (v := (nI (a + 1))) (lv' := [(3, .int (nI (a + 1))), (4, .int (nI b)), (2, .int 1), (0, .ref (E.2.2.2 0)), (1, .int x)]) hx hb d_M_hasNear_68 hl (k := 1) rfl (nI_1 _) (by decide) rfl (fun ls hl => ?_)
                refine lv_goto (tgt := 4) hx hb d_M_hasNear_71 (by decide) ?_
                rw [show (1 : Int32) = (if gm_h2 (I 5) F x (a + 1) then 1 else 0) from by rw [gm_h2, show gm_h1 (I 5) F x a a = gm_h1 (I 5) F x a b from by rw [show b = a by omega]]; first | rw [if_pos hb15] | rw [if_neg hb15]] at hl
                exact ih4 (a + 1) (by omega) (by omega) ls (lv_sub hl [0, 2, 3, 4] rfl)
              · have c18 := c18
                have nc18 : ¬ a ≤ b := fun h => c18 ((nI_leI (a := a) (b := b) (by omega) (by omega)).mpr h)
                refine lv_iload_n hx hb d_M_hasNear_21 rfl (lv_at hl 2 rfl) ?_
                refine lv_if_ne (tgt := 56) hx hb d_M_hasNear_22 (by decide) (fun c22 => ?_) (fun c22 => ?_)
                · have c22 := c22
                  have nc22 : ¬ 1 = 0 := fun h => c22 ((nI_eq (a := 1) (b := 0) (by omega) (by omega)).mpr h)
                  refine lv_iconst (v := 1) hx hb d_M_hasNear_56 (by decide) ?_
                  refine lv_goto (tgt := 61) hx hb d_M_hasNear_57 (by decide) ?_
                  refine lv_istore_n (lv' := [(2, .int 1), (4, .int (nI b)), (3, .int (nI a)), (0, .ref (E.2.2.2 0)), (1, .int x)]) hx hb d_M_hasNear_61 rfl hl (by decide) rfl (fun ls hl => ?_)
                  refine lv_iinc (v := (nI (b + 1))) (lv' := [(4, .int (nI (b + 1))), (2, .int 1), (3, .int (nI a)), (0, .ref (E.2.2.2 0)), (1, .int x)]) hx hb d_M_hasNear_62 hl (k := 1) rfl (nI_1 _) (by decide) rfl (fun ls hl => ?_)
                  refine lv_goto (tgt := 15) hx hb d_M_hasNear_65 (by decide) ?_
                  rw [show (1 : Int32) = (if (gm_h2 (I 5) F x a || gm_h1 (I 5) F x a (b + 1)) then 1 else 0) from by have q := hb15; revert q; cases h2 : gm_h2 (I 5) F x a <;> cases h3 : gm_h1 (I 5) F x a b <;> simp [gm_h1, h2, h3, h1, c9, nc9, k1, hb15, c18, nc18, c22, nc22]] at hl
                  exact ih15 (b + 1) (by omega) (by omega) ls (lv_sub hl [0, 2, 1, 3, 4] rfl)
                · exact absurd c22 (by decide)
            · rw [show ((if (gm_h2 (I 5) F x a || gm_h1 (I 5) F x a b) then 1 else 0) : Int32) = 0 from if_neg hb15] at hl
              refine lv_iload hx hb d_M_hasNear_15 (lv_at hl 0 rfl) ?_
              refine lv_iload_n hx hb d_M_hasNear_17 rfl (lv_at hl 1 rfl) ?_
              refine lv_icmp_ge (tgt := 68) hx hb d_M_hasNear_18 (by decide) (fun c18 => ?_) (fun c18 => ?_)
              · have c18 := c18
                have nc18 : a ≤ b := (nI_leI (a := a) (b := b) (by omega) (by omega)).mp c18
                refine lv_iinc (v := (nI (a + 1))) (lv' := [(3, .int (nI (a + 1))), (4, .int (nI b)), (2, .int 0), (0, .ref (E.2.2.2 0)), (1, .int x)]) hx hb d_M_hasNear_68 hl (k := 1) rfl (nI_1 _) (by decide) rfl (fun ls hl => ?_)
                refine lv_goto (tgt := 4) hx hb d_M_hasNear_71 (by decide) ?_
                rw [show (0 : Int32) = (if gm_h2 (I 5) F x (a + 1) then 1 else 0) from by rw [gm_h2, show gm_h1 (I 5) F x a a = gm_h1 (I 5) F x a b from by rw [show b = a by omega]]; first | rw [if_pos hb15] | rw [if_neg hb15]] at hl
                exact ih4 (a + 1) (by omega) (by omega) ls (lv_sub hl [0, 2, 3, 4] rfl)
              · have c18 := c18
                have nc18 : ¬ a ≤ b := fun h => c18 ((nI_leI (a := a) (b := b) (by omega) (by omega)).mpr h)
                refine lv_iload_n hx hb d_M_hasNear_21 rfl (lv_at hl 2 rfl) ?_
                refine lv_if_ne (tgt := 56) hx hb d_M_hasNear_22 (by decide) (fun c22 => ?_) (fun c22 => ?_)
                · exact absurd c22 (by decide)
                · have c22 := c22
                  have nc22 : 0 = 0 := (nI_eq (a := 0) (b := 0) (by omega) (by omega)).mp c22
                  refine lv_aload_n hx hb d_M_hasNear_25 rfl (lv_at hl 3 rfl) ?_
                  refine va_get (D := E.1) (cl := gp_cl) (ci := 3) (v := .ref (E.2.2.2 10)) (C := R_M) (T := T_M) (N := 27) hx hb hts i_M hown hK hP 0 rfl rfl 13 (by decide) (hts _ w3_65) (fun _ h9 => h9) rfl d_M_hasNear_26 ?_
                  refine lv_iload_n hx hb d_M_hasNear_29 rfl (lv_at hl 1 rfl) ?_
                  refine gp_ald (f := (F 9)) (n := 6) hx hb hK hP 10 rfl (a) rfl (by omega) (by decide) d_M_hasNear_30 ?_
                  refine lv_iload_n hx hb d_M_hasNear_31 rfl (lv_at hl 4 rfl) ?_
                  refine lv_icmp_ne (tgt := 60) hx hb d_M_hasNear_32 (by decide) (fun c32 => ?_) (fun c32 => ?_)
                  · have c32 := c32
                    refine lv_iconst (v := 0) hx hb d_M_hasNear_60 (by decide) ?_
                    refine lv_istore_n (lv' := [(2, .int 0), (4, .int (nI b)), (3, .int (nI a)), (0, .ref (E.2.2.2 0)), (1, .int x)]) hx hb d_M_hasNear_61 rfl hl (by decide) rfl (fun ls hl => ?_)
                    refine lv_iinc (v := (nI (b + 1))) (lv' := [(4, .int (nI (b + 1))), (2, .int 0), (3, .int (nI a)), (0, .ref (E.2.2.2 0)), (1, .int x)]) hx hb d_M_hasNear_62 hl (k := 1) rfl (nI_1 _) (by decide) rfl (fun ls hl => ?_)
                    refine lv_goto (tgt := 15) hx hb d_M_hasNear_65 (by decide) ?_
                    rw [show (0 : Int32) = (if (gm_h2 (I 5) F x a || gm_h1 (I 5) F x a (b + 1)) then 1 else 0) from by have q := hb15; revert q; cases h2 : gm_h2 (I 5) F x a <;> cases h3 : gm_h1 (I 5) F x a b <;> simp [gm_h1, h2, h3, h1, c9, nc9, k1, hb15, c18, nc18, c22, nc22, c32]] at hl
                    exact ih15 (b + 1) (by omega) (by omega) ls (lv_sub hl [0, 2, 1, 3, 4] rfl)
                  · have c32 := c32
                    refine lv_aload_n hx hb d_M_hasNear_35 rfl (lv_at hl 3 rfl) ?_
                    refine va_get (D := E.1) (cl := gp_cl) (ci := 3) (v := .ref (E.2.2.2 10)) (C := R_M) (T := T_M) (N := 27) hx hb hts i_M hown hK hP 0 rfl rfl 13 (by decide) (hts _ w3_65) (fun _ h9 => h9) rfl d_M_hasNear_36 ?_
                    refine lv_iload hx hb d_M_hasNear_39 (lv_at hl 0 rfl) ?_
                    refine gp_ald (f := (F 9)) (n := 6) hx hb hK hP 10 rfl (b) rfl (by omega) (by decide) d_M_hasNear_41 ?_
                    refine lv_iload_n hx hb d_M_hasNear_42 rfl (lv_at hl 4 rfl) ?_
                    refine lv_icmp_ne (tgt := 60) hx hb d_M_hasNear_43 (by decide) (fun c43 => ?_) (fun c43 => ?_)
                    · have c43 := c43
                      refine lv_iconst (v := 0) hx hb d_M_hasNear_60 (by decide) ?_
                      refine lv_istore_n (lv' := [(2, .int 0), (4, .int (nI b)), (3, .int (nI a)), (0, .ref (E.2.2.2 0)), (1, .int x)]) hx hb d_M_hasNear_61 rfl hl (by decide) rfl (fun ls hl => ?_)
                      refine lv_iinc (v := (nI (b + 1))) (lv' := [(4, .int (nI (b + 1))), (2, .int 0), (3, .int (nI a)), (0, .ref (E.2.2.2 0)), (1, .int x)]) hx hb d_M_hasNear_62 hl (k := 1) rfl (nI_1 _) (by decide) rfl (fun ls hl => ?_)
                      refine lv_goto (tgt := 15) hx hb d_M_hasNear_65 (by decide) ?_
                      rw [show (0 : Int32) = (if (gm_h2 (I 5) F x a || gm_h1 (I 5) F x a (b + 1)) then 1 else 0) from by have q := hb15; revert q; cases h2 : gm_h2 (I 5) F x a <;> cases h3 : gm_h1 (I 5) F x a b <;> simp [gm_h1, h2, h3, h1, c9, nc9, k1, hb15, c18, nc18, c22, nc22, c32, c43]] at hl
                      exact ih15 (b + 1) (by omega) (by omega) ls (lv_sub hl [0, 2, 1, 3, 4] rfl)
                    · have c43 := c43
                      refine lv_aload_n hx hb d_M_hasNear_46 rfl (lv_at hl 3 rfl) ?_
                      refine lv_iload_n hx hb d_M_hasNear_47 rfl (lv_at hl 1 rfl) ?_
                      refine lv_iload hx hb d_M_hasNear_48 (lv_at hl 0 rfl) ?_
                      refine gp_cR (q0 := 0) (ci := 3) (As := [.int (nI a), .int (nI b)]) (rest := []) ⟨hx, hb, hml, hown, hts⟩ (c_M_isNear l E I F a b (by omega) (by omega)) (k_M_95 hts ⟨by decide, by decide⟩ rfl rfl) hK hP rfl rfl rfl hl.1 rfl (Nat.le_of_ble_eq_true rfl) d_M_hasNear_50 ⟨Nat.le_of_ble_eq_true rfl, Nat.le_of_ble_eq_true rfl⟩ ?_
                      by_cases hs50 : gm_near (I 5) F a b = true
                      · rw [show ((if gm_near (I 5) F a b then 1 else 0) : Int32) = 1 from if_pos hs50]
                        refine lv_if_eq (tgt := 60) hx hb d_M_hasNear_53 (by decide) (fun c53 => ?_) (fun c53 => ?_)
                        · exact absurd c53 (by decide)
                        · have c53 := c53
                          have nc53 : ¬ 1 = 0 := fun h => c53 ((nI_eq (a := 1) (b := 0) (by omega) (by omega)).mpr h)
                          refine lv_iconst (v := 1) hx hb d_M_hasNear_56 (by decide) ?_
                          refine lv_goto (tgt := 61) hx hb d_M_hasNear_57 (by decide) ?_
                          refine lv_istore_n (lv' := [(2, .int 1), (4, .int (nI b)), (3, .int (nI a)), (0, .ref (E.2.2.2 0)), (1, .int x)]) hx hb d_M_hasNear_61 rfl hl (by decide) rfl (fun ls hl => ?_)
                          refine lv_iinc (v := (nI (b + 1))) (lv' := [(4, .int (nI (b + 1))), (2, .int 1), (3, .int (nI a)), (0, .ref (E.2.2.2 0)), (1, .int x)]) hx hb d_M_hasNear_62 hl (k := 1) rfl (nI_1 _) (by decide) rfl (fun ls hl => ?_)
                          refine lv_goto (tgt := 15) hx hb d_M_hasNear_65 (by decide) ?_
                          rw [show (1 : Int32) = (if (gm_h2 (I 5) F x a || gm_h1 (I 5) F x a (b + 1)) then 1 else 0) from by have q := hb15; revert q; cases h2 : gm_h2 (I 5) F x a <;> cases h3 : gm_h1 (I 5) F x a b <;> simp [gm_h1, h2, h3, h1, c9, nc9, k1, hb15, c18, nc18, c22, nc22, c32, c43, hs50, c53, nc53]] at hl
                          exact ih15 (b + 1) (by omega) (by omega) ls (lv_sub hl [0, 2, 1, 3, 4] rfl)
                      · rw [show ((if gm_near (I 5) F a b then 1 else 0) : Int32) = 0 from if_neg hs50]
                        refine lv_if_eq (tgt := 60) hx hb d_M_hasNear_53 (by decide) (fun c53 => ?_) (fun c53 => ?_)
                        · have c53 := c53
                          have nc53 : 0 = 0 := (nI_eq (a := 0) (b := 0) (by omega) (by omega)).mp c53
                          refine lv_iconst (v := 0) hx hb d_M_hasNear_60 (by decide) ?_
                          refine lv_istore_n (lv' := [(2, .int 0), (4, .int (nI b)), (3, .int (nI a)), (0, .ref (E.2.2.2 0)), (1, .int x)]) hx hb d_M_hasNear_61 rfl hl (by decide) rfl (fun ls hl => ?_)
                          refine lv_iinc (v := (nI (b + 1))) (lv' := [(4, .int (nI (b + 1))), (2, .int 0), (3, .int (nI a)), (0, .ref (E.2.2.2 0)), (1, .int x)]) hx hb d_M_hasNear_62 hl (k := 1) rfl (nI_1 _) (by decide) rfl (fun ls hl => ?_)
                          refine lv_goto (tgt := 15) hx hb d_M_hasNear_65 (by decide) ?_
                          rw [show (0 : Int32) = (if (gm_h2 (I 5) F x a || gm_h1 (I 5) F x a (b + 1)) then 1 else 0) from by have q := hb15; revert q; cases h2 : gm_h2 (I 5) F x a <;> cases h3 : gm_h1 (I 5) F x a b <;> simp [gm_h1, h2, h3, h1, c9, nc9, k1, hb15, c18, nc18, c22, nc22, c32, c43, hs50, c53, nc53]] at hl
                          exact ih15 (b + 1) (by omega) (by omega) ls (lv_sub hl [0, 2, 1, 3, 4] rfl)
                        · exact absurd c53 (by decide)
        exact L15 (a + 1) 0 (Nat.zero_le _) (by omega) ls (lv_sub hl [0, 1, 2, 3, 4] rfl)
  exact L4 (nt + 1) 0 (Nat.zero_le _) (by omega) ls (lv_sub hl [0, 1, 2, 3] rfl)
set_option maxHeartbeats 4000000 in
set_option maxRecDepth 100000 in
theorem c_M_quarters (l : Launch) (E : gp_E) (I : Nat → Int32) (F : Nat → Nat → Int32) (nt : Nat) (x : Int32) (hT : I 3 = nI nt) (hnt : nt ≤ 6) : gp_CR l y_M_quarters b_M_quarters 4 (some .int) 1 E (gp_wM E I F) [.ref (E.2.2.2 0), .int x] (gm_q F x nt) := by
  refine gp_ofR (by decide) (Nat.le_of_ble_eq_true rfl) ?_
  intro xp xe xs xm below meth xc ls hx hb hr hts hown hlocks hml hP hK hl
  have hown : xs.vm.findClass "GuidePlansModel" = some xm.cls := hown
  have hl : lv_has ls 4 [(0, .ref (E.2.2.2 0)), (1, .int x)] := hl
  refine lv_iconst (v := 0) hx hb d_M_quarters_0 (by decide) ?_
  refine lv_istore_n (lv' := [(2, .int 0), (0, .ref (E.2.2.2 0)), (1, .int x)]) hx hb d_M_quarters_1 rfl hl (by decide) rfl (fun ls hl => ?_)
  refine lv_iconst (v := 0) hx hb d_M_quarters_2 (by decide) ?_
  refine lv_istore_n (lv' := [(3, .int 0), (2, .int 0), (0, .ref (E.2.2.2 0)), (1, .int x)]) hx hb d_M_quarters_3 rfl hl (by decide) rfl (fun ls hl => ?_)
  have L4 : ∀ (n : Nat) (t : Nat), t ≤ nt → nt + 1 ≤ t + n → ∀ (ls : Array Slot), lv_has ls 4 [(3, .int (nI t)), (2, .int (gm_q F x t)), (0, .ref (E.2.2.2 0)), (1, .int x)] → W xp l xe (gp_rm 1 0 0) xs xm ([.ref (E.2.2.2 0), .int x] : List Value).toArray below meth xc xs.heap [] 0 0 (MQ below (QcRead (gm_q F x nt)) ([.ref (E.2.2.2 0), .int x] : List Value).toArray xs 0 0 (fun _ => False)) (F0 xm 4 ls []) := by
    intro n
    induction n with
    | zero =>
      intro t h1 hm
      exact absurd hm (by omega)
    | succ n ih4 =>
      intro t h1 hm ls hl
      refine lv_iload_n hx hb d_M_quarters_4 rfl (lv_at hl 0 rfl) ?_
      refine lv_aload_n hx hb d_M_quarters_5 rfl (lv_at hl 2 rfl) ?_
      refine va_get (D := E.1) (cl := gp_cl) (ci := 3) (v := .int (nI nt)) (C := R_M) (T := T_M) (N := 27) hx hb hts i_M hown hK hP 0 rfl rfl 7 (by decide) (hts _ w3_59) (fun _ h9 => h9) (congrArg (fun z => some (Value.int z)) hT) d_M_quarters_6 ?_
      refine lv_icmp_ge (tgt := 48) hx hb d_M_quarters_9 (by decide) (fun c9 => ?_) (fun c9 => ?_)
      · have c9 := c9
        have nc9 : nt ≤ t := (nI_leI (a := nt) (b := t) (by omega) (by omega)).mp c9
        refine lv_iload_n hx hb d_M_quarters_48 rfl (lv_at hl 1 rfl) ?_
        exact gp_ri hx hb hr hlocks (by rw [show t = nt by omega]) d_M_quarters_49
      · have c9 := c9
        have nc9 : ¬ nt ≤ t := fun h => c9 ((nI_leI (a := nt) (b := t) (by omega) (by omega)).mpr h)
        refine lv_aload_n hx hb d_M_quarters_12 rfl (lv_at hl 2 rfl) ?_
        refine va_get (D := E.1) (cl := gp_cl) (ci := 3) (v := .ref (E.2.2.2 10)) (C := R_M) (T := T_M) (N := 27) hx hb hts i_M hown hK hP 0 rfl rfl 13 (by decide) (hts _ w3_65) (fun _ h9 => h9) rfl d_M_quarters_13 ?_
        refine lv_iload_n hx hb d_M_quarters_16 rfl (lv_at hl 0 rfl) ?_
        refine gp_ald (f := (F 9)) (n := 6) hx hb hK hP 10 rfl (t) rfl (by omega) (by decide) d_M_quarters_17 ?_
        refine lv_iload_n hx hb d_M_quarters_18 rfl (lv_at hl 3 rfl) ?_
        refine lv_icmp_ne (tgt := 40) hx hb d_M_quarters_19 (by decide) (fun c19 => ?_) (fun c19 => ?_)
        · have c19 := c19
          refine lv_iload_n hx hb d_M_quarters_40 rfl (lv_at hl 1 rfl) ?_
          refine lv_istore_n (lv' := [(2, .int (gm_q F x t)), (3, .int (nI t)), (0, .ref (E.2.2.2 0)), (1, .int x)]) hx hb d_M_quarters_41 rfl hl (by decide) rfl (fun ls hl => ?_)
          refine lv_iinc (v := (nI (t + 1))) (lv' := [(3, .int (nI (t + 1))), (2, .int (gm_q F x t)), (0, .ref (E.2.2.2 0)), (1, .int x)]) hx hb d_M_quarters_42 hl (k := 1) rfl (nI_1 _) (by decide) rfl (fun ls hl => ?_)
          refine lv_goto (tgt := 4) hx hb d_M_quarters_45 (by decide) ?_
          rw [show ((gm_q F x t) : Int32) = (gm_q F x (t + 1)) from by simp [gm_q, h1, c9, nc9, c19]] at hl
          exact ih4 (t + 1) (by omega) (by omega) ls (lv_sub hl [0, 1, 2, 3] rfl)
        · have c19 := c19
          refine lv_iload_n hx hb d_M_quarters_22 rfl (lv_at hl 1 rfl) ?_
          refine lv_aload_n hx hb d_M_quarters_23 rfl (lv_at hl 2 rfl) ?_
          refine va_get (D := E.1) (cl := gp_cl) (ci := 3) (v := .ref (E.2.2.2 7)) (C := R_M) (T := T_M) (N := 27) hx hb hts i_M hown hK hP 0 rfl rfl 10 (by decide) (hts _ w3_62) (fun _ h9 => h9) rfl d_M_quarters_24 ?_
          refine lv_iload_n hx hb d_M_quarters_27 rfl (lv_at hl 0 rfl) ?_
          refine gp_ald (f := (F 6)) (n := 6) hx hb hK hP 7 rfl (t) rfl (by omega) (by decide) d_M_quarters_28 ?_
          refine lv_iadd hx hb d_M_quarters_29 ?_
          refine lv_aload_n hx hb d_M_quarters_30 rfl (lv_at hl 2 rfl) ?_
          refine va_get (D := E.1) (cl := gp_cl) (ci := 3) (v := .ref (E.2.2.2 6)) (C := R_M) (T := T_M) (N := 27) hx hb hts i_M hown hK hP 0 rfl rfl 9 (by decide) (hts _ w3_61) (fun _ h9 => h9) rfl d_M_quarters_31 ?_
          refine lv_iload_n hx hb d_M_quarters_34 rfl (lv_at hl 0 rfl) ?_
          refine gp_ald (f := (F 5)) (n := 6) hx hb hK hP 6 rfl (t) rfl (by omega) (by decide) d_M_quarters_35 ?_
          refine lv_isub hx hb d_M_quarters_36 ?_
          refine lv_goto (tgt := 41) hx hb d_M_quarters_37 (by decide) ?_
          refine lv_istore_n (lv' := [(2, .int (((gm_q F x t) + ((F 6) (t))) - ((F 5) (t)))), (3, .int (nI t)), (0, .ref (E.2.2.2 0)), (1, .int x)]) hx hb d_M_quarters_41 rfl hl (by decide) rfl (fun ls hl => ?_)
          refine lv_iinc (v := (nI (t + 1))) (lv' := [(3, .int (nI (t + 1))), (2, .int (((gm_q F x t) + ((F 6) (t))) - ((F 5) (t)))), (0, .ref (E.2.2.2 0)), (1, .int x)]) hx hb d_M_quarters_42 hl (k := 1) rfl (nI_1 _) (by decide) rfl (fun ls hl => ?_)
          refine lv_goto (tgt := 4) hx hb d_M_quarters_45 (by decide) ?_
          rw [show ((((gm_q F x t) + ((F 6) (t))) - ((F 5) (t))) : Int32) = (gm_q F x (t + 1)) from by simp [gm_q, h1, c9, nc9, c19]] at hl
          exact ih4 (t + 1) (by omega) (by omega) ls (lv_sub hl [0, 1, 2, 3] rfl)
  exact L4 (nt + 1) 0 (Nat.zero_le _) (by omega) ls (lv_sub hl [0, 1, 2, 3] rfl)
set_option maxHeartbeats 4000000 in
set_option maxRecDepth 100000 in
theorem c_M_costOf (l : Launch) (E : gp_E) (I : Nat → Int32) (F : Nat → Nat → Int32) (np nt : Nat) (hp4 : I 1 = nI np) (hnp : np ≤ 4) (hT : I 3 = nI nt) (hnt : nt ≤ 6) : gp_CR l y_M_costOf b_M_costOf 5 (some .int) 1 E (gp_wM E I F) [.ref (E.2.2.2 0)] (gm_c (F 9) nt np) := by
  refine gp_ofR (by decide) (Nat.le_of_ble_eq_true rfl) ?_
  intro xp xe xs xm below meth xc ls hx hb hr hts hown hlocks hml hP hK hl
  have hown : xs.vm.findClass "GuidePlansModel" = some xm.cls := hown
  have hl : lv_has ls 5 [(0, .ref (E.2.2.2 0))] := hl
  refine lv_iconst (v := 0) hx hb d_M_costOf_0 (by decide) ?_
  refine lv_istore_n (lv' := [(1, .int 0), (0, .ref (E.2.2.2 0))]) hx hb d_M_costOf_1 rfl hl (by decide) rfl (fun ls hl => ?_)
  refine lv_iconst (v := (-1)) hx hb d_M_costOf_2 (by decide) ?_
  refine lv_istore_n (lv' := [(2, .int (-1)), (1, .int 0), (0, .ref (E.2.2.2 0))]) hx hb d_M_costOf_3 rfl hl (by decide) rfl (fun ls hl => ?_)
  refine lv_iload_n hx hb d_M_costOf_4 rfl (lv_at hl 0 rfl) ?_
  refine lv_aload_n hx hb d_M_costOf_5 rfl (lv_at hl 2 rfl) ?_
  refine va_get (D := E.1) (cl := gp_cl) (ci := 3) (v := .int (nI np)) (C := R_M) (T := T_M) (N := 27) hx hb hts i_M hown hK hP 0 rfl rfl 1 (by decide) (hts _ w3_53) (fun _ h9 => h9) (congrArg (fun z => some (Value.int z)) hp4) d_M_costOf_6 ?_
  refine lv_icmp_ge (tgt := 75) hx hb d_M_costOf_9 (by decide) (fun c9 => ?_) (fun c9 => ?_)
  · have c9 := c9
    have mc9 : ¬ (-1) < (nI np) := Int32.not_lt.mpr c9
    exact False.elim (gm_ge (by omega) c9)
  · have c9 := c9
    have mc9 : (-1) < (nI np) := Int32.not_le.mp c9
    refine lv_iconst (v := 0) hx hb d_M_costOf_12 (by decide) ?_
    refine lv_istore_n (lv' := [(3, .int 0), (2, .int (-1)), (1, .int 0), (0, .ref (E.2.2.2 0))]) hx hb d_M_costOf_13 rfl hl (by decide) rfl (fun ls hl => ?_)
    refine lv_iconst (v := 0) hx hb d_M_costOf_14 (by decide) ?_
    refine lv_istore (lv' := [(4, .int 0), (3, .int 0), (2, .int (-1)), (1, .int 0), (0, .ref (E.2.2.2 0))]) hx hb d_M_costOf_15 hl (by decide) rfl (fun ls hl => ?_)
    have L17 : ∀ (n : Nat) (t : Nat), t ≤ nt → nt + 1 ≤ t + n → ∀ (ls : Array Slot), lv_has ls 5 [(4, .int (nI t)), (3, .int (gp_nu (F 9) (-1) t)), (2, .int (-1)), (1, .int 0), (0, .ref (E.2.2.2 0))] → W xp l xe (gp_rm 1 0 0) xs xm ([.ref (E.2.2.2 0)] : List Value).toArray below meth xc xs.heap [] 0 0 (MQ below (QcRead (gm_c (F 9) nt np)) ([.ref (E.2.2.2 0)] : List Value).toArray xs 0 0 (fun _ => False)) (F0 xm 17 ls []) := by
      intro n
      induction n with
      | zero =>
        intro t k1 hm
        exact absurd hm (by omega)
      | succ n ih17 =>
        intro t k1 hm ls hl
        refine lv_iload hx hb d_M_costOf_17 (lv_at hl 0 rfl) ?_
        refine lv_aload_n hx hb d_M_costOf_19 rfl (lv_at hl 4 rfl) ?_
        refine va_get (D := E.1) (cl := gp_cl) (ci := 3) (v := .int (nI nt)) (C := R_M) (T := T_M) (N := 27) hx hb hts i_M hown hK hP 0 rfl rfl 7 (by decide) (hts _ w3_59) (fun _ h9 => h9) (congrArg (fun z => some (Value.int z)) hT) d_M_costOf_20 ?_
        refine lv_icmp_ge (tgt := 51) hx hb d_M_costOf_23 (by decide) (fun c23 => ?_) (fun c23 => ?_)
        · have c23 := c23
          have nc23 : nt ≤ t := (nI_leI (a := nt) (b := t) (by omega) (by omega)).mp c23
          have hte : nt = t := by omega
          subst hte
          refine lv_iload_n hx hb d_M_costOf_51 rfl (lv_at hl 3 rfl) ?_
          refine lv_iload_n hx hb d_M_costOf_52 rfl (lv_at hl 2 rfl) ?_
          refine lv_iconst (v := (-1)) hx hb d_M_costOf_53 (by decide) ?_
          refine lv_icmp_ne (tgt := 64) hx hb d_M_costOf_54 (by decide) (fun c54 => ?_) (fun c54 => ?_)
          · exact absurd c54 (by decide)
          · have c54 := c54
            refine lv_bipush (v := 100) hx hb d_M_costOf_57 (by decide) ?_
            refine lv_iload_n hx hb d_M_costOf_59 rfl (lv_at hl 1 rfl) ?_
            refine lv_imul hx hb d_M_costOf_60 ?_
            refine lv_goto (tgt := 67) hx hb d_M_costOf_61 (by decide) ?_
            refine lv_iadd hx hb d_M_costOf_67 ?_
            refine lv_istore_n (lv' := [(1, .int (0 + (100 * (gp_nu (F 9) (-1) nt)))), (4, .int (nI nt)), (3, .int (gp_nu (F 9) (-1) nt)), (2, .int (-1)), (0, .ref (E.2.2.2 0))]) hx hb d_M_costOf_68 rfl hl (by decide) rfl (fun ls hl => ?_)
            refine lv_iinc (v := ((-1) + 1)) (lv' := [(2, .int ((-1) + 1)), (1, .int (0 + (100 * (gp_nu (F 9) (-1) nt)))), (4, .int (nI nt)), (3, .int (gp_nu (F 9) (-1) nt)), (0, .ref (E.2.2.2 0))]) hx hb d_M_costOf_69 hl (k := 3) rfl rfl (by decide) rfl (fun ls hl => ?_)
            refine lv_goto (tgt := 4) hx hb d_M_costOf_72 (by decide) ?_
            have L4 : ∀ (n : Nat) (p : Nat), p ≤ np → np + 1 ≤ p + n → ∀ (ls : Array Slot), lv_has ls 5 [(2, .int (nI p)), (1, .int (gm_c (F 9) nt p)), (0, .ref (E.2.2.2 0))] → W xp l xe (gp_rm 1 0 0) xs xm ([.ref (E.2.2.2 0)] : List Value).toArray below meth xc xs.heap [] 0 0 (MQ below (QcRead (gm_c (F 9) nt np)) ([.ref (E.2.2.2 0)] : List Value).toArray xs 0 0 (fun _ => False)) (F0 xm 4 ls []) := by
              intro n
              induction n with
              | zero =>
                intro p h1 hm
                exact absurd hm (by omega)
              | succ n ih4 =>
                intro p h1 hm ls hl
                refine lv_iload_n hx hb d_M_costOf_4 rfl (lv_at hl 0 rfl) ?_
                refine lv_aload_n hx hb d_M_costOf_5 rfl (lv_at hl 2 rfl) ?_
                refine va_get (D := E.1) (cl := gp_cl) (ci := 3) (v := .int (nI np)) (C := R_M) (T := T_M) (N := 27) hx hb hts i_M hown hK hP 0 rfl rfl 1 (by decide) (hts _ w3_53) (fun _ h9 => h9) (congrArg (fun z => some (Value.int z)) hp4) d_M_costOf_6 ?_
                refine lv_icmp_ge (tgt := 75) hx hb d_M_costOf_9 (by decide) (fun c9 => ?_) (fun c9 => ?_)
                · have c9 := c9
                  have nc9 : np ≤ p := (nI_leI (a := np) (b := p) (by omega) (by omega)).mp c9
                  refine lv_iload_n hx hb d_M_costOf_75 rfl (lv_at hl 1 rfl) ?_
                  exact gp_ri hx hb hr hlocks (by rw [show p = np by omega]) d_M_costOf_76
                · have c9 := c9
                  have nc9 : ¬ np ≤ p := fun h => c9 ((nI_leI (a := np) (b := p) (by omega) (by omega)).mpr h)
                  refine lv_iconst (v := 0) hx hb d_M_costOf_12 (by decide) ?_
                  refine lv_istore_n (lv' := [(3, .int 0), (2, .int (nI p)), (1, .int (gm_c (F 9) nt p)), (0, .ref (E.2.2.2 0))]) hx hb d_M_costOf_13 rfl hl (by decide) rfl (fun ls hl => ?_)
                  refine lv_iconst (v := 0) hx hb d_M_costOf_14 (by decide) ?_
                  refine lv_istore (lv' := [(4, .int 0), (3, .int 0), (2, .int (nI p)), (1, .int (gm_c (F 9) nt p)), (0, .ref (E.2.2.2 0))]) hx hb d_M_costOf_15 hl (by decide) rfl (fun ls hl => ?_)
                  have L17 : ∀ (n : Nat) (t : Nat), t ≤ nt → nt + 1 ≤ t + n → ∀ (ls : Array Slot), lv_has ls 5 [(4, .int (nI t)), (3, .int (gp_nu (F 9) (nI p) t)), (2, .int (nI p)), (1, .int (gm_c (F 9) nt p)), (0, .ref (E.2.2.2 0))] → W xp l xe (gp_rm 1 0 0) xs xm ([.ref (E.2.2.2 0)] : List Value).toArray below meth xc xs.heap [] 0 0 (MQ below (QcRead (gm_c (F 9) nt np)) ([.ref (E.2.2.2 0)] : List Value).toArray xs 0 0 (fun _ => False)) (F0 xm 17 ls []) := by
                    intro n
                    induction n with
                    | zero =>
                      intro t k1 hm
                      exact absurd hm (by omega)
                    | succ n ih17 =>
                      intro t k1 hm ls hl
                      refine lv_iload hx hb d_M_costOf_17 (lv_at hl 0 rfl) ?_
                      refine lv_aload_n hx hb d_M_costOf_19 rfl (lv_at hl 4 rfl) ?_
                      refine va_get (D := E.1) (cl := gp_cl) (ci := 3) (v := .int (nI nt)) (C := R_M) (T := T_M) (N := 27) hx hb hts i_M hown hK hP 0 rfl rfl 7 (by decide) (hts _ w3_59) (fun _ h9 => h9) (congrArg (fun z => some (Value.int z)) hT) d_M_costOf_20 ?_
                      refine lv_icmp_ge (tgt := 51) hx hb d_M_costOf_23 (by decide) (fun c23 => ?_) (fun c23 => ?_)
                      · have c23 := c23
                        have nc23 : nt ≤ t := (nI_leI (a := nt) (b := t) (by omega) (by omega)).mp c23
                        have hte : nt = t := by omega
                        subst hte
                        refine lv_iload_n hx hb d_M_costOf_51 rfl (lv_at hl 3 rfl) ?_
                        refine lv_iload_n hx hb d_M_costOf_52 rfl (lv_at hl 2 rfl) ?_
                        refine lv_iconst (v := (-1)) hx hb d_M_costOf_53 (by decide) ?_
                        refine lv_icmp_ne (tgt := 64) hx hb d_M_costOf_54 (by decide) (fun c54 => ?_) (fun c54 => ?_)
                        · have c54 := c54
                          refine lv_iload_n hx hb d_M_costOf_64 rfl (lv_at hl 1 rfl) ?_
                          refine lv_iload_n hx hb d_M_costOf_65 rfl (lv_at hl 1 rfl) ?_
                          refine lv_imul hx hb d_M_costOf_66 ?_
                          refine lv_iadd hx hb d_M_costOf_67 ?_
                          refine lv_istore_n (lv' := [(1, .int ((gm_c (F 9) nt p) + ((gp_nu (F 9) (nI p) nt) * (gp_nu (F 9) (nI p) nt)))), (4, .int (nI nt)), (3, .int (gp_nu (F 9) (nI p) nt)), (2, .int (nI p)), (0, .ref (E.2.2.2 0))]) hx hb d_M_costOf_68 rfl hl (by decide) rfl (fun ls hl => ?_)
                          refine lv_iinc (v := (nI (p + 1))) (lv' := [(2, .int (nI (p + 1))), (1, .int ((gm_c (F 9) nt p) + ((gp_nu (F 9) (nI p) nt) * (gp_nu (F 9) (nI p) nt)))), (4, .int (nI nt)), (3, .int (gp_nu (F 9) (nI p) nt)), (0, .ref (E.2.2.2 0))]) hx hb d_M_costOf_69 hl (k := 3) rfl (nI_1 _) (by decide) rfl (fun ls hl => ?_)
                          refine lv_goto (tgt := 4) hx hb d_M_costOf_72 (by decide) ?_
                          rw [show (((gm_c (F 9) nt p) + ((gp_nu (F 9) (nI p) nt) * (gp_nu (F 9) (nI p) nt))) : Int32) = (gm_c (F 9) nt (p + 1)) from rfl] at hl
                          exact ih4 (p + 1) (by omega) (by omega) ls (lv_sub hl [0, 1, 4] rfl)
                        · have c54 := c54
                          exact False.elim (gp_nn (by omega) c54)
                      · have c23 := c23
                        have nc23 : ¬ nt ≤ t := fun h => c23 ((nI_leI (a := nt) (b := t) (by omega) (by omega)).mpr h)
                        refine lv_aload_n hx hb d_M_costOf_26 rfl (lv_at hl 4 rfl) ?_
                        refine va_get (D := E.1) (cl := gp_cl) (ci := 3) (v := .ref (E.2.2.2 10)) (C := R_M) (T := T_M) (N := 27) hx hb hts i_M hown hK hP 0 rfl rfl 13 (by decide) (hts _ w3_65) (fun _ h9 => h9) rfl d_M_costOf_27 ?_
                        refine lv_iload hx hb d_M_costOf_30 (lv_at hl 0 rfl) ?_
                        refine gp_ald (f := (F 9)) (n := 6) hx hb hK hP 10 rfl (t) rfl (by omega) (by decide) d_M_costOf_32 ?_
                        refine lv_iload_n hx hb d_M_costOf_33 rfl (lv_at hl 2 rfl) ?_
                        refine lv_icmp_ne (tgt := 43) hx hb d_M_costOf_34 (by decide) (fun c34 => ?_) (fun c34 => ?_)
                        · have c34 := c34
                          refine lv_iload_n hx hb d_M_costOf_43 rfl (lv_at hl 1 rfl) ?_
                          refine lv_istore_n (lv' := [(3, .int (gp_nu (F 9) (nI p) t)), (4, .int (nI t)), (2, .int (nI p)), (1, .int (gm_c (F 9) nt p)), (0, .ref (E.2.2.2 0))]) hx hb d_M_costOf_44 rfl hl (by decide) rfl (fun ls hl => ?_)
                          refine lv_iinc (v := (nI (t + 1))) (lv' := [(4, .int (nI (t + 1))), (3, .int (gp_nu (F 9) (nI p) t)), (2, .int (nI p)), (1, .int (gm_c (F 9) nt p)), (0, .ref (E.2.2.2 0))]) hx hb d_M_costOf_45 hl (k := 1) rfl (nI_1 _) (by decide) rfl (fun ls hl => ?_)
                          refine lv_goto (tgt := 17) hx hb d_M_costOf_48 (by decide) ?_
                          rw [show ((gp_nu (F 9) (nI p) t) : Int32) = (gp_nu (F 9) (nI p) (t + 1)) from by simp [gp_nu, c9, mc9, k1, c23, nc23, c54, h1, nc9, c34]] at hl
                          exact ih17 (t + 1) (by omega) (by omega) ls (lv_sub hl [0, 1, 2, 3, 4] rfl)
                        · have c34 := c34
                          refine lv_iload_n hx hb d_M_costOf_37 rfl (lv_at hl 1 rfl) ?_
                          refine lv_iconst (v := 1) hx hb d_M_costOf_38 (by decide) ?_
                          refine lv_iadd hx hb d_M_costOf_39 ?_
                          refine lv_goto (tgt := 44) hx hb d_M_costOf_40 (by decide) ?_
                          refine lv_istore_n (lv' := [(3, .int ((gp_nu (F 9) (nI p) t) + 1)), (4, .int (nI t)), (2, .int (nI p)), (1, .int (gm_c (F 9) nt p)), (0, .ref (E.2.2.2 0))]) hx hb d_M_costOf_44 rfl hl (by decide) rfl (fun ls hl => ?_)
                          refine lv_iinc (v := (nI (t + 1))) (lv' := [(4, .int (nI (t + 1))), (3, .int ((gp_nu (F 9) (nI p) t) + 1)), (2, .int (nI p)), (1, .int (gm_c (F 9) nt p)), (0, .ref (E.2.2.2 0))]) hx hb d_M_costOf_45 hl (k := 1) rfl (nI_1 _) (by decide) rfl (fun ls hl => ?_)
                          refine lv_goto (tgt := 17) hx hb d_M_costOf_48 (by decide) ?_
                          rw [show (((gp_nu (F 9) (nI p) t) + 1) : Int32) = (gp_nu (F 9) (nI p) (t + 1)) from by simp [gp_nu, c9, mc9, k1, c23, nc23, c54, h1, nc9, c34]] at hl
                          exact ih17 (t + 1) (by omega) (by omega) ls (lv_sub hl [0, 1, 2, 3, 4] rfl)
                  exact L17 (nt + 1) 0 (Nat.zero_le _) (by omega) ls (lv_sub hl [0, 1, 2, 3, 4] rfl)
            exact L4 (np + 1) 0 (Nat.zero_le _) (by omega) ls (lv_sub hl [0, 1, 4] rfl)
        · have c23 := c23
          have nc23 : ¬ nt ≤ t := fun h => c23 ((nI_leI (a := nt) (b := t) (by omega) (by omega)).mpr h)
          refine lv_aload_n hx hb d_M_costOf_26 rfl (lv_at hl 4 rfl) ?_
          refine va_get (D := E.1) (cl := gp_cl) (ci := 3) (v := .ref (E.2.2.2 10)) (C := R_M) (T := T_M) (N := 27) hx hb hts i_M hown hK hP 0 rfl rfl 13 (by decide) (hts _ w3_65) (fun _ h9 => h9) rfl d_M_costOf_27 ?_
          refine lv_iload hx hb d_M_costOf_30 (lv_at hl 0 rfl) ?_
          refine gp_ald (f := (F 9)) (n := 6) hx hb hK hP 10 rfl (t) rfl (by omega) (by decide) d_M_costOf_32 ?_
          refine lv_iload_n hx hb d_M_costOf_33 rfl (lv_at hl 2 rfl) ?_
          refine lv_icmp_ne (tgt := 43) hx hb d_M_costOf_34 (by decide) (fun c34 => ?_) (fun c34 => ?_)
          · have c34 := c34
            refine lv_iload_n hx hb d_M_costOf_43 rfl (lv_at hl 1 rfl) ?_
            refine lv_istore_n (lv' := [(3, .int (gp_nu (F 9) (-1) t)), (4, .int (nI t)), (2, .int (-1)), (1, .int 0), (0, .ref (E.2.2.2 0))]) hx hb d_M_costOf_44 rfl hl (by decide) rfl (fun ls hl => ?_)
            refine lv_iinc (v := (nI (t + 1))) (lv' := [(4, .int (nI (t + 1))), (3, .int (gp_nu (F 9) (-1) t)), (2, .int (-1)), (1, .int 0), (0, .ref (E.2.2.2 0))]) hx hb d_M_costOf_45 hl (k := 1) rfl (nI_1 _) (by decide) rfl (fun ls hl => ?_)
            refine lv_goto (tgt := 17) hx hb d_M_costOf_48 (by decide) ?_
            rw [show ((gp_nu (F 9) (-1) t) : Int32) = (gp_nu (F 9) (-1) (t + 1)) from by simp [gp_nu, c9, mc9, k1, c23, nc23, c34]] at hl
            exact ih17 (t + 1) (by omega) (by omega) ls (lv_sub hl [0, 1, 2, 3, 4] rfl)
          · have c34 := c34
            refine lv_iload_n hx hb d_M_costOf_37 rfl (lv_at hl 1 rfl) ?_
            refine lv_iconst (v := 1) hx hb d_M_costOf_38 (by decide) ?_
            refine lv_iadd hx hb d_M_costOf_39 ?_
            refine lv_goto (tgt := 44) hx hb d_M_costOf_40 (by decide) ?_
            refine lv_istore_n (lv' := [(3, .int ((gp_nu (F 9) (-1) t) + 1)), (4, .int (nI t)), (2, .int (-1)), (1, .int 0), (0, .ref (E.2.2.2 0))]) hx hb d_M_costOf_44 rfl hl (by decide) rfl (fun ls hl => ?_)
            refine lv_iinc (v := (nI (t + 1))) (lv' := [(4, .int (nI (t + 1))), (3, .int ((gp_nu (F 9) (-1) t) + 1)), (2, .int (-1)), (1, .int 0), (0, .ref (E.2.2.2 0))]) hx hb d_M_costOf_45 hl (k := 1) rfl (nI_1 _) (by decide) rfl (fun ls hl => ?_)
            refine lv_goto (tgt := 17) hx hb d_M_costOf_48 (by decide) ?_
            rw [show (((gp_nu (F 9) (-1) t) + 1) : Int32) = (gp_nu (F 9) (-1) (t + 1)) from by simp [gp_nu, c9, mc9, k1, c23, nc23, c34]] at hl
            exact ih17 (t + 1) (by omega) (by omega) ls (lv_sub hl [0, 1, 2, 3, 4] rfl)
    exact L17 (nt + 1) 0 (Nat.zero_le _) (by omega) ls (lv_sub hl [0, 1, 2, 3, 4] rfl)
