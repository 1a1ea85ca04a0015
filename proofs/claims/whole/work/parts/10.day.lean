/-! ===== Day: what its methods answer ===== -/
def gp_in (x n : Int32) : Bool := !decide (x < 0) && !decide (n ≤ x)
theorem gp_in_1 {t n : Nat} (h : t < n) (hn : n < 2 ^ 31) : gp_in (nI t) (nI n) = true := by
  have h1 : ¬ nI t < 0 := nI_pos (by omega)
  have h2 : ¬ nI n ≤ nI t := nI_ge h hn
  simp [gp_in, h1, h2]
def gp_of1 (F : Nat → Nat → Int32) (p : Int32) (t s : Nat) : Bool := decide (F 1 s = p) && decide (F 2 s < F 6 t) && decide (F 5 t < F 3 s)
def gp_ofN (F : Nat → Nat → Int32) (p : Int32) (t : Nat) : Nat → Bool
  | 0 => false
  | k + 1 => gp_ofN F p t k || gp_of1 F p t k
theorem gp_ofN_up {F : Nat → Nat → Int32} {p : Int32} {t s : Nat} (h : gp_of1 F p t s = true) : ∀ k, s < k → gp_ofN F p t k = true := by
  intro k
  induction k with
  | zero => intro h; omega
  | succ k ih =>
    intro hs
    by_cases e : s = k
    · subst e; simp [gp_ofN, h]
    · simp [gp_ofN, ih (by omega)]
def gp_suit (F : Nat → Nat → Int32) (ns p t : Nat) : Bool := !decide ((F 0 p >>> (F 4 t &&& 31)) &&& 1 = 0) && !gp_ofN F (nI p) t ns
def gp_near (I : Nat → Int32) (F : Nat → Nat → Int32) (t u : Nat) : Bool := decide (F 5 t < F 6 u + I 7) && decide (F 5 u < F 6 t + I 7)
set_option maxHeartbeats 4000000 in
set_option maxRecDepth 100000 in
theorem c_D_hasPerson (l : Launch) (E : gp_E) (I : Nat → Int32) (F : Nat → Nat → Int32) (x : Int32)  : gp_CR l y_D_hasPerson b_D_hasPerson 2 (some .boolean) 1 E (gp_wG E I F) [.ref (E.2.2.2 1), .int x] (if gp_in x (I 4) then 1 else 0) := by
  refine gp_ofR (by decide) (Nat.le_of_ble_eq_true rfl) ?_
  intro xp xe xs xm below meth xc ls hx hb hr hts hown hlocks hml hP hK hl
  have hown : xs.vm.findClass "GuidePlans$Day" = some xm.cls := hown
  have hl : lv_has ls 2 [(0, .ref (E.2.2.2 1)), (1, .int x)] := hl
  refine lv_iload_n hx hb d_D_hasPerson_0 rfl (lv_at hl 1 rfl) ?_
  refine lv_if_lt (tgt := 16) hx hb d_D_hasPerson_1 (by decide) (fun c1 => ?_) (fun c1 => ?_)
  · have c1 := c1
    have mc1 : ¬ 0 ≤ x := Int32.not_le.mpr c1
    refine lv_iconst (v := 0) hx hb d_D_hasPerson_16 (by decide) ?_
    exact gp_rz hx hb hr hlocks (rfl) (by simp [gp_in, c1, mc1]) d_D_hasPerson_17
  · have c1 := c1
    have mc1 : 0 ≤ x := Int32.not_lt.mp c1
    refine lv_iload_n hx hb d_D_hasPerson_4 rfl (lv_at hl 1 rfl) ?_
    refine lv_aload_n hx hb d_D_hasPerson_5 rfl (lv_at hl 0 rfl) ?_
    refine va_get (D := E.1) (cl := gp_cl) (ci := 1) (v := .int (I 4)) (C := R_D) (T := T_D) (N := 13) hx hb hts i_D hown hK hP 1 rfl rfl 8 (by decide) (hts _ w1_39) (fun _ h9 => h9) rfl d_D_hasPerson_6 ?_
    refine lv_icmp_ge (tgt := 16) hx hb d_D_hasPerson_9 (by decide) (fun c9 => ?_) (fun c9 => ?_)
    · have c9 := c9
      have mc9 : ¬ x < (I 4) := Int32.not_lt.mpr c9
      refine lv_iconst (v := 0) hx hb d_D_hasPerson_16 (by decide) ?_
      exact gp_rz hx hb hr hlocks (rfl) (by simp [gp_in, c1, mc1, c9, mc9]) d_D_hasPerson_17
    · have c9 := c9
      have mc9 : x < (I 4) := Int32.not_le.mp c9
      refine lv_iconst (v := 1) hx hb d_D_hasPerson_12 (by decide) ?_
      refine lv_goto (tgt := 17) hx hb d_D_hasPerson_13 (by decide) ?_
      exact gp_rz hx hb hr hlocks (rfl) (by simp [gp_in, c1, mc1, c9, mc9]) d_D_hasPerson_17
theorem c_D_hasPerson1 (l : Launch) (E : gp_E) (I : Nat → Int32) (F : Nat → Nat → Int32) (n t : Nat) (hT : I 4 = nI n) (hn : n ≤ 4) (ht : t < n) : gp_CR l y_D_hasPerson b_D_hasPerson 2 (some .boolean) 1 E (gp_wG E I F) [.ref (E.2.2.2 1), .int (nI t)] 1 := by
  have h := c_D_hasPerson l E I F (nI t)
  rw [hT, gp_in_1 ht (by omega), if_pos rfl] at h
  exact h
set_option maxHeartbeats 4000000 in
set_option maxRecDepth 100000 in
theorem c_D_hasTask (l : Launch) (E : gp_E) (I : Nat → Int32) (F : Nat → Nat → Int32) (x : Int32)  : gp_CR l y_D_hasTask b_D_hasTask 2 (some .boolean) 1 E (gp_wG E I F) [.ref (E.2.2.2 1), .int x] (if gp_in x (I 6) then 1 else 0) := by
  refine gp_ofR (by decide) (Nat.le_of_ble_eq_true rfl) ?_
  intro xp xe xs xm below meth xc ls hx hb hr hts hown hlocks hml hP hK hl
  have hown : xs.vm.findClass "GuidePlans$Day" = some xm.cls := hown
  have hl : lv_has ls 2 [(0, .ref (E.2.2.2 1)), (1, .int x)] := hl
  refine lv_iload_n hx hb d_D_hasTask_0 rfl (lv_at hl 1 rfl) ?_
  refine lv_if_lt (tgt := 16) hx hb d_D_hasTask_1 (by decide) (fun c1 => ?_) (fun c1 => ?_)
  · have c1 := c1
    have mc1 : ¬ 0 ≤ x := Int32.not_le.mpr c1
    refine lv_iconst (v := 0) hx hb d_D_hasTask_16 (by decide) ?_
    exact gp_rz hx hb hr hlocks (rfl) (by simp [gp_in, c1, mc1]) d_D_hasTask_17
  · have c1 := c1
    have mc1 : 0 ≤ x := Int32.not_lt.mp c1
    refine lv_iload_n hx hb d_D_hasTask_4 rfl (lv_at hl 1 rfl) ?_
    refine lv_aload_n hx hb d_D_hasTask_5 rfl (lv_at hl 0 rfl) ?_
    refine va_get (D := E.1) (cl := gp_cl) (ci := 1) (v := .int (I 6)) (C := R_D) (T := T_D) (N := 13) hx hb hts i_D hown hK hP 1 rfl rfl 10 (by decide) (hts _ w1_44) (fun _ h9 => h9) rfl d_D_hasTask_6 ?_
    refine lv_icmp_ge (tgt := 16) hx hb d_D_hasTask_9 (by decide) (fun c9 => ?_) (fun c9 => ?_)
    · have c9 := c9
      have mc9 : ¬ x < (I 6) := Int32.not_lt.mpr c9
      refine lv_iconst (v := 0) hx hb d_D_hasTask_16 (by decide) ?_
      exact gp_rz hx hb hr hlocks (rfl) (by simp [gp_in, c1, mc1, c9, mc9]) d_D_hasTask_17
    · have c9 := c9
      have mc9 : x < (I 6) := Int32.not_le.mp c9
      refine lv_iconst (v := 1) hx hb d_D_hasTask_12 (by decide) ?_
      refine lv_goto (tgt := 17) hx hb d_D_hasTask_13 (by decide) ?_
      exact gp_rz hx hb hr hlocks (rfl) (by simp [gp_in, c1, mc1, c9, mc9]) d_D_hasTask_17
theorem c_D_hasTask1 (l : Launch) (E : gp_E) (I : Nat → Int32) (F : Nat → Nat → Int32) (n t : Nat) (hT : I 6 = nI n) (hn : n ≤ 6) (ht : t < n) : gp_CR l y_D_hasTask b_D_hasTask 2 (some .boolean) 1 E (gp_wG E I F) [.ref (E.2.2.2 1), .int (nI t)] 1 := by
  have h := c_D_hasTask l E I F (nI t)
  rw [hT, gp_in_1 ht (by omega), if_pos rfl] at h
  exact h
set_option maxHeartbeats 4000000 in
set_option maxRecDepth 100000 in
theorem c_D_lengthOf (l : Launch) (E : gp_E) (I : Nat → Int32) (F : Nat → Nat → Int32) (nt t : Nat) (hT : I 6 = nI nt) (hn : nt ≤ 6) (ht : t < nt) : gp_CR l y_D_lengthOf b_D_lengthOf 2 (some .int) 2 E (gp_wG E I F) [.ref (E.2.2.2 1), .int (nI t)] (F 6 t - F 5 t) := by
  refine gp_ofR (by decide) (Nat.le_of_ble_eq_true rfl) ?_
  intro xp xe xs xm below meth xc ls hx hb hr hts hown hlocks hml hP hK hl
  have hown : xs.vm.findClass "GuidePlans$Day" = some xm.cls := hown
  have hl : lv_has ls 2 [(0, .ref (E.2.2.2 1)), (1, .int (nI t))] := hl
  refine lv_aload_n hx hb d_D_lengthOf_0 rfl (lv_at hl 0 rfl) ?_
  refine lv_iload_n hx hb d_D_lengthOf_1 rfl (lv_at hl 1 rfl) ?_
  refine gp_cR (q0 := 1) (ci := 1) (As := [.int (nI t)]) (rest := []) ⟨hx, hb, hml, hown, hts⟩ (c_D_hasTask1 l E I F nt t hT hn ht) (k_D_53 hts ⟨by decide, by decide⟩ rfl rfl) hK hP rfl rfl rfl hl.1 rfl (by decide) d_D_lengthOf_2 ⟨by decide, by decide⟩ ?_
  refine lv_if_eq (tgt := 24) hx hb d_D_lengthOf_5 (by decide) (fun c5 => ?_) (fun c5 => ?_)
  · exact absurd c5 (by decide)
  · have c5 := c5
    have nc5 : ¬ 1 = 0 := fun h => c5 ((nI_eq (a := 1) (b := 0) (by omega) (by omega)).mpr h)
    refine lv_aload_n hx hb d_D_lengthOf_8 rfl (lv_at hl 0 rfl) ?_
    refine va_get (D := E.1) (cl := gp_cl) (ci := 1) (v := .ref (E.2.2.2 9)) (C := R_D) (T := T_D) (N := 13) hx hb hts i_D hown hK hP 1 rfl rfl 6 (by decide) (hts _ w1_35) (fun _ h9 => h9) rfl d_D_lengthOf_9 ?_
    refine lv_iload_n hx hb d_D_lengthOf_12 rfl (lv_at hl 1 rfl) ?_
    refine gp_ald (f := (F 6)) (n := 6) hx hb hK hP 9 rfl (t) rfl (by omega) (by decide) d_D_lengthOf_13 ?_
    refine lv_aload_n hx hb d_D_lengthOf_14 rfl (lv_at hl 0 rfl) ?_
    refine va_get (D := E.1) (cl := gp_cl) (ci := 1) (v := .ref (E.2.2.2 8)) (C := R_D) (T := T_D) (N := 13) hx hb hts i_D hown hK hP 1 rfl rfl 5 (by decide) (hts _ w1_32) (fun _ h9 => h9) rfl d_D_lengthOf_15 ?_
    refine lv_iload_n hx hb d_D_lengthOf_18 rfl (lv_at hl 1 rfl) ?_
    refine gp_ald (f := (F 5)) (n := 6) hx hb hK hP 8 rfl (t) rfl (by omega) (by decide) d_D_lengthOf_19 ?_
    refine lv_isub hx hb d_D_lengthOf_20 ?_
    refine lv_goto (tgt := 25) hx hb d_D_lengthOf_21 (by decide) ?_
    exact gp_ri hx hb hr hlocks (rfl) d_D_lengthOf_25
set_option maxHeartbeats 4000000 in
set_option maxRecDepth 100000 in
theorem c_D_isOffIn (l : Launch) (E : gp_E) (I : Nat → Int32) (F : Nat → Nat → Int32) (ns p t : Nat) (hN : I 5 = nI ns) (hn : ns ≤ 20) (ht : t < 6) : gp_CR l y_D_isOffIn b_D_isOffIn 4 (some .boolean) 1 E (gp_wG E I F) [.ref (E.2.2.2 1), .int (nI p), .int (nI t)] (if gp_ofN F (nI p) t ns then 1 else 0) := by
  refine gp_ofR (by decide) (Nat.le_of_ble_eq_true rfl) ?_
  intro xp xe xs xm below meth xc ls hx hb hr hts hown hlocks hml hP hK hl
  have hown : xs.vm.findClass "GuidePlans$Day" = some xm.cls := hown
  have hl : lv_has ls 4 [(0, .ref (E.2.2.2 1)), (1, .int (nI p)), (2, .int (nI t))] := hl
  refine lv_iconst (v := 0) hx hb d_D_isOffIn_0 (by decide) ?_
  refine lv_istore_n (lv' := [(3, .int 0), (0, .ref (E.2.2.2 1)), (1, .int (nI p)), (2, .int (nI t))]) hx hb d_D_isOffIn_1 rfl hl (by decide) rfl (fun ls hl => ?_)
  have L2 : ∀ (n : Nat) (s : Nat), s ≤ ns → gp_ofN F (nI p) t s = false → ns + 1 ≤ s + n → ∀ (ls : Array Slot), lv_has ls 4 [(3, .int (nI s)), (0, .ref (E.2.2.2 1)), (1, .int (nI p)), (2, .int (nI t))] → W xp l xe (gp_rm 1 0 0) xs xm ([.ref (E.2.2.2 1), .int (nI p), .int (nI t)] : List Value).toArray below meth xc xs.heap [] 0 0 (MQ below (QcRead (if gp_ofN F (nI p) t ns then 1 else 0)) ([.ref (E.2.2.2 1), .int (nI p), .int (nI t)] : List Value).toArray xs 0 0 (fun _ => False)) (F0 xm 2 ls []) := by
    intro n
    induction n with
    | zero =>
      intro s h1 h2 hm
      exact absurd hm (by omega)
    | succ n ih2 =>
      intro s h1 h2 hm ls hl
      refine lv_iload_n hx hb d_D_isOffIn_2 rfl (lv_at hl 0 rfl) ?_
      refine lv_aload_n hx hb d_D_isOffIn_3 rfl (lv_at hl 1 rfl) ?_
      refine va_get (D := E.1) (cl := gp_cl) (ci := 1) (v := .int (nI ns)) (C := R_D) (T := T_D) (N := 13) hx hb hts i_D hown hK hP 1 rfl rfl 9 (by decide) (hts _ w1_42) (fun _ h9 => h9) (congrArg (fun z => some (Value.int z)) hN) d_D_isOffIn_4 ?_
      refine lv_icmp_ge (tgt := 58) hx hb d_D_isOffIn_7 (by decide) (fun c7 => ?_) (fun c7 => ?_)
      · have c7 := c7
        have nc7 : ns ≤ s := (nI_leI (a := ns) (b := s) (by omega) (by omega)).mp c7
        refine lv_iconst (v := 0) hx hb d_D_isOffIn_58 (by decide) ?_
        exact gp_rz hx hb hr hlocks (rfl) (by rw [show ns = s by omega, h2]; rfl) d_D_isOffIn_59
      · have c7 := c7
        have nc7 : ¬ ns ≤ s := fun h => c7 ((nI_leI (a := ns) (b := s) (by omega) (by omega)).mpr h)
        refine lv_aload_n hx hb d_D_isOffIn_10 rfl (lv_at hl 1 rfl) ?_
        refine va_get (D := E.1) (cl := gp_cl) (ci := 1) (v := .ref (E.2.2.2 4)) (C := R_D) (T := T_D) (N := 13) hx hb hts i_D hown hK hP 1 rfl rfl 1 (by decide) (hts _ w1_28) (fun _ h9 => h9) rfl d_D_isOffIn_11 ?_
        refine lv_iload_n hx hb d_D_isOffIn_14 rfl (lv_at hl 0 rfl) ?_
        refine gp_ald (f := (F 1)) (n := 20) hx hb hK hP 4 rfl (s) rfl (by omega) (by decide) d_D_isOffIn_15 ?_
        refine lv_iload_n hx hb d_D_isOffIn_16 rfl (lv_at hl 2 rfl) ?_
        refine lv_icmp_ne (tgt := 52) hx hb d_D_isOffIn_17 (by decide) (fun c17 => ?_) (fun c17 => ?_)
        · have c17 := c17
          refine lv_iinc (v := (nI (s + 1))) (lv' := [(3, .int (nI (s + 1))), (0, .ref (E.2.2.2 1)), (1, .int (nI p)), (2, .int (nI t))]) hx hb d_D_isOffIn_52 hl (k := 0) rfl (nI_1 _) (by decide) rfl (fun ls hl => ?_)
          refine lv_goto (tgt := 2) hx hb d_D_isOffIn_55 (by decide) ?_
          exact ih2 (s + 1) (by omega) (by simp [gp_ofN, gp_of1, h1, h2, c7, nc7, c17]) (by omega) ls (lv_sub hl [0, 1, 2, 3] rfl)
        · have c17 := c17
          refine lv_aload_n hx hb d_D_isOffIn_20 rfl (lv_at hl 1 rfl) ?_
          refine va_get (D := E.1) (cl := gp_cl) (ci := 1) (v := .ref (E.2.2.2 5)) (C := R_D) (T := T_D) (N := 13) hx hb hts i_D hown hK hP 1 rfl rfl 2 (by decide) (hts _ w1_29) (fun _ h9 => h9) rfl d_D_isOffIn_21 ?_
          refine lv_iload_n hx hb d_D_isOffIn_24 rfl (lv_at hl 0 rfl) ?_
          refine gp_ald (f := (F 2)) (n := 20) hx hb hK hP 5 rfl (s) rfl (by omega) (by decide) d_D_isOffIn_25 ?_
          refine lv_aload_n hx hb d_D_isOffIn_26 rfl (lv_at hl 1 rfl) ?_
          refine va_get (D := E.1) (cl := gp_cl) (ci := 1) (v := .ref (E.2.2.2 9)) (C := R_D) (T := T_D) (N := 13) hx hb hts i_D hown hK hP 1 rfl rfl 6 (by decide) (hts _ w1_35) (fun _ h9 => h9) rfl d_D_isOffIn_27 ?_
          refine lv_iload_n hx hb d_D_isOffIn_30 rfl (lv_at hl 3 rfl) ?_
          refine gp_ald (f := (F 6)) (n := 6) hx hb hK hP 9 rfl (t) rfl (by omega) (by decide) d_D_isOffIn_31 ?_
          refine lv_icmp_ge (tgt := 52) hx hb d_D_isOffIn_32 (by decide) (fun c32 => ?_) (fun c32 => ?_)
          · have c32 := c32
            have mc32 : ¬ ((F 2) (s)) < ((F 6) (t)) := Int32.not_lt.mpr c32
            refine lv_iinc (v := (nI (s + 1))) (lv' := [(3, .int (nI (s + 1))), (0, .ref (E.2.2.2 1)), (1, .int (nI p)), (2, .int (nI t))]) hx hb d_D_isOffIn_52 hl (k := 0) rfl (nI_1 _) (by decide) rfl (fun ls hl => ?_)
            refine lv_goto (tgt := 2) hx hb d_D_isOffIn_55 (by decide) ?_
            exact ih2 (s + 1) (by omega) (by simp [gp_ofN, gp_of1, h1, h2, c7, nc7, c17, c32, mc32]) (by omega) ls (lv_sub hl [0, 1, 2, 3] rfl)
          · have c32 := c32
            have mc32 : ((F 2) (s)) < ((F 6) (t)) := Int32.not_le.mp c32
            refine lv_aload_n hx hb d_D_isOffIn_35 rfl (lv_at hl 1 rfl) ?_
            refine va_get (D := E.1) (cl := gp_cl) (ci := 1) (v := .ref (E.2.2.2 8)) (C := R_D) (T := T_D) (N := 13) hx hb hts i_D hown hK hP 1 rfl rfl 5 (by decide) (hts _ w1_32) (fun _ h9 => h9) rfl d_D_isOffIn_36 ?_
            refine lv_iload_n hx hb d_D_isOffIn_39 rfl (lv_at hl 3 rfl) ?_
            refine gp_ald (f := (F 5)) (n := 6) hx hb hK hP 8 rfl (t) rfl (by omega) (by decide) d_D_isOffIn_40 ?_
            refine lv_aload_n hx hb d_D_isOffIn_41 rfl (lv_at hl 1 rfl) ?_
            refine va_get (D := E.1) (cl := gp_cl) (ci := 1) (v := .ref (E.2.2.2 6)) (C := R_D) (T := T_D) (N := 13) hx hb hts i_D hown hK hP 1 rfl rfl 3 (by decide) (hts _ w1_30) (fun _ h9 => h9) rfl d_D_isOffIn_42 ?_
            refine lv_iload_n hx hb d_D_isOffIn_45 rfl (lv_at hl 0 rfl) ?_
            refine gp_ald (f := (F 3)) (n := 20) hx hb hK hP 6 rfl (s) rfl (by omega) (by decide) d_D_isOffIn_46 ?_
            refine lv_icmp_ge (tgt := 52) hx hb d_D_isOffIn_47 (by decide) (fun c47 => ?_) (fun c47 => ?_)
            · have c47 := c47
              have mc47 : ¬ ((F 5) (t)) < ((F 3) (s)) := Int32.not_lt.mpr c47
              refine lv_iinc (v := (nI (s + 1))) (lv' := [(3, .int (nI (s + 1))), (0, .ref (E.2.2.2 1)), (1, .int (nI p)), (2, .int (nI t))]) hx hb d_D_isOffIn_52 hl (k := 0) rfl (nI_1 _) (by decide) rfl (fun ls hl => ?_)
              refine lv_goto (tgt := 2) hx hb d_D_isOffIn_55 (by decide) ?_
              exact ih2 (s + 1) (by omega) (by simp [gp_ofN, gp_of1, h1, h2, c7, nc7, c17, c32, mc32, c47, mc47]) (by omega) ls (lv_sub hl [0, 1, 2, 3] rfl)
            · have c47 := c47
              have mc47 : ((F 5) (t)) < ((F 3) (s)) := Int32.not_le.mp c47
              refine lv_iconst (v := 1) hx hb d_D_isOffIn_50 (by decide) ?_
              exact gp_rz hx hb hr hlocks (rfl) (by rw [gp_ofN_up (s := s) (by simp [gp_of1, h1, h2, c7, nc7, c17, c32, mc32, c47, mc47]) ns (by omega)]; rfl) d_D_isOffIn_51
  exact L2 (ns + 1) 0 (Nat.zero_le _) rfl (by omega) ls (lv_sub hl [0, 1, 2, 3] rfl)
set_option maxHeartbeats 4000000 in
set_option maxRecDepth 100000 in
theorem c_D_suits (l : Launch) (E : gp_E) (I : Nat → Int32) (F : Nat → Nat → Int32) (np nt ns p t : Nat) (hp4 : I 4 = nI np) (hT : I 6 = nI nt) (hN : I 5 = nI ns) (hnp : np ≤ 4) (hnt : nt ≤ 6) (hns : ns ≤ 20) (hp : p < np) (ht : t < nt) : gp_CR l y_D_suits b_D_suits 3 (some .boolean) 2 E (gp_wG E I F) [.ref (E.2.2.2 1), .int (nI p), .int (nI t)] (if gp_suit F ns p t then 1 else 0) := by
  refine gp_ofR (by decide) (Nat.le_of_ble_eq_true rfl) ?_
  intro xp xe xs xm below meth xc ls hx hb hr hts hown hlocks hml hP hK hl
  have hown : xs.vm.findClass "GuidePlans$Day" = some xm.cls := hown
  have hl : lv_has ls 3 [(0, .ref (E.2.2.2 1)), (1, .int (nI p)), (2, .int (nI t))] := hl
  refine lv_aload_n hx hb d_D_suits_0 rfl (lv_at hl 0 rfl) ?_
  refine lv_iload_n hx hb d_D_suits_1 rfl (lv_at hl 1 rfl) ?_
  refine gp_cR (q0 := 1) (ci := 1) (As := [.int (nI p)]) (rest := []) ⟨hx, hb, hml, hown, hts⟩ (c_D_hasPerson1 l E I F np p hp4 hnp hp) (k_D_57 hts ⟨by decide, by decide⟩ rfl rfl) hK hP rfl rfl rfl hl.1 rfl (by decide) d_D_suits_2 ⟨by decide, by decide⟩ ?_
  refine lv_if_eq (tgt := 16) hx hb d_D_suits_5 (by decide) (fun c5 => ?_) (fun c5 => ?_)
  · exact absurd c5 (by decide)
  · have c5 := c5
    have nc5 : ¬ 1 = 0 := fun h => c5 ((nI_eq (a := 1) (b := 0) (by omega) (by omega)).mpr h)
    refine lv_aload_n hx hb d_D_suits_8 rfl (lv_at hl 0 rfl) ?_
    refine lv_iload_n hx hb d_D_suits_9 rfl (lv_at hl 2 rfl) ?_
    refine gp_cR (q0 := 1) (ci := 1) (As := [.int (nI t)]) (rest := []) ⟨hx, hb, hml, hown, hts⟩ (c_D_hasTask1 l E I F nt t hT hnt ht) (k_D_53 hts ⟨by decide, by decide⟩ rfl rfl) hK hP rfl rfl rfl hl.1 rfl (by decide) d_D_suits_10 ⟨by decide, by decide⟩ ?_
    refine lv_if_ne (tgt := 18) hx hb d_D_suits_13 (by decide) (fun c13 => ?_) (fun c13 => ?_)
    · have c13 := c13
      have nc13 : ¬ 1 = 0 := fun h => c13 ((nI_eq (a := 1) (b := 0) (by omega) (by omega)).mpr h)
      refine lv_aload_n hx hb d_D_suits_18 rfl (lv_at hl 0 rfl) ?_
      refine va_get (D := E.1) (cl := gp_cl) (ci := 1) (v := .ref (E.2.2.2 3)) (C := R_D) (T := T_D) (N := 13) hx hb hts i_D hown hK hP 1 rfl rfl 0 (by decide) (hts _ w1_27) (fun _ h9 => h9) rfl d_D_suits_19 ?_
      refine lv_iload_n hx hb d_D_suits_22 rfl (lv_at hl 1 rfl) ?_
      refine gp_ald (f := (F 0)) (n := 4) hx hb hK hP 3 rfl (p) rfl (by omega) (by decide) d_D_suits_23 ?_
      refine lv_aload_n hx hb d_D_suits_24 rfl (lv_at hl 0 rfl) ?_
      refine va_get (D := E.1) (cl := gp_cl) (ci := 1) (v := .ref (E.2.2.2 7)) (C := R_D) (T := T_D) (N := 13) hx hb hts i_D hown hK hP 1 rfl rfl 4 (by decide) (hts _ w1_31) (fun _ h9 => h9) rfl d_D_suits_25 ?_
      refine lv_iload_n hx hb d_D_suits_28 rfl (lv_at hl 2 rfl) ?_
      refine gp_ald (f := (F 4)) (n := 6) hx hb hK hP 7 rfl (t) rfl (by omega) (by decide) d_D_suits_29 ?_
      refine lv_ishr hx hb d_D_suits_30 ?_
      refine lv_iconst (v := 1) hx hb d_D_suits_31 (by decide) ?_
      refine lv_iand hx hb d_D_suits_32 ?_
      refine lv_if_eq (tgt := 49) hx hb d_D_suits_33 (by decide) (fun c33 => ?_) (fun c33 => ?_)
      · have c33 := c33
        refine lv_iconst (v := 0) hx hb d_D_suits_49 (by decide) ?_
        exact gp_rz hx hb hr hlocks (rfl) (by simp [gp_suit, c5, nc5, c13, nc13, c33]) d_D_suits_50
      · have c33 := c33
        refine lv_aload_n hx hb d_D_suits_36 rfl (lv_at hl 0 rfl) ?_
        refine lv_iload_n hx hb d_D_suits_37 rfl (lv_at hl 1 rfl) ?_
        refine lv_iload_n hx hb d_D_suits_38 rfl (lv_at hl 2 rfl) ?_
        refine gp_cR (q0 := 1) (ci := 1) (As := [.int (nI p), .int (nI t)]) (rest := []) ⟨hx, hb, hml, hown, hts⟩ (c_D_isOffIn l E I F ns p t hN hns (by omega)) (k_D_60 hts ⟨by decide, by decide⟩ rfl rfl) hK hP rfl rfl rfl hl.1 rfl (by decide) d_D_suits_39 ⟨by decide, by decide⟩ ?_
        by_cases hs39 : gp_ofN F (nI p) t ns = true
        · rw [if_pos hs39]
          refine lv_if_ne (tgt := 49) hx hb d_D_suits_42 (by decide) (fun c42 => ?_) (fun c42 => ?_)
          · have c42 := c42
            have nc42 : ¬ 1 = 0 := fun h => c42 ((nI_eq (a := 1) (b := 0) (by omega) (by omega)).mpr h)
            refine lv_iconst (v := 0) hx hb d_D_suits_49 (by decide) ?_
            exact gp_rz hx hb hr hlocks (rfl) (by simp [gp_suit, c5, nc5, c13, nc13, c33, hs39, c42, nc42]) d_D_suits_50
          · exact absurd c42 (by decide)
        · rw [if_neg hs39]
          refine lv_if_ne (tgt := 49) hx hb d_D_suits_42 (by decide) (fun c42 => ?_) (fun c42 => ?_)
          · exact absurd c42 (by decide)
          · have c42 := c42
            have nc42 : 0 = 0 := (nI_eq (a := 0) (b := 0) (by omega) (by omega)).mp c42
            refine lv_iconst (v := 1) hx hb d_D_suits_45 (by decide) ?_
            refine lv_goto (tgt := 50) hx hb d_D_suits_46 (by decide) ?_
            exact gp_rz hx hb hr hlocks (rfl) (by simp [gp_suit, c5, nc5, c13, nc13, c33, hs39, c42, nc42]) d_D_suits_50
    · exact absurd c13 (by decide)
set_option maxHeartbeats 4000000 in
set_option maxRecDepth 100000 in
theorem c_D_areTooNear (l : Launch) (E : gp_E) (I : Nat → Int32) (F : Nat → Nat → Int32) (nt t u : Nat) (hT : I 6 = nI nt) (hnt : nt ≤ 6) (ht : t < nt) (hu : u < nt) : gp_CR l y_D_areTooNear b_D_areTooNear 3 (some .boolean) 2 E (gp_wG E I F) [.ref (E.2.2.2 1), .int (nI t), .int (nI u)] (if gp_near I F t u then 1 else 0) := by
  refine gp_ofR (by decide) (Nat.le_of_ble_eq_true rfl) ?_
  intro xp xe xs xm below meth xc ls hx hb hr hts hown hlocks hml hP hK hl
  have hown : xs.vm.findClass "GuidePlans$Day" = some xm.cls := hown
  have hl : lv_has ls 3 [(0, .ref (E.2.2.2 1)), (1, .int (nI t)), (2, .int (nI u))] := hl
  refine lv_aload_n hx hb d_D_areTooNear_0 rfl (lv_at hl 0 rfl) ?_
  refine lv_iload_n hx hb d_D_areTooNear_1 rfl (lv_at hl 1 rfl) ?_
  refine gp_cR (q0 := 1) (ci := 1) (As := [.int (nI t)]) (rest := []) ⟨hx, hb, hml, hown, hts⟩ (c_D_hasTask1 l E I F nt t hT hnt ht) (k_D_53 hts ⟨by decide, by decide⟩ rfl rfl) hK hP rfl rfl rfl hl.1 rfl (by decide) d_D_areTooNear_2 ⟨by decide, by decide⟩ ?_
  refine lv_if_eq (tgt := 16) hx hb d_D_areTooNear_5 (by decide) (fun c5 => ?_) (fun c5 => ?_)
  · exact absurd c5 (by decide)
  · have c5 := c5
    have nc5 : ¬ 1 = 0 := fun h => c5 ((nI_eq (a := 1) (b := 0) (by omega) (by omega)).mpr h)
    refine lv_aload_n hx hb d_D_areTooNear_8 rfl (lv_at hl 0 rfl) ?_
    refine lv_iload_n hx hb d_D_areTooNear_9 rfl (lv_at hl 2 rfl) ?_
    refine gp_cR (q0 := 1) (ci := 1) (As := [.int (nI u)]) (rest := []) ⟨hx, hb, hml, hown, hts⟩ (c_D_hasTask1 l E I F nt u hT hnt hu) (k_D_53 hts ⟨by decide, by decide⟩ rfl rfl) hK hP rfl rfl rfl hl.1 rfl (by decide) d_D_areTooNear_10 ⟨by decide, by decide⟩ ?_
    refine lv_if_ne (tgt := 18) hx hb d_D_areTooNear_13 (by decide) (fun c13 => ?_) (fun c13 => ?_)
    · have c13 := c13
      have nc13 : ¬ 1 = 0 := fun h => c13 ((nI_eq (a := 1) (b := 0) (by omega) (by omega)).mpr h)
      refine lv_aload_n hx hb d_D_areTooNear_18 rfl (lv_at hl 0 rfl) ?_
      refine va_get (D := E.1) (cl := gp_cl) (ci := 1) (v := .ref (E.2.2.2 8)) (C := R_D) (T := T_D) (N := 13) hx hb hts i_D hown hK hP 1 rfl rfl 5 (by decide) (hts _ w1_32) (fun _ h9 => h9) rfl d_D_areTooNear_19 ?_
      refine lv_iload_n hx hb d_D_areTooNear_22 rfl (lv_at hl 1 rfl) ?_
      refine gp_ald (f := (F 5)) (n := 6) hx hb hK hP 8 rfl (t) rfl (by omega) (by decide) d_D_areTooNear_23 ?_
      refine lv_aload_n hx hb d_D_areTooNear_24 rfl (lv_at hl 0 rfl) ?_
      refine va_get (D := E.1) (cl := gp_cl) (ci := 1) (v := .ref (E.2.2.2 9)) (C := R_D) (T := T_D) (N := 13) hx hb hts i_D hown hK hP 1 rfl rfl 6 (by decide) (hts _ w1_35) (fun _ h9 => h9) rfl d_D_areTooNear_25 ?_
      refine lv_iload_n hx hb d_D_areTooNear_28 rfl (lv_at hl 2 rfl) ?_
      refine gp_ald (f := (F 6)) (n := 6) hx hb hK hP 9 rfl (u) rfl (by omega) (by decide) d_D_areTooNear_29 ?_
      refine lv_aload_n hx hb d_D_areTooNear_30 rfl (lv_at hl 0 rfl) ?_
      refine va_get (D := E.1) (cl := gp_cl) (ci := 1) (v := .int (I 7)) (C := R_D) (T := T_D) (N := 13) hx hb hts i_D hown hK hP 1 rfl rfl 11 (by decide) (hts _ w1_47) (fun _ h9 => h9) rfl d_D_areTooNear_31 ?_
      refine lv_iadd hx hb d_D_areTooNear_34 ?_
      refine lv_icmp_ge (tgt := 62) hx hb d_D_areTooNear_35 (by decide) (fun c35 => ?_) (fun c35 => ?_)
      · have c35 := c35
        have mc35 : ¬ ((F 5) (t)) < (((F 6) (u)) + (I 7)) := Int32.not_lt.mpr c35
        refine lv_iconst (v := 0) hx hb d_D_areTooNear_62 (by decide) ?_
        exact gp_rz hx hb hr hlocks (rfl) (by simp [gp_near, c5, nc5, c13, nc13, c35, mc35]) d_D_areTooNear_63
      · have c35 := c35
        have mc35 : ((F 5) (t)) < (((F 6) (u)) + (I 7)) := Int32.not_le.mp c35
        refine lv_aload_n hx hb d_D_areTooNear_38 rfl (lv_at hl 0 rfl) ?_
        refine va_get (D := E.1) (cl := gp_cl) (ci := 1) (v := .ref (E.2.2.2 8)) (C := R_D) (T := T_D) (N := 13) hx hb hts i_D hown hK hP 1 rfl rfl 5 (by decide) (hts _ w1_32) (fun _ h9 => h9) rfl d_D_areTooNear_39 ?_
        refine lv_iload_n hx hb d_D_areTooNear_42 rfl (lv_at hl 2 rfl) ?_
        refine gp_ald (f := (F 5)) (n := 6) hx hb hK hP 8 rfl (u) rfl (by omega) (by decide) d_D_areTooNear_43 ?_
        refine lv_aload_n hx hb d_D_areTooNear_44 rfl (lv_at hl 0 rfl) ?_
        refine va_get (D := E.1) (cl := gp_cl) (ci := 1) (v := .ref (E.2.2.2 9)) (C := R_D) (T := T_D) (N := 13) hx hb hts i_D hown hK hP 1 rfl rfl 6 (by decide) (hts _ w1_35) (fun _ h9 => h9) rfl d_D_areTooNear_45 ?_
        refine lv_iload_n hx hb d_D_areTooNear_48 rfl (lv_at hl 1 rfl) ?_
        refine gp_ald (f := (F 6)) (n := 6) hx hb hK hP 9 rfl (t) rfl (by omega) (by decide) d_D_areTooNear_49 ?_
        refine lv_aload_n hx hb d_D_areTooNear_50 rfl (lv_at hl 0 rfl) ?_
        refine va_get (D := E.1) (cl := gp_cl) (ci := 1) (v := .int (I 7)) (C := R_D) (T := T_D) (N := 13) hx hb hts i_D hown hK hP 1 rfl rfl 11 (by decide) (hts _ w1_47) (fun _ h9 => h9) rfl d_D_areTooNear_51 ?_
        refine lv_iadd hx hb d_D_areTooNear_54 ?_
        refine lv_icmp_ge (tgt := 62) hx hb d_D_areTooNear_55 (by decide) (fun c55 => ?_) (fun c55 => ?_)
        · have c55 := c55
          have mc55 : ¬ ((F 5) (u)) < (((F 6) (t)) + (I 7)) := Int32.not_lt.mpr c55
          refine lv_iconst (v := 0) hx hb d_D_areTooNear_62 (by decide) ?_
          exact gp_rz hx hb hr hlocks (rfl) (by simp [gp_near, c5, nc5, c13, nc13, c35, mc35, c55, mc55]) d_D_areTooNear_63
        · have c55 := c55
          have mc55 : ((F 5) (u)) < (((F 6) (t)) + (I 7)) := Int32.not_le.mp c55
          refine lv_iconst (v := 1) hx hb d_D_areTooNear_58 (by decide) ?_
          refine lv_goto (tgt := 63) hx hb d_D_areTooNear_59 (by decide) ?_
          exact gp_rz hx hb hr hlocks (rfl) (by simp [gp_near, c5, nc5, c13, nc13, c35, mc35, c55, mc55]) d_D_areTooNear_63
    · exact absurd c13 (by decide)
