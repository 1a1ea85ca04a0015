/-! ===== Search: what its methods answer and write ===== -/
abbrev gp_S : Type := (Nat → Int32) × (Nat → Nat → Int32)
def gp_us (x n : Int32) : Int32 := (x.toUInt32 >>> (n.toUInt32 &&& Int32.toUInt32 31)).toInt32
def gp_pop1 (x : Int32) : Int32 := x - (gp_us x 1 &&& 1431655765)
def gp_pop2 (a : Int32) : Int32 := (a &&& 858993459) + (gp_us a 2 &&& 858993459)
def gp_pop3 (b : Int32) : Int32 := (b + gp_us b 4) &&& 252645135
def gp_pop4 (c : Int32) : Int32 := c + gp_us c 8
def gp_pop5 (d : Int32) : Int32 := d + gp_us d 16
def gp_pop (x : Int32) : Int32 := gp_pop5 (gp_pop4 (gp_pop3 (gp_pop2 (gp_pop1 x)))) &&& 63
def gp_bit (x : Int32) : Int32 := 1 <<< ((if x = -1 then 4 else x) &&& 31)
def gp_bs (F : Nat → Nat → Int32) (ns t : Nat) : Nat → Int32
  | 0 => 0
  | k + 1 => if gp_suit F ns k t then gp_bs F ns t k ||| gp_bit (nI k) else gp_bs F ns t k
def gp_bn (I : Nat → Int32) (F : Nat → Nat → Int32) (t : Nat) : Nat → Int32
  | 0 => 0
  | k + 1 => if k = t then gp_bn I F t k else if gp_near I F k t then gp_bn I F t k ||| (1 <<< (nI k &&& 31)) else gp_bn I F t k
def gp_may (I : Nat → Int32) (F : Nat → Nat → Int32) (p t : Nat) : Bool := !decide (F 10 t &&& gp_bit (nI p) = 0) && decide (F 11 t &&& F 12 p = 0) && !decide (I 8 < F 13 p + (F 6 t - F 5 t))
def gp_wt (I : Nat → Int32) (f d a : Int32) : Int32 := if f = d then I 10 * a else I 10 * a + I 9
def gp_kt (nt : Nat) (sc : Int32) (σ : gp_S) : gp_S := (upd σ.1 11 sc, gp_uF σ.2 8 (fun j => if j < nt then σ.2 9 j else σ.2 8 j))
def gp_pp (rec : Int32 → gp_S → gp_S) (t p : Nat) (sc : Int32) (σ : gp_S) : gp_S :=
  let τ := rec (sc + gp_wt σ.1 (σ.2 14 t) (nI p) (2 * gp_pop (σ.2 12 p) + 1)) (σ.1, gp_uF (gp_uF (gp_uF σ.2 9 (upd (σ.2 9) t (nI p))) 12 (upd (σ.2 12) p (σ.2 12 p ||| (1 <<< (nI t &&& 31))))) 13 (upd (σ.2 13) p (σ.2 13 p + (σ.2 6 t - σ.2 5 t))))
  (τ.1, gp_uF (gp_uF τ.2 12 (upd (τ.2 12) p (τ.2 12 p &&& ((1 <<< (nI t &&& 31)) ^^^ (-1))))) 13 (upd (τ.2 13) p (τ.2 13 p - (τ.2 6 t - τ.2 5 t))))
def gp_lp (rec : Int32 → gp_S → gp_S) (t : Nat) (sc : Int32) (σ : gp_S) : Nat → gp_S
  | 0 => σ
  | p + 1 => if gp_may (gp_lp rec t sc σ p).1 (gp_lp rec t sc σ p).2 p t then gp_pp rec t p sc (gp_lp rec t sc σ p) else gp_lp rec t sc σ p
def gp_st (rec : Int32 → gp_S → gp_S) (np t : Nat) (sc : Int32) (σ : gp_S) : gp_S :=
  if (gp_lp rec t sc σ np).2 10 t &&& gp_bit (-1) = 0 then gp_lp rec t sc σ np
  else rec (sc + gp_wt (gp_lp rec t sc σ np).1 ((gp_lp rec t sc σ np).2 14 t) (-1) 100) ((gp_lp rec t sc σ np).1, gp_uF (gp_lp rec t sc σ np).2 9 (upd ((gp_lp rec t sc σ np).2 9) t (-1)))
def gp_pl (np nt : Nat) : Nat → Int32 → gp_S → gp_S
  | 0, sc, σ => if sc + σ.1 10 * (nI nt - nI nt) < σ.1 11 then gp_kt nt sc σ else σ
  | k + 1, sc, σ => if sc + σ.1 10 * (nI nt - nI (nt - (k + 1))) < σ.1 11 then gp_st (gp_pl np nt k) np (nt - (k + 1)) sc σ else σ
/-- what the search leaves as it is -/
def gp_kp (σ τ : gp_S) : Prop := (∀ i, i ≠ 11 → τ.1 i = σ.1 i) ∧ ∀ a, a ≠ 8 → a ≠ 9 → a ≠ 12 → a ≠ 13 → τ.2 a = σ.2 a
theorem gp_kp.rf {σ : gp_S} : gp_kp σ σ := ⟨fun _ _ => rfl, fun _ _ _ _ _ => rfl⟩
theorem gp_kp.tr {σ τ ρ : gp_S} (h : gp_kp σ τ) (h2 : gp_kp τ ρ) : gp_kp σ ρ := ⟨fun i hi => (h2.1 i hi).trans (h.1 i hi), fun a h8 h9 h12 h13 => (h2.2 a h8 h9 h12 h13).trans (h.2 a h8 h9 h12 h13)⟩
theorem gp_uF_ne {F : Nat → Nat → Int32} {a k : Nat} {g : Nat → Int32} (h : a ≠ k) : gp_uF F k g a = F a := by simp [gp_uF, h]
theorem gp_kt_kp {nt : Nat} {sc : Int32} {σ : gp_S} : gp_kp σ (gp_kt nt sc σ) := ⟨fun i hi => by simp [gp_kt, upd, hi], fun a h8 _ _ _ => gp_uF_ne h8⟩
theorem gp_pp_kp {rec : Int32 → gp_S → gp_S} (hk : ∀ sc σ, gp_kp σ (rec sc σ)) {t p : Nat} {sc : Int32} {σ : gp_S} : gp_kp σ (gp_pp rec t p sc σ) := by
  refine ⟨fun i hi => ?_, fun a h8 h9 h12 h13 => ?_⟩
  · exact (hk _ _).1 i hi
  · refine (gp_uF_ne h13).trans ((gp_uF_ne h12).trans (((hk _ _).2 a h8 h9 h12 h13).trans ?_))
    exact (gp_uF_ne h13).trans ((gp_uF_ne h12).trans (gp_uF_ne h9))
theorem gp_lp_kp {rec : Int32 → gp_S → gp_S} (hk : ∀ sc σ, gp_kp σ (rec sc σ)) {t : Nat} {sc : Int32} {σ : gp_S} : ∀ p, gp_kp σ (gp_lp rec t sc σ p) := by
  intro p
  induction p with
  | zero => exact gp_kp.rf
  | succ p ih =>
    rw [gp_lp]
    split
    · exact ih.tr (gp_pp_kp hk)
    · exact ih
theorem gp_st_kp {rec : Int32 → gp_S → gp_S} (hk : ∀ sc σ, gp_kp σ (rec sc σ)) {np t : Nat} {sc : Int32} {σ : gp_S} : gp_kp σ (gp_st rec np t sc σ) := by
  unfold gp_st
  split
  · exact gp_lp_kp hk np
  · have h1 : gp_kp σ (gp_lp rec t sc σ np) := gp_lp_kp hk np
    generalize gp_lp rec t sc σ np = τ at h1 ⊢
    refine h1.tr (gp_kp.tr (τ := (τ.1, gp_uF τ.2 9 (upd (τ.2 9) t (-1)))) ?_ (hk _ _))
    exact ⟨fun _ _ => rfl, fun a _ h9 _ _ => gp_uF_ne h9⟩
theorem gp_pl_kp {np nt : Nat} : ∀ k sc σ, gp_kp σ (gp_pl np nt k sc σ) := by
  intro k
  induction k with
  | zero =>
    intro sc σ
    rw [gp_pl]
    split
    · exact gp_kt_kp
    · exact gp_kp.rf
  | succ k ih =>
    intro sc σ
    rw [gp_pl]
    split
    · exact gp_st_kp ih
    · exact gp_kp.rf
theorem gp_cp0 {F : Nat → Nat → Int32} {a : Nat} {g : Nat → Int32} : gp_uF F a (fun j => if j < 0 then g j else F a j) = F := by
  funext j k
  by_cases h : j = a
  · subst h; simp [gp_uF]
  · simp [gp_uF, h]
theorem gp_up1 {h k : Nat → Int32} {t : Nat} {V : Int32} (hV : V = h t) : upd (fun j => if j < t then h j else k j) t V = (fun j => if j < t + 1 then h j else k j) := by
  funext j
  by_cases e : j = t
  · subst e; simp [upd, hV]
  · have e2 : (j < t + 1) = (j < t) := by apply propext; omega
    simp [upd, e, e2]
theorem gp_up2 {h k : Nat → Int32} {t : Nat} {V V0 : Int32} (hV : V = h t) : upd (upd (fun j => if j < t then h j else k j) t V0) t V = (fun j => if j < t + 1 then h j else k j) := by
  funext j
  by_cases e : j = t
  · subst e; simp [upd, hV]
  · have e2 : (j < t + 1) = (j < t) := by apply propext; omega
    simp [upd, e, e2]
theorem gp_F1 {F G : Nat → Nat → Int32} {a : Nat} {f : Nat → Int32} (h1 : G a = f) (h3 : ∀ c, c ≠ a → G c = F c) : G = gp_uF F a f := by
  funext c j
  by_cases e : c = a
  · subst e; simp [gp_uF, h1]
  · simp [gp_uF, e, h3 c e]
theorem gp_F2 {F G : Nat → Nat → Int32} {a b : Nat} {f g : Nat → Int32} (hab : a ≠ b) (h1 : G a = f) (h2 : G b = g) (h3 : ∀ c, c ≠ a → c ≠ b → G c = F c) : G = gp_uF (gp_uF F a f) b g := by
  funext c j
  by_cases e : c = b
  · subst e; simp [gp_uF, h2]
  · by_cases e2 : c = a
    · subst e2; simp [gp_uF, e, h1]
    · simp [gp_uF, e, e2, h3 c e2 e]
set_option maxHeartbeats 4000000 in
set_option maxRecDepth 100000 in
theorem c_J_bitCount (l : Launch) (E : gp_E) (I : Nat → Int32) (F : Nat → Nat → Int32) (x : Int32)  : gp_CR l y_J_bitCount b_J_bitCount 1 (some .int) 1 E (gp_wG E I F) [.int x] (gp_pop x) := by
  refine gp_ofR (by decide) (Nat.le_of_ble_eq_true rfl) ?_
  intro xp xe xs xm below meth xc ls hx hb hr hts hown hlocks hml hP hK hl
  have hown : xs.vm.findClass "java/lang/Integer" = some xm.cls := hown
  have hl : lv_has ls 1 [(0, .int x)] := hl
  refine lv_iload_n hx hb d_J_bitCount_0 rfl (lv_at hl 0 rfl) ?_
  refine lv_iload_n hx hb d_J_bitCount_1 rfl (lv_at hl 0 rfl) ?_
  refine lv_iconst (v := 1) hx hb d_J_bitCount_2 (by decide) ?_
  refine lv_iushr (v := (gp_us x 1)) hx hb d_J_bitCount_3 rfl ?_
  refine lv_ldcw (v := 1431655765) hx hb hown (hts _ w1_209) d_J_bitCount_4 ?_
  refine lv_iand hx hb d_J_bitCount_7 ?_
  refine lv_isub hx hb d_J_bitCount_8 ?_
  refine lv_topi (fun x1 ex1 => ?_)
  refine lv_istore_n (lv' := [(0, .int x1)]) hx hb d_J_bitCount_9 rfl hl (by decide) rfl (fun ls hl => ?_)
  refine lv_iload_n hx hb d_J_bitCount_10 rfl (lv_at hl 0 rfl) ?_
  refine lv_ldcw (v := 858993459) hx hb hown (hts _ w1_210) d_J_bitCount_11 ?_
  refine lv_iand hx hb d_J_bitCount_14 ?_
  refine lv_iload_n hx hb d_J_bitCount_15 rfl (lv_at hl 0 rfl) ?_
  refine lv_iconst (v := 2) hx hb d_J_bitCount_16 (by decide) ?_
  refine lv_iushr (v := (gp_us x1 2)) hx hb d_J_bitCount_17 rfl ?_
  refine lv_ldcw (v := 858993459) hx hb hown (hts _ w1_210) d_J_bitCount_18 ?_
  refine lv_iand hx hb d_J_bitCount_21 ?_
  refine lv_iadd hx hb d_J_bitCount_22 ?_
  refine lv_topi (fun x2 ex2 => ?_)
  refine lv_istore_n (lv' := [(0, .int x2)]) hx hb d_J_bitCount_23 rfl hl (by decide) rfl (fun ls hl => ?_)
  refine lv_iload_n hx hb d_J_bitCount_24 rfl (lv_at hl 0 rfl) ?_
  refine lv_iload_n hx hb d_J_bitCount_25 rfl (lv_at hl 0 rfl) ?_
  refine lv_iconst (v := 4) hx hb d_J_bitCount_26 (by decide) ?_
  refine lv_iushr (v := (gp_us x2 4)) hx hb d_J_bitCount_27 rfl ?_
  refine lv_iadd hx hb d_J_bitCount_28 ?_
  refine lv_ldcw (v := 252645135) hx hb hown (hts _ w1_211) d_J_bitCount_29 ?_
  refine lv_iand hx hb d_J_bitCount_32 ?_
  refine lv_topi (fun x3 ex3 => ?_)
  refine lv_istore_n (lv' := [(0, .int x3)]) hx hb d_J_bitCount_33 rfl hl (by decide) rfl (fun ls hl => ?_)
  refine lv_iload_n hx hb d_J_bitCount_34 rfl (lv_at hl 0 rfl) ?_
  refine lv_iload_n hx hb d_J_bitCount_35 rfl (lv_at hl 0 rfl) ?_
  refine lv_bipush (v := 8) hx hb d_J_bitCount_36 (by decide) ?_
  refine lv_iushr (v := (gp_us x3 8)) hx hb d_J_bitCount_38 rfl ?_
  refine lv_iadd hx hb d_J_bitCount_39 ?_
  refine lv_topi (fun x4 ex4 => ?_)
  refine lv_istore_n (lv' := [(0, .int x4)]) hx hb d_J_bitCount_40 rfl hl (by decide) rfl (fun ls hl => ?_)
  refine lv_iload_n hx hb d_J_bitCount_41 rfl (lv_at hl 0 rfl) ?_
  refine lv_iload_n hx hb d_J_bitCount_42 rfl (lv_at hl 0 rfl) ?_
  refine lv_bipush (v := 16) hx hb d_J_bitCount_43 (by decide) ?_
  refine lv_iushr (v := (gp_us x4 16)) hx hb d_J_bitCount_45 rfl ?_
  refine lv_iadd hx hb d_J_bitCount_46 ?_
  refine lv_topi (fun x5 ex5 => ?_)
  refine lv_istore_n (lv' := [(0, .int x5)]) hx hb d_J_bitCount_47 rfl hl (by decide) rfl (fun ls hl => ?_)
  refine lv_iload_n hx hb d_J_bitCount_48 rfl (lv_at hl 0 rfl) ?_
  refine lv_bipush (v := 63) hx hb d_J_bitCount_49 (by decide) ?_
  refine lv_iand hx hb d_J_bitCount_51 ?_
  exact gp_ri hx hb hr hlocks (by subst ex5; subst ex4; subst ex3; subst ex2; subst ex1; rfl) d_J_bitCount_52
set_option maxHeartbeats 4000000 in
set_option maxRecDepth 100000 in
theorem c_S_bitOf (l : Launch) (E : gp_E) (I : Nat → Int32) (F : Nat → Nat → Int32) (x : Int32)  : gp_CR l y_S_bitOf b_S_bitOf 2 (some .int) 1 E (gp_wG E I F) [.ref (E.2.2.2 2), .int x] (gp_bit x) := by
  refine gp_ofR (by decide) (Nat.le_of_ble_eq_true rfl) ?_
  intro xp xe xs xm below meth xc ls hx hb hr hts hown hlocks hml hP hK hl
  have hown : xs.vm.findClass "GuidePlans$Search" = some xm.cls := hown
  have hl : lv_has ls 2 [(0, .ref (E.2.2.2 2)), (1, .int x)] := hl
  refine lv_iconst (v := 1) hx hb d_S_bitOf_0 (by decide) ?_
  refine lv_iload_n hx hb d_S_bitOf_1 rfl (lv_at hl 1 rfl) ?_
  refine lv_iconst (v := (-1)) hx hb d_S_bitOf_2 (by decide) ?_
  refine lv_icmp_ne (tgt := 10) hx hb d_S_bitOf_3 (by decide) (fun c3 => ?_) (fun c3 => ?_)
  · have c3 := c3
    refine lv_iload_n hx hb d_S_bitOf_10 rfl (lv_at hl 1 rfl) ?_
    refine lv_ishl hx hb d_S_bitOf_11 ?_
    exact gp_ri hx hb hr hlocks (by simp [gp_bit, c3]) d_S_bitOf_12
  · have c3 := c3
    refine lv_iconst (v := 4) hx hb d_S_bitOf_6 (by decide) ?_
    refine lv_goto (tgt := 11) hx hb d_S_bitOf_7 (by decide) ?_
    refine lv_ishl hx hb d_S_bitOf_11 ?_
    exact gp_ri hx hb hr hlocks (by simp [gp_bit, c3]) d_S_bitOf_12
set_option maxHeartbeats 4000000 in
set_option maxRecDepth 100000 in
theorem c_S_bitsOfSuiting (l : Launch) (E : gp_E) (I : Nat → Int32) (F : Nat → Nat → Int32) (np nt ns t : Nat) (hp4 : I 4 = nI np) (hT : I 6 = nI nt) (hN : I 5 = nI ns) (hnp : np ≤ 4) (hnt : nt ≤ 6) (hns : ns ≤ 20) (ht : t < nt) : gp_CR l y_S_bitsOfSuiting b_S_bitsOfSuiting 5 (some .int) 3 E (gp_wG E I F) [.ref (E.2.2.2 2), .ref (E.2.2.2 1), .int (nI t)] (gp_bs F ns t np) := by
  refine gp_ofR (by decide) (Nat.le_of_ble_eq_true rfl) ?_
  intro xp xe xs xm below meth xc ls hx hb hr hts hown hlocks hml hP hK hl
  have hown : xs.vm.findClass "GuidePlans$Search" = some xm.cls := hown
  have hl : lv_has ls 5 [(0, .ref (E.2.2.2 2)), (1, .ref (E.2.2.2 1)), (2, .int (nI t))] := hl
  refine lv_iconst (v := 0) hx hb d_S_bitsOfSuiting_0 (by decide) ?_
  refine lv_istore_n (lv' := [(3, .int 0), (0, .ref (E.2.2.2 2)), (1, .ref (E.2.2.2 1)), (2, .int (nI t))]) hx hb d_S_bitsOfSuiting_1 rfl hl (by decide) rfl (fun ls hl => ?_)
  refine lv_iconst (v := 0) hx hb d_S_bitsOfSuiting_2 (by decide) ?_
  refine lv_istore (lv' := [(4, .int 0), (3, .int 0), (0, .ref (E.2.2.2 2)), (1, .ref (E.2.2.2 1)), (2, .int (nI t))]) hx hb d_S_bitsOfSuiting_3 hl (by decide) rfl (fun ls hl => ?_)
  have L5 : ∀ (n : Nat) (p : Nat), p ≤ np → np + 1 ≤ p + n → ∀ (ls : Array Slot), lv_has ls 5 [(4, .int (nI p)), (3, .int (gp_bs F ns t p)), (0, .ref (E.2.2.2 2)), (1, .ref (E.2.2.2 1)), (2, .int (nI t))] → W xp l xe (gp_rm 3 0 0) xs xm ([.ref (E.2.2.2 2), .ref (E.2.2.2 1), .int (nI t)] : List Value).toArray below meth xc xs.heap [] 0 0 (MQ below (QcRead (gp_bs F ns t np)) ([.ref (E.2.2.2 2), .ref (E.2.2.2 1), .int (nI t)] : List Value).toArray xs 0 0 (fun _ => False)) (F0 xm 5 ls []) := by
    intro n
    induction n with
    | zero =>
      intro p h1 hm
      exact absurd hm (by omega)
    | succ n ih5 =>
      intro p h1 hm ls hl
      refine lv_iload hx hb d_S_bitsOfSuiting_5 (lv_at hl 0 rfl) ?_
      refine lv_aload_n hx hb d_S_bitsOfSuiting_7 rfl (lv_at hl 3 rfl) ?_
      refine va_get (D := E.1) (cl := gp_cl) (ci := 1) (v := .int (nI np)) (C := R_D) (T := T_D) (N := 13) hx hb hts i_D hown hK hP 1 rfl rfl 8 (by decide) (hts _ w1_41) (fun _ h9 => h9) (congrArg (fun z => some (Value.int z)) hp4) d_S_bitsOfSuiting_8 ?_
      refine lv_icmp_ge (tgt := 39) hx hb d_S_bitsOfSuiting_11 (by decide) (fun c11 => ?_) (fun c11 => ?_)
      · have c11 := c11
        have nc11 : np ≤ p := (nI_leI (a := np) (b := p) (by omega) (by omega)).mp c11
        refine lv_iload_n hx hb d_S_bitsOfSuiting_39 rfl (lv_at hl 1 rfl) ?_
        exact gp_ri hx hb hr hlocks (by rw [show p = np by omega]) d_S_bitsOfSuiting_40
      · have c11 := c11
        have nc11 : ¬ np ≤ p := fun h => c11 ((nI_leI (a := np) (b := p) (by omega) (by omega)).mpr h)
        refine lv_aload_n hx hb d_S_bitsOfSuiting_14 rfl (lv_at hl 3 rfl) ?_
        refine lv_iload hx hb d_S_bitsOfSuiting_15 (lv_at hl 0 rfl) ?_
        refine lv_iload_n hx hb d_S_bitsOfSuiting_17 rfl (lv_at hl 4 rfl) ?_
        refine gp_cR (q0 := 1) (ci := 1) (As := [.int (nI p), .int (nI t)]) (rest := []) ⟨hx, hb, hml, hown, hts⟩ (c_D_suits l E I F np nt ns p t hp4 hT hN hnp hnt hns (by omega) ht) (k_S_75 hts ⟨by decide, by decide⟩ rfl rfl) hK hP rfl rfl rfl hl.1 rfl (Nat.le_of_ble_eq_true rfl) d_S_bitsOfSuiting_18 ⟨Nat.le_of_ble_eq_true rfl, Nat.le_of_ble_eq_true rfl⟩ ?_
        by_cases hs18 : gp_suit F ns p t = true
        · rw [if_pos hs18]
          refine lv_if_eq (tgt := 33) hx hb d_S_bitsOfSuiting_21 (by decide) (fun c21 => ?_) (fun c21 => ?_)
          · exact absurd c21 (by decide)
          · have c21 := c21
            have nc21 : ¬ 1 = 0 := fun h => c21 ((nI_eq (a := 1) (b := 0) (by omega) (by omega)).mpr h)
            refine lv_iload_n hx hb d_S_bitsOfSuiting_24 rfl (lv_at hl 1 rfl) ?_
            refine lv_aload_n hx hb d_S_bitsOfSuiting_25 rfl (lv_at hl 2 rfl) ?_
            refine lv_iload hx hb d_S_bitsOfSuiting_26 (lv_at hl 0 rfl) ?_
            refine gp_cR (q0 := 2) (ci := 2) (As := [.int (nI p)]) (rest := [.int (gp_bs F ns t p)]) ⟨hx, hb, hml, hown, hts⟩ (c_S_bitOf l E I F (nI p)) (k_S_57 hts ⟨by decide, by decide⟩ rfl rfl) hK hP rfl rfl rfl hl.1 rfl (Nat.le_of_ble_eq_true rfl) d_S_bitsOfSuiting_28 ⟨Nat.le_of_ble_eq_true rfl, Nat.le_of_ble_eq_true rfl⟩ ?_
            refine lv_ior hx hb d_S_bitsOfSuiting_31 ?_
            refine lv_istore_n (lv' := [(3, .int ((gp_bs F ns t p) ||| (gp_bit (nI p)))), (4, .int (nI p)), (0, .ref (E.2.2.2 2)), (1, .ref (E.2.2.2 1)), (2, .int (nI t))]) hx hb d_S_bitsOfSuiting_32 rfl hl (by decide) rfl (fun ls hl => ?_)
            refine lv_iinc (v := (nI (p + 1))) (lv' := [(4, .int (nI (p + 1))), (3, .int ((gp_bs F ns t p) ||| (gp_bit (nI p)))), (0, .ref (E.2.2.2 2)), (1, .ref (E.2.2.2 1)), (2, .int (nI t))]) hx hb d_S_bitsOfSuiting_33 hl (k := 1) rfl (nI_1 _) (by decide) rfl (fun ls hl => ?_)
            refine lv_goto (tgt := 5) hx hb d_S_bitsOfSuiting_36 (by decide) ?_
            rw [show ((gp_bs F ns t p) ||| (gp_bit (nI p))) = (gp_bs F ns t (p + 1)) from by simp [gp_bs, h1, c11, nc11, hs18, c21, nc21]] at hl
            exact ih5 (p + 1) (by omega) (by omega) ls (lv_sub hl [0, 1, 2, 3, 4] rfl)
        · rw [if_neg hs18]
          refine lv_if_eq (tgt := 33) hx hb d_S_bitsOfSuiting_21 (by decide) (fun c21 => ?_) (fun c21 => ?_)
          · have c21 := c21
            have nc21 : 0 = 0 := (nI_eq (a := 0) (b := 0) (by omega) (by omega)).mp c21
            refine lv_iinc (v := (nI (p + 1))) (lv' := [(4, .int (nI (p + 1))), (3, .int (gp_bs F ns t p)), (0, .ref (E.2.2.2 2)), (1, .ref (E.2.2.2 1)), (2, .int (nI t))]) hx hb d_S_bitsOfSuiting_33 hl (k := 0) rfl (nI_1 _) (by decide) rfl (fun ls hl => ?_)
            refine lv_goto (tgt := 5) hx hb d_S_bitsOfSuiting_36 (by decide) ?_
            rw [show (gp_bs F ns t p) = (gp_bs F ns t (p + 1)) from by simp [gp_bs, h1, c11, nc11, hs18, c21, nc21]] at hl
            exact ih5 (p + 1) (by omega) (by omega) ls (lv_sub hl [0, 1, 2, 3, 4] rfl)
          · exact absurd c21 (by decide)
  exact L5 (np + 1) 0 (Nat.zero_le _) (by omega) ls (lv_sub hl [0, 1, 2, 3, 4] rfl)
set_option maxHeartbeats 4000000 in
set_option maxRecDepth 100000 in
theorem c_S_bitsOfTooNear (l : Launch) (E : gp_E) (I : Nat → Int32) (F : Nat → Nat → Int32) (nt t : Nat) (hT : I 6 = nI nt) (hnt : nt ≤ 6) (ht : t < nt) : gp_CR l y_S_bitsOfTooNear b_S_bitsOfTooNear 5 (some .int) 3 E (gp_wG E I F) [.ref (E.2.2.2 2), .ref (E.2.2.2 1), .int (nI t)] (gp_bn I F t nt) := by
  refine gp_ofR (by decide) (Nat.le_of_ble_eq_true rfl) ?_
  intro xp xe xs xm below meth xc ls hx hb hr hts hown hlocks hml hP hK hl
  have hown : xs.vm.findClass "GuidePlans$Search" = some xm.cls := hown
  have hl : lv_has ls 5 [(0, .ref (E.2.2.2 2)), (1, .ref (E.2.2.2 1)), (2, .int (nI t))] := hl
  refine lv_iconst (v := 0) hx hb d_S_bitsOfTooNear_0 (by decide) ?_
  refine lv_istore_n (lv' := [(3, .int 0), (0, .ref (E.2.2.2 2)), (1, .ref (E.2.2.2 1)), (2, .int (nI t))]) hx hb d_S_bitsOfTooNear_1 rfl hl (by decide) rfl (fun ls hl => ?_)
  refine lv_iconst (v := 0) hx hb d_S_bitsOfTooNear_2 (by decide) ?_
  refine lv_istore (lv' := [(4, .int 0), (3, .int 0), (0, .ref (E.2.2.2 2)), (1, .ref (E.2.2.2 1)), (2, .int (nI t))]) hx hb d_S_bitsOfTooNear_3 hl (by decide) rfl (fun ls hl => ?_)
  have L5 : ∀ (n : Nat) (u : Nat), u ≤ nt → nt + 1 ≤ u + n → ∀ (ls : Array Slot), lv_has ls 5 [(4, .int (nI u)), (3, .int (gp_bn I F t u)), (0, .ref (E.2.2.2 2)), (1, .ref (E.2.2.2 1)), (2, .int (nI t))] → W xp l xe (gp_rm 3 0 0) xs xm ([.ref (E.2.2.2 2), .ref (E.2.2.2 1), .int (nI t)] : List Value).toArray below meth xc xs.heap [] 0 0 (MQ below (QcRead (gp_bn I F t nt)) ([.ref (E.2.2.2 2), .ref (E.2.2.2 1), .int (nI t)] : List Value).toArray xs 0 0 (fun _ => False)) (F0 xm 5 ls []) := by
    intro n
    induction n with
    | zero =>
      intro u h1 hm
      exact absurd hm (by omega)
    | succ n ih5 =>
      intro u h1 hm ls hl
      refine lv_iload hx hb d_S_bitsOfTooNear_5 (lv_at hl 0 rfl) ?_
      refine lv_aload_n hx hb d_S_bitsOfTooNear_7 rfl (lv_at hl 3 rfl) ?_
      refine va_get (D := E.1) (cl := gp_cl) (ci := 1) (v := .int (nI nt)) (C := R_D) (T := T_D) (N := 13) hx hb hts i_D hown hK hP 1 rfl rfl 10 (by decide) (hts _ w1_45) (fun _ h9 => h9) (congrArg (fun z => some (Value.int z)) hT) d_S_bitsOfTooNear_8 ?_
      refine lv_icmp_ge (tgt := 43) hx hb d_S_bitsOfTooNear_11 (by decide) (fun c11 => ?_) (fun c11 => ?_)
      · have c11 := c11
        have nc11 : nt ≤ u := (nI_leI (a := nt) (b := u) (by omega) (by omega)).mp c11
        refine lv_iload_n hx hb d_S_bitsOfTooNear_43 rfl (lv_at hl 1 rfl) ?_
        exact gp_ri hx hb hr hlocks (by rw [show u = nt by omega]) d_S_bitsOfTooNear_44
      · have c11 := c11
        have nc11 : ¬ nt ≤ u := fun h => c11 ((nI_leI (a := nt) (b := u) (by omega) (by omega)).mpr h)
        refine lv_iload hx hb d_S_bitsOfTooNear_14 (lv_at hl 0 rfl) ?_
        refine lv_iload_n hx hb d_S_bitsOfTooNear_16 rfl (lv_at hl 4 rfl) ?_
        refine lv_icmp_eq (tgt := 37) hx hb d_S_bitsOfTooNear_17 (by decide) (fun c17 => ?_) (fun c17 => ?_)
        · have c17 := c17
          have nc17 : u = t := (nI_eq (a := u) (b := t) (by omega) (by omega)).mp c17
          refine lv_iinc (v := (nI (u + 1))) (lv' := [(4, .int (nI (u + 1))), (3, .int (gp_bn I F t u)), (0, .ref (E.2.2.2 2)), (1, .ref (E.2.2.2 1)), (2, .int (nI t))]) hx hb d_S_bitsOfTooNear_37 hl (k := 0) rfl (nI_1 _) (by decide) rfl (fun ls hl => ?_)
          refine lv_goto (tgt := 5) hx hb d_S_bitsOfTooNear_40 (by decide) ?_
          rw [show (gp_bn I F t u) = (gp_bn I F t (u + 1)) from by simp [gp_bn, h1, c11, nc11, c17, nc17]] at hl
          exact ih5 (u + 1) (by omega) (by omega) ls (lv_sub hl [0, 1, 2, 3, 4] rfl)
        · have c17 := c17
          have nc17 : ¬ u = t := fun h => c17 ((nI_eq (a := u) (b := t) (by omega) (by omega)).mpr h)
          refine lv_aload_n hx hb d_S_bitsOfTooNear_20 rfl (lv_at hl 3 rfl) ?_
          refine lv_iload hx hb d_S_bitsOfTooNear_21 (lv_at hl 0 rfl) ?_
          refine lv_iload_n hx hb d_S_bitsOfTooNear_23 rfl (lv_at hl 4 rfl) ?_
          refine gp_cR (q0 := 1) (ci := 1) (As := [.int (nI u), .int (nI t)]) (rest := []) ⟨hx, hb, hml, hown, hts⟩ (c_D_areTooNear l E I F nt u t hT hnt (by omega) ht) (k_S_79 hts ⟨by decide, by decide⟩ rfl rfl) hK hP rfl rfl rfl hl.1 rfl (Nat.le_of_ble_eq_true rfl) d_S_bitsOfTooNear_24 ⟨Nat.le_of_ble_eq_true rfl, Nat.le_of_ble_eq_true rfl⟩ ?_
          by_cases hs24 : gp_near I F u t = true
          · rw [if_pos hs24]
            refine lv_if_eq (tgt := 37) hx hb d_S_bitsOfTooNear_27 (by decide) (fun c27 => ?_) (fun c27 => ?_)
            · exact absurd c27 (by decide)
            · have c27 := c27
              have nc27 : ¬ 1 = 0 := fun h => c27 ((nI_eq (a := 1) (b := 0) (by omega) (by omega)).mpr h)
              refine lv_iload_n hx hb d_S_bitsOfTooNear_30 rfl (lv_at hl 1 rfl) ?_
              refine lv_iconst (v := 1) hx hb d_S_bitsOfTooNear_31 (by decide) ?_
              refine lv_iload hx hb d_S_bitsOfTooNear_32 (lv_at hl 0 rfl) ?_
              refine lv_ishl hx hb d_S_bitsOfTooNear_34 ?_
              refine lv_ior hx hb d_S_bitsOfTooNear_35 ?_
              refine lv_istore_n (lv' := [(3, .int ((gp_bn I F t u) ||| (1 <<< ((nI u) &&& 31)))), (4, .int (nI u)), (0, .ref (E.2.2.2 2)), (1, .ref (E.2.2.2 1)), (2, .int (nI t))]) hx hb d_S_bitsOfTooNear_36 rfl hl (by decide) rfl (fun ls hl => ?_)
              refine lv_iinc (v := (nI (u + 1))) (lv' := [(4, .int (nI (u + 1))), (3, .int ((gp_bn I F t u) ||| (1 <<< ((nI u) &&& 31)))), (0, .ref (E.2.2.2 2)), (1, .ref (E.2.2.2 1)), (2, .int (nI t))]) hx hb d_S_bitsOfTooNear_37 hl (k := 1) rfl (nI_1 _) (by decide) rfl (fun ls hl => ?_)
              refine lv_goto (tgt := 5) hx hb d_S_bitsOfTooNear_40 (by decide) ?_
              rw [show ((gp_bn I F t u) ||| (1 <<< ((nI u) &&& 31))) = (gp_bn I F t (u + 1)) from by simp [gp_bn, h1, c11, nc11, c17, nc17, hs24, c27, nc27]] at hl
              exact ih5 (u + 1) (by omega) (by omega) ls (lv_sub hl [0, 1, 2, 3, 4] rfl)
          · rw [if_neg hs24]
            refine lv_if_eq (tgt := 37) hx hb d_S_bitsOfTooNear_27 (by decide) (fun c27 => ?_) (fun c27 => ?_)
            · have c27 := c27
              have nc27 : 0 = 0 := (nI_eq (a := 0) (b := 0) (by omega) (by omega)).mp c27
              refine lv_iinc (v := (nI (u + 1))) (lv' := [(4, .int (nI (u + 1))), (3, .int (gp_bn I F t u)), (0, .ref (E.2.2.2 2)), (1, .ref (E.2.2.2 1)), (2, .int (nI t))]) hx hb d_S_bitsOfTooNear_37 hl (k := 0) rfl (nI_1 _) (by decide) rfl (fun ls hl => ?_)
              refine lv_goto (tgt := 5) hx hb d_S_bitsOfTooNear_40 (by decide) ?_
              rw [show (gp_bn I F t u) = (gp_bn I F t (u + 1)) from by simp [gp_bn, h1, c11, nc11, c17, nc17, hs24, c27, nc27]] at hl
              exact ih5 (u + 1) (by omega) (by omega) ls (lv_sub hl [0, 1, 2, 3, 4] rfl)
            · exact absurd c27 (by decide)
  exact L5 (nt + 1) 0 (Nat.zero_le _) (by omega) ls (lv_sub hl [0, 1, 2, 3, 4] rfl)
set_option maxHeartbeats 4000000 in
set_option maxRecDepth 100000 in
theorem c_S_mayTake (l : Launch) (E : gp_E) (I : Nat → Int32) (F : Nat → Nat → Int32) (nt p t : Nat) (hT : I 6 = nI nt) (hnt : nt ≤ 6) (ht : t < nt) (hp : p < 4) : gp_CR l y_S_mayTake b_S_mayTake 4 (some .boolean) 3 E (gp_wG E I F) [.ref (E.2.2.2 2), .ref (E.2.2.2 1), .int (nI p), .int (nI t)] (if gp_may I F p t then 1 else 0) := by
  refine gp_ofR (by decide) (Nat.le_of_ble_eq_true rfl) ?_
  intro xp xe xs xm below meth xc ls hx hb hr hts hown hlocks hml hP hK hl
  have hown : xs.vm.findClass "GuidePlans$Search" = some xm.cls := hown
  have hl : lv_has ls 4 [(0, .ref (E.2.2.2 2)), (1, .ref (E.2.2.2 1)), (2, .int (nI p)), (3, .int (nI t))] := hl
  refine lv_aload_n hx hb d_S_mayTake_0 rfl (lv_at hl 0 rfl) ?_
  refine va_get (D := E.1) (cl := gp_cl) (ci := 2) (v := .ref (E.2.2.2 13)) (C := R_S) (T := T_S) (N := 9) hx hb hts i_S hown hK hP 2 rfl rfl 2 (by decide) (hts _ w1_91) (fun _ h9 => h9) rfl d_S_mayTake_1 ?_
  refine lv_iload_n hx hb d_S_mayTake_4 rfl (lv_at hl 3 rfl) ?_
  refine gp_ald (f := (F 10)) (n := 6) hx hb hK hP 13 rfl (t) rfl (by omega) (by decide) d_S_mayTake_5 ?_
  refine lv_aload_n hx hb d_S_mayTake_6 rfl (lv_at hl 0 rfl) ?_
  refine lv_iload_n hx hb d_S_mayTake_7 rfl (lv_at hl 2 rfl) ?_
  refine gp_cR (q0 := 2) (ci := 2) (As := [.int (nI p)]) (rest := [.int ((F 10) (t))]) ⟨hx, hb, hml, hown, hts⟩ (c_S_bitOf l E I F (nI p)) (k_S_57 hts ⟨by decide, by decide⟩ rfl rfl) hK hP rfl rfl rfl hl.1 rfl (Nat.le_of_ble_eq_true rfl) d_S_mayTake_8 ⟨Nat.le_of_ble_eq_true rfl, Nat.le_of_ble_eq_true rfl⟩ ?_
  refine lv_iand hx hb d_S_mayTake_11 ?_
  refine lv_if_eq (tgt := 54) hx hb d_S_mayTake_12 (by decide) (fun c12 => ?_) (fun c12 => ?_)
  · have c12 := c12
    refine lv_iconst (v := 0) hx hb d_S_mayTake_54 (by decide) ?_
    exact gp_rz hx hb hr hlocks (rfl) (by simp [gp_may, c12]) d_S_mayTake_55
  · have c12 := c12
    refine lv_aload_n hx hb d_S_mayTake_15 rfl (lv_at hl 0 rfl) ?_
    refine va_get (D := E.1) (cl := gp_cl) (ci := 2) (v := .ref (E.2.2.2 14)) (C := R_S) (T := T_S) (N := 9) hx hb hts i_S hown hK hP 2 rfl rfl 3 (by decide) (hts _ w1_92) (fun _ h9 => h9) rfl d_S_mayTake_16 ?_
    refine lv_iload_n hx hb d_S_mayTake_19 rfl (lv_at hl 3 rfl) ?_
    refine gp_ald (f := (F 11)) (n := 6) hx hb hK hP 14 rfl (t) rfl (by omega) (by decide) d_S_mayTake_20 ?_
    refine lv_aload_n hx hb d_S_mayTake_21 rfl (lv_at hl 0 rfl) ?_
    refine va_get (D := E.1) (cl := gp_cl) (ci := 2) (v := .ref (E.2.2.2 15)) (C := R_S) (T := T_S) (N := 9) hx hb hts i_S hown hK hP 2 rfl rfl 4 (by decide) (hts _ w1_93) (fun _ h9 => h9) rfl d_S_mayTake_22 ?_
    refine lv_iload_n hx hb d_S_mayTake_25 rfl (lv_at hl 2 rfl) ?_
    refine gp_ald (f := (F 12)) (n := 4) hx hb hK hP 15 rfl (p) rfl (by omega) (by decide) d_S_mayTake_26 ?_
    refine lv_iand hx hb d_S_mayTake_27 ?_
    refine lv_if_ne (tgt := 54) hx hb d_S_mayTake_28 (by decide) (fun c28 => ?_) (fun c28 => ?_)
    · have c28 := c28
      refine lv_iconst (v := 0) hx hb d_S_mayTake_54 (by decide) ?_
      exact gp_rz hx hb hr hlocks (rfl) (by simp [gp_may, c12, c28]) d_S_mayTake_55
    · have c28 := c28
      refine lv_aload_n hx hb d_S_mayTake_31 rfl (lv_at hl 0 rfl) ?_
      refine va_get (D := E.1) (cl := gp_cl) (ci := 2) (v := .ref (E.2.2.2 16)) (C := R_S) (T := T_S) (N := 9) hx hb hts i_S hown hK hP 2 rfl rfl 5 (by decide) (hts _ w1_94) (fun _ h9 => h9) rfl d_S_mayTake_32 ?_
      refine lv_iload_n hx hb d_S_mayTake_35 rfl (lv_at hl 2 rfl) ?_
      refine gp_ald (f := (F 13)) (n := 4) hx hb hK hP 16 rfl (p) rfl (by omega) (by decide) d_S_mayTake_36 ?_
      refine lv_aload_n hx hb d_S_mayTake_37 rfl (lv_at hl 1 rfl) ?_
      refine lv_iload_n hx hb d_S_mayTake_38 rfl (lv_at hl 3 rfl) ?_
      refine gp_cR (q0 := 1) (ci := 1) (As := [.int (nI t)]) (rest := [.int ((F 13) (p))]) ⟨hx, hb, hml, hown, hts⟩ (c_D_lengthOf l E I F nt t hT hnt ht) (k_S_98 hts ⟨by decide, by decide⟩ rfl rfl) hK hP rfl rfl rfl hl.1 rfl (Nat.le_of_ble_eq_true rfl) d_S_mayTake_39 ⟨Nat.le_of_ble_eq_true rfl, Nat.le_of_ble_eq_true rfl⟩ ?_
      refine lv_iadd hx hb d_S_mayTake_42 ?_
      refine lv_aload_n hx hb d_S_mayTake_43 rfl (lv_at hl 1 rfl) ?_
      refine va_get (D := E.1) (cl := gp_cl) (ci := 1) (v := .int (I 8)) (C := R_D) (T := T_D) (N := 13) hx hb hts i_D hown hK hP 1 rfl rfl 12 (by decide) (hts _ w1_51) (fun _ h9 => h9) rfl d_S_mayTake_44 ?_
      refine lv_icmp_gt (tgt := 54) hx hb d_S_mayTake_47 (by decide) (fun c47 => ?_) (fun c47 => ?_)
      · have c47 := c47
        have mc47 : ¬ (((F 13) (p)) + (F 6 t - F 5 t)) ≤ (I 8) := Int32.not_le.mpr c47
        refine lv_iconst (v := 0) hx hb d_S_mayTake_54 (by decide) ?_
        exact gp_rz hx hb hr hlocks (rfl) (by simp [gp_may, c12, c28, c47, mc47]) d_S_mayTake_55
      · have c47 := c47
        have mc47 : (((F 13) (p)) + (F 6 t - F 5 t)) ≤ (I 8) := Int32.not_lt.mp c47
        refine lv_iconst (v := 1) hx hb d_S_mayTake_50 (by decide) ?_
        refine lv_goto (tgt := 55) hx hb d_S_mayTake_51 (by decide) ?_
        exact gp_rz hx hb hr hlocks (rfl) (by simp [gp_may, c12, c28, c47, mc47]) d_S_mayTake_55
set_option maxHeartbeats 4000000 in
set_option maxRecDepth 100000 in
theorem c_S_weightOf (l : Launch) (E : gp_E) (I : Nat → Int32) (F : Nat → Nat → Int32) (f d a : Int32)  : gp_CR l y_S_weightOf b_S_weightOf 5 (some .int) 1 E (gp_wG E I F) [.ref (E.2.2.2 2), .int f, .int d, .int a] (gp_wt I f d a) := by
  refine gp_ofR (by decide) (Nat.le_of_ble_eq_true rfl) ?_
  intro xp xe xs xm below meth xc ls hx hb hr hts hown hlocks hml hP hK hl
  have hown : xs.vm.findClass "GuidePlans$Search" = some xm.cls := hown
  have hl : lv_has ls 5 [(0, .ref (E.2.2.2 2)), (1, .int f), (2, .int d), (3, .int a)] := hl
  refine lv_aload_n hx hb d_S_weightOf_0 rfl (lv_at hl 0 rfl) ?_
  refine va_get (D := E.1) (cl := gp_cl) (ci := 2) (v := .int (I 10)) (C := R_S) (T := T_S) (N := 9) hx hb hts i_S hown hK hP 2 rfl rfl 7 (by decide) (hts _ w1_96) (fun _ h9 => h9) rfl d_S_weightOf_1 ?_
  refine lv_iload_n hx hb d_S_weightOf_4 rfl (lv_at hl 3 rfl) ?_
  refine lv_imul hx hb d_S_weightOf_5 ?_
  refine lv_istore (lv' := [(4, .int ((I 10) * a)), (0, .ref (E.2.2.2 2)), (1, .int f), (2, .int d), (3, .int a)]) hx hb d_S_weightOf_6 hl (by decide) rfl (fun ls hl => ?_)
  refine lv_iload_n hx hb d_S_weightOf_8 rfl (lv_at hl 2 rfl) ?_
  refine lv_iload_n hx hb d_S_weightOf_9 rfl (lv_at hl 3 rfl) ?_
  refine lv_icmp_ne (tgt := 18) hx hb d_S_weightOf_10 (by decide) (fun c10 => ?_) (fun c10 => ?_)
  · have c10 := c10
    refine lv_iload hx hb d_S_weightOf_18 (lv_at hl 0 rfl) ?_
    refine lv_aload_n hx hb d_S_weightOf_20 rfl (lv_at hl 1 rfl) ?_
    refine va_get (D := E.1) (cl := gp_cl) (ci := 2) (v := .int (I 9)) (C := R_S) (T := T_S) (N := 9) hx hb hts i_S hown hK hP 2 rfl rfl 6 (by decide) (hts _ w1_95) (fun _ h9 => h9) rfl d_S_weightOf_21 ?_
    refine lv_iadd hx hb d_S_weightOf_24 ?_
    exact gp_ri hx hb hr hlocks (by simp [gp_wt, c10]) d_S_weightOf_25
  · have c10 := c10
    refine lv_iload hx hb d_S_weightOf_13 (lv_at hl 0 rfl) ?_
    refine lv_goto (tgt := 25) hx hb d_S_weightOf_15 (by decide) ?_
    exact gp_ri hx hb hr hlocks (by simp [gp_wt, c10]) d_S_weightOf_25
