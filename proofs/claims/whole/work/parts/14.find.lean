/-! ===== Search: find, findAnew, findNearest, firstLacking ===== -/
def gp_c0 (F : Nat → Nat → Int32) (ns np : Nat) (fr : Int32) (t : Nat) : Int32 := if fr ≤ F 5 t then gp_bs F ns t np ||| gp_bit (-1) else gp_bit (F 14 t)
def gp_ch (F : Nat → Nat → Int32) (ns np : Nat) (fr : Int32) (mb t : Nat) : Int32 := if F 7 t = 0 then gp_c0 F ns np fr t else if t < mb then gp_c0 F ns np fr t &&& (gp_bit (-1) ^^^ (-1)) else gp_c0 F ns np fr t
def gp_fd (np nt ns : Nat) (fr : Int32) (mb : Nat) (σ : gp_S) : gp_S := gp_pl np nt nt 0 (upd σ.1 11 1000000, gp_uF (gp_uF (gp_uF (gp_uF σ.2 10 (fun j => if j < nt then gp_ch σ.2 ns np fr mb j else σ.2 10 j)) 11 (fun j => if j < nt then gp_bn σ.1 σ.2 j nt else σ.2 11 j)) 12 (fun j => if j < 4 then 0 else σ.2 12 j)) 13 (fun j => if j < 4 then 0 else σ.2 13 j))
def gp_kq (σ τ : gp_S) : Prop := (∀ i, i ≠ 11 → τ.1 i = σ.1 i) ∧ (∀ a, a < 8 → τ.2 a = σ.2 a) ∧ ∀ a, 13 < a → τ.2 a = σ.2 a
theorem gp_fd_kq {np nt ns : Nat} {fr : Int32} {mb : Nat} {σ : gp_S} : gp_kq σ (gp_fd np nt ns fr mb σ) := by
  have h := gp_pl_kp (np := np) (nt := nt) nt 0 (upd σ.1 11 1000000, gp_uF (gp_uF (gp_uF (gp_uF σ.2 10 (fun j => if j < nt then gp_ch σ.2 ns np fr mb j else σ.2 10 j)) 11 (fun j => if j < nt then gp_bn σ.1 σ.2 j nt else σ.2 11 j)) 12 (fun j => if j < 4 then 0 else σ.2 12 j)) 13 (fun j => if j < 4 then 0 else σ.2 13 j))
  refine ⟨fun i hi => (h.1 i hi).trans (by simp [upd, hi]), fun a ha => (h.2 a (by omega) (by omega) (by omega) (by omega)).trans ?_, fun a ha => (h.2 a (by omega) (by omega) (by omega) (by omega)).trans ?_⟩
  · exact (gp_uF_ne (by omega)).trans ((gp_uF_ne (by omega)).trans ((gp_uF_ne (by omega)).trans (gp_uF_ne (by omega))))
  · exact (gp_uF_ne (by omega)).trans ((gp_uF_ne (by omega)).trans ((gp_uF_ne (by omega)).trans (gp_uF_ne (by omega))))
theorem gp_of1_c {F G : Nat → Nat → Int32} (h : ∀ a, a < 8 → G a = F a) (p : Int32) (t s : Nat) : gp_of1 G p t s = gp_of1 F p t s := by
  simp only [gp_of1, h 1 (by omega), h 2 (by omega), h 3 (by omega), h 5 (by omega), h 6 (by omega)]
theorem gp_ofN_c {F G : Nat → Nat → Int32} (h : ∀ a, a < 8 → G a = F a) (p : Int32) (t : Nat) : ∀ k, gp_ofN G p t k = gp_ofN F p t k := by
  intro k
  induction k with
  | zero => rfl
  | succ k ih => simp only [gp_ofN, ih, gp_of1_c h]
theorem gp_suit_c {F G : Nat → Nat → Int32} (h : ∀ a, a < 8 → G a = F a) (ns p t : Nat) : gp_suit G ns p t = gp_suit F ns p t := by
  simp only [gp_suit, h 0 (by omega), h 4 (by omega), gp_ofN_c h]
theorem gp_bs_c {F G : Nat → Nat → Int32} (h : ∀ a, a < 8 → G a = F a) (ns t : Nat) : ∀ k, gp_bs G ns t k = gp_bs F ns t k := by
  intro k
  induction k with
  | zero => rfl
  | succ k ih => simp only [gp_bs, ih, gp_suit_c h]
theorem gp_near_c {I J : Nat → Int32} {F G : Nat → Nat → Int32} (hI : J 7 = I 7) (h : ∀ a, a < 8 → G a = F a) (t u : Nat) : gp_near J G t u = gp_near I F t u := by
  simp only [gp_near, hI, h 5 (by omega), h 6 (by omega)]
theorem gp_bn_c {I J : Nat → Int32} {F G : Nat → Nat → Int32} (hI : J 7 = I 7) (h : ∀ a, a < 8 → G a = F a) (t : Nat) : ∀ k, gp_bn J G t k = gp_bn I F t k := by
  intro k
  induction k with
  | zero => rfl
  | succ k ih => simp only [gp_bn, ih, gp_near_c hI h]
theorem c_S_bitsOfSuitingF (l : Launch) (E : gp_E) (I : Nat → Int32) (F G : Nat → Nat → Int32) (np nt ns t : Nat) (h : ∀ a, a < 8 → G a = F a) (hp4 : I 4 = nI np) (hT : I 6 = nI nt) (hN : I 5 = nI ns) (hnp : np ≤ 4) (hnt : nt ≤ 6) (hns : ns ≤ 20) (ht : t < nt) : gp_CR l y_S_bitsOfSuiting b_S_bitsOfSuiting 5 (some .int) 3 E (gp_wG E I G) [.ref (E.2.2.2 2), .ref (E.2.2.2 1), .int (nI t)] (gp_bs F ns t np) := by
  rw [← gp_bs_c h]
  exact c_S_bitsOfSuiting l E I G np nt ns t hp4 hT hN hnp hnt hns ht
theorem c_S_bitsOfTooNearF (l : Launch) (E : gp_E) (I : Nat → Int32) (F G : Nat → Nat → Int32) (nt t : Nat) (h : ∀ a, a < 8 → G a = F a) (hT : I 6 = nI nt) (hnt : nt ≤ 6) (ht : t < nt) : gp_CR l y_S_bitsOfTooNear b_S_bitsOfTooNear 5 (some .int) 3 E (gp_wG E I G) [.ref (E.2.2.2 2), .ref (E.2.2.2 1), .int (nI t)] (gp_bn I F t nt) := by
  rw [← gp_bn_c (I := I) rfl h]
  exact c_S_bitsOfTooNear l E I G nt t hT hnt ht
/-- from place t on, with k places left: what is answered, and the state -/
def gp_fl (np nt ns : Nat) (fr : Int32) : Nat → Nat → gp_S → Int32 × gp_S
  | 0, _, σ => (-1, σ)
  | k + 1, t, σ => if σ.2 7 t = 0 then gp_fl np nt ns fr k (t + 1) σ else if (gp_fd np nt ns fr (t + 1) σ).1 11 < 1000000 then gp_fl np nt ns fr k (t + 1) (gp_fd np nt ns fr (t + 1) σ) else (σ.2 5 t, gp_fd np nt ns fr (t + 1) σ)
set_option maxHeartbeats 4000000 in
set_option maxRecDepth 100000 in
theorem c_S_find (l : Launch) (E : gp_E) (I : Nat → Int32) (F : Nat → Nat → Int32) (np nt ns mb : Nat) (fr : Int32) (hp4 : I 4 = nI np) (hT : I 6 = nI nt) (hN : I 5 = nI ns) (hnp : np ≤ 4) (hnt : nt ≤ 6) (hns : ns ≤ 20) (hmb : mb ≤ 6) : gp_CW l y_S_find b_S_find 8 (some .boolean) 17 E (gp_wG E I F) (gp_wG E (gp_fd np nt ns fr mb (I, F)).1 (gp_fd np nt ns fr mb (I, F)).2) [.ref (E.2.2.2 2), .ref (E.2.2.2 1), .ref (E.2.2.2 17), .int fr, .int (nI mb)] (some (.int (if (gp_fd np nt ns fr mb (I, F)).1 11 < 1000000 then 1 else 0))) := by
  refine gp_ofW (by decide) (Nat.le_of_ble_eq_true rfl) ?_
  intro xp xe xs xm below meth xc ls A hx hb hr hts hown hlocks hml hP hK hD hA hAe hl
  have hS : va_S A xs.heap xs.heap [] := va_S.rf
  have hown : xs.vm.findClass "GuidePlans$Search" = some xm.cls := hown
  have hl : lv_has ls 8 [(0, .ref (E.2.2.2 2)), (1, .ref (E.2.2.2 1)), (2, .ref (E.2.2.2 17)), (3, .int fr), (4, .int (nI mb))] := hl
  refine lv_iconst (v := 0) hx hb d_S_find_0 (by decide) ?_
  refine lv_istore (lv' := [(5, .int 0), (0, .ref (E.2.2.2 2)), (1, .ref (E.2.2.2 1)), (2, .ref (E.2.2.2 17)), (3, .int fr), (4, .int (nI mb))]) hx hb d_S_find_1 hl (by decide) rfl (fun ls hl => ?_)
  have L3 : ∀ (n : Nat) (t : Nat), t ≤ nt → nt + 1 ≤ t + n → ∀ (ls : Array Slot) (H : Heap) (locs : List Loc), lv_has ls 8 [(5, .int (nI t)), (0, .ref (E.2.2.2 2)), (1, .ref (E.2.2.2 1)), (2, .ref (E.2.2.2 17)), (3, .int fr), (4, .int (nI mb))] → va_P E.1 gp_cl (gp_wG E I (gp_uF (gp_uF F 10 (fun j => if j < t then gp_ch F ns np fr mb j else F 10 j)) 11 (fun j => if j < t then gp_bn I F j nt else F 11 j))) H → va_D A (gp_wG E I (gp_uF (gp_uF F 10 (fun j => if j < t then gp_ch F ns np fr mb j else F 10 j)) 11 (fun j => if j < t then gp_bn I F j nt else F 11 j))) → va_S A xs.heap H locs → W xp l xe (gp_rm 17 0 0) xs xm ([.ref (E.2.2.2 2), .ref (E.2.2.2 1), .ref (E.2.2.2 17), .int fr, .int (nI mb)] : List Value).toArray below meth xc H locs 0 0 (MQ below (gp_QW E (some (.int (if (gp_fd np nt ns fr mb (I, F)).1 11 < 1000000 then 1 else 0))) (gp_wG E I F) (gp_wG E (gp_fd np nt ns fr mb (I, F)).1 (gp_fd np nt ns fr mb (I, F)).2) xs.heap.size) ([.ref (E.2.2.2 2), .ref (E.2.2.2 1), .ref (E.2.2.2 17), .int fr, .int (nI mb)] : List Value).toArray xs 0 0 A) (F0 xm 3 ls []) := by
    intro n
    induction n with
    | zero =>
      intro t h1 hm
      exact absurd hm (by omega)
    | succ n ih3 =>
      intro t h1 hm ls H locs hl hP hD hS
      refine lv_iload hx hb d_S_find_3 (lv_at hl 0 rfl) ?_
      refine lv_aload_n hx hb d_S_find_5 rfl (lv_at hl 2 rfl) ?_
      refine va_get (D := E.1) (cl := gp_cl) (ci := 1) (v := .int (nI nt)) (C := R_D) (T := T_D) (N := 13) hx hb hts i_D hown hK hP 1 rfl rfl 10 (by decide) (hts _ w1_45) (fun _ h9 => h9) (congrArg (fun z => some (Value.int z)) hT) d_S_find_6 ?_
      refine lv_icmp_ge (tgt := 132) hx hb d_S_find_9 (by decide) (fun c9 => ?_) (fun c9 => ?_)
      · have c9 := c9
        have nc9 : nt ≤ t := (nI_leI (a := nt) (b := t) (by omega) (by omega)).mp c9
        have hte : nt = t := by omega
        subst hte
        refine lv_iconst (v := 0) hx hb d_S_find_132 (by decide) ?_
        refine lv_istore (lv' := [(5, .int 0), (0, .ref (E.2.2.2 2)), (1, .ref (E.2.2.2 1)), (2, .ref (E.2.2.2 17)), (3, .int fr), (4, .int (nI mb))]) hx hb d_S_find_133 hl (by decide) rfl (fun ls hl => ?_)
        have L135 : ∀ (n : Nat) (p : Nat), p ≤ 4 → 5 ≤ p + n → ∀ (ls : Array Slot) (H : Heap) (locs : List Loc), lv_has ls 8 [(5, .int (nI p)), (0, .ref (E.2.2.2 2)), (1, .ref (E.2.2.2 1)), (2, .ref (E.2.2.2 17)), (3, .int fr), (4, .int (nI mb))] → va_P E.1 gp_cl (gp_wG E I (gp_uF (gp_uF (gp_uF (gp_uF F 10 (fun j => if j < nt then gp_ch F ns np fr mb j else F 10 j)) 11 (fun j => if j < nt then gp_bn I F j nt else F 11 j)) 12 (fun j => if j < p then 0 else F 12 j)) 13 (fun j => if j < p then 0 else F 13 j))) H → va_D A (gp_wG E I (gp_uF (gp_uF (gp_uF (gp_uF F 10 (fun j => if j < nt then gp_ch F ns np fr mb j else F 10 j)) 11 (fun j => if j < nt then gp_bn I F j nt else F 11 j)) 12 (fun j => if j < p then 0 else F 12 j)) 13 (fun j => if j < p then 0 else F 13 j))) → va_S A xs.heap H locs → W xp l xe (gp_rm 17 0 0) xs xm ([.ref (E.2.2.2 2), .ref (E.2.2.2 1), .ref (E.2.2.2 17), .int fr, .int (nI mb)] : List Value).toArray below meth xc H locs 0 0 (MQ below (gp_QW E (some (.int (if (gp_fd np nt ns fr mb (I, F)).1 11 < 1000000 then 1 else 0))) (gp_wG E I F) (gp_wG E (gp_fd np nt ns fr mb (I, F)).1 (gp_fd np nt ns fr mb (I, F)).2) xs.heap.size) ([.ref (E.2.2.2 2), .ref (E.2.2.2 1), .ref (E.2.2.2 17), .int fr, .int (nI mb)] : List Value).toArray xs 0 0 A) (F0 xm 135 ls []) := by
          intro n
          induction n with
          | zero =>
            intro p h1 hm
            exact absurd hm (by omega)
          | succ n ih135 =>
            intro p h1 hm ls H locs hl hP hD hS
            refine lv_iload hx hb d_S_find_135 (lv_at hl 0 rfl) ?_
            refine lv_iconst (v := 4) hx hb d_S_find_137 (by decide) ?_
            refine lv_icmp_ge (tgt := 163) hx hb d_S_find_138 (by decide) (fun c138 => ?_) (fun c138 => ?_)
            · have c138 := c138
              have nc138 : 4 ≤ p := (nI_leI (a := 4) (b := p) (by omega) (by omega)).mp c138
              have hpe : p = 4 := by omega
              subst hpe
              refine lv_aload_n hx hb d_S_find_163 rfl (lv_at hl 1 rfl) ?_
              refine lv_ldc (v := 1000000) hx hb hown (hts _ w1_87) d_S_find_164 ?_
              refine va_put (D := E.1) (cl := gp_cl) (ci := 2) (v := .int 1000000) (ty := .int) (C := R_S) (T := T_S) (N := 9) hx hb hts i_S t_S t_S_ok n_S hown hK hP hD hS 2 rfl rfl 8 (by decide) (hts _ w1_97) (fun _ h9 => h9) rfl (by decide +kernel) rfl rfl (Nat.le_of_ble_eq_true rfl) d_S_find_166 (fun H locs hP hD hS => ?_)
              have hP : va_P E.1 gp_cl (gp_wG E (upd I 11 1000000) (gp_uF (gp_uF (gp_uF (gp_uF F 10 (fun j => if j < nt then gp_ch F ns np fr mb j else F 10 j)) 11 (fun j => if j < nt then gp_bn I F j nt else F 11 j)) 12 (fun j => if j < 4 then 0 else F 12 j)) 13 (fun j => if j < 4 then 0 else F 13 j))) H := hP
              have hD : va_D A (gp_wG E (upd I 11 1000000) (gp_uF (gp_uF (gp_uF (gp_uF F 10 (fun j => if j < nt then gp_ch F ns np fr mb j else F 10 j)) 11 (fun j => if j < nt then gp_bn I F j nt else F 11 j)) 12 (fun j => if j < 4 then 0 else F 12 j)) 13 (fun j => if j < 4 then 0 else F 13 j))) := hD
              refine lv_aload_n hx hb d_S_find_169 rfl (lv_at hl 1 rfl) ?_
              refine lv_aload_n hx hb d_S_find_170 rfl (lv_at hl 2 rfl) ?_
              refine lv_aload_n hx hb d_S_find_171 rfl (lv_at hl 3 rfl) ?_
              refine lv_iconst (v := 0) hx hb d_S_find_172 (by decide) ?_
              refine lv_iconst (v := 0) hx hb d_S_find_173 (by decide) ?_
              refine gp_cW (q0 := 2) (ci := 2) (As := [.ref (E.2.2.2 1), .ref (E.2.2.2 17), .int 0, .int 0]) (rest := []) ⟨hx, hb, hml, hown, hts⟩ (c_S_place l E np nt hnp hnt nt 0 (by omega) (upd I 11 1000000) (gp_uF (gp_uF (gp_uF (gp_uF F 10 (fun j => if j < nt then gp_ch F ns np fr mb j else F 10 j)) 11 (fun j => if j < nt then gp_bn I F j nt else F 11 j)) 12 (fun j => if j < 4 then 0 else F 12 j)) 13 (fun j => if j < 4 then 0 else F 13 j)) 0 hp4 hT) (k_S_68 hts ⟨by dsimp only [gp_rm]; omega, by dsimp only [gp_rm]; omega⟩ rfl rfl) hK hP hD hS hA rfl rfl rfl rfl hl.1 rfl (Nat.le_of_ble_eq_true rfl) d_S_find_174 ⟨Nat.le_of_ble_eq_true rfl, Nat.le_of_ble_eq_true rfl⟩ (fun H locs hP hD hS => ?_)
              have hP : va_P E.1 gp_cl (gp_wG E (gp_fd np nt ns fr mb (I, F)).1 (gp_fd np nt ns fr mb (I, F)).2) H := hP
              have hD : va_D A (gp_wG E (gp_fd np nt ns fr mb (I, F)).1 (gp_fd np nt ns fr mb (I, F)).2) := hD
              refine lv_aload_n hx hb d_S_find_177 rfl (lv_at hl 1 rfl) ?_
              refine va_get (D := E.1) (cl := gp_cl) (ci := 2) (v := .int ((gp_fd np nt ns fr mb (I, F)).1 11)) (C := R_S) (T := T_S) (N := 9) hx hb hts i_S hown hK hP 2 rfl rfl 8 (by decide) (hts _ w1_97) (fun _ h9 => h9) rfl d_S_find_178 ?_
              refine lv_ldc (v := 1000000) hx hb hown (hts _ w1_87) d_S_find_181 ?_
              refine lv_icmp_ge (tgt := 190) hx hb d_S_find_183 (by decide) (fun c183 => ?_) (fun c183 => ?_)
              · have c183 := c183
                have mc183 : ¬ ((gp_fd np nt ns fr mb (I, F)).1 11) < 1000000 := Int32.not_lt.mpr c183
                refine lv_iconst (v := 0) hx hb d_S_find_190 (by decide) ?_
                exact gp_wz hx hb hr hlocks hAe (rfl) (by first | rw [if_pos mc183] | rw [if_neg mc183]) (hP) hS d_S_find_191
              · have c183 := c183
                have mc183 : ((gp_fd np nt ns fr mb (I, F)).1 11) < 1000000 := Int32.not_le.mp c183
                refine lv_iconst (v := 1) hx hb d_S_find_186 (by decide) ?_
                refine lv_goto (tgt := 191) hx hb d_S_find_187 (by decide) ?_
                exact gp_wz hx hb hr hlocks hAe (rfl) (by first | rw [if_pos mc183] | rw [if_neg mc183]) (hP) hS d_S_find_191
            · have c138 := c138
              have nc138 : ¬ 4 ≤ p := fun h => c138 ((nI_leI (a := 4) (b := p) (by omega) (by omega)).mpr h)
              refine lv_aload_n hx hb d_S_find_141 rfl (lv_at hl 1 rfl) ?_
              refine va_get (D := E.1) (cl := gp_cl) (ci := 2) (v := .ref (E.2.2.2 15)) (C := R_S) (T := T_S) (N := 9) hx hb hts i_S hown hK hP 2 rfl rfl 4 (by decide) (hts _ w1_93) (fun _ h9 => h9) rfl d_S_find_142 ?_
              refine lv_iload hx hb d_S_find_145 (lv_at hl 0 rfl) ?_
              refine lv_iconst (v := 0) hx hb d_S_find_147 (by decide) ?_
              refine gp_ast (f := (fun j => if j < p then 0 else F 12 j)) (n := 4) hx hb hK hP hD hS 15 rfl (p) rfl (by omega) (by decide) d_S_find_148 (fun H locs hP hD hS => ?_)
              have hP : va_P E.1 gp_cl (gp_wG E I (gp_uF (gp_uF (gp_uF (gp_uF (gp_uF F 10 (fun j => if j < nt then gp_ch F ns np fr mb j else F 10 j)) 11 (fun j => if j < nt then gp_bn I F j nt else F 11 j)) 12 (fun j => if j < p then 0 else F 12 j)) 13 (fun j => if j < p then 0 else F 13 j)) 12 (upd (fun j => if j < p then 0 else F 12 j) (p) 0))) H := hP
              have hD : va_D A (gp_wG E I (gp_uF (gp_uF (gp_uF (gp_uF (gp_uF F 10 (fun j => if j < nt then gp_ch F ns np fr mb j else F 10 j)) 11 (fun j => if j < nt then gp_bn I F j nt else F 11 j)) 12 (fun j => if j < p then 0 else F 12 j)) 13 (fun j => if j < p then 0 else F 13 j)) 12 (upd (fun j => if j < p then 0 else F 12 j) (p) 0))) := hD
              refine lv_aload_n hx hb d_S_find_149 rfl (lv_at hl 1 rfl) ?_
              refine va_get (D := E.1) (cl := gp_cl) (ci := 2) (v := .ref (E.2.2.2 16)) (C := R_S) (T := T_S) (N := 9) hx hb hts i_S hown hK hP 2 rfl rfl 5 (by decide) (hts _ w1_94) (fun _ h9 => h9) rfl d_S_find_150 ?_
              refine lv_iload hx hb d_S_find_153 (lv_at hl 0 rfl) ?_
              refine lv_iconst (v := 0) hx hb d_S_find_155 (by decide) ?_
              refine gp_ast (f := (fun j => if j < p then 0 else F 13 j)) (n := 4) hx hb hK hP hD hS 16 rfl (p) rfl (by omega) (by decide) d_S_find_156 (fun H locs hP hD hS => ?_)
              have hP : va_P E.1 gp_cl (gp_wG E I (gp_uF (gp_uF (gp_uF (gp_uF (gp_uF (gp_uF F 10 (fun j => if j < nt then gp_ch F ns np fr mb j else F 10 j)) 11 (fun j => if j < nt then gp_bn I F j nt else F 11 j)) 12 (fun j => if j < p then 0 else F 12 j)) 13 (fun j => if j < p then 0 else F 13 j)) 12 (upd (fun j => if j < p then 0 else F 12 j) (p) 0)) 13 (upd (fun j => if j < p then 0 else F 13 j) (p) 0))) H := hP
              have hD : va_D A (gp_wG E I (gp_uF (gp_uF (gp_uF (gp_uF (gp_uF (gp_uF F 10 (fun j => if j < nt then gp_ch F ns np fr mb j else F 10 j)) 11 (fun j => if j < nt then gp_bn I F j nt else F 11 j)) 12 (fun j => if j < p then 0 else F 12 j)) 13 (fun j => if j < p then 0 else F 13 j)) 12 (upd (fun j => if j < p then 0 else F 12 j) (p) 0)) 13 (upd (fun j => if j < p then 0 else F 13 j) (p) 0))) := hD
              refine lv_iinc (v := (nI (p + 1))) (lv' := [(5, .int (nI (p + 1))), (0, .ref (E.2.2.2 2)), (1, .ref (E.2.2.2 1)), (2, .ref (E.2.2.2 17)), (3, .int fr), (4, .int (nI mb))]) hx hb d_S_find_157 hl (k := 0) rfl (nI_1 _) (by decide) rfl (fun ls hl => ?_)
              refine lv_goto (tgt := 135) hx hb d_S_find_160 (by decide) ?_
              have hF : (gp_uF (gp_uF (gp_uF (gp_uF (gp_uF (gp_uF F 10 (fun j => if j < nt then gp_ch F ns np fr mb j else F 10 j)) 11 (fun j => if j < nt then gp_bn I F j nt else F 11 j)) 12 (fun j => if j < p then 0 else F 12 j)) 13 (fun j => if j < p then 0 else F 13 j)) 12 (upd (fun j => if j < p then 0 else F 12 j) (p) 0)) 13 (upd (fun j => if j < p then 0 else F 13 j) (p) 0)) = (gp_uF (gp_uF (gp_uF (gp_uF F 10 (fun j => if j < nt then gp_ch F ns np fr mb j else F 10 j)) 11 (fun j => if j < nt then gp_bn I F j nt else F 11 j)) 12 (fun j => if j < (p + 1) then 0 else F 12 j)) 13 (fun j => if j < (p + 1) then 0 else F 13 j)) := gp_F2 (by decide) (gp_up1 (h := fun _ => 0) (k := F 12) rfl) (gp_up1 (h := fun _ => 0) (k := F 13) rfl) (fun c h1 h2 => by simp [gp_uF, h1, h2])
              rw [hF] at hP
              exact ih135 (p + 1) (by omega) (by omega) ls _ _ (lv_sub hl [0, 1, 2, 3, 4, 5] rfl) (hP) (gp_dd hD rfl) hS
        exact L135 5 0 (Nat.zero_le _) (by omega) ls _ _ (lv_sub hl [0, 1, 2, 3, 4, 5] rfl) (by rw [← gp_F2 (F := (gp_uF (gp_uF F 10 (fun j => if j < nt then gp_ch F ns np fr mb j else F 10 j)) 11 (fun j => if j < nt then gp_bn I F j nt else F 11 j))) (G := (gp_uF (gp_uF F 10 (fun j => if j < nt then gp_ch F ns np fr mb j else F 10 j)) 11 (fun j => if j < nt then gp_bn I F j nt else F 11 j))) (a := 12) (b := 13) (by decide) (f := (fun j => if j < 0 then 0 else F 12 j)) (g := (fun j => if j < 0 then 0 else F 13 j)) (by funext j; simp [gp_uF]) (by funext j; simp [gp_uF]) (fun _ _ _ => rfl)]; exact hP) (gp_dd hD rfl) hS
      · have c9 := c9
        have nc9 : ¬ nt ≤ t := fun h => c9 ((nI_leI (a := nt) (b := t) (by omega) (by omega)).mpr h)
        refine lv_aload_n hx hb d_S_find_12 rfl (lv_at hl 2 rfl) ?_
        refine va_get (D := E.1) (cl := gp_cl) (ci := 1) (v := .ref (E.2.2.2 10)) (C := R_D) (T := T_D) (N := 13) hx hb hts i_D hown hK hP 1 rfl rfl 7 (by decide) (hts _ w1_37) (fun _ h9 => h9) rfl d_S_find_13 ?_
        refine lv_iload hx hb d_S_find_16 (lv_at hl 0 rfl) ?_
        refine gp_zld (f := (F 7)) (n := 6) hx hb hK hP 10 rfl (t) rfl (by omega) (by decide) d_S_find_18 ?_
        refine lv_if_eq (tgt := 29) hx hb d_S_find_19 (by decide) (fun c19 => ?_) (fun c19 => ?_)
        · have c19 := c19
          refine lv_iconst (v := 1) hx hb d_S_find_29 (by decide) ?_
          refine lv_goto (tgt := 34) hx hb d_S_find_30 (by decide) ?_
          refine lv_istore (lv' := [(6, .int 1), (5, .int (nI t)), (0, .ref (E.2.2.2 2)), (1, .ref (E.2.2.2 1)), (2, .ref (E.2.2.2 17)), (3, .int fr), (4, .int (nI mb))]) hx hb d_S_find_34 hl (by decide) rfl (fun ls hl => ?_)
          refine lv_aload_n hx hb d_S_find_36 rfl (lv_at hl 3 rfl) ?_
          refine va_get (D := E.1) (cl := gp_cl) (ci := 1) (v := .ref (E.2.2.2 8)) (C := R_D) (T := T_D) (N := 13) hx hb hts i_D hown hK hP 1 rfl rfl 5 (by decide) (hts _ w1_33) (fun _ h9 => h9) rfl d_S_find_37 ?_
          refine lv_iload hx hb d_S_find_40 (lv_at hl 1 rfl) ?_
          refine gp_ald (f := (F 5)) (n := 6) hx hb hK hP 8 rfl (t) rfl (by omega) (by decide) d_S_find_42 ?_
          refine lv_iload_n hx hb d_S_find_43 rfl (lv_at hl 5 rfl) ?_
          refine lv_icmp_ge (tgt := 51) hx hb d_S_find_44 (by decide) (fun c44 => ?_) (fun c44 => ?_)
          · have c44 := c44
            have mc44 : ¬ ((F 5) (t)) < fr := Int32.not_lt.mpr c44
            refine lv_iconst (v := 0) hx hb d_S_find_51 (by decide) ?_
            refine lv_istore (lv' := [(7, .int 0), (6, .int 1), (5, .int (nI t)), (0, .ref (E.2.2.2 2)), (1, .ref (E.2.2.2 1)), (2, .ref (E.2.2.2 17)), (3, .int fr), (4, .int (nI mb))]) hx hb d_S_find_52 hl (by decide) rfl (fun ls hl => ?_)
            refine lv_aload_n hx hb d_S_find_54 rfl (lv_at hl 3 rfl) ?_
            refine va_get (D := E.1) (cl := gp_cl) (ci := 2) (v := .ref (E.2.2.2 13)) (C := R_S) (T := T_S) (N := 9) hx hb hts i_S hown hK hP 2 rfl rfl 2 (by decide) (hts _ w1_91) (fun _ h9 => h9) rfl d_S_find_55 ?_
            refine lv_iload hx hb d_S_find_58 (lv_at hl 2 rfl) ?_
            refine lv_iload hx hb d_S_find_60 (lv_at hl 0 rfl) ?_
            refine lv_if_eq (tgt := 76) hx hb d_S_find_62 (by decide) (fun c62 => ?_) (fun c62 => ?_)
            · have c62 := c62
              have nc62 : 0 = 0 := (nI_eq (a := 0) (b := 0) (by omega) (by omega)).mp c62
              refine lv_aload_n hx hb d_S_find_76 rfl (lv_at hl 3 rfl) ?_
              refine lv_aload_n hx hb d_S_find_77 rfl (lv_at hl 4 rfl) ?_
              refine lv_iload hx hb d_S_find_78 (lv_at hl 2 rfl) ?_
              refine gp_cR (q0 := 2) (ci := 2) (As := [.ref (E.2.2.2 1), .int (nI t)]) (rest := [.int (nI t), .ref (E.2.2.2 13)]) ⟨hx, hb, hml, hown, hts⟩ (c_S_bitsOfSuitingF l E I F (gp_uF (gp_uF F 10 (fun j => if j < t then gp_ch F ns np fr mb j else F 10 j)) 11 (fun j => if j < t then gp_bn I F j nt else F 11 j)) np nt ns t (fun a h => by simp [gp_uF, show a ≠ 10 by omega, show a ≠ 11 by omega]) hp4 hT hN hnp hnt hns (by omega)) (k_S_61 hts ⟨by dsimp only [gp_rm]; omega, by dsimp only [gp_rm]; omega⟩ rfl rfl) hK hP rfl rfl rfl hl.1 rfl (Nat.le_of_ble_eq_true rfl) d_S_find_80 ⟨Nat.le_of_ble_eq_true rfl, Nat.le_of_ble_eq_true rfl⟩ ?_
              refine lv_aload_n hx hb d_S_find_83 rfl (lv_at hl 3 rfl) ?_
              refine lv_iconst (v := (-1)) hx hb d_S_find_84 (by decide) ?_
              refine gp_cR (q0 := 2) (ci := 2) (As := [.int (-1)]) (rest := [.int (gp_bs F ns t np), .int (nI t), .ref (E.2.2.2 13)]) ⟨hx, hb, hml, hown, hts⟩ (c_S_bitOf l E I (gp_uF (gp_uF F 10 (fun j => if j < t then gp_ch F ns np fr mb j else F 10 j)) 11 (fun j => if j < t then gp_bn I F j nt else F 11 j)) (-1)) (k_S_57 hts ⟨by dsimp only [gp_rm]; omega, by dsimp only [gp_rm]; omega⟩ rfl rfl) hK hP rfl rfl rfl hl.1 rfl (Nat.le_of_ble_eq_true rfl) d_S_find_85 ⟨Nat.le_of_ble_eq_true rfl, Nat.le_of_ble_eq_true rfl⟩ ?_
              refine lv_ior hx hb d_S_find_88 ?_
              refine gp_ast (f := (fun j => if j < t then gp_ch F ns np fr mb j else F 10 j)) (n := 6) hx hb hK hP hD hS 13 rfl (t) rfl (by omega) (by decide) d_S_find_89 (fun H locs hP hD hS => ?_)
              have hP : va_P E.1 gp_cl (gp_wG E I (gp_uF (gp_uF (gp_uF F 10 (fun j => if j < t then gp_ch F ns np fr mb j else F 10 j)) 11 (fun j => if j < t then gp_bn I F j nt else F 11 j)) 10 (upd (fun j => if j < t then gp_ch F ns np fr mb j else F 10 j) (t) ((gp_bs F ns t np) ||| (gp_bit (-1)))))) H := hP
              have hD : va_D A (gp_wG E I (gp_uF (gp_uF (gp_uF F 10 (fun j => if j < t then gp_ch F ns np fr mb j else F 10 j)) 11 (fun j => if j < t then gp_bn I F j nt else F 11 j)) 10 (upd (fun j => if j < t then gp_ch F ns np fr mb j else F 10 j) (t) ((gp_bs F ns t np) ||| (gp_bit (-1)))))) := hD
              refine lv_iload hx hb d_S_find_90 (lv_at hl 1 rfl) ?_
              refine lv_if_ne (tgt := 112) hx hb d_S_find_92 (by decide) (fun c92 => ?_) (fun c92 => ?_)
              · have c92 := c92
                have nc92 : ¬ 1 = 0 := fun h => c92 ((nI_eq (a := 1) (b := 0) (by omega) (by omega)).mpr h)
                refine lv_aload_n hx hb d_S_find_112 rfl (lv_at hl 3 rfl) ?_
                refine va_get (D := E.1) (cl := gp_cl) (ci := 2) (v := .ref (E.2.2.2 14)) (C := R_S) (T := T_S) (N := 9) hx hb hts i_S hown hK hP 2 rfl rfl 3 (by decide) (hts _ w1_92) (fun _ h9 => h9) rfl d_S_find_113 ?_
                refine lv_iload hx hb d_S_find_116 (lv_at hl 2 rfl) ?_
                refine lv_aload_n hx hb d_S_find_118 rfl (lv_at hl 3 rfl) ?_
                refine lv_aload_n hx hb d_S_find_119 rfl (lv_at hl 4 rfl) ?_
                refine lv_iload hx hb d_S_find_120 (lv_at hl 2 rfl) ?_
                refine gp_cR (q0 := 2) (ci := 2) (As := [.ref (E.2.2.2 1), .int (nI t)]) (rest := [.int (nI t), .ref (E.2.2.2 14)]) ⟨hx, hb, hml, hown, hts⟩ (c_S_bitsOfTooNearF l E I F (gp_uF (gp_uF (gp_uF F 10 (fun j => if j < t then gp_ch F ns np fr mb j else F 10 j)) 11 (fun j => if j < t then gp_bn I F j nt else F 11 j)) 10 (upd (fun j => if j < t then gp_ch F ns np fr mb j else F 10 j) (t) ((gp_bs F ns t np) ||| (gp_bit (-1))))) nt t (fun a h => by simp [gp_uF, show a ≠ 10 by omega, show a ≠ 11 by omega]) hT hnt (by omega)) (k_S_65 hts ⟨by dsimp only [gp_rm]; omega, by dsimp only [gp_rm]; omega⟩ rfl rfl) hK hP rfl rfl rfl hl.1 rfl (Nat.le_of_ble_eq_true rfl) d_S_find_122 ⟨Nat.le_of_ble_eq_true rfl, Nat.le_of_ble_eq_true rfl⟩ ?_
                refine gp_ast (f := (fun j => if j < t then gp_bn I F j nt else F 11 j)) (n := 6) hx hb hK hP hD hS 14 rfl (t) rfl (by omega) (by decide) d_S_find_125 (fun H locs hP hD hS => ?_)
                have hP : va_P E.1 gp_cl (gp_wG E I (gp_uF (gp_uF (gp_uF (gp_uF F 10 (fun j => if j < t then gp_ch F ns np fr mb j else F 10 j)) 11 (fun j => if j < t then gp_bn I F j nt else F 11 j)) 10 (upd (fun j => if j < t then gp_ch F ns np fr mb j else F 10 j) (t) ((gp_bs F ns t np) ||| (gp_bit (-1))))) 11 (upd (fun j => if j < t then gp_bn I F j nt else F 11 j) (t) (gp_bn I F t nt)))) H := hP
                have hD : va_D A (gp_wG E I (gp_uF (gp_uF (gp_uF (gp_uF F 10 (fun j => if j < t then gp_ch F ns np fr mb j else F 10 j)) 11 (fun j => if j < t then gp_bn I F j nt else F 11 j)) 10 (upd (fun j => if j < t then gp_ch F ns np fr mb j else F 10 j) (t) ((gp_bs F ns t np) ||| (gp_bit (-1))))) 11 (upd (fun j => if j < t then gp_bn I F j nt else F 11 j) (t) (gp_bn I F t nt)))) := hD
                refine lv_iinc (v := (nI (t + 1))) (lv' := [(5, .int (nI (t + 1))), (7, .int 0), (6, .int 1), (0, .ref (E.2.2.2 2)), (1, .ref (E.2.2.2 1)), (2, .ref (E.2.2.2 17)), (3, .int fr), (4, .int (nI mb))]) hx hb d_S_find_126 hl (k := 2) rfl (nI_1 _) (by decide) rfl (fun ls hl => ?_)
                refine lv_goto (tgt := 3) hx hb d_S_find_129 (by decide) ?_
                have hF : (gp_uF (gp_uF (gp_uF (gp_uF F 10 (fun j => if j < t then gp_ch F ns np fr mb j else F 10 j)) 11 (fun j => if j < t then gp_bn I F j nt else F 11 j)) 10 (upd (fun j => if j < t then gp_ch F ns np fr mb j else F 10 j) (t) ((gp_bs F ns t np) ||| (gp_bit (-1))))) 11 (upd (fun j => if j < t then gp_bn I F j nt else F 11 j) (t) (gp_bn I F t nt))) = (gp_uF (gp_uF F 10 (fun j => if j < (t + 1) then gp_ch F ns np fr mb j else F 10 j)) 11 (fun j => if j < (t + 1) then gp_bn I F j nt else F 11 j)) := gp_F2 (by decide) (by first | exact gp_up1 (h := gp_ch F ns np fr mb) (k := F 10) (by simp [gp_ch, gp_c0, h1, c9, nc9, c19, c44, mc44, c62, nc62, c92, nc92]) | exact gp_up2 (h := gp_ch F ns np fr mb) (k := F 10) (by simp [gp_ch, gp_c0, upd, h1, c9, nc9, c19, c44, mc44, c62, nc62, c92, nc92])) (gp_up1 (h := fun j => gp_bn I F j nt) (k := F 11) rfl) (fun c h1 h2 => by simp [gp_uF, h1, h2])
                rw [hF] at hP
                exact ih3 (t + 1) (by omega) (by omega) ls _ _ (lv_sub hl [0, 3, 4, 5, 6, 7] rfl) (hP) (gp_dd hD rfl) hS
              · exact absurd c92 (by decide)
            · exact absurd c62 (by decide)
          · have c44 := c44
            have mc44 : ((F 5) (t)) < fr := Int32.not_le.mp c44
            refine lv_iconst (v := 1) hx hb d_S_find_47 (by decide) ?_
            refine lv_goto (tgt := 52) hx hb d_S_find_48 (by decide) ?_
            refine lv_istore (lv' := [(7, .int 1), (6, .int 1), (5, .int (nI t)), (0, .ref (E.2.2.2 2)), (1, .ref (E.2.2.2 1)), (2, .ref (E.2.2.2 17)), (3, .int fr), (4, .int (nI mb))]) hx hb d_S_find_52 hl (by decide) rfl (fun ls hl => ?_)
            refine lv_aload_n hx hb d_S_find_54 rfl (lv_at hl 3 rfl) ?_
            refine va_get (D := E.1) (cl := gp_cl) (ci := 2) (v := .ref (E.2.2.2 13)) (C := R_S) (T := T_S) (N := 9) hx hb hts i_S hown hK hP 2 rfl rfl 2 (by decide) (hts _ w1_91) (fun _ h9 => h9) rfl d_S_find_55 ?_
            refine lv_iload hx hb d_S_find_58 (lv_at hl 2 rfl) ?_
            refine lv_iload hx hb d_S_find_60 (lv_at hl 0 rfl) ?_
            refine lv_if_eq (tgt := 76) hx hb d_S_find_62 (by decide) (fun c62 => ?_) (fun c62 => ?_)
            · exact absurd c62 (by decide)
            · have c62 := c62
              have nc62 : ¬ 1 = 0 := fun h => c62 ((nI_eq (a := 1) (b := 0) (by omega) (by omega)).mpr h)
              refine lv_aload_n hx hb d_S_find_65 rfl (lv_at hl 3 rfl) ?_
              refine lv_aload_n hx hb d_S_find_66 rfl (lv_at hl 5 rfl) ?_
              refine lv_iload hx hb d_S_find_67 (lv_at hl 2 rfl) ?_
              refine gp_ald (f := (F 14)) (n := 6) hx hb hK hP 17 rfl (t) rfl (by omega) (by decide) d_S_find_69 ?_
              refine gp_cR (q0 := 2) (ci := 2) (As := [.int ((F 14) (t))]) (rest := [.int (nI t), .ref (E.2.2.2 13)]) ⟨hx, hb, hml, hown, hts⟩ (c_S_bitOf l E I (gp_uF (gp_uF F 10 (fun j => if j < t then gp_ch F ns np fr mb j else F 10 j)) 11 (fun j => if j < t then gp_bn I F j nt else F 11 j)) (F 14 t)) (k_S_57 hts ⟨by dsimp only [gp_rm]; omega, by dsimp only [gp_rm]; omega⟩ rfl rfl) hK hP rfl rfl rfl hl.1 rfl (Nat.le_of_ble_eq_true rfl) d_S_find_70 ⟨Nat.le_of_ble_eq_true rfl, Nat.le_of_ble_eq_true rfl⟩ ?_
              refine lv_goto (tgt := 89) hx hb d_S_find_73 (by decide) ?_
              refine gp_ast (f := (fun j => if j < t then gp_ch F ns np fr mb j else F 10 j)) (n := 6) hx hb hK hP hD hS 13 rfl (t) rfl (by omega) (by decide) d_S_find_89 (fun H locs hP hD hS => ?_)
              have hP : va_P E.1 gp_cl (gp_wG E I (gp_uF (gp_uF (gp_uF F 10 (fun j => if j < t then gp_ch F ns np fr mb j else F 10 j)) 11 (fun j => if j < t then gp_bn I F j nt else F 11 j)) 10 (upd (fun j => if j < t then gp_ch F ns np fr mb j else F 10 j) (t) (gp_bit (F 14 t))))) H := hP
              have hD : va_D A (gp_wG E I (gp_uF (gp_uF (gp_uF F 10 (fun j => if j < t then gp_ch F ns np fr mb j else F 10 j)) 11 (fun j => if j < t then gp_bn I F j nt else F 11 j)) 10 (upd (fun j => if j < t then gp_ch F ns np fr mb j else F 10 j) (t) (gp_bit (F 14 t))))) := hD
              refine lv_iload hx hb d_S_find_90 (lv_at hl 1 rfl) ?_
              refine lv_if_ne (tgt := 112) hx hb d_S_find_92 (by decide) (fun c92 => ?_) (fun c92 => ?_)
              · have c92 := c92
                have nc92 : ¬ 1 = 0 := fun h => c92 ((nI_eq (a := 1) (b := 0) (by omega) (by omega)).mpr h)
                refine lv_aload_n hx hb d_S_find_112 rfl (lv_at hl 3 rfl) ?_
                refine va_get (D := E.1) (cl := gp_cl) (ci := 2) (v := .ref (E.2.2.2 14)) (C := R_S) (T := T_S) (N := 9) hx hb hts i_S hown hK hP 2 rfl rfl 3 (by decide) (hts _ w1_92) (fun _ h9 => h9) rfl d_S_find_113 ?_
                refine lv_iload hx hb d_S_find_116 (lv_at hl 2 rfl) ?_
                refine lv_aload_n hx hb d_S_find_118 rfl (lv_at hl 3 rfl) ?_
                refine lv_aload_n hx hb d_S_find_119 rfl (lv_at hl 4 rfl) ?_
                refine lv_iload hx hb d_S_find_120 (lv_at hl 2 rfl) ?_
                refine gp_cR (q0 := 2) (ci := 2) (As := [.ref (E.2.2.2 1), .int (nI t)]) (rest := [.int (nI t), .ref (E.2.2.2 14)]) ⟨hx, hb, hml, hown, hts⟩ (c_S_bitsOfTooNearF l E I F (gp_uF (gp_uF (gp_uF F 10 (fun j => if j < t then gp_ch F ns np fr mb j else F 10 j)) 11 (fun j => if j < t then gp_bn I F j nt else F 11 j)) 10 (upd (fun j => if j < t then gp_ch F ns np fr mb j else F 10 j) (t) (gp_bit (F 14 t)))) nt t (fun a h => by simp [gp_uF, show a ≠ 10 by omega, show a ≠ 11 by omega]) hT hnt (by omega)) (k_S_65 hts ⟨by dsimp only [gp_rm]; omega, by dsimp only [gp_rm]; omega⟩ rfl rfl) hK hP rfl rfl rfl hl.1 rfl (Nat.le_of_ble_eq_true rfl) d_S_find_122 ⟨Nat.le_of_ble_eq_true rfl, Nat.le_of_ble_eq_true rfl⟩ ?_
                refine gp_ast (f := (fun j => if j < t then gp_bn I F j nt else F 11 j)) (n := 6) hx hb hK hP hD hS 14 rfl (t) rfl (by omega) (by decide) d_S_find_125 (fun H locs hP hD hS => ?_)
                have hP : va_P E.1 gp_cl (gp_wG E I (gp_uF (gp_uF (gp_uF (gp_uF F 10 (fun j => if j < t then gp_ch F ns np fr mb j else F 10 j)) 11 (fun j => if j < t then gp_bn I F j nt else F 11 j)) 10 (upd (fun j => if j < t then gp_ch F ns np fr mb j else F 10 j) (t) (gp_bit (F 14 t)))) 11 (upd (fun j => if j < t then gp_bn I F j nt else F 11 j) (t) (gp_bn I F t nt)))) H := hP
                have hD : va_D A (gp_wG E I (gp_uF (gp_uF (gp_uF (gp_uF F 10 (fun j => if j < t then gp_ch F ns np fr mb j else F 10 j)) 11 (fun j => if j < t then gp_bn I F j nt else F 11 j)) 10 (upd (fun j => if j < t then gp_ch F ns np fr mb j else F 10 j) (t) (gp_bit (F 14 t)))) 11 (upd (fun j => if j < t then gp_bn I F j nt else F 11 j) (t) (gp_bn I F t nt)))) := hD
                refine lv_iinc (v := (nI (t + 1))) (lv' := [(5, .int (nI (t + 1))), (7, .int 1), (6, .int 1), (0, .ref (E.2.2.2 2)), (1, .ref (E.2.2.2 1)), (2, .ref (E.2.2.2 17)), (3, .int fr), (4, .int (nI mb))]) hx hb d_S_find_126 hl (k := 2) rfl (nI_1 _) (by decide) rfl (fun ls hl => ?_)
                refine lv_goto (tgt := 3) hx hb d_S_find_129 (by decide) ?_
                have hF : (gp_uF (gp_uF (gp_uF (gp_uF F 10 (fun j => if j < t then gp_ch F ns np fr mb j else F 10 j)) 11 (fun j => if j < t then gp_bn I F j nt else F 11 j)) 10 (upd (fun j => if j < t then gp_ch F ns np fr mb j else F 10 j) (t) (gp_bit (F 14 t)))) 11 (upd (fun j => if j < t then gp_bn I F j nt else F 11 j) (t) (gp_bn I F t nt))) = (gp_uF (gp_uF F 10 (fun j => if j < (t + 1) then gp_ch F ns np fr mb j else F 10 j)) 11 (fun j => if j < (t + 1) then gp_bn I F j nt else F 11 j)) := gp_F2 (by decide) (by first | exact gp_up1 (h := gp_ch F ns np fr mb) (k := F 10) (by simp [gp_ch, gp_c0, h1, c9, nc9, c19, c44, mc44, c62, nc62, c92, nc92]) | exact gp_up2 (h := gp_ch F ns np fr mb) (k := F 10) (by simp [gp_ch, gp_c0, upd, h1, c9, nc9, c19, c44, mc44, c62, nc62, c92, nc92])) (gp_up1 (h := fun j => gp_bn I F j nt) (k := F 11) rfl) (fun c h1 h2 => by simp [gp_uF, h1, h2])
                rw [hF] at hP
                exact ih3 (t + 1) (by omega) (by omega) ls _ _ (lv_sub hl [0, 3, 4, 5, 6, 7] rfl) (hP) (gp_dd hD rfl) hS
              · exact absurd c92 (by decide)
        · have c19 := c19
          refine lv_iload hx hb d_S_find_22 (lv_at hl 0 rfl) ?_
          refine lv_iload hx hb d_S_find_24 (lv_at hl 5 rfl) ?_
          refine lv_icmp_lt (tgt := 33) hx hb d_S_find_26 (by decide) (fun c26 => ?_) (fun c26 => ?_)
          · have c26 := c26
            have nc26 : t < mb := (nI_ltI (a := t) (b := mb) (by omega) (by omega)).mp c26
            refine lv_iconst (v := 0) hx hb d_S_find_33 (by decide) ?_
            refine lv_istore (lv' := [(6, .int 0), (5, .int (nI t)), (0, .ref (E.2.2.2 2)), (1, .ref (E.2.2.2 1)), (2, .ref (E.2.2.2 17)), (3, .int fr), (4, .int (nI mb))]) hx hb d_S_find_34 hl (by decide) rfl (fun ls hl => ?_)
            refine lv_aload_n hx hb d_S_find_36 rfl (lv_at hl 3 rfl) ?_
            refine va_get (D := E.1) (cl := gp_cl) (ci := 1) (v := .ref (E.2.2.2 8)) (C := R_D) (T := T_D) (N := 13) hx hb hts i_D hown hK hP 1 rfl rfl 5 (by decide) (hts _ w1_33) (fun _ h9 => h9) rfl d_S_find_37 ?_
            refine lv_iload hx hb d_S_find_40 (lv_at hl 1 rfl) ?_
            refine gp_ald (f := (F 5)) (n := 6) hx hb hK hP 8 rfl (t) rfl (by omega) (by decide) d_S_find_42 ?_
            refine lv_iload_n hx hb d_S_find_43 rfl (lv_at hl 5 rfl) ?_
            refine lv_icmp_ge (tgt := 51) hx hb d_S_find_44 (by decide) (fun c44 => ?_) (fun c44 => ?_)
            · have c44 := c44
              have mc44 : ¬ ((F 5) (t)) < fr := Int32.not_lt.mpr c44
              refine lv_iconst (v := 0) hx hb d_S_find_51 (by decide) ?_
              refine lv_istore (lv' := [(7, .int 0), (6, .int 0), (5, .int (nI t)), (0, .ref (E.2.2.2 2)), (1, .ref (E.2.2.2 1)), (2, .ref (E.2.2.2 17)), (3, .int fr), (4, .int (nI mb))]) hx hb d_S_find_52 hl (by decide) rfl (fun ls hl => ?_)
              refine lv_aload_n hx hb d_S_find_54 rfl (lv_at hl 3 rfl) ?_
              refine va_get (D := E.1) (cl := gp_cl) (ci := 2) (v := .ref (E.2.2.2 13)) (C := R_S) (T := T_S) (N := 9) hx hb hts i_S hown hK hP 2 rfl rfl 2 (by decide) (hts _ w1_91) (fun _ h9 => h9) rfl d_S_find_55 ?_
              refine lv_iload hx hb d_S_find_58 (lv_at hl 2 rfl) ?_
              refine lv_iload hx hb d_S_find_60 (lv_at hl 0 rfl) ?_
              refine lv_if_eq (tgt := 76) hx hb d_S_find_62 (by decide) (fun c62 => ?_) (fun c62 => ?_)
              · have c62 := c62
                have nc62 : 0 = 0 := (nI_eq (a := 0) (b := 0) (by omega) (by omega)).mp c62
                refine lv_aload_n hx hb d_S_find_76 rfl (lv_at hl 3 rfl) ?_
                refine lv_aload_n hx hb d_S_find_77 rfl (lv_at hl 4 rfl) ?_
                refine lv_iload hx hb d_S_find_78 (lv_at hl 2 rfl) ?_
                refine gp_cR (q0 := 2) (ci := 2) (As := [.ref (E.2.2.2 1), .int (nI t)]) (rest := [.int (nI t), .ref (E.2.2.2 13)]) ⟨hx, hb, hml, hown, hts⟩ (c_S_bitsOfSuitingF l E I F (gp_uF (gp_uF F 10 (fun j => if j < t then gp_ch F ns np fr mb j else F 10 j)) 11 (fun j => if j < t then gp_bn I F j nt else F 11 j)) np nt ns t (fun a h => by simp [gp_uF, show a ≠ 10 by omega, show a ≠ 11 by omega]) hp4 hT hN hnp hnt hns (by omega)) (k_S_61 hts ⟨by dsimp only [gp_rm]; omega, by dsimp only [gp_rm]; omega⟩ rfl rfl) hK hP rfl rfl rfl hl.1 rfl (Nat.le_of_ble_eq_true rfl) d_S_find_80 ⟨Nat.le_of_ble_eq_true rfl, Nat.le_of_ble_eq_true rfl⟩ ?_
                refine lv_aload_n hx hb d_S_find_83 rfl (lv_at hl 3 rfl) ?_
                refine lv_iconst (v := (-1)) hx hb d_S_find_84 (by decide) ?_
                refine gp_cR (q0 := 2) (ci := 2) (As := [.int (-1)]) (rest := [.int (gp_bs F ns t np), .int (nI t), .ref (E.2.2.2 13)]) ⟨hx, hb, hml, hown, hts⟩ (c_S_bitOf l E I (gp_uF (gp_uF F 10 (fun j => if j < t then gp_ch F ns np fr mb j else F 10 j)) 11 (fun j => if j < t then gp_bn I F j nt else F 11 j)) (-1)) (k_S_57 hts ⟨by dsimp only [gp_rm]; omega, by dsimp only [gp_rm]; omega⟩ rfl rfl) hK hP rfl rfl rfl hl.1 rfl (Nat.le_of_ble_eq_true rfl) d_S_find_85 ⟨Nat.le_of_ble_eq_true rfl, Nat.le_of_ble_eq_true rfl⟩ ?_
                refine lv_ior hx hb d_S_find_88 ?_
                refine gp_ast (f := (fun j => if j < t then gp_ch F ns np fr mb j else F 10 j)) (n := 6) hx hb hK hP hD hS 13 rfl (t) rfl (by omega) (by decide) d_S_find_89 (fun H locs hP hD hS => ?_)
                have hP : va_P E.1 gp_cl (gp_wG E I (gp_uF (gp_uF (gp_uF F 10 (fun j => if j < t then gp_ch F ns np fr mb j else F 10 j)) 11 (fun j => if j < t then gp_bn I F j nt else F 11 j)) 10 (upd (fun j => if j < t then gp_ch F ns np fr mb j else F 10 j) (t) ((gp_bs F ns t np) ||| (gp_bit (-1)))))) H := hP
                have hD : va_D A (gp_wG E I (gp_uF (gp_uF (gp_uF F 10 (fun j => if j < t then gp_ch F ns np fr mb j else F 10 j)) 11 (fun j => if j < t then gp_bn I F j nt else F 11 j)) 10 (upd (fun j => if j < t then gp_ch F ns np fr mb j else F 10 j) (t) ((gp_bs F ns t np) ||| (gp_bit (-1)))))) := hD
                refine lv_iload hx hb d_S_find_90 (lv_at hl 1 rfl) ?_
                refine lv_if_ne (tgt := 112) hx hb d_S_find_92 (by decide) (fun c92 => ?_) (fun c92 => ?_)
                · exact absurd c92 (by decide)
                · have c92 := c92
                  have nc92 : 0 = 0 := (nI_eq (a := 0) (b := 0) (by omega) (by omega)).mp c92
                  refine lv_aload_n hx hb d_S_find_95 rfl (lv_at hl 3 rfl) ?_
                  refine va_get (D := E.1) (cl := gp_cl) (ci := 2) (v := .ref (E.2.2.2 13)) (C := R_S) (T := T_S) (N := 9) hx hb hts i_S hown hK hP 2 rfl rfl 2 (by decide) (hts _ w1_91) (fun _ h9 => h9) rfl d_S_find_96 ?_
                  refine lv_iload hx hb d_S_find_99 (lv_at hl 2 rfl) ?_
                  refine lv_dup2_11 hx hb d_S_find_101 rfl rfl ?_
                  refine gp_ald (f := (upd (fun j => if j < t then gp_ch F ns np fr mb j else F 10 j) (t) ((gp_bs F ns t np) ||| (gp_bit (-1))))) (n := 6) hx hb hK hP 13 rfl (t) rfl (by omega) (by decide) d_S_find_102 ?_
                  refine lv_aload_n hx hb d_S_find_103 rfl (lv_at hl 3 rfl) ?_
                  refine lv_iconst (v := (-1)) hx hb d_S_find_104 (by decide) ?_
                  refine gp_cR (q0 := 2) (ci := 2) (As := [.int (-1)]) (rest := [.int ((upd (fun j => if j < t then gp_ch F ns np fr mb j else F 10 j) (t) ((gp_bs F ns t np) ||| (gp_bit (-1)))) (t)), .int (nI t), .ref (E.2.2.2 13)]) ⟨hx, hb, hml, hown, hts⟩ (c_S_bitOf l E I (gp_uF (gp_uF (gp_uF F 10 (fun j => if j < t then gp_ch F ns np fr mb j else F 10 j)) 11 (fun j => if j < t then gp_bn I F j nt else F 11 j)) 10 (upd (fun j => if j < t then gp_ch F ns np fr mb j else F 10 j) (t) ((gp_bs F ns t np) ||| (gp_bit (-1))))) (-1)) (k_S_57 hts ⟨by dsimp only [gp_rm]; omega, by dsimp only [gp_rm]; omega⟩ rfl rfl) hK hP rfl rfl rfl hl.1 rfl (Nat.le_of_ble_eq_true rfl) d_S_find_105 ⟨Nat.le_of_ble_eq_true rfl, Nat.le_of_ble_eq_true rfl⟩ ?_
                  refine lv_iconst (v := (-1)) hx hb d_S_find_108 (by decide) ?_
                  refine lv_ixor hx hb d_S_find_109 ?_
                  refine lv_iand hx hb d_S_find_110 ?_
                  refine gp_ast (f := (upd (fun j => if j < t then gp_ch F ns np fr mb j else F 10 j) (t) ((gp_bs F ns t np) ||| (gp_bit (-1))))) (n := 6) hx hb hK hP hD hS 13 rfl (t) rfl (by omega) (by decide) d_S_find_111 (fun H locs hP hD hS => ?_)
                  have hP : va_P E.1 gp_cl (gp_wG E I (gp_uF (gp_uF (gp_uF (gp_uF F 10 (fun j => if j < t then gp_ch F ns np fr mb j else F 10 j)) 11 (fun j => if j < t then gp_bn I F j nt else F 11 j)) 10 (upd (fun j => if j < t then gp_ch F ns np fr mb j else F 10 j) (t) ((gp_bs F ns t np) ||| (gp_bit (-1))))) 10 (upd (upd (fun j => if j < t then gp_ch F ns np fr mb j else F 10 j) (t) ((gp_bs F ns t np) ||| (gp_bit (-1)))) (t) (((upd (fun j => if j < t then gp_ch F ns np fr mb j else F 10 j) (t) ((gp_bs F ns t np) ||| (gp_bit (-1)))) (t)) &&& ((gp_bit (-1)) ^^^ (-1)))))) H := hP
                  have hD : va_D A (gp_wG E I (gp_uF (gp_uF (gp_uF (gp_uF F 10 (fun j => if j < t then gp_ch F ns np fr mb j else F 10 j)) 11 (fun j => if j < t then gp_bn I F j nt else F 11 j)) 10 (upd (fun j => if j < t then gp_ch F ns np fr mb j else F 10 j) (t) ((gp_bs F ns t np) ||| (gp_bit (-1))))) 10 (upd (upd (fun j => if j < t then gp_ch F ns np fr mb j else F 10 j) (t) ((gp_bs F ns t np) ||| (gp_bit (-1)))) (t) (((upd (fun j => if j < t then gp_ch F ns np fr mb j else F 10 j) (t) ((gp_bs F ns t np) ||| (gp_bit (-1)))) (t)) &&& ((gp_bit (-1)) ^^^ (-1)))))) := hD
                  refine lv_aload_n hx hb d_S_find_112 rfl (lv_at hl 3 rfl) ?_
                  refine va_get (D := E.1) (cl := gp_cl) (ci := 2) (v := .ref (E.2.2.2 14)) (C := R_S) (T := T_S) (N := 9) hx hb hts i_S hown hK hP 2 rfl rfl 3 (by decide) (hts _ w1_92) (fun _ h9 => h9) rfl d_S_find_113 ?_
                  refine lv_iload hx hb d_S_find_116 (lv_at hl 2 rfl) ?_
                  refine lv_aload_n hx hb d_S_find_118 rfl (lv_at hl 3 rfl) ?_
                  refine lv_aload_n hx hb d_S_find_119 rfl (lv_at hl 4 rfl) ?_
                  refine lv_iload hx hb d_S_find_120 (lv_at hl 2 rfl) ?_
                  refine gp_cR (q0 := 2) (ci := 2) (As := [.ref (E.2.2.2 1), .int (nI t)]) (rest := [.int (nI t), .ref (E.2.2.2 14)]) ⟨hx, hb, hml, hown, hts⟩ (c_S_bitsOfTooNearF l E I F (gp_uF (gp_uF (gp_uF (gp_uF F 10 (fun j => if j < t then gp_ch F ns np fr mb j else F 10 j)) 11 (fun j => if j < t then gp_bn I F j nt else F 11 j)) 10 (upd (fun j => if j < t then gp_ch F ns np fr mb j else F 10 j) (t) ((gp_bs F ns t np) ||| (gp_bit (-1))))) 10 (upd (upd (fun j => if j < t then gp_ch F ns np fr mb j else F 10 j) (t) ((gp_bs F ns t np) ||| (gp_bit (-1)))) (t) (((upd (fun j => if j < t then gp_ch F ns np fr mb j else F 10 j) (t) ((gp_bs F ns t np) ||| (gp_bit (-1)))) (t)) &&& ((gp_bit (-1)) ^^^ (-1))))) nt t (fun a h => by simp [gp_uF, show a ≠ 10 by omega, show a ≠ 11 by omega]) hT hnt (by omega)) (k_S_65 hts ⟨by dsimp only [gp_rm]; omega, by dsimp only [gp_rm]; omega⟩ rfl rfl) hK hP rfl rfl rfl hl.1 rfl (Nat.le_of_ble_eq_true rfl) d_S_find_122 ⟨Nat.le_of_ble_eq_true rfl, Nat.le_of_ble_eq_true rfl⟩ ?_
                  refine gp_ast (f := (fun j => if j < t then gp_bn I F j nt else F 11 j)) (n := 6) hx hb hK hP hD hS 14 rfl (t) rfl (by omega) (by decide) d_S_find_125 (fun H locs hP hD hS => ?_)
                  have hP : va_P E.1 gp_cl (gp_wG E I (gp_uF (gp_uF (gp_uF (gp_uF (gp_uF F 10 (fun j => if j < t then gp_ch F ns np fr mb j else F 10 j)) 11 (fun j => if j < t then gp_bn I F j nt else F 11 j)) 10 (upd (fun j => if j < t then gp_ch F ns np fr mb j else F 10 j) (t) ((gp_bs F ns t np) ||| (gp_bit (-1))))) 10 (upd (upd (fun j => if j < t then gp_ch F ns np fr mb j else F 10 j) (t) ((gp_bs F ns t np) ||| (gp_bit (-1)))) (t) (((upd (fun j => if j < t then gp_ch F ns np fr mb j else F 10 j) (t) ((gp_bs F ns t np) ||| (gp_bit (-1)))) (t)) &&& ((gp_bit (-1)) ^^^ (-1))))) 11 (upd (fun j => if j < t then gp_bn I F j nt else F 11 j) (t) (gp_bn I F t nt)))) H := hP
                  have hD : va_D A (gp_wG E I (gp_uF (gp_uF (gp_uF (gp_uF (gp_uF F 10 (fun j => if j < t then gp_ch F ns np fr mb j else F 10 j)) 11 (fun j => if j < t then gp_bn I F j nt else F 11 j)) 10 (upd (fun j => if j < t then gp_ch F ns np fr mb j else F 10 j) (t) ((gp_bs F ns t np) ||| (gp_bit (-1))))) 10 (upd (upd (fun j => if j < t then gp_ch F ns np fr mb j else F 10 j) (t) ((gp_bs F ns t np) ||| (gp_bit (-1)))) (t) (((upd (fun j => if j < t then gp_ch F ns np fr mb j else F 10 j) (t) ((gp_bs F ns t np) ||| (gp_bit (-1)))) (t)) &&& ((gp_bit (-1)) ^^^ (-1))))) 11 (upd (fun j => if j < t then gp_bn I F j nt else F 11 j) (t) (gp_bn I F t nt)))) := hD
                  refine lv_iinc (v := (nI (t + 1))) (lv' := [(5, .int (nI (t + 1))), (7, .int 0), (6, .int 0), (0, .ref (E.2.2.2 2)), (1, .ref (E.2.2.2 1)), (2, .ref (E.2.2.2 17)), (3, .int fr), (4, .int (nI mb))]) hx hb d_S_find_126 hl (k := 2) rfl (nI_1 _) (by decide) rfl (fun ls hl => ?_)
                  refine lv_goto (tgt := 3) hx hb d_S_find_129 (by decide) ?_
                  have hF : (gp_uF (gp_uF (gp_uF (gp_uF (gp_uF F 10 (fun j => if j < t then gp_ch F ns np fr mb j else F 10 j)) 11 (fun j => if j < t then gp_bn I F j nt else F 11 j)) 10 (upd (fun j => if j < t then gp_ch F ns np fr mb j else F 10 j) (t) ((gp_bs F ns t np) ||| (gp_bit (-1))))) 10 (upd (upd (fun j => if j < t then gp_ch F ns np fr mb j else F 10 j) (t) ((gp_bs F ns t np) ||| (gp_bit (-1)))) (t) (((upd (fun j => if j < t then gp_ch F ns np fr mb j else F 10 j) (t) ((gp_bs F ns t np) ||| (gp_bit (-1)))) (t)) &&& ((gp_bit (-1)) ^^^ (-1))))) 11 (upd (fun j => if j < t then gp_bn I F j nt else F 11 j) (t) (gp_bn I F t nt))) = (gp_uF (gp_uF F 10 (fun j => if j < (t + 1) then gp_ch F ns np fr mb j else F 10 j)) 11 (fun j => if j < (t + 1) then gp_bn I F j nt else F 11 j)) := gp_F2 (by decide) (by first | exact gp_up1 (h := gp_ch F ns np fr mb) (k := F 10) (by simp [gp_ch, gp_c0, h1, c9, nc9, c19, c26, nc26, c44, mc44, c62, nc62, c92, nc92]) | exact gp_up2 (h := gp_ch F ns np fr mb) (k := F 10) (by simp [gp_ch, gp_c0, upd, h1, c9, nc9, c19, c26, nc26, c44, mc44, c62, nc62, c92, nc92])) (gp_up1 (h := fun j => gp_bn I F j nt) (k := F 11) rfl) (fun c h1 h2 => by simp [gp_uF, h1, h2])
                  rw [hF] at hP
                  exact ih3 (t + 1) (by omega) (by omega) ls _ _ (lv_sub hl [0, 3, 4, 5, 6, 7] rfl) (hP) (gp_dd hD rfl) hS
              · exact absurd c62 (by decide)
            · have c44 := c44
              have mc44 : ((F 5) (t)) < fr := Int32.not_le.mp c44
              refine lv_iconst (v := 1) hx hb d_S_find_47 (by decide) ?_
              refine lv_goto (tgt := 52) hx hb d_S_find_48 (by decide) ?_
              refine lv_istore (lv' := [(7, .int 1), (6, .int 0), (5, .int (nI t)), (0, .ref (E.2.2.2 2)), (1, .ref (E.2.2.2 1)), (2, .ref (E.2.2.2 17)), (3, .int fr), (4, .int (nI mb))]) hx hb d_S_find_52 hl (by decide) rfl (fun ls hl => ?_)
              refine lv_aload_n hx hb d_S_find_54 rfl (lv_at hl 3 rfl) ?_
              refine va_get (D := E.1) (cl := gp_cl) (ci := 2) (v := .ref (E.2.2.2 13)) (C := R_S) (T := T_S) (N := 9) hx hb hts i_S hown hK hP 2 rfl rfl 2 (by decide) (hts _ w1_91) (fun _ h9 => h9) rfl d_S_find_55 ?_
              refine lv_iload hx hb d_S_find_58 (lv_at hl 2 rfl) ?_
              refine lv_iload hx hb d_S_find_60 (lv_at hl 0 rfl) ?_
              refine lv_if_eq (tgt := 76) hx hb d_S_find_62 (by decide) (fun c62 => ?_) (fun c62 => ?_)
              · exact absurd c62 (by decide)
              · have c62 := c62
                have nc62 : ¬ 1 = 0 := fun h => c62 ((nI_eq (a := 1) (b := 0) (by omega) (by omega)).mpr h)
                refine lv_aload_n hx hb d_S_find_65 rfl (lv_at hl 3 rfl) ?_
                refine lv_aload_n hx hb d_S_find_66 rfl (lv_at hl 5 rfl) ?_
                refine lv_iload hx hb d_S_find_67 (lv_at hl 2 rfl) ?_
                refine gp_ald (f := (F 14)) (n := 6) hx hb hK hP 17 rfl (t) rfl (by omega) (by decide) d_S_find_69 ?_
                refine gp_cR (q0 := 2) (ci := 2) (As := [.int ((F 14) (t))]) (rest := [.int (nI t), .ref (E.2.2.2 13)]) ⟨hx, hb, hml, hown, hts⟩ (c_S_bitOf l E I (gp_uF (gp_uF F 10 (fun j => if j < t then gp_ch F ns np fr mb j else F 10 j)) 11 (fun j => if j < t then gp_bn I F j nt else F 11 j)) (F 14 t)) (k_S_57 hts ⟨by dsimp only [gp_rm]; omega, by dsimp only [gp_rm]; omega⟩ rfl rfl) hK hP rfl rfl rfl hl.1 rfl (Nat.le_of_ble_eq_true rfl) d_S_find_70 ⟨Nat.le_of_ble_eq_true rfl, Nat.le_of_ble_eq_true rfl⟩ ?_
                refine lv_goto (tgt := 89) hx hb d_S_find_73 (by decide) ?_
                refine gp_ast (f := (fun j => if j < t then gp_ch F ns np fr mb j else F 10 j)) (n := 6) hx hb hK hP hD hS 13 rfl (t) rfl (by omega) (by decide) d_S_find_89 (fun H locs hP hD hS => ?_)
                have hP : va_P E.1 gp_cl (gp_wG E I (gp_uF (gp_uF (gp_uF F 10 (fun j => if j < t then gp_ch F ns np fr mb j else F 10 j)) 11 (fun j => if j < t then gp_bn I F j nt else F 11 j)) 10 (upd (fun j => if j < t then gp_ch F ns np fr mb j else F 10 j) (t) (gp_bit (F 14 t))))) H := hP
                have hD : va_D A (gp_wG E I (gp_uF (gp_uF (gp_uF F 10 (fun j => if j < t then gp_ch F ns np fr mb j else F 10 j)) 11 (fun j => if j < t then gp_bn I F j nt else F 11 j)) 10 (upd (fun j => if j < t then gp_ch F ns np fr mb j else F 10 j) (t) (gp_bit (F 14 t))))) := hD
                refine lv_iload hx hb d_S_find_90 (lv_at hl 1 rfl) ?_
                refine lv_if_ne (tgt := 112) hx hb d_S_find_92 (by decide) (fun c92 => ?_) (fun c92 => ?_)
                · exact absurd c92 (by decide)
                · have c92 := c92
                  have nc92 : 0 = 0 := (nI_eq (a := 0) (b := 0) (by omega) (by omega)).mp c92
                  refine lv_aload_n hx hb d_S_find_95 rfl (lv_at hl 3 rfl) ?_
                  refine va_get (D := E.1) (cl := gp_cl) (ci := 2) (v := .ref (E.2.2.2 13)) (C := R_S) (T := T_S) (N := 9) hx hb hts i_S hown hK hP 2 rfl rfl 2 (by decide) (hts _ w1_91) (fun _ h9 => h9) rfl d_S_find_96 ?_
                  refine lv_iload hx hb d_S_find_99 (lv_at hl 2 rfl) ?_
                  refine lv_dup2_11 hx hb d_S_find_101 rfl rfl ?_
                  refine gp_ald (f := (upd (fun j => if j < t then gp_ch F ns np fr mb j else F 10 j) (t) (gp_bit (F 14 t)))) (n := 6) hx hb hK hP 13 rfl (t) rfl (by omega) (by decide) d_S_find_102 ?_
                  refine lv_aload_n hx hb d_S_find_103 rfl (lv_at hl 3 rfl) ?_
                  refine lv_iconst (v := (-1)) hx hb d_S_find_104 (by decide) ?_
                  refine gp_cR (q0 := 2) (ci := 2) (As := [.int (-1)]) (rest := [.int ((upd (fun j => if j < t then gp_ch F ns np fr mb j else F 10 j) (t) (gp_bit (F 14 t))) (t)), .int (nI t), .ref (E.2.2.2 13)]) ⟨hx, hb, hml, hown, hts⟩ (c_S_bitOf l E I (gp_uF (gp_uF (gp_uF F 10 (fun j => if j < t then gp_ch F ns np fr mb j else F 10 j)) 11 (fun j => if j < t then gp_bn I F j nt else F 11 j)) 10 (upd (fun j => if j < t then gp_ch F ns np fr mb j else F 10 j) (t) (gp_bit (F 14 t)))) (-1)) (k_S_57 hts ⟨by dsimp only [gp_rm]; omega, by dsimp only [gp_rm]; omega⟩ rfl rfl) hK hP rfl rfl rfl hl.1 rfl (Nat.le_of_ble_eq_true rfl) d_S_find_105 ⟨Nat.le_of_ble_eq_true rfl, Nat.le_of_ble_eq_true rfl⟩ ?_
                  refine lv_iconst (v := (-1)) hx hb d_S_find_108 (by decide) ?_
                  refine lv_ixor hx hb d_S_find_109 ?_
                  refine lv_iand hx hb d_S_find_110 ?_
                  refine gp_ast (f := (upd (fun j => if j < t then gp_ch F ns np fr mb j else F 10 j) (t) (gp_bit (F 14 t)))) (n := 6) hx hb hK hP hD hS 13 rfl (t) rfl (by omega) (by decide) d_S_find_111 (fun H locs hP hD hS => ?_)
                  have hP : va_P E.1 gp_cl (gp_wG E I (gp_uF (gp_uF (gp_uF (gp_uF F 10 (fun j => if j < t then gp_ch F ns np fr mb j else F 10 j)) 11 (fun j => if j < t then gp_bn I F j nt else F 11 j)) 10 (upd (fun j => if j < t then gp_ch F ns np fr mb j else F 10 j) (t) (gp_bit (F 14 t)))) 10 (upd (upd (fun j => if j < t then gp_ch F ns np fr mb j else F 10 j) (t) (gp_bit (F 14 t))) (t) (((upd (fun j => if j < t then gp_ch F ns np fr mb j else F 10 j) (t) (gp_bit (F 14 t))) (t)) &&& ((gp_bit (-1)) ^^^ (-1)))))) H := hP
                  have hD : va_D A (gp_wG E I (gp_uF (gp_uF (gp_uF (gp_uF F 10 (fun j => if j < t then gp_ch F ns np fr mb j else F 10 j)) 11 (fun j => if j < t then gp_bn I F j nt else F 11 j)) 10 (upd (fun j => if j < t then gp_ch F ns np fr mb j else F 10 j) (t) (gp_bit (F 14 t)))) 10 (upd (upd (fun j => if j < t then gp_ch F ns np fr mb j else F 10 j) (t) (gp_bit (F 14 t))) (t) (((upd (fun j => if j < t then gp_ch F ns np fr mb j else F 10 j) (t) (gp_bit (F 14 t))) (t)) &&& ((gp_bit (-1)) ^^^ (-1)))))) := hD
                  refine lv_aload_n hx hb d_S_find_112 rfl (lv_at hl 3 rfl) ?_
                  refine va_get (D := E.1) (cl := gp_cl) (ci := 2) (v := .ref (E.2.2.2 14)) (C := R_S) (T := T_S) (N := 9) hx hb hts i_S hown hK hP 2 rfl rfl 3 (by decide) (hts _ w1_92) (fun _ h9 => h9) rfl d_S_find_113 ?_
                  refine lv_iload hx hb d_S_find_116 (lv_at hl 2 rfl) ?_
                  refine lv_aload_n hx hb d_S_find_118 rfl (lv_at hl 3 rfl) ?_
                  refine lv_aload_n hx hb d_S_find_119 rfl (lv_at hl 4 rfl) ?_
                  refine lv_iload hx hb d_S_find_120 (lv_at hl 2 rfl) ?_
                  refine gp_cR (q0 := 2) (ci := 2) (As := [.ref (E.2.2.2 1), .int (nI t)]) (rest := [.int (nI t), .ref (E.2.2.2 14)]) ⟨hx, hb, hml, hown, hts⟩ (c_S_bitsOfTooNearF l E I F (gp_uF (gp_uF (gp_uF (gp_uF F 10 (fun j => if j < t then gp_ch F ns np fr mb j else F 10 j)) 11 (fun j => if j < t then gp_bn I F j nt else F 11 j)) 10 (upd (fun j => if j < t then gp_ch F ns np fr mb j else F 10 j) (t) (gp_bit (F 14 t)))) 10 (upd (upd (fun j => if j < t then gp_ch F ns np fr mb j else F 10 j) (t) (gp_bit (F 14 t))) (t) (((upd (fun j => if j < t then gp_ch F ns np fr mb j else F 10 j) (t) (gp_bit (F 14 t))) (t)) &&& ((gp_bit (-1)) ^^^ (-1))))) nt t (fun a h => by simp [gp_uF, show a ≠ 10 by omega, show a ≠ 11 by omega]) hT hnt (by omega)) (k_S_65 hts ⟨by dsimp only [gp_rm]; omega, by dsimp only [gp_rm]; omega⟩ rfl rfl) hK hP rfl rfl rfl hl.1 rfl (Nat.le_of_ble_eq_true rfl) d_S_find_122 ⟨Nat.le_of_ble_eq_true rfl, Nat.le_of_ble_eq_true rfl⟩ ?_
                  refine gp_ast (f := (fun j => if j < t then gp_bn I F j nt else F 11 j)) (n := 6) hx hb hK hP hD hS 14 rfl (t) rfl (by omega) (by decide) d_S_find_125 (fun H locs hP hD hS => ?_)
                  have hP : va_P E.1 gp_cl (gp_wG E I (gp_uF (gp_uF (gp_uF (gp_uF (gp_uF F 10 (fun j => if j < t then gp_ch F ns np fr mb j else F 10 j)) 11 (fun j => if j < t then gp_bn I F j nt else F 11 j)) 10 (upd (fun j => if j < t then gp_ch F ns np fr mb j else F 10 j) (t) (gp_bit (F 14 t)))) 10 (upd (upd (fun j => if j < t then gp_ch F ns np fr mb j else F 10 j) (t) (gp_bit (F 14 t))) (t) (((upd (fun j => if j < t then gp_ch F ns np fr mb j else F 10 j) (t) (gp_bit (F 14 t))) (t)) &&& ((gp_bit (-1)) ^^^ (-1))))) 11 (upd (fun j => if j < t then gp_bn I F j nt else F 11 j) (t) (gp_bn I F t nt)))) H := hP
                  have hD : va_D A (gp_wG E I (gp_uF (gp_uF (gp_uF (gp_uF (gp_uF F 10 (fun j => if j < t then gp_ch F ns np fr mb j else F 10 j)) 11 (fun j => if j < t then gp_bn I F j nt else F 11 j)) 10 (upd (fun j => if j < t then gp_ch F ns np fr mb j else F 10 j) (t) (gp_bit (F 14 t)))) 10 (upd (upd (fun j => if j < t then gp_ch F ns np fr mb j else F 10 j) (t) (gp_bit (F 14 t))) (t) (((upd (fun j => if j < t then gp_ch F ns np fr mb j else F 10 j) (t) (gp_bit (F 14 t))) (t)) &&& ((gp_bit (-1)) ^^^ (-1))))) 11 (upd (fun j => if j < t then gp_bn I F j nt else F 11 j) (t) (gp_bn I F t nt)))) := hD
                  refine lv_iinc (v := (nI (t + 1))) (lv' := [(5, .int (nI (t + 1))), (7, .int 1), (6, .int 0), (0, .ref (E.2.2.2 2)), (1, .ref (E.2.2.2 1)), (2, .ref (E.2.2.2 17)), (3, .int fr), (4, .int (nI mb))]) hx hb d_S_find_126 hl (k := 2) rfl (nI_1 _) (by decide) rfl (fun ls hl => ?_)
                  refine lv_goto (tgt := 3) hx hb d_S_find_129 (by decide) ?_
                  have hF : (gp_uF (gp_uF (gp_uF (gp_uF (gp_uF F 10 (fun j => if j < t then gp_ch F ns np fr mb j else F 10 j)) 11 (fun j => if j < t then gp_bn I F j nt else F 11 j)) 10 (upd (fun j => if j < t then gp_ch F ns np fr mb j else F 10 j) (t) (gp_bit (F 14 t)))) 10 (upd (upd (fun j => if j < t then gp_ch F ns np fr mb j else F 10 j) (t) (gp_bit (F 14 t))) (t) (((upd (fun j => if j < t then gp_ch F ns np fr mb j else F 10 j) (t) (gp_bit (F 14 t))) (t)) &&& ((gp_bit (-1)) ^^^ (-1))))) 11 (upd (fun j => if j < t then gp_bn I F j nt else F 11 j) (t) (gp_bn I F t nt))) = (gp_uF (gp_uF F 10 (fun j => if j < (t + 1) then gp_ch F ns np fr mb j else F 10 j)) 11 (fun j => if j < (t + 1) then gp_bn I F j nt else F 11 j)) := gp_F2 (by decide) (by first | exact gp_up1 (h := gp_ch F ns np fr mb) (k := F 10) (by simp [gp_ch, gp_c0, h1, c9, nc9, c19, c26, nc26, c44, mc44, c62, nc62, c92, nc92]) | exact gp_up2 (h := gp_ch F ns np fr mb) (k := F 10) (by simp [gp_ch, gp_c0, upd, h1, c9, nc9, c19, c26, nc26, c44, mc44, c62, nc62, c92, nc92])) (gp_up1 (h := fun j => gp_bn I F j nt) (k := F 11) rfl) (fun c h1 h2 => by simp [gp_uF, h1, h2])
                  rw [hF] at hP
                  exact ih3 (t + 1) (by omega) (by omega) ls _ _ (lv_sub hl [0, 3, 4, 5, 6, 7] rfl) (hP) (gp_dd hD rfl) hS
          · have c26 := c26
            have nc26 : ¬ t < mb := fun h => c26 ((nI_ltI (a := t) (b := mb) (by omega) (by omega)).mpr h)
            refine lv_iconst (v := 1) hx hb d_S_find_29 (by decide) ?_
            refine lv_goto (tgt := 34) hx hb d_S_find_30 (by decide) ?_
            refine lv_istore (lv' := [(6, .int 1), (5, .int (nI t)), (0, .ref (E.2.2.2 2)), (1, .ref (E.2.2.2 1)), (2, .ref (E.2.2.2 17)), (3, .int fr), (4, .int (nI mb))]) hx hb d_S_find_34 hl (by decide) rfl (fun ls hl => ?_)
            refine lv_aload_n hx hb d_S_find_36 rfl (lv_at hl 3 rfl) ?_
            refine va_get (D := E.1) (cl := gp_cl) (ci := 1) (v := .ref (E.2.2.2 8)) (C := R_D) (T := T_D) (N := 13) hx hb hts i_D hown hK hP 1 rfl rfl 5 (by decide) (hts _ w1_33) (fun _ h9 => h9) rfl d_S_find_37 ?_
            refine lv_iload hx hb d_S_find_40 (lv_at hl 1 rfl) ?_
            refine gp_ald (f := (F 5)) (n := 6) hx hb hK hP 8 rfl (t) rfl (by omega) (by decide) d_S_find_42 ?_
            refine lv_iload_n hx hb d_S_find_43 rfl (lv_at hl 5 rfl) ?_
            refine lv_icmp_ge (tgt := 51) hx hb d_S_find_44 (by decide) (fun c44 => ?_) (fun c44 => ?_)
            · have c44 := c44
              have mc44 : ¬ ((F 5) (t)) < fr := Int32.not_lt.mpr c44
              refine lv_iconst (v := 0) hx hb d_S_find_51 (by decide) ?_
              refine lv_istore (lv' := [(7, .int 0), (6, .int 1), (5, .int (nI t)), (0, .ref (E.2.2.2 2)), (1, .ref (E.2.2.2 1)), (2, .ref (E.2.2.2 17)), (3, .int fr), (4, .int (nI mb))]) hx hb d_S_find_52 hl (by decide) rfl (fun ls hl => ?_)
              refine lv_aload_n hx hb d_S_find_54 rfl (lv_at hl 3 rfl) ?_
              refine va_get (D := E.1) (cl := gp_cl) (ci := 2) (v := .ref (E.2.2.2 13)) (C := R_S) (T := T_S) (N := 9) hx hb hts i_S hown hK hP 2 rfl rfl 2 (by decide) (hts _ w1_91) (fun _ h9 => h9) rfl d_S_find_55 ?_
              refine lv_iload hx hb d_S_find_58 (lv_at hl 2 rfl) ?_
              refine lv_iload hx hb d_S_find_60 (lv_at hl 0 rfl) ?_
              refine lv_if_eq (tgt := 76) hx hb d_S_find_62 (by decide) (fun c62 => ?_) (fun c62 => ?_)
              · have c62 := c62
                have nc62 : 0 = 0 := (nI_eq (a := 0) (b := 0) (by omega) (by omega)).mp c62
                refine lv_aload_n hx hb d_S_find_76 rfl (lv_at hl 3 rfl) ?_
                refine lv_aload_n hx hb d_S_find_77 rfl (lv_at hl 4 rfl) ?_
                refine lv_iload hx hb d_S_find_78 (lv_at hl 2 rfl) ?_
                refine gp_cR (q0 := 2) (ci := 2) (As := [.ref (E.2.2.2 1), .int (nI t)]) (rest := [.int (nI t), .ref (E.2.2.2 13)]) ⟨hx, hb, hml, hown, hts⟩ (c_S_bitsOfSuitingF l E I F (gp_uF (gp_uF F 10 (fun j => if j < t then gp_ch F ns np fr mb j else F 10 j)) 11 (fun j => if j < t then gp_bn I F j nt else F 11 j)) np nt ns t (fun a h => by simp [gp_uF, show a ≠ 10 by omega, show a ≠ 11 by omega]) hp4 hT hN hnp hnt hns (by omega)) (k_S_61 hts ⟨by dsimp only [gp_rm]; omega, by dsimp only [gp_rm]; omega⟩ rfl rfl) hK hP rfl rfl rfl hl.1 rfl (Nat.le_of_ble_eq_true rfl) d_S_find_80 ⟨Nat.le_of_ble_eq_true rfl, Nat.le_of_ble_eq_true rfl⟩ ?_
                refine lv_aload_n hx hb d_S_find_83 rfl (lv_at hl 3 rfl) ?_
                refine lv_iconst (v := (-1)) hx hb d_S_find_84 (by decide) ?_
                refine gp_cR (q0 := 2) (ci := 2) (As := [.int (-1)]) (rest := [.int (gp_bs F ns t np), .int (nI t), .ref (E.2.2.2 13)]) ⟨hx, hb, hml, hown, hts⟩ (c_S_bitOf l E I (gp_uF (gp_uF F 10 (fun j => if j < t then gp_ch F ns np fr mb j else F 10 j)) 11 (fun j => if j < t then gp_bn I F j nt else F 11 j)) (-1)) (k_S_57 hts ⟨by dsimp only [gp_rm]; omega, by dsimp only [gp_rm]; omega⟩ rfl rfl) hK hP rfl rfl rfl hl.1 rfl (Nat.le_of_ble_eq_true rfl) d_S_find_85 ⟨Nat.le_of_ble_eq_true rfl, Nat.le_of_ble_eq_true rfl⟩ ?_
                refine lv_ior hx hb d_S_find_88 ?_
                refine gp_ast (f := (fun j => if j < t then gp_ch F ns np fr mb j else F 10 j)) (n := 6) hx hb hK hP hD hS 13 rfl (t) rfl (by omega) (by decide) d_S_find_89 (fun H locs hP hD hS => ?_)
                have hP : va_P E.1 gp_cl (gp_wG E I (gp_uF (gp_uF (gp_uF F 10 (fun j => if j < t then gp_ch F ns np fr mb j else F 10 j)) 11 (fun j => if j < t then gp_bn I F j nt else F 11 j)) 10 (upd (fun j => if j < t then gp_ch F ns np fr mb j else F 10 j) (t) ((gp_bs F ns t np) ||| (gp_bit (-1)))))) H := hP
                have hD : va_D A (gp_wG E I (gp_uF (gp_uF (gp_uF F 10 (fun j => if j < t then gp_ch F ns np fr mb j else F 10 j)) 11 (fun j => if j < t then gp_bn I F j nt else F 11 j)) 10 (upd (fun j => if j < t then gp_ch F ns np fr mb j else F 10 j) (t) ((gp_bs F ns t np) ||| (gp_bit (-1)))))) := hD
                refine lv_iload hx hb d_S_find_90 (lv_at hl 1 rfl) ?_
                refine lv_if_ne (tgt := 112) hx hb d_S_find_92 (by decide) (fun c92 => ?_) (fun c92 => ?_)
                · have c92 := c92
                  have nc92 : ¬ 1 = 0 := fun h => c92 ((nI_eq (a := 1) (b := 0) (by omega) (by omega)).mpr h)
                  refine lv_aload_n hx hb d_S_find_112 rfl (lv_at hl 3 rfl) ?_
                  refine va_get (D := E.1) (cl := gp_cl) (ci := 2) (v := .ref (E.2.2.2 14)) (C := R_S) (T := T_S) (N := 9) hx hb hts i_S hown hK hP 2 rfl rfl 3 (by decide) (hts _ w1_92) (fun _ h9 => h9) rfl d_S_find_113 ?_
                  refine lv_iload hx hb d_S_find_116 (lv_at hl 2 rfl) ?_
                  refine lv_aload_n hx hb d_S_find_118 rfl (lv_at hl 3 rfl) ?_
                  refine lv_aload_n hx hb d_S_find_119 rfl (lv_at hl 4 rfl) ?_
                  refine lv_iload hx hb d_S_find_120 (lv_at hl 2 rfl) ?_
                  refine gp_cR (q0 := 2) (ci := 2) (As := [.ref (E.2.2.2 1), .int (nI t)]) (rest := [.int (nI t), .ref (E.2.2.2 14)]) ⟨hx, hb, hml, hown, hts⟩ (c_S_bitsOfTooNearF l E I F (gp_uF (gp_uF (gp_uF F 10 (fun j => if j < t then gp_ch F ns np fr mb j else F 10 j)) 11 (fun j => if j < t then gp_bn I F j nt else F 11 j)) 10 (upd (fun j => if j < t then gp_ch F ns np fr mb j else F 10 j) (t) ((gp_bs F ns t np) ||| (gp_bit (-1))))) nt t (fun a h => by simp [gp_uF, show a ≠ 10 by omega, show a ≠ 11 by omega]) hT hnt (by omega)) (k_S_65 hts ⟨by dsimp only [gp_rm]; omega, by dsimp only [gp_rm]; omega⟩ rfl rfl) hK hP rfl rfl rfl hl.1 rfl (Nat.le_of_ble_eq_true rfl) d_S_find_122 ⟨Nat.le_of_ble_eq_true rfl, Nat.le_of_ble_eq_true rfl⟩ ?_
                  refine gp_ast (f := (fun j => if j < t then gp_bn I F j nt else F 11 j)) (n := 6) hx hb hK hP hD hS 14 rfl (t) rfl (by omega) (by decide) d_S_find_125 (fun H locs hP hD hS => ?_)
                  have hP : va_P E.1 gp_cl (gp_wG E I (gp_uF (gp_uF (gp_uF (gp_uF F 10 (fun j => if j < t then gp_ch F ns np fr mb j else F 10 j)) 11 (fun j => if j < t then gp_bn I F j nt else F 11 j)) 10 (upd (fun j => if j < t then gp_ch F ns np fr mb j else F 10 j) (t) ((gp_bs F ns t np) ||| (gp_bit (-1))))) 11 (upd (fun j => if j < t then gp_bn I F j nt else F 11 j) (t) (gp_bn I F t nt)))) H := hP
                  have hD : va_D A (gp_wG E I (gp_uF (gp_uF (gp_uF (gp_uF F 10 (fun j => if j < t then gp_ch F ns np fr mb j else F 10 j)) 11 (fun j => if j < t then gp_bn I F j nt else F 11 j)) 10 (upd (fun j => if j < t then gp_ch F ns np fr mb j else F 10 j) (t) ((gp_bs F ns t np) ||| (gp_bit (-1))))) 11 (upd (fun j => if j < t then gp_bn I F j nt else F 11 j) (t) (gp_bn I F t nt)))) := hD
                  refine lv_iinc (v := (nI (t + 1))) (lv' := [(5, .int (nI (t + 1))), (7, .int 0), (6, .int 1), (0, .ref (E.2.2.2 2)), (1, .ref (E.2.2.2 1)), (2, .ref (E.2.2.2 17)), (3, .int fr), (4, .int (nI mb))]) hx hb d_S_find_126 hl (k := 2) rfl (nI_1 _) (by decide) rfl (fun ls hl => ?_)
                  refine lv_goto (tgt := 3) hx hb d_S_find_129 (by decide) ?_
                  have hF : (gp_uF (gp_uF (gp_uF (gp_uF F 10 (fun j => if j < t then gp_ch F ns np fr mb j else F 10 j)) 11 (fun j => if j < t then gp_bn I F j nt else F 11 j)) 10 (upd (fun j => if j < t then gp_ch F ns np fr mb j else F 10 j) (t) ((gp_bs F ns t np) ||| (gp_bit (-1))))) 11 (upd (fun j => if j < t then gp_bn I F j nt else F 11 j) (t) (gp_bn I F t nt))) = (gp_uF (gp_uF F 10 (fun j => if j < (t + 1) then gp_ch F ns np fr mb j else F 10 j)) 11 (fun j => if j < (t + 1) then gp_bn I F j nt else F 11 j)) := gp_F2 (by decide) (by first | exact gp_up1 (h := gp_ch F ns np fr mb) (k := F 10) (by simp [gp_ch, gp_c0, h1, c9, nc9, c19, c26, nc26, c44, mc44, c62, nc62, c92, nc92]) | exact gp_up2 (h := gp_ch F ns np fr mb) (k := F 10) (by simp [gp_ch, gp_c0, upd, h1, c9, nc9, c19, c26, nc26, c44, mc44, c62, nc62, c92, nc92])) (gp_up1 (h := fun j => gp_bn I F j nt) (k := F 11) rfl) (fun c h1 h2 => by simp [gp_uF, h1, h2])
                  rw [hF] at hP
                  exact ih3 (t + 1) (by omega) (by omega) ls _ _ (lv_sub hl [0, 3, 4, 5, 6, 7] rfl) (hP) (gp_dd hD rfl) hS
                · exact absurd c92 (by decide)
              · exact absurd c62 (by decide)
            · have c44 := c44
              have mc44 : ((F 5) (t)) < fr := Int32.not_le.mp c44
              refine lv_iconst (v := 1) hx hb d_S_find_47 (by decide) ?_
              refine lv_goto (tgt := 52) hx hb d_S_find_48 (by decide) ?_
              refine lv_istore (lv' := [(7, .int 1), (6, .int 1), (5, .int (nI t)), (0, .ref (E.2.2.2 2)), (1, .ref (E.2.2.2 1)), (2, .ref (E.2.2.2 17)), (3, .int fr), (4, .int (nI mb))]) hx hb d_S_find_52 hl (by decide) rfl (fun ls hl => ?_)
              refine lv_aload_n hx hb d_S_find_54 rfl (lv_at hl 3 rfl) ?_
              refine va_get (D := E.1) (cl := gp_cl) (ci := 2) (v := .ref (E.2.2.2 13)) (C := R_S) (T := T_S) (N := 9) hx hb hts i_S hown hK hP 2 rfl rfl 2 (by decide) (hts _ w1_91) (fun _ h9 => h9) rfl d_S_find_55 ?_
              refine lv_iload hx hb d_S_find_58 (lv_at hl 2 rfl) ?_
              refine lv_iload hx hb d_S_find_60 (lv_at hl 0 rfl) ?_
              refine lv_if_eq (tgt := 76) hx hb d_S_find_62 (by decide) (fun c62 => ?_) (fun c62 => ?_)
              · exact absurd c62 (by decide)
              · have c62 := c62
                have nc62 : ¬ 1 = 0 := fun h => c62 ((nI_eq (a := 1) (b := 0) (by omega) (by omega)).mpr h)
                refine lv_aload_n hx hb d_S_find_65 rfl (lv_at hl 3 rfl) ?_
                refine lv_aload_n hx hb d_S_find_66 rfl (lv_at hl 5 rfl) ?_
                refine lv_iload hx hb d_S_find_67 (lv_at hl 2 rfl) ?_
                refine gp_ald (f := (F 14)) (n := 6) hx hb hK hP 17 rfl (t) rfl (by omega) (by decide) d_S_find_69 ?_
                refine gp_cR (q0 := 2) (ci := 2) (As := [.int ((F 14) (t))]) (rest := [.int (nI t), .ref (E.2.2.2 13)]) ⟨hx, hb, hml, hown, hts⟩ (c_S_bitOf l E I (gp_uF (gp_uF F 10 (fun j => if j < t then gp_ch F ns np fr mb j else F 10 j)) 11 (fun j => if j < t then gp_bn I F j nt else F 11 j)) (F 14 t)) (k_S_57 hts ⟨by dsimp only [gp_rm]; omega, by dsimp only [gp_rm]; omega⟩ rfl rfl) hK hP rfl rfl rfl hl.1 rfl (Nat.le_of_ble_eq_true rfl) d_S_find_70 ⟨Nat.le_of_ble_eq_true rfl, Nat.le_of_ble_eq_true rfl⟩ ?_
                refine lv_goto (tgt := 89) hx hb d_S_find_73 (by decide) ?_
                refine gp_ast (f := (fun j => if j < t then gp_ch F ns np fr mb j else F 10 j)) (n := 6) hx hb hK hP hD hS 13 rfl (t) rfl (by omega) (by decide) d_S_find_89 (fun H locs hP hD hS => ?_)
                have hP : va_P E.1 gp_cl (gp_wG E I (gp_uF (gp_uF (gp_uF F 10 (fun j => if j < t then gp_ch F ns np fr mb j else F 10 j)) 11 (fun j => if j < t then gp_bn I F j nt else F 11 j)) 10 (upd (fun j => if j < t then gp_ch F ns np fr mb j else F 10 j) (t) (gp_bit (F 14 t))))) H := hP
                have hD : va_D A (gp_wG E I (gp_uF (gp_uF (gp_uF F 10 (fun j => if j < t then gp_ch F ns np fr mb j else F 10 j)) 11 (fun j => if j < t then gp_bn I F j nt else F 11 j)) 10 (upd (fun j => if j < t then gp_ch F ns np fr mb j else F 10 j) (t) (gp_bit (F 14 t))))) := hD
                refine lv_iload hx hb d_S_find_90 (lv_at hl 1 rfl) ?_
                refine lv_if_ne (tgt := 112) hx hb d_S_find_92 (by decide) (fun c92 => ?_) (fun c92 => ?_)
                · have c92 := c92
                  have nc92 : ¬ 1 = 0 := fun h => c92 ((nI_eq (a := 1) (b := 0) (by omega) (by omega)).mpr h)
                  refine lv_aload_n hx hb d_S_find_112 rfl (lv_at hl 3 rfl) ?_
                  refine va_get (D := E.1) (cl := gp_cl) (ci := 2) (v := .ref (E.2.2.2 14)) (C := R_S) (T := T_S) (N := 9) hx hb hts i_S hown hK hP 2 rfl rfl 3 (by decide) (hts _ w1_92) (fun _ h9 => h9) rfl d_S_find_113 ?_
                  refine lv_iload hx hb d_S_find_116 (lv_at hl 2 rfl) ?_
                  refine lv_aload_n hx hb d_S_find_118 rfl (lv_at hl 3 rfl) ?_
                  refine lv_aload_n hx hb d_S_find_119 rfl (lv_at hl 4 rfl) ?_
                  refine lv_iload hx hb d_S_find_120 (lv_at hl 2 rfl) ?_
                  refine gp_cR (q0 := 2) (ci := 2) (As := [.ref (E.2.2.2 1), .int (nI t)]) (rest := [.int (nI t), .ref (E.2.2.2 14)]) ⟨hx, hb, hml, hown, hts⟩ (c_S_bitsOfTooNearF l E I F (gp_uF (gp_uF (gp_uF F 10 (fun j => if j < t then gp_ch F ns np fr mb j else F 10 j)) 11 (fun j => if j < t then gp_bn I F j nt else F 11 j)) 10 (upd (fun j => if j < t then gp_ch F ns np fr mb j else F 10 j) (t) (gp_bit (F 14 t)))) nt t (fun a h => by simp [gp_uF, show a ≠ 10 by omega, show a ≠ 11 by omega]) hT hnt (by omega)) (k_S_65 hts ⟨by dsimp only [gp_rm]; omega, by dsimp only [gp_rm]; omega⟩ rfl rfl) hK hP rfl rfl rfl hl.1 rfl (Nat.le_of_ble_eq_true rfl) d_S_find_122 ⟨Nat.le_of_ble_eq_true rfl, Nat.le_of_ble_eq_true rfl⟩ ?_
                  refine gp_ast (f := (fun j => if j < t then gp_bn I F j nt else F 11 j)) (n := 6) hx hb hK hP hD hS 14 rfl (t) rfl (by omega) (by decide) d_S_find_125 (fun H locs hP hD hS => ?_)
                  have hP : va_P E.1 gp_cl (gp_wG E I (gp_uF (gp_uF (gp_uF (gp_uF F 10 (fun j => if j < t then gp_ch F ns np fr mb j else F 10 j)) 11 (fun j => if j < t then gp_bn I F j nt else F 11 j)) 10 (upd (fun j => if j < t then gp_ch F ns np fr mb j else F 10 j) (t) (gp_bit (F 14 t)))) 11 (upd (fun j => if j < t then gp_bn I F j nt else F 11 j) (t) (gp_bn I F t nt)))) H := hP
                  have hD : va_D A (gp_wG E I (gp_uF (gp_uF (gp_uF (gp_uF F 10 (fun j => if j < t then gp_ch F ns np fr mb j else F 10 j)) 11 (fun j => if j < t then gp_bn I F j nt else F 11 j)) 10 (upd (fun j => if j < t then gp_ch F ns np fr mb j else F 10 j) (t) (gp_bit (F 14 t)))) 11 (upd (fun j => if j < t then gp_bn I F j nt else F 11 j) (t) (gp_bn I F t nt)))) := hD
                  refine lv_iinc (v := (nI (t + 1))) (lv' := [(5, .int (nI (t + 1))), (7, .int 1), (6, .int 1), (0, .ref (E.2.2.2 2)), (1, .ref (E.2.2.2 1)), (2, .ref (E.2.2.2 17)), (3, .int fr), (4, .int (nI mb))]) hx hb d_S_find_126 hl (k := 2) rfl (nI_1 _) (by decide) rfl (fun ls hl => ?_)
                  refine lv_goto (tgt := 3) hx hb d_S_find_129 (by decide) ?_
                  have hF : (gp_uF (gp_uF (gp_uF (gp_uF F 10 (fun j => if j < t then gp_ch F ns np fr mb j else F 10 j)) 11 (fun j => if j < t then gp_bn I F j nt else F 11 j)) 10 (upd (fun j => if j < t then gp_ch F ns np fr mb j else F 10 j) (t) (gp_bit (F 14 t)))) 11 (upd (fun j => if j < t then gp_bn I F j nt else F 11 j) (t) (gp_bn I F t nt))) = (gp_uF (gp_uF F 10 (fun j => if j < (t + 1) then gp_ch F ns np fr mb j else F 10 j)) 11 (fun j => if j < (t + 1) then gp_bn I F j nt else F 11 j)) := gp_F2 (by decide) (by first | exact gp_up1 (h := gp_ch F ns np fr mb) (k := F 10) (by simp [gp_ch, gp_c0, h1, c9, nc9, c19, c26, nc26, c44, mc44, c62, nc62, c92, nc92]) | exact gp_up2 (h := gp_ch F ns np fr mb) (k := F 10) (by simp [gp_ch, gp_c0, upd, h1, c9, nc9, c19, c26, nc26, c44, mc44, c62, nc62, c92, nc92])) (gp_up1 (h := fun j => gp_bn I F j nt) (k := F 11) rfl) (fun c h1 h2 => by simp [gp_uF, h1, h2])
                  rw [hF] at hP
                  exact ih3 (t + 1) (by omega) (by omega) ls _ _ (lv_sub hl [0, 3, 4, 5, 6, 7] rfl) (hP) (gp_dd hD rfl) hS
                · exact absurd c92 (by decide)
  exact L3 (nt + 1) 0 (Nat.zero_le _) (by omega) ls _ _ (lv_sub hl [0, 1, 2, 3, 4, 5] rfl) (by rw [← gp_F2 (F := F) (G := F) (a := 10) (b := 11) (by decide) (f := (fun j => if j < 0 then gp_ch F ns np fr mb j else F 10 j)) (g := (fun j => if j < 0 then gp_bn I F j nt else F 11 j)) (by funext j; simp) (by funext j; simp) (fun _ _ _ => rfl)]; exact hP) (gp_dd hD rfl) hS
set_option maxHeartbeats 4000000 in
set_option maxRecDepth 100000 in
theorem c_S_findAnew (l : Launch) (E : gp_E) (I : Nat → Int32) (F : Nat → Nat → Int32) (np nt ns : Nat) (hp4 : I 4 = nI np) (hT : I 6 = nI nt) (hN : I 5 = nI ns) (hnp : np ≤ 4) (hnt : nt ≤ 6) (hns : ns ≤ 20) : gp_CW l y_S_findAnew b_S_findAnew 3 (some .boolean) 18 E (gp_wG E I F) (gp_wG E (gp_fd np nt ns 0 nt (upd (upd I 9 0) 10 1, F)).1 (gp_fd np nt ns 0 nt (upd (upd I 9 0) 10 1, F)).2) [.ref (E.2.2.2 2), .ref (E.2.2.2 1), .ref (E.2.2.2 17)] (some (.int (if (gp_fd np nt ns 0 nt (upd (upd I 9 0) 10 1, F)).1 11 < 1000000 then 1 else 0))) := by
  refine gp_ofW (by decide) (Nat.le_of_ble_eq_true rfl) ?_
  intro xp xe xs xm below meth xc ls A hx hb hr hts hown hlocks hml hP hK hD hA hAe hl
  have hS : va_S A xs.heap xs.heap [] := va_S.rf
  have hown : xs.vm.findClass "GuidePlans$Search" = some xm.cls := hown
  have hl : lv_has ls 3 [(0, .ref (E.2.2.2 2)), (1, .ref (E.2.2.2 1)), (2, .ref (E.2.2.2 17))] := hl
  refine lv_aload_n hx hb d_S_findAnew_0 rfl (lv_at hl 0 rfl) ?_
  refine lv_iconst (v := 0) hx hb d_S_findAnew_1 (by decide) ?_
  refine va_put (D := E.1) (cl := gp_cl) (ci := 2) (v := .int 0) (ty := .int) (C := R_S) (T := T_S) (N := 9) hx hb hts i_S t_S t_S_ok n_S hown hK hP hD hS 2 rfl rfl 6 (by decide) (hts _ w1_95) (fun _ h9 => h9) rfl (by decide +kernel) rfl rfl (Nat.le_of_ble_eq_true rfl) d_S_findAnew_2 (fun H locs hP hD hS => ?_)
  have hP : va_P E.1 gp_cl (gp_wG E (upd I 9 0) F) H := hP
  have hD : va_D A (gp_wG E (upd I 9 0) F) := hD
  refine lv_aload_n hx hb d_S_findAnew_5 rfl (lv_at hl 0 rfl) ?_
  refine lv_iconst (v := 1) hx hb d_S_findAnew_6 (by decide) ?_
  refine va_put (D := E.1) (cl := gp_cl) (ci := 2) (v := .int 1) (ty := .int) (C := R_S) (T := T_S) (N := 9) hx hb hts i_S t_S t_S_ok n_S hown hK hP hD hS 2 rfl rfl 7 (by decide) (hts _ w1_96) (fun _ h9 => h9) rfl (by decide +kernel) rfl rfl (Nat.le_of_ble_eq_true rfl) d_S_findAnew_7 (fun H locs hP hD hS => ?_)
  have hP : va_P E.1 gp_cl (gp_wG E (upd (upd I 9 0) 10 1) F) H := hP
  have hD : va_D A (gp_wG E (upd (upd I 9 0) 10 1) F) := hD
  refine lv_aload_n hx hb d_S_findAnew_10 rfl (lv_at hl 0 rfl) ?_
  refine lv_aload_n hx hb d_S_findAnew_11 rfl (lv_at hl 1 rfl) ?_
  refine lv_aload_n hx hb d_S_findAnew_12 rfl (lv_at hl 2 rfl) ?_
  refine lv_iconst (v := 0) hx hb d_S_findAnew_13 (by decide) ?_
  refine lv_aload_n hx hb d_S_findAnew_14 rfl (lv_at hl 1 rfl) ?_
  refine va_get (D := E.1) (cl := gp_cl) (ci := 1) (v := .int (nI nt)) (C := R_D) (T := T_D) (N := 13) hx hb hts i_D hown hK hP 1 rfl rfl 10 (by decide) (hts _ w1_45) (fun _ h9 => h9) (congrArg (fun z => some (Value.int z)) hT) d_S_findAnew_15 ?_
  refine gp_cW (q0 := 2) (ci := 2) (As := [.ref (E.2.2.2 1), .ref (E.2.2.2 17), .int 0, .int (nI nt)]) (rest := []) ⟨hx, hb, hml, hown, hts⟩ (c_S_find l E (upd (upd I 9 0) 10 1) F np nt ns nt 0 hp4 hT hN hnp hnt hns hnt) (k_S_46 hts ⟨by decide, by decide⟩ rfl rfl) hK hP hD hS hA rfl rfl rfl rfl hl.1 rfl (Nat.le_of_ble_eq_true rfl) d_S_findAnew_18 ⟨Nat.le_of_ble_eq_true rfl, Nat.le_of_ble_eq_true rfl⟩ (fun H locs hP hD hS => ?_)
  have hP : va_P E.1 gp_cl (gp_wG E (gp_fd np nt ns 0 nt (upd (upd I 9 0) 10 1, F)).1 (gp_fd np nt ns 0 nt (upd (upd I 9 0) 10 1, F)).2) H := hP
  have hD : va_D A (gp_wG E (gp_fd np nt ns 0 nt (upd (upd I 9 0) 10 1, F)).1 (gp_fd np nt ns 0 nt (upd (upd I 9 0) 10 1, F)).2) := hD
  refine W.eq (g2 := F0 xm 21 ls [.int (if (gp_fd np nt ns 0 nt (upd (upd I 9 0) 10 1, F)).1 11 < 1000000 then 1 else 0)]) rfl ?_
  exact gp_wz hx hb hr hlocks hAe (by split <;> rfl) (rfl) (hP) hS d_S_findAnew_21
set_option maxHeartbeats 4000000 in
set_option maxRecDepth 100000 in
theorem c_S_findNearest (l : Launch) (E : gp_E) (I : Nat → Int32) (F : Nat → Nat → Int32) (np nt ns : Nat) (fr : Int32) (hp4 : I 4 = nI np) (hT : I 6 = nI nt) (hN : I 5 = nI ns) (hnp : np ≤ 4) (hnt : nt ≤ 6) (hns : ns ≤ 20) : gp_CW l y_S_findNearest b_S_findNearest 4 (some .boolean) 18 E (gp_wG E I F) (gp_wG E (gp_fd np nt ns fr nt (upd (upd I 9 1000) 10 1, F)).1 (gp_fd np nt ns fr nt (upd (upd I 9 1000) 10 1, F)).2) [.ref (E.2.2.2 2), .ref (E.2.2.2 1), .ref (E.2.2.2 17), .int fr] (some (.int (if (gp_fd np nt ns fr nt (upd (upd I 9 1000) 10 1, F)).1 11 < 1000000 then 1 else 0))) := by
  refine gp_ofW (by decide) (Nat.le_of_ble_eq_true rfl) ?_
  intro xp xe xs xm below meth xc ls A hx hb hr hts hown hlocks hml hP hK hD hA hAe hl
  have hS : va_S A xs.heap xs.heap [] := va_S.rf
  have hown : xs.vm.findClass "GuidePlans$Search" = some xm.cls := hown
  have hl : lv_has ls 4 [(0, .ref (E.2.2.2 2)), (1, .ref (E.2.2.2 1)), (2, .ref (E.2.2.2 17)), (3, .int fr)] := hl
  refine lv_aload_n hx hb d_S_findNearest_0 rfl (lv_at hl 0 rfl) ?_
  refine lv_sipush (v := 1000) hx hb d_S_findNearest_1 (by decide) ?_
  refine va_put (D := E.1) (cl := gp_cl) (ci := 2) (v := .int 1000) (ty := .int) (C := R_S) (T := T_S) (N := 9) hx hb hts i_S t_S t_S_ok n_S hown hK hP hD hS 2 rfl rfl 6 (by decide) (hts _ w1_95) (fun _ h9 => h9) rfl (by decide +kernel) rfl rfl (Nat.le_of_ble_eq_true rfl) d_S_findNearest_4 (fun H locs hP hD hS => ?_)
  have hP : va_P E.1 gp_cl (gp_wG E (upd I 9 1000) F) H := hP
  have hD : va_D A (gp_wG E (upd I 9 1000) F) := hD
  refine lv_aload_n hx hb d_S_findNearest_7 rfl (lv_at hl 0 rfl) ?_
  refine lv_iconst (v := 1) hx hb d_S_findNearest_8 (by decide) ?_
  refine va_put (D := E.1) (cl := gp_cl) (ci := 2) (v := .int 1) (ty := .int) (C := R_S) (T := T_S) (N := 9) hx hb hts i_S t_S t_S_ok n_S hown hK hP hD hS 2 rfl rfl 7 (by decide) (hts _ w1_96) (fun _ h9 => h9) rfl (by decide +kernel) rfl rfl (Nat.le_of_ble_eq_true rfl) d_S_findNearest_9 (fun H locs hP hD hS => ?_)
  have hP : va_P E.1 gp_cl (gp_wG E (upd (upd I 9 1000) 10 1) F) H := hP
  have hD : va_D A (gp_wG E (upd (upd I 9 1000) 10 1) F) := hD
  refine lv_aload_n hx hb d_S_findNearest_12 rfl (lv_at hl 0 rfl) ?_
  refine lv_aload_n hx hb d_S_findNearest_13 rfl (lv_at hl 1 rfl) ?_
  refine lv_aload_n hx hb d_S_findNearest_14 rfl (lv_at hl 2 rfl) ?_
  refine lv_iload_n hx hb d_S_findNearest_15 rfl (lv_at hl 3 rfl) ?_
  refine lv_aload_n hx hb d_S_findNearest_16 rfl (lv_at hl 1 rfl) ?_
  refine va_get (D := E.1) (cl := gp_cl) (ci := 1) (v := .int (nI nt)) (C := R_D) (T := T_D) (N := 13) hx hb hts i_D hown hK hP 1 rfl rfl 10 (by decide) (hts _ w1_45) (fun _ h9 => h9) (congrArg (fun z => some (Value.int z)) hT) d_S_findNearest_17 ?_
  refine gp_cW (q0 := 2) (ci := 2) (As := [.ref (E.2.2.2 1), .ref (E.2.2.2 17), .int fr, .int (nI nt)]) (rest := []) ⟨hx, hb, hml, hown, hts⟩ (c_S_find l E (upd (upd I 9 1000) 10 1) F np nt ns nt fr hp4 hT hN hnp hnt hns hnt) (k_S_46 hts ⟨by decide, by decide⟩ rfl rfl) hK hP hD hS hA rfl rfl rfl rfl hl.1 rfl (Nat.le_of_ble_eq_true rfl) d_S_findNearest_20 ⟨Nat.le_of_ble_eq_true rfl, Nat.le_of_ble_eq_true rfl⟩ (fun H locs hP hD hS => ?_)
  have hP : va_P E.1 gp_cl (gp_wG E (gp_fd np nt ns fr nt (upd (upd I 9 1000) 10 1, F)).1 (gp_fd np nt ns fr nt (upd (upd I 9 1000) 10 1, F)).2) H := hP
  have hD : va_D A (gp_wG E (gp_fd np nt ns fr nt (upd (upd I 9 1000) 10 1, F)).1 (gp_fd np nt ns fr nt (upd (upd I 9 1000) 10 1, F)).2) := hD
  refine W.eq (g2 := F0 xm 23 ls [.int (if (gp_fd np nt ns fr nt (upd (upd I 9 1000) 10 1, F)).1 11 < 1000000 then 1 else 0)]) rfl ?_
  exact gp_wz hx hb hr hlocks hAe (by split <;> rfl) (rfl) (hP) hS d_S_findNearest_23
set_option maxHeartbeats 4000000 in
set_option maxRecDepth 100000 in
theorem c_S_firstLacking (l : Launch) (E : gp_E) (I : Nat → Int32) (F : Nat → Nat → Int32) (np nt ns : Nat) (fr : Int32) (hp4 : I 4 = nI np) (hT : I 6 = nI nt) (hN : I 5 = nI ns) (hnp : np ≤ 4) (hnt : nt ≤ 6) (hns : ns ≤ 20) : gp_CW l y_S_firstLacking b_S_firstLacking 5 (some .int) 18 E (gp_wG E I F) (gp_wG E (gp_fl np nt ns fr nt 0 (upd (upd I 9 0) 10 0, F)).2.1 (gp_fl np nt ns fr nt 0 (upd (upd I 9 0) 10 0, F)).2.2) [.ref (E.2.2.2 2), .ref (E.2.2.2 1), .ref (E.2.2.2 17), .int fr] (some (.int (gp_fl np nt ns fr nt 0 (upd (upd I 9 0) 10 0, F)).1)) := by
  refine gp_ofW (by decide) (Nat.le_of_ble_eq_true rfl) ?_
  intro xp xe xs xm below meth xc ls A hx hb hr hts hown hlocks hml hP hK hD hA hAe hl
  have hS : va_S A xs.heap xs.heap [] := va_S.rf
  have hown : xs.vm.findClass "GuidePlans$Search" = some xm.cls := hown
  have hl : lv_has ls 5 [(0, .ref (E.2.2.2 2)), (1, .ref (E.2.2.2 1)), (2, .ref (E.2.2.2 17)), (3, .int fr)] := hl
  refine lv_aload_n hx hb d_S_firstLacking_0 rfl (lv_at hl 0 rfl) ?_
  refine lv_iconst (v := 0) hx hb d_S_firstLacking_1 (by decide) ?_
  refine va_put (D := E.1) (cl := gp_cl) (ci := 2) (v := .int 0) (ty := .int) (C := R_S) (T := T_S) (N := 9) hx hb hts i_S t_S t_S_ok n_S hown hK hP hD hS 2 rfl rfl 6 (by decide) (hts _ w1_95) (fun _ h9 => h9) rfl (by decide +kernel) rfl rfl (Nat.le_of_ble_eq_true rfl) d_S_firstLacking_2 (fun H locs hP hD hS => ?_)
  have hP : va_P E.1 gp_cl (gp_wG E (upd I 9 0) F) H := hP
  have hD : va_D A (gp_wG E (upd I 9 0) F) := hD
  refine lv_aload_n hx hb d_S_firstLacking_5 rfl (lv_at hl 0 rfl) ?_
  refine lv_iconst (v := 0) hx hb d_S_firstLacking_6 (by decide) ?_
  refine va_put (D := E.1) (cl := gp_cl) (ci := 2) (v := .int 0) (ty := .int) (C := R_S) (T := T_S) (N := 9) hx hb hts i_S t_S t_S_ok n_S hown hK hP hD hS 2 rfl rfl 7 (by decide) (hts _ w1_96) (fun _ h9 => h9) rfl (by decide +kernel) rfl rfl (Nat.le_of_ble_eq_true rfl) d_S_firstLacking_7 (fun H locs hP hD hS => ?_)
  have hP : va_P E.1 gp_cl (gp_wG E (upd (upd I 9 0) 10 0) F) H := hP
  have hD : va_D A (gp_wG E (upd (upd I 9 0) 10 0) F) := hD
  refine lv_iconst (v := 0) hx hb d_S_firstLacking_10 (by decide) ?_
  refine lv_istore (lv' := [(4, .int 0), (0, .ref (E.2.2.2 2)), (1, .ref (E.2.2.2 1)), (2, .ref (E.2.2.2 17)), (3, .int fr)]) hx hb d_S_firstLacking_11 hl (by decide) rfl (fun ls hl => ?_)
  have L13 : ∀ (n : Nat) (t : Nat) (I1 : Nat → Int32) (F1 : Nat → Nat → Int32), t ≤ nt → (I1 4 = nI np ∧ I1 5 = nI ns ∧ I1 6 = nI nt) → gp_fl np nt ns fr (nt - t) t (I1, F1) = (gp_fl np nt ns fr nt 0 (upd (upd I 9 0) 10 0, F)) → nt + 1 ≤ t + n → ∀ (ls : Array Slot) (H : Heap) (locs : List Loc), lv_has ls 5 [(4, .int (nI t)), (0, .ref (E.2.2.2 2)), (1, .ref (E.2.2.2 1)), (2, .ref (E.2.2.2 17)), (3, .int fr)] → va_P E.1 gp_cl (gp_wG E I1 F1) H → va_D A (gp_wG E I1 F1) → va_S A xs.heap H locs → W xp l xe (gp_rm 18 0 0) xs xm ([.ref (E.2.2.2 2), .ref (E.2.2.2 1), .ref (E.2.2.2 17), .int fr] : List Value).toArray below meth xc H locs 0 0 (MQ below (gp_QW E (some (.int (gp_fl np nt ns fr nt 0 (upd (upd I 9 0) 10 0, F)).1)) (gp_wG E I F) (gp_wG E (gp_fl np nt ns fr nt 0 (upd (upd I 9 0) 10 0, F)).2.1 (gp_fl np nt ns fr nt 0 (upd (upd I 9 0) 10 0, F)).2.2) xs.heap.size) ([.ref (E.2.2.2 2), .ref (E.2.2.2 1), .ref (E.2.2.2 17), .int fr] : List Value).toArray xs 0 0 A) (F0 xm 13 ls []) := by
    intro n
    induction n with
    | zero =>
      intro t I1 F1 h1 hI h2 hm
      exact absurd hm (by omega)
    | succ n ih13 =>
      intro t I1 F1 h1 hI h2 hm ls H locs hl hP hD hS
      refine lv_iload hx hb d_S_firstLacking_13 (lv_at hl 0 rfl) ?_
      refine lv_aload_n hx hb d_S_firstLacking_15 rfl (lv_at hl 2 rfl) ?_
      refine va_get (D := E.1) (cl := gp_cl) (ci := 1) (v := .int (nI nt)) (C := R_D) (T := T_D) (N := 13) hx hb hts i_D hown hK hP 1 rfl rfl 10 (by decide) (hts _ w1_45) (fun _ h9 => h9) (congrArg (fun z => some (Value.int z)) hI.2.2) d_S_firstLacking_16 ?_
      refine lv_icmp_ge (tgt := 60) hx hb d_S_firstLacking_19 (by decide) (fun c19 => ?_) (fun c19 => ?_)
      · have c19 := c19
        have nc19 : nt ≤ t := (nI_leI (a := nt) (b := t) (by omega) (by omega)).mp c19
        have e2 : (gp_fl np nt ns fr nt 0 (upd (upd I 9 0) 10 0, F)) = (-1, (I1, F1)) := by rw [← h2, show nt - t = 0 by omega, gp_fl]
        refine lv_iconst (v := (-1)) hx hb d_S_firstLacking_60 (by decide) ?_
        exact gp_wi hx hb hr hlocks hAe (by rw [e2]) (by rw [e2]; exact hP) hS d_S_firstLacking_61
      · have c19 := c19
        have nc19 : ¬ nt ≤ t := fun h => c19 ((nI_leI (a := nt) (b := t) (by omega) (by omega)).mpr h)
        refine lv_aload_n hx hb d_S_firstLacking_22 rfl (lv_at hl 2 rfl) ?_
        refine va_get (D := E.1) (cl := gp_cl) (ci := 1) (v := .ref (E.2.2.2 10)) (C := R_D) (T := T_D) (N := 13) hx hb hts i_D hown hK hP 1 rfl rfl 7 (by decide) (hts _ w1_37) (fun _ h9 => h9) rfl d_S_firstLacking_23 ?_
        refine lv_iload hx hb d_S_firstLacking_26 (lv_at hl 0 rfl) ?_
        refine gp_zld (f := (F1 7)) (n := 6) hx hb hK hP 10 rfl (t) rfl (by omega) (by decide) d_S_firstLacking_28 ?_
        refine lv_if_eq (tgt := 54) hx hb d_S_firstLacking_29 (by decide) (fun c29 => ?_) (fun c29 => ?_)
        · have c29 := c29
          refine lv_iinc (v := (nI (t + 1))) (lv' := [(4, .int (nI (t + 1))), (0, .ref (E.2.2.2 2)), (1, .ref (E.2.2.2 1)), (2, .ref (E.2.2.2 17)), (3, .int fr)]) hx hb d_S_firstLacking_54 hl (k := 0) rfl (nI_1 _) (by decide) rfl (fun ls hl => ?_)
          refine lv_goto (tgt := 13) hx hb d_S_firstLacking_57 (by decide) ?_
          exact ih13 (t + 1) _ _ (by omega) (by first | exact hI | exact ⟨((gp_fd_kq (σ := (I1, F1))).1 4 (by decide)).trans hI.1, ((gp_fd_kq (σ := (I1, F1))).1 5 (by decide)).trans hI.2.1, ((gp_fd_kq (σ := (I1, F1))).1 6 (by decide)).trans hI.2.2⟩) (by rw [← h2, show nt - t = (nt - (t + 1)) + 1 by omega, gp_fl]; first | rw [if_pos c29] | (rw [if_neg c29, if_pos hs40])) (by omega) ls _ _ (lv_sub hl [0, 1, 2, 3, 4] rfl) (hP) (gp_dd hD rfl) hS
        · have c29 := c29
          refine lv_aload_n hx hb d_S_firstLacking_32 rfl (lv_at hl 1 rfl) ?_
          refine lv_aload_n hx hb d_S_firstLacking_33 rfl (lv_at hl 2 rfl) ?_
          refine lv_aload_n hx hb d_S_firstLacking_34 rfl (lv_at hl 3 rfl) ?_
          refine lv_iload_n hx hb d_S_firstLacking_35 rfl (lv_at hl 4 rfl) ?_
          refine lv_iload hx hb d_S_firstLacking_36 (lv_at hl 0 rfl) ?_
          refine lv_iconst (v := 1) hx hb d_S_firstLacking_38 (by decide) ?_
          refine lv_iadd hx hb d_S_firstLacking_39 ?_
          rw [show ((nI t) + 1) = (nI (t + 1)) from nI_1 _]
          refine gp_cW (q0 := 2) (ci := 2) (As := [.ref (E.2.2.2 1), .ref (E.2.2.2 17), .int fr, .int (nI (t + 1))]) (rest := []) ⟨hx, hb, hml, hown, hts⟩ (c_S_find l E I1 F1 np nt ns (t + 1) fr hI.1 hI.2.2 hI.2.1 hnp hnt hns (by omega)) (k_S_46 hts ⟨by decide, by decide⟩ rfl rfl) hK hP hD hS hA rfl rfl rfl rfl hl.1 rfl (Nat.le_of_ble_eq_true rfl) d_S_firstLacking_40 ⟨Nat.le_of_ble_eq_true rfl, Nat.le_of_ble_eq_true rfl⟩ (fun H locs hP hD hS => ?_)
          have hP : va_P E.1 gp_cl (gp_wG E (gp_fd np nt ns fr (t + 1) (I1, F1)).1 (gp_fd np nt ns fr (t + 1) (I1, F1)).2) H := hP
          have hD : va_D A (gp_wG E (gp_fd np nt ns fr (t + 1) (I1, F1)).1 (gp_fd np nt ns fr (t + 1) (I1, F1)).2) := hD
          refine W.eq (g2 := F0 xm 43 ls [.int (if (gp_fd np nt ns fr (t + 1) (I1, F1)).1 11 < 1000000 then 1 else 0)]) rfl ?_
          by_cases hs40 : (gp_fd np nt ns fr (t + 1) (I1, F1)).1 11 < 1000000
          · rw [if_pos hs40]
            refine lv_if_ne (tgt := 54) hx hb d_S_firstLacking_43 (by decide) (fun c43 => ?_) (fun c43 => ?_)
            · have c43 := c43
              have nc43 : ¬ 1 = 0 := fun h => c43 ((nI_eq (a := 1) (b := 0) (by omega) (by omega)).mpr h)
              refine lv_iinc (v := (nI (t + 1))) (lv' := [(4, .int (nI (t + 1))), (0, .ref (E.2.2.2 2)), (1, .ref (E.2.2.2 1)), (2, .ref (E.2.2.2 17)), (3, .int fr)]) hx hb d_S_firstLacking_54 hl (k := 0) rfl (nI_1 _) (by decide) rfl (fun ls hl => ?_)
              refine lv_goto (tgt := 13) hx hb d_S_firstLacking_57 (by decide) ?_
              exact ih13 (t + 1) _ _ (by omega) (by first | exact hI | exact ⟨((gp_fd_kq (σ := (I1, F1))).1 4 (by decide)).trans hI.1, ((gp_fd_kq (σ := (I1, F1))).1 5 (by decide)).trans hI.2.1, ((gp_fd_kq (σ := (I1, F1))).1 6 (by decide)).trans hI.2.2⟩) (by rw [← h2, show nt - t = (nt - (t + 1)) + 1 by omega, gp_fl]; first | rw [if_pos c29] | (rw [if_neg c29, if_pos hs40])) (by omega) ls _ _ (lv_sub hl [0, 1, 2, 3, 4] rfl) (hP) (gp_dd hD rfl) hS
            · exact absurd c43 (by decide)
          · rw [if_neg hs40]
            refine lv_if_ne (tgt := 54) hx hb d_S_firstLacking_43 (by decide) (fun c43 => ?_) (fun c43 => ?_)
            · exact absurd c43 (by decide)
            · have c43 := c43
              have nc43 : 0 = 0 := (nI_eq (a := 0) (b := 0) (by omega) (by omega)).mp c43
              have e2 : (gp_fl np nt ns fr nt 0 (upd (upd I 9 0) 10 0, F)) = (F1 5 t, gp_fd np nt ns fr (t + 1) (I1, F1)) := by rw [← h2, show nt - t = (nt - (t + 1)) + 1 by omega, gp_fl, if_neg c29, if_neg hs40]
              refine lv_aload_n hx hb d_S_firstLacking_46 rfl (lv_at hl 2 rfl) ?_
              refine va_get (D := E.1) (cl := gp_cl) (ci := 1) (v := .ref (E.2.2.2 8)) (C := R_D) (T := T_D) (N := 13) hx hb hts i_D hown hK hP 1 rfl rfl 5 (by decide) (hts _ w1_33) (fun _ h9 => h9) rfl d_S_firstLacking_47 ?_
              refine lv_iload hx hb d_S_firstLacking_50 (lv_at hl 0 rfl) ?_
              refine gp_ald (f := ((gp_fd np nt ns fr (t + 1) (I1, F1)).2 5)) (n := 6) hx hb hK hP 8 rfl (t) rfl (by omega) (by decide) d_S_firstLacking_52 ?_
              exact gp_wi hx hb hr hlocks hAe (by rw [e2]; exact congrArg (fun z => some (Value.int z)) (congrFun ((gp_fd_kq (σ := (I1, F1))).2.1 5 (by decide)) t).symm) (by rw [e2]; exact hP) hS d_S_firstLacking_53
  exact L13 (nt + 1) 0 (upd (upd I 9 0) 10 0) F (Nat.zero_le _) ⟨hp4, hN, hT⟩ rfl (by omega) ls _ _ (lv_sub hl [0, 1, 2, 3, 4] rfl) (hP) (hD) hS
