/-! ===== the reference's search ===== -/
def gm_d1 (np d : Nat) : Int32 := if d = np then -1 else nI d
def gm_dg (np nt i : Nat) (f : Nat → Int32) : Nat → Int32 := fun j => if j < nt then gm_d1 np (i / (np + 1) ^ (nt - 1 - j) % (np + 1)) else f j
def gm_ds (np nt i : Nat) (f : Nat → Int32) (j : Nat) : Nat → Int32 := fun a => if j ≤ a then gm_dg np nt i f a else f a
theorem gm_ds_0 {np nt i : Nat} {f : Nat → Int32} : gm_ds np nt i f 0 = gm_dg np nt i f := by funext a; simp [gm_ds]
theorem gm_ds_nt {np nt i : Nat} {f : Nat → Int32} : gm_ds np nt i f nt = f := by
  funext a
  by_cases h : nt ≤ a
  · simp [gm_ds, gm_dg, h, show ¬ a < nt by omega]
  · simp [gm_ds, h]
theorem gm_ds_s {np nt i k : Nat} {f : Nat → Int32} {V : Int32} (hk : k < nt) (hV : V = gm_d1 np (i / (np + 1) ^ (nt - 1 - k) % (np + 1))) : upd (gm_ds np nt i f (k + 1)) k V = gm_ds np nt i f k := by
  funext a
  by_cases h : a = k
  · subst h; simp [upd, gm_ds, gm_dg, hk, hV]
  · by_cases h2 : k + 1 ≤ a
    · simp [upd, h, gm_ds, h2, show k ≤ a by omega]
    · simp [upd, h, gm_ds, h2, show ¬ k ≤ a by omega]
theorem gm_dg_v {np nt i t : Nat} {f : Nat → Int32} (ht : t < nt) : gm_dg np nt i f t = -1 ∨ ∃ p, p < np ∧ gm_dg np nt i f t = nI p := by
  have h1 : i / (np + 1) ^ (nt - 1 - t) % (np + 1) < np + 1 := Nat.mod_lt _ (by omega)
  by_cases h : i / (np + 1) ^ (nt - 1 - t) % (np + 1) = np
  · left; simp [gm_dg, gm_d1, ht, h]
  · right; exact ⟨i / (np + 1) ^ (nt - 1 - t) % (np + 1), by omega, by simp [gm_dg, gm_d1, ht, h]⟩
theorem gm_fu_le {F : Nat → Nat → Int32} : ∀ k t, gm_fu F k t ≤ t + k := by
  intro k
  induction k with
  | zero => intro t; exact Nat.le_refl _
  | succ k ih =>
    intro t
    have h := ih (t + 1)
    rw [gm_fu]
    split
    · omega
    · split
      · omega
      · omega
theorem gm_pw {np nt : Nat} (h1 : np ≤ 4) (h2 : nt ≤ 6) : (np + 1) ^ nt ≤ 15625 := by
  have h : ∀ a, a < 5 → ∀ b, b < 7 → (a + 1) ^ b ≤ 15625 := by decide
  exact h np (by omega) nt (by omega)
def gm_G1 (np nt i : Nat) (G : Nat → Nat → Int32) : Nat → Nat → Int32 := gp_uF G 9 (gm_dg np nt i (G 9))
def gm_J2 (nt : Nat) (G : Nat → Nat → Int32) (J : Nat → Int32) : Nat → Int32 := upd J 13 (if J 13 < nI (gm_fu G nt 0) then nI (gm_fu G nt 0) else J 13)
def gm_cc (nt : Nat) (cz : Int32) (G : Nat → Nat → Int32) : Int32 := if cz = 0 then 0 else nI (gm_df G nt)
def gm_bt (np nt : Nat) (cz : Int32) (J : Nat → Int32) (G : Nat → Nat → Int32) (f : Nat → Int32) : Bool := decide (gm_fu G nt 0 = nt) && (decide (J 10 = 0) || (decide (gm_cc nt cz G < J 11) || (decide (gm_cc nt cz G = J 11) && decide (gm_c f nt np < J 12))))
def gm_s1 (np nt ns : Nat) (cz : Int32) (i : Nat) (σ : gp_S) : gp_S :=
  if gm_may σ.1 (gm_G1 np nt i σ.2) np nt ns then (if gm_bt np nt cz σ.1 (gm_G1 np nt i σ.2) (gm_dg np nt i (σ.2 9)) then gm_kn np nt (gm_cc nt cz (gm_G1 np nt i σ.2)) (gm_J2 nt (gm_G1 np nt i σ.2) σ.1, gm_G1 np nt i σ.2) else (gm_J2 nt (gm_G1 np nt i σ.2) σ.1, gm_G1 np nt i σ.2)) else (σ.1, gm_G1 np nt i σ.2)
def gm_sk (np nt ns : Nat) (cz : Int32) (σ : gp_S) : Nat → gp_S
  | 0 => σ
  | i + 1 => gm_s1 np nt ns cz i (gm_sk np nt ns cz σ i)
def gm_se (np nt ns : Nat) (cz : Int32) (σ : gp_S) : gp_S := gm_sk np nt ns cz (upd (upd σ.1 10 0) 13 (-1), σ.2) ((np + 1) ^ nt)
set_option maxHeartbeats 4000000 in
set_option maxRecDepth 100000 in
theorem c_M_seek (l : Launch) (E : gp_E) (I : Nat → Int32) (F : Nat → Nat → Int32) (np nt ns : Nat) (cz : Int32) (hp4 : I 1 = nI np) (hT : I 3 = nI nt) (hN : I 2 = nI ns) (hnp : np ≤ 4) (hnt : nt ≤ 6) (hns : ns ≤ 20) : gp_CW l y_M_seek b_M_seek 8 none 4 E (gp_wM E I F) (gp_wM E (gm_se np nt ns cz (I, F)).1 (gm_se np nt ns cz (I, F)).2) [.ref (E.2.2.2 0), .int cz] none := by
  refine gp_ofW (by decide) (Nat.le_of_ble_eq_true rfl) ?_
  intro xp xe xs xm below meth xc ls A hx hb hr hts hown hlocks hml hP hK hD hA hAe hl
  have hS : va_S A xs.heap xs.heap [] := va_S.rf
  have hown : xs.vm.findClass "GuidePlansModel" = some xm.cls := hown
  have hl : lv_has ls 8 [(0, .ref (E.2.2.2 0)), (1, .int cz)] := hl
  refine lv_aload_n hx hb d_M_seek_0 rfl (lv_at hl 0 rfl) ?_
  refine va_get (D := E.1) (cl := gp_cl) (ci := 3) (v := .int (nI np)) (C := R_M) (T := T_M) (N := 27) hx hb hts i_M hown hK hP 0 rfl rfl 1 (by decide) (hts _ w3_53) (fun _ h9 => h9) (congrArg (fun z => some (Value.int z)) hp4) d_M_seek_1 ?_
  refine lv_iconst (v := 1) hx hb d_M_seek_4 (by decide) ?_
  refine lv_iadd hx hb d_M_seek_5 ?_
  rw [show ((nI np) + 1) = (nI (np + 1)) from nI_1 _]
  refine lv_istore_n (lv' := [(2, .int (nI (np + 1))), (0, .ref (E.2.2.2 0)), (1, .int cz)]) hx hb d_M_seek_6 rfl hl (by decide) rfl (fun ls hl => ?_)
  refine lv_iconst (v := 1) hx hb d_M_seek_7 (by decide) ?_
  refine lv_istore_n (lv' := [(3, .int 1), (2, .int (nI (np + 1))), (0, .ref (E.2.2.2 0)), (1, .int cz)]) hx hb d_M_seek_8 rfl hl (by decide) rfl (fun ls hl => ?_)
  refine lv_iconst (v := 0) hx hb d_M_seek_9 (by decide) ?_
  refine lv_istore (lv' := [(4, .int 0), (3, .int 1), (2, .int (nI (np + 1))), (0, .ref (E.2.2.2 0)), (1, .int cz)]) hx hb d_M_seek_10 hl (by decide) rfl (fun ls hl => ?_)
  have L12 : ∀ (n : Nat) (t : Nat), t ≤ nt → nt + 1 ≤ t + n → ∀ (ls : Array Slot) (H : Heap) (locs : List Loc), lv_has ls 8 [(4, .int (nI t)), (3, .int (nI ((np + 1) ^ t))), (2, .int (nI (np + 1))), (0, .ref (E.2.2.2 0)), (1, .int cz)] → va_P E.1 gp_cl (gp_wM E I F) H → va_D A (gp_wM E I F) → va_S A xs.heap H locs → W xp l xe (gp_rm 4 0 0) xs xm ([.ref (E.2.2.2 0), .int cz] : List Value).toArray below meth xc H locs 0 0 (MQ below (gp_QW E none (gp_wM E I F) (gp_wM E (gm_se np nt ns cz (I, F)).1 (gm_se np nt ns cz (I, F)).2) xs.heap.size) ([.ref (E.2.2.2 0), .int cz] : List Value).toArray xs 0 0 A) (F0 xm 12 ls []) := by
    intro n
    induction n with
    | zero =>
      intro t h1 hm
      exact absurd hm (by omega)
    | succ n ih12 =>
      intro t h1 hm ls H locs hl hP hD hS
      refine lv_iload hx hb d_M_seek_12 (lv_at hl 0 rfl) ?_
      refine lv_aload_n hx hb d_M_seek_14 rfl (lv_at hl 3 rfl) ?_
      refine va_get (D := E.1) (cl := gp_cl) (ci := 3) (v := .int (nI nt)) (C := R_M) (T := T_M) (N := 27) hx hb hts i_M hown hK hP 0 rfl rfl 7 (by decide) (hts _ w3_59) (fun _ h9 => h9) (congrArg (fun z => some (Value.int z)) hT) d_M_seek_15 ?_
      refine lv_icmp_ge (tgt := 31) hx hb d_M_seek_18 (by decide) (fun c18 => ?_) (fun c18 => ?_)
      · have c18 := c18
        have nc18 : nt ≤ t := (nI_leI (a := nt) (b := t) (by omega) (by omega)).mp c18
        have hte : nt = t := by omega
        subst hte
        refine lv_aload_n hx hb d_M_seek_31 rfl (lv_at hl 3 rfl) ?_
        refine lv_iconst (v := 0) hx hb d_M_seek_32 (by decide) ?_
        refine va_put (D := E.1) (cl := gp_cl) (ci := 3) (v := .int 0) (ty := .boolean) (C := R_M) (T := T_M) (N := 27) hx hb hts i_M t_M t_M_ok n_M hown hK hP hD hS 0 rfl rfl 23 (by decide) (hts _ w3_75) (fun _ h9 => h9) rfl (by decide +kernel) rfl rfl (Nat.le_of_ble_eq_true rfl) d_M_seek_33 (fun H locs hP hD hS => ?_)
        have hP : va_P E.1 gp_cl (gp_wM E (upd I 10 0) F) H := hP
        have hD : va_D A (gp_wM E (upd I 10 0) F) := hD
        refine lv_aload_n hx hb d_M_seek_36 rfl (lv_at hl 3 rfl) ?_
        refine lv_iconst (v := (-1)) hx hb d_M_seek_37 (by decide) ?_
        refine va_put (D := E.1) (cl := gp_cl) (ci := 3) (v := .int (-1)) (ty := .int) (C := R_M) (T := T_M) (N := 27) hx hb hts i_M t_M t_M_ok n_M hown hK hP hD hS 0 rfl rfl 26 (by decide) (hts _ w3_78) (fun _ h9 => h9) rfl (by decide +kernel) rfl rfl (Nat.le_of_ble_eq_true rfl) d_M_seek_38 (fun H locs hP hD hS => ?_)
        have hP : va_P E.1 gp_cl (gp_wM E (upd (upd I 10 0) 13 (-1)) F) H := hP
        have hD : va_D A (gp_wM E (upd (upd I 10 0) 13 (-1)) F) := hD
        obtain ⟨al, hal⟩ : ∃ z, z = (np + 1) ^ nt := ⟨_, rfl⟩
        rw [← hal] at hl
        have hal2 : al ≤ 15625 := by rw [hal]; exact gm_pw hnp hnt
        refine lv_iconst (v := 0) hx hb d_M_seek_41 (by decide) ?_
        refine lv_istore (lv' := [(4, .int 0), (3, .int (nI al)), (2, .int (nI (np + 1))), (0, .ref (E.2.2.2 0)), (1, .int cz)]) hx hb d_M_seek_42 hl (by decide) rfl (fun ls hl => ?_)
        have L44 : ∀ (n : Nat) (i : Nat) (J : Nat → Int32) (G : Nat → Nat → Int32), i ≤ al → (J 1 = nI np ∧ J 3 = nI nt ∧ J 2 = nI ns) → gm_sk np nt ns cz (upd (upd I 10 0) 13 (-1), F) i = (J, G) → al + 1 ≤ i + n → ∀ (ls : Array Slot) (H : Heap) (locs : List Loc), lv_has ls 8 [(4, .int (nI i)), (3, .int (nI al)), (2, .int (nI (np + 1))), (0, .ref (E.2.2.2 0)), (1, .int cz)] → va_P E.1 gp_cl (gp_wM E J G) H → va_D A (gp_wM E J G) → va_S A xs.heap H locs → W xp l xe (gp_rm 4 0 0) xs xm ([.ref (E.2.2.2 0), .int cz] : List Value).toArray below meth xc H locs 0 0 (MQ below (gp_QW E none (gp_wM E I F) (gp_wM E (gm_se np nt ns cz (I, F)).1 (gm_se np nt ns cz (I, F)).2) xs.heap.size) ([.ref (E.2.2.2 0), .int cz] : List Value).toArray xs 0 0 A) (F0 xm 44 ls []) := by
          intro n
          induction n with
          | zero =>
            intro i J G h1 hJ hX hm
            exact absurd hm (by omega)
          | succ n ih44 =>
            intro i J G h1 hJ hX hm ls H locs hl hP hD hS
            refine lv_iload hx hb d_M_seek_44 (lv_at hl 0 rfl) ?_
            refine lv_iload_n hx hb d_M_seek_46 rfl (lv_at hl 1 rfl) ?_
            refine lv_icmp_ge (tgt := 223) hx hb d_M_seek_47 (by decide) (fun c47 => ?_) (fun c47 => ?_)
            · have c47 := c47
              have nc47 : al ≤ i := (nI_leI (a := al) (b := i) (by omega) (by omega)).mp c47
              exact gp_wv hx hb hr hlocks hAe rfl (by rw [show gm_se np nt ns cz (I, F) = (J, G) from by rw [gm_se, ← hal, ← hX, show al = i by omega]]; exact hP) hS d_M_seek_223
            · have c47 := c47
              have nc47 : ¬ al ≤ i := fun h => c47 ((nI_leI (a := al) (b := i) (by omega) (by omega)).mpr h)
              refine lv_iload hx hb d_M_seek_50 (lv_at hl 0 rfl) ?_
              refine lv_istore (lv' := [(5, .int (nI i)), (4, .int (nI i)), (3, .int (nI al)), (2, .int (nI (np + 1))), (0, .ref (E.2.2.2 0)), (1, .int cz)]) hx hb d_M_seek_52 hl (by decide) rfl (fun ls hl => ?_)
              refine lv_aload_n hx hb d_M_seek_54 rfl (lv_at hl 4 rfl) ?_
              refine va_get (D := E.1) (cl := gp_cl) (ci := 3) (v := .int (nI nt)) (C := R_M) (T := T_M) (N := 27) hx hb hts i_M hown hK hP 0 rfl rfl 7 (by decide) (hts _ w3_59) (fun _ h9 => h9) (congrArg (fun z => some (Value.int z)) hJ.2.1) d_M_seek_55 ?_
              refine lv_iconst (v := 1) hx hb d_M_seek_58 (by decide) ?_
              refine lv_isub hx hb d_M_seek_59 ?_
              refine lv_istore (lv' := [(6, .int ((nI nt) - 1)), (5, .int (nI i)), (4, .int (nI i)), (3, .int (nI al)), (2, .int (nI (np + 1))), (0, .ref (E.2.2.2 0)), (1, .int cz)]) hx hb d_M_seek_60 hl (by decide) rfl (fun ls hl => ?_)
              have L62 : ∀ (n : Nat) (j L : Nat), j ≤ nt → L = i / (np + 1) ^ (nt - j) → j + 1 ≤ n → ∀ (ls : Array Slot) (H : Heap) (locs : List Loc), lv_has ls 8 [(6, .int (nI j - 1)), (5, .int (nI L)), (4, .int (nI i)), (3, .int (nI al)), (2, .int (nI (np + 1))), (0, .ref (E.2.2.2 0)), (1, .int cz)] → va_P E.1 gp_cl (gp_wM E J (gp_uF G 9 (gm_ds np nt i (G 9) j))) H → va_D A (gp_wM E J (gp_uF G 9 (gm_ds np nt i (G 9) j))) → va_S A xs.heap H locs → W xp l xe (gp_rm 4 0 0) xs xm ([.ref (E.2.2.2 0), .int cz] : List Value).toArray below meth xc H locs 0 0 (MQ below (gp_QW E none (gp_wM E I F) (gp_wM E (gm_se np nt ns cz (I, F)).1 (gm_se np nt ns cz (I, F)).2) xs.heap.size) ([.ref (E.2.2.2 0), .int cz] : List Value).toArray xs 0 0 A) (F0 xm 62 ls []) := by
                intro n
                induction n with
                | zero =>
                  intro j L k1 k2 hm
                  exact absurd hm (by omega)
                | succ n ih62 =>
                  intro j L k1 k2 hm ls H locs hl hP hD hS
                  by_cases hj62 : j = 0
                  · subst hj62
                    rw [show ((nI 0 - 1) : Int32) = (-1) from rfl] at hl
                    refine lv_iload hx hb d_M_seek_62 (lv_at hl 0 rfl) ?_
                    refine lv_if_lt (tgt := 105) hx hb d_M_seek_64 (by decide) (fun c64 => ?_) (fun c64 => ?_)
                    · have c64 := c64
                      have mc64 : ¬ (0 : Int32) ≤ (-1) := Int32.not_le.mpr c64
                      rw [gm_ds_0] at hP hD
                      have hP : va_P E.1 gp_cl (gp_wM E J (gm_G1 np nt i G)) H := hP
                      have hD : va_D A (gp_wM E J (gm_G1 np nt i G)) := hD
                      have hfu : gm_fu (gm_G1 np nt i G) nt 0 ≤ nt := by have := gm_fu_le (F := gm_G1 np nt i G) nt 0; omega
                      refine lv_aload_n hx hb d_M_seek_105 rfl (lv_at hl 5 rfl) ?_
                      refine gp_cR (q0 := 0) (ci := 3) (As := []) (rest := []) ⟨hx, hb, hml, hown, hts⟩ (c_M_may l E J (gm_G1 np nt i G) np nt ns hJ.1 hJ.2.1 hJ.2.2 hnp hnt hns (fun t ht _ => gm_dg_v ht)) (k_M_115 hts ⟨by decide, by decide⟩ rfl rfl) hK hP rfl rfl rfl hl.1 rfl (Nat.le_of_ble_eq_true rfl) d_M_seek_106 ⟨Nat.le_of_ble_eq_true rfl, Nat.le_of_ble_eq_true rfl⟩ ?_
                      by_cases hs106 : gm_may J (gm_G1 np nt i G) np nt ns = true
                      · rw [show ((if gm_may J (gm_G1 np nt i G) np nt ns then 1 else 0) : Int32) = 1 from if_pos hs106]
                        refine lv_if_eq (tgt := 217) hx hb d_M_seek_109 (by decide) (fun c109 => ?_) (fun c109 => ?_)
                        · exact absurd c109 (by decide)
                        · have c109 := c109
                          have nc109 : ¬ 1 = 0 := fun h => c109 ((nI_eq (a := 1) (b := 0) (by omega) (by omega)).mpr h)
                          refine lv_aload_n hx hb d_M_seek_112 rfl (lv_at hl 5 rfl) ?_
                          refine lv_aload_n hx hb d_M_seek_113 rfl (lv_at hl 5 rfl) ?_
                          refine gp_cR (q0 := 0) (ci := 3) (As := []) (rest := [.ref (E.2.2.2 0)]) ⟨hx, hb, hml, hown, hts⟩ (c_M_full l E J (gm_G1 np nt i G) nt hJ.2.1 hnt) (k_M_119 hts ⟨by decide, by decide⟩ rfl rfl) hK hP rfl rfl rfl hl.1 rfl (Nat.le_of_ble_eq_true rfl) d_M_seek_114 ⟨Nat.le_of_ble_eq_true rfl, Nat.le_of_ble_eq_true rfl⟩ ?_
                          refine lv_aload_n hx hb d_M_seek_117 rfl (lv_at hl 5 rfl) ?_
                          refine va_get (D := E.1) (cl := gp_cl) (ci := 3) (v := .int (J 13)) (C := R_M) (T := T_M) (N := 27) hx hb hts i_M hown hK hP 0 rfl rfl 26 (by decide) (hts _ w3_78) (fun _ h9 => h9) rfl d_M_seek_118 ?_
                          refine lv_icmp_le (tgt := 131) hx hb d_M_seek_121 (by decide) (fun c121 => ?_) (fun c121 => ?_)
                          · have c121 := c121
                            have mc121 : ¬ ((J 13) : Int32) < (nI (gm_fu (gm_G1 np nt i G) nt 0)) := Int32.not_lt.mpr c121
                            refine lv_aload_n hx hb d_M_seek_131 rfl (lv_at hl 5 rfl) ?_
                            refine va_get (D := E.1) (cl := gp_cl) (ci := 3) (v := .int (J 13)) (C := R_M) (T := T_M) (N := 27) hx hb hts i_M hown hK hP 0 rfl rfl 26 (by decide) (hts _ w3_78) (fun _ h9 => h9) rfl d_M_seek_132 ?_
                            rw [show ((J 13) : Int32) = (if J 13 < nI (gm_fu (gm_G1 np nt i G) nt 0) then nI (gm_fu (gm_G1 np nt i G) nt 0) else J 13) from by simp [h1, c18, nc18, hJ, hX, c47, nc47, k1, k2, c64, mc64, hs106, c109, nc109, c121, mc121]]
                            refine va_put (D := E.1) (cl := gp_cl) (ci := 3) (v := .int (if J 13 < nI (gm_fu (gm_G1 np nt i G) nt 0) then nI (gm_fu (gm_G1 np nt i G) nt 0) else J 13)) (ty := .int) (C := R_M) (T := T_M) (N := 27) hx hb hts i_M t_M t_M_ok n_M hown hK hP hD hS 0 rfl rfl 26 (by decide) (hts _ w3_78) (fun _ h9 => h9) rfl (by decide +kernel) rfl rfl (Nat.le_of_ble_eq_true rfl) d_M_seek_135 (fun H locs hP hD hS => ?_)
                            have hP : va_P E.1 gp_cl (gp_wM E (upd J 13 (if J 13 < nI (gm_fu (gm_G1 np nt i G) nt 0) then nI (gm_fu (gm_G1 np nt i G) nt 0) else J 13)) (gm_G1 np nt i G)) H := hP
                            have hD : va_D A (gp_wM E (upd J 13 (if J 13 < nI (gm_fu (gm_G1 np nt i G) nt 0) then nI (gm_fu (gm_G1 np nt i G) nt 0) else J 13)) (gm_G1 np nt i G)) := hD
                            refine lv_iload_n hx hb d_M_seek_138 rfl (lv_at hl 6 rfl) ?_
                            refine lv_if_eq (tgt := 149) hx hb d_M_seek_139 (by decide) (fun c139 => ?_) (fun c139 => ?_)
                            · have c139 := c139
                              refine lv_iconst (v := 0) hx hb d_M_seek_149 (by decide) ?_
                              rw [show (0 : Int32) = (gm_cc nt cz (gm_G1 np nt i G)) from by simp [gm_cc, h1, c18, nc18, hJ, hX, c47, nc47, k1, k2, c64, mc64, hs106, c109, nc109, c121, mc121, c139]]
                              refine lv_istore (lv' := [(6, .int (gm_cc nt cz (gm_G1 np nt i G))), (5, .int (nI L)), (4, .int (nI i)), (3, .int (nI al)), (2, .int (nI (np + 1))), (0, .ref (E.2.2.2 0)), (1, .int cz)]) hx hb d_M_seek_150 hl (by decide) rfl (fun ls hl => ?_)
                              refine lv_aload_n hx hb d_M_seek_152 rfl (lv_at hl 5 rfl) ?_
                              refine gp_cR (q0 := 0) (ci := 3) (As := []) (rest := []) ⟨hx, hb, hml, hown, hts⟩ (c_M_full l E (upd J 13 (if J 13 < nI (gm_fu (gm_G1 np nt i G) nt 0) then nI (gm_fu (gm_G1 np nt i G) nt 0) else J 13)) (gm_G1 np nt i G) nt hJ.2.1 hnt) (k_M_119 hts ⟨by decide, by decide⟩ rfl rfl) hK hP rfl rfl rfl hl.1 rfl (Nat.le_of_ble_eq_true rfl) d_M_seek_153 ⟨Nat.le_of_ble_eq_true rfl, Nat.le_of_ble_eq_true rfl⟩ ?_
                              refine lv_aload_n hx hb d_M_seek_156 rfl (lv_at hl 5 rfl) ?_
                              refine va_get (D := E.1) (cl := gp_cl) (ci := 3) (v := .int (nI nt)) (C := R_M) (T := T_M) (N := 27) hx hb hts i_M hown hK hP 0 rfl rfl 7 (by decide) (hts _ w3_59) (fun _ h9 => h9) (congrArg (fun z => some (Value.int z)) hJ.2.1) d_M_seek_157 ?_
                              refine lv_icmp_ne (tgt := 203) hx hb d_M_seek_160 (by decide) (fun c160 => ?_) (fun c160 => ?_)
                              · have c160 := c160
                                have nc160 : ¬ (gm_fu (gm_G1 np nt i G) nt 0) = nt := fun h => c160 ((nI_eq (a := (gm_fu (gm_G1 np nt i G) nt 0)) (b := nt) (by omega) (by omega)).mpr h)
                                refine lv_iconst (v := 0) hx hb d_M_seek_203 (by decide) ?_
                                refine lv_istore (lv' := [(7, .int 0), (6, .int (gm_cc nt cz (gm_G1 np nt i G))), (5, .int (nI L)), (4, .int (nI i)), (3, .int (nI al)), (2, .int (nI (np + 1))), (0, .ref (E.2.2.2 0)), (1, .int cz)]) hx hb d_M_seek_204 hl (by decide) rfl (fun ls hl => ?_)
                                refine lv_iload hx hb d_M_seek_206 (lv_at hl 0 rfl) ?_
                                refine lv_if_eq (tgt := 217) hx hb d_M_seek_208 (by decide) (fun c208 => ?_) (fun c208 => ?_)
                                · have c208 := c208
                                  have nc208 : 0 = 0 := (nI_eq (a := 0) (b := 0) (by omega) (by omega)).mp c208
                                  refine lv_iinc (v := (nI (i + 1))) (lv' := [(4, .int (nI (i + 1))), (7, .int 0), (6, .int (gm_cc nt cz (gm_G1 np nt i G))), (5, .int (nI L)), (3, .int (nI al)), (2, .int (nI (np + 1))), (0, .ref (E.2.2.2 0)), (1, .int cz)]) hx hb d_M_seek_217 hl (k := 3) rfl (nI_1 _) (by decide) rfl (fun ls hl => ?_)
                                  refine lv_goto (tgt := 44) hx hb d_M_seek_220 (by decide) ?_
                                  have hX2 : gm_sk np nt ns cz (upd (upd I 10 0) 13 (-1), F) (i + 1) = ((upd J 13 (if J 13 < nI (gm_fu (gm_G1 np nt i G) nt 0) then nI (gm_fu (gm_G1 np nt i G) nt 0) else J 13)), (gm_G1 np nt i G)) := by rw [gm_sk, hX]; first | exact if_neg hs106 | exact (if_pos hs106).trans (if_neg (by simp [gm_bt, c160, nc160])) | exact (if_pos hs106).trans (if_pos (by simp [gm_bt, c160, nc160]))
                                  exact ih44 (i + 1) (upd J 13 (if J 13 < nI (gm_fu (gm_G1 np nt i G) nt 0) then nI (gm_fu (gm_G1 np nt i G) nt 0) else J 13)) (gm_G1 np nt i G) (by omega) hJ hX2 (by omega) ls _ _ (lv_sub hl [0, 4, 5, 6, 7] rfl) (hP) (hD) hS
                                · exact absurd c208 (by decide)
                              · have c160 := c160
                                have nc160 : (gm_fu (gm_G1 np nt i G) nt 0) = nt := (nI_eq (a := (gm_fu (gm_G1 np nt i G) nt 0)) (b := nt) (by omega) (by omega)).mp c160
                                refine lv_aload_n hx hb d_M_seek_163 rfl (lv_at hl 5 rfl) ?_
                                refine va_get (D := E.1) (cl := gp_cl) (ci := 3) (v := .int (J 10)) (C := R_M) (T := T_M) (N := 27) hx hb hts i_M hown hK hP 0 rfl rfl 23 (by decide) (hts _ w3_75) (fun _ h9 => h9) rfl d_M_seek_164 ?_
                                refine lv_if_eq (tgt := 199) hx hb d_M_seek_167 (by decide) (fun c167 => ?_) (fun c167 => ?_)
                                · have c167 := c167
                                  refine lv_iconst (v := 1) hx hb d_M_seek_199 (by decide) ?_
                                  refine lv_goto (tgt := 204) hx hb d_M_seek_200 (by decide) ?_
                                  refine lv_istore (lv' := [(7, .int 1), (6, .int (gm_cc nt cz (gm_G1 np nt i G))), (5, .int (nI L)), (4, .int (nI i)), (3, .int (nI al)), (2, .int (nI (np + 1))), (0, .ref (E.2.2.2 0)), (1, .int cz)]) hx hb d_M_seek_204 hl (by decide) rfl (fun ls hl => ?_)
                                  refine lv_iload hx hb d_M_seek_206 (lv_at hl 0 rfl) ?_
                                  refine lv_if_eq (tgt := 217) hx hb d_M_seek_208 (by decide) (fun c208 => ?_) (fun c208 => ?_)
                                  · exact absurd c208 (by decide)
                                  · have c208 := c208
                                    have nc208 : ¬ 1 = 0 := fun h => c208 ((nI_eq (a := 1) (b := 0) (by omega) (by omega)).mpr h)
                                    refine lv_aload_n hx hb d_M_seek_211 rfl (lv_at hl 6 rfl) ?_
                                    refine lv_iload hx hb d_M_seek_212 (lv_at hl 1 rfl) ?_
                                    refine gp_cW (q0 := 0) (ci := 3) (As := [.int (gm_cc nt cz (gm_G1 np nt i G))]) (rest := []) ⟨hx, hb, hml, hown, hts⟩ (c_M_keep l E (upd J 13 (if J 13 < nI (gm_fu (gm_G1 np nt i G) nt 0) then nI (gm_fu (gm_G1 np nt i G) nt 0) else J 13)) (gm_G1 np nt i G) np nt (gm_cc nt cz (gm_G1 np nt i G)) hJ.1 hnp hJ.2.1 hnt) (k_M_135 hts ⟨by decide, by decide⟩ rfl rfl) hK hP hD hS hA rfl rfl rfl rfl hl.1 rfl (Nat.le_of_ble_eq_true rfl) d_M_seek_214 ⟨Nat.le_of_ble_eq_true rfl, Nat.le_of_ble_eq_true rfl⟩ (fun H locs hP hD hS => ?_)
                                    have hP : va_P E.1 gp_cl (gp_wM E (gm_kn np nt (gm_cc nt cz (gm_G1 np nt i G)) (gm_J2 nt (gm_G1 np nt i G) J, (gm_G1 np nt i G))).1 (gm_kn np nt (gm_cc nt cz (gm_G1 np nt i G)) (gm_J2 nt (gm_G1 np nt i G) J, (gm_G1 np nt i G))).2) H := hP
                                    have hD : va_D A (gp_wM E (gm_kn np nt (gm_cc nt cz (gm_G1 np nt i G)) (gm_J2 nt (gm_G1 np nt i G) J, (gm_G1 np nt i G))).1 (gm_kn np nt (gm_cc nt cz (gm_G1 np nt i G)) (gm_J2 nt (gm_G1 np nt i G) J, (gm_G1 np nt i G))).2) := hD
                                    refine lv_iinc (v := (nI (i + 1))) (lv' := [(4, .int (nI (i + 1))), (7, .int 1), (6, .int (gm_cc nt cz (gm_G1 np nt i G))), (5, .int (nI L)), (3, .int (nI al)), (2, .int (nI (np + 1))), (0, .ref (E.2.2.2 0)), (1, .int cz)]) hx hb d_M_seek_217 hl (k := 3) rfl (nI_1 _) (by decide) rfl (fun ls hl => ?_)
                                    refine lv_goto (tgt := 44) hx hb d_M_seek_220 (by decide) ?_
                                    have hX2 : gm_sk np nt ns cz (upd (upd I 10 0) 13 (-1), F) (i + 1) = ((gm_kn np nt (gm_cc nt cz (gm_G1 np nt i G)) (gm_J2 nt (gm_G1 np nt i G) J, (gm_G1 np nt i G))).1, (gm_kn np nt (gm_cc nt cz (gm_G1 np nt i G)) (gm_J2 nt (gm_G1 np nt i G) J, (gm_G1 np nt i G))).2) := by rw [gm_sk, hX]; first | exact if_neg hs106 | exact (if_pos hs106).trans (if_neg (by simp [gm_bt, c160, nc160, c167])) | exact (if_pos hs106).trans (if_pos (by simp [gm_bt, c160, nc160, c167]))
                                    exact ih44 (i + 1) (gm_kn np nt (gm_cc nt cz (gm_G1 np nt i G)) (gm_J2 nt (gm_G1 np nt i G) J, (gm_G1 np nt i G))).1 (gm_kn np nt (gm_cc nt cz (gm_G1 np nt i G)) (gm_J2 nt (gm_G1 np nt i G) J, (gm_G1 np nt i G))).2 (by omega) hJ hX2 (by omega) ls _ _ (lv_sub hl [0, 4, 5, 6, 7] rfl) (hP) (hD) hS
                                · have c167 := c167
                                  refine lv_iload hx hb d_M_seek_170 (lv_at hl 0 rfl) ?_
                                  refine lv_aload_n hx hb d_M_seek_172 rfl (lv_at hl 5 rfl) ?_
                                  refine va_get (D := E.1) (cl := gp_cl) (ci := 3) (v := .int (J 11)) (C := R_M) (T := T_M) (N := 27) hx hb hts i_M hown hK hP 0 rfl rfl 24 (by decide) (hts _ w3_76) (fun _ h9 => h9) rfl d_M_seek_173 ?_
                                  refine lv_icmp_lt (tgt := 199) hx hb d_M_seek_176 (by decide) (fun c176 => ?_) (fun c176 => ?_)
                                  · have c176 := c176
                                    have mc176 : ¬ ((J 11) : Int32) ≤ (gm_cc nt cz (gm_G1 np nt i G)) := Int32.not_le.mpr c176
                                    refine lv_iconst (v := 1) hx hb d_M_seek_199 (by decide) ?_
                                    refine lv_goto (tgt := 204) hx hb d_M_seek_200 (by decide) ?_
                                    refine lv_istore (lv' := [(7, .int 1), (6, .int (gm_cc nt cz (gm_G1 np nt i G))), (5, .int (nI L)), (4, .int (nI i)), (3, .int (nI al)), (2, .int (nI (np + 1))), (0, .ref (E.2.2.2 0)), (1, .int cz)]) hx hb d_M_seek_204 hl (by decide) rfl (fun ls hl => ?_)
                                    refine lv_iload hx hb d_M_seek_206 (lv_at hl 0 rfl) ?_
                                    refine lv_if_eq (tgt := 217) hx hb d_M_seek_208 (by decide) (fun c208 => ?_) (fun c208 => ?_)
                                    · exact absurd c208 (by decide)
                                    · have c208 := c208
                                      have nc208 : ¬ 1 = 0 := fun h => c208 ((nI_eq (a := 1) (b := 0) (by omega) (by omega)).mpr h)
                                      refine lv_aload_n hx hb d_M_seek_211 rfl (lv_at hl 6 rfl) ?_
                                      refine lv_iload hx hb d_M_seek_212 (lv_at hl 1 rfl) ?_
                                      refine gp_cW (q0 := 0) (ci := 3) (As := [.int (gm_cc nt cz (gm_G1 np nt i G))]) (rest := []) ⟨hx, hb, hml, hown, hts⟩ (c_M_keep l E (upd J 13 (if J 13 < nI (gm_fu (gm_G1 np nt i G) nt 0) then nI (gm_fu (gm_G1 np nt i G) nt 0) else J 13)) (gm_G1 np nt i G) np nt (gm_cc nt cz (gm_G1 np nt i G)) hJ.1 hnp hJ.2.1 hnt) (k_M_135 hts ⟨by decide, by decide⟩ rfl rfl) hK hP hD hS hA rfl rfl rfl rfl hl.1 rfl (Nat.le_of_ble_eq_true rfl) d_M_seek_214 ⟨Nat.le_of_ble_eq_true rfl, Nat.le_of_ble_eq_true rfl⟩ (fun H locs hP hD hS => ?_)
                                      have hP : va_P E.1 gp_cl (gp_wM E (gm_kn np nt (gm_cc nt cz (gm_G1 np nt i G)) (gm_J2 nt (gm_G1 np nt i G) J, (gm_G1 np nt i G))).1 (gm_kn np nt (gm_cc nt cz (gm_G1 np nt i G)) (gm_J2 nt (gm_G1 np nt i G) J, (gm_G1 np nt i G))).2) H := hP
                                      have hD : va_D A (gp_wM E (gm_kn np nt (gm_cc nt cz (gm_G1 np nt i G)) (gm_J2 nt (gm_G1 np nt i G) J, (gm_G1 np nt i G))).1 (gm_kn np nt (gm_cc nt cz (gm_G1 np nt i G)) (gm_J2 nt (gm_G1 np nt i G) J, (gm_G1 np nt i G))).2) := hD
                                      refine lv_iinc (v := (nI (i + 1))) (lv' := [(4, .int (nI (i + 1))), (7, .int 1), (6, .int (gm_cc nt cz (gm_G1 np nt i G))), (5, .int (nI L)), (3, .int (nI al)), (2, .int (nI (np + 1))), (0, .ref (E.2.2.2 0)), (1, .int cz)]) hx hb d_M_seek_217 hl (k := 3) rfl (nI_1 _) (by decide) rfl (fun ls hl => ?_)
                                      refine lv_goto (tgt := 44) hx hb d_M_seek_220 (by decide) ?_
                                      have hX2 : gm_sk np nt ns cz (upd (upd I 10 0) 13 (-1), F) (i + 1) = ((gm_kn np nt (gm_cc nt cz (gm_G1 np nt i G)) (gm_J2 nt (gm_G1 np nt i G) J, (gm_G1 np nt i G))).1, (gm_kn np nt (gm_cc nt cz (gm_G1 np nt i G)) (gm_J2 nt (gm_G1 np nt i G) J, (gm_G1 np nt i G))).2) := by rw [gm_sk, hX]; first | exact if_neg hs106 | exact (if_pos hs106).trans (if_neg (by simp [gm_bt, c160, nc160, c167, c176, mc176])) | exact (if_pos hs106).trans (if_pos (by simp [gm_bt, c160, nc160, c167, c176, mc176]))
                                      exact ih44 (i + 1) (gm_kn np nt (gm_cc nt cz (gm_G1 np nt i G)) (gm_J2 nt (gm_G1 np nt i G) J, (gm_G1 np nt i G))).1 (gm_kn np nt (gm_cc nt cz (gm_G1 np nt i G)) (gm_J2 nt (gm_G1 np nt i G) J, (gm_G1 np nt i G))).2 (by omega) hJ hX2 (by omega) ls _ _ (lv_sub hl [0, 4, 5, 6, 7] rfl) (hP) (hD) hS
                                  · have c176 := c176
                                    have mc176 : ((J 11) : Int32) ≤ (gm_cc nt cz (gm_G1 np nt i G)) := Int32.not_lt.mp c176
                                    refine lv_iload hx hb d_M_seek_179 (lv_at hl 0 rfl) ?_
                                    refine lv_aload_n hx hb d_M_seek_181 rfl (lv_at hl 5 rfl) ?_
                                    refine va_get (D := E.1) (cl := gp_cl) (ci := 3) (v := .int (J 11)) (C := R_M) (T := T_M) (N := 27) hx hb hts i_M hown hK hP 0 rfl rfl 24 (by decide) (hts _ w3_76) (fun _ h9 => h9) rfl d_M_seek_182 ?_
                                    refine lv_icmp_ne (tgt := 203) hx hb d_M_seek_185 (by decide) (fun c185 => ?_) (fun c185 => ?_)
                                    · have c185 := c185
                                      refine lv_iconst (v := 0) hx hb d_M_seek_203 (by decide) ?_
                                      refine lv_istore (lv' := [(7, .int 0), (6, .int (gm_cc nt cz (gm_G1 np nt i G))), (5, .int (nI L)), (4, .int (nI i)), (3, .int (nI al)), (2, .int (nI (np + 1))), (0, .ref (E.2.2.2 0)), (1, .int cz)]) hx hb d_M_seek_204 hl (by decide) rfl (fun ls hl => ?_)
                                      refine lv_iload hx hb d_M_seek_206 (lv_at hl 0 rfl) ?_
                                      refine lv_if_eq (tgt := 217) hx hb d_M_seek_208 (by decide) (fun c208 => ?_) (fun c208 => ?_)
                                      · have c208 := c208
                                        have nc208 : 0 = 0 := (nI_eq (a := 0) (b := 0) (by omega) (by omega)).mp c208
                                        refine lv_iinc (v := (nI (i + 1))) (lv' := [(4, .int (nI (i + 1))), (7, .int 0), (6, .int (gm_cc nt cz (gm_G1 np nt i G))), (5, .int (nI L)), (3, .int (nI al)), (2, .int (nI (np + 1))), (0, .ref (E.2.2.2 0)), (1, .int cz)]) hx hb d_M_seek_217 hl (k := 3) rfl (nI_1 _) (by decide) rfl (fun ls hl => ?_)
                                        refine lv_goto (tgt := 44) hx hb d_M_seek_220 (by decide) ?_
                                        have hX2 : gm_sk np nt ns cz (upd (upd I 10 0) 13 (-1), F) (i + 1) = ((upd J 13 (if J 13 < nI (gm_fu (gm_G1 np nt i G) nt 0) then nI (gm_fu (gm_G1 np nt i G) nt 0) else J 13)), (gm_G1 np nt i G)) := by rw [gm_sk, hX]; first | exact if_neg hs106 | exact (if_pos hs106).trans (if_neg (by simp [gm_bt, c160, nc160, c167, c176, mc176, c185])) | exact (if_pos hs106).trans (if_pos (by simp [gm_bt, c160, nc160, c167, c176, mc176, c185]))
                                        exact ih44 (i + 1) (upd J 13 (if J 13 < nI (gm_fu (gm_G1 np nt i G) nt 0) then nI (gm_fu (gm_G1 np nt i G) nt 0) else J 13)) (gm_G1 np nt i G) (by omega) hJ hX2 (by omega) ls _ _ (lv_sub hl [0, 4, 5, 6, 7] rfl) (hP) (hD) hS
                                      · exact absurd c208 (by decide)
                                    · have c185 := c185
                                      refine lv_aload_n hx hb d_M_seek_188 rfl (lv_at hl 5 rfl) ?_
                                      refine gp_cR (q0 := 0) (ci := 3) (As := []) (rest := []) ⟨hx, hb, hml, hown, hts⟩ (show gp_CR _ _ _ _ _ _ _ _ _ (gm_c (gm_dg np nt i (G 9)) nt np) from c_M_costOf l E (upd J 13 (if J 13 < nI (gm_fu (gm_G1 np nt i G) nt 0) then nI (gm_fu (gm_G1 np nt i G) nt 0) else J 13)) (gm_G1 np nt i G) np nt hJ.1 hnp hJ.2.1 hnt) (k_M_129 hts ⟨by decide, by decide⟩ rfl rfl) hK hP rfl rfl rfl hl.1 rfl (Nat.le_of_ble_eq_true rfl) d_M_seek_189 ⟨Nat.le_of_ble_eq_true rfl, Nat.le_of_ble_eq_true rfl⟩ ?_
                                      refine lv_aload_n hx hb d_M_seek_192 rfl (lv_at hl 5 rfl) ?_
                                      refine va_get (D := E.1) (cl := gp_cl) (ci := 3) (v := .int (J 12)) (C := R_M) (T := T_M) (N := 27) hx hb hts i_M hown hK hP 0 rfl rfl 25 (by decide) (hts _ w3_77) (fun _ h9 => h9) rfl d_M_seek_193 ?_
                                      refine lv_icmp_ge (tgt := 203) hx hb d_M_seek_196 (by decide) (fun c196 => ?_) (fun c196 => ?_)
                                      · have c196 := c196
                                        have mc196 : ¬ ((gm_c (gm_dg np nt i (G 9)) nt np) : Int32) < (J 12) := Int32.not_lt.mpr c196
                                        refine lv_iconst (v := 0) hx hb d_M_seek_203 (by decide) ?_
                                        refine lv_istore (lv' := [(7, .int 0), (6, .int (gm_cc nt cz (gm_G1 np nt i G))), (5, .int (nI L)), (4, .int (nI i)), (3, .int (nI al)), (2, .int (nI (np + 1))), (0, .ref (E.2.2.2 0)), (1, .int cz)]) hx hb d_M_seek_204 hl (by decide) rfl (fun ls hl => ?_)
                                        refine lv_iload hx hb d_M_seek_206 (lv_at hl 0 rfl) ?_
                                        refine lv_if_eq (tgt := 217) hx hb d_M_seek_208 (by decide) (fun c208 => ?_) (fun c208 => ?_)
                                        · have c208 := c208
                                          have nc208 : 0 = 0 := (nI_eq (a := 0) (b := 0) (by omega) (by omega)).mp c208
                                          refine lv_iinc (v := (nI (i + 1))) (lv' := [(4, .int (nI (i + 1))), (7, .int 0), (6, .int (gm_cc nt cz (gm_G1 np nt i G))), (5, .int (nI L)), (3, .int (nI al)), (2, .int (nI (np + 1))), (0, .ref (E.2.2.2 0)), (1, .int cz)]) hx hb d_M_seek_217 hl (k := 3) rfl (nI_1 _) (by decide) rfl (fun ls hl => ?_)
                                          refine lv_goto (tgt := 44) hx hb d_M_seek_220 (by decide) ?_
                                          have hX2 : gm_sk np nt ns cz (upd (upd I 10 0) 13 (-1), F) (i + 1) = ((upd J 13 (if J 13 < nI (gm_fu (gm_G1 np nt i G) nt 0) then nI (gm_fu (gm_G1 np nt i G) nt 0) else J 13)), (gm_G1 np nt i G)) := by rw [gm_sk, hX]; first | exact if_neg hs106 | exact (if_pos hs106).trans (if_neg (by simp [gm_bt, c160, nc160, c167, c176, mc176, c185, c196, mc196])) | exact (if_pos hs106).trans (if_pos (by simp [gm_bt, c160, nc160, c167, c176, mc176, c185, c196, mc196]))
                                          exact ih44 (i + 1) (upd J 13 (if J 13 < nI (gm_fu (gm_G1 np nt i G) nt 0) then nI (gm_fu (gm_G1 np nt i G) nt 0) else J 13)) (gm_G1 np nt i G) (by omega) hJ hX2 (by omega) ls _ _ (lv_sub hl [0, 4, 5, 6, 7] rfl) (hP) (hD) hS
                                        · exact absurd c208 (by decide)
                                      · have c196 := c196
                                        have mc196 : ((gm_c (gm_dg np nt i (G 9)) nt np) : Int32) < (J 12) := Int32.not_le.mp c196
                                        refine lv_iconst (v := 1) hx hb d_M_seek_199 (by decide) ?_
                                        refine lv_goto (tgt := 204) hx hb d_M_seek_200 (by decide) ?_
                                        refine lv_istore (lv' := [(7, .int 1), (6, .int (gm_cc nt cz (gm_G1 np nt i G))), (5, .int (nI L)), (4, .int (nI i)), (3, .int (nI al)), (2, .int (nI (np + 1))), (0, .ref (E.2.2.2 0)), (1, .int cz)]) hx hb d_M_seek_204 hl (by decide) rfl (fun ls hl => ?_)
                                        refine lv_iload hx hb d_M_seek_206 (lv_at hl 0 rfl) ?_
                                        refine lv_if_eq (tgt := 217) hx hb d_M_seek_208 (by decide) (fun c208 => ?_) (fun c208 => ?_)
                                        · exact absurd c208 (by decide)
                                        · have c208 := c208
                                          have nc208 : ¬ 1 = 0 := fun h => c208 ((nI_eq (a := 1) (b := 0) (by omega) (by omega)).mpr h)
                                          refine lv_aload_n hx hb d_M_seek_211 rfl (lv_at hl 6 rfl) ?_
                                          refine lv_iload hx hb d_M_seek_212 (lv_at hl 1 rfl) ?_
                                          refine gp_cW (q0 := 0) (ci := 3) (As := [.int (gm_cc nt cz (gm_G1 np nt i G))]) (rest := []) ⟨hx, hb, hml, hown, hts⟩ (c_M_keep l E (upd J 13 (if J 13 < nI (gm_fu (gm_G1 np nt i G) nt 0) then nI (gm_fu (gm_G1 np nt i G) nt 0) else J 13)) (gm_G1 np nt i G) np nt (gm_cc nt cz (gm_G1 np nt i G)) hJ.1 hnp hJ.2.1 hnt) (k_M_135 hts ⟨by decide, by decide⟩ rfl rfl) hK hP hD hS hA rfl rfl rfl rfl hl.1 rfl (Nat.le_of_ble_eq_true rfl) d_M_seek_214 ⟨Nat.le_of_ble_eq_true rfl, Nat.le_of_ble_eq_true rfl⟩ (fun H locs hP hD hS => ?_)
                                          have hP : va_P E.1 gp_cl (gp_wM E (gm_kn np nt (gm_cc nt cz (gm_G1 np nt i G)) (gm_J2 nt (gm_G1 np nt i G) J, (gm_G1 np nt i G))).1 (gm_kn np nt (gm_cc nt cz (gm_G1 np nt i G)) (gm_J2 nt (gm_G1 np nt i G) J, (gm_G1 np nt i G))).2) H := hP
                                          have hD : va_D A (gp_wM E (gm_kn np nt (gm_cc nt cz (gm_G1 np nt i G)) (gm_J2 nt (gm_G1 np nt i G) J, (gm_G1 np nt i G))).1 (gm_kn np nt (gm_cc nt cz (gm_G1 np nt i G)) (gm_J2 nt (gm_G1 np nt i G) J, (gm_G1 np nt i G))).2) := hD
                                          refine lv_iinc (v := (nI (i + 1))) (lv' := [(4, .int (nI (i + 1))), (7, .int 1), (6, .int (gm_cc nt cz (gm_G1 np nt i G))), (5, .int (nI L)), (3, .int (nI al)), (2, .int (nI (np + 1))), (0, .ref (E.2.2.2 0)), (1, .int cz)]) hx hb d_M_seek_217 hl (k := 3) rfl (nI_1 _) (by decide) rfl (fun ls hl => ?_)
                                          refine lv_goto (tgt := 44) hx hb d_M_seek_220 (by decide) ?_
                                          have hX2 : gm_sk np nt ns cz (upd (upd I 10 0) 13 (-1), F) (i + 1) = ((gm_kn np nt (gm_cc nt cz (gm_G1 np nt i G)) (gm_J2 nt (gm_G1 np nt i G) J, (gm_G1 np nt i G))).1, (gm_kn np nt (gm_cc nt cz (gm_G1 np nt i G)) (gm_J2 nt (gm_G1 np nt i G) J, (gm_G1 np nt i G))).2) := by rw [gm_sk, hX]; first | exact if_neg hs106 | exact (if_pos hs106).trans (if_neg (by simp [gm_bt, c160, nc160, c167, c176, mc176, c185, c196, mc196])) | exact (if_pos hs106).trans (if_pos (by simp [gm_bt, c160, nc160, c167, c176, mc176, c185, c196, mc196]))
                                          exact ih44 (i + 1) (gm_kn np nt (gm_cc nt cz (gm_G1 np nt i G)) (gm_J2 nt (gm_G1 np nt i G) J, (gm_G1 np nt i G))).1 (gm_kn np nt (gm_cc nt cz (gm_G1 np nt i G)) (gm_J2 nt (gm_G1 np nt i G) J, (gm_G1 np nt i G))).2 (by omega) hJ hX2 (by omega) ls _ _ (lv_sub hl [0, 4, 5, 6, 7] rfl) (hP) (hD) hS
                            · have c139 := c139
                              refine lv_aload_n hx hb d_M_seek_142 rfl (lv_at hl 5 rfl) ?_
                              refine gp_cR (q0 := 0) (ci := 3) (As := []) (rest := []) ⟨hx, hb, hml, hown, hts⟩ (c_M_differences l E (upd J 13 (if J 13 < nI (gm_fu (gm_G1 np nt i G) nt 0) then nI (gm_fu (gm_G1 np nt i G) nt 0) else J 13)) (gm_G1 np nt i G) nt hJ.2.1 hnt) (k_M_123 hts ⟨by decide, by decide⟩ rfl rfl) hK hP rfl rfl rfl hl.1 rfl (Nat.le_of_ble_eq_true rfl) d_M_seek_143 ⟨Nat.le_of_ble_eq_true rfl, Nat.le_of_ble_eq_true rfl⟩ ?_
                              refine lv_goto (tgt := 150) hx hb d_M_seek_146 (by decide) ?_
                              rw [show ((nI (gm_df (gm_G1 np nt i G) nt)) : Int32) = (gm_cc nt cz (gm_G1 np nt i G)) from by simp [gm_cc, h1, c18, nc18, hJ, hX, c47, nc47, k1, k2, c64, mc64, hs106, c109, nc109, c121, mc121, c139]]
                              refine lv_istore (lv' := [(6, .int (gm_cc nt cz (gm_G1 np nt i G))), (5, .int (nI L)), (4, .int (nI i)), (3, .int (nI al)), (2, .int (nI (np + 1))), (0, .ref (E.2.2.2 0)), (1, .int cz)]) hx hb d_M_seek_150 hl (by decide) rfl (fun ls hl => ?_)
                              refine lv_aload_n hx hb d_M_seek_152 rfl (lv_at hl 5 rfl) ?_
                              refine gp_cR (q0 := 0) (ci := 3) (As := []) (rest := []) ⟨hx, hb, hml, hown, hts⟩ (c_M_full l E (upd J 13 (if J 13 < nI (gm_fu (gm_G1 np nt i G) nt 0) then nI (gm_fu (gm_G1 np nt i G) nt 0) else J 13)) (gm_G1 np nt i G) nt hJ.2.1 hnt) (k_M_119 hts ⟨by decide, by decide⟩ rfl rfl) hK hP rfl rfl rfl hl.1 rfl (Nat.le_of_ble_eq_true rfl) d_M_seek_153 ⟨Nat.le_of_ble_eq_true rfl, Nat.le_of_ble_eq_true rfl⟩ ?_
                              refine lv_aload_n hx hb d_M_seek_156 rfl (lv_at hl 5 rfl) ?_
                              refine va_get (D := E.1) (cl := gp_cl) (ci := 3) (v := .int (nI nt)) (C := R_M) (T := T_M) (N := 27) hx hb hts i_M hown hK hP 0 rfl rfl 7 (by decide) (hts _ w3_59) (fun _ h9 => h9) (congrArg (fun z => some (Value.int z)) hJ.2.1) d_M_seek_157 ?_
                              refine lv_icmp_ne (tgt := 203) hx hb d_M_seek_160 (by decide) (fun c160 => ?_) (fun c160 => ?_)
                              · have c160 := c160
                                have nc160 : ¬ (gm_fu (gm_G1 np nt i G) nt 0) = nt := fun h => c160 ((nI_eq (a := (gm_fu (gm_G1 np nt i G) nt 0)) (b := nt) (by omega) (by omega)).mpr h)
                                refine lv_iconst (v := 0) hx hb d_M_seek_203 (by decide) ?_
                                refine lv_istore (lv' := [(7, .int 0), (6, .int (gm_cc nt cz (gm_G1 np nt i G))), (5, .int (nI L)), (4, .int (nI i)), (3, .int (nI al)), (2, .int (nI (np + 1))), (0, .ref (E.2.2.2 0)), (1, .int cz)]) hx hb d_M_seek_204 hl (by decide) rfl (fun ls hl => ?_)
                                refine lv_iload hx hb d_M_seek_206 (lv_at hl 0 rfl) ?_
                                refine lv_if_eq (tgt := 217) hx hb d_M_seek_208 (by decide) (fun c208 => ?_) (fun c208 => ?_)
                                · have c208 := c208
                                  have nc208 : 0 = 0 := (nI_eq (a := 0) (b := 0) (by omega) (by omega)).mp c208
                                  refine lv_iinc (v := (nI (i + 1))) (lv' := [(4, .int (nI (i + 1))), (7, .int 0), (6, .int (gm_cc nt cz (gm_G1 np nt i G))), (5, .int (nI L)), (3, .int (nI al)), (2, .int (nI (np + 1))), (0, .ref (E.2.2.2 0)), (1, .int cz)]) hx hb d_M_seek_217 hl (k := 3) rfl (nI_1 _) (by decide) rfl (fun ls hl => ?_)
                                  refine lv_goto (tgt := 44) hx hb d_M_seek_220 (by decide) ?_
                                  have hX2 : gm_sk np nt ns cz (upd (upd I 10 0) 13 (-1), F) (i + 1) = ((upd J 13 (if J 13 < nI (gm_fu (gm_G1 np nt i G) nt 0) then nI (gm_fu (gm_G1 np nt i G) nt 0) else J 13)), (gm_G1 np nt i G)) := by rw [gm_sk, hX]; first | exact if_neg hs106 | exact (if_pos hs106).trans (if_neg (by simp [gm_bt, c160, nc160])) | exact (if_pos hs106).trans (if_pos (by simp [gm_bt, c160, nc160]))
                                  exact ih44 (i + 1) (upd J 13 (if J 13 < nI (gm_fu (gm_G1 np nt i G) nt 0) then nI (gm_fu (gm_G1 np nt i G) nt 0) else J 13)) (gm_G1 np nt i G) (by omega) hJ hX2 (by omega) ls _ _ (lv_sub hl [0, 4, 5, 6, 7] rfl) (hP) (hD) hS
                                · exact absurd c208 (by decide)
                              · have c160 := c160
                                have nc160 : (gm_fu (gm_G1 np nt i G) nt 0) = nt := (nI_eq (a := (gm_fu (gm_G1 np nt i G) nt 0)) (b := nt) (by omega) (by omega)).mp c160
                                refine lv_aload_n hx hb d_M_seek_163 rfl (lv_at hl 5 rfl) ?_
                                refine va_get (D := E.1) (cl := gp_cl) (ci := 3) (v := .int (J 10)) (C := R_M) (T := T_M) (N := 27) hx hb hts i_M hown hK hP 0 rfl rfl 23 (by decide) (hts _ w3_75) (fun _ h9 => h9) rfl d_M_seek_164 ?_
                                refine lv_if_eq (tgt := 199) hx hb d_M_seek_167 (by decide) (fun c167 => ?_) (fun c167 => ?_)
                                · have c167 := c167
                                  refine lv_iconst (v := 1) hx hb d_M_seek_199 (by decide) ?_
                                  refine lv_goto (tgt := 204) hx hb d_M_seek_200 (by decide) ?_
                                  refine lv_istore (lv' := [(7, .int 1), (6, .int (gm_cc nt cz (gm_G1 np nt i G))), (5, .int (nI L)), (4, .int (nI i)), (3, .int (nI al)), (2, .int (nI (np + 1))), (0, .ref (E.2.2.2 0)), (1, .int cz)]) hx hb d_M_seek_204 hl (by decide) rfl (fun ls hl => ?_)
                                  refine lv_iload hx hb d_M_seek_206 (lv_at hl 0 rfl) ?_
                                  refine lv_if_eq (tgt := 217) hx hb d_M_seek_208 (by decide) (fun c208 => ?_) (fun c208 => ?_)
                                  · exact absurd c208 (by decide)
                                  · have c208 := c208
                                    have nc208 : ¬ 1 = 0 := fun h => c208 ((nI_eq (a := 1) (b := 0) (by omega) (by omega)).mpr h)
                                    refine lv_aload_n hx hb d_M_seek_211 rfl (lv_at hl 6 rfl) ?_
                                    refine lv_iload hx hb d_M_seek_212 (lv_at hl 1 rfl) ?_
                                    refine gp_cW (q0 := 0) (ci := 3) (As := [.int (gm_cc nt cz (gm_G1 np nt i G))]) (rest := []) ⟨hx, hb, hml, hown, hts⟩ (c_M_keep l E (upd J 13 (if J 13 < nI (gm_fu (gm_G1 np nt i G) nt 0) then nI (gm_fu (gm_G1 np nt i G) nt 0) else J 13)) (gm_G1 np nt i G) np nt (gm_cc nt cz (gm_G1 np nt i G)) hJ.1 hnp hJ.2.1 hnt) (k_M_135 hts ⟨by decide, by decide⟩ rfl rfl) hK hP hD hS hA rfl rfl rfl rfl hl.1 rfl (Nat.le_of_ble_eq_true rfl) d_M_seek_214 ⟨Nat.le_of_ble_eq_true rfl, Nat.le_of_ble_eq_true rfl⟩ (fun H locs hP hD hS => ?_)
                                    have hP : va_P E.1 gp_cl (gp_wM E (gm_kn np nt (gm_cc nt cz (gm_G1 np nt i G)) (gm_J2 nt (gm_G1 np nt i G) J, (gm_G1 np nt i G))).1 (gm_kn np nt (gm_cc nt cz (gm_G1 np nt i G)) (gm_J2 nt (gm_G1 np nt i G) J, (gm_G1 np nt i G))).2) H := hP
                                    have hD : va_D A (gp_wM E (gm_kn np nt (gm_cc nt cz (gm_G1 np nt i G)) (gm_J2 nt (gm_G1 np nt i G) J, (gm_G1 np nt i G))).1 (gm_kn np nt (gm_cc nt cz (gm_G1 np nt i G)) (gm_J2 nt (gm_G1 np nt i G) J, (gm_G1 np nt i G))).2) := hD
                                    refine lv_iinc (v := (nI (i + 1))) (lv' := [(4, .int (nI (i + 1))), (7, .int 1), (6, .int (gm_cc nt cz (gm_G1 np nt i G))), (5, .int (nI L)), (3, .int (nI al)), (2, .int (nI (np + 1))), (0, .ref (E.2.2.2 0)), (1, .int cz)]) hx hb d_M_seek_217 hl (k := 3) rfl (nI_1 _) (by decide) rfl (fun ls hl => ?_)
                                    refine lv_goto (tgt := 44) hx hb d_M_seek_220 (by decide) ?_
                                    have hX2 : gm_sk np nt ns cz (upd (upd I 10 0) 13 (-1), F) (i + 1) = ((gm_kn np nt (gm_cc nt cz (gm_G1 np nt i G)) (gm_J2 nt (gm_G1 np nt i G) J, (gm_G1 np nt i G))).1, (gm_kn np nt (gm_cc nt cz (gm_G1 np nt i G)) (gm_J2 nt (gm_G1 np nt i G) J, (gm_G1 np nt i G))).2) := by rw [gm_sk, hX]; first | exact if_neg hs106 | exact (if_pos hs106).trans (if_neg (by simp [gm_bt, c160, nc160, c167])) | exact (if_pos hs106).trans (if_pos (by simp [gm_bt, c160, nc160, c167]))
                                    exact ih44 (i + 1) (gm_kn np nt (gm_cc nt cz (gm_G1 np nt i G)) (gm_J2 nt (gm_G1 np nt i G) J, (gm_G1 np nt i G))).1 (gm_kn np nt (gm_cc nt cz (gm_G1 np nt i G)) (gm_J2 nt (gm_G1 np nt i G) J, (gm_G1 np nt i G))).2 (by omega) hJ hX2 (by omega) ls _ _ (lv_sub hl [0, 4, 5, 6, 7] rfl) (hP) (hD) hS
                                · have c167 := c167
                                  refine lv_iload hx hb d_M_seek_170 (lv_at hl 0 rfl) ?_
                                  refine lv_aload_n hx hb d_M_seek_172 rfl (lv_at hl 5 rfl) ?_
                                  refine va_get (D := E.1) (cl := gp_cl) (ci := 3) (v := .int (J 11)) (C := R_M) (T := T_M) (N := 27) hx hb hts i_M hown hK hP 0 rfl rfl 24 (by decide) (hts _ w3_76) (fun _ h9 => h9) rfl d_M_seek_173 ?_
                                  refine lv_icmp_lt (tgt := 199) hx hb d_M_seek_176 (by decide) (fun c176 => ?_) (fun c176 => ?_)
                                  · have c176 := c176
                                    have mc176 : ¬ ((J 11) : Int32) ≤ (gm_cc nt cz (gm_G1 np nt i G)) := Int32.not_le.mpr c176
                                    refine lv_iconst (v := 1) hx hb d_M_seek_199 (by decide) ?_
                                    refine lv_goto (tgt := 204) hx hb d_M_seek_200 (by decide) ?_
                                    refine lv_istore (lv' := [(7, .int 1), (6, .int (gm_cc nt cz (gm_G1 np nt i G))), (5, .int (nI L)), (4, .int (nI i)), (3, .int (nI al)), (2, .int (nI (np + 1))), (0, .ref (E.2.2.2 0)), (1, .int cz)]) hx hb d_M_seek_204 hl (by decide) rfl (fun ls hl => ?_)
                                    refine lv_iload hx hb d_M_seek_206 (lv_at hl 0 rfl) ?_
                                    refine lv_if_eq (tgt := 217) hx hb d_M_seek_208 (by decide) (fun c208 => ?_) (fun c208 => ?_)
                                    · exact absurd c208 (by decide)
                                    · have c208 := c208
                                      have nc208 : ¬ 1 = 0 := fun h => c208 ((nI_eq (a := 1) (b := 0) (by omega) (by omega)).mpr h)
                                      refine lv_aload_n hx hb d_M_seek_211 rfl (lv_at hl 6 rfl) ?_
                                      refine lv_iload hx hb d_M_seek_212 (lv_at hl 1 rfl) ?_
                                      refine gp_cW (q0 := 0) (ci := 3) (As := [.int (gm_cc nt cz (gm_G1 np nt i G))]) (rest := []) ⟨hx, hb, hml, hown, hts⟩ (c_M_keep l E (upd J 13 (if J 13 < nI (gm_fu (gm_G1 np nt i G) nt 0) then nI (gm_fu (gm_G1 np nt i G) nt 0) else J 13)) (gm_G1 np nt i G) np nt (gm_cc nt cz (gm_G1 np nt i G)) hJ.1 hnp hJ.2.1 hnt) (k_M_135 hts ⟨by decide, by decide⟩ rfl rfl) hK hP hD hS hA rfl rfl rfl rfl hl.1 rfl (Nat.le_of_ble_eq_true rfl) d_M_seek_214 ⟨Nat.le_of_ble_eq_true rfl, Nat.le_of_ble_eq_true rfl⟩ (fun H locs hP hD hS => ?_)
                                      have hP : va_P E.1 gp_cl (gp_wM E (gm_kn np nt (gm_cc nt cz (gm_G1 np nt i G)) (gm_J2 nt (gm_G1 np nt i G) J, (gm_G1 np nt i G))).1 (gm_kn np nt (gm_cc nt cz (gm_G1 np nt i G)) (gm_J2 nt (gm_G1 np nt i G) J, (gm_G1 np nt i G))).2) H := hP
                                      have hD : va_D A (gp_wM E (gm_kn np nt (gm_cc nt cz (gm_G1 np nt i G)) (gm_J2 nt (gm_G1 np nt i G) J, (gm_G1 np nt i G))).1 (gm_kn np nt (gm_cc nt cz (gm_G1 np nt i G)) (gm_J2 nt (gm_G1 np nt i G) J, (gm_G1 np nt i G))).2) := hD
                                      refine lv_iinc (v := (nI (i + 1))) (lv' := [(4, .int (nI (i + 1))), (7, .int 1), (6, .int (gm_cc nt cz (gm_G1 np nt i G))), (5, .int (nI L)), (3, .int (nI al)), (2, .int (nI (np + 1))), (0, .ref (E.2.2.2 0)), (1, .int cz)]) hx hb d_M_seek_217 hl (k := 3) rfl (nI_1 _) (by decide) rfl (fun ls hl => ?_)
                                      refine lv_goto (tgt := 44) hx hb d_M_seek_220 (by decide) ?_
                                      have hX2 : gm_sk np nt ns cz (upd (upd I 10 0) 13 (-1), F) (i + 1) = ((gm_kn np nt (gm_cc nt cz (gm_G1 np nt i G)) (gm_J2 nt (gm_G1 np nt i G) J, (gm_G1 np nt i G))).1, (gm_kn np nt (gm_cc nt cz (gm_G1 np nt i G)) (gm_J2 nt (gm_G1 np nt i G) J, (gm_G1 np nt i G))).2) := by rw [gm_sk, hX]; first | exact if_neg hs106 | exact (if_pos hs106).trans (if_neg (by simp [gm_bt, c160, nc160, c167, c176, mc176])) | exact (if_pos hs106).trans (if_pos (by simp [gm_bt, c160, nc160, c167, c176, mc176]))
                                      exact ih44 (i + 1) (gm_kn np nt (gm_cc nt cz (gm_G1 np nt i G)) (gm_J2 nt (gm_G1 np nt i G) J, (gm_G1 np nt i G))).1 (gm_kn np nt (gm_cc nt cz (gm_G1 np nt i G)) (gm_J2 nt (gm_G1 np nt i G) J, (gm_G1 np nt i G))).2 (by omega) hJ hX2 (by omega) ls _ _ (lv_sub hl [0, 4, 5, 6, 7] rfl) (hP) (hD) hS
                                  · have c176 := c176
                                    have mc176 : ((J 11) : Int32) ≤ (gm_cc nt cz (gm_G1 np nt i G)) := Int32.not_lt.mp c176
                                    refine lv_iload hx hb d_M_seek_179 (lv_at hl 0 rfl) ?_
                                    refine lv_aload_n hx hb d_M_seek_181 rfl (lv_at hl 5 rfl) ?_
                                    refine va_get (D := E.1) (cl := gp_cl) (ci := 3) (v := .int (J 11)) (C := R_M) (T := T_M) (N := 27) hx hb hts i_M hown hK hP 0 rfl rfl 24 (by decide) (hts _ w3_76) (fun _ h9 => h9) rfl d_M_seek_182 ?_
                                    refine lv_icmp_ne (tgt := 203) hx hb d_M_seek_185 (by decide) (fun c185 => ?_) (fun c185 => ?_)
                                    · have c185 := c185
                                      refine lv_iconst (v := 0) hx hb d_M_seek_203 (by decide) ?_
                                      refine lv_istore (lv' := [(7, .int 0), (6, .int (gm_cc nt cz (gm_G1 np nt i G))), (5, .int (nI L)), (4, .int (nI i)), (3, .int (nI al)), (2, .int (nI (np + 1))), (0, .ref (E.2.2.2 0)), (1, .int cz)]) hx hb d_M_seek_204 hl (by decide) rfl (fun ls hl => ?_)
                                      refine lv_iload hx hb d_M_seek_206 (lv_at hl 0 rfl) ?_
                                      refine lv_if_eq (tgt := 217) hx hb d_M_seek_208 (by decide) (fun c208 => ?_) (fun c208 => ?_)
                                      · have c208 := c208
                                        have nc208 : 0 = 0 := (nI_eq (a := 0) (b := 0) (by omega) (by omega)).mp c208
                                        refine lv_iinc (v := (nI (i + 1))) (lv' := [(4, .int (nI (i + 1))), (7, .int 0), (6, .int (gm_cc nt cz (gm_G1 np nt i G))), (5, .int (nI L)), (3, .int (nI al)), (2, .int (nI (np + 1))), (0, .ref (E.2.2.2 0)), (1, .int cz)]) hx hb d_M_seek_217 hl (k := 3) rfl (nI_1 _) (by decide) rfl (fun ls hl => ?_)
                                        refine lv_goto (tgt := 44) hx hb d_M_seek_220 (by decide) ?_
                                        have hX2 : gm_sk np nt ns cz (upd (upd I 10 0) 13 (-1), F) (i + 1) = ((upd J 13 (if J 13 < nI (gm_fu (gm_G1 np nt i G) nt 0) then nI (gm_fu (gm_G1 np nt i G) nt 0) else J 13)), (gm_G1 np nt i G)) := by rw [gm_sk, hX]; first | exact if_neg hs106 | exact (if_pos hs106).trans (if_neg (by simp [gm_bt, c160, nc160, c167, c176, mc176, c185])) | exact (if_pos hs106).trans (if_pos (by simp [gm_bt, c160, nc160, c167, c176, mc176, c185]))
                                        exact ih44 (i + 1) (upd J 13 (if J 13 < nI (gm_fu (gm_G1 np nt i G) nt 0) then nI (gm_fu (gm_G1 np nt i G) nt 0) else J 13)) (gm_G1 np nt i G) (by omega) hJ hX2 (by omega) ls _ _ (lv_sub hl [0, 4, 5, 6, 7] rfl) (hP) (hD) hS
                                      · exact absurd c208 (by decide)
                                    · have c185 := c185
                                      refine lv_aload_n hx hb d_M_seek_188 rfl (lv_at hl 5 rfl) ?_
                                      refine gp_cR (q0 := 0) (ci := 3) (As := []) (rest := []) ⟨hx, hb, hml, hown, hts⟩ (show gp_CR _ _ _ _ _ _ _ _ _ (gm_c (gm_dg np nt i (G 9)) nt np) from c_M_costOf l E (upd J 13 (if J 13 < nI (gm_fu (gm_G1 np nt i G) nt 0) then nI (gm_fu (gm_G1 np nt i G) nt 0) else J 13)) (gm_G1 np nt i G) np nt hJ.1 hnp hJ.2.1 hnt) (k_M_129 hts ⟨by decide, by decide⟩ rfl rfl) hK hP rfl rfl rfl hl.1 rfl (Nat.le_of_ble_eq_true rfl) d_M_seek_189 ⟨Nat.le_of_ble_eq_true rfl, Nat.le_of_ble_eq_true rfl⟩ ?_
                                      refine lv_aload_n hx hb d_M_seek_192 rfl (lv_at hl 5 rfl) ?_
                                      refine va_get (D := E.1) (cl := gp_cl) (ci := 3) (v := .int (J 12)) (C := R_M) (T := T_M) (N := 27) hx hb hts i_M hown hK hP 0 rfl rfl 25 (by decide) (hts _ w3_77) (fun _ h9 => h9) rfl d_M_seek_193 ?_
                                      refine lv_icmp_ge (tgt := 203) hx hb d_M_seek_196 (by decide) (fun c196 => ?_) (fun c196 => ?_)
                                      · have c196 := c196
                                        have mc196 : ¬ ((gm_c (gm_dg np nt i (G 9)) nt np) : Int32) < (J 12) := Int32.not_lt.mpr c196
                                        refine lv_iconst (v := 0) hx hb d_M_seek_203 (by decide) ?_
                                        refine lv_istore (lv' := [(7, .int 0), (6, .int (gm_cc nt cz (gm_G1 np nt i G))), (5, .int (nI L)), (4, .int (nI i)), (3, .int (nI al)), (2, .int (nI (np + 1))), (0, .ref (E.2.2.2 0)), (1, .int cz)]) hx hb d_M_seek_204 hl (by decide) rfl (fun ls hl => ?_)
                                        refine lv_iload hx hb d_M_seek_206 (lv_at hl 0 rfl) ?_
                                        refine lv_if_eq (tgt := 217) hx hb d_M_seek_208 (by decide) (fun c208 => ?_) (fun c208 => ?_)
                                        · have c208 := c208
                                          have nc208 : 0 = 0 := (nI_eq (a := 0) (b := 0) (by omega) (by omega)).mp c208
                                          refine lv_iinc (v := (nI (i + 1))) (lv' := [(4, .int (nI (i + 1))), (7, .int 0), (6, .int (gm_cc nt cz (gm_G1 np nt i G))), (5, .int (nI L)), (3, .int (nI al)), (2, .int (nI (np + 1))), (0, .ref (E.2.2.2 0)), (1, .int cz)]) hx hb d_M_seek_217 hl (k := 3) rfl (nI_1 _) (by decide) rfl (fun ls hl => ?_)
                                          refine lv_goto (tgt := 44) hx hb d_M_seek_220 (by decide) ?_
                                          have hX2 : gm_sk np nt ns cz (upd (upd I 10 0) 13 (-1), F) (i + 1) = ((upd J 13 (if J 13 < nI (gm_fu (gm_G1 np nt i G) nt 0) then nI (gm_fu (gm_G1 np nt i G) nt 0) else J 13)), (gm_G1 np nt i G)) := by rw [gm_sk, hX]; first | exact if_neg hs106 | exact (if_pos hs106).trans (if_neg (by simp [gm_bt, c160, nc160, c167, c176, mc176, c185, c196, mc196])) | exact (if_pos hs106).trans (if_pos (by simp [gm_bt, c160, nc160, c167, c176, mc176, c185, c196, mc196]))
                                          exact ih44 (i + 1) (upd J 13 (if J 13 < nI (gm_fu (gm_G1 np nt i G) nt 0) then nI (gm_fu (gm_G1 np nt i G) nt 0) else J 13)) (gm_G1 np nt i G) (by omega) hJ hX2 (by omega) ls _ _ (lv_sub hl [0, 4, 5, 6, 7] rfl) (hP) (hD) hS
                                        · exact absurd c208 (by decide)
                                      · have c196 := c196
                                        have mc196 : ((gm_c (gm_dg np nt i (G 9)) nt np) : Int32) < (J 12) := Int32.not_le.mp c196
                                        refine lv_iconst (v := 1) hx hb d_M_seek_199 (by decide) ?_
                                        refine lv_goto (tgt := 204) hx hb d_M_seek_200 (by decide) ?_
                                        refine lv_istore (lv' := [(7, .int 1), (6, .int (gm_cc nt cz (gm_G1 np nt i G))), (5, .int (nI L)), (4, .int (nI i)), (3, .int (nI al)), (2, .int (nI (np + 1))), (0, .ref (E.2.2.2 0)), (1, .int cz)]) hx hb d_M_seek_204 hl (by decide) rfl (fun ls hl => ?_)
                                        refine lv_iload hx hb d_M_seek_206 (lv_at hl 0 rfl) ?_
                                        refine lv_if_eq (tgt := 217) hx hb d_M_seek_208 (by decide) (fun c208 => ?_) (fun c208 => ?_)
                                        · exact absurd c208 (by decide)
                                        · have c208 := c208
                                          have nc208 : ¬ 1 = 0 := fun h => c208 ((nI_eq (a := 1) (b := 0) (by omega) (by omega)).mpr h)
                                          refine lv_aload_n hx hb d_M_seek_211 rfl (lv_at hl 6 rfl) ?_
                                          refine lv_iload hx hb d_M_seek_212 (lv_at hl 1 rfl) ?_
                                          refine gp_cW (q0 := 0) (ci := 3) (As := [.int (gm_cc nt cz (gm_G1 np nt i G))]) (rest := []) ⟨hx, hb, hml, hown, hts⟩ (c_M_keep l E (upd J 13 (if J 13 < nI (gm_fu (gm_G1 np nt i G) nt 0) then nI (gm_fu (gm_G1 np nt i G) nt 0) else J 13)) (gm_G1 np nt i G) np nt (gm_cc nt cz (gm_G1 np nt i G)) hJ.1 hnp hJ.2.1 hnt) (k_M_135 hts ⟨by decide, by decide⟩ rfl rfl) hK hP hD hS hA rfl rfl rfl rfl hl.1 rfl (Nat.le_of_ble_eq_true rfl) d_M_seek_214 ⟨Nat.le_of_ble_eq_true rfl, Nat.le_of_ble_eq_true rfl⟩ (fun H locs hP hD hS => ?_)
                                          have hP : va_P E.1 gp_cl (gp_wM E (gm_kn np nt (gm_cc nt cz (gm_G1 np nt i G)) (gm_J2 nt (gm_G1 np nt i G) J, (gm_G1 np nt i G))).1 (gm_kn np nt (gm_cc nt cz (gm_G1 np nt i G)) (gm_J2 nt (gm_G1 np nt i G) J, (gm_G1 np nt i G))).2) H := hP
                                          have hD : va_D A (gp_wM E (gm_kn np nt (gm_cc nt cz (gm_G1 np nt i G)) (gm_J2 nt (gm_G1 np nt i G) J, (gm_G1 np nt i G))).1 (gm_kn np nt (gm_cc nt cz (gm_G1 np nt i G)) (gm_J2 nt (gm_G1 np nt i G) J, (gm_G1 np nt i G))).2) := hD
                                          refine lv_iinc (v := (nI (i + 1))) (lv' := [(4, .int (nI (i + 1))), (7, .int 1), (6, .int (gm_cc nt cz (gm_G1 np nt i G))), (5, .int (nI L)), (3, .int (nI al)), (2, .int (nI (np + 1))), (0, .ref (E.2.2.2 0)), (1, .int cz)]) hx hb d_M_seek_217 hl (k := 3) rfl (nI_1 _) (by decide) rfl (fun ls hl => ?_)
                                          refine lv_goto (tgt := 44) hx hb d_M_seek_220 (by decide) ?_
                                          have hX2 : gm_sk np nt ns cz (upd (upd I 10 0) 13 (-1), F) (i + 1) = ((gm_kn np nt (gm_cc nt cz (gm_G1 np nt i G)) (gm_J2 nt (gm_G1 np nt i G) J, (gm_G1 np nt i G))).1, (gm_kn np nt (gm_cc nt cz (gm_G1 np nt i G)) (gm_J2 nt (gm_G1 np nt i G) J, (gm_G1 np nt i G))).2) := by rw [gm_sk, hX]; first | exact if_neg hs106 | exact (if_pos hs106).trans (if_neg (by simp [gm_bt, c160, nc160, c167, c176, mc176, c185, c196, mc196])) | exact (if_pos hs106).trans (if_pos (by simp [gm_bt, c160, nc160, c167, c176, mc176, c185, c196, mc196]))
                                          exact ih44 (i + 1) (gm_kn np nt (gm_cc nt cz (gm_G1 np nt i G)) (gm_J2 nt (gm_G1 np nt i G) J, (gm_G1 np nt i G))).1 (gm_kn np nt (gm_cc nt cz (gm_G1 np nt i G)) (gm_J2 nt (gm_G1 np nt i G) J, (gm_G1 np nt i G))).2 (by omega) hJ hX2 (by omega) ls _ _ (lv_sub hl [0, 4, 5, 6, 7] rfl) (hP) (hD) hS
                          · have c121 := c121
                            have mc121 : ((J 13) : Int32) < (nI (gm_fu (gm_G1 np nt i G) nt 0)) := Int32.not_le.mp c121
                            refine lv_aload_n hx hb d_M_seek_124 rfl (lv_at hl 5 rfl) ?_
                            refine gp_cR (q0 := 0) (ci := 3) (As := []) (rest := [.ref (E.2.2.2 0)]) ⟨hx, hb, hml, hown, hts⟩ (c_M_full l E J (gm_G1 np nt i G) nt hJ.2.1 hnt) (k_M_119 hts ⟨by decide, by decide⟩ rfl rfl) hK hP rfl rfl rfl hl.1 rfl (Nat.le_of_ble_eq_true rfl) d_M_seek_125 ⟨Nat.le_of_ble_eq_true rfl, Nat.le_of_ble_eq_true rfl⟩ ?_
                            refine lv_goto (tgt := 135) hx hb d_M_seek_128 (by decide) ?_
                            rw [show ((nI (gm_fu (gm_G1 np nt i G) nt 0)) : Int32) = (if J 13 < nI (gm_fu (gm_G1 np nt i G) nt 0) then nI (gm_fu (gm_G1 np nt i G) nt 0) else J 13) from by simp [h1, c18, nc18, hJ, hX, c47, nc47, k1, k2, c64, mc64, hs106, c109, nc109, c121, mc121]]
                            refine va_put (D := E.1) (cl := gp_cl) (ci := 3) (v := .int (if J 13 < nI (gm_fu (gm_G1 np nt i G) nt 0) then nI (gm_fu (gm_G1 np nt i G) nt 0) else J 13)) (ty := .int) (C := R_M) (T := T_M) (N := 27) hx hb hts i_M t_M t_M_ok n_M hown hK hP hD hS 0 rfl rfl 26 (by decide) (hts _ w3_78) (fun _ h9 => h9) rfl (by decide +kernel) rfl rfl (Nat.le_of_ble_eq_true rfl) d_M_seek_135 (fun H locs hP hD hS => ?_)
                            have hP : va_P E.1 gp_cl (gp_wM E (upd J 13 (if J 13 < nI (gm_fu (gm_G1 np nt i G) nt 0) then nI (gm_fu (gm_G1 np nt i G) nt 0) else J 13)) (gm_G1 np nt i G)) H := hP
                            have hD : va_D A (gp_wM E (upd J 13 (if J 13 < nI (gm_fu (gm_G1 np nt i G) nt 0) then nI (gm_fu (gm_G1 np nt i G) nt 0) else J 13)) (gm_G1 np nt i G)) := hD
                            refine lv_iload_n hx hb d_M_seek_138 rfl (lv_at hl 6 rfl) ?_
                            refine lv_if_eq (tgt := 149) hx hb d_M_seek_139 (by decide) (fun c139 => ?_) (fun c139 => ?_)
                            · have c139 := c139
                              refine lv_iconst (v := 0) hx hb d_M_seek_149 (by decide) ?_
                              rw [show (0 : Int32) = (gm_cc nt cz (gm_G1 np nt i G)) from by simp [gm_cc, h1, c18, nc18, hJ, hX, c47, nc47, k1, k2, c64, mc64, hs106, c109, nc109, c121, mc121, c139]]
                              refine lv_istore (lv' := [(6, .int (gm_cc nt cz (gm_G1 np nt i G))), (5, .int (nI L)), (4, .int (nI i)), (3, .int (nI al)), (2, .int (nI (np + 1))), (0, .ref (E.2.2.2 0)), (1, .int cz)]) hx hb d_M_seek_150 hl (by decide) rfl (fun ls hl => ?_)
                              refine lv_aload_n hx hb d_M_seek_152 rfl (lv_at hl 5 rfl) ?_
                              refine gp_cR (q0 := 0) (ci := 3) (As := []) (rest := []) ⟨hx, hb, hml, hown, hts⟩ (c_M_full l E (upd J 13 (if J 13 < nI (gm_fu (gm_G1 np nt i G) nt 0) then nI (gm_fu (gm_G1 np nt i G) nt 0) else J 13)) (gm_G1 np nt i G) nt hJ.2.1 hnt) (k_M_119 hts ⟨by decide, by decide⟩ rfl rfl) hK hP rfl rfl rfl hl.1 rfl (Nat.le_of_ble_eq_true rfl) d_M_seek_153 ⟨Nat.le_of_ble_eq_true rfl, Nat.le_of_ble_eq_true rfl⟩ ?_
                              refine lv_aload_n hx hb d_M_seek_156 rfl (lv_at hl 5 rfl) ?_
                              refine va_get (D := E.1) (cl := gp_cl) (ci := 3) (v := .int (nI nt)) (C := R_M) (T := T_M) (N := 27) hx hb hts i_M hown hK hP 0 rfl rfl 7 (by decide) (hts _ w3_59) (fun _ h9 => h9) (congrArg (fun z => some (Value.int z)) hJ.2.1) d_M_seek_157 ?_
                              refine lv_icmp_ne (tgt := 203) hx hb d_M_seek_160 (by decide) (fun c160 => ?_) (fun c160 => ?_)
                              · have c160 := c160
                                have nc160 : ¬ (gm_fu (gm_G1 np nt i G) nt 0) = nt := fun h => c160 ((nI_eq (a := (gm_fu (gm_G1 np nt i G) nt 0)) (b := nt) (by omega) (by omega)).mpr h)
                                refine lv_iconst (v := 0) hx hb d_M_seek_203 (by decide) ?_
                                refine lv_istore (lv' := [(7, .int 0), (6, .int (gm_cc nt cz (gm_G1 np nt i G))), (5, .int (nI L)), (4, .int (nI i)), (3, .int (nI al)), (2, .int (nI (np + 1))), (0, .ref (E.2.2.2 0)), (1, .int cz)]) hx hb d_M_seek_204 hl (by decide) rfl (fun ls hl => ?_)
                                refine lv_iload hx hb d_M_seek_206 (lv_at hl 0 rfl) ?_
                                refine lv_if_eq (tgt := 217) hx hb d_M_seek_208 (by decide) (fun c208 => ?_) (fun c208 => ?_)
                                · have c208 := c208
                                  have nc208 : 0 = 0 := (nI_eq (a := 0) (b := 0) (by omega) (by omega)).mp c208
                                  refine lv_iinc (v := (nI (i + 1))) (lv' := [(4, .int (nI (i + 1))), (7, .int 0), (6, .int (gm_cc nt cz (gm_G1 np nt i G))), (5, .int (nI L)), (3, .int (nI al)), (2, .int (nI (np + 1))), (0, .ref (E.2.2.2 0)), (1, .int cz)]) hx hb d_M_seek_217 hl (k := 3) rfl (nI_1 _) (by decide) rfl (fun ls hl => ?_)
                                  refine lv_goto (tgt := 44) hx hb d_M_seek_220 (by decide) ?_
                                  have hX2 : gm_sk np nt ns cz (upd (upd I 10 0) 13 (-1), F) (i + 1) = ((upd J 13 (if J 13 < nI (gm_fu (gm_G1 np nt i G) nt 0) then nI (gm_fu (gm_G1 np nt i G) nt 0) else J 13)), (gm_G1 np nt i G)) := by rw [gm_sk, hX]; first | exact if_neg hs106 | exact (if_pos hs106).trans (if_neg (by simp [gm_bt, c160, nc160])) | exact (if_pos hs106).trans (if_pos (by simp [gm_bt, c160, nc160]))
                                  exact ih44 (i + 1) (upd J 13 (if J 13 < nI (gm_fu (gm_G1 np nt i G) nt 0) then nI (gm_fu (gm_G1 np nt i G) nt 0) else J 13)) (gm_G1 np nt i G) (by omega) hJ hX2 (by omega) ls _ _ (lv_sub hl [0, 4, 5, 6, 7] rfl) (hP) (hD) hS
                                · exact absurd c208 (by decide)
                              · have c160 := c160
                                have nc160 : (gm_fu (gm_G1 np nt i G) nt 0) = nt := (nI_eq (a := (gm_fu (gm_G1 np nt i G) nt 0)) (b := nt) (by omega) (by omega)).mp c160
                                refine lv_aload_n hx hb d_M_seek_163 rfl (lv_at hl 5 rfl) ?_
                                refine va_get (D := E.1) (cl := gp_cl) (ci := 3) (v := .int (J 10)) (C := R_M) (T := T_M) (N := 27) hx hb hts i_M hown hK hP 0 rfl rfl 23 (by decide) (hts _ w3_75) (fun _ h9 => h9) rfl d_M_seek_164 ?_
                                refine lv_if_eq (tgt := 199) hx hb d_M_seek_167 (by decide) (fun c167 => ?_) (fun c167 => ?_)
                                · have c167 := c167
                                  refine lv_iconst (v := 1) hx hb d_M_seek_199 (by decide) ?_
                                  refine lv_goto (tgt := 204) hx hb d_M_seek_200 (by decide) ?_
                                  refine lv_istore (lv' := [(7, .int 1), (6, .int (gm_cc nt cz (gm_G1 np nt i G))), (5, .int (nI L)), (4, .int (nI i)), (3, .int (nI al)), (2, .int (nI (np + 1))), (0, .ref (E.2.2.2 0)), (1, .int cz)]) hx hb d_M_seek_204 hl (by decide) rfl (fun ls hl => ?_)
                                  refine lv_iload hx hb d_M_seek_206 (lv_at hl 0 rfl) ?_
                                  refine lv_if_eq (tgt := 217) hx hb d_M_seek_208 (by decide) (fun c208 => ?_) (fun c208 => ?_)
                                  · exact absurd c208 (by decide)
                                  · have c208 := c208
                                    have nc208 : ¬ 1 = 0 := fun h => c208 ((nI_eq (a := 1) (b := 0) (by omega) (by omega)).mpr h)
                                    refine lv_aload_n hx hb d_M_seek_211 rfl (lv_at hl 6 rfl) ?_
                                    refine lv_iload hx hb d_M_seek_212 (lv_at hl 1 rfl) ?_
                                    refine gp_cW (q0 := 0) (ci := 3) (As := [.int (gm_cc nt cz (gm_G1 np nt i G))]) (rest := []) ⟨hx, hb, hml, hown, hts⟩ (c_M_keep l E (upd J 13 (if J 13 < nI (gm_fu (gm_G1 np nt i G) nt 0) then nI (gm_fu (gm_G1 np nt i G) nt 0) else J 13)) (gm_G1 np nt i G) np nt (gm_cc nt cz (gm_G1 np nt i G)) hJ.1 hnp hJ.2.1 hnt) (k_M_135 hts ⟨by decide, by decide⟩ rfl rfl) hK hP hD hS hA rfl rfl rfl rfl hl.1 rfl (Nat.le_of_ble_eq_true rfl) d_M_seek_214 ⟨Nat.le_of_ble_eq_true rfl, Nat.le_of_ble_eq_true rfl⟩ (fun H locs hP hD hS => ?_)
                                    have hP : va_P E.1 gp_cl (gp_wM E (gm_kn np nt (gm_cc nt cz (gm_G1 np nt i G)) (gm_J2 nt (gm_G1 np nt i G) J, (gm_G1 np nt i G))).1 (gm_kn np nt (gm_cc nt cz (gm_G1 np nt i G)) (gm_J2 nt (gm_G1 np nt i G) J, (gm_G1 np nt i G))).2) H := hP
                                    have hD : va_D A (gp_wM E (gm_kn np nt (gm_cc nt cz (gm_G1 np nt i G)) (gm_J2 nt (gm_G1 np nt i G) J, (gm_G1 np nt i G))).1 (gm_kn np nt (gm_cc nt cz (gm_G1 np nt i G)) (gm_J2 nt (gm_G1 np nt i G) J, (gm_G1 np nt i G))).2) := hD
                                    refine lv_iinc (v := (nI (i + 1))) (lv' := [(4, .int (nI (i + 1))), (7, .int 1), (6, .int (gm_cc nt cz (gm_G1 np nt i G))), (5, .int (nI L)), (3, .int (nI al)), (2, .int (nI (np + 1))), (0, .ref (E.2.2.2 0)), (1, .int cz)]) hx hb d_M_seek_217 hl (k := 3) rfl (nI_1 _) (by decide) rfl (fun ls hl => ?_)
                                    refine lv_goto (tgt := 44) hx hb d_M_seek_220 (by decide) ?_
                                    have hX2 : gm_sk np nt ns cz (upd (upd I 10 0) 13 (-1), F) (i + 1) = ((gm_kn np nt (gm_cc nt cz (gm_G1 np nt i G)) (gm_J2 nt (gm_G1 np nt i G) J, (gm_G1 np nt i G))).1, (gm_kn np nt (gm_cc nt cz (gm_G1 np nt i G)) (gm_J2 nt (gm_G1 np nt i G) J, (gm_G1 np nt i G))).2) := by rw [gm_sk, hX]; first | exact if_neg hs106 | exact (if_pos hs106).trans (if_neg (by simp [gm_bt, c160, nc160, c167])) | exact (if_pos hs106).trans (if_pos (by simp [gm_bt, c160, nc160, c167]))
                                    exact ih44 (i + 1) (gm_kn np nt (gm_cc nt cz (gm_G1 np nt i G)) (gm_J2 nt (gm_G1 np nt i G) J, (gm_G1 np nt i G))).1 (gm_kn np nt (gm_cc nt cz (gm_G1 np nt i G)) (gm_J2 nt (gm_G1 np nt i G) J, (gm_G1 np nt i G))).2 (by omega) hJ hX2 (by omega) ls _ _ (lv_sub hl [0, 4, 5, 6, 7] rfl) (hP) (hD) hS
                                · have c167 := c167
                                  refine lv_iload hx hb d_M_seek_170 (lv_at hl 0 rfl) ?_
                                  refine lv_aload_n hx hb d_M_seek_172 rfl (lv_at hl 5 rfl) ?_
                                  refine va_get (D := E.1) (cl := gp_cl) (ci := 3) (v := .int (J 11)) (C := R_M) (T := T_M) (N := 27) hx hb hts i_M hown hK hP 0 rfl rfl 24 (by decide) (hts _ w3_76) (fun _ h9 => h9) rfl d_M_seek_173 ?_
                                  refine lv_icmp_lt (tgt := 199) hx hb d_M_seek_176 (by decide) (fun c176 => ?_) (fun c176 => ?_)
                                  · have c176 := c176
                                    have mc176 : ¬ ((J 11) : Int32) ≤ (gm_cc nt cz (gm_G1 np nt i G)) := Int32.not_le.mpr c176
                                    refine lv_iconst (v := 1) hx hb d_M_seek_199 (by decide) ?_
                                    refine lv_goto (tgt := 204) hx hb d_M_seek_200 (by decide) ?_
                                    refine lv_istore (lv' := [(7, .int 1), (6, .int (gm_cc nt cz (gm_G1 np nt i G))), (5, .int (nI L)), (4, .int (nI i)), (3, .int (nI al)), (2, .int (nI (np + 1))), (0, .ref (E.2.2.2 0)), (1, .int cz)]) hx hb d_M_seek_204 hl (by decide) rfl (fun ls hl => ?_)
                                    refine lv_iload hx hb d_M_seek_206 (lv_at hl 0 rfl) ?_
                                    refine lv_if_eq (tgt := 217) hx hb d_M_seek_208 (by decide) (fun c208 => ?_) (fun c208 => ?_)
                                    · exact absurd c208 (by decide)
                                    · have c208 := c208
                                      have nc208 : ¬ 1 = 0 := fun h => c208 ((nI_eq (a := 1) (b := 0) (by omega) (by omega)).mpr h)
                                      refine lv_aload_n hx hb d_M_seek_211 rfl (lv_at hl 6 rfl) ?_
                                      refine lv_iload hx hb d_M_seek_212 (lv_at hl 1 rfl) ?_
                                      refine gp_cW (q0 := 0) (ci := 3) (As := [.int (gm_cc nt cz (gm_G1 np nt i G))]) (rest := []) ⟨hx, hb, hml, hown, hts⟩ (c_M_keep l E (upd J 13 (if J 13 < nI (gm_fu (gm_G1 np nt i G) nt 0) then nI (gm_fu (gm_G1 np nt i G) nt 0) else J 13)) (gm_G1 np nt i G) np nt (gm_cc nt cz (gm_G1 np nt i G)) hJ.1 hnp hJ.2.1 hnt) (k_M_135 hts ⟨by decide, by decide⟩ rfl rfl) hK hP hD hS hA rfl rfl rfl rfl hl.1 rfl (Nat.le_of_ble_eq_true rfl) d_M_seek_214 ⟨Nat.le_of_ble_eq_true rfl, Nat.le_of_ble_eq_true rfl⟩ (fun H locs hP hD hS => ?_)
                                      have hP : va_P E.1 gp_cl (gp_wM E (gm_kn np nt (gm_cc nt cz (gm_G1 np nt i G)) (gm_J2 nt (gm_G1 np nt i G) J, (gm_G1 np nt i G))).1 (gm_kn np nt (gm_cc nt cz (gm_G1 np nt i G)) (gm_J2 nt (gm_G1 np nt i G) J, (gm_G1 np nt i G))).2) H := hP
                                      have hD : va_D A (gp_wM E (gm_kn np nt (gm_cc nt cz (gm_G1 np nt i G)) (gm_J2 nt (gm_G1 np nt i G) J, (gm_G1 np nt i G))).1 (gm_kn np nt (gm_cc nt cz (gm_G1 np nt i G)) (gm_J2 nt (gm_G1 np nt i G) J, (gm_G1 np nt i G))).2) := hD
                                      refine lv_iinc (v := (nI (i + 1))) (lv' := [(4, .int (nI (i + 1))), (7, .int 1), (6, .int (gm_cc nt cz (gm_G1 np nt i G))), (5, .int (nI L)), (3, .int (nI al)), (2, .int (nI (np + 1))), (0, .ref (E.2.2.2 0)), (1, .int cz)]) hx hb d_M_seek_217 hl (k := 3) rfl (nI_1 _) (by decide) rfl (fun ls hl => ?_)
                                      refine lv_goto (tgt := 44) hx hb d_M_seek_220 (by decide) ?_
                                      have hX2 : gm_sk np nt ns cz (upd (upd I 10 0) 13 (-1), F) (i + 1) = ((gm_kn np nt (gm_cc nt cz (gm_G1 np nt i G)) (gm_J2 nt (gm_G1 np nt i G) J, (gm_G1 np nt i G))).1, (gm_kn np nt (gm_cc nt cz (gm_G1 np nt i G)) (gm_J2 nt (gm_G1 np nt i G) J, (gm_G1 np nt i G))).2) := by rw [gm_sk, hX]; first | exact if_neg hs106 | exact (if_pos hs106).trans (if_neg (by simp [gm_bt, c160, nc160, c167, c176, mc176])) | exact (if_pos hs106).trans (if_pos (by simp [gm_bt, c160, nc160, c167, c176, mc176]))
                                      exact ih44 (i + 1) (gm_kn np nt (gm_cc nt cz (gm_G1 np nt i G)) (gm_J2 nt (gm_G1 np nt i G) J, (gm_G1 np nt i G))).1 (gm_kn np nt (gm_cc nt cz (gm_G1 np nt i G)) (gm_J2 nt (gm_G1 np nt i G) J, (gm_G1 np nt i G))).2 (by omega) hJ hX2 (by omega) ls _ _ (lv_sub hl [0, 4, 5, 6, 7] rfl) (hP) (hD) hS
                                  · have c176 := c176
                                    have mc176 : ((J 11) : Int32) ≤ (gm_cc nt cz (gm_G1 np nt i G)) := Int32.not_lt.mp c176
                                    refine lv_iload hx hb d_M_seek_179 (lv_at hl 0 rfl) ?_
                                    refine lv_aload_n hx hb d_M_seek_181 rfl (lv_at hl 5 rfl) ?_
                                    refine va_get (D := E.1) (cl := gp_cl) (ci := 3) (v := .int (J 11)) (C := R_M) (T := T_M) (N := 27) hx hb hts i_M hown hK hP 0 rfl rfl 24 (by decide) (hts _ w3_76) (fun _ h9 => h9) rfl d_M_seek_182 ?_
                                    refine lv_icmp_ne (tgt := 203) hx hb d_M_seek_185 (by decide) (fun c185 => ?_) (fun c185 => ?_)
                                    · have c185 := c185
                                      refine lv_iconst (v := 0) hx hb d_M_seek_203 (by decide) ?_
                                      refine lv_istore (lv' := [(7, .int 0), (6, .int (gm_cc nt cz (gm_G1 np nt i G))), (5, .int (nI L)), (4, .int (nI i)), (3, .int (nI al)), (2, .int (nI (np + 1))), (0, .ref (E.2.2.2 0)), (1, .int cz)]) hx hb d_M_seek_204 hl (by decide) rfl (fun ls hl => ?_)
                                      refine lv_iload hx hb d_M_seek_206 (lv_at hl 0 rfl) ?_
                                      refine lv_if_eq (tgt := 217) hx hb d_M_seek_208 (by decide) (fun c208 => ?_) (fun c208 => ?_)
                                      · have c208 := c208
                                        have nc208 : 0 = 0 := (nI_eq (a := 0) (b := 0) (by omega) (by omega)).mp c208
                                        refine lv_iinc (v := (nI (i + 1))) (lv' := [(4, .int (nI (i + 1))), (7, .int 0), (6, .int (gm_cc nt cz (gm_G1 np nt i G))), (5, .int (nI L)), (3, .int (nI al)), (2, .int (nI (np + 1))), (0, .ref (E.2.2.2 0)), (1, .int cz)]) hx hb d_M_seek_217 hl (k := 3) rfl (nI_1 _) (by decide) rfl (fun ls hl => ?_)
                                        refine lv_goto (tgt := 44) hx hb d_M_seek_220 (by decide) ?_
                                        have hX2 : gm_sk np nt ns cz (upd (upd I 10 0) 13 (-1), F) (i + 1) = ((upd J 13 (if J 13 < nI (gm_fu (gm_G1 np nt i G) nt 0) then nI (gm_fu (gm_G1 np nt i G) nt 0) else J 13)), (gm_G1 np nt i G)) := by rw [gm_sk, hX]; first | exact if_neg hs106 | exact (if_pos hs106).trans (if_neg (by simp [gm_bt, c160, nc160, c167, c176, mc176, c185])) | exact (if_pos hs106).trans (if_pos (by simp [gm_bt, c160, nc160, c167, c176, mc176, c185]))
                                        exact ih44 (i + 1) (upd J 13 (if J 13 < nI (gm_fu (gm_G1 np nt i G) nt 0) then nI (gm_fu (gm_G1 np nt i G) nt 0) else J 13)) (gm_G1 np nt i G) (by omega) hJ hX2 (by omega) ls _ _ (lv_sub hl [0, 4, 5, 6, 7] rfl) (hP) (hD) hS
                                      · exact absurd c208 (by decide)
                                    · have c185 := c185
                                      refine lv_aload_n hx hb d_M_seek_188 rfl (lv_at hl 5 rfl) ?_
                                      refine gp_cR (q0 := 0) (ci := 3) (As := []) (rest := []) ⟨hx, hb, hml, hown, hts⟩ (show gp_CR _ _ _ _ _ _ _ _ _ (gm_c (gm_dg np nt i (G 9)) nt np) from c_M_costOf l E (upd J 13 (if J 13 < nI (gm_fu (gm_G1 np nt i G) nt 0) then nI (gm_fu (gm_G1 np nt i G) nt 0) else J 13)) (gm_G1 np nt i G) np nt hJ.1 hnp hJ.2.1 hnt) (k_M_129 hts ⟨by decide, by decide⟩ rfl rfl) hK hP rfl rfl rfl hl.1 rfl (Nat.le_of_ble_eq_true rfl) d_M_seek_189 ⟨Nat.le_of_ble_eq_true rfl, Nat.le_of_ble_eq_true rfl⟩ ?_
                                      refine lv_aload_n hx hb d_M_seek_192 rfl (lv_at hl 5 rfl) ?_
                                      refine va_get (D := E.1) (cl := gp_cl) (ci := 3) (v := .int (J 12)) (C := R_M) (T := T_M) (N := 27) hx hb hts i_M hown hK hP 0 rfl rfl 25 (by decide) (hts _ w3_77) (fun _ h9 => h9) rfl d_M_seek_193 ?_
                                      refine lv_icmp_ge (tgt := 203) hx hb d_M_seek_196 (by decide) (fun c196 => ?_) (fun c196 => ?_)
                                      · have c196 := c196
                                        have mc196 : ¬ ((gm_c (gm_dg np nt i (G 9)) nt np) : Int32) < (J 12) := Int32.not_lt.mpr c196
                                        refine lv_iconst (v := 0) hx hb d_M_seek_203 (by decide) ?_
                                        refine lv_istore (lv' := [(7, .int 0), (6, .int (gm_cc nt cz (gm_G1 np nt i G))), (5, .int (nI L)), (4, .int (nI i)), (3, .int (nI al)), (2, .int (nI (np + 1))), (0, .ref (E.2.2.2 0)), (1, .int cz)]) hx hb d_M_seek_204 hl (by decide) rfl (fun ls hl => ?_)
                                        refine lv_iload hx hb d_M_seek_206 (lv_at hl 0 rfl) ?_
                                        refine lv_if_eq (tgt := 217) hx hb d_M_seek_208 (by decide) (fun c208 => ?_) (fun c208 => ?_)
                                        · have c208 := c208
                                          have nc208 : 0 = 0 := (nI_eq (a := 0) (b := 0) (by omega) (by omega)).mp c208
                                          refine lv_iinc (v := (nI (i + 1))) (lv' := [(4, .int (nI (i + 1))), (7, .int 0), (6, .int (gm_cc nt cz (gm_G1 np nt i G))), (5, .int (nI L)), (3, .int (nI al)), (2, .int (nI (np + 1))), (0, .ref (E.2.2.2 0)), (1, .int cz)]) hx hb d_M_seek_217 hl (k := 3) rfl (nI_1 _) (by decide) rfl (fun ls hl => ?_)
                                          refine lv_goto (tgt := 44) hx hb d_M_seek_220 (by decide) ?_
                                          have hX2 : gm_sk np nt ns cz (upd (upd I 10 0) 13 (-1), F) (i + 1) = ((upd J 13 (if J 13 < nI (gm_fu (gm_G1 np nt i G) nt 0) then nI (gm_fu (gm_G1 np nt i G) nt 0) else J 13)), (gm_G1 np nt i G)) := by rw [gm_sk, hX]; first | exact if_neg hs106 | exact (if_pos hs106).trans (if_neg (by simp [gm_bt, c160, nc160, c167, c176, mc176, c185, c196, mc196])) | exact (if_pos hs106).trans (if_pos (by simp [gm_bt, c160, nc160, c167, c176, mc176, c185, c196, mc196]))
                                          exact ih44 (i + 1) (upd J 13 (if J 13 < nI (gm_fu (gm_G1 np nt i G) nt 0) then nI (gm_fu (gm_G1 np nt i G) nt 0) else J 13)) (gm_G1 np nt i G) (by omega) hJ hX2 (by omega) ls _ _ (lv_sub hl [0, 4, 5, 6, 7] rfl) (hP) (hD) hS
                                        · exact absurd c208 (by decide)
                                      · have c196 := c196
                                        have mc196 : ((gm_c (gm_dg np nt i (G 9)) nt np) : Int32) < (J 12) := Int32.not_le.mp c196
                                        refine lv_iconst (v := 1) hx hb d_M_seek_199 (by decide) ?_
                                        refine lv_goto (tgt := 204) hx hb d_M_seek_200 (by decide) ?_
                                        refine lv_istore (lv' := [(7, .int 1), (6, .int (gm_cc nt cz (gm_G1 np nt i G))), (5, .int (nI L)), (4, .int (nI i)), (3, .int (nI al)), (2, .int (nI (np + 1))), (0, .ref (E.2.2.2 0)), (1, .int cz)]) hx hb d_M_seek_204 hl (by decide) rfl (fun ls hl => ?_)
                                        refine lv_iload hx hb d_M_seek_206 (lv_at hl 0 rfl) ?_
                                        refine lv_if_eq (tgt := 217) hx hb d_M_seek_208 (by decide) (fun c208 => ?_) (fun c208 => ?_)
                                        · exact absurd c208 (by decide)
                                        · have c208 := c208
                                          have nc208 : ¬ 1 = 0 := fun h => c208 ((nI_eq (a := 1) (b := 0) (by omega) (by omega)).mpr h)
                                          refine lv_aload_n hx hb d_M_seek_211 rfl (lv_at hl 6 rfl) ?_
                                          refine lv_iload hx hb d_M_seek_212 (lv_at hl 1 rfl) ?_
                                          refine gp_cW (q0 := 0) (ci := 3) (As := [.int (gm_cc nt cz (gm_G1 np nt i G))]) (rest := []) ⟨hx, hb, hml, hown, hts⟩ (c_M_keep l E (upd J 13 (if J 13 < nI (gm_fu (gm_G1 np nt i G) nt 0) then nI (gm_fu (gm_G1 np nt i G) nt 0) else J 13)) (gm_G1 np nt i G) np nt (gm_cc nt cz (gm_G1 np nt i G)) hJ.1 hnp hJ.2.1 hnt) (k_M_135 hts ⟨by decide, by decide⟩ rfl rfl) hK hP hD hS hA rfl rfl rfl rfl hl.1 rfl (Nat.le_of_ble_eq_true rfl) d_M_seek_214 ⟨Nat.le_of_ble_eq_true rfl, Nat.le_of_ble_eq_true rfl⟩ (fun H locs hP hD hS => ?_)
                                          have hP : va_P E.1 gp_cl (gp_wM E (gm_kn np nt (gm_cc nt cz (gm_G1 np nt i G)) (gm_J2 nt (gm_G1 np nt i G) J, (gm_G1 np nt i G))).1 (gm_kn np nt (gm_cc nt cz (gm_G1 np nt i G)) (gm_J2 nt (gm_G1 np nt i G) J, (gm_G1 np nt i G))).2) H := hP
                                          have hD : va_D A (gp_wM E (gm_kn np nt (gm_cc nt cz (gm_G1 np nt i G)) (gm_J2 nt (gm_G1 np nt i G) J, (gm_G1 np nt i G))).1 (gm_kn np nt (gm_cc nt cz (gm_G1 np nt i G)) (gm_J2 nt (gm_G1 np nt i G) J, (gm_G1 np nt i G))).2) := hD
                                          refine lv_iinc (v := (nI (i + 1))) (lv' := [(4, .int (nI (i + 1))), (7, .int 1), (6, .int (gm_cc nt cz (gm_G1 np nt i G))), (5, .int (nI L)), (3, .int (nI al)), (2, .int (nI (np + 1))), (0, .ref (E.2.2.2 0)), (1, .int cz)]) hx hb d_M_seek_217 hl (k := 3) rfl (nI_1 _) (by decide) rfl (fun ls hl => ?_)
                                          refine lv_goto (tgt := 44) hx hb d_M_seek_220 (by decide) ?_
                                          have hX2 : gm_sk np nt ns cz (upd (upd I 10 0) 13 (-1), F) (i + 1) = ((gm_kn np nt (gm_cc nt cz (gm_G1 np nt i G)) (gm_J2 nt (gm_G1 np nt i G) J, (gm_G1 np nt i G))).1, (gm_kn np nt (gm_cc nt cz (gm_G1 np nt i G)) (gm_J2 nt (gm_G1 np nt i G) J, (gm_G1 np nt i G))).2) := by rw [gm_sk, hX]; first | exact if_neg hs106 | exact (if_pos hs106).trans (if_neg (by simp [gm_bt, c160, nc160, c167, c176, mc176, c185, c196, mc196])) | exact (if_pos hs106).trans (if_pos (by simp [gm_bt, c160, nc160, c167, c176, mc176, c185, c196, mc196]))
                                          exact ih44 (i + 1) (gm_kn np nt (gm_cc nt cz (gm_G1 np nt i G)) (gm_J2 nt (gm_G1 np nt i G) J, (gm_G1 np nt i G))).1 (gm_kn np nt (gm_cc nt cz (gm_G1 np nt i G)) (gm_J2 nt (gm_G1 np nt i G) J, (gm_G1 np nt i G))).2 (by omega) hJ hX2 (by omega) ls _ _ (lv_sub hl [0, 4, 5, 6, 7] rfl) (hP) (hD) hS
                            · have c139 := c139
                              refine lv_aload_n hx hb d_M_seek_142 rfl (lv_at hl 5 rfl) ?_
                              refine gp_cR (q0 := 0) (ci := 3) (As := []) (rest := []) ⟨hx, hb, hml, hown, hts⟩ (c_M_differences l E (upd J 13 (if J 13 < nI (gm_fu (gm_G1 np nt i G) nt 0) then nI (gm_fu (gm_G1 np nt i G) nt 0) else J 13)) (gm_G1 np nt i G) nt hJ.2.1 hnt) (k_M_123 hts ⟨by decide, by decide⟩ rfl rfl) hK hP rfl rfl rfl hl.1 rfl (Nat.le_of_ble_eq_true rfl) d_M_seek_143 ⟨Nat.le_of_ble_eq_true rfl, Nat.le_of_ble_eq_true rfl⟩ ?_
                              refine lv_goto (tgt := 150) hx hb d_M_seek_146 (by decide) ?_
                              rw [show ((nI (gm_df (gm_G1 np nt i G) nt)) : Int32) = (gm_cc nt cz (gm_G1 np nt i G)) from by simp [gm_cc, h1, c18, nc18, hJ, hX, c47, nc47, k1, k2, c64, mc64, hs106, c109, nc109, c121, mc121, c139]]
                              refine lv_istore (lv' := [(6, .int (gm_cc nt cz (gm_G1 np nt i G))), (5, .int (nI L)), (4, .int (nI i)), (3, .int (nI al)), (2, .int (nI (np + 1))), (0, .ref (E.2.2.2 0)), (1, .int cz)]) hx hb d_M_seek_150 hl (by decide) rfl (fun ls hl => ?_)
                              refine lv_aload_n hx hb d_M_seek_152 rfl (lv_at hl 5 rfl) ?_
                              refine gp_cR (q0 := 0) (ci := 3) (As := []) (rest := []) ⟨hx, hb, hml, hown, hts⟩ (c_M_full l E (upd J 13 (if J 13 < nI (gm_fu (gm_G1 np nt i G) nt 0) then nI (gm_fu (gm_G1 np nt i G) nt 0) else J 13)) (gm_G1 np nt i G) nt hJ.2.1 hnt) (k_M_119 hts ⟨by decide, by decide⟩ rfl rfl) hK hP rfl rfl rfl hl.1 rfl (Nat.le_of_ble_eq_true rfl) d_M_seek_153 ⟨Nat.le_of_ble_eq_true rfl, Nat.le_of_ble_eq_true rfl⟩ ?_
                              refine lv_aload_n hx hb d_M_seek_156 rfl (lv_at hl 5 rfl) ?_
                              refine va_get (D := E.1) (cl := gp_cl) (ci := 3) (v := .int (nI nt)) (C := R_M) (T := T_M) (N := 27) hx hb hts i_M hown hK hP 0 rfl rfl 7 (by decide) (hts _ w3_59) (fun _ h9 => h9) (congrArg (fun z => some (Value.int z)) hJ.2.1) d_M_seek_157 ?_
                              refine lv_icmp_ne (tgt := 203) hx hb d_M_seek_160 (by decide) (fun c160 => ?_) (fun c160 => ?_)
                              · have c160 := c160
                                have nc160 : ¬ (gm_fu (gm_G1 np nt i G) nt 0) = nt := fun h => c160 ((nI_eq (a := (gm_fu (gm_G1 np nt i G) nt 0)) (b := nt) (by omega) (by omega)).mpr h)
                                refine lv_iconst (v := 0) hx hb d_M_seek_203 (by decide) ?_
                                refine lv_istore (lv' := [(7, .int 0), (6, .int (gm_cc nt cz (gm_G1 np nt i G))), (5, .int (nI L)), (4, .int (nI i)), (3, .int (nI al)), (2, .int (nI (np + 1))), (0, .ref (E.2.2.2 0)), (1, .int cz)]) hx hb d_M_seek_204 hl (by decide) rfl (fun ls hl => ?_)
                                refine lv_iload hx hb d_M_seek_206 (lv_at hl 0 rfl) ?_
                                refine lv_if_eq (tgt := 217) hx hb d_M_seek_208 (by decide) (fun c208 => ?_) (fun c208 => ?_)
                                · have c208 := c208
                                  have nc208 : 0 = 0 := (nI_eq (a := 0) (b := 0) (by omega) (by omega)).mp c208
                                  refine lv_iinc (v := (nI (i + 1))) (lv' := [(4, .int (nI (i + 1))), (7, .int 0), (6, .int (gm_cc nt cz (gm_G1 np nt i G))), (5, .int (nI L)), (3, .int (nI al)), (2, .int (nI (np + 1))), (0, .ref (E.2.2.2 0)), (1, .int cz)]) hx hb d_M_seek_217 hl (k := 3) rfl (nI_1 _) (by decide) rfl (fun ls hl => ?_)
                                  refine lv_goto (tgt := 44) hx hb d_M_seek_220 (by decide) ?_
                                  have hX2 : gm_sk np nt ns cz (upd (upd I 10 0) 13 (-1), F) (i + 1) = ((upd J 13 (if J 13 < nI (gm_fu (gm_G1 np nt i G) nt 0) then nI (gm_fu (gm_G1 np nt i G) nt 0) else J 13)), (gm_G1 np nt i G)) := by rw [gm_sk, hX]; first | exact if_neg hs106 | exact (if_pos hs106).trans (if_neg (by simp [gm_bt, c160, nc160])) | exact (if_pos hs106).trans (if_pos (by simp [gm_bt, c160, nc160]))
                                  exact ih44 (i + 1) (upd J 13 (if J 13 < nI (gm_fu (gm_G1 np nt i G) nt 0) then nI (gm_fu (gm_G1 np nt i G) nt 0) else J 13)) (gm_G1 np nt i G) (by omega) hJ hX2 (by omega) ls _ _ (lv_sub hl [0, 4, 5, 6, 7] rfl) (hP) (hD) hS
                                · exact absurd c208 (by decide)
                              · have c160 := c160
                                have nc160 : (gm_fu (gm_G1 np nt i G) nt 0) = nt := (nI_eq (a := (gm_fu (gm_G1 np nt i G) nt 0)) (b := nt) (by omega) (by omega)).mp c160
                                refine lv_aload_n hx hb d_M_seek_163 rfl (lv_at hl 5 rfl) ?_
                                refine va_get (D := E.1) (cl := gp_cl) (ci := 3) (v := .int (J 10)) (C := R_M) (T := T_M) (N := 27) hx hb hts i_M hown hK hP 0 rfl rfl 23 (by decide) (hts _ w3_75) (fun _ h9 => h9) rfl d_M_seek_164 ?_
                                refine lv_if_eq (tgt := 199) hx hb d_M_seek_167 (by decide) (fun c167 => ?_) (fun c167 => ?_)
                                · have c167 := c167
                                  refine lv_iconst (v := 1) hx hb d_M_seek_199 (by decide) ?_
                                  refine lv_goto (tgt := 204) hx hb d_M_seek_200 (by decide) ?_
                                  refine lv_istore (lv' := [(7, .int 1), (6, .int (gm_cc nt cz (gm_G1 np nt i G))), (5, .int (nI L)), (4, .int (nI i)), (3, .int (nI al)), (2, .int (nI (np + 1))), (0, .ref (E.2.2.2 0)), (1, .int cz)]) hx hb d_M_seek_204 hl (by decide) rfl (fun ls hl => ?_)
                                  refine lv_iload hx hb d_M_seek_206 (lv_at hl 0 rfl) ?_
                                  refine lv_if_eq (tgt := 217) hx hb d_M_seek_208 (by decide) (fun c208 => ?_) (fun c208 => ?_)
                                  · exact absurd c208 (by decide)
                                  · have c208 := c208
                                    have nc208 : ¬ 1 = 0 := fun h => c208 ((nI_eq (a := 1) (b := 0) (by omega) (by omega)).mpr h)
                                    refine lv_aload_n hx hb d_M_seek_211 rfl (lv_at hl 6 rfl) ?_
                                    refine lv_iload hx hb d_M_seek_212 (lv_at hl 1 rfl) ?_
                                    refine gp_cW (q0 := 0) (ci := 3) (As := [.int (gm_cc nt cz (gm_G1 np nt i G))]) (rest := []) ⟨hx, hb, hml, hown, hts⟩ (c_M_keep l E (upd J 13 (if J 13 < nI (gm_fu (gm_G1 np nt i G) nt 0) then nI (gm_fu (gm_G1 np nt i G) nt 0) else J 13)) (gm_G1 np nt i G) np nt (gm_cc nt cz (gm_G1 np nt i G)) hJ.1 hnp hJ.2.1 hnt) (k_M_135 hts ⟨by decide, by decide⟩ rfl rfl) hK hP hD hS hA rfl rfl rfl rfl hl.1 rfl (Nat.le_of_ble_eq_true rfl) d_M_seek_214 ⟨Nat.le_of_ble_eq_true rfl, Nat.le_of_ble_eq_true rfl⟩ (fun H locs hP hD hS => ?_)
                                    have hP : va_P E.1 gp_cl (gp_wM E (gm_kn np nt (gm_cc nt cz (gm_G1 np nt i G)) (gm_J2 nt (gm_G1 np nt i G) J, (gm_G1 np nt i G))).1 (gm_kn np nt (gm_cc nt cz (gm_G1 np nt i G)) (gm_J2 nt (gm_G1 np nt i G) J, (gm_G1 np nt i G))).2) H := hP
                                    have hD : va_D A (gp_wM E (gm_kn np nt (gm_cc nt cz (gm_G1 np nt i G)) (gm_J2 nt (gm_G1 np nt i G) J, (gm_G1 np nt i G))).1 (gm_kn np nt (gm_cc nt cz (gm_G1 np nt i G)) (gm_J2 nt (gm_G1 np nt i G) J, (gm_G1 np nt i G))).2) := hD
                                    refine lv_iinc (v := (nI (i + 1))) (lv' := [(4, .int (nI (i + 1))), (7, .int 1), (6, .int (gm_cc nt cz (gm_G1 np nt i G))), (5, .int (nI L)), (3, .int (nI al)), (2, .int (nI (np + 1))), (0, .ref (E.2.2.2 0)), (1, .int cz)]) hx hb d_M_seek_217 hl (k := 3) rfl (nI_1 _) (by decide) rfl (fun ls hl => ?_)
                                    refine lv_goto (tgt := 44) hx hb d_M_seek_220 (by decide) ?_
                                    have hX2 : gm_sk np nt ns cz (upd (upd I 10 0) 13 (-1), F) (i + 1) = ((gm_kn np nt (gm_cc nt cz (gm_G1 np nt i G)) (gm_J2 nt (gm_G1 np nt i G) J, (gm_G1 np nt i G))).1, (gm_kn np nt (gm_cc nt cz (gm_G1 np nt i G)) (gm_J2 nt (gm_G1 np nt i G) J, (gm_G1 np nt i G))).2) := by rw [gm_sk, hX]; first | exact if_neg hs106 | exact (if_pos hs106).trans (if_neg (by simp [gm_bt, c160, nc160, c167])) | exact (if_pos hs106).trans (if_pos (by simp [gm_bt, c160, nc160, c167]))
                                    exact ih44 (i + 1) (gm_kn np nt (gm_cc nt cz (gm_G1 np nt i G)) (gm_J2 nt (gm_G1 np nt i G) J, (gm_G1 np nt i G))).1 (gm_kn np nt (gm_cc nt cz (gm_G1 np nt i G)) (gm_J2 nt (gm_G1 np nt i G) J, (gm_G1 np nt i G))).2 (by omega) hJ hX2 (by omega) ls _ _ (lv_sub hl [0, 4, 5, 6, 7] rfl) (hP) (hD) hS
                                · have c167 := c167
                                  refine lv_iload hx hb d_M_seek_170 (lv_at hl 0 rfl) ?_
                                  refine lv_aload_n hx hb d_M_seek_172 rfl (lv_at hl 5 rfl) ?_
                                  refine va_get (D := E.1) (cl := gp_cl) (ci := 3) (v := .int (J 11)) (C := R_M) (T := T_M) (N := 27) hx hb hts i_M hown hK hP 0 rfl rfl 24 (by decide) (hts _ w3_76) (fun _ h9 => h9) rfl d_M_seek_173 ?_
                                  refine lv_icmp_lt (tgt := 199) hx hb d_M_seek_176 (by decide) (fun c176 => ?_) (fun c176 => ?_)
                                  · have c176 := c176
                                    have mc176 : ¬ ((J 11) : Int32) ≤ (gm_cc nt cz (gm_G1 np nt i G)) := Int32.not_le.mpr c176
                                    refine lv_iconst (v := 1) hx hb d_M_seek_199 (by decide) ?_
                                    refine lv_goto (tgt := 204) hx hb d_M_seek_200 (by decide) ?_
                                    refine lv_istore (lv' := [(7, .int 1), (6, .int (gm_cc nt cz (gm_G1 np nt i G))), (5, .int (nI L)), (4, .int (nI i)), (3, .int (nI al)), (2, .int (nI (np + 1))), (0, .ref (E.2.2.2 0)), (1, .int cz)]) hx hb d_M_seek_204 hl (by decide) rfl (fun ls hl => ?_)
                                    refine lv_iload hx hb d_M_seek_206 (lv_at hl 0 rfl) ?_
                                    refine lv_if_eq (tgt := 217) hx hb d_M_seek_208 (by decide) (fun c208 => ?_) (fun c208 => ?_)
                                    · exact absurd c208 (by decide)
                                    · have c208 := c208
                                      have nc208 : ¬ 1 = 0 := fun h => c208 ((nI_eq (a := 1) (b := 0) (by omega) (by omega)).mpr h)
                                      refine lv_aload_n hx hb d_M_seek_211 rfl (lv_at hl 6 rfl) ?_
                                      refine lv_iload hx hb d_M_seek_212 (lv_at hl 1 rfl) ?_
                                      refine gp_cW (q0 := 0) (ci := 3) (As := [.int (gm_cc nt cz (gm_G1 np nt i G))]) (rest := []) ⟨hx, hb, hml, hown, hts⟩ (c_M_keep l E (upd J 13 (if J 13 < nI (gm_fu (gm_G1 np nt i G) nt 0) then nI (gm_fu (gm_G1 np nt i G) nt 0) else J 13)) (gm_G1 np nt i G) np nt (gm_cc nt cz (gm_G1 np nt i G)) hJ.1 hnp hJ.2.1 hnt) (k_M_135 hts ⟨by decide, by decide⟩ rfl rfl) hK hP hD hS hA rfl rfl rfl rfl hl.1 rfl (Nat.le_of_ble_eq_true rfl) d_M_seek_214 ⟨Nat.le_of_ble_eq_true rfl, Nat.le_of_ble_eq_true rfl⟩ (fun H locs hP hD hS => ?_)
                                      have hP : va_P E.1 gp_cl (gp_wM E (gm_kn np nt (gm_cc nt cz (gm_G1 np nt i G)) (gm_J2 nt (gm_G1 np nt i G) J, (gm_G1 np nt i G))).1 (gm_kn np nt (gm_cc nt cz (gm_G1 np nt i G)) (gm_J2 nt (gm_G1 np nt i G) J, (gm_G1 np nt i G))).2) H := hP
                                      have hD : va_D A (gp_wM E (gm_kn np nt (gm_cc nt cz (gm_G1 np nt i G)) (gm_J2 nt (gm_G1 np nt i G) J, (gm_G1 np nt i G))).1 (gm_kn np nt (gm_cc nt cz (gm_G1 np nt i G)) (gm_J2 nt (gm_G1 np nt i G) J, (gm_G1 np nt i G))).2) := hD
                                      refine lv_iinc (v := (nI (i + 1))) (lv' := [(4, .int (nI (i + 1))), (7, .int 1), (6, .int (gm_cc nt cz (gm_G1 np nt i G))), (5, .int (nI L)), (3, .int (nI al)), (2, .int (nI (np + 1))), (0, .ref (E.2.2.2 0)), (1, .int cz)]) hx hb d_M_seek_217 hl (k := 3) rfl (nI_1 _) (by decide) rfl (fun ls hl => ?_)
                                      refine lv_goto (tgt := 44) hx hb d_M_seek_220 (by decide) ?_
                                      have hX2 : gm_sk np nt ns cz (upd (upd I 10 0) 13 (-1), F) (i + 1) = ((gm_kn np nt (gm_cc nt cz (gm_G1 np nt i G)) (gm_J2 nt (gm_G1 np nt i G) J, (gm_G1 np nt i G))).1, (gm_kn np nt (gm_cc nt cz (gm_G1 np nt i G)) (gm_J2 nt (gm_G1 np nt i G) J, (gm_G1 np nt i G))).2) := by rw [gm_sk, hX]; first | exact if_neg hs106 | exact (if_pos hs106).trans (if_neg (by simp [gm_bt, c160, nc160, c167, c176, mc176])) | exact (if_pos hs106).trans (if_pos (by simp [gm_bt, c160, nc160, c167, c176, mc176]))
                                      exact ih44 (i + 1) (gm_kn np nt (gm_cc nt cz (gm_G1 np nt i G)) (gm_J2 nt (gm_G1 np nt i G) J, (gm_G1 np nt i G))).1 (gm_kn np nt (gm_cc nt cz (gm_G1 np nt i G)) (gm_J2 nt (gm_G1 np nt i G) J, (gm_G1 np nt i G))).2 (by omega) hJ hX2 (by omega) ls _ _ (lv_sub hl [0, 4, 5, 6, 7] rfl) (hP) (hD) hS
                                  · have c176 := c176
                                    have mc176 : ((J 11) : Int32) ≤ (gm_cc nt cz (gm_G1 np nt i G)) := Int32.not_lt.mp c176
                                    refine lv_iload hx hb d_M_seek_179 (lv_at hl 0 rfl) ?_
                                    refine lv_aload_n hx hb d_M_seek_181 rfl (lv_at hl 5 rfl) ?_
                                    refine va_get (D := E.1) (cl := gp_cl) (ci := 3) (v := .int (J 11)) (C := R_M) (T := T_M) (N := 27) hx hb hts i_M hown hK hP 0 rfl rfl 24 (by decide) (hts _ w3_76) (fun _ h9 => h9) rfl d_M_seek_182 ?_
                                    refine lv_icmp_ne (tgt := 203) hx hb d_M_seek_185 (by decide) (fun c185 => ?_) (fun c185 => ?_)
                                    · have c185 := c185
                                      refine lv_iconst (v := 0) hx hb d_M_seek_203 (by decide) ?_
                                      refine lv_istore (lv' := [(7, .int 0), (6, .int (gm_cc nt cz (gm_G1 np nt i G))), (5, .int (nI L)), (4, .int (nI i)), (3, .int (nI al)), (2, .int (nI (np + 1))), (0, .ref (E.2.2.2 0)), (1, .int cz)]) hx hb d_M_seek_204 hl (by decide) rfl (fun ls hl => ?_)
                                      refine lv_iload hx hb d_M_seek_206 (lv_at hl 0 rfl) ?_
                                      refine lv_if_eq (tgt := 217) hx hb d_M_seek_208 (by decide) (fun c208 => ?_) (fun c208 => ?_)
                                      · have c208 := c208
                                        have nc208 : 0 = 0 := (nI_eq (a := 0) (b := 0) (by omega) (by omega)).mp c208
                                        refine lv_iinc (v := (nI (i + 1))) (lv' := [(4, .int (nI (i + 1))), (7, .int 0), (6, .int (gm_cc nt cz (gm_G1 np nt i G))), (5, .int (nI L)), (3, .int (nI al)), (2, .int (nI (np + 1))), (0, .ref (E.2.2.2 0)), (1, .int cz)]) hx hb d_M_seek_217 hl (k := 3) rfl (nI_1 _) (by decide) rfl (fun ls hl => ?_)
                                        refine lv_goto (tgt := 44) hx hb d_M_seek_220 (by decide) ?_
                                        have hX2 : gm_sk np nt ns cz (upd (upd I 10 0) 13 (-1), F) (i + 1) = ((upd J 13 (if J 13 < nI (gm_fu (gm_G1 np nt i G) nt 0) then nI (gm_fu (gm_G1 np nt i G) nt 0) else J 13)), (gm_G1 np nt i G)) := by rw [gm_sk, hX]; first | exact if_neg hs106 | exact (if_pos hs106).trans (if_neg (by simp [gm_bt, c160, nc160, c167, c176, mc176, c185])) | exact (if_pos hs106).trans (if_pos (by simp [gm_bt, c160, nc160, c167, c176, mc176, c185]))
                                        exact ih44 (i + 1) (upd J 13 (if J 13 < nI (gm_fu (gm_G1 np nt i G) nt 0) then nI (gm_fu (gm_G1 np nt i G) nt 0) else J 13)) (gm_G1 np nt i G) (by omega) hJ hX2 (by omega) ls _ _ (lv_sub hl [0, 4, 5, 6, 7] rfl) (hP) (hD) hS
                                      · exact absurd c208 (by decide)
                                    · have c185 := c185
                                      refine lv_aload_n hx hb d_M_seek_188 rfl (lv_at hl 5 rfl) ?_
                                      refine gp_cR (q0 := 0) (ci := 3) (As := []) (rest := []) ⟨hx, hb, hml, hown, hts⟩ (show gp_CR _ _ _ _ _ _ _ _ _ (gm_c (gm_dg np nt i (G 9)) nt np) from c_M_costOf l E (upd J 13 (if J 13 < nI (gm_fu (gm_G1 np nt i G) nt 0) then nI (gm_fu (gm_G1 np nt i G) nt 0) else J 13)) (gm_G1 np nt i G) np nt hJ.1 hnp hJ.2.1 hnt) (k_M_129 hts ⟨by decide, by decide⟩ rfl rfl) hK hP rfl rfl rfl hl.1 rfl (Nat.le_of_ble_eq_true rfl) d_M_seek_189 ⟨Nat.le_of_ble_eq_true rfl, Nat.le_of_ble_eq_true rfl⟩ ?_
                                      refine lv_aload_n hx hb d_M_seek_192 rfl (lv_at hl 5 rfl) ?_
                                      refine va_get (D := E.1) (cl := gp_cl) (ci := 3) (v := .int (J 12)) (C := R_M) (T := T_M) (N := 27) hx hb hts i_M hown hK hP 0 rfl rfl 25 (by decide) (hts _ w3_77) (fun _ h9 => h9) rfl d_M_seek_193 ?_
                                      refine lv_icmp_ge (tgt := 203) hx hb d_M_seek_196 (by decide) (fun c196 => ?_) (fun c196 => ?_)
                                      · have c196 := c196
                                        have mc196 : ¬ ((gm_c (gm_dg np nt i (G 9)) nt np) : Int32) < (J 12) := Int32.not_lt.mpr c196
                                        refine lv_iconst (v := 0) hx hb d_M_seek_203 (by decide) ?_
                                        refine lv_istore (lv' := [(7, .int 0), (6, .int (gm_cc nt cz (gm_G1 np nt i G))), (5, .int (nI L)), (4, .int (nI i)), (3, .int (nI al)), (2, .int (nI (np + 1))), (0, .ref (E.2.2.2 0)), (1, .int cz)]) hx hb d_M_seek_204 hl (by decide) rfl (fun ls hl => ?_)
                                        refine lv_iload hx hb d_M_seek_206 (lv_at hl 0 rfl) ?_
                                        refine lv_if_eq (tgt := 217) hx hb d_M_seek_208 (by decide) (fun c208 => ?_) (fun c208 => ?_)
                                        · have c208 := c208
                                          have nc208 : 0 = 0 := (nI_eq (a := 0) (b := 0) (by omega) (by omega)).mp c208
                                          refine lv_iinc (v := (nI (i + 1))) (lv' := [(4, .int (nI (i + 1))), (7, .int 0), (6, .int (gm_cc nt cz (gm_G1 np nt i G))), (5, .int (nI L)), (3, .int (nI al)), (2, .int (nI (np + 1))), (0, .ref (E.2.2.2 0)), (1, .int cz)]) hx hb d_M_seek_217 hl (k := 3) rfl (nI_1 _) (by decide) rfl (fun ls hl => ?_)
                                          refine lv_goto (tgt := 44) hx hb d_M_seek_220 (by decide) ?_
                                          have hX2 : gm_sk np nt ns cz (upd (upd I 10 0) 13 (-1), F) (i + 1) = ((upd J 13 (if J 13 < nI (gm_fu (gm_G1 np nt i G) nt 0) then nI (gm_fu (gm_G1 np nt i G) nt 0) else J 13)), (gm_G1 np nt i G)) := by rw [gm_sk, hX]; first | exact if_neg hs106 | exact (if_pos hs106).trans (if_neg (by simp [gm_bt, c160, nc160, c167, c176, mc176, c185, c196, mc196])) | exact (if_pos hs106).trans (if_pos (by simp [gm_bt, c160, nc160, c167, c176, mc176, c185, c196, mc196]))
                                          exact ih44 (i + 1) (upd J 13 (if J 13 < nI (gm_fu (gm_G1 np nt i G) nt 0) then nI (gm_fu (gm_G1 np nt i G) nt 0) else J 13)) (gm_G1 np nt i G) (by omega) hJ hX2 (by omega) ls _ _ (lv_sub hl [0, 4, 5, 6, 7] rfl) (hP) (hD) hS
                                        · exact absurd c208 (by decide)
                                      · have c196 := c196
                                        have mc196 : ((gm_c (gm_dg np nt i (G 9)) nt np) : Int32) < (J 12) := Int32.not_le.mp c196
                                        refine lv_iconst (v := 1) hx hb d_M_seek_199 (by decide) ?_
                                        refine lv_goto (tgt := 204) hx hb d_M_seek_200 (by decide) ?_
                                        refine lv_istore (lv' := [(7, .int 1), (6, .int (gm_cc nt cz (gm_G1 np nt i G))), (5, .int (nI L)), (4, .int (nI i)), (3, .int (nI al)), (2, .int (nI (np + 1))), (0, .ref (E.2.2.2 0)), (1, .int cz)]) hx hb d_M_seek_204 hl (by decide) rfl (fun ls hl => ?_)
                                        refine lv_iload hx hb d_M_seek_206 (lv_at hl 0 rfl) ?_
                                        refine lv_if_eq (tgt := 217) hx hb d_M_seek_208 (by decide) (fun c208 => ?_) (fun c208 => ?_)
                                        · exact absurd c208 (by decide)
                                        · have c208 := c208
                                          have nc208 : ¬ 1 = 0 := fun h => c208 ((nI_eq (a := 1) (b := 0) (by omega) (by omega)).mpr h)
                                          refine lv_aload_n hx hb d_M_seek_211 rfl (lv_at hl 6 rfl) ?_
                                          refine lv_iload hx hb d_M_seek_212 (lv_at hl 1 rfl) ?_
                                          refine gp_cW (q0 := 0) (ci := 3) (As := [.int (gm_cc nt cz (gm_G1 np nt i G))]) (rest := []) ⟨hx, hb, hml, hown, hts⟩ (c_M_keep l E (upd J 13 (if J 13 < nI (gm_fu (gm_G1 np nt i G) nt 0) then nI (gm_fu (gm_G1 np nt i G) nt 0) else J 13)) (gm_G1 np nt i G) np nt (gm_cc nt cz (gm_G1 np nt i G)) hJ.1 hnp hJ.2.1 hnt) (k_M_135 hts ⟨by decide, by decide⟩ rfl rfl) hK hP hD hS hA rfl rfl rfl rfl hl.1 rfl (Nat.le_of_ble_eq_true rfl) d_M_seek_214 ⟨Nat.le_of_ble_eq_true rfl, Nat.le_of_ble_eq_true rfl⟩ (fun H locs hP hD hS => ?_)
                                          have hP : va_P E.1 gp_cl (gp_wM E (gm_kn np nt (gm_cc nt cz (gm_G1 np nt i G)) (gm_J2 nt (gm_G1 np nt i G) J, (gm_G1 np nt i G))).1 (gm_kn np nt (gm_cc nt cz (gm_G1 np nt i G)) (gm_J2 nt (gm_G1 np nt i G) J, (gm_G1 np nt i G))).2) H := hP
                                          have hD : va_D A (gp_wM E (gm_kn np nt (gm_cc nt cz (gm_G1 np nt i G)) (gm_J2 nt (gm_G1 np nt i G) J, (gm_G1 np nt i G))).1 (gm_kn np nt (gm_cc nt cz (gm_G1 np nt i G)) (gm_J2 nt (gm_G1 np nt i G) J, (gm_G1 np nt i G))).2) := hD
                                          refine lv_iinc (v := (nI (i + 1))) (lv' := [(4, .int (nI (i + 1))), (7, .int 1), (6, .int (gm_cc nt cz (gm_G1 np nt i G))), (5, .int (nI L)), (3, .int (nI al)), (2, .int (nI (np + 1))), (0, .ref (E.2.2.2 0)), (1, .int cz)]) hx hb d_M_seek_217 hl (k := 3) rfl (nI_1 _) (by decide) rfl (fun ls hl => ?_)
                                          refine lv_goto (tgt := 44) hx hb d_M_seek_220 (by decide) ?_
                                          have hX2 : gm_sk np nt ns cz (upd (upd I 10 0) 13 (-1), F) (i + 1) = ((gm_kn np nt (gm_cc nt cz (gm_G1 np nt i G)) (gm_J2 nt (gm_G1 np nt i G) J, (gm_G1 np nt i G))).1, (gm_kn np nt (gm_cc nt cz (gm_G1 np nt i G)) (gm_J2 nt (gm_G1 np nt i G) J, (gm_G1 np nt i G))).2) := by rw [gm_sk, hX]; first | exact if_neg hs106 | exact (if_pos hs106).trans (if_neg (by simp [gm_bt, c160, nc160, c167, c176, mc176, c185, c196, mc196])) | exact (if_pos hs106).trans (if_pos (by simp [gm_bt, c160, nc160, c167, c176, mc176, c185, c196, mc196]))
                                          exact ih44 (i + 1) (gm_kn np nt (gm_cc nt cz (gm_G1 np nt i G)) (gm_J2 nt (gm_G1 np nt i G) J, (gm_G1 np nt i G))).1 (gm_kn np nt (gm_cc nt cz (gm_G1 np nt i G)) (gm_J2 nt (gm_G1 np nt i G) J, (gm_G1 np nt i G))).2 (by omega) hJ hX2 (by omega) ls _ _ (lv_sub hl [0, 4, 5, 6, 7] rfl) (hP) (hD) hS
                      · rw [show ((if gm_may J (gm_G1 np nt i G) np nt ns then 1 else 0) : Int32) = 0 from if_neg hs106]
                        refine lv_if_eq (tgt := 217) hx hb d_M_seek_109 (by decide) (fun c109 => ?_) (fun c109 => ?_)
                        · have c109 := c109
                          have nc109 : 0 = 0 := (nI_eq (a := 0) (b := 0) (by omega) (by omega)).mp c109
                          refine lv_iinc (v := (nI (i + 1))) (lv' := [(4, .int (nI (i + 1))), (6, .int (-1)), (5, .int (nI L)), (3, .int (nI al)), (2, .int (nI (np + 1))), (0, .ref (E.2.2.2 0)), (1, .int cz)]) hx hb d_M_seek_217 hl (k := 2) rfl (nI_1 _) (by decide) rfl (fun ls hl => ?_)
                          refine lv_goto (tgt := 44) hx hb d_M_seek_220 (by decide) ?_
                          have hX2 : gm_sk np nt ns cz (upd (upd I 10 0) 13 (-1), F) (i + 1) = (J, (gm_G1 np nt i G)) := by rw [gm_sk, hX]; first | exact if_neg hs106 | exact (if_pos hs106).trans (if_neg (by simp [gm_bt, ])) | exact (if_pos hs106).trans (if_pos (by simp [gm_bt, ]))
                          exact ih44 (i + 1) J (gm_G1 np nt i G) (by omega) hJ hX2 (by omega) ls _ _ (lv_sub hl [0, 3, 4, 5, 6] rfl) (hP) (hD) hS
                        · exact absurd c109 (by decide)
                    · exact absurd c64 (by decide)
                  · obtain ⟨k, rfl⟩ : ∃ z, j = z + 1 := ⟨j - 1, by omega⟩
                    rw [nI_pred] at hl
                    have hmod : L % (np + 1) < np + 1 := Nat.mod_lt _ (by omega)
                    have hLi : L ≤ i := by rw [k2]; exact Nat.div_le_self _ _
                    have k3 : L = i / (np + 1) ^ (nt - 1 - k) := by rw [k2, show nt - (k + 1) = nt - 1 - k by omega]
                    refine lv_iload hx hb d_M_seek_62 (lv_at hl 0 rfl) ?_
                    refine lv_if_lt (tgt := 105) hx hb d_M_seek_64 (by decide) (fun c64 => ?_) (fun c64 => ?_)
                    · have c64 := c64
                      have nc64 : k < 0 := (nI_ltI (a := k) (b := 0) (by omega) (by omega)).mp c64
                      exact False.elim (by omega)
                    · have c64 := c64
                      have nc64 : ¬ k < 0 := fun h => c64 ((nI_ltI (a := k) (b := 0) (by omega) (by omega)).mpr h)
                      refine lv_aload_n hx hb d_M_seek_67 rfl (lv_at hl 5 rfl) ?_
                      refine va_get (D := E.1) (cl := gp_cl) (ci := 3) (v := .ref (E.2.2.2 10)) (C := R_M) (T := T_M) (N := 27) hx hb hts i_M hown hK hP 0 rfl rfl 13 (by decide) (hts _ w3_65) (fun _ h9 => h9) rfl d_M_seek_68 ?_
                      refine lv_iload hx hb d_M_seek_71 (lv_at hl 0 rfl) ?_
                      refine lv_iload hx hb d_M_seek_73 (lv_at hl 1 rfl) ?_
                      refine lv_iload_n hx hb d_M_seek_75 rfl (lv_at hl 4 rfl) ?_
                      refine lv_irem hx hb d_M_seek_76 (nI_ne0 (by omega) (by omega)) ?_
                      rw [pk_rem (a := L) (d := (np + 1)) (by omega) (by omega) (by omega)]
                      refine lv_aload_n hx hb d_M_seek_77 rfl (lv_at hl 5 rfl) ?_
                      refine va_get (D := E.1) (cl := gp_cl) (ci := 3) (v := .int (nI np)) (C := R_M) (T := T_M) (N := 27) hx hb hts i_M hown hK hP 0 rfl rfl 1 (by decide) (hts _ w3_53) (fun _ h9 => h9) (congrArg (fun z => some (Value.int z)) hJ.1) d_M_seek_78 ?_
                      refine lv_icmp_ne (tgt := 88) hx hb d_M_seek_81 (by decide) (fun c81 => ?_) (fun c81 => ?_)
                      · have c81 := c81
                        have nc81 : ¬ (L % (np + 1)) = np := fun h => c81 ((nI_eq (a := (L % (np + 1))) (b := np) (by omega) (by omega)).mpr h)
                        refine lv_iload hx hb d_M_seek_88 (lv_at hl 1 rfl) ?_
                        refine lv_iload_n hx hb d_M_seek_90 rfl (lv_at hl 4 rfl) ?_
                        refine lv_irem hx hb d_M_seek_91 (nI_ne0 (by omega) (by omega)) ?_
                        rw [pk_rem (a := L) (d := (np + 1)) (by omega) (by omega) (by omega)]
                        refine gp_ast (f := (gm_ds np nt i (G 9) (k + 1))) (n := 6) hx hb hK hP hD hS 10 rfl (k) rfl (by omega) (by decide) d_M_seek_92 (fun H locs hP hD hS => ?_)
                        have hP : va_P E.1 gp_cl (gp_wM E J (gp_uF (gp_uF G 9 (gm_ds np nt i (G 9) (k + 1))) 9 (upd (gm_ds np nt i (G 9) (k + 1)) (k) (nI (L % (np + 1)))))) H := hP
                        have hD : va_D A (gp_wM E J (gp_uF (gp_uF G 9 (gm_ds np nt i (G 9) (k + 1))) 9 (upd (gm_ds np nt i (G 9) (k + 1)) (k) (nI (L % (np + 1)))))) := hD
                        refine lv_iload hx hb d_M_seek_93 (lv_at hl 1 rfl) ?_
                        refine lv_iload_n hx hb d_M_seek_95 rfl (lv_at hl 4 rfl) ?_
                        refine lv_idiv hx hb d_M_seek_96 (nI_ne0 (by omega) (by omega)) ?_
                        rw [pk_div (a := L) (d := (np + 1)) (by omega) (by omega) (by omega)]
                        refine lv_istore (lv' := [(5, .int (nI (L / (np + 1)))), (6, .int (nI k)), (4, .int (nI i)), (3, .int (nI al)), (2, .int (nI (np + 1))), (0, .ref (E.2.2.2 0)), (1, .int cz)]) hx hb d_M_seek_97 hl (by decide) rfl (fun ls hl => ?_)
                        refine lv_iinc (v := ((nI k) - 1)) (lv' := [(6, .int ((nI k) - 1)), (5, .int (nI (L / (np + 1)))), (4, .int (nI i)), (3, .int (nI al)), (2, .int (nI (np + 1))), (0, .ref (E.2.2.2 0)), (1, .int cz)]) hx hb d_M_seek_99 hl (k := 1) rfl (gm_m1 _) (by decide) rfl (fun ls hl => ?_)
                        refine lv_goto (tgt := 62) hx hb d_M_seek_102 (by decide) ?_
                        exact ih62 k (L / (np + 1)) (by omega) (by rw [k2, Nat.div_div_eq_div_mul, ← Nat.pow_succ, show (nt - (k + 1)).succ = nt - k by omega]) (by omega) ls _ _ (lv_sub hl [0, 1, 2, 3, 4, 5, 6] rfl) (by rw [← gm_ds_s (V := (nI (L % (np + 1)))) (show k < nt by omega) (by rw [← k3]; simp [gm_d1, c81, nc81])]; exact hP) (gp_dd hD rfl) hS
                      · have c81 := c81
                        have nc81 : (L % (np + 1)) = np := (nI_eq (a := (L % (np + 1))) (b := np) (by omega) (by omega)).mp c81
                        refine lv_iconst (v := (-1)) hx hb d_M_seek_84 (by decide) ?_
                        refine lv_goto (tgt := 92) hx hb d_M_seek_85 (by decide) ?_
                        refine gp_ast (f := (gm_ds np nt i (G 9) (k + 1))) (n := 6) hx hb hK hP hD hS 10 rfl (k) rfl (by omega) (by decide) d_M_seek_92 (fun H locs hP hD hS => ?_)
                        have hP : va_P E.1 gp_cl (gp_wM E J (gp_uF (gp_uF G 9 (gm_ds np nt i (G 9) (k + 1))) 9 (upd (gm_ds np nt i (G 9) (k + 1)) (k) (-1)))) H := hP
                        have hD : va_D A (gp_wM E J (gp_uF (gp_uF G 9 (gm_ds np nt i (G 9) (k + 1))) 9 (upd (gm_ds np nt i (G 9) (k + 1)) (k) (-1)))) := hD
                        refine lv_iload hx hb d_M_seek_93 (lv_at hl 1 rfl) ?_
                        refine lv_iload_n hx hb d_M_seek_95 rfl (lv_at hl 4 rfl) ?_
                        refine lv_idiv hx hb d_M_seek_96 (nI_ne0 (by omega) (by omega)) ?_
                        rw [pk_div (a := L) (d := (np + 1)) (by omega) (by omega) (by omega)]
                        refine lv_istore (lv' := [(5, .int (nI (L / (np + 1)))), (6, .int (nI k)), (4, .int (nI i)), (3, .int (nI al)), (2, .int (nI (np + 1))), (0, .ref (E.2.2.2 0)), (1, .int cz)]) hx hb d_M_seek_97 hl (by decide) rfl (fun ls hl => ?_)
                        refine lv_iinc (v := ((nI k) - 1)) (lv' := [(6, .int ((nI k) - 1)), (5, .int (nI (L / (np + 1)))), (4, .int (nI i)), (3, .int (nI al)), (2, .int (nI (np + 1))), (0, .ref (E.2.2.2 0)), (1, .int cz)]) hx hb d_M_seek_99 hl (k := 1) rfl (gm_m1 _) (by decide) rfl (fun ls hl => ?_)
                        refine lv_goto (tgt := 62) hx hb d_M_seek_102 (by decide) ?_
                        exact ih62 k (L / (np + 1)) (by omega) (by rw [k2, Nat.div_div_eq_div_mul, ← Nat.pow_succ, show (nt - (k + 1)).succ = nt - k by omega]) (by omega) ls _ _ (lv_sub hl [0, 1, 2, 3, 4, 5, 6] rfl) (by rw [← gm_ds_s (V := (-1)) (show k < nt by omega) (by rw [← k3]; simp [gm_d1, c81, nc81])]; exact hP) (gp_dd hD rfl) hS
              exact L62 (nt + 1) nt i (Nat.le_refl _) (by simp) (by omega) ls _ _ (lv_sub hl [0, 1, 2, 3, 4, 5, 6] rfl) (by rw [gm_ds_nt, gp_uF_self]; exact hP) (gp_dd hD rfl) hS
        exact L44 (al + 1) 0 (upd (upd I 10 0) 13 (-1)) F (Nat.zero_le _) ⟨hp4, hT, hN⟩ rfl (by omega) ls _ _ (lv_sub hl [0, 1, 2, 3, 4] rfl) (hP) (hD) hS
      · have c18 := c18
        have nc18 : ¬ nt ≤ t := fun h => c18 ((nI_leI (a := nt) (b := t) (by omega) (by omega)).mpr h)
        refine lv_iload_n hx hb d_M_seek_21 rfl (lv_at hl 1 rfl) ?_
        refine lv_iload_n hx hb d_M_seek_22 rfl (lv_at hl 2 rfl) ?_
        refine lv_imul hx hb d_M_seek_23 ?_
        refine lv_istore_n (lv' := [(3, .int ((nI ((np + 1) ^ t)) * (nI (np + 1)))), (4, .int (nI t)), (2, .int (nI (np + 1))), (0, .ref (E.2.2.2 0)), (1, .int cz)]) hx hb d_M_seek_24 rfl hl (by decide) rfl (fun ls hl => ?_)
        refine lv_iinc (v := (nI (t + 1))) (lv' := [(4, .int (nI (t + 1))), (3, .int ((nI ((np + 1) ^ t)) * (nI (np + 1)))), (2, .int (nI (np + 1))), (0, .ref (E.2.2.2 0)), (1, .int cz)]) hx hb d_M_seek_25 hl (k := 1) rfl (nI_1 _) (by decide) rfl (fun ls hl => ?_)
        refine lv_goto (tgt := 12) hx hb d_M_seek_28 (by decide) ?_
        rw [show (((nI ((np + 1) ^ t)) * (nI (np + 1))) : Int32) = (nI ((np + 1) ^ (t + 1))) from by rw [pk_mul, Nat.pow_succ]] at hl
        exact ih12 (t + 1) (by omega) (by omega) ls _ _ (lv_sub hl [0, 1, 2, 3, 4] rfl) (hP) (hD) hS
  exact L12 (nt + 1) 0 (Nat.zero_le _) (by omega) ls _ _ (lv_sub hl [0, 1, 2, 3, 4] rfl) (hP) (hD) hS
