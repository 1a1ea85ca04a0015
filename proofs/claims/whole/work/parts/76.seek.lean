/-! ===== the reference's search finds what the class's finds ===== -/
theorem pz_T.g1 {I : Nat → Int32} {F : Nat → Nat → Int32} {J : Nat → Int32} {G : Nat → Nat → Int32} {np nt ns : Nat} {b e : Nat → Nat} {lim : Nat} (h : pz_T I F J G np nt ns b e lim) (f : Nat → Int32) : pz_T I F J (gp_uF G 9 f) np nt ns b e lim :=
  ⟨h.np4, h.nt6, h.sk, h.so, h.tk, h.pl, h.hr, h.rs, h.li, h.ln⟩
/-- what the class has found after n plans -/
def pz_B (I : Nat → Int32) (F : Nat → Nat → Int32) (np nt ns : Nat) (len : Nat → Nat) (fr : Int32) (kw cw mb n : Nat) : Nat × List Nat := (List.range n).foldl (fun B i => if pz_okm I F np nt ns len fr mb (pz_dg np nt i) then sx_up (pz_wt (pz_F np nt ns fr mb (I, F)) kw cw) B (pz_dg np nt i) else B) (1000000, [])
theorem pz_B_s {I : Nat → Int32} {F : Nat → Nat → Int32} {np nt ns : Nat} {len : Nat → Nat} {fr : Int32} {kw cw mb n : Nat} : pz_B I F np nt ns len fr kw cw mb (n + 1) = if pz_okm I F np nt ns len fr mb (pz_dg np nt n) then sx_up (pz_wt (pz_F np nt ns fr mb (I, F)) kw cw) (pz_B I F np nt ns len fr kw cw mb n) (pz_dg np nt n) else pz_B I F np nt ns len fr kw cw mb n := by
  rw [pz_B, List.range_succ, List.foldl_append, List.foldl_cons, List.foldl_nil]
  rfl
/-- what the class's find leaves -/
theorem pz_fd {I : Nat → Int32} {F : Nat → Nat → Int32} {J : Nat → Int32} {G : Nat → Nat → Int32} {np nt ns : Nat} {b e : Nat → Nat} {lim : Nat} (h : pz_T I F J G np nt ns b e lim) {fr : Int32} {kw cw mb : Nat} (h9 : I 9 = nI cw) (h10 : I 10 = nI kw) (hkw : kw ≤ 1) (hcw : cw ≤ 1000) :
    (gp_fd np nt ns fr mb (I, F)).1 11 = nI (pz_B I F np nt ns (fun t => e t - b t) fr kw cw mb ((np + 1) ^ nt)).1 ∧ (pz_B I F np nt ns (fun t => e t - b t) fr kw cw mb ((np + 1) ^ nt)).1 ≤ 1000000 ∧ ((pz_B I F np nt ns (fun t => e t - b t) fr kw cw mb ((np + 1) ^ nt)).1 < 1000000 → ∀ j, j < nt → (gp_fd np nt ns fr mb (I, F)).2 8 j = pz_v ((pz_B I F np nt ns (fun t => e t - b t) fr kw cw mb ((np + 1) ^ nt)).2.getD j 4)) := by
  have hp := pz_pl (I := upd I 11 1000000) (F := pz_F np nt ns fr mb (I, F)) (kw := kw) (cw := cw) (len := fun t => e t - b t) h.np4 h.nt6 h9 h10 hkw hcw (fun t ht => h.len ht) nt [] 0 (1000000, []) (upd I 11 1000000, pz_F np nt ns fr mb (I, F)) (Nat.zero_add _) (Nat.le_refl _) (by
    refine ⟨fun i _ => rfl, rfl, fun k _ _ _ _ => rfl, fun p hp => ⟨?_, ?_⟩, fun j hj => (by cases hj), fun h => absurd h (by decide), Nat.le_refl _⟩
    · show (if p < 4 then _ else _) = _
      rw [if_pos (by have := h.np4; omega)]; rfl
    · show (if p < 4 then _ else _) = _
      rw [if_pos (by have := h.np4; omega)]; rfl)
  have hB : sx_go np (pz_may (upd I 11 1000000) (pz_F np nt ns fr mb (I, F)) (fun t => e t - b t)) (pz_non (pz_F np nt ns fr mb (I, F))) (pz_wt (pz_F np nt ns fr mb (I, F)) kw cw) kw nt [] 0 (1000000, []) = pz_B I F np nt ns (fun t => e t - b t) fr kw cw mb ((np + 1) ^ nt) := by
    rw [pz_find h.np4 pz_wt_ge]
    rfl
  rw [hB] at hp
  obtain ⟨-, r2, -, -, -, r6, r7⟩ := hp
  exact ⟨r2, r7, r6⟩
section PzM
variable {I : Nat → Int32} {F : Nat → Nat → Int32} {J : Nat → Int32} {G : Nat → Nat → Int32} {np nt ns : Nat} {b e : Nat → Nat} {lim : Nat}
theorem pz_okm_e (h : pz_T I F J G np nt ns b e lim) {fr : Int32} {mb : Nat} (hmb : mb ≤ nt) (hk11 : ∀ t, t < nt → (G 11 t = 0 ↔ fr ≤ F 5 t)) (hv : ∀ t, t < nt → F 14 t = -1 ∨ ∃ q, q < np ∧ F 14 t = nI q) (i : Nat) : pz_okm I F np nt ns (fun t => e t - b t) fr mb (pz_dg np nt i) = true ↔ gm_may J (gm_G1 np nt i G) np nt ns = true ∧ mb ≤ gm_fu (gm_G1 np nt i G) nt 0 := by
  have := pz_okm_k (h.g1 (gm_dg np nt i (G 9))) (mb := mb) hk11 hv (x := pz_dg np nt i) (pz_dg_l nt i) (fun j hj => pz_dg_v h.np4 hj) (fun j hj => pz_dg_r hj) nt (Nat.le_refl _)
  rw [List.take_of_length_le (by rw [pz_dg_l]; exact Nat.le_refl _)] at this
  rw [this]
  exact pz_V_may hmb
/-- the reference, n plans tried, against the class -/
def pz_M (I : Nat → Int32) (F : Nat → Nat → Int32) (J : Nat → Int32) (G : Nat → Nat → Int32) (np nt ns : Nat) (len : Nat → Nat) (fr : Int32) (cw n : Nat) (σ : gp_S) : Prop :=
  (∀ j, j < 10 → σ.1 j = J j) ∧ (∀ a, a ≠ 9 → a ≠ 10 → σ.2 a = G a) ∧
  (((pz_B I F np nt ns len fr 1 cw nt n).1 = 1000000 ∧ σ.1 10 = 0) ∨ (∃ ch co i : Nat, (pz_B I F np nt ns len fr 1 cw nt n).1 = 1000 * ch + co ∧ ch ≤ 6 ∧ co ≤ 600 ∧ σ.1 10 = 1 ∧ σ.1 11 = nI ch ∧ σ.1 12 = nI co ∧ (pz_B I F np nt ns len fr 1 cw nt n).2 = pz_dg np nt i ∧ co = pz_s2 (pz_dg np nt i) np ∧ ∀ j, j < nt → σ.2 10 j = pz_v ((pz_dg np nt i).getD j 4))) ∧
  (σ.1 13 = -1 ∨ ∃ m, m ≤ nt ∧ σ.1 13 = nI m) ∧ ∀ m, m ≤ nt → (nI m ≤ σ.1 13 ↔ ∃ i, i < n ∧ gm_may J (gm_G1 np nt i G) np nt ns = true ∧ m ≤ gm_fu (gm_G1 np nt i G) nt 0)
theorem pz_mone {m : Nat} (hm : m < 2 ^ 31) : ¬ nI m ≤ -1 := fun h => gm_ge hm h
theorem pz_mlt {m : Nat} (hm : m < 2 ^ 31) : (-1 : Int32) < nI m := Int32.not_le.mp (pz_mone hm)
theorem pz_sk (h : pz_T I F J G np nt ns b e lim) {fr cz : Int32} {cw : Nat} (hcw : (cz = 0 ∧ cw = 0) ∨ (cz = 1 ∧ cw = 1000)) (hk11 : ∀ t, t < nt → (G 11 t = 0 ↔ fr ≤ F 5 t)) (hv : ∀ t, t < nt → F 14 t = -1 ∨ ∃ q, q < np ∧ F 14 t = nI q) :
    ∀ n, pz_M I F J G np nt ns (fun t => e t - b t) fr cw n (gm_sk np nt ns cz (upd (upd J 10 0) 13 (-1), G) n) := by
  have h4 := h.np4
  have h6 := h.nt6
  intro n
  induction n with
  | zero =>
    refine ⟨fun j hj => ?_, fun a _ _ => rfl, Or.inl ⟨rfl, rfl⟩, Or.inl rfl, fun m hm => ⟨fun hc => absurd hc (pz_mone (by omega)), fun ⟨i, hi, _⟩ => by omega⟩⟩
    show upd (upd J 10 0) 13 (-1) j = _
    rw [upd, if_neg (by omega), upd, if_neg (by omega)]
  | succ n ih =>
    rw [gm_sk]
    revert ih
    generalize gm_sk np nt ns cz (upd (upd J 10 0) 13 (-1), G) n = σ
    rintro ⟨c1, c2, c3, c4, c5⟩
    have hA : ∀ a, a ≠ 9 → a ≠ 10 → gm_G1 np nt n σ.2 a = gm_G1 np nt n G a := fun a h1 h2 => (gp_uF_ne h1).trans ((c2 a h1 h2).trans (gp_uF_ne h1).symm)
    have hA9 : ∀ j, j < nt → gm_G1 np nt n σ.2 9 j = gm_G1 np nt n G 9 j := fun j hj => (pz_dg_v (f := σ.2 9) h4 hj).trans (pz_dg_v (f := G 9) h4 hj).symm
    have e1 : gm_may σ.1 (gm_G1 np nt n σ.2) np nt ns = gm_may J (gm_G1 np nt n G) np nt ns := pz_may_c (c1 5 (by omega)) (c1 6 (by omega)) hA hA9
    have e2 : gm_fu (gm_G1 np nt n σ.2) nt 0 = gm_fu (gm_G1 np nt n G) nt 0 := pz_fu_c hA hA9 nt 0 (by omega)
    have e3 : gm_df (gm_G1 np nt n σ.2) nt = gm_df (gm_G1 np nt n G) nt := pz_df_c hA hA9 nt (Nat.le_refl _)
    have hfu : gm_fu (gm_G1 np nt n G) nt 0 ≤ nt := by have := gm_fu_le (F := gm_G1 np nt n G) nt 0; omega
    have hok := pz_okm_e h (mb := nt) (Nat.le_refl _) hk11 hv n
    have hco := pz_gc (f := gm_dg np nt n (σ.2 9)) (x := pz_dg np nt n) (nt := nt) (pz_dg_l nt n) (fun j hj => pz_dg_v h4 hj) (fun j hj => by have := pz_dg_r (np := np) (i := n) hj; omega) np h4
    have hsc := pz_sc (F := pz_F np nt ns fr nt (I, F)) (G := gm_G1 np nt n G) (np := np) (nt := nt) (cw := cw) (x := pz_dg np nt n) h4 (pz_dg_l nt n) (fun t ht => h.pl t ht) (fun j hj => pz_dg_v (f := G 9) h4 hj) (fun j hj => pz_dg_r hj) nt (Nat.le_refl _)
    rw [List.take_of_length_le (by rw [pz_dg_l]; exact Nat.le_refl _)] at hsc
    obtain ⟨hs1, hs2⟩ := hsc
    have hs2 := hs2 h6
    have hdf := pz_df_le (G := gm_G1 np nt n G) nt
    obtain ⟨chx, hc1, hc2, hc3⟩ : ∃ chx, gm_cc nt cz (gm_G1 np nt n σ.2) = nI chx ∧ cw * gm_df (gm_G1 np nt n G) nt = 1000 * chx ∧ chx ≤ 6 := by
      rcases hcw with ⟨z1, z2⟩ | ⟨z1, z2⟩
      · exact ⟨0, by rw [gm_cc, if_pos z1]; rfl, by rw [z2]; omega, by omega⟩
      · exact ⟨gm_df (gm_G1 np nt n G) nt, by rw [gm_cc, if_neg (by rw [z1]; decide), e3], by rw [z2], by omega⟩
    rw [hc2] at hs1
    rw [gm_s1, e1]
    by_cases cm : gm_may J (gm_G1 np nt n G) np nt ns = true
    · rw [if_pos cm]
      have hJ13 : (if σ.1 13 < nI (gm_fu (gm_G1 np nt n σ.2) nt 0) then nI (gm_fu (gm_G1 np nt n σ.2) nt 0) else σ.1 13) = -1 ∨ ∃ m, m ≤ nt ∧ (if σ.1 13 < nI (gm_fu (gm_G1 np nt n σ.2) nt 0) then nI (gm_fu (gm_G1 np nt n σ.2) nt 0) else σ.1 13) = nI m := by
        split
        · right; exact ⟨_, by rw [e2]; exact hfu, rfl⟩
        · exact c4
      have hJm : ∀ m, m ≤ nt → (nI m ≤ (if σ.1 13 < nI (gm_fu (gm_G1 np nt n σ.2) nt 0) then nI (gm_fu (gm_G1 np nt n σ.2) nt 0) else σ.1 13) ↔ ∃ i, i < n + 1 ∧ gm_may J (gm_G1 np nt i G) np nt ns = true ∧ m ≤ gm_fu (gm_G1 np nt i G) nt 0) := by
        intro m hm
        have hmax : nI m ≤ (if σ.1 13 < nI (gm_fu (gm_G1 np nt n σ.2) nt 0) then nI (gm_fu (gm_G1 np nt n σ.2) nt 0) else σ.1 13) ↔ nI m ≤ σ.1 13 ∨ m ≤ gm_fu (gm_G1 np nt n G) nt 0 := by
          rw [e2]
          rcases c4 with z | ⟨k, hk, z⟩
          · rw [z, if_pos (pz_mlt (by omega)), nI_leI (by omega) (by omega)]
            exact ⟨Or.inr, fun y => y.resolve_left (pz_mone (by omega))⟩
          · rw [z]
            have y := nI_ltI (a := k) (b := gm_fu (gm_G1 np nt n G) nt 0) (by omega) (by omega)
            by_cases w : nI k < nI (gm_fu (gm_G1 np nt n G) nt 0)
            · rw [if_pos w, nI_leI (by omega) (by omega), nI_leI (by omega) (by omega)]
              have := y.mp w
              omega
            · rw [if_neg w, nI_leI (by omega) (by omega)]
              have : ¬ k < gm_fu (gm_G1 np nt n G) nt 0 := fun z => w (y.mpr z)
              omega
        rw [hmax, c5 m hm]
        constructor
        · rintro (⟨i, w1, w2⟩ | w)
          · exact ⟨i, by omega, w2⟩
          · exact ⟨n, by omega, cm, w⟩
        · rintro ⟨i, w1, w2, w3⟩
          by_cases z : i = n
          · subst z; exact Or.inr w3
          · exact Or.inl ⟨i, by omega, w2, w3⟩
      by_cases cf : gm_fu (gm_G1 np nt n G) nt 0 = nt
      · have hokt := hok.mpr ⟨cm, by omega⟩
        have hbt : gm_bt np nt cz σ.1 (gm_G1 np nt n σ.2) (gm_dg np nt n (σ.2 9)) = true ↔ sx_sc (pz_wt (pz_F np nt ns fr nt (I, F)) 1 cw) (pz_dg np nt n) < (pz_B I F np nt ns (fun t => e t - b t) fr 1 cw nt n).1 := by
          rw [gm_bt, e2, hc1, hco, hs1]
          rcases c3 with ⟨z1, z2⟩ | ⟨ch, co, i, z1, z2, z3, z4, z5, z6, z7, z8, z9⟩
          · rw [z1, z2]
            simp [cf]
            omega
          · rw [z1, z4, z5, z6]
            have y1 := nI_ltI (a := chx) (b := ch) (by omega) (by omega)
            have y2 := nI_eq (a := chx) (b := ch) (by omega) (by omega)
            have y3 := nI_ltI (a := pz_s2 (pz_dg np nt n) np) (b := co) (by omega) (by omega)
            have y4 : ¬ (1 : Int32) = 0 := by decide
            simp only [cf, decide_true, Bool.true_and, Bool.or_eq_true, decide_eq_true_eq, Bool.and_eq_true, y1, y2, y3, y4, false_or]
            omega
        rw [pz_M, pz_B_s, if_pos hokt, sx_up]
        by_cases cb : gm_bt np nt cz σ.1 (gm_G1 np nt n σ.2) (gm_dg np nt n (σ.2 9)) = true
        · rw [if_pos cb, if_pos (hbt.mp cb)]
          refine ⟨fun j hj => ?_, fun a h1 h2 => ?_, Or.inr ⟨chx, pz_s2 (pz_dg np nt n) np, n, by show sx_sc _ _ = _; rw [hs1]; omega, hc3, by omega, rfl, ?_, ?_, rfl, rfl, fun j hj => ?_⟩, ?_, ?_⟩
          · show upd (upd (upd (upd σ.1 13 _) 10 1) 11 _) 12 _ j = _
            rw [upd, if_neg (by omega), upd, if_neg (by omega), upd, if_neg (by omega), upd, if_neg (by omega)]
            exact c1 j hj
          · show gp_uF (gp_uF σ.2 9 _) 10 _ a = _
            rw [gp_uF_ne h2, gp_uF_ne h1]; exact c2 a h1 h2
          · show gm_cc nt cz (gm_G1 np nt n σ.2) = _
            exact hc1
          · show gm_c (gm_dg np nt n (σ.2 9)) nt np = _
            exact hco
          · show (if j < nt then gm_dg np nt n (σ.2 9) j else _) = _
            rw [if_pos hj]; exact pz_dg_v h4 hj
          · exact hJ13
          · exact hJm
        · rw [if_neg cb, if_neg fun z => cb (hbt.mpr z)]
          refine ⟨fun j hj => ?_, fun a h1 h2 => ?_, c3, hJ13, hJm⟩
          · show upd σ.1 13 _ j = _
            rw [upd, if_neg (by omega)]; exact c1 j hj
          · show gp_uF σ.2 9 _ a = _
            rw [gp_uF_ne h1]; exact c2 a h1 h2
      · have hokf : ¬ pz_okm I F np nt ns (fun t => e t - b t) fr nt (pz_dg np nt n) = true := fun z => cf (by have := (hok.mp z).2; omega)
        rw [if_neg (by rw [gm_bt, e2]; simp [cf]), pz_M, pz_B_s, if_neg hokf]
        refine ⟨fun j hj => ?_, fun a h1 h2 => ?_, c3, hJ13, hJm⟩
        · show upd σ.1 13 _ j = _
          rw [upd, if_neg (by omega)]; exact c1 j hj
        · show gp_uF σ.2 9 _ a = _
          rw [gp_uF_ne h1]; exact c2 a h1 h2
    · have hokf : ¬ pz_okm I F np nt ns (fun t => e t - b t) fr nt (pz_dg np nt n) = true := fun z => cm (hok.mp z).1
      rw [if_neg cm, pz_M, pz_B_s, if_neg hokf]
      refine ⟨c1, fun a h1 h2 => ?_, c3, c4, fun m hm => ?_⟩
      · show gp_uF σ.2 9 _ a = _
        rw [gp_uF_ne h1]; exact c2 a h1 h2
      · rw [c5 m hm]
        constructor
        · rintro ⟨i, w1, w2⟩
          exact ⟨i, by omega, w2⟩
        · rintro ⟨i, w1, w2, w3⟩
          by_cases z : i = n
          · subst z; exact absurd w2 cm
          · exact ⟨i, by omega, w2, w3⟩
end PzM
