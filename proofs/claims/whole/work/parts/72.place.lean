/-! ===== the class's search is the search by itself ===== -/
def pz_v (x : Nat) : Int32 := if x = 4 then -1 else nI x
def pz_at (a : List Nat) (x : Nat) : Nat → Bool := fun j => decide (a.getD j 4 = x)
def pz_hd (a : List Nat) (x : Nat) : Int32 := pz_mk (pz_at a x) a.length
def pz_ct (a : List Nat) (x : Nat) : Nat := pz_cn (pz_at a x) a.length
def pz_q (len : Nat → Nat) (b : Nat → Bool) : Nat → Nat
  | 0 => 0
  | k + 1 => if b k then pz_q len b k + len k else pz_q len b k
def pz_qt (len : Nat → Nat) (a : List Nat) (x : Nat) : Nat := pz_q len (pz_at a x) a.length
theorem pz_gd1 {a : List Nat} {y j : Nat} (h : j < a.length) : (a ++ [y]).getD j 4 = a.getD j 4 := by
  simp [List.getD, List.getElem?_append_left h]
theorem pz_gd2 {a : List Nat} {y : Nat} : (a ++ [y]).getD a.length 4 = y := by
  simp [List.getD]
theorem pz_at1 {a : List Nat} {x y j : Nat} (h : j < a.length) : pz_at (a ++ [y]) x j = pz_at a x j := by
  rw [pz_at, pz_at, pz_gd1 h]
theorem pz_at2 {a : List Nat} {x y : Nat} : pz_at (a ++ [y]) x a.length = decide (y = x) := by
  rw [pz_at, pz_gd2]
theorem pz_hd_s {a : List Nat} {x y : Nat} : pz_hd (a ++ [y]) x = if y = x then pz_hd a x ||| (1 <<< (nI a.length &&& 31)) else pz_hd a x := by
  rw [pz_hd, List.length_append, List.length_singleton, pz_mk, pz_at2, pz_mk_c a.length fun i hi => pz_at1 hi]
  simp only [decide_eq_true_eq]
  rfl
theorem pz_cn_c {b c : Nat → Bool} : ∀ n, (∀ i, i < n → b i = c i) → pz_cn b n = pz_cn c n := by
  intro n
  induction n with
  | zero => intro _; rfl
  | succ n ih => intro h; rw [pz_cn, pz_cn, ih fun i hi => h i (by omega), h n (by omega)]
theorem pz_q_c {len : Nat → Nat} {b c : Nat → Bool} : ∀ n, (∀ i, i < n → b i = c i) → pz_q len b n = pz_q len c n := by
  intro n
  induction n with
  | zero => intro _; rfl
  | succ n ih => intro h; rw [pz_q, pz_q, ih fun i hi => h i (by omega), h n (by omega)]
theorem pz_ct_s {a : List Nat} {x y : Nat} : pz_ct (a ++ [y]) x = if y = x then pz_ct a x + 1 else pz_ct a x := by
  rw [pz_ct, List.length_append, List.length_singleton, pz_cn, pz_at2, pz_cn_c a.length fun i hi => pz_at1 hi]
  simp only [decide_eq_true_eq]
  rfl
theorem pz_qt_s {len : Nat → Nat} {a : List Nat} {x y : Nat} : pz_qt len (a ++ [y]) x = if y = x then pz_qt len a x + len a.length else pz_qt len a x := by
  rw [pz_qt, List.length_append, List.length_singleton, pz_q, pz_at2, pz_q_c a.length fun i hi => pz_at1 hi]
  simp only [decide_eq_true_eq]
  rfl
theorem pz_mul (a b : Nat) : nI a * nI b = nI (a * b) := (Int32.ofNat_mul a b).symm
theorem pz_sub (a b : Nat) : nI (a + b) - nI b = nI a := by rw [← nI_add, Int32.add_sub_cancel]
section Pz
variable (I : Nat → Int32) (F : Nat → Nat → Int32) (kw cw : Nat) (len : Nat → Nat)
def pz_may (a : List Nat) (p : Nat) : Bool := !decide (F 10 a.length &&& gp_bit (nI p) = 0) && decide (F 11 a.length &&& pz_hd a p = 0) && !decide (I 8 < nI (pz_qt len a p) + nI (len a.length))
def pz_non (a : List Nat) : Bool := !decide (F 10 a.length &&& gp_bit (-1) = 0)
def pz_wt (a : List Nat) (x : Nat) : Nat := kw * (if x = 4 then 100 else 2 * pz_ct a x + 1) + (if F 14 a.length = pz_v x then 0 else cw)
/-- the class's state, a chosen, B the best -/
def pz_R (np nt : Nat) (a : List Nat) (B : Nat × List Nat) (σ : gp_S) : Prop :=
  (∀ i, i ≠ 11 → σ.1 i = I i) ∧ σ.1 11 = nI B.1 ∧ (∀ k, k ≠ 8 → k ≠ 9 → k ≠ 12 → k ≠ 13 → σ.2 k = F k) ∧ (∀ p, p < np → σ.2 12 p = pz_hd a p ∧ σ.2 13 p = nI (pz_qt len a p)) ∧ (∀ j, j < a.length → σ.2 9 j = pz_v (a.getD j 4)) ∧ (B.1 < 1000000 → ∀ j, j < nt → σ.2 8 j = pz_v (B.2.getD j 4)) ∧ B.1 ≤ 1000000
variable {I F kw cw len}
theorem pz_wt_ge : ∀ a x, kw ≤ pz_wt F kw cw a x := by
  intro a x
  have h : kw * 1 ≤ kw * (if x = 4 then 100 else 2 * pz_ct a x + 1) := Nat.mul_le_mul_left _ (by split <;> omega)
  rw [pz_wt]
  omega
theorem pz_wt_le (hk : kw ≤ 1) (hc : cw ≤ 1000) {a : List Nat} {x : Nat} (ha : a.length ≤ 6) : pz_wt F kw cw a x ≤ 1100 := by
  have h0 : pz_ct a x ≤ 6 := Nat.le_trans (pz_cn_le _) ha
  have h : kw * (if x = 4 then 100 else 2 * pz_ct a x + 1) ≤ 1 * 100 := Nat.mul_le_mul hk (by split <;> omega)
  rw [pz_wt]
  have h2 : (if F 14 a.length = pz_v x then 0 else cw) ≤ 1000 := by split <;> omega
  omega
theorem pz_pl {np nt : Nat} (hnp : np ≤ 4) (hnt : nt ≤ 6) (h9 : I 9 = nI cw) (h10 : I 10 = nI kw) (hkw : kw ≤ 1) (hcw : cw ≤ 1000) (hlen : ∀ t, t < nt → F 6 t - F 5 t = nI (len t)) :
    ∀ (k : Nat) (a : List Nat) (sc : Nat) (B : Nat × List Nat) (σ : gp_S), a.length + k = nt → sc ≤ 1100 * a.length → pz_R I F len np nt a B σ → pz_R I F len np nt a (sx_go np (pz_may I F len) (pz_non F) (pz_wt F kw cw) kw k a sc B) (gp_pl np nt k (nI sc) σ) := by
  intro k
  induction k with
  | zero =>
    intro a sc B σ hk hsc hR
    obtain ⟨r1, r2, r3, r4, r5, r6, r7⟩ := hR
    have hkw0 : kw * 0 = 0 := rfl
    have e : nI sc + σ.1 10 * (nI nt - nI nt) = nI sc := by rw [Int32.sub_self, Int32.mul_zero, Int32.add_zero]
    rw [sx_go, gp_pl, e, r2]
    by_cases h : B.1 ≤ sc + kw * 0
    · rw [if_pos h, if_neg fun h1 => by have := (nI_ltI (by omega) (by omega)).mp h1; omega]
      exact ⟨r1, r2, r3, r4, r5, r6, r7⟩
    · rw [if_neg h, if_pos ((nI_ltI (by omega) (by omega)).mpr (by omega))]
      refine ⟨fun i hi => ?_, rfl, fun k h8 h9 h12 h13 => ?_, fun p hp => ?_, fun j hj => ?_, fun _ j hj => ?_, ?_⟩
      · show upd σ.1 11 _ i = _
        rw [upd, if_neg hi]; exact r1 i hi
      · exact (gp_uF_ne h8).trans (r3 k h8 h9 h12 h13)
      · exact r4 p hp
      · exact r5 j hj
      · show gp_uF σ.2 8 _ 8 j = _
        rw [gp_uF, if_pos rfl]
        show (if j < nt then _ else _) = _
        rw [if_pos hj]
        exact r5 j (by omega)
      · show sc ≤ 1000000
        omega
  | succ k ih =>
    intro a sc B σ hk hsc hR
    have hR0 := hR
    obtain ⟨r1, r2, r3, r4, r5, r6, r7⟩ := hR
    have ht : nt - (k + 1) = a.length := by omega
    have e : nI sc + σ.1 10 * (nI nt - nI (nt - (k + 1))) = nI (sc + kw * (k + 1)) := by
      rw [ht, r1 10 (by omega), h10, ← hk, Nat.add_comm a.length (k + 1), pz_sub, pz_mul, nI_add]
    have hkk : kw * (k + 1) ≤ 1 * 6 := Nat.mul_le_mul hkw (by omega)
    rw [sx_go, gp_pl, e, r2]
    by_cases h : B.1 ≤ sc + kw * (k + 1)
    · rw [if_pos h, if_neg fun h1 => by have := (nI_ltI (by omega) (by omega)).mp h1; omega]
      exact hR0
    · rw [if_neg h, if_pos ((nI_ltI (by omega) (by omega)).mpr (by omega)), ht]
      -- the persons
      have hpp : ∀ (p : Nat) (B : Nat × List Nat) (σ : gp_S), p < np → pz_R I F len np nt a B σ → pz_R I F len np nt a (sx_go np (pz_may I F len) (pz_non F) (pz_wt F kw cw) kw k (a ++ [p]) (sc + pz_wt F kw cw a p) B) (gp_pp (gp_pl np nt k) a.length p (nI sc) σ) := by
        intro p B σ hp hR
        obtain ⟨r1, r2, r3, r4, r5, r6, r7⟩ := hR
        have hw := pz_wt_le (F := F) (cw := cw) hkw hcw (a := a) (x := p) (by omega)
        have hsc2 : nI sc + gp_wt σ.1 (σ.2 14 a.length) (nI p) (2 * gp_pop (σ.2 12 p) + 1) = nI (sc + pz_wt F kw cw a p) := by
          rw [(r4 p hp).1, pz_hd, pz_pop _ (by omega), gp_wt, r1 10 (by omega), r1 9 (by omega), r3 14 (by omega) (by omega) (by omega) (by omega), h9, h10, pz_wt, if_neg (show ¬ p = 4 by omega), pz_v, if_neg (show ¬ p = 4 by omega), ← nI_add sc]
          have e2 : (2 : Int32) * nI (pz_cn (pz_at a p) a.length) + 1 = nI (2 * pz_ct a p + 1) := by
            rw [show (2 : Int32) = nI 2 from rfl, pz_mul, nI_1]; rfl
          rw [e2, pz_mul]
          by_cases h : F 14 a.length = nI p
          · rw [if_pos h, if_pos h]; rfl
          · rw [if_neg h, if_neg h, nI_add _ cw]
        have hl6 : σ.2 6 a.length - σ.2 5 a.length = nI (len a.length) := by
          rw [r3 6 (by omega) (by omega) (by omega) (by omega), r3 5 (by omega) (by omega) (by omega) (by omega)]; exact hlen _ (by omega)
        have h2 := ih (a ++ [p]) (sc + pz_wt F kw cw a p) B (σ.1, gp_uF (gp_uF (gp_uF σ.2 9 (upd (σ.2 9) a.length (nI p))) 12 (upd (σ.2 12) p (σ.2 12 p ||| (1 <<< (nI a.length &&& 31))))) 13 (upd (σ.2 13) p (σ.2 13 p + (σ.2 6 a.length - σ.2 5 a.length)))) (by simp; omega) (by simp; omega) (by
          refine ⟨r1, r2, fun k h8 h9 h12 h13 => ?_, fun q hq => ⟨?_, ?_⟩, fun j hj => ?_, r6, r7⟩
          · exact (gp_uF_ne h13).trans ((gp_uF_ne h12).trans ((gp_uF_ne h9).trans (r3 k h8 h9 h12 h13)))
          · show upd (σ.2 12) p _ q = _
            rw [upd, pz_hd_s]
            by_cases e : q = p
            · subst e; rw [if_pos rfl, if_pos rfl, (r4 q hq).1]
            · rw [if_neg e, if_neg (Ne.symm e), (r4 q hq).1]
          · show upd (σ.2 13) p _ q = _
            rw [upd, pz_qt_s, hl6]
            by_cases e : q = p
            · subst e; rw [if_pos rfl, if_pos rfl, (r4 q hq).2, nI_add]
            · rw [if_neg e, if_neg (Ne.symm e), (r4 q hq).2]
          · show upd (σ.2 9) a.length (nI p) j = _
            rw [upd]
            by_cases e : j = a.length
            · subst e; rw [if_pos rfl, pz_gd2, pz_v, if_neg (show ¬ p = 4 by omega)]
            · have hj : j < a.length := by simp at hj; omega
              rw [if_neg e, pz_gd1 hj]; exact r5 j hj)
        rw [← hsc2] at h2
        revert h2
        rw [gp_pp]
        generalize gp_pl np nt k (nI sc + gp_wt σ.1 (σ.2 14 a.length) (nI p) (2 * gp_pop (σ.2 12 p) + 1)) _ = τ
        intro h2
        obtain ⟨s1, s2, s3, s4, s5, s6, s7⟩ := h2
        refine ⟨s1, s2, fun k h8 h9 h12 h13 => ?_, fun q hq => ⟨?_, ?_⟩, fun j hj => ?_, s6, s7⟩
        · exact (gp_uF_ne h13).trans ((gp_uF_ne h12).trans (s3 k h8 h9 h12 h13))
        · show upd (τ.2 12) p _ q = _
          rw [upd]
          have := (s4 q hq).1
          rw [pz_hd_s] at this
          by_cases e : q = p
          · subst e
            rw [if_pos rfl] at this
            rw [if_pos rfl, this, pz_hd, pz_off (by omega)]
          · rw [if_neg (Ne.symm e)] at this
            rw [if_neg e, this]
        · show upd (τ.2 13) p _ q = _
          rw [upd]
          have h6 : τ.2 6 a.length - τ.2 5 a.length = nI (len a.length) := by
            rw [s3 6 (by omega) (by omega) (by omega) (by omega), s3 5 (by omega) (by omega) (by omega) (by omega)]; exact hlen _ (by omega)
          have := (s4 q hq).2
          rw [pz_qt_s] at this
          by_cases e : q = p
          · subst e
            rw [if_pos rfl] at this
            rw [if_pos rfl, h6, this, pz_sub]
          · rw [if_neg (Ne.symm e)] at this
            rw [if_neg e, this]
        · have := s5 j (by simp; omega)
          rw [pz_gd1 hj] at this
          exact this
      have hlp : ∀ p, p ≤ np → pz_R I F len np nt a ((List.range p).foldl (fun B p => if pz_may I F len a p then sx_go np (pz_may I F len) (pz_non F) (pz_wt F kw cw) kw k (a ++ [p]) (sc + pz_wt F kw cw a p) B else B) B) (gp_lp (gp_pl np nt k) a.length (nI sc) σ p) := by
        intro p
        induction p with
        | zero => intro _; exact hR0
        | succ p ihp =>
          intro hp
          have hI := ihp (by omega)
          rw [List.range_succ, List.foldl_append, List.foldl_cons, List.foldl_nil, gp_lp]
          have hm : gp_may (gp_lp (gp_pl np nt k) a.length (nI sc) σ p).1 (gp_lp (gp_pl np nt k) a.length (nI sc) σ p).2 p a.length = pz_may I F len a p := by
            obtain ⟨s1, s2, s3, s4, s5, s6, s7⟩ := hI
            rw [gp_may, pz_may, s1 8 (by omega), s3 10 (by omega) (by omega) (by omega) (by omega), s3 11 (by omega) (by omega) (by omega) (by omega), s3 6 (by omega) (by omega) (by omega) (by omega), s3 5 (by omega) (by omega) (by omega) (by omega), (s4 p (by omega)).1, (s4 p (by omega)).2, hlen _ (by omega)]
          rw [hm]
          by_cases hb : pz_may I F len a p = true
          · rw [if_pos hb, if_pos hb]
            exact hpp p _ _ (by omega) hI
          · rw [if_neg hb, if_neg hb]
            exact hI
      have hE := hlp np (Nat.le_refl _)
      rw [gp_st]
      simp only []
      revert hE
      generalize gp_lp (gp_pl np nt k) a.length (nI sc) σ np = τ
      generalize (List.range np).foldl (fun B p => if pz_may I F len a p then sx_go np (pz_may I F len) (pz_non F) (pz_wt F kw cw) kw k (a ++ [p]) (sc + pz_wt F kw cw a p) B else B) B = B1
      intro hE
      have hE0 := hE
      obtain ⟨s1, s2, s3, s4, s5, s6, s7⟩ := hE
      have hw := pz_wt_le (F := F) (cw := cw) hkw hcw (a := a) (x := 4) (by omega)
      rw [s3 10 (by omega) (by omega) (by omega) (by omega)]
      by_cases hn : F 10 a.length &&& gp_bit (-1) = 0
      · rw [if_pos hn, if_neg (by simp [pz_non, hn])]
        exact hE0
      · rw [if_neg hn, if_pos (by simp [pz_non, hn])]
        have hsc2 : nI sc + gp_wt τ.1 (τ.2 14 a.length) (-1) 100 = nI (sc + pz_wt F kw cw a 4) := by
          rw [gp_wt, s1 10 (by omega), s1 9 (by omega), s3 14 (by omega) (by omega) (by omega) (by omega), h9, h10, pz_wt, if_pos rfl, pz_v, if_pos rfl, ← nI_add sc, show (100 : Int32) = nI 100 from rfl, pz_mul]
          by_cases h : F 14 a.length = -1
          · rw [if_pos h, if_pos h]; rfl
          · rw [if_neg h, if_neg h, nI_add _ cw]
        rw [hsc2]
        have h2 := ih (a ++ [4]) (sc + pz_wt F kw cw a 4) B1 (τ.1, gp_uF τ.2 9 (upd (τ.2 9) a.length (-1))) (by simp; omega) (by simp; omega) (by
          refine ⟨s1, s2, fun k h8 h9 h12 h13 => ?_, fun q hq => ⟨?_, ?_⟩, fun j hj => ?_, s6, s7⟩
          · exact (gp_uF_ne h9).trans (s3 k h8 h9 h12 h13)
          · show τ.2 12 q = _
            rw [pz_hd_s, if_neg (by omega), (s4 q hq).1]
          · show τ.2 13 q = _
            rw [pz_qt_s, if_neg (by omega), (s4 q hq).2]
          · show upd (τ.2 9) a.length (-1) j = _
            rw [upd]
            by_cases e : j = a.length
            · subst e; rw [if_pos rfl, pz_gd2]; rfl
            · have hj : j < a.length := by simp at hj; omega
              rw [if_neg e, pz_gd1 hj]; exact s5 j hj)
        obtain ⟨u1, u2, u3, u4, u5, u6, u7⟩ := h2
        refine ⟨u1, u2, u3, fun q hq => ⟨?_, ?_⟩, fun j hj => ?_, u6, u7⟩
        · have := (u4 q hq).1
          rw [pz_hd_s, if_neg (by omega)] at this
          exact this
        · have := (u4 q hq).2
          rw [pz_qt_s, if_neg (by omega)] at this
          exact this
        · have := u5 j (by simp; omega)
          rw [pz_gd1 hj] at this
          exact this
end Pz
