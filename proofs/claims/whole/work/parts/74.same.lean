/-! ===== the same plans are allowed ===== -/
/-- what class and reference know of the day, the same below the bounds; b, e: the hours of the tasks -/
def pz_T (I : Nat → Int32) (F : Nat → Nat → Int32) (J : Nat → Int32) (G : Nat → Nat → Int32) (np nt ns : Nat) (b e : Nat → Nat) (lim : Nat) : Prop :=
  (np ≤ 4) ∧ (nt ≤ 6) ∧ (∀ p, p < np → F 0 p = G 0 p) ∧ (∀ s, s < ns → F 1 s = G 1 s ∧ F 2 s = G 2 s ∧ F 3 s = G 3 s) ∧ (∀ t, t < nt → F 4 t = G 4 t ∧ F 5 t = G 5 t ∧ F 6 t = G 6 t ∧ F 7 t = G 7 t) ∧ (∀ t, t < nt → F 14 t = G 8 t) ∧ (∀ t, t < nt → G 5 t = nI (b t) ∧ G 6 t = nI (e t) ∧ b t < e t ∧ e t ≤ 96) ∧ (I 7 = J 5) ∧ (I 8 = J 6) ∧ (J 6 = nI lim ∧ lim ≤ 96)
theorem pz_T.np4 {I : Nat → Int32} {F : Nat → Nat → Int32} {J : Nat → Int32} {G : Nat → Nat → Int32} {np nt ns : Nat} {b e : Nat → Nat} {lim : Nat} (h : pz_T I F J G np nt ns b e lim) : np ≤ 4 := h.1
theorem pz_T.nt6 {I : Nat → Int32} {F : Nat → Nat → Int32} {J : Nat → Int32} {G : Nat → Nat → Int32} {np nt ns : Nat} {b e : Nat → Nat} {lim : Nat} (h : pz_T I F J G np nt ns b e lim) : nt ≤ 6 := h.2.1
theorem pz_T.sk {I : Nat → Int32} {F : Nat → Nat → Int32} {J : Nat → Int32} {G : Nat → Nat → Int32} {np nt ns : Nat} {b e : Nat → Nat} {lim : Nat} (h : pz_T I F J G np nt ns b e lim) : ∀ p, p < np → F 0 p = G 0 p := h.2.2.1
theorem pz_T.so {I : Nat → Int32} {F : Nat → Nat → Int32} {J : Nat → Int32} {G : Nat → Nat → Int32} {np nt ns : Nat} {b e : Nat → Nat} {lim : Nat} (h : pz_T I F J G np nt ns b e lim) : ∀ s, s < ns → F 1 s = G 1 s ∧ F 2 s = G 2 s ∧ F 3 s = G 3 s := h.2.2.2.1
theorem pz_T.tk {I : Nat → Int32} {F : Nat → Nat → Int32} {J : Nat → Int32} {G : Nat → Nat → Int32} {np nt ns : Nat} {b e : Nat → Nat} {lim : Nat} (h : pz_T I F J G np nt ns b e lim) : ∀ t, t < nt → F 4 t = G 4 t ∧ F 5 t = G 5 t ∧ F 6 t = G 6 t ∧ F 7 t = G 7 t := h.2.2.2.2.1
theorem pz_T.pl {I : Nat → Int32} {F : Nat → Nat → Int32} {J : Nat → Int32} {G : Nat → Nat → Int32} {np nt ns : Nat} {b e : Nat → Nat} {lim : Nat} (h : pz_T I F J G np nt ns b e lim) : ∀ t, t < nt → F 14 t = G 8 t := h.2.2.2.2.2.1
theorem pz_T.hr {I : Nat → Int32} {F : Nat → Nat → Int32} {J : Nat → Int32} {G : Nat → Nat → Int32} {np nt ns : Nat} {b e : Nat → Nat} {lim : Nat} (h : pz_T I F J G np nt ns b e lim) : ∀ t, t < nt → G 5 t = nI (b t) ∧ G 6 t = nI (e t) ∧ b t < e t ∧ e t ≤ 96 := h.2.2.2.2.2.2.1
theorem pz_T.rs {I : Nat → Int32} {F : Nat → Nat → Int32} {J : Nat → Int32} {G : Nat → Nat → Int32} {np nt ns : Nat} {b e : Nat → Nat} {lim : Nat} (h : pz_T I F J G np nt ns b e lim) : I 7 = J 5 := h.2.2.2.2.2.2.2.1
theorem pz_T.li {I : Nat → Int32} {F : Nat → Nat → Int32} {J : Nat → Int32} {G : Nat → Nat → Int32} {np nt ns : Nat} {b e : Nat → Nat} {lim : Nat} (h : pz_T I F J G np nt ns b e lim) : I 8 = J 6 := h.2.2.2.2.2.2.2.2.1
theorem pz_T.ln {I : Nat → Int32} {F : Nat → Nat → Int32} {J : Nat → Int32} {G : Nat → Nat → Int32} {np nt ns : Nat} {b e : Nat → Nat} {lim : Nat} (h : pz_T I F J G np nt ns b e lim) : J 6 = nI lim ∧ lim ≤ 96 := h.2.2.2.2.2.2.2.2.2
theorem pz_b1 (x : Int32) : decide (x &&& 1 = 1) = !decide (x &&& 1 = 0) := by
  have h1 : (1 : Int32) = 1 <<< (nI 0 &&& 31) := by decide
  have h0 : x &&& 1 = 0 ∨ x &&& 1 = 1 := by
    cases h : pz_g x 0
    · left; rw [h1]; exact (pz_has (by omega)).mpr h
    · right
      refine pz_ext fun i hi => ?_
      rw [pz_and, h1, pz_one (by omega)]
      by_cases e : i = 0
      · subst e; simp [h]
      · simp [e]
  rcases h0 with e | e <;> rw [e] <;> decide
section PzT
variable {I : Nat → Int32} {F : Nat → Nat → Int32} {J : Nat → Int32} {G : Nat → Nat → Int32} {np nt ns : Nat} {b e : Nat → Nat} {lim : Nat}
theorem pz_T.ofN (h : pz_T I F J G np nt ns b e lim) {x : Int32} {t : Nat} (ht : t < nt) : ∀ k, k ≤ ns → gp_ofN F x t k = gp_ofN G x t k := by
  intro k
  induction k with
  | zero => intro _; rfl
  | succ k ih =>
    intro hk
    obtain ⟨h1, h2, h3⟩ := h.so k (by omega)
    obtain ⟨_, h5, h6, _⟩ := h.tk t ht
    rw [gp_ofN, gp_ofN, ih (by omega), gp_of1, gp_of1, h1, h2, h3, h5, h6]
theorem pz_T.suit (h : pz_T I F J G np nt ns b e lim) {p t : Nat} (hp : p < np) (ht : t < nt) : gp_suit F ns p t = gm_su G p t ns := by
  rw [gp_suit, gm_su, h.ofN ht ns (Nat.le_refl _), h.sk p hp, (h.tk t ht).1, pz_b1]
theorem pz_T.near (h : pz_T I F J G np nt ns b e lim) {t u : Nat} (ht : t < nt) (hu : u < nt) : gp_near I F u t = gm_near (J 5) G t u := by
  rw [gp_near, gm_near, h.rs, (h.tk t ht).2.1, (h.tk t ht).2.2.1, (h.tk u hu).2.1, (h.tk u hu).2.2.1]
theorem pz_T.len (h : pz_T I F J G np nt ns b e lim) {t : Nat} (ht : t < nt) : F 6 t - F 5 t = nI (e t - b t) := by
  obtain ⟨h1, h2, h3, h4⟩ := h.hr t ht
  rw [(h.tk t ht).2.1, (h.tk t ht).2.2.1, h1, h2]
  have e1 : e t = (e t - b t) + b t := by omega
  generalize hg : e t - b t = d
  rw [hg] at e1
  rw [e1, pz_sub]
theorem pz_ch_p {fr : Int32} {mb t p : Nat} (h4 : np ≤ 4) (hp : p < np) (hv : F 14 t = -1 ∨ ∃ q, q < np ∧ F 14 t = nI q) : (!decide (gp_ch F ns np fr mb t &&& gp_bit (nI p) = 0)) = if fr ≤ F 5 t then gp_suit F ns p t else decide (nI p = F 14 t) := by
  have hg : pz_g (gp_c0 F ns np fr t) p = if fr ≤ F 5 t then gp_suit F ns p t else decide (nI p = F 14 t) := by
    rw [gp_c0]
    by_cases h : fr ≤ F 5 t
    · rw [if_pos h, if_pos h, pz_or, pz_bs np h4, pz_mk_g np (by omega), pz_bit4, pz_one (by omega)]
      simp [hp, show ¬ p = 4 by omega]
    · rw [if_neg h, if_neg h]
      rcases hv with e | ⟨q, hq, e⟩
      · rw [e, pz_bit4, pz_one (by omega)]
        have h1 : ¬ p = 4 := by omega
        have h2 : ¬ nI p = -1 := fun e => gp_nn (by omega) e
        simp [h1, h2]
      · rw [e, pz_bit (by omega), pz_one (by omega)]
        simp [nI_eq (show p < 2 ^ 31 by omega) (show q < 2 ^ 31 by omega)]
  have h0 : ∀ x : Int32, (!decide (x &&& gp_bit (nI p) = 0)) = pz_g x p := by
    intro x
    rw [pz_bit (by omega)]
    have := pz_has (x := x) (k := p) (by omega)
    cases h : pz_g x p
    · rw [h] at this; simp [this.mpr rfl]
    · rw [h] at this; simp at this; simp [this]
  rw [h0, ← hg, gp_ch]
  split
  · rfl
  · split
    · rw [pz_and, pz_not _ (by omega), pz_bit4, pz_one (by omega)]
      simp [show ¬ p = 4 by omega]
    · rfl
theorem pz_ch_n {fr : Int32} {mb t : Nat} (h4 : np ≤ 4) (hv : F 14 t = -1 ∨ ∃ q, q < np ∧ F 14 t = nI q) : (!decide (gp_ch F ns np fr mb t &&& gp_bit (-1) = 0)) = ((decide (F 7 t = 0) || !decide (t < mb)) && if fr ≤ F 5 t then true else decide (-1 = F 14 t)) := by
  have hg : pz_g (gp_c0 F ns np fr t) 4 = if fr ≤ F 5 t then true else decide (-1 = F 14 t) := by
    rw [gp_c0]
    by_cases h : fr ≤ F 5 t
    · rw [if_pos h, if_pos h, pz_or, pz_bit4, pz_one (by omega)]
      simp
    · rw [if_neg h, if_neg h]
      rcases hv with e | ⟨q, hq, e⟩
      · rw [e, pz_bit4, pz_one (by omega)]
        rfl
      · rw [e, pz_bit (by omega), pz_one (by omega)]
        have h2 : ¬ -1 = nI q := fun e => gp_nn (by omega) e.symm
        simp [h2, show ¬ 4 = q by omega]
  have h0 : ∀ x : Int32, (!decide (x &&& gp_bit (-1) = 0)) = pz_g x 4 := by
    intro x
    rw [pz_bit4]
    have := pz_has (x := x) (k := 4) (by omega)
    cases h : pz_g x 4
    · rw [h] at this; simp [this.mpr rfl]
    · rw [h] at this; simp at this; simp [this]
  rw [h0, ← hg, gp_ch]
  by_cases h : F 7 t = 0
  · rw [if_pos h]; simp [h]
  · rw [if_neg h]
    by_cases h2 : t < mb
    · rw [if_pos h2, pz_and, pz_not _ (by omega), pz_bit4, pz_one (by omega)]
      simp [h, h2]
    · rw [if_neg h2]; simp [h2]
/-- the class's arrays as the search begins -/
def pz_F (np nt ns : Nat) (fr : Int32) (mb : Nat) (σ : gp_S) : Nat → Nat → Int32 := gp_uF (gp_uF (gp_uF (gp_uF σ.2 10 (fun j => if j < nt then gp_ch σ.2 ns np fr mb j else σ.2 10 j)) 11 (fun j => if j < nt then gp_bn σ.1 σ.2 j nt else σ.2 11 j)) 12 (fun j => if j < 4 then 0 else σ.2 12 j)) 13 (fun j => if j < 4 then 0 else σ.2 13 j)
theorem pz_F_o {fr : Int32} {mb k : Nat} {σ : gp_S} (h1 : k ≠ 10) (h2 : k ≠ 11) (h3 : k ≠ 12) (h4 : k ≠ 13) : pz_F np nt ns fr mb σ k = σ.2 k := by
  simp [pz_F, gp_uF, h1, h2, h3, h4]
def pz_okm (I : Nat → Int32) (F : Nat → Nat → Int32) (np nt ns : Nat) (len : Nat → Nat) (fr : Int32) (mb : Nat) (x : List Nat) : Bool := pz_ok (pz_may I (pz_F np nt ns fr mb (I, F)) len) (pz_non (pz_F np nt ns fr mb (I, F))) [] x
/-- what the reference asks of a plan, k places of it; G 9 is the plan -/
def pz_V (J : Nat → Int32) (G : Nat → Nat → Int32) (np ns mb k : Nat) : Prop := gm_at G ns k = true ∧ (∀ t, t < k → t < mb → ¬ G 7 t = 0 → ¬ G 9 t = -1) ∧ ∀ p, p < np → ¬ J 6 < gm_q G (nI p) k ∧ gm_h2 (J 5) G (nI p) k = false
theorem pz_take {x : List Nat} {k : Nat} (hk : k < x.length) : x.take (k + 1) = x.take k ++ [x.getD k 4] := by
  rw [List.take_succ, List.getD]
  rw [List.getElem?_eq_getElem hk]
  rfl
theorem pz_tg {x : List Nat} {k j : Nat} (hj : j < k) : (x.take k).getD j 4 = x.getD j 4 := by
  simp [List.getD, List.getElem?_take, hj]
theorem pz_gq (h : pz_T I F J G np nt ns b e lim) {x : List Nat} (hx : x.length = nt) (h9 : ∀ j, j < nt → G 9 j = pz_v (x.getD j 4)) (hr : ∀ j, j < nt → x.getD j 4 < np ∨ x.getD j 4 = 4) {p : Nat} (hp : p < np) : ∀ k, k ≤ nt → gm_q G (nI p) k = nI (pz_qt (fun t => e t - b t) (x.take k) p) ∧ pz_qt (fun t => e t - b t) (x.take k) p ≤ 96 * k := by
  have h4 := h.np4
  intro k
  induction k with
  | zero => intro _; exact ⟨rfl, Nat.le_refl _⟩
  | succ k ih =>
    intro hk
    obtain ⟨i1, i2⟩ := ih (by omega)
    obtain ⟨g1, g2, g3, g5⟩ := h.hr k (by omega)
    have hl : (x.take k).length = k := by rw [List.length_take]; omega
    rw [gm_q, pz_take (by omega), pz_qt_s, hl, i1, h9 k (by omega)]
    have hi : (pz_v (x.getD k 4) = nI p) ↔ x.getD k 4 = p := by
      have := pz_v_inj (x := x.getD k 4) (y := p) (by have := hr k (by omega); omega) (by omega)
      rw [← this]
      rw [show pz_v p = nI p by rw [pz_v, if_neg (by omega)]]
    by_cases c : x.getD k 4 = p
    · rw [if_pos (hi.mpr c), if_pos c, g1, g2]
      refine ⟨?_, by omega⟩
      have : nI (pz_qt (fun t => e t - b t) (x.take k) p) + nI (e k) = nI (pz_qt (fun t => e t - b t) (x.take k) p + (e k - b k) + b k) := by
        rw [nI_add]; congr 1; omega
      rw [this, pz_sub]
    · rw [if_neg fun z => c (hi.mp z), if_neg c]
      exact ⟨rfl, by omega⟩
theorem pz_h1 {r x : Int32} {a : Nat} : ∀ k, gm_h1 r G x a k = true ↔ ∃ u, u < k ∧ G 9 a = x ∧ G 9 u = x ∧ gm_near r G a u = true := by
  intro k
  induction k with
  | zero => simp [gm_h1]
  | succ k ih =>
    rw [gm_h1, Bool.or_eq_true, ih]
    constructor
    · rintro (⟨u, h1, h2⟩ | h)
      · exact ⟨u, by omega, h2⟩
      · refine ⟨k, by omega, ?_⟩
        simpa [and_assoc] using h
    · rintro ⟨u, h1, h2, h3, h4⟩
      by_cases e : u = k
      · subst e; right; simp [h2, h3, h4]
      · left; exact ⟨u, by omega, h2, h3, h4⟩
theorem pz_okm_k (h : pz_T I F J G np nt ns b e lim) {fr : Int32} {mb : Nat} (hk11 : ∀ t, t < nt → (G 11 t = 0 ↔ fr ≤ F 5 t)) (hv : ∀ t, t < nt → F 14 t = -1 ∨ ∃ q, q < np ∧ F 14 t = nI q) {x : List Nat} (hx : x.length = nt) (h9 : ∀ j, j < nt → G 9 j = pz_v (x.getD j 4)) (hr : ∀ j, j < nt → x.getD j 4 < np ∨ x.getD j 4 = 4) :
    ∀ k, k ≤ nt → (pz_okm I F np nt ns (fun t => e t - b t) fr mb (x.take k) = true ↔ pz_V J G np ns mb k) := by
  have h4 := h.np4
  have h6 := h.nt6
  intro k
  induction k with
  | zero =>
    intro _
    refine ⟨fun _ => ⟨rfl, fun t h => by omega, fun p _ => ⟨?_, rfl⟩⟩, fun _ => rfl⟩
    rw [gm_q, h.ln.1]
    exact nI_pos (by have := h.ln.2; omega)
  | succ k ih =>
    intro hk
    have hI := ih (by omega)
    have hl : (x.take k).length = k := by rw [List.length_take]; omega
    rw [pz_okm, pz_take (by omega), pz_ok_s, Bool.and_eq_true, List.nil_append]
    rw [pz_okm] at hI
    rw [hI]
    have hF10 : pz_F np nt ns fr mb (I, F) 10 k = gp_ch F ns np fr mb k := by
      show (if k < nt then _ else _) = _
      rw [if_pos (by omega)]
    have hF11 : pz_F np nt ns fr mb (I, F) 11 k = gp_bn I F k nt := by
      show (if k < nt then _ else _) = _
      rw [if_pos (by omega)]
    have hv9 := h9 k (by omega)
    have hkk := hk11 k (by omega)
    obtain ⟨t4, t5, t6, t7⟩ := h.tk k (by omega)
    have tp := h.pl k (by omega)
    have hva := hv k (by omega)
    by_cases c : x.getD k 4 = 4
    · rw [c] at hv9
      have hv9 : G 9 k = -1 := hv9
      have hne : ∀ p, p < np → ¬ G 9 k = nI p := fun p hp z => gp_nn (p := p) (by omega) (z.symm.trans hv9)
      rw [c, pz_st, if_pos rfl, pz_non, hl, hF10, pz_ch_n h4 hva]
      have hok : gm_ok G ns k = if fr ≤ F 5 k then true else decide (-1 = F 14 k) := by
        rw [gm_ok, hv9, tp]
        by_cases z : fr ≤ F 5 k
        · rw [if_pos z, if_pos (hkk.mpr z)]; rfl
        · rw [if_neg z, if_neg fun y => z (hkk.mp y)]
      rw [← hok, t7]
      constructor
      · rintro ⟨⟨v1, v2, v3⟩, w⟩
        rw [Bool.and_eq_true] at w
        refine ⟨by rw [gm_at, v1, w.2]; rfl, fun t ht hm h7 => ?_, fun p hp => ?_⟩
        · by_cases z : t = k
          · subst z
            have w1 := w.1
            simp [h7] at w1
            omega
          · exact v2 t (by omega) hm h7
        · rw [gm_q, if_neg (hne p hp), gm_h2, (v3 p hp).2, Bool.false_or]
          refine ⟨(v3 p hp).1, ?_⟩
          cases z : gm_h1 (J 5) G (nI p) k k
          · rfl
          · obtain ⟨u, -, w, -⟩ := (pz_h1 k).mp z
            exact absurd w (hne p hp)
      · rintro ⟨v1, v2, v3⟩
        rw [gm_at, Bool.and_eq_true] at v1
        refine ⟨⟨v1.1, fun t ht => v2 t (by omega), fun p hp => ?_⟩, ?_⟩
        · have := v3 p hp
          rw [gm_q, if_neg (hne p hp), gm_h2, Bool.or_eq_false_iff] at this
          exact ⟨this.1, this.2.1⟩
        · rw [v1.2, Bool.and_true]
          by_cases z : G 7 k = 0
          · simp [z]
          · by_cases y : k < mb
            · exact absurd hv9 (v2 k (by omega) y z)
            · simp [y]
    · have hlt : x.getD k 4 < np := by have := hr k (by omega); omega
      generalize hpe : x.getD k 4 = p
      rw [hpe] at hlt c hv9
      have hv9 : G 9 k = nI p := by rw [hv9, pz_v, if_neg c]
      have hm1 : ¬ G 9 k = -1 := fun z => gp_nn (p := p) (by omega) (hv9.symm.trans z)
      rw [pz_st, if_neg c, pz_may, hl, hF10, hF11, pz_ch_p h4 hlt hva, Bool.and_eq_true, Bool.and_eq_true]
      have hok : gm_ok G ns k = if fr ≤ F 5 k then gp_suit F ns p k else decide (nI p = F 14 k) := by
        rw [gm_ok, hv9, tp]
        by_cases z : fr ≤ F 5 k
        · rw [if_pos z, if_pos (hkk.mpr z), nI_clamp (by omega), h.suit hlt (by omega)]
          have : ¬ nI p = -1 := fun z => gp_nn (p := p) (by omega) z
          simp [this]
        · rw [if_neg z, if_neg fun y => z (hkk.mp y)]
      rw [← hok]
      obtain ⟨q1, q2⟩ := pz_gq h hx h9 hr hlt k (by omega)
      obtain ⟨q3, q4⟩ := pz_gq h hx h9 hr hlt (k + 1) hk
      have hq5 : pz_qt (fun t => e t - b t) (x.take (k + 1)) p = pz_qt (fun t => e t - b t) (x.take k) p + (e k - b k) := by
        rw [pz_take (by omega), pz_qt_s, hl, hpe, if_pos rfl]
      have hlim := h.ln
      have hnr : (decide (gp_bn I F k nt &&& pz_hd (x.take k) p = 0) = true) ↔ gm_h1 (J 5) G (nI p) k k = false := by
        rw [decide_eq_true_eq, pz_and0, ← Bool.not_eq_true, pz_h1]
        constructor
        · rintro w ⟨u, hu, -, w2, w3⟩
          refine w u (by omega) ⟨?_, ?_⟩
          · rw [pz_bn, pz_mk_g nt (by omega), h.near (by omega) (by omega), w3]
            simp; omega
          · rw [pz_hd, hl, pz_mk_g k (by omega), pz_at, pz_tg hu]
            have h10 := h9 u (by omega)
            rw [w2, show nI p = pz_v p by rw [pz_v, if_neg c]] at h10
            have h11 := (pz_v_inj (by omega) (by have := hr u (by omega); omega)).mp h10
            simp [hu]; exact h11.symm
        · rintro w u hu ⟨w1, w2⟩
          rw [pz_hd, hl, pz_mk_g k (by omega), Bool.and_eq_true, decide_eq_true_eq] at w2
          obtain ⟨hu2, w2⟩ := w2
          rw [pz_at, pz_tg hu2, decide_eq_true_eq] at w2
          rw [pz_bn, pz_mk_g nt (by omega), h.near (by omega) (by omega), Bool.and_eq_true, Bool.and_eq_true] at w1
          exact w ⟨u, hu2, hv9, by rw [h9 u (by omega), w2, pz_v, if_neg c], w1.2.2⟩
      rw [hnr]
      have hlm : ((!decide (I 8 < nI (pz_qt (fun t => e t - b t) (x.take k) p) + nI (e k - b k))) = true) ↔ ¬ J 6 < gm_q G (nI p) (k + 1) := by
        rw [q3, hq5, nI_add, h.li]; simp
      rw [hlm]
      constructor
      · rintro ⟨⟨v1, v2, v3⟩, ⟨w1, w2⟩, w3⟩
        refine ⟨by rw [gm_at, v1, w1]; rfl, fun t ht hm h7 => ?_, fun q hq => ?_⟩
        · by_cases z : t = k
          · subst z; exact hm1
          · exact v2 t (by omega) hm h7
        · rw [gm_h2, (v3 q hq).2, Bool.false_or]
          by_cases z : q = p
          · subst z; exact ⟨w3, w2⟩
          · have hne : ¬ G 9 k = nI q := fun y => z ((nI_eq (by omega) (by omega)).mp (y.symm.trans hv9))
            rw [gm_q, if_neg hne]
            refine ⟨(v3 q hq).1, ?_⟩
            cases y : gm_h1 (J 5) G (nI q) k k
            · rfl
            · obtain ⟨u, -, w, -⟩ := (pz_h1 k).mp y
              exact absurd w hne
      · rintro ⟨v1, v2, v3⟩
        rw [gm_at, Bool.and_eq_true] at v1
        have hp3 := v3 p hlt
        rw [gm_h2, Bool.or_eq_false_iff] at hp3
        refine ⟨⟨v1.1, fun t ht => v2 t (by omega), fun q hq => ?_⟩, ⟨v1.2, hp3.2.2⟩, hp3.1⟩
        have := v3 q hq
        rw [gm_h2, Bool.or_eq_false_iff] at this
        refine ⟨?_, this.2.1⟩
        by_cases z : q = p
        · subst z
          have hp4 := hp3.1
          rw [q3, hq5, hlim.1, nI_ltI (by omega) (by omega)] at hp4
          rw [q1, hlim.1, nI_ltI (by omega) (by omega)]
          omega
        · have hne : ¬ G 9 k = nI q := fun y => z ((nI_eq (by omega) (by omega)).mp (y.symm.trans hv9))
          rw [gm_q, if_neg hne] at this
          exact this.1
end PzT
