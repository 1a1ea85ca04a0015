/-! ===== the reference's search against the class's ===== -/
/-- what is weighed -/
def pz_s2 (a : List Nat) : Nat → Nat
  | 0 => 100 * pz_ct a 4
  | k + 1 => pz_s2 a k + pz_ct a k * pz_ct a k
theorem pz_s2_s {a : List Nat} {y : Nat} : ∀ k, k ≤ 4 → pz_s2 (a ++ [y]) k = pz_s2 a k + (if y = 4 then 100 else if y < k then 2 * pz_ct a y + 1 else 0) := by
  intro k
  induction k with
  | zero =>
    intro _
    rw [pz_s2, pz_s2, pz_ct_s]
    by_cases h : y = 4
    · rw [if_pos h, if_pos h]; omega
    · rw [if_neg h, if_neg h]; rfl
  | succ k ih =>
    intro hk
    rw [pz_s2, pz_s2, ih (by omega), pz_ct_s]
    by_cases h : y = k
    · subst h
      rw [if_pos rfl, if_neg (by omega), if_neg (by omega), if_neg (by omega), if_pos (by omega)]
      rw [Nat.add_mul, Nat.mul_add]
      omega
    · rw [if_neg h]
      by_cases h4 : y = 4
      · rw [if_pos h4, if_pos h4]; omega
      · rw [if_neg h4, if_neg h4]
        by_cases c : y < k
        · rw [if_pos c, if_pos (by omega)]; omega
        · rw [if_neg c, if_neg (by omega)]; omega
theorem pz_nu {f : Nat → Int32} {x : List Nat} {y : Nat} (hy : y ≤ 4) (hf : ∀ j, j < x.length → f j = pz_v (x.getD j 4)) (hr : ∀ j, j < x.length → x.getD j 4 ≤ 4) : ∀ k, k ≤ x.length → gp_nu f (pz_v y) k = nI (pz_cn (pz_at x y) k) := by
  intro k
  induction k with
  | zero => intro _; rfl
  | succ k ih =>
    intro hk
    rw [gp_nu, pz_cn, ih (by omega), hf k (by omega), pz_at]
    have := pz_v_inj (hr k (by omega)) hy
    by_cases c : x.getD k 4 = y
    · rw [if_pos (this.mpr c), if_pos (by simp only [decide_eq_true_eq]; exact c), nI_1]
    · rw [if_neg fun z => c (this.mp z), if_neg (by simp only [decide_eq_true_eq]; exact c)]
theorem pz_gc {f : Nat → Int32} {x : List Nat} {nt : Nat} (hx : x.length = nt) (hf : ∀ j, j < nt → f j = pz_v (x.getD j 4)) (hr : ∀ j, j < nt → x.getD j 4 ≤ 4) : ∀ k, k ≤ 4 → gm_c f nt k = nI (pz_s2 x k) := by
  subst hx
  intro k
  induction k with
  | zero =>
    intro _
    rw [gm_c, pz_s2, show (-1 : Int32) = pz_v 4 from rfl, pz_nu (by omega) hf hr _ (Nat.le_refl _), show (100 : Int32) = nI 100 from rfl, pz_mul, show (0 : Int32) = nI 0 from rfl, nI_add, Nat.zero_add]
    rfl
  | succ k ih =>
    intro hk
    rw [gm_c, pz_s2, ih (by omega), show nI k = pz_v k by rw [pz_v, if_neg (by omega)], pz_nu (by omega) hf hr _ (Nat.le_refl _), pz_mul, nI_add]
    rfl
theorem pz_e1 {f : Nat → Int32} : ∀ n, gp_e1 f n = 0 + 100 * gp_nu f (-1) n := by
  intro n
  induction n with
  | zero => rfl
  | succ n ih =>
    rw [gp_e1, gp_nu, ih]
    by_cases h : f n = -1
    · rw [if_pos h, if_pos h, Int32.mul_add, ← Int32.add_assoc]; rfl
    · rw [if_neg h, if_neg h]
theorem pz_e2 {f : Nat → Int32} {nt : Nat} : ∀ n, gp_e2 f nt n = gm_c f nt n := by
  intro n
  induction n with
  | zero => exact pz_e1 nt
  | succ n ih => rw [gp_e2, gm_c, ih]
/-- the score is cost and changes -/
theorem pz_sc {F : Nat → Nat → Int32} {G : Nat → Nat → Int32} {np nt cw : Nat} {x : List Nat} (hnp : np ≤ 4) (hx : x.length = nt) (hp : ∀ t, t < nt → F 14 t = G 8 t) (h9 : ∀ j, j < nt → G 9 j = pz_v (x.getD j 4)) (hr : ∀ j, j < nt → x.getD j 4 < np ∨ x.getD j 4 = 4) : ∀ k, k ≤ nt → sx_sc (pz_wt F 1 cw) (x.take k) = pz_s2 (x.take k) np + cw * gm_df G k ∧ (nt ≤ 6 → pz_s2 (x.take k) np ≤ 100 * k) := by
  intro k
  induction k with
  | zero =>
    intro _
    have : ∀ k, pz_s2 [] k = 0 := by
      intro k
      induction k with
      | zero => rfl
      | succ k ih => rw [pz_s2, ih]; rfl
    rw [List.take_zero, this]
    exact ⟨rfl, fun _ => Nat.zero_le _⟩
  | succ k ih =>
    intro hk
    obtain ⟨i1, i2⟩ := ih (by omega)
    have hl : (x.take k).length = k := by rw [List.length_take]; omega
    have hrk := hr k (by omega)
    rw [pz_take (by omega), sx_sc_app, i1, pz_s2_s np hnp, gm_df, pz_wt, hl, hp k (by omega), h9 k (by omega)]
    have hct : pz_ct (x.take k) (x.getD k 4) ≤ k := by
      have := pz_cn_le (b := pz_at (x.take k) (x.getD k 4)) (x.take k).length
      rw [hl] at this
      rw [pz_ct, hl]; exact this
    refine ⟨?_, fun h6 => ?_⟩
    · have e1 : (if x.getD k 4 = 4 then 100 else if x.getD k 4 < np then 2 * pz_ct (x.take k) (x.getD k 4) + 1 else 0) = 1 * (if x.getD k 4 = 4 then 100 else 2 * pz_ct (x.take k) (x.getD k 4) + 1) := by
        rw [Nat.one_mul]
        by_cases c : x.getD k 4 = 4
        · rw [if_pos c, if_pos c]
        · rw [if_neg c, if_neg c, if_pos (by omega)]
      rw [e1]
      by_cases c : G 8 k = pz_v (x.getD k 4)
      · rw [if_pos c, if_pos c.symm]; omega
      · rw [if_neg c, if_neg (Ne.symm c), Nat.mul_add]; omega
    · have i3 := i2 h6
      split
      · omega
      · split <;> omega
section PzC
variable {J K : Nat → Int32} {G D : Nat → Nat → Int32} {np nt ns : Nat}
theorem pz_at_c (hA : ∀ a, a ≠ 9 → a ≠ 10 → D a = G a) (h9 : ∀ j, j < nt → D 9 j = G 9 j) : ∀ k, k ≤ nt → gm_at D ns k = gm_at G ns k := by
  have ho : ∀ (x : Int32) (t k : Nat), gp_ofN D x t k = gp_ofN G x t k := by
    intro x t k
    induction k with
    | zero => rfl
    | succ k ih => rw [gp_ofN, gp_ofN, ih, gp_of1, gp_of1, hA 1 (by omega) (by omega), hA 2 (by omega) (by omega), hA 3 (by omega) (by omega), hA 5 (by omega) (by omega), hA 6 (by omega) (by omega)]
  intro k
  induction k with
  | zero => intro _; rfl
  | succ k ih =>
    intro hk
    rw [gm_at, gm_at, ih (by omega), gm_ok, gm_ok, h9 k (by omega), hA 11 (by omega) (by omega), hA 8 (by omega) (by omega), gm_su, gm_su, ho, hA 0 (by omega) (by omega), hA 4 (by omega) (by omega)]
theorem pz_q_c2 (hA : ∀ a, a ≠ 9 → a ≠ 10 → D a = G a) (h9 : ∀ j, j < nt → D 9 j = G 9 j) {x : Int32} : ∀ k, k ≤ nt → gm_q D x k = gm_q G x k := by
  intro k
  induction k with
  | zero => intro _; rfl
  | succ k ih => intro hk; rw [gm_q, gm_q, ih (by omega), h9 k (by omega), hA 6 (by omega) (by omega), hA 5 (by omega) (by omega)]
theorem pz_h2_c (hA : ∀ a, a ≠ 9 → a ≠ 10 → D a = G a) (h9 : ∀ j, j < nt → D 9 j = G 9 j) {r x : Int32} : ∀ k, k ≤ nt → gm_h2 r D x k = gm_h2 r G x k := by
  have h1 : ∀ a, a < nt → ∀ k, k ≤ nt → gm_h1 r D x a k = gm_h1 r G x a k := by
    intro a ha k
    induction k with
    | zero => intro _; rfl
    | succ k ih => intro hk; rw [gm_h1, gm_h1, ih (by omega), h9 k (by omega), h9 a ha, gm_near, gm_near, hA 6 (by omega) (by omega), hA 5 (by omega) (by omega)]
  intro k
  induction k with
  | zero => intro _; rfl
  | succ k ih => intro hk; rw [gm_h2, gm_h2, ih (by omega), h1 k (by omega) k (by omega)]
theorem pz_may_c (h5 : K 5 = J 5) (h6 : K 6 = J 6) (hA : ∀ a, a ≠ 9 → a ≠ 10 → D a = G a) (h9 : ∀ j, j < nt → D 9 j = G 9 j) : gm_may K D np nt ns = gm_may J G np nt ns := by
  have ha : ∀ k, gm_ap K D nt k = gm_ap J G nt k := by
    intro k
    induction k with
    | zero => rfl
    | succ k ih => rw [gm_ap, gm_ap, ih, h5, h6, pz_q_c2 hA h9 nt (Nat.le_refl _), pz_h2_c hA h9 nt (Nat.le_refl _)]
  rw [gm_may, gm_may, pz_at_c hA h9 nt (Nat.le_refl _), ha]
theorem pz_fu_c (hA : ∀ a, a ≠ 9 → a ≠ 10 → D a = G a) (h9 : ∀ j, j < nt → D 9 j = G 9 j) : ∀ k t, t + k = nt → gm_fu D k t = gm_fu G k t := by
  intro k
  induction k with
  | zero => intro t _; rfl
  | succ k ih => intro t h; rw [gm_fu, gm_fu, ih (t + 1) (by omega), hA 7 (by omega) (by omega), h9 t (by omega)]
theorem pz_df_c (hA : ∀ a, a ≠ 9 → a ≠ 10 → D a = G a) (h9 : ∀ j, j < nt → D 9 j = G 9 j) : ∀ k, k ≤ nt → gm_df D k = gm_df G k := by
  intro k
  induction k with
  | zero => intro _; rfl
  | succ k ih => intro h; rw [gm_df, gm_df, ih (by omega), hA 8 (by omega) (by omega), h9 k (by omega)]
theorem pz_df_le : ∀ k, gm_df G k ≤ k := by
  intro k
  induction k with
  | zero => exact Nat.le_refl _
  | succ k ih => rw [gm_df]; split <;> omega
theorem pz_ap {k : Nat} : gm_ap J G nt k = true ↔ ∀ p, p < k → ¬ J 6 < gm_q G (nI p) nt ∧ gm_h2 (J 5) G (nI p) nt = false := by
  induction k with
  | zero => exact ⟨fun _ p h => by omega, fun _ => rfl⟩
  | succ k ih =>
    rw [gm_ap, Bool.and_eq_true, ih]
    constructor
    · rintro ⟨h1, h2⟩ p hp
      by_cases c : p = k
      · subst c; simpa using h2
      · exact h1 p (by omega)
    · intro h
      refine ⟨fun p hp => h p (by omega), ?_⟩
      have := h k (by omega)
      simpa using this
theorem pz_fu_m : ∀ k t m, m ≤ t + k → (m ≤ gm_fu G k t ↔ m ≤ t ∨ ∀ u, t ≤ u → u < m → ¬ G 7 u = 0 → ¬ G 9 u = -1) := by
  intro k
  induction k with
  | zero => intro t m h; rw [gm_fu]; exact ⟨fun h => Or.inl h, fun _ => h⟩
  | succ k ih =>
    intro t m h
    rw [gm_fu]
    have hI := ih (t + 1) m (by omega)
    have hstep : (¬ G 7 t = 0 → ¬ G 9 t = -1) → (m ≤ gm_fu G k (t + 1) ↔ m ≤ t ∨ ∀ u, t ≤ u → u < m → ¬ G 7 u = 0 → ¬ G 9 u = -1) := by
      intro c
      rw [hI]
      constructor
      · rintro (h1 | h1)
        · right
          intro u h2 h3
          rw [show u = t by omega]; exact c
        · right
          intro u h2 h3
          by_cases z : u = t
          · rw [z]; exact c
          · exact h1 u (by omega) h3
      · rintro (h1 | h1)
        · left; omega
        · right; exact fun u h2 h3 => h1 u (by omega) h3
    by_cases c : G 7 t = 0
    · rw [if_pos c]; exact hstep fun z => absurd c z
    · rw [if_neg c]
      by_cases d : G 9 t = -1
      · rw [if_pos d]
        constructor
        · intro h; exact Or.inl h
        · rintro (h1 | h1)
          · exact h1
          · by_cases z : m ≤ t
            · exact z
            · exact absurd d (h1 t (Nat.le_refl _) (by omega) c)
      · rw [if_neg d]; exact hstep fun _ => d
theorem pz_V_may {mb : Nat} (hmb : mb ≤ nt) : pz_V J G np ns mb nt ↔ gm_may J G np nt ns = true ∧ mb ≤ gm_fu G nt 0 := by
  rw [gm_may, Bool.and_eq_true, pz_ap, pz_fu_m nt 0 mb (by omega), pz_V]
  constructor
  · rintro ⟨h1, h2, h3⟩
    exact ⟨⟨h1, h3⟩, Or.inr fun u _ h => h2 u (by omega) h⟩
  · rintro ⟨⟨h1, h3⟩, h2⟩
    refine ⟨h1, fun t _ h => ?_, h3⟩
    rcases h2 with h2 | h2
    · omega
    · exact h2 t (by omega) h
end PzC
