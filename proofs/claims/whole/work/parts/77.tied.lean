/-! ===== told ===== -/
theorem pz_T.cg {I I' : Nat → Int32} {F F' : Nat → Nat → Int32} {J J' : Nat → Int32} {G G' : Nat → Nat → Int32} {np nt ns : Nat} {b e : Nat → Nat} {lim : Nat} (h : pz_T I F J G np nt ns b e lim) (h7 : I' 7 = I 7) (h8 : I' 8 = I 8) (hF : ∀ a, a < 8 → F' a = F a) (h14 : F' 14 = F 14) (j5 : J' 5 = J 5) (j6 : J' 6 = J 6) (hG : ∀ a, a < 9 → G' a = G a) : pz_T I' F' J' G' np nt ns b e lim := by
  refine ⟨h.np4, h.nt6, ?_, ?_, ?_, ?_, ?_, ?_, ?_, ?_⟩
  · intro p hp; rw [hF 0 (by omega), hG 0 (by omega)]; exact h.sk p hp
  · intro s hs; rw [hF 1 (by omega), hF 2 (by omega), hF 3 (by omega), hG 1 (by omega), hG 2 (by omega), hG 3 (by omega)]; exact h.so s hs
  · intro t ht; rw [hF 4 (by omega), hF 5 (by omega), hF 6 (by omega), hF 7 (by omega), hG 4 (by omega), hG 5 (by omega), hG 6 (by omega), hG 7 (by omega)]; exact h.tk t ht
  · intro t ht; rw [h14, hG 8 (by omega)]; exact h.pl t ht
  · intro t ht; rw [hG 5 (by omega), hG 6 (by omega)]; exact h.hr t ht
  · rw [h7, j5]; exact h.rs
  · rw [h8, j6]; exact h.li
  · rw [j6]; exact h.ln
theorem pz_sc0 {F : Nat → Nat → Int32} : ∀ (x a : List Nat), sx_w (pz_wt F 0 0) a x = 0 := by
  intro x
  induction x with
  | nil => intro a; rfl
  | cons y x ih => intro a; rw [sx_w, ih, pz_wt]; simp
theorem pz_B0 {I : Nat → Int32} {F : Nat → Nat → Int32} {np nt ns : Nat} {len : Nat → Nat} {fr : Int32} {mb : Nat} : ∀ n, ((∃ i, i < n ∧ pz_okm I F np nt ns len fr mb (pz_dg np nt i) = true) ∧ (pz_B I F np nt ns len fr 0 0 mb n).1 = 0) ∨ ((∀ i, i < n → ¬ pz_okm I F np nt ns len fr mb (pz_dg np nt i) = true) ∧ (pz_B I F np nt ns len fr 0 0 mb n).1 = 1000000) := by
  intro n
  induction n with
  | zero => right; exact ⟨fun i hi => by omega, rfl⟩
  | succ n ih =>
    rw [pz_B_s]
    by_cases c : pz_okm I F np nt ns len fr mb (pz_dg np nt n) = true
    · left
      refine ⟨⟨n, by omega, c⟩, ?_⟩
      rw [if_pos c, sx_up, sx_sc, pz_sc0]
      split
      · rfl
      · omega
    · rw [if_neg c]
      rcases ih with ⟨⟨i, h1, h2⟩, h3⟩ | ⟨h1, h2⟩
      · left; exact ⟨⟨i, by omega, h2⟩, h3⟩
      · right
        refine ⟨fun i hi => ?_, h2⟩
        by_cases z : i = n
        · subst z; exact c
        · exact h1 i (by omega)
def pz_A (G : Nat → Nat → Int32) (fil : Int32) : Nat → Nat → Int32
  | 0, _ => -1
  | k + 1, t => if G 7 t = 0 then pz_A G fil k (t + 1) else if nI (t + 1) ≤ fil then pz_A G fil k (t + 1) else G 5 t
theorem pz_lt_fil {fil : Int32} {nt t : Nat} (h6 : nt ≤ 6) (ht : t < nt) (hf : fil = -1 ∨ ∃ m, m ≤ nt ∧ fil = nI m) : nI (t + 1) ≤ fil ↔ nI t < fil := by
  rcases hf with z | ⟨m, hm, z⟩
  · rw [z]
    exact ⟨fun h => absurd h (pz_mone (by omega)), fun h => absurd (pz_mlt (m := t) (by omega)) (fun h2 => Int32.lt_irrefl (Int32.lt_trans h h2))⟩
  · rw [z, nI_leI (by omega) (by omega), nI_ltI (by omega) (by omega)]; omega
theorem pz_A_up {G : Nat → Nat → Int32} {fil : Int32} {nt : Nat} (h6 : nt ≤ 6) (hf : fil = -1 ∨ ∃ m, m ≤ nt ∧ fil = nI m) : ∀ m, m ≤ nt → (∀ t, t < m → nI t < fil) → pz_A G fil nt 0 = pz_A G fil (nt - m) m := by
  intro m
  induction m with
  | zero => intro _ _; rfl
  | succ m ih =>
    intro hm h
    rw [ih (by omega) fun t ht => h t (by omega)]
    have e : nt - m = (nt - (m + 1)) + 1 := by omega
    rw [e, pz_A, if_pos ((pz_lt_fil h6 (by omega) hf).mpr (h m (by omega)))]
    split <;> rfl
theorem pz_tl {G : Nat → Nat → Int32} {fil : Int32} {nt : Nat} (h6 : nt ≤ 6) (hf : fil = -1 ∨ ∃ m, m ≤ nt ∧ fil = nI m) : ∀ k, k ≤ nt → gm_tl G fil k (pz_A G fil (nt - k) k) = pz_A G fil nt 0 := by
  intro k
  induction k with
  | zero => intro _; rfl
  | succ k ih =>
    intro hk
    rw [gm_tl]
    have hlt := pz_lt_fil (t := k) h6 (by omega) hf
    by_cases c : nI k < fil
    · rw [if_pos c]
      refine (pz_A_up h6 hf (k + 1) hk fun t ht => ?_).symm
      by_cases z : t = k
      · subst z; exact c
      · rcases hf with w | ⟨m, hm, w⟩
        · rw [w] at c
          exact absurd (Int32.lt_trans c (pz_mlt (m := k) (by omega))) Int32.lt_irrefl
        · rw [w, nI_ltI (by omega) (by omega)] at c
          rw [w, nI_ltI (by omega) (by omega)]; omega
    · rw [if_neg c, ← ih (by omega)]
      have e : nt - k = (nt - (k + 1)) + 1 := by omega
      rw [e, pz_A, if_neg (fun z => c (hlt.mp z))]
section PzTo
variable {J : Nat → Int32} {G : Nat → Nat → Int32} {np nt ns : Nat} {b e : Nat → Nat} {lim : Nat}
theorem pz_fl {fr fil : Int32} (hk11 : ∀ t, t < nt → (G 11 t = 0 ↔ fr ≤ G 5 t)) (hv : ∀ t, t < nt → G 8 t = -1 ∨ ∃ q, q < np ∧ G 8 t = nI q) (hfil : ∀ m, m ≤ nt → (nI m ≤ fil ↔ ∃ i, i < (np + 1) ^ nt ∧ gm_may J (gm_G1 np nt i G) np nt ns = true ∧ m ≤ gm_fu (gm_G1 np nt i G) nt 0)) :
    ∀ (k t : Nat) (σ : gp_S), t + k = nt → pz_T σ.1 σ.2 J G np nt ns b e lim → σ.1 9 = nI 0 → σ.1 10 = nI 0 → (gp_fl np nt ns fr k t σ).1 = pz_A G fil k t := by
  intro k
  induction k with
  | zero => intro t σ _ _ _ _; rfl
  | succ k ih =>
    intro t σ ht hT h9 h10
    have h0 : (gp_fd np nt ns fr (t + 1) σ).1 11 < 1000000 ↔ nI (t + 1) ≤ fil := by
      obtain ⟨f1, f2, -⟩ := pz_fd (fr := fr) (mb := t + 1) hT h9 h10 (by omega) (by omega)
      have f1 : (gp_fd np nt ns fr (t + 1) σ).1 11 = _ := f1
      have hok := fun i => pz_okm_e hT (mb := t + 1) (by omega) (fr := fr) (fun t ht => by rw [(hT.tk t ht).2.1]; exact hk11 t ht) (fun t ht => by rw [hT.pl t ht]; exact hv t ht) i
      rw [f1, hfil (t + 1) (by omega), show (1000000 : Int32) = nI 1000000 from rfl, nI_ltI (by omega) (by omega)]
      rcases pz_B0 (I := σ.1) (F := σ.2) (np := np) (nt := nt) (ns := ns) (len := fun t => e t - b t) (fr := fr) (mb := t + 1) ((np + 1) ^ nt) with ⟨⟨i, w1, w2⟩, w3⟩ | ⟨w1, w2⟩
      · exact ⟨fun _ => ⟨i, w1, (hok i).mp w2⟩, fun _ => by omega⟩
      · exact ⟨fun z => by omega, fun ⟨i, y1, y2⟩ => absurd ((hok i).mpr y2) (w1 i y1)⟩
    obtain ⟨-, t5, -, t7⟩ := hT.tk t (by omega)
    rw [gp_fl, pz_A, t7]
    by_cases c : G 7 t = 0
    · rw [if_pos c, if_pos c]; exact ih _ _ (by omega) hT h9 h10
    · rw [if_neg c, if_neg c]
      by_cases d : nI (t + 1) ≤ fil
      · rw [if_pos d, if_pos (h0.mpr d)]
        have kq := gp_fd_kq (np := np) (nt := nt) (ns := ns) (fr := fr) (mb := t + 1) (σ := σ)
        exact ih _ _ (by omega) (hT.cg (kq.1 7 (by omega)) (kq.1 8 (by omega)) kq.2.1 (kq.2.2 14 (by omega)) rfl rfl fun _ _ => rfl) ((kq.1 9 (by omega)).trans h9) ((kq.1 10 (by omega)).trans h10)
      · rw [if_neg d, if_neg fun z => d (h0.mp z)]
        exact t5
end PzTo
/-! ===== class and reference tied ===== -/
def gr_R (I : Nat → Int32) (F : Nat → Nat → Int32) (J : Nat → Int32) (G : Nat → Nat → Int32) (np nt ns nc : Nat) (b e : Nat → Nat) (lim : Nat) : Prop :=
  (pz_T I F J G np nt ns b e lim) ∧ (I 4 = nI np) ∧ (J 1 = nI np) ∧ (I 6 = nI nt) ∧ (J 3 = nI nt) ∧ (I 5 = nI ns) ∧ (J 2 = nI ns) ∧ (ns ≤ 20) ∧ (I 1 = J 7) ∧ (I 3 = J 4) ∧ (J 4 = 0 ∨ J 4 = 1) ∧ (I 2 = J 8) ∧ (I 0 = nI nc) ∧ (J 9 = nI nc) ∧ (nc ≤ 6) ∧ (∀ j, j < nc → F 15 j = G 12 j) ∧ (∀ t, t < nt → G 8 t = -1 ∨ ∃ q, q < np ∧ G 8 t = nI q)
theorem gr_R.T {I : Nat → Int32} {F : Nat → Nat → Int32} {J : Nat → Int32} {G : Nat → Nat → Int32} {np nt ns nc : Nat} {b e : Nat → Nat} {lim : Nat} (h : gr_R I F J G np nt ns nc b e lim) : pz_T I F J G np nt ns b e lim := h.1
theorem gr_R.i4 {I : Nat → Int32} {F : Nat → Nat → Int32} {J : Nat → Int32} {G : Nat → Nat → Int32} {np nt ns nc : Nat} {b e : Nat → Nat} {lim : Nat} (h : gr_R I F J G np nt ns nc b e lim) : I 4 = nI np := h.2.1
theorem gr_R.j1 {I : Nat → Int32} {F : Nat → Nat → Int32} {J : Nat → Int32} {G : Nat → Nat → Int32} {np nt ns nc : Nat} {b e : Nat → Nat} {lim : Nat} (h : gr_R I F J G np nt ns nc b e lim) : J 1 = nI np := h.2.2.1
theorem gr_R.i6 {I : Nat → Int32} {F : Nat → Nat → Int32} {J : Nat → Int32} {G : Nat → Nat → Int32} {np nt ns nc : Nat} {b e : Nat → Nat} {lim : Nat} (h : gr_R I F J G np nt ns nc b e lim) : I 6 = nI nt := h.2.2.2.1
theorem gr_R.j3 {I : Nat → Int32} {F : Nat → Nat → Int32} {J : Nat → Int32} {G : Nat → Nat → Int32} {np nt ns nc : Nat} {b e : Nat → Nat} {lim : Nat} (h : gr_R I F J G np nt ns nc b e lim) : J 3 = nI nt := h.2.2.2.2.1
theorem gr_R.i5 {I : Nat → Int32} {F : Nat → Nat → Int32} {J : Nat → Int32} {G : Nat → Nat → Int32} {np nt ns nc : Nat} {b e : Nat → Nat} {lim : Nat} (h : gr_R I F J G np nt ns nc b e lim) : I 5 = nI ns := h.2.2.2.2.2.1
theorem gr_R.j2 {I : Nat → Int32} {F : Nat → Nat → Int32} {J : Nat → Int32} {G : Nat → Nat → Int32} {np nt ns nc : Nat} {b e : Nat → Nat} {lim : Nat} (h : gr_R I F J G np nt ns nc b e lim) : J 2 = nI ns := h.2.2.2.2.2.2.1
theorem gr_R.s20 {I : Nat → Int32} {F : Nat → Nat → Int32} {J : Nat → Int32} {G : Nat → Nat → Int32} {np nt ns nc : Nat} {b e : Nat → Nat} {lim : Nat} (h : gr_R I F J G np nt ns nc b e lim) : ns ≤ 20 := h.2.2.2.2.2.2.2.1
theorem gr_R.fz {I : Nat → Int32} {F : Nat → Nat → Int32} {J : Nat → Int32} {G : Nat → Nat → Int32} {np nt ns nc : Nat} {b e : Nat → Nat} {lim : Nat} (h : gr_R I F J G np nt ns nc b e lim) : I 1 = J 7 := h.2.2.2.2.2.2.2.2.1
theorem gr_R.pn {I : Nat → Int32} {F : Nat → Nat → Int32} {J : Nat → Int32} {G : Nat → Nat → Int32} {np nt ns nc : Nat} {b e : Nat → Nat} {lim : Nat} (h : gr_R I F J G np nt ns nc b e lim) : I 3 = J 4 := h.2.2.2.2.2.2.2.2.2.1
theorem gr_R.p01 {I : Nat → Int32} {F : Nat → Nat → Int32} {J : Nat → Int32} {G : Nat → Nat → Int32} {np nt ns nc : Nat} {b e : Nat → Nat} {lim : Nat} (h : gr_R I F J G np nt ns nc b e lim) : J 4 = 0 ∨ J 4 = 1 := h.2.2.2.2.2.2.2.2.2.2.1
theorem gr_R.td {I : Nat → Int32} {F : Nat → Nat → Int32} {J : Nat → Int32} {G : Nat → Nat → Int32} {np nt ns nc : Nat} {b e : Nat → Nat} {lim : Nat} (h : gr_R I F J G np nt ns nc b e lim) : I 2 = J 8 := h.2.2.2.2.2.2.2.2.2.2.2.1
theorem gr_R.i0 {I : Nat → Int32} {F : Nat → Nat → Int32} {J : Nat → Int32} {G : Nat → Nat → Int32} {np nt ns nc : Nat} {b e : Nat → Nat} {lim : Nat} (h : gr_R I F J G np nt ns nc b e lim) : I 0 = nI nc := h.2.2.2.2.2.2.2.2.2.2.2.2.1
theorem gr_R.j9 {I : Nat → Int32} {F : Nat → Nat → Int32} {J : Nat → Int32} {G : Nat → Nat → Int32} {np nt ns nc : Nat} {b e : Nat → Nat} {lim : Nat} (h : gr_R I F J G np nt ns nc b e lim) : J 9 = nI nc := h.2.2.2.2.2.2.2.2.2.2.2.2.2.1
theorem gr_R.nc6 {I : Nat → Int32} {F : Nat → Nat → Int32} {J : Nat → Int32} {G : Nat → Nat → Int32} {np nt ns nc : Nat} {b e : Nat → Nat} {lim : Nat} (h : gr_R I F J G np nt ns nc b e lim) : nc ≤ 6 := h.2.2.2.2.2.2.2.2.2.2.2.2.2.2.1
theorem gr_R.cd {I : Nat → Int32} {F : Nat → Nat → Int32} {J : Nat → Int32} {G : Nat → Nat → Int32} {np nt ns nc : Nat} {b e : Nat → Nat} {lim : Nat} (h : gr_R I F J G np nt ns nc b e lim) : ∀ j, j < nc → F 15 j = G 12 j := h.2.2.2.2.2.2.2.2.2.2.2.2.2.2.2.1
theorem gr_R.va {I : Nat → Int32} {F : Nat → Nat → Int32} {J : Nat → Int32} {G : Nat → Nat → Int32} {np nt ns nc : Nat} {b e : Nat → Nat} {lim : Nat} (h : gr_R I F J G np nt ns nc b e lim) : ∀ t, t < nt → G 8 t = -1 ∨ ∃ q, q < np ∧ G 8 t = nI q := h.2.2.2.2.2.2.2.2.2.2.2.2.2.2.2.2
def gr_Rel (I : Nat → Int32) (F : Nat → Nat → Int32) (J : Nat → Int32) (G : Nat → Nat → Int32) : Prop := ∃ (np nt ns nc : Nat) (b e : Nat → Nat) (lim : Nat), gr_R I F J G np nt ns nc b e lim
theorem gr_v {np : Nat} (x : Nat) (h : x < np ∨ x = 4) (h4 : np ≤ 4) : pz_v x = -1 ∨ ∃ q, q < np ∧ pz_v x = nI q := by
  rcases h with h | h
  · right; exact ⟨x, h, by rw [pz_v, if_neg (by omega)]⟩
  · left; rw [h]; rfl
theorem gr_e2 {f g : Nat → Int32} {nt : Nat} (h : ∀ j, j < nt → f j = g j) : ∀ n, gm_c f nt n = gm_c g nt n := by
  have hn : ∀ (x : Int32) k, k ≤ nt → gp_nu f x k = gp_nu g x k := by
    intro x k
    induction k with
    | zero => intro _; rfl
    | succ k ih => intro hk; rw [gp_nu, gp_nu, ih (by omega), h k (by omega)]
  intro n
  induction n with
  | zero => rw [gm_c, gm_c, hn _ nt (Nat.le_refl _)]
  | succ n ih => rw [gm_c, gm_c, ih, hn _ nt (Nat.le_refl _)]
theorem gr_mk {I : Nat → Int32} {F : Nat → Nat → Int32} {J : Nat → Int32} {G : Nat → Nat → Int32} {np nt ns nc : Nat} {b e : Nat → Nat} {lim : Nat} (h : gr_R I F J G np nt ns nc b e lim) {I' : Nat → Int32} {F' : Nat → Nat → Int32} {J' : Nat → Int32} {G' : Nat → Nat → Int32} {nc' : Nat}
    (hI : ∀ i, i = 1 ∨ i = 4 ∨ i = 5 ∨ i = 6 ∨ i = 7 ∨ i = 8 → I' i = I i) (hF : ∀ a, a < 8 → F' a = F a) (hJ : ∀ j, j = 1 ∨ j = 2 ∨ j = 3 ∨ j = 5 ∨ j = 6 ∨ j = 7 → J' j = J j) (hG : ∀ a, a < 8 → G' a = G a)
    (hpl : ∀ t, t < nt → F' 14 t = G' 8 t) (hva : ∀ t, t < nt → G' 8 t = -1 ∨ ∃ q, q < np ∧ G' 8 t = nI q) (pn : I' 3 = J' 4) (p01 : J' 4 = 0 ∨ J' 4 = 1) (td : I' 2 = J' 8) (i0 : I' 0 = nI nc') (j9 : J' 9 = nI nc') (n6 : nc' ≤ 6) (cd : ∀ j, j < nc' → F' 15 j = G' 12 j) : gr_R I' F' J' G' np nt ns nc' b e lim := by
  refine ⟨⟨h.T.np4, h.T.nt6, ?_, ?_, ?_, hpl, ?_, ?_, ?_, ?_⟩, ?_, ?_, ?_, ?_, ?_, ?_, h.s20, ?_, pn, p01, td, i0, j9, n6, cd, hva⟩
  · intro p hp; rw [hF 0 (by omega), hG 0 (by omega)]; exact h.T.sk p hp
  · intro s hs; rw [hF 1 (by omega), hF 2 (by omega), hF 3 (by omega), hG 1 (by omega), hG 2 (by omega), hG 3 (by omega)]; exact h.T.so s hs
  · intro t ht; rw [hF 4 (by omega), hF 5 (by omega), hF 6 (by omega), hF 7 (by omega), hG 4 (by omega), hG 5 (by omega), hG 6 (by omega), hG 7 (by omega)]; exact h.T.tk t ht
  · intro t ht; rw [hG 5 (by omega), hG 6 (by omega)]; exact h.T.hr t ht
  · rw [hI 7 (by omega), hJ 5 (by omega)]; exact h.T.rs
  · rw [hI 8 (by omega), hJ 6 (by omega)]; exact h.T.li
  · rw [hJ 6 (by omega)]; exact h.T.ln
  · rw [hI 4 (by omega)]; exact h.i4
  · rw [hJ 1 (by omega)]; exact h.j1
  · rw [hI 6 (by omega)]; exact h.i6
  · rw [hJ 3 (by omega)]; exact h.j3
  · rw [hI 5 (by omega)]; exact h.i5
  · rw [hJ 2 (by omega)]; exact h.j2
  · rw [hI 1 (by omega), hJ 7 (by omega)]; exact h.fz
/-- both seek: both find the same, or both tell the same -/
theorem gr_seek {I : Nat → Int32} {F : Nat → Nat → Int32} {J : Nat → Int32} {G : Nat → Nat → Int32} {np nt ns nc : Nat} {b e : Nat → Nat} {lim : Nat} (h : gr_R I F J G np nt ns nc b e lim) {fr cz : Int32} {cw : Nat} {k11 : Nat → Int32} (hcw : (cz = 0 ∧ cw = 0) ∨ (cz = 1 ∧ cw = 1000)) (hk11 : ∀ t, t < nt → (k11 t = 0 ↔ fr ≤ F 5 t)) :
    ((∀ j, j < 10 → j ≠ 8 → (gm_te nt (gm_se np nt ns cz (J, gp_uF G 11 k11))).1 j = J j) ∧ ∀ a, a ≠ 9 → a ≠ 10 → a ≠ 11 → (gm_te nt (gm_se np nt ns cz (J, gp_uF G 11 k11))).2 a = G a) ∧
    ((¬ (gp_fd np nt ns fr nt (upd (upd I 9 (nI cw)) 10 1, F)).1 11 < 1000000 ∧ (gm_te nt (gm_se np nt ns cz (J, gp_uF G 11 k11))).1 10 = 0 ∧ (gp_fL np nt ns fr (gp_fd np nt ns fr nt (upd (upd I 9 (nI cw)) 10 1, F))).1 = (gm_te nt (gm_se np nt ns cz (J, gp_uF G 11 k11))).1 8) ∨
    ((gp_fd np nt ns fr nt (upd (upd I 9 (nI cw)) 10 1, F)).1 11 < 1000000 ∧ ¬ (gm_te nt (gm_se np nt ns cz (J, gp_uF G 11 k11))).1 10 = 0 ∧ (gm_te nt (gm_se np nt ns cz (J, gp_uF G 11 k11))).1 8 = -1 ∧ ∃ i : Nat, (∀ j, j < nt → (gp_fd np nt ns fr nt (upd (upd I 9 (nI cw)) 10 1, F)).2 8 j = pz_v ((pz_dg np nt i).getD j 4)) ∧ (∀ j, j < nt → (gm_te nt (gm_se np nt ns cz (J, gp_uF G 11 k11))).2 10 j = pz_v ((pz_dg np nt i).getD j 4)) ∧ (gm_te nt (gm_se np nt ns cz (J, gp_uF G 11 k11))).1 12 = nI (pz_s2 (pz_dg np nt i) np))) := by
  have h4 := h.T.np4
  have h6 := h.T.nt6
  have hT : pz_T (upd (upd I 9 (nI cw)) 10 1) F J (gp_uF G 11 k11) np nt ns b e lim := h.T.cg rfl rfl (fun _ _ => rfl) rfl rfl rfl (fun a ha => gp_uF_ne (by omega))
  have hv : ∀ t, t < nt → F 14 t = -1 ∨ ∃ q, q < np ∧ F 14 t = nI q := fun t ht => by rw [h.T.pl t ht]; exact h.va t ht
  have hM := pz_sk hT (cz := cz) (cw := cw) hcw hk11 hv ((np + 1) ^ nt)
  obtain ⟨f1, f2, f3⟩ := pz_fd (fr := fr) (mb := nt) (kw := 1) (cw := cw) hT rfl rfl (by omega) (by omega)
  have kq := gp_fd_kq (np := np) (nt := nt) (ns := ns) (fr := fr) (mb := nt) (σ := (upd (upd I 9 (nI cw)) 10 1, F))
  revert f1 f2 f3 kq
  generalize gp_fd np nt ns fr nt (upd (upd I 9 (nI cw)) 10 1, F) = τ
  intro f1 f2 f3 kq
  have er : gm_se np nt ns cz (J, gp_uF G 11 k11) = gm_sk np nt ns cz (upd (upd J 10 0) 13 (-1), gp_uF G 11 k11) ((np + 1) ^ nt) := rfl
  rw [er]
  revert hM
  generalize gm_sk np nt ns cz (upd (upd J 10 0) 13 (-1), gp_uF G 11 k11) ((np + 1) ^ nt) = σ
  rintro ⟨c1, c2, c3, c4, c5⟩
  refine ⟨⟨fun j h1 h2 => by rw [gm_te_k h2]; exact c1 j h1, fun a h1 h2 h3 => (c2 a h1 h2).trans (gp_uF_ne h3)⟩, ?_⟩
  rw [gm_te_k (show (10 : Nat) ≠ 8 by omega), gm_te_k (show (12 : Nat) ≠ 8 by omega), f1, show (1000000 : Int32) = nI 1000000 from rfl]
  clear f1
  revert f2 f3 c3
  generalize pz_B (upd (upd I 9 (nI cw)) 10 1) F np nt ns (fun t => e t - b t) fr 1 cw nt ((np + 1) ^ nt) = B
  intro f2 f3 c3
  rcases c3 with ⟨z1, z2⟩ | ⟨ch, co, i, z1, z2, z3, z4, z5, z6, z7, z8, z9⟩
  · left
    refine ⟨by rw [z1]; decide, z2, ?_⟩
    have hTA : pz_T (upd (upd τ.1 9 0) 10 0) τ.2 J (gp_uF G 11 k11) np nt ns b e lim := hT.cg (kq.1 7 (by omega)) (kq.1 8 (by omega)) kq.2.1 (kq.2.2 14 (by omega)) rfl rfl fun _ _ => rfl
    have hfl := pz_fl (G := gp_uF G 11 k11) (J := J) (fr := fr) (fil := σ.1 13) (fun t ht => by
      have w : F 5 t = gp_uF G 11 k11 5 t := (h.T.tk t ht).2.1
      rw [← w]; exact hk11 t ht) (fun t ht => h.va t ht) c5 nt 0 (upd (upd τ.1 9 0) 10 0, τ.2) (by omega) hTA rfl rfl
    show (gp_fl np nt ns fr nt 0 (upd (upd τ.1 9 0) 10 0, τ.2)).1 = (if σ.1 10 = 0 then gm_tl σ.2 (σ.1 13) nt (-1) else -1)
    rw [hfl, if_pos z2]
    have := pz_tl (G := σ.2) (fil := σ.1 13) h6 c4 nt (Nat.le_refl _)
    rw [Nat.sub_self] at this
    have this : gm_tl σ.2 (σ.1 13) nt (-1) = pz_A σ.2 (σ.1 13) nt 0 := this
    rw [this]
    have hA : ∀ k t, pz_A σ.2 (σ.1 13) k t = pz_A (gp_uF G 11 k11) (σ.1 13) k t := by
      intro k
      induction k with
      | zero => intro t; rfl
      | succ k ih => intro t; rw [pz_A, pz_A, ih, c2 7 (by omega) (by omega), c2 5 (by omega) (by omega)]
    exact (hA nt 0).symm
  · right
    have hlt : B.1 < 1000000 := by omega
    have f3 := f3 hlt
    rw [z7] at f3
    refine ⟨(nI_ltI (by omega) (by omega)).mpr hlt, by rw [z4]; decide, ?_, i, f3, z9, by rw [z6, z8]⟩
    show (if σ.1 10 = 0 then gm_tl σ.2 (σ.1 13) nt (-1) else -1) = -1
    rw [if_neg (by rw [z4]; decide)]
theorem gr_run {I : Nat → Int32} {F : Nat → Nat → Int32} {J : Nat → Int32} {G : Nat → Nat → Int32} {np nt ns nc : Nat} {b e : Nat → Nat} {lim : Nat} (h : gr_R I F J G np nt ns nc b e lim) : (gp_run np nt ns (I, F)).1 = (gm_run np nt ns (J, G)).1 ∧ gr_R (gp_run np nt ns (I, F)).2.1 (gp_run np nt ns (I, F)).2.2 (gm_run np nt ns (J, G)).2.1 (gm_run np nt ns (J, G)).2.2 np nt ns nc b e lim := by
  have h4 := h.T.np4
  have h6 := h.T.nt6
  have h0 : gr_R I F (upd J 0 0) G np nt ns nc b e lim := gr_mk h (fun _ _ => rfl) (fun _ _ => rfl) (fun j hj => by rw [upd, if_neg (by omega)]) (fun _ _ => rfl) h.T.pl h.va h.pn h.p01 h.td h.i0 h.j9 h.nc6 h.cd
  have hs := gr_seek h0 (fr := 0) (cz := 0) (cw := 0) (k11 := fun j => if j < 6 then 0 else G 11 j) (Or.inl ⟨rfl, rfl⟩) (by
    intro t ht
    have h1 : (if t < 6 then (0 : Int32) else G 11 t) = 0 := if_pos (by omega)
    have h2 : (0 : Int32) ≤ F 5 t := by
      rw [(h.T.tk t ht).2.1, (h.T.hr t ht).1]
      exact Int32.not_lt.mp (nI_pos (by have := h.T.hr t ht; omega))
    exact ⟨fun _ => h2, fun _ => h1⟩)
  have eA : gp_fA np nt ns (I, F) = gp_fd np nt ns 0 nt (upd (upd I 9 (nI 0)) 10 1, F) := rfl
  have eM : gm_r1 np nt ns (J, G) = gm_te nt (gm_se np nt ns 0 (upd J 0 0, gp_uF G 11 (fun j => if j < 6 then 0 else G 11 j))) := rfl
  rw [← eA, ← eM] at hs
  have kq := gp_fA_kq (np := np) (nt := nt) (ns := ns) (σ := (I, F))
  rw [gp_run, gm_run]
  revert hs kq
  generalize gp_fA np nt ns (I, F) = τ
  generalize gm_r1 np nt ns (J, G) = σ
  rintro ⟨⟨m1, m2⟩, hs⟩ kq
  have kI : ∀ i, i ≠ 9 → i ≠ 10 → i ≠ 11 → τ.1 i = I i := by
    intro i h1 h2 h3
    rw [kq.1 i h3]
    show upd (upd I 9 0) 10 1 i = _
    rw [upd, if_neg h2, upd, if_neg h1]
  have mJ : ∀ j, j < 10 → j ≠ 8 → j ≠ 0 → σ.1 j = J j := fun j h1 h2 h3 => by rw [m1 j h1 h2, upd, if_neg h3]
  rcases hs with ⟨s1, s2, s3⟩ | ⟨s1, s2, s3, i, s4, s5, s6⟩
  · rw [if_neg s1, if_pos s2]
    refine ⟨rfl, ?_⟩
    have kl := gp_fL_kq (np := np) (nt := nt) (ns := ns) (fr := 0) (σ := τ)
    have hI : ∀ i, i ≠ 2 → i ≠ 9 → i ≠ 10 → i ≠ 11 → (gp_la np nt ns 0 τ).1 i = I i := by
      intro i h1 h2 h3 h5
      show upd (gp_fL np nt ns 0 τ).2.1 2 _ i = _
      rw [upd, if_neg h1, kl.1 i h5]
      show upd (upd τ.1 9 0) 10 0 i = _
      rw [upd, if_neg h3, upd, if_neg h2, kI i h2 h3 h5]
    have hF : ∀ a, a < 8 ∨ 13 < a → (gp_la np nt ns 0 τ).2 a = F a := by
      intro a ha
      show (gp_fL np nt ns 0 τ).2.2 a = _
      rcases ha with ha | ha
      · exact (kl.2.1 a ha).trans (kq.2.1 a ha)
      · exact (kl.2.2 a ha).trans (kq.2.2 a ha)
    refine gr_mk h (nc' := nc) (fun i hi => hI i (by omega) (by omega) (by omega) (by omega)) (fun a ha => hF a (by omega)) (fun j hj => mJ j (by omega) (by omega) (by omega)) (fun a ha => m2 a (by omega) (by omega) (by omega)) ?_ ?_ ?_ ?_ ?_ ?_ ?_ h.nc6 ?_
    · intro t ht
      show (gp_la np nt ns 0 τ).2 14 t = σ.2 8 t
      rw [hF 14 (by omega), m2 8 (by omega) (by omega) (by omega)]; exact h.T.pl t ht
    · intro t ht
      show σ.2 8 t = -1 ∨ _
      rw [m2 8 (by omega) (by omega) (by omega)]; exact h.va t ht
    · exact (hI 3 (by omega) (by omega) (by omega) (by omega)).trans (h.pn.trans (mJ 4 (by omega) (by omega) (by omega)).symm)
    · show σ.1 4 = 0 ∨ σ.1 4 = 1
      rw [mJ 4 (by omega) (by omega) (by omega)]; exact h.p01
    · exact s3
    · exact (hI 0 (by omega) (by omega) (by omega) (by omega)).trans h.i0
    · exact (mJ 9 (by omega) (by omega) (by omega)).trans h.j9
    · intro j hj
      show (gp_la np nt ns 0 τ).2 15 j = σ.2 12 j
      rw [hF 15 (by omega), m2 12 (by omega) (by omega) (by omega)]; exact h.cd j hj
  · rw [if_pos s1, if_neg s2]
    have hpl : ∀ j, j < nt → (gp_ad nt τ).2 14 j = pz_v ((pz_dg np nt i).getD j 4) := by
      intro j hj
      show (if j < nt then _ else _) = _
      rw [if_pos hj]; exact s4 j hj
    have hpm : ∀ j, j < nt → gp_uF σ.2 8 (fun j => if j < nt then σ.2 10 j else σ.2 8 j) 8 j = pz_v ((pz_dg np nt i).getD j 4) := by
      intro j hj
      show (if j < nt then _ else _) = _
      rw [if_pos hj]; exact s5 j hj
    refine ⟨?_, gr_mk h (nc' := nc) ?_ ?_ ?_ ?_ (fun t ht => (hpl t ht).trans (hpm t ht).symm) ?_ rfl (Or.inr rfl) ?_ ?_ ?_ h.nc6 ?_⟩
    · show gp_e2 ((gp_ad nt τ).2 14) nt np = σ.1 12
      rw [s6, pz_e2]
      exact pz_gc (pz_dg_l nt i) hpl (fun j hj => by have := pz_dg_r (np := np) (i := i) hj; omega) np h4
    · intro i hi
      show upd (upd τ.1 3 1) 2 (-1) i = _
      rw [upd, if_neg (by omega), upd, if_neg (by omega), kI i (by omega) (by omega) (by omega)]
    · intro a ha
      show gp_uF τ.2 14 _ a = _
      rw [gp_uF_ne (by omega)]; exact kq.2.1 a ha
    · intro j hj
      show upd σ.1 4 1 j = _
      rw [upd, if_neg (by omega), mJ j (by omega) (by omega) (by omega)]
    · intro a ha
      show gp_uF σ.2 8 _ a = _
      rw [gp_uF_ne (by omega)]; exact m2 a (by omega) (by omega) (by omega)
    · intro t ht
      have := hpm t ht
      show gp_uF σ.2 8 (fun j => if j < nt then σ.2 10 j else σ.2 8 j) 8 t = -1 ∨ ∃ q, q < np ∧ gp_uF σ.2 8 (fun j => if j < nt then σ.2 10 j else σ.2 8 j) 8 t = nI q
      rw [this]
      exact gr_v _ (pz_dg_r ht) h4
    · show (-1 : Int32) = upd σ.1 4 1 8
      exact s3.symm
    · show τ.1 0 = _
      exact (kI 0 (by omega) (by omega) (by omega)).trans h.i0
    · show σ.1 9 = _
      exact (mJ 9 (by omega) (by omega) (by omega)).trans h.j9
    · intro j hj
      show τ.2 15 j = σ.2 12 j
      rw [kq.2.2 15 (by omega), m2 12 (by omega) (by omega) (by omega)]; exact h.cd j hj
theorem gr_nc {F G : Nat → Nat → Int32} : ∀ k, (∀ j, j < k → F 14 j = G 8 j) → (∀ j, j < k → F 8 j = G 10 j) → (gp_nc F k).1 = (gm_nc G k).1 ∧ ∀ j, j < (gp_nc F k).1 → (gp_nc F k).2 j = (gm_nc G k).2 j := by
  intro k
  induction k with
  | zero => intro _ _; exact ⟨rfl, fun j hj => absurd hj (Nat.not_lt_zero _)⟩
  | succ k ih =>
    intro h1 h2
    obtain ⟨i1, i2⟩ := ih (fun j hj => h1 j (by omega)) (fun j hj => h2 j (by omega))
    rw [gp_nc, gm_nc, h1 k (by omega), h2 k (by omega)]
    by_cases c : G 8 k = G 10 k
    · rw [if_pos c, if_pos c.symm]; exact ⟨i1, i2⟩
    · rw [if_neg c, if_neg (Ne.symm c)]
      refine ⟨by show (gp_nc F k).1 + 1 = (gm_nc G k).1 + 1; rw [i1], fun j hj => ?_⟩
      show upd (gp_nc F k).2 (gp_nc F k).1 (nI k) j = upd (gm_nc G k).2 (gm_nc G k).1 (nI k) j
      have hj : j < (gp_nc F k).1 + 1 := hj
      rw [upd, upd, i1]
      by_cases z : j = (gm_nc G k).1
      · rw [if_pos z, if_pos z]
      · rw [if_neg z, if_neg z]; exact i2 j (by omega)
/-- one more time off -/
theorem gr_off {I : Nat → Int32} {F : Nat → Nat → Int32} {J : Nat → Int32} {G : Nat → Nat → Int32} {np nt ns nc : Nat} {b e : Nat → Nat} {lim : Nat} (h : gr_R I F J G np nt ns nc b e lim) (hns : ns < 20) (x y z : Int32) : gr_R (upd I 5 (nI (ns + 1))) (gp_uF (gp_uF (gp_uF F 1 (upd (F 1) ns x)) 2 (upd (F 2) ns y)) 3 (upd (F 3) ns z)) (upd (upd J 0 0) 2 (nI (ns + 1))) (gp_uF (gp_uF (gp_uF G 1 (upd (G 1) ns x)) 2 (upd (G 2) ns y)) 3 (upd (G 3) ns z)) np nt (ns + 1) nc b e lim := by
  refine ⟨⟨h.T.np4, h.T.nt6, h.T.sk, ?_, h.T.tk, h.T.pl, h.T.hr, h.T.rs, h.T.li, h.T.ln⟩, h.i4, h.j1, h.i6, h.j3, rfl, rfl, by omega, h.fz, h.pn, h.p01, h.td, h.i0, h.j9, h.nc6, h.cd, h.va⟩
  intro s hs
  show upd (F 1) ns x s = upd (G 1) ns x s ∧ upd (F 2) ns y s = upd (G 2) ns y s ∧ upd (F 3) ns z s = upd (G 3) ns z s
  by_cases c : s = ns
  · subst c; simp [upd]
  · simp only [upd, if_neg c]; exact h.T.so s (by omega)
theorem gr_abs {I : Nat → Int32} {F : Nat → Nat → Int32} {J : Nat → Int32} {G : Nat → Nat → Int32} {np nt ns nc : Nat} {b e : Nat → Nat} {lim : Nat} (h : gr_R I F J G np nt ns nc b e lim) (hns : ns < 20) (hpl1 : J 4 = 1) (x y : Int32) : (gp_abs np nt ns x y (I, F)).1 = (gm_abs np nt ns x y (J, G)).1 ∧ gr_Rel (gp_abs np nt ns x y (I, F)).2.1 (gp_abs np nt ns x y (I, F)).2.2 (gm_abs np nt ns x y (J, G)).2.1 (gm_abs np nt ns x y (J, G)).2.2 ∧ (gm_abs np nt ns x y (J, G)).2.1 0 = 0 := by
  have h4 := h.T.np4
  have h6 := h.T.nt6
  have h0 := gr_off h hns x y 96
  have hs := gr_seek h0 (fr := I 1) (cz := 1) (cw := 1000) (k11 := gm_kf nt (gm_o1 ns x y (J, G))) (Or.inr ⟨rfl, rfl⟩) (by
    intro t ht
    show (if t < nt then (if G 5 t < J 7 then (1 : Int32) else 0) else G 11 t) = 0 ↔ I 1 ≤ F 5 t
    rw [if_pos ht, h.fz, (h.T.tk t ht).2.1]
    by_cases c : G 5 t < J 7
    · rw [if_pos c]
      exact ⟨fun z => absurd z (by decide), fun z => absurd c (Int32.not_lt.mpr z)⟩
    · rw [if_neg c]
      exact ⟨fun _ => Int32.not_lt.mp c, fun _ => rfl⟩)
  have eA : gp_fN np nt (ns + 1) (I 1) (gp_o1 ns x y (I, F)) = gp_fd np nt (ns + 1) (I 1) nt (upd (upd (upd I 5 (nI (ns + 1))) 9 (nI 1000)) 10 1, (gp_uF (gp_uF (gp_uF F 1 (upd (F 1) ns x)) 2 (upd (F 2) ns y)) 3 (upd (F 3) ns 96))) := rfl
  have eM : gm_a1 np nt ns x y (J, G) = gm_te nt (gm_se np nt (ns + 1) 1 (upd (upd J 0 0) 2 (nI (ns + 1)), gp_uF (gp_uF (gp_uF (gp_uF G 1 (upd (G 1) ns x)) 2 (upd (G 2) ns y)) 3 (upd (G 3) ns 96)) 11 (gm_kf nt (gm_o1 ns x y (J, G))))) := rfl
  rw [← eA, ← eM] at hs
  have kq := gp_fN_kq (np := np) (nt := nt) (ns := ns + 1) (fr := I 1) (σ := gp_o1 ns x y (I, F))
  rw [gp_abs, gm_abs]
  simp only []
  revert hs kq
  generalize gp_fN np nt (ns + 1) (I 1) (gp_o1 ns x y (I, F)) = τ
  generalize gm_a1 np nt ns x y (J, G) = σ
  rintro ⟨⟨m1, m2⟩, hs⟩ kq
  have kI : ∀ i, i ≠ 9 → i ≠ 10 → i ≠ 11 → τ.1 i = upd I 5 (nI (ns + 1)) i := by
    intro i h1 h2 h3
    rw [kq.1 i h3]
    show upd (upd (upd I 5 (nI (ns + 1))) 9 1000) 10 1 i = _
    rw [upd, if_neg h2, upd, if_neg h1]
  have kF : ∀ a, a < 8 → τ.2 a = gp_uF (gp_uF (gp_uF F 1 (upd (F 1) ns x)) 2 (upd (F 2) ns y)) 3 (upd (F 3) ns 96) a := kq.2.1
  have kF2 : ∀ a, 13 < a → τ.2 a = F a := fun a ha => (kq.2.2 a ha).trans ((gp_uF_ne (by omega)).trans ((gp_uF_ne (by omega)).trans (gp_uF_ne (by omega))))
  have mJ : ∀ j, j < 10 → j ≠ 8 → j ≠ 0 → j ≠ 2 → σ.1 j = J j := fun j h1 h2 h3 h5 => by rw [m1 j h1 h2, upd, if_neg h5, upd, if_neg h3]
  have mG : ∀ a, 3 < a → a ≠ 9 → a ≠ 10 → a ≠ 11 → σ.2 a = G a := fun a h0 h1 h2 h3 => (m2 a h1 h2 h3).trans ((gp_uF_ne (by omega)).trans ((gp_uF_ne (by omega)).trans (gp_uF_ne (by omega))))
  rcases hs with ⟨s1, s2, s3⟩ | ⟨s1, s2, s3, i, s4, s5, s6⟩
  · rw [if_neg s1, if_pos s2]
    have kl := gp_fL_kq (np := np) (nt := nt) (ns := ns + 1) (fr := I 1) (σ := τ)
    have hI : ∀ i, i ≠ 2 → i ≠ 9 → i ≠ 10 → i ≠ 11 → (gp_la np nt (ns + 1) (I 1) τ).1 i = upd I 5 (nI (ns + 1)) i := by
      intro i h1 h2 h3 h5
      show upd (gp_fL np nt (ns + 1) (I 1) τ).2.1 2 _ i = _
      rw [upd, if_neg h1, kl.1 i h5]
      show upd (upd τ.1 9 0) 10 0 i = _
      rw [upd, if_neg h3, upd, if_neg h2, kI i h2 h3 h5]
    have hF : ∀ a, a < 8 ∨ 13 < a → (gp_la np nt (ns + 1) (I 1) τ).2 a = τ.2 a := by
      intro a ha
      show (gp_fL np nt (ns + 1) (I 1) τ).2.2 a = _
      rcases ha with ha | ha
      · exact kl.2.1 a ha
      · exact kl.2.2 a ha
    have hR : gr_R (gp_la np nt (ns + 1) (I 1) τ).1 (gp_la np nt (ns + 1) (I 1) τ).2 σ.1 σ.2 np nt (ns + 1) nc b e lim := by
      refine gr_mk h0 (nc' := nc) (fun i hi => hI i (by omega) (by omega) (by omega) (by omega)) (fun a ha => (hF a (by omega)).trans (kF a ha)) (fun j hj => m1 j (by omega) (by omega)) (fun a ha => m2 a (by omega) (by omega) (by omega)) ?_ ?_ ?_ ?_ s3 ?_ ?_ h.nc6 ?_
      · intro t ht
        rw [hF 14 (by omega), kF2 14 (by omega), mG 8 (by omega) (by omega) (by omega) (by omega)]; exact h.T.pl t ht
      · intro t ht
        rw [mG 8 (by omega) (by omega) (by omega) (by omega)]; exact h.va t ht
      · rw [hI 3 (by omega) (by omega) (by omega) (by omega), mJ 4 (by omega) (by omega) (by omega) (by omega)]; exact h.pn
      · rw [mJ 4 (by omega) (by omega) (by omega) (by omega)]; exact h.p01
      · rw [hI 0 (by omega) (by omega) (by omega) (by omega)]; exact h.i0
      · rw [mJ 9 (by omega) (by omega) (by omega) (by omega)]; exact h.j9
      · intro j hj
        rw [hF 15 (by omega), kF2 15 (by omega), mG 12 (by omega) (by omega) (by omega) (by omega)]; exact h.cd j hj
    refine ⟨rfl, ⟨np, nt, ns, nc, b, e, lim, ⟨hR.T.np4, hR.T.nt6, hR.T.sk, fun s hs => hR.T.so s (by omega), hR.T.tk, hR.T.pl, hR.T.hr, hR.T.rs, hR.T.li, hR.T.ln⟩, hR.i4, hR.j1, hR.i6, hR.j3, rfl, rfl, h.s20, hR.fz, hR.pn, hR.p01, hR.td, hR.i0, hR.j9, hR.nc6, hR.cd, hR.va⟩, ?_⟩
    show σ.1 0 = 0
    rw [m1 0 (by omega) (by omega)]; rfl
  · rw [if_pos s1, if_neg s2]
    have hnc := gr_nc (F := τ.2) (G := σ.2) nt (fun j hj => by rw [kF2 14 (by omega), mG 8 (by omega) (by omega) (by omega) (by omega)]; exact h.T.pl j hj) (fun j hj => by rw [s4 j hj, s5 j hj])
    have hpl : ∀ j, j < nt → (gp_ad nt (gp_n1 nt τ)).2 14 j = pz_v ((pz_dg np nt i).getD j 4) := by
      intro j hj
      show (if j < nt then _ else _) = _
      rw [if_pos hj]; exact s4 j hj
    have hpm : ∀ j, j < nt → gp_uF (gp_uF σ.2 12 (gm_nc σ.2 nt).2) 8 (fun j => if j < nt then σ.2 10 j else σ.2 8 j) 8 j = pz_v ((pz_dg np nt i).getD j 4) := by
      intro j hj
      show (if j < nt then _ else _) = _
      rw [if_pos hj]; exact s5 j hj
    refine ⟨by show nI (gp_nc τ.2 nt).1 = nI (gm_nc σ.2 nt).1; rw [hnc.1], ⟨np, nt, ns + 1, (gm_nc σ.2 nt).1, b, e, lim, gr_mk h0 ?_ ?_ ?_ ?_ (fun t ht => (hpl t ht).trans (hpm t ht).symm) ?_ ?_ ?_ ?_ ?_ rfl ?_ ?_⟩, ?_⟩
    · intro i hi
      show upd (upd (upd τ.1 0 _) 3 1) 2 (-1) i = _
      rw [upd, if_neg (by omega), upd, if_neg (by omega), upd, if_neg (by omega), kI i (by omega) (by omega) (by omega)]
    · intro a ha
      show gp_uF (gp_uF τ.2 15 _) 14 _ a = _
      rw [gp_uF_ne (by omega), gp_uF_ne (by omega)]; exact kF a ha
    · intro j hj
      show upd σ.1 9 _ j = _
      rw [upd, if_neg (by omega), m1 j (by omega) (by omega)]
    · intro a ha
      show gp_uF (gp_uF σ.2 12 _) 8 _ a = _
      rw [gp_uF_ne (by omega), gp_uF_ne (by omega)]; exact m2 a (by omega) (by omega) (by omega)
    · intro t ht
      have := hpm t ht
      show gp_uF (gp_uF σ.2 12 (gm_nc σ.2 nt).2) 8 (fun j => if j < nt then σ.2 10 j else σ.2 8 j) 8 t = -1 ∨ ∃ q, q < np ∧ gp_uF (gp_uF σ.2 12 (gm_nc σ.2 nt).2) 8 (fun j => if j < nt then σ.2 10 j else σ.2 8 j) 8 t = nI q
      rw [this]
      exact gr_v _ (pz_dg_r ht) h4
    · show (1 : Int32) = σ.1 4
      rw [mJ 4 (by omega) (by omega) (by omega) (by omega), hpl1]
    · right
      show σ.1 4 = 1
      rw [mJ 4 (by omega) (by omega) (by omega) (by omega), hpl1]
    · show (-1 : Int32) = σ.1 8
      exact s3.symm
    · show nI (gp_nc τ.2 nt).1 = nI (gm_nc σ.2 nt).1
      rw [hnc.1]
    · have := gm_nc_le (F := σ.2) nt
      omega
    · intro j hj
      show (gp_nc τ.2 nt).2 j = (gm_nc σ.2 nt).2 j
      exact hnc.2 j (by rw [hnc.1]; exact hj)
    · show σ.1 0 = 0
      rw [m1 0 (by omega) (by omega)]; rfl
