/-! ===== the easy ones ===== -/
section GrE
variable {I : Nat → Int32} {F : Nat → Nat → Int32} {J : Nat → Int32} {G : Nat → Nat → Int32} {np nt ns nc : Nat} {b e : Nat → Nat} {lim : Nat}
theorem gr_j0 (h : gr_R I F J G np nt ns nc b e lim) (k : Int32) : gr_R I F (upd J 0 k) G np nt ns nc b e lim :=
  gr_mk h (fun _ _ => rfl) (fun _ _ => rfl) (fun j hj => by rw [upd, if_neg (by omega)]) (fun _ _ => rfl) h.T.pl h.va h.pn h.p01 h.td h.i0 h.j9 h.nc6 h.cd
theorem gr_u9 (h : gr_R I F J G np nt ns nc b e lim) (k : Int32) (f : Nat → Int32) : gr_R I F (upd J 0 k) (gp_uF G 9 f) np nt ns nc b e lim :=
  gr_mk h (fun _ _ => rfl) (fun _ _ => rfl) (fun j hj => by rw [upd, if_neg (by omega)]) (fun a ha => gp_uF_ne (by omega)) h.T.pl h.va h.pn h.p01 h.td h.i0 h.j9 h.nc6 h.cd
theorem gr_person (h : gr_R I F J G np nt ns nc b e lim) (hnp : np < 4) (x : Int32) : gr_R (upd I 4 (nI (np + 1))) (gp_uF F 0 (upd (F 0) np x)) (upd (upd J 0 0) 1 (nI (np + 1))) (gp_uF G 0 (upd (G 0) np x)) (np + 1) nt ns nc b e lim := by
  refine ⟨⟨by omega, h.T.nt6, ?_, h.T.so, h.T.tk, h.T.pl, h.T.hr, h.T.rs, h.T.li, h.T.ln⟩, rfl, rfl, h.i6, h.j3, h.i5, h.j2, h.s20, h.fz, h.pn, h.p01, h.td, h.i0, h.j9, h.nc6, h.cd, ?_⟩
  · intro p hp
    show upd (F 0) np x p = upd (G 0) np x p
    by_cases c : p = np
    · subst c; simp [upd]
    · simp only [upd, if_neg c]; exact h.T.sk p (by omega)
  · intro t ht
    rcases h.va t ht with z | ⟨q, hq, z⟩
    · exact Or.inl z
    · exact Or.inr ⟨q, by omega, z⟩
theorem gr_task (h : gr_R I F J G np nt ns nc b e lim) (hnt : nt < 6) (x y z w : Int32) (y1 z1 : Nat) (hy : y = nI y1) (hz : z = nI z1) (hyz : y1 < z1) (hz96 : z1 ≤ 96) : gr_R (upd I 6 (nI (nt + 1))) (gp_uF (gp_uF (gp_uF (gp_uF (gp_uF F 14 (upd (F 14) nt (-1))) 4 (upd (F 4) nt x)) 5 (upd (F 5) nt y)) 6 (upd (F 6) nt z)) 7 (upd (F 7) nt w)) (upd (upd J 0 0) 3 (nI (nt + 1))) (gp_uF (gp_uF (gp_uF (gp_uF (gp_uF G 4 (upd (G 4) nt x)) 5 (upd (G 5) nt y)) 6 (upd (G 6) nt z)) 7 (upd (G 7) nt w)) 8 (upd (G 8) nt (-1))) np (nt + 1) ns nc (fun j => if j = nt then y1 else b j) (fun j => if j = nt then z1 else e j) lim := by
  refine ⟨⟨h.T.np4, by omega, h.T.sk, h.T.so, ?_, ?_, ?_, h.T.rs, h.T.li, h.T.ln⟩, h.i4, h.j1, rfl, rfl, h.i5, h.j2, h.s20, h.fz, h.pn, h.p01, h.td, h.i0, h.j9, h.nc6, h.cd, ?_⟩
  · intro t ht
    show upd (F 4) nt x t = upd (G 4) nt x t ∧ upd (F 5) nt y t = upd (G 5) nt y t ∧ upd (F 6) nt z t = upd (G 6) nt z t ∧ upd (F 7) nt w t = upd (G 7) nt w t
    by_cases c : t = nt
    · subst c; simp [upd]
    · simp only [upd, if_neg c]; exact h.T.tk t (by omega)
  · intro t ht
    show upd (F 14) nt (-1) t = upd (G 8) nt (-1) t
    by_cases c : t = nt
    · subst c; simp [upd]
    · simp only [upd, if_neg c]; exact h.T.pl t (by omega)
  · intro t ht
    show upd (G 5) nt y t = nI (if t = nt then y1 else b t) ∧ upd (G 6) nt z t = nI (if t = nt then z1 else e t) ∧ (if t = nt then y1 else b t) < (if t = nt then z1 else e t) ∧ (if t = nt then z1 else e t) ≤ 96
    by_cases c : t = nt
    · simp only [upd, if_pos c]; exact ⟨hy, hz, hyz, hz96⟩
    · simp only [upd, if_neg c]; exact h.T.hr t (by omega)
  · intro t ht
    show upd (G 8) nt (-1) t = -1 ∨ ∃ q, q < np ∧ upd (G 8) nt (-1) t = nI q
    by_cases c : t = nt
    · left; rw [upd, if_pos c]
    · rw [upd, if_neg c]; exact h.va t (by omega)
theorem gr_rest (h : gr_R I F J G np nt ns nc b e lim) (x : Int32) : gr_R (upd I 7 x) F (upd (upd J 0 0) 5 x) G np nt ns nc b e lim :=
  ⟨⟨h.T.np4, h.T.nt6, h.T.sk, h.T.so, h.T.tk, h.T.pl, h.T.hr, rfl, h.T.li, h.T.ln⟩, h.i4, h.j1, h.i6, h.j3, h.i5, h.j2, h.s20, h.fz, h.pn, h.p01, h.td, h.i0, h.j9, h.nc6, h.cd, h.va⟩
theorem gr_limit (h : gr_R I F J G np nt ns nc b e lim) (x : Int32) (l1 : Nat) (hx : x = nI l1) (hl : l1 ≤ 96) : gr_R (upd I 8 x) F (upd (upd J 0 0) 6 x) G np nt ns nc b e l1 :=
  ⟨⟨h.T.np4, h.T.nt6, h.T.sk, h.T.so, h.T.tk, h.T.pl, h.T.hr, h.T.rs, rfl, hx, hl⟩, h.i4, h.j1, h.i6, h.j3, h.i5, h.j2, h.s20, h.fz, h.pn, h.p01, h.td, h.i0, h.j9, h.nc6, h.cd, h.va⟩
theorem gr_freeze (h : gr_R I F J G np nt ns nc b e lim) (x : Int32) : gr_R (upd I 1 x) F (upd (upd J 0 0) 7 x) G np nt ns nc b e lim :=
  ⟨⟨h.T.np4, h.T.nt6, h.T.sk, h.T.so, h.T.tk, h.T.pl, h.T.hr, h.T.rs, h.T.li, h.T.ln⟩, h.i4, h.j1, h.i6, h.j3, h.i5, h.j2, h.s20, rfl, h.pn, h.p01, h.td, h.i0, h.j9, h.nc6, h.cd, h.va⟩
theorem gr_cost (h : gr_R I F J G np nt ns nc b e lim) : gp_e2 (F 14) nt np = gm_c (fun j => if j < nt then G 8 j else G 9 j) nt np := by
  rw [pz_e2]
  exact gr_e2 (fun j hj => by rw [if_pos hj]; exact h.T.pl j hj) np
theorem gr_q {F' G' : Nat → Nat → Int32} {f : Nat → Int32} {x : Int32} {nt : Nat} (h9 : ∀ j, j < nt → f j = G' 9 j) (h5 : ∀ j, j < nt → F' 5 j = G' 5 j) (h6 : ∀ j, j < nt → F' 6 j = G' 6 j) : ∀ k, k ≤ nt → gp_qo F' f x k = gm_q G' x k := by
  intro k
  induction k with
  | zero => intro _; rfl
  | succ k ih =>
    intro hk
    rw [gp_qo, gm_q, ih (by omega), h9 k (by omega), h5 k (by omega), h6 k (by omega)]
    by_cases c : G' 9 k = x
    · rw [if_pos c, if_pos c, Int32.sub_eq_add_neg, Int32.sub_eq_add_neg, Int32.add_assoc]
    · rw [if_neg c, if_neg c]
theorem gr_work (h : gr_R I F J G np nt ns nc b e lim) (x : Int32) : gp_qo F (F 14) x nt = gm_q (gp_uF G 9 (fun j => if j < nt then G 8 j else G 9 j)) x nt :=
  gr_q (G' := gp_uF G 9 (fun j => if j < nt then G 8 j else G 9 j)) (fun j hj => by
    show F 14 j = (if j < nt then G 8 j else G 9 j)
    rw [if_pos hj]; exact h.T.pl j hj) (fun j hj => (h.T.tk j hj).2.1) (fun j hj => (h.T.tk j hj).2.2.1) nt (Nat.le_refl _)
theorem gr_nu {f : Nat → Int32} {x : Int32} : ∀ k, ∃ c, c ≤ k ∧ gp_nu f x k = nI c := by
  intro k
  induction k with
  | zero => exact ⟨0, Nat.le_refl _, rfl⟩
  | succ k ih =>
    obtain ⟨c, hc, he⟩ := ih
    rw [gp_nu, he]
    split
    · exact ⟨c + 1, by omega, nI_1 c⟩
    · exact ⟨c, by omega, rfl⟩
theorem gr_fw {f : Nat → Int32} {nt : Nat} (h6 : nt ≤ 6) : ∀ k, 0 < k → gp_fw f nt k = gm_fw f nt k := by
  intro k
  induction k with
  | zero => intro h; omega
  | succ k ih =>
    intro _
    by_cases z : k = 0
    · subst z
      obtain ⟨c, hc, he⟩ := gr_nu (f := f) (x := nI 0) nt
      rw [gp_fw, gm_fw, gp_fw, gm_fw, he]
      rw [show (6 : Int32) = nI 6 from rfl, show (99 : Int32) = nI 99 from rfl, if_pos ((nI_ltI (by omega) (by omega)).mpr (show c < 99 by omega))]
      by_cases w : nI c < nI 6
      · rw [if_pos w]
      · rw [if_neg w]
        have : ¬ c < 6 := fun y => w ((nI_ltI (by omega) (by omega)).mpr y)
        rw [show c = 6 by omega]
    · rw [gp_fw, gm_fw, ih (by omega)]
theorem gr_fair (h : gr_R I F J G np nt ns nc b e lim) : (if np = 0 then (0 : Int32) else gp_fm (F 14) nt np - gp_fw (F 14) nt np) = if np = 0 then 0 else gp_fm (G 8) nt np - gm_fw (G 8) nt np := by
  have hn : ∀ (x : Int32) k, k ≤ nt → gp_nu (F 14) x k = gp_nu (G 8) x k := by
    intro x k
    induction k with
    | zero => intro _; rfl
    | succ k ih => intro hk; rw [gp_nu, gp_nu, ih (by omega), h.T.pl k (by omega)]
  have h1 : ∀ k, gp_fm (F 14) nt k = gp_fm (G 8) nt k := by
    intro k
    induction k with
    | zero => rfl
    | succ k ih => rw [gp_fm, gp_fm, ih, hn _ nt (Nat.le_refl _)]
  have h2 : ∀ k, gp_fw (F 14) nt k = gp_fw (G 8) nt k := by
    intro k
    induction k with
    | zero => rfl
    | succ k ih => rw [gp_fw, gp_fw, ih, hn _ nt (Nat.le_refl _)]
  by_cases c : np = 0
  · rw [if_pos c, if_pos c]
  · rw [if_neg c, if_neg c, h1, h2, gr_fw h.T.nt6 np (by omega)]
/-! ===== swap ===== -/
theorem gr_hi {F' : Nat → Nat → Int32} {x : Int32} {t : Nat} : ∀ k, gp_hi I F' x t k = true ↔ ∃ u, u < k ∧ t < u ∧ gp_pr I F' x t u = true := by
  intro k
  induction k with
  | zero => simp [gp_hi]
  | succ k ih =>
    rw [gp_hi, Bool.or_eq_true, ih, Bool.and_eq_true, decide_eq_true_eq]
    constructor
    · rintro (⟨u, h1, h2⟩ | h)
      · exact ⟨u, by omega, h2⟩
      · exact ⟨k, by omega, h⟩
    · rintro ⟨u, h1, h2, h3⟩
      by_cases c : u = k
      · subst c; exact Or.inr ⟨h2, h3⟩
      · exact Or.inl ⟨u, by omega, h2, h3⟩
theorem gr_ho {F' : Nat → Nat → Int32} {x : Int32} {n : Nat} : ∀ k, gp_ho I F' x n k = true ↔ ∃ t, t < k ∧ ∃ u, u < n ∧ t < u ∧ gp_pr I F' x t u = true := by
  intro k
  induction k with
  | zero => simp [gp_ho]
  | succ k ih =>
    rw [gp_ho, Bool.or_eq_true, ih, gr_hi]
    constructor
    · rintro (⟨u, h1, h2⟩ | h)
      · exact ⟨u, by omega, h2⟩
      · exact ⟨k, by omega, h⟩
    · rintro ⟨u, h1, h2⟩
      by_cases c : u = k
      · subst c; exact Or.inr h2
      · exact Or.inl ⟨u, by omega, h2⟩
theorem gr_h2 {G' : Nat → Nat → Int32} {r x : Int32} : ∀ k, gm_h2 r G' x k = true ↔ ∃ t, t < k ∧ ∃ u, u < t ∧ G' 9 t = x ∧ G' 9 u = x ∧ gm_near r G' t u = true := by
  intro k
  induction k with
  | zero => simp [gm_h2]
  | succ k ih =>
    rw [gm_h2, Bool.or_eq_true, ih, pz_h1]
    constructor
    · rintro (⟨u, h1, h2⟩ | h)
      · exact ⟨u, by omega, h2⟩
      · exact ⟨k, by omega, h⟩
    · rintro ⟨u, h1, h2⟩
      by_cases c : u = k
      · subst c; exact Or.inr h2
      · exact Or.inl ⟨u, by omega, h2⟩
theorem gr_near (h : gr_R I F J G np nt ns nc b e lim) {F' G' : Nat → Nat → Int32} (h5 : F' 5 = F 5) (h6 : F' 6 = F 6) (g5 : G' 5 = G 5) (g6 : G' 6 = G 6) (h9 : ∀ j, j < nt → F' 14 j = G' 9 j) (x : Int32) : gp_ho I F' x nt nt = gm_h2 (J 5) G' x nt := by
  have hn : ∀ t u, t < nt → u < nt → gp_near I F' u t = gm_near (J 5) G' t u := by
    intro t u ht hu
    have := h.T.near ht hu
    rw [gp_near, gm_near] at this
    rw [gp_near, gm_near, h5, h6, g5, g6]; exact this
  rw [Bool.eq_iff_iff, gr_ho, gr_h2]
  constructor
  · rintro ⟨t, h1, u, h2, h3, h4⟩
    rw [gp_pr, Bool.and_eq_true, Bool.and_eq_true, decide_eq_true_eq, decide_eq_true_eq, h9 t h1, h9 u h2, hn u t h2 h1] at h4
    exact ⟨u, h2, t, h3, h4.1.2, h4.1.1, h4.2⟩
  · rintro ⟨t, h1, u, h2, h3, h4, h5⟩
    refine ⟨u, by omega, t, h1, h2, ?_⟩
    rw [gp_pr, h9 t h1, h9 u (by omega), hn t u h1 (by omega), h5, h3, h4]
    simp
theorem gr_uns (h : gr_R I F J G np nt ns nc b e lim) {t : Nat} (ht : t < nt) {x : Int32} (hx : x = -1 ∨ ∃ q, q < np ∧ x = nI q) : gp_uns F ns x t = gm_unf G ns x t := by
  rw [gp_uns, gm_unf]
  rcases hx with z | ⟨q, hq, z⟩
  · simp [z]
  · rw [z, nI_clamp (by have := h.T.np4; omega), h.T.suit hq ht]
theorem gr_swr (h : gr_R I F J G np nt ns nc b e lim) {a c : Nat} (ha : a < nt) (hc : c < nt) : gp_swr I F ns nt a c = gm_swr J G ns nt a c := by
  have pa := h.T.pl a ha
  have pc := h.T.pl c hc
  have h9 : ∀ j, j < nt → gp_swF F a c 14 j = gm_sF G nt a c 9 j := by
    intro j hj
    show upd (upd (F 14) a (F 14 c)) c (F 14 a) j = upd (upd (fun j => if j < nt then G 8 j else G 9 j) a (G 8 c)) c (G 8 a) j
    rw [upd, upd, upd, upd, pa, pc]
    split
    · rfl
    · split
      · rfl
      · exact h.T.pl j hj
  have hh : ∀ x, gp_htn I (gp_swF F a c) x nt = gm_n2 J (gm_sF G nt a c) x nt := by
    intro x
    rw [gp_htn, gm_n2, gr_near h (F' := gp_swF F a c) (G' := gm_sF G nt a c) rfl rfl rfl rfl h9]
  have hw : ∀ x, gp_wtl I (gp_swF F a c) x nt = gm_l2 J (gm_sF G nt a c) x nt := by
    intro x
    rw [gp_wtl, gm_l2, h.T.li]
    rw [gr_q (F' := gp_swF F a c) (G' := gm_sF G nt a c) h9 (fun j hj => (h.T.tk j hj).2.1) (fun j hj => (h.T.tk j hj).2.2.1) nt (Nat.le_refl _)]
  rw [gp_swr, gm_swr, h.fz, (h.T.tk a ha).2.1, (h.T.tk c hc).2.1, pa, pc, gr_uns h ha (h.va c hc), gr_uns h hc (h.va a ha), gp_fs, hh, hh, hw, hw]
  have e1 : ∀ x, gp_emp F a x = gm_emp G a x := fun x => by rw [gp_emp, gm_emp, (h.T.tk a ha).2.2.2]
  have e2 : ∀ x, gp_emp F c x = gm_emp G c x := fun x => by rw [gp_emp, gm_emp, (h.T.tk c hc).2.2.2]
  rw [e1, e2]
  simp only [Bool.or_eq_true]
theorem gr_sw (h : gr_R I F J G np nt ns nc b e lim) {a c : Nat} (ha : a < nt) (hc : c < nt) : gr_R I (gp_sw I F ns nt a c) (upd J 0 0) (gm_sw J G ns nt a c) np nt ns nc b e lim := by
  rw [gp_sw, gm_sw, gr_swr h ha hc]
  by_cases z : gm_swr J G ns nt a c = 0
  · rw [if_pos z, if_pos z]
    have e8 : ∀ t, gp_uF (gm_sF G nt a c) 8 (upd (upd (G 8) a (G 8 c)) c (G 8 a)) 8 t = upd (upd (G 8) a (G 8 c)) c (G 8 a) t := fun t => rfl
    refine gr_mk h (fun _ _ => rfl) (fun k hk => gp_uF_ne (by omega)) (fun j hj => by rw [upd, if_neg (by omega)]) (fun k hk => (gp_uF_ne (by omega)).trans (gp_uF_ne (by omega))) ?_ ?_ h.pn h.p01 h.td h.i0 h.j9 h.nc6 h.cd
    · intro t ht
      rw [e8]
      show upd (upd (F 14) a (F 14 c)) c (F 14 a) t = _
      rw [upd, upd, upd, upd, h.T.pl a ha, h.T.pl c hc, h.T.pl t ht]
    · intro t ht
      rw [e8, upd, upd]
      split
      · exact h.va a ha
      · split
        · exact h.va c hc
        · exact h.va t ht
  · rw [if_neg z, if_neg z]
    exact gr_mk h (fun _ _ => rfl) (fun _ _ => rfl) (fun j hj => by rw [upd, if_neg (by omega)]) (fun k hk => gp_uF_ne (by omega)) h.T.pl h.va h.pn h.p01 h.td h.i0 h.j9 h.nc6 h.cd
end GrE
/-! ===== what is refused ===== -/
theorem gr_lt {x a c : Int32} (h : a.toInt = c.toInt + 1) : x < a ↔ ¬ c < x := by
  rw [Int32.lt_iff_toInt_lt, Int32.lt_iff_toInt_lt]; omega
theorem gr_w {x a c : Int32} (h : a.toInt = c.toInt + 1) : gm_w x 0 c = true ↔ ¬ x < 0 ∧ x < a := by
  rw [gm_w, gr_lt h]; simp
theorem gr_w2 {x c : Int32} : gm_w x 0 c = true ↔ ¬ x < 0 ∧ x ≤ c := by
  rw [gm_w, ← Int32.not_lt]; simp
theorem gr_sp {y z : Int32} : gm_sp y z = true ↔ ¬ y < 0 ∧ ¬ z ≤ y ∧ z ≤ 96 := by
  rw [gm_sp, ← Int32.not_lt (a := 96)]; simp [and_assoc]
theorem gr_false {c : Bool} {P : Prop} (h : c = true ↔ P) (hn : ¬ P) : c = false := by
  cases c
  · rfl
  · exact absurd (h.mp rfl) hn
theorem gr_span {y z : Int32} (h1 : ¬ y < 0) (h2 : ¬ z ≤ y) (h3 : z ≤ 96) : ∃ y1 z1 : Nat, y = nI y1 ∧ z = nI z1 ∧ y1 < z1 ∧ z1 ≤ 96 := by
  have h4 : ¬ z < 0 := fun h => h2 (Int32.le_of_lt (Int32.lt_of_lt_of_le h (Int32.not_lt.mp h1)))
  obtain ⟨z1, hz, rfl⟩ := nI_of2 (M := 96) (n := 96) (by decide) h4 h3
  have h5 : y ≤ 96 := Int32.le_of_lt (Int32.lt_of_lt_of_le (Int32.not_le.mp h2) h3)
  obtain ⟨y1, hy, rfl⟩ := nI_of2 (M := 96) (n := 96) (by decide) h1 h5
  refine ⟨y1, z1, rfl, rfl, ?_, hz⟩
  exact Nat.lt_of_not_le fun h => h2 (nI_le (a := z1) (b := y1) h (by omega))
theorem gr_in {x : Int32} {n : Nat} (hn : n ≤ 100) : gp_in x (nI n) = true ↔ ∃ j, j < n ∧ x = nI j := by
  rw [gp_in, Bool.and_eq_true]
  constructor
  · rintro ⟨h1, h2⟩
    obtain ⟨j, hj, rfl⟩ := nI_of (x := x) (by simpa using h1)
    refine ⟨j, ?_, rfl⟩
    have h2 : ¬ nI n ≤ nI j := by simpa using h2
    exact Nat.lt_of_not_le fun h => h2 (nI_le (a := n) (b := j) h hj)
  · rintro ⟨j, hj, rfl⟩
    have h1 : ¬ nI j < 0 := nI_pos (by omega)
    have h2 : ¬ nI n ≤ nI j := nI_ge hj (by omega)
    simp [h1, h2]
theorem gr_c4 {x : Int32} : (x.toInt < 0 ∨ 3 < x.toInt) ∨ x = 0 ∨ x = 1 ∨ x = 2 ∨ x = 3 := by
  by_cases h : x.toInt < 0 ∨ 3 < x.toInt
  · exact Or.inl h
  · right
    have h1 : ∀ k : Int32, x.toInt = k.toInt → x = k := fun k h => Int32.toInt_inj.mp h
    have e0 : (0 : Int32).toInt = 0 := by decide
    have e1 : (1 : Int32).toInt = 1 := by decide
    have e2 : (2 : Int32).toInt = 2 := by decide
    have e3 : (3 : Int32).toInt = 3 := by decide
    have : x.toInt = 0 ∨ x.toInt = 1 ∨ x.toInt = 2 ∨ x.toInt = 3 := by omega
    rcases this with z | z | z | z
    · exact Or.inl (h1 0 (by omega))
    · exact Or.inr (Or.inl (h1 1 (by omega)))
    · exact Or.inr (Or.inr (Or.inl (h1 2 (by omega))))
    · exact Or.inr (Or.inr (Or.inr (h1 3 (by omega))))
theorem gr_c4f {x : Int32} (h : x.toInt < 0 ∨ 3 < x.toInt) : gm_w x 0 3 = false := by
  have e0 : (0 : Int32).toInt = 0 := by decide
  have e3 : (3 : Int32).toInt = 3 := by decide
  refine gr_false (gr_w2 (x := x) (c := 3)) fun ⟨h1, h2⟩ => ?_
  rw [Int32.lt_iff_toInt_lt] at h1
  rw [Int32.le_iff_toInt_le] at h2
  omega
