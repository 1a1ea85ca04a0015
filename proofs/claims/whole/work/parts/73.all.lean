/-! ===== all lists in order ===== -/
theorem pz_fold_c {α : Type} {f g : α → Nat → α} : ∀ (l : List Nat) (B : α), (∀ B, ∀ p ∈ l, f B p = g B p) → l.foldl f B = l.foldl g B := by
  intro l
  induction l with
  | nil => intro B _; rfl
  | cons p l ih =>
    intro B h
    rw [List.foldl_cons, List.foldl_cons, h B p List.mem_cons_self]
    exact ih _ fun B q hq => h B q (List.mem_cons_of_mem _ hq)
theorem pz_fold_id {α β : Type} {f : α → β → α} : ∀ (l : List β) (B : α), (∀ B, ∀ p ∈ l, f B p = B) → l.foldl f B = B := by
  intro l
  induction l with
  | nil => intro B _; rfl
  | cons p l ih =>
    intro B h
    rw [List.foldl_cons, h B p List.mem_cons_self]
    exact ih _ fun B q hq => h B q (List.mem_cons_of_mem _ hq)
def pz_st (may : List Nat → Nat → Bool) (non : List Nat → Bool) (a : List Nat) (x : Nat) : Bool := if x = 4 then non a else may a x
def pz_ok (may : List Nat → Nat → Bool) (non : List Nat → Bool) : List Nat → List Nat → Bool
  | _, [] => true
  | a, x :: xs => pz_st may non a x && pz_ok may non (a ++ [x]) xs
theorem pz_ok_s {may : List Nat → Nat → Bool} {non : List Nat → Bool} {y : Nat} : ∀ (xs a : List Nat), pz_ok may non a (xs ++ [y]) = (pz_ok may non a xs && pz_st may non (a ++ xs) y) := by
  intro xs
  induction xs with
  | nil => intro a; simp [pz_ok]
  | cons x xs ih => intro a; rw [List.cons_append, pz_ok, pz_ok, ih, List.append_assoc, Bool.and_assoc]; rfl
def pz_fu (np : Nat) : Nat → List (List Nat)
  | 0 => [[]]
  | k + 1 => (List.range np).flatMap (fun p => (pz_fu np k).map (fun xs => p :: xs)) ++ (pz_fu np k).map (fun xs => 4 :: xs)
theorem pz_all {α : Type} {np : Nat} (hnp : np ≤ 4) {may : List Nat → Nat → Bool} {non : List Nat → Bool} (g : α → List Nat → α) : ∀ (k : Nat) (a : List Nat) (B : α), (sx_all np may non k a).foldl g B = (pz_fu np k).foldl (fun B xs => if pz_ok may non a xs then g B (a ++ xs) else B) B := by
  intro k
  induction k with
  | zero => intro a B; simp [sx_all, pz_fu, pz_ok]
  | succ k ih =>
    intro a B
    have hx : ∀ (x : Nat) (B : α), ((pz_fu np k).map (fun xs => x :: xs)).foldl (fun B xs => if pz_ok may non a xs then g B (a ++ xs) else B) B = if pz_st may non a x then (sx_all np may non k (a ++ [x])).foldl g B else B := by
      intro x B
      rw [List.foldl_map]
      by_cases h : pz_st may non a x = true
      · rw [if_pos h, ih]
        congr 1
        funext B xs
        rw [pz_ok, h, Bool.true_and, List.append_assoc]
        rfl
      · rw [if_neg h]
        refine pz_fold_id _ _ fun B xs _ => ?_
        rw [pz_ok, (Bool.not_eq_true _).mp h, Bool.false_and]
        rfl
    rw [sx_all, pz_fu, List.foldl_append, List.foldl_append, ← sx_filter (may a) (fun B p => (sx_all np may non k (a ++ [p])).foldl g B) (fun p => sx_all np may non k (a ++ [p])) g (fun _ _ _ => rfl), List.foldl_flatMap, hx]
    have h1 : (List.range np).foldl (fun B p => if may a p then (sx_all np may non k (a ++ [p])).foldl g B else B) B = (List.range np).foldl (fun B p => ((pz_fu np k).map (fun xs => p :: xs)).foldl (fun B xs => if pz_ok may non a xs then g B (a ++ xs) else B) B) B := by
      refine pz_fold_c _ _ fun B p hp => ?_
      rw [hx, pz_st, if_neg (show ¬ p = 4 by have := List.mem_range.mp hp; omega)]
    rw [h1, pz_st, if_pos rfl]
    by_cases h2 : non a = true
    · rw [if_pos h2, if_pos h2]
    · rw [if_neg h2, if_neg h2]; rfl
def pz_c (np d : Nat) : Nat := if d = np then 4 else d
def pz_dg (np : Nat) : Nat → Nat → List Nat
  | 0, _ => []
  | k + 1, i => pz_c np (i / (np + 1) ^ k % (np + 1)) :: pz_dg np k i
theorem pz_dg_l {np : Nat} : ∀ k i, (pz_dg np k i).length = k := by
  intro k
  induction k with
  | zero => intro i; rfl
  | succ k ih => intro i; rw [pz_dg, List.length_cons, ih]
theorem pz_dg_m {np : Nat} : ∀ k i c, pz_dg np k (c * (np + 1) ^ k + i) = pz_dg np k i := by
  intro k
  induction k with
  | zero => intro i c; rfl
  | succ k ih =>
    intro i c
    have e : c * (np + 1) ^ (k + 1) = (c * (np + 1)) * (np + 1) ^ k := by rw [Nat.pow_succ, Nat.mul_comm ((np + 1) ^ k), Nat.mul_assoc]
    have h0 : 0 < (np + 1) ^ k := Nat.pow_pos (by omega)
    rw [pz_dg, pz_dg, e, ih, Nat.mul_comm (c * (np + 1)), Nat.mul_add_div h0, Nat.mul_comm c, Nat.mul_add_mod]
theorem pz_rm (m n : Nat) : List.range (m * n) = (List.range m).flatMap (fun d => (List.range n).map (fun i => d * n + i)) := by
  induction m with
  | zero => simp
  | succ m ih => rw [Nat.succ_mul, List.range_add, ih, List.range_succ, List.flatMap_append]; simp
theorem pz_fu_e {np : Nat} : ∀ k, pz_fu np k = (List.range ((np + 1) ^ k)).map (pz_dg np k) := by
  intro k
  induction k with
  | zero => rfl
  | succ k ih =>
    have h0 : 0 < (np + 1) ^ k := Nat.pow_pos (by omega)
    have hd : ∀ d, d < np + 1 → ((List.range ((np + 1) ^ k)).map (fun i => d * (np + 1) ^ k + i)).map (pz_dg np (k + 1)) = (pz_fu np k).map (fun xs => pz_c np d :: xs) := by
      intro d hd
      rw [ih, List.map_map, List.map_map]
      refine List.map_congr_left fun i hi => ?_
      have hi := List.mem_range.mp hi
      show pz_dg np (k + 1) (d * (np + 1) ^ k + i) = pz_c np d :: pz_dg np k i
      rw [pz_dg, pz_dg_m, Nat.mul_comm d, Nat.mul_add_div h0, Nat.div_eq_of_lt hi, Nat.add_zero, Nat.mod_eq_of_lt hd]
    rw [Nat.pow_succ, Nat.mul_comm, pz_rm, List.map_flatMap, List.range_succ, List.flatMap_append, List.flatMap_singleton, hd np (by omega), pz_fu]
    congr 1
    · rw [List.flatMap_def, List.flatMap_def]
      congr 1
      refine List.map_congr_left fun d h => ?_
      have h := List.mem_range.mp h
      rw [hd d (by omega), pz_c, if_neg (by omega)]
    · simp [pz_c]
theorem pz_dg_g {np : Nat} : ∀ k i j, j < k → (pz_dg np k i).getD j 4 = pz_c np (i / (np + 1) ^ (k - 1 - j) % (np + 1)) := by
  intro k
  induction k with
  | zero => intro i j h; omega
  | succ k ih =>
    intro i j h
    rw [pz_dg]
    cases j with
    | zero => simp
    | succ j =>
      rw [List.getD_cons_succ, ih i j (by omega)]
      rw [show k - 1 - j = k + 1 - 1 - (j + 1) by omega]
theorem pz_vc {np d : Nat} (hnp : np ≤ 4) (hd : d < np + 1) : gm_d1 np d = pz_v (pz_c np d) := by
  rw [gm_d1, pz_v, pz_c]
  by_cases e : d = np
  · rw [if_pos e, if_pos e, if_pos rfl]
  · rw [if_neg e, if_neg e, if_neg (by omega)]
theorem pz_dg_v {np nt i j : Nat} {f : Nat → Int32} (hnp : np ≤ 4) (hj : j < nt) : gm_dg np nt i f j = pz_v ((pz_dg np nt i).getD j 4) := by
  rw [gm_dg, pz_dg_g nt i j hj, ← pz_vc hnp (Nat.mod_lt _ (by omega))]
  show (if j < nt then _ else _) = _
  rw [if_pos hj]
theorem pz_dg_r {np nt i j : Nat} (hj : j < nt) : (pz_dg np nt i).getD j 4 < np ∨ (pz_dg np nt i).getD j 4 = 4 := by
  rw [pz_dg_g nt i j hj, pz_c]
  have := Nat.mod_lt (i / (np + 1) ^ (nt - 1 - j)) (show np + 1 > 0 by omega)
  split <;> omega
theorem pz_v_inj {x y : Nat} (hx : x ≤ 4) (hy : y ≤ 4) : pz_v x = pz_v y ↔ x = y := by
  have h : ∀ x, x < 5 → ∀ y, y < 5 → (pz_v x = pz_v y ↔ x = y) := by decide
  exact h x (by omega) y (by omega)
/-- what the class's search finds, over the numbers of the plans -/
theorem pz_find {np nt : Nat} (hnp : np ≤ 4) {may : List Nat → Nat → Bool} {non : List Nat → Bool} {wt : List Nat → Nat → Nat} {kw : Nat} (hw : ∀ a x, kw ≤ wt a x) (B : Nat × List Nat) : sx_go np may non wt kw nt [] 0 B = (List.range ((np + 1) ^ nt)).foldl (fun B i => if pz_ok may non [] (pz_dg np nt i) then sx_up wt B (pz_dg np nt i) else B) B := by
  have h := sx_go_eq (np := np) (may := may) (non := non) hw nt [] B
  rw [show sx_sc wt [] = 0 from rfl] at h
  rw [h, pz_all hnp, pz_fu_e, List.foldl_map]
  rfl
