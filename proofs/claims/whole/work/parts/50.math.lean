/-! ===== the search, by itself: lists of choices, 4 is none ===== -/
section Sx
variable (np : Nat) (may : List Nat → Nat → Bool) (non : List Nat → Bool) (wt : List Nat → Nat → Nat) (kw : Nat)
/-- all that may follow on a, k choices more, in the order of the search -/
def sx_all : Nat → List Nat → List (List Nat)
  | 0, a => [a]
  | k + 1, a => ((List.range np).filter (may a)).flatMap (fun p => sx_all k (a ++ [p])) ++ (if non a then sx_all k (a ++ [4]) else [])
/-- what a list weighs -/
def sx_w : List Nat → List Nat → Nat
  | _, [] => 0
  | a, x :: xs => wt a x + sx_w (a ++ [x]) xs
def sx_sc (a : List Nat) : Nat := sx_w wt [] a
theorem sx_w_app (wt : List Nat → Nat → Nat) : ∀ (xs a : List Nat) (y : Nat), sx_w wt a (xs ++ [y]) = sx_w wt a xs + wt (a ++ xs) y := by
  intro xs
  induction xs with
  | nil => intro a y; simp [sx_w]
  | cons x xs ih =>
    intro a y
    have h := ih (a ++ [x]) y
    simp only [List.cons_append, sx_w, h, List.append_assoc, List.nil_append]
    omega
theorem sx_sc_app (wt : List Nat → Nat → Nat) (a : List Nat) (y : Nat) : sx_sc wt (a ++ [y]) = sx_sc wt a + wt a y := by
  have h := sx_w_app wt a [] y
  simpa [sx_sc] using h
/-- the better of what was found and a list -/
def sx_up (B : Nat × List Nat) (x : List Nat) : Nat × List Nat := if sx_sc wt x < B.1 then (sx_sc wt x, x) else B
/-- the search with its bound -/
def sx_go : Nat → List Nat → Nat → Nat × List Nat → Nat × List Nat
  | 0, a, sc, B => if B.1 ≤ sc + kw * 0 then B else (sc, a)
  | k + 1, a, sc, B =>
    if B.1 ≤ sc + kw * (k + 1) then B else
    let B1 := (List.range np).foldl (fun B p => if may a p then sx_go k (a ++ [p]) (sc + wt a p) B else B) B
    if non a then sx_go k (a ++ [4]) (sc + wt a 4) B1 else B1
theorem sx_ge {np : Nat} {may : List Nat → Nat → Bool} {non : List Nat → Bool} {wt : List Nat → Nat → Nat} {kw : Nat} (hw : ∀ a x, kw ≤ wt a x) : ∀ (k : Nat) (a x : List Nat), x ∈ sx_all np may non k a → sx_sc wt a + kw * k ≤ sx_sc wt x := by
  intro k
  induction k with
  | zero => intro a x h; simp [sx_all] at h; subst h; simp
  | succ k ih =>
    intro a x h
    have key : ∀ y, x ∈ sx_all np may non k (a ++ [y]) → sx_sc wt a + kw * (k + 1) ≤ sx_sc wt x := by
      intro y hy
      have h1 := ih _ _ hy
      rw [sx_sc_app] at h1
      have h2 := hw a y
      rw [Nat.mul_succ]
      omega
    simp only [sx_all, List.mem_append, List.mem_flatMap] at h
    rcases h with ⟨p, -, hp⟩ | h
    · exact key p hp
    · split at h
      · exact key 4 h
      · cases h
theorem sx_skip {wt : List Nat → Nat → Nat} : ∀ (l : List (List Nat)) (B : Nat × List Nat), (∀ x ∈ l, B.1 ≤ sx_sc wt x) → l.foldl (sx_up wt) B = B := by
  intro l
  induction l with
  | nil => intro B _; rfl
  | cons x l ih =>
    intro B h
    have h1 := h x (List.mem_cons_self)
    rw [List.foldl_cons]
    have h2 : sx_up wt B x = B := by unfold sx_up; rw [if_neg (by omega)]
    rw [h2]
    exact ih B fun y hy => h y (List.mem_cons_of_mem _ hy)
theorem sx_filter {α : Type} (q : Nat → Bool) (g : α → Nat → α) (f : Nat → List (List Nat)) (up : α → List Nat → α) (hg : ∀ B p, q p = true → g B p = (f p).foldl up B) : ∀ (l : List Nat) (B : α), l.foldl (fun B p => if q p then g B p else B) B = ((l.filter q).flatMap f).foldl up B := by
  intro l
  induction l with
  | nil => intro B; rfl
  | cons p l ih =>
    intro B
    rw [List.foldl_cons, ih]
    by_cases h : q p = true
    · rw [List.filter_cons_of_pos h, List.flatMap_cons, List.foldl_append, if_pos h, hg B p h]
    · rw [List.filter_cons_of_neg h, if_neg h]
/-- the search finds what going through all of it would find -/
theorem sx_go_eq {np : Nat} {may : List Nat → Nat → Bool} {non : List Nat → Bool} {wt : List Nat → Nat → Nat} {kw : Nat} (hw : ∀ a x, kw ≤ wt a x) : ∀ (k : Nat) (a : List Nat) (B : Nat × List Nat), sx_go np may non wt kw k a (sx_sc wt a) B = (sx_all np may non k a).foldl (sx_up wt) B := by
  intro k
  induction k with
  | zero =>
    intro a B
    simp only [sx_go, sx_all, List.foldl_cons, List.foldl_nil, sx_up, Nat.mul_zero, Nat.add_zero]
    by_cases h : B.1 ≤ sx_sc wt a
    · rw [if_pos h, if_neg (by omega)]
    · rw [if_neg h, if_pos (by omega)]
  | succ k ih =>
    intro a B
    by_cases h : B.1 ≤ sx_sc wt a + kw * (k + 1)
    · rw [sx_go, if_pos h]
      exact (sx_skip _ B fun x hx => Nat.le_trans h (sx_ge hw (k + 1) a x hx)).symm
    · rw [sx_go, if_neg h]
      simp only []
      have h1 := sx_filter (may a) (fun B p => sx_go np may non wt kw k (a ++ [p]) (sx_sc wt a + wt a p) B) (fun p => sx_all np may non k (a ++ [p])) (sx_up wt) (fun B p _ => by rw [← sx_sc_app]; exact ih _ B) (List.range np) B
      rw [h1, sx_all, List.foldl_append]
      by_cases h2 : non a = true
      · rw [if_pos h2, if_pos h2, ← sx_sc_app]
        exact ih _ _
      · rw [if_neg h2, if_neg h2]
        rfl
end Sx
