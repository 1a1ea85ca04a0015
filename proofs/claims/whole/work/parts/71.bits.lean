/-! ===== places marked by bits ===== -/
def pz_mk (b : Nat → Bool) : Nat → Int32
  | 0 => 0
  | k + 1 => if b k then pz_mk b k ||| (1 <<< (nI k &&& 31)) else pz_mk b k
def pz_g (x : Int32) (i : Nat) : Bool := x.toBitVec.getLsbD i
theorem pz_ext {x y : Int32} (h : ∀ i, i < 32 → pz_g x i = pz_g y i) : x = y := Int32.toBitVec_inj.mp (BitVec.eq_of_getLsbD_eq h)
theorem pz_one {k i : Nat} (hk : k < 31) : pz_g ((1 : Int32) <<< (nI k &&& 31)) i = decide (i = k) := by
  have h : ∀ k, k < 31 → ((1 : Int32) <<< (nI k &&& 31)).toBitVec = BitVec.twoPow 32 k := by decide +kernel
  rw [pz_g, h k hk, BitVec.getLsbD_twoPow]
  by_cases e : k = i
  · subst e; simp; omega
  · simp [e, Ne.symm e]
theorem pz_or (x y : Int32) (i : Nat) : pz_g (x ||| y) i = (pz_g x i || pz_g y i) := by simp [pz_g]
theorem pz_and (x y : Int32) (i : Nat) : pz_g (x &&& y) i = (pz_g x i && pz_g y i) := by simp [pz_g]
theorem pz_z (i : Nat) : pz_g 0 i = false := by simp [pz_g]
theorem pz_not (x : Int32) {i : Nat} (h : i < 32) : pz_g (x ^^^ (-1)) i = !pz_g x i := by
  have h1 : (-1 : Int32).toBitVec = BitVec.allOnes 32 := by decide
  simp [pz_g, h1, h]
theorem pz_mk_g {b : Nat → Bool} {i : Nat} : ∀ n, n ≤ 31 → pz_g (pz_mk b n) i = (decide (i < n) && b i) := by
  intro n
  induction n with
  | zero => intro _; simp [pz_mk, pz_z]
  | succ n ih =>
    intro hn
    rw [pz_mk]
    by_cases hb : b n = true
    · rw [if_pos hb, pz_or, ih (by omega), pz_one (by omega)]
      by_cases e : i = n
      · subst e; simp [hb]
      · by_cases h : i < n
        · simp [e, h, show i < n + 1 by omega]
        · simp [e, h, show ¬ i < n + 1 by omega]
    · rw [if_neg hb, ih (by omega)]
      by_cases e : i = n
      · subst e; simp [hb]
      · by_cases h : i < n
        · simp [h, show i < n + 1 by omega]
        · simp [h, show ¬ i < n + 1 by omega]
theorem pz_and0 {x y : Int32} : x &&& y = 0 ↔ ∀ i, i < 32 → ¬ (pz_g x i = true ∧ pz_g y i = true) := by
  constructor
  · intro h i _ hc
    have h1 := pz_and x y i
    rw [h, pz_z, hc.1, hc.2] at h1
    cases h1
  · intro h
    refine pz_ext fun i hi => ?_
    rw [pz_and, pz_z]
    cases h1 : pz_g x i
    · rfl
    · cases h2 : pz_g y i
      · rfl
      · exact absurd ⟨h1, h2⟩ (h i hi)
theorem pz_mk_c {b c : Nat → Bool} : ∀ n, (∀ i, i < n → b i = c i) → pz_mk b n = pz_mk c n := by
  intro n
  induction n with
  | zero => intro _; rfl
  | succ n ih => intro h; rw [pz_mk, pz_mk, ih fun i hi => h i (by omega), h n (by omega)]
theorem pz_off {b : Nat → Bool} {n : Nat} (hn : n < 31) : (pz_mk b n ||| (1 <<< (nI n &&& 31))) &&& ((1 <<< (nI n &&& 31)) ^^^ (-1)) = pz_mk b n := by
  refine pz_ext fun i hi => ?_
  rw [pz_and, pz_or, pz_not _ hi, pz_one hn, pz_mk_g n (by omega)]
  by_cases e : i = n
  · subst e; simp
  · simp [e]
def pz_cn (b : Nat → Bool) : Nat → Nat
  | 0 => 0
  | k + 1 => if b k then pz_cn b k + 1 else pz_cn b k
theorem pz_cn_le {b : Nat → Bool} : ∀ n, pz_cn b n ≤ n := by
  intro n
  induction n with
  | zero => exact Nat.le_refl _
  | succ n ih => rw [pz_cn]; split <;> omega
theorem pz_pop {b : Nat → Bool} : ∀ n, n ≤ 6 → gp_pop (pz_mk b n) = nI (pz_cn b n) := by
  have h : ∀ x0 x1 x2 x3 x4 x5 : Bool, ∀ n, n < 7 → gp_pop (pz_mk (fun i => if i = 0 then x0 else if i = 1 then x1 else if i = 2 then x2 else if i = 3 then x3 else if i = 4 then x4 else x5) n) = nI (pz_cn (fun i => if i = 0 then x0 else if i = 1 then x1 else if i = 2 then x2 else if i = 3 then x3 else if i = 4 then x4 else x5) n) := by decide +kernel
  intro n hn
  have h1 := h (b 0) (b 1) (b 2) (b 3) (b 4) (b 5) n (by omega)
  have h2 : ∀ i, i < n → (if i = 0 then b 0 else if i = 1 then b 1 else if i = 2 then b 2 else if i = 3 then b 3 else if i = 4 then b 4 else b 5) = b i := by
    intro i hi
    have : i = 0 ∨ i = 1 ∨ i = 2 ∨ i = 3 ∨ i = 4 ∨ i = 5 := by omega
    rcases this with e | e | e | e | e | e <;> subst e <;> rfl
  rw [pz_mk_c n h2] at h1
  rw [h1]
  have h3 : ∀ m, m ≤ n → pz_cn (fun i => if i = 0 then b 0 else if i = 1 then b 1 else if i = 2 then b 2 else if i = 3 then b 3 else if i = 4 then b 4 else b 5) m = pz_cn b m := by
    intro m
    induction m with
    | zero => intro _; rfl
    | succ m ih => intro hm; rw [pz_cn, pz_cn, ih (by omega)]; simp only [h2 m (by omega)]
  rw [h3 n (Nat.le_refl _)]
theorem pz_bit {k : Nat} (hk : k < 31) : gp_bit (nI k) = 1 <<< (nI k &&& 31) := by
  rw [gp_bit, if_neg fun e => gp_nn (by omega) e]
theorem pz_bit4 : gp_bit (-1) = 1 <<< (nI 4 &&& 31) := by decide
theorem pz_has {x : Int32} {k : Nat} (hk : k < 31) : (x &&& (1 <<< (nI k &&& 31)) = 0) ↔ pz_g x k = false := by
  rw [pz_and0]
  constructor
  · intro h
    cases h1 : pz_g x k
    · rfl
    · exact absurd ⟨h1, by rw [pz_one hk]; simp⟩ (h k (by omega))
  · intro h i hi hc
    rw [pz_one hk] at hc
    have : i = k := by simpa using hc.2
    subst this
    rw [h] at hc
    cases hc.1
theorem pz_bs {F : Nat → Nat → Int32} {ns t : Nat} : ∀ n, n ≤ 4 → gp_bs F ns t n = pz_mk (fun k => gp_suit F ns k t) n := by
  intro n
  induction n with
  | zero => intro _; rfl
  | succ n ih => intro h; rw [gp_bs, pz_mk, ih (by omega), pz_bit (by omega)]
theorem pz_bn {I : Nat → Int32} {F : Nat → Nat → Int32} {t : Nat} : ∀ n, gp_bn I F t n = pz_mk (fun k => !decide (k = t) && gp_near I F k t) n := by
  intro n
  induction n with
  | zero => rfl
  | succ n ih =>
    rw [gp_bn, pz_mk, ih]
    by_cases e : n = t
    · simp [e]
    · simp [e]
