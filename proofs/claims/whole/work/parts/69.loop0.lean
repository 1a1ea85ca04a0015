/-! ===== the law's loop: the two worlds and out, kept apart ===== -/
theorem gq_d1 {A : Nat → Prop} {v w : va_W} (h : va_D A (v ++ w)) : va_D A v := ⟨fun i j p q hi hj hpq => h.1 i j p q (by rw [List.getElem?_append_left (List.getElem?_eq_some_iff.mp hi).1]; exact hi) (by rw [List.getElem?_append_left (List.getElem?_eq_some_iff.mp hj).1]; exact hj) hpq, fun k q hk => h.2 k q (by rw [List.getElem?_append_left (List.getElem?_eq_some_iff.mp hk).1]; exact hk)⟩
theorem gq_ix {v w : va_W} {k : Nat} {q : Nat × va_E} (h : w[k]? = some q) : (v ++ w)[v.length + k]? = some q := by
  rw [List.getElem?_append_right (Nat.le_add_right _ _), Nat.add_sub_cancel_left]; exact h
theorem gq_d2 {A : Nat → Prop} {v w : va_W} (h : va_D A (v ++ w)) : va_D A w := ⟨fun i j p q hi hj hpq => by
  have := h.1 _ _ p q (gq_ix (v := v) hi) (gq_ix (v := v) hj) hpq
  omega, fun k q hk => h.2 _ q (gq_ix (v := v) hk)⟩
theorem gq_ap {A : Nat → Prop} {v w : va_W} (h : va_D A (v ++ w)) : ∀ (i j : Nat) (p q : Nat × va_E), v[i]? = some p → w[j]? = some q → p.1 ≠ q.1 := by
  intro i j p q hi hj hpq
  have hlt := (List.getElem?_eq_some_iff.mp hi).1
  have := h.1 i _ p q (by rw [List.getElem?_append_left hlt]; exact hi) (gq_ix (v := v) hj) hpq
  omega
/-- what is apart stays -/
theorem gq_keep {D : va_G} {cl : List vw_C} {v w : va_W} {H H1 : Heap} (hP : va_P D cl v H) (ha : ∀ (i j : Nat) (p q : Nat × va_E), v[i]? = some p → w[j]? = some q → p.1 ≠ q.1) (hk : ∀ q : Nat, q < H.size → ¬ va_A w H.size q → H1[q]? = H[q]?) : va_P D cl v H1 := by
  refine hP.kept (fun k q hq => hk _ (hP k q hq).lt ?_)
  rintro (⟨j, e, h⟩ | h)
  · exact ha k j q (q.1, e) hq h rfl
  · have := (hP k q hq).lt
    omega
def gq_C (p : Program) (s : State) (m : MethodId) (c : Code) (b L : Nat) (xs : Nat → Int32) (E : gp_E) (cJ : ClassId) : Prop :=
  p.tables.exec = Jvm.exec ∧ c.code = code ∧ c.maxLocals = 7 ∧ s.vm.findClass "GuidePlansLaw" = some m.cls ∧ (∀ w ∈ gw, w.before #[Value.ref b] s = true) ∧ va_X b L xs s s.heap ∧ b < s.heap.size ∧ va_K E.1 gp_cl (gp_ty E ++ [(cJ, .long)]) s ∧ gx_St s ∧ gy_Ct s ∧ L ≤ 2560
def gq_M (E : gp_E) (aM : Nat → Nat) : gp_E := (E.1, E.2.1, E.2.2.1, aM)
def gq_W (s : State) (E : gp_E) (cJ : ClassId) (aM : Nat → Nat) (oa : Nat) (I : Nat → Int32) (F : Nat → Nat → Int32) (J : Nat → Int32) (G : Nat → Nat → Int32) (g : Nat → Int64) (H : Heap) (locs : List Loc) : Prop :=
  va_P E.1 gp_cl (gl_o cJ oa g :: gp_wG E I F) H ∧ va_P E.1 gp_cl (gp_wM (gq_M E aM) J G) H ∧ va_D (fun q => s.heap.size ≤ q) ((gl_o cJ oa g :: gp_wG E I F) ++ gp_wM (gq_M E aM) J G) ∧ va_S (fun q => s.heap.size ≤ q) s.heap H locs
abbrev gq_l (b oa n : Nat) (E : gp_E) (aM : Nat → Nat) : List (Nat × Value) := [(0, .ref b), (1, .ref (E.2.2.2 0)), (2, .ref (aM 0)), (3, .ref oa), (4, .int (nI n))]
section GqR
variable {p : Program} {l : Launch} {e : Env} {R : Room} {s : State} {m : MethodId} {args : Array Value} {below : List Frame} {meth : Method} {c : Code} {H : Heap} {locs : List Loc} {cells slots : Nat} {Q : State → Prop} {cc : ByteArray} {pc : Nat} {ls : Array Slot} {rest : List Value}
theorem gq_sld (hx : p.tables.exec = Jvm.exec) (hb : c.code = cc) {b L : Nat} {xs : Nat → Int32} (hX : va_X b L xs s s.heap) (hbl : b < s.heap.size) (hS : va_S (fun q => s.heap.size ≤ q) s.heap H locs) {i : Int32} (t : Nat) (hi : i = nI t) (ht : t < L) (hL : L ≤ 2560) (hdg : decode cc pc = .ok (.iaload, 1))
    (kk : W p l e R s m args below meth c H locs cells slots Q (F0 m (pc + 1) ls (.int (xs t) :: rest))) : W p l e R s m args below meth c H locs cells slots Q (F0 m pc ls (.int i :: .ref b :: rest)) := by
  subst hi
  refine va_sld hx hb hX hbl (Nat.not_le.mpr hbl) hS (vp_in_nI ht (by omega)) hdg ?_
  rw [nI_clamp (by omega)]
  exact kk
/-- a word in Java's way: x != 0 -/
theorem gq_ne0 (hx : p.tables.exec = Jvm.exec) (hb : c.code = cc) {x : Int32} {o1 o2 : Int} {t1 t2 : Nat} (d0 : decode cc pc = .ok (.ifCond .eq o1, 3)) (h1 : (pc : Int) + o1 = (t1 : Int)) (d1 : decode cc (pc + 3) = .ok (.iconst 1, 1)) (d2 : decode cc (pc + 3 + 1) = .ok (.goto o2, 3)) (h2 : ((pc + 3 + 1 : Nat) : Int) + o2 = (t2 : Int)) (d3 : decode cc t1 = .ok (.iconst 0, 1)) (h3 : t1 + 1 = t2)
    (kk : W p l e R s m args below meth c H locs cells slots Q (F0 m t2 ls (.int (if x = 0 then 0 else 1) :: rest))) : W p l e R s m args below meth c H locs cells slots Q (F0 m pc ls (.int x :: rest)) := by
  refine lv_if_eq (tgt := t1) hx hb d0 h1 (fun h => ?_) (fun h => ?_)
  · refine lv_iconst (v := 0) hx hb d3 (by decide) ?_
    rw [h3]
    rw [if_pos h] at kk
    exact kk
  · refine lv_iconst (v := 1) hx hb d1 (by decide) ?_
    refine lv_goto (tgt := t2) hx hb d2 h2 ?_
    rw [if_neg h] at kk
    exact kk
end GqR
theorem lg_cmp0 (x : Int64) : lg_cmp x x = 0 := by
  unfold lg_cmp
  rw [if_neg (Int64.lt_irrefl), if_pos rfl]
