/-! ===== the law's start: what the tables and the start say; both objects made; the loop ===== -/
def lq_flat : List Cond := flatC (Jvm.Cond.and given_1 narrow_1)
theorem lq_ws : ∀ w ∈ gx_ws, w ∈ lw_tbl ∨ w ∈ lq_flat := by decide +kernel
theorem lq_tx : ∀ q ∈ gx_tx, (Cond.stringRef "GuidePlans" q.1 q.2) ∈ lw_tbl ∨ (Cond.stringRef "GuidePlans" q.1 q.2) ∈ lq_flat := by decide +kernel
theorem lq_St {args : Array Value} {s : State} (hts : ∀ w ∈ lw_tbl, w.before args s = true) (hf : ∀ w ∈ lq_flat, w.before args s = true) : gx_St s := by
  refine ⟨fun w hw => ?_, fun q hq => ?_⟩
  · have h1 := gx_ws_ok w hw
    simp only [Bool.and_eq_true] at h1
    rw [gx_eqv (U := s) (V := s) h1.1 rfl rfl #[] args]
    rcases lq_ws w hw with h | h
    · exact hts w h
    · exact hf w h
  · rw [gx_str (U := s) (V := s) rfl #[] args]
    rcases lq_tx q hq with h | h
    · exact hts _ h
    · exact hf _ h
theorem lq_ci : ∀ X ∈ gy_ns, Cond.instantiable X 6 ∈ lw_tbl ∨ Cond.instantiable X 6 ∈ lq_flat := by decide +kernel
theorem lq_cc : ∀ X ∈ gy_ns, Cond.castable X X ∈ lw_tbl ∨ Cond.castable X X ∈ lq_flat := by decide +kernel
theorem lq_cn : ∀ X ∈ gy_ns, ∀ Y ∈ gy_ns, X = Y ∨ Cond.not (Cond.castable X Y) ∈ lw_tbl ∨ Cond.not (Cond.castable X Y) ∈ lq_flat := by decide +kernel
theorem lq_ncast {args : Array Value} {s : State} {X Y : String} (h : (Cond.not (Cond.castable X Y)).before args s = true) : ∃ c t, s.vm.findClass X = some c ∧ s.vm.findClass Y = some t ∧ s.vm.assignable c t = false := by
  have h := Cond.holds_not_iff.mp h
  simp only [Cond.value] at h
  cases hc : s.vm.findClass X with
  | none => simp [hc] at h
  | some c =>
    cases ht : s.vm.findClass Y with
    | none => simp [hc, ht] at h
    | some t => exact ⟨c, t, rfl, rfl, by simpa [hc, ht] using h⟩
theorem lq_Ct {args : Array Value} {s : State} (hts : ∀ w ∈ lw_tbl, w.before args s = true) (hf : ∀ w ∈ lq_flat, w.before args s = true) : gy_Ct s := by
  have hb : ∀ w, w ∈ lw_tbl ∨ w ∈ lq_flat → w.before args s = true := fun w h => h.elim (hts w) (hf w)
  intro X hX Y hY
  obtain ⟨cC, kC, hfc, hk, -⟩ := Cond.instantiable_spec (hb _ (lq_ci X hX))
  by_cases e : X = Y
  · subst e
    obtain ⟨c, t, h1, h2, h3⟩ := Cond.castable_spec (hb _ (lq_cc X hX))
    have e1 : c = cC := Option.some.inj (h1.symm.trans hfc)
    have e2 : t = cC := Option.some.inj (h2.symm.trans hfc)
    rw [e1, e2] at h3
    exact ⟨cC, cC, hfc, hfc, ⟨kC, hk⟩, by rw [h3]; simp⟩
  · rcases lq_cn X hX Y hY with h | h
    · exact absurd h e
    · obtain ⟨c, t, h1, h2, h3⟩ := lq_ncast (hb _ h)
      have e1 : c = cC := Option.some.inj (h1.symm.trans hfc)
      rw [e1] at h3
      exact ⟨cC, t, hfc, h2, ⟨kC, hk⟩, by rw [h3]; simp [e]⟩
theorem lq_arr {args : Array Value} {s : State} {ty : FieldType} (h : (Cond.arrayClass ty).before args s = true) : ∃ cA : ClassId, ArrOfT s cA ty ∧ s.vm.findClass ("[" ++ ty.toString) = some cA := by
  obtain ⟨cA, kA, comp, h1, h2, h3⟩ := Cond.arrayClass_spec h
  exact ⟨cA, fun n z => ⟨fun k h => (by cases h), kA, h2, comp, h3⟩, h1⟩
def lq_J0 : Nat → Int32 := fun k => if k = 6 then 96 else if k = 8 then -1 else 0
def lq_G0 : Nat → Nat → Int32 := fun a => if a = 8 then (fun j => if j < 6 then -1 else 0) else fun _ => 0
theorem lq_R0 : gr_Rel gp_I0 gp_F0 lq_J0 lq_G0 := by
  refine ⟨0, 0, 0, 0, fun _ => 0, fun _ => 0, 96, ⟨by omega, by omega, fun p h => absurd h (by omega), fun p h => absurd h (by omega), fun p h => absurd h (by omega), fun p h => absurd h (by omega), fun p h => absurd h (by omega), rfl, rfl, rfl, by omega⟩, rfl, rfl, rfl, rfl, rfl, rfl, by omega, rfl, rfl, Or.inl rfl, rfl, rfl, rfl, by omega, fun p h => absurd h (by omega), fun p h => absurd h (by omega)⟩
set_option maxHeartbeats 8000000 in
set_option maxRecDepth 100000 in
theorem lq_start {p : Program} {e : Env} {s : State} {m : MethodId} {below : List Frame} {meth : Method} {c : Code} (l : Launch) (hlt : l.stackTraces = false) {b L : Nat} {xs : Nat → Int32} (hL : L ≤ 2560) {Q : State → Prop}
    (hx : p.tables.exec = Jvm.exec) (hb : c.code = code) (hml : c.maxLocals = 7) (hown : s.vm.findClass "GuidePlansLaw" = some m.cls) (hts0 : ∀ w ∈ lw_tbl, w.before #[Value.ref b] s = true) (hX : va_X b L xs s s.heap) (hbl : b < s.heap.size) (hgv : (Jvm.Cond.and given_1 narrow_1).before #[Value.ref b] s = true)
    (kend : ∀ (H : Heap) (locs : List Loc) (cells slots : Nat) (ls : Array Slot), va_S (fun q => s.heap.size ≤ q) s.heap H locs → cells ≤ 2000 → slots ≤ 20000 → W p l e room_1 s m #[Value.ref b] below meth c H locs cells slots Q (F0 m 977 ls [])) :
    W p l e room_1 s m #[Value.ref b] below meth c s.heap [] 0 0 Q (entryFrame m ([Value.ref b] : List Value).toArray 7) := by
  have hf : ∀ w ∈ lq_flat, w.before #[Value.ref b] s = true := flat_of_before _ hgv
  have hts : ∀ w ∈ gw, w.before #[Value.ref b] s = true := fun w hw => hts0 w (List.mem_filter.mp hw).1
  have hA : ∀ q : Nat, s.heap.size ≤ q → (fun q : Nat => s.heap.size ≤ q) q := fun _ h => h
  have hbA : ¬ (fun q : Nat => s.heap.size ≤ q) b := Nat.not_le.mpr hbl
  obtain ⟨c0, iS0, hKn0⟩ := u_known (C := R_G) (T := T_G) (N := 8) hts i_G (hts _ w1_14)
  obtain ⟨c1, iS1, hKn1⟩ := u_known (C := R_D) (T := T_D) (N := 13) hts i_D (hts _ w1_22)
  obtain ⟨c2, iS2, hKn2⟩ := u_known (C := R_S) (T := T_S) (N := 9) hts i_S (hts _ w1_82)
  obtain ⟨c3, iS3, hKn3⟩ := u_known (C := R_M) (T := T_M) (N := 27) hts i_M (hts _ w3_47)
  obtain ⟨D, hKc⟩ : ∃ D : va_G, ∀ (k : Nat) (q : vw_C), gp_cl[k]? = some q → u_Kn s q.1 q.2.1 q.2.2 (D.1 k) (D.2 k) := by
    refine ⟨(fun k => if k = 0 then c0 else if k = 1 then c1 else if k = 2 then c2 else c3, fun k => if k = 0 then iS0 else if k = 1 then iS1 else if k = 2 then iS2 else iS3), ?_⟩
    intro k q hq
    match k, hq with
    | 0, hq => cases hq; exact hKn0
    | 1, hq => cases hq; exact hKn1
    | 2, hq => cases hq; exact hKn2
    | 3, hq => cases hq; exact hKn3
    | k + 4, hq => simp [gp_cl] at hq
  obtain ⟨cI, aI1, aI2⟩ := lq_arr (hts _ w1_79)
  obtain ⟨cZ, aZ1, aZ2⟩ := lq_arr (hts _ w1_80)
  have hK0 : va_K D gp_cl [(cI, .int), (cZ, .boolean)] s := by
    refine ⟨hKc, fun k q hq => ?_⟩
    match k, hq with
    | 0, hq => cases hq; exact ⟨aI1, aI2⟩
    | 1, hq => cases hq; exact ⟨aZ1, aZ2⟩
    | k + 2, hq => simp at hq
  have hS : va_S (fun q : Nat => s.heap.size ≤ q) s.heap s.heap [] := va_S.rf
  have hP : va_P D gp_cl [] s.heap := fun k q h => by simp at h
  have hD : va_D (fun q : Nat => s.heap.size ≤ q) [] := ⟨fun i j p q h => by simp at h, fun k q h => by simp at h⟩
  have hl := lv_entry ([.ref b]) (n := 7) (Nat.le_of_ble_eq_true rfl)
  rw [lg_entry_eq]
  generalize (lg_sl ([.ref b]) ++ List.replicate (7 - (lg_sl ([.ref b])).length) Slot.unset).toArray = ls at hl ⊢
  have hl : lv_has ls 7 [(0, .ref b)] := hl
  let E0 : gp_E := (D, cI, cZ, fun _ => 0)
  have hK : va_K E0.1 gp_cl (gp_ty E0) s := hK0
  refine va_new (D := D) (cl := gp_cl) (ci := 0) (fs := [.null, .null, .null, .null, .int 0, .int 0, .int 0, .int 0]) (C := R_G) (T := T_G) (N := 8) hx hb hts i_G t_G t_G_ok hown (hts _ w1_13) (hts _ w1_14) (hts _ w1_1) hK0 hP hD hS hA rfl (fun j hj => match j, hj with | 0, _ => rfl | 1, _ => rfl | 2, _ => rfl | 3, _ => rfl | 4, _ => rfl | 5, _ => rfl | 6, _ => rfl | 7, _ => rfl | n9 + 8, h9 => absurd h9 (by omega)) (Nat.le_of_ble_eq_true rfl) (Nat.le_of_ble_eq_true rfl) d_L_law_0 (fun q0 H hP hD hS => ?_)
  have hP : va_P D gp_cl [(q0, .inr (0, [.null, .null, .null, .null, .int 0, .int 0, .int 0, .int 0]))] H := hP
  have hD : va_D (fun q : Nat => s.heap.size ≤ q) [(q0, .inr (0, [.null, .null, .null, .null, .int 0, .int 0, .int 0, .int 0]))] := hD
  refine W.widen (k := 1) (n := 8) (by omega) (by omega) ?_
  refine lv_dup hx hb d_L_law_3 rfl ?_
  refine gp_cI (E := E0) (isC := [0]) (isR := []) (wc := [(q0, .inr (0, [.null, .null, .null, .null, .int 0, .int 0, .int 0, .int 0]))]) (wr := []) (rest := [.ref q0]) ⟨hx, hb, hml, hown, hts⟩ (c_G_init l E0 q0) (k_L_59 hts ⟨by decide, by decide⟩ rfl rfl) hK hP hD hS hA rfl rfl (by decide) (by decide) (by decide) (hP.sub [0] rfl) hl.1 rfl (Nat.le_of_ble_eq_true rfl) d_L_law_4 ⟨Nat.le_of_ble_eq_true rfl, Nat.le_of_ble_eq_true rfl⟩ (fun u1 H locs hu1 hP hD hS => ?_)
  let E : gp_E := (D, cI, cZ, fun k => (q0 :: u1).getD k 0)
  have hP : va_P D gp_cl (gp_wG E gp_I0 gp_F0) H := hP
  have hD : va_D (fun q : Nat => s.heap.size ≤ q) (gp_wG E gp_I0 gp_F0) := hD
  refine W.widen (k := 19) (n := 162) (by omega) (by omega) ?_
  refine lv_astore_n (lv' := [(1, .ref q0), (0, .ref b)]) hx hb d_L_law_7 rfl hl (by decide) rfl (fun ls hl => ?_)
  refine va_new (D := D) (cl := gp_cl) (ci := 3) (fs := [.int 0, .int 0, .null, .int 0, .null, .null, .null, .int 0, .null, .null, .null, .null, .null, .null, .null, .null, .int 0, .int 0, .int 0, .int 0, .int 0, .int 0, .null, .int 0, .int 0, .int 0, .int 0]) (C := R_M) (T := T_M) (N := 27) hx hb hts i_M t_M t_M_ok hown (hts _ w3_46) (hts _ w3_47) (hts _ w1_4) hK0 hP hD hS hA rfl (fun j hj => match j, hj with | 0, _ => rfl | 1, _ => rfl | 2, _ => rfl | 3, _ => rfl | 4, _ => rfl | 5, _ => rfl | 6, _ => rfl | 7, _ => rfl | 8, _ => rfl | 9, _ => rfl | 10, _ => rfl | 11, _ => rfl | 12, _ => rfl | 13, _ => rfl | 14, _ => rfl | 15, _ => rfl | 16, _ => rfl | 17, _ => rfl | 18, _ => rfl | 19, _ => rfl | 20, _ => rfl | 21, _ => rfl | 22, _ => rfl | 23, _ => rfl | 24, _ => rfl | 25, _ => rfl | 26, _ => rfl | n9 + 27, h9 => absurd h9 (by omega)) (Nat.le_of_ble_eq_true rfl) (Nat.le_of_ble_eq_true rfl) d_L_law_8 (fun q8 H hP hD hS => ?_)
  refine W.widen (k := 20) (n := 189) (by omega) (by omega) ?_
  refine lv_dup hx hb d_L_law_11 rfl ?_
  refine gp_cI (E := E) (isC := [19]) (isR := [0, 1, 2, 3, 4, 5, 6, 7, 8, 9, 10, 11, 12, 13, 14, 15, 16, 17, 18]) (wc := [(q8, .inr (3, [.int 0, .int 0, .null, .int 0, .null, .null, .null, .int 0, .null, .null, .null, .null, .null, .null, .null, .null, .int 0, .int 0, .int 0, .int 0, .int 0, .int 0, .null, .int 0, .int 0, .int 0, .int 0]))]) (wr := gp_wG E gp_I0 gp_F0) (rest := [.ref q8]) ⟨hx, hb, hml, hown, hts⟩ (c_M_init l E q8) (k_L_62 hts ⟨by decide, by decide⟩ rfl rfl) hK hP hD hS hA rfl rfl (by decide) (by decide) (by decide) (hP.sub [19] rfl) hl.1 rfl (Nat.le_of_ble_eq_true rfl) d_L_law_12 ⟨Nat.le_of_ble_eq_true rfl, Nat.le_of_ble_eq_true rfl⟩ (fun u2 H locs hu2 hP hD hS => ?_)
  have hP : va_P D gp_cl (gp_wG E gp_I0 gp_F0 ++ gp_wM (gq_M E (fun k => (q8 :: u2).getD k 0)) lq_J0 lq_G0) H := hP
  have hD : va_D (fun q : Nat => s.heap.size ≤ q) (gp_wG E gp_I0 gp_F0 ++ gp_wM (gq_M E (fun k => (q8 :: u2).getD k 0)) lq_J0 lq_G0) := hD
  refine W.widen (k := 33) (n := 307) (by omega) (by omega) ?_
  refine lv_astore_n (lv' := [(2, .ref q8), (1, .ref q0), (0, .ref b)]) hx hb d_L_law_15 rfl hl (by decide) rfl (fun ls hl => ?_)
  refine lv_iconst (v := 1) hx hb d_L_law_16 (by decide) ?_
  refine va_newa (D := D) (cl := gp_cl) (atype := .long) (ty := .long) (N' := 1) (a0 := (1, .inr (.inl (fun _ => 0)))) hx hb (hts _ w4_40) rfl hK0 hP hD hS hA (fun _ => rfl) (by decide) (by decide) (by decide) (Nat.le_of_ble_eq_true rfl) (Nat.le_of_ble_eq_true rfl) d_L_law_17 (fun oa cJ H hK2 hP hD hS => ?_)
  have hP : va_P D gp_cl ((gp_wG E gp_I0 gp_F0 ++ gp_wM (gq_M E (fun k => (q8 :: u2).getD k 0)) lq_J0 lq_G0) ++ [gl_o cJ oa (fun _ => 0)]) H := hP
  have hD : va_D (fun q : Nat => s.heap.size ≤ q) ((gp_wG E gp_I0 gp_F0 ++ gp_wM (gq_M E (fun k => (q8 :: u2).getD k 0)) lq_J0 lq_G0) ++ [gl_o cJ oa (fun _ => 0)]) := hD
  refine W.widen (k := 34) (n := 308) (by omega) (by omega) ?_
  refine lv_astore_n (lv' := [(3, .ref oa), (2, .ref q8), (1, .ref q0), (0, .ref b)]) hx hb d_L_law_19 rfl hl (by decide) rfl (fun ls hl => ?_)
  refine lv_iconst (v := 0) hx hb d_L_law_20 (by decide) ?_
  refine lv_istore (lv' := [(4, .int 0), (3, .ref oa), (2, .ref q8), (1, .ref q0), (0, .ref b)]) hx hb d_L_law_21 hl (by decide) rfl (fun ls hl => ?_)
  have hK3 : va_K E.1 gp_cl (gp_ty E ++ [(cJ, .long)]) s := hK2
  have C : gq_C p s m c b L xs E cJ := ⟨hx, hb, hml, hown, hts, hX, hbl, hK3, lq_St hts0 hf, lq_Ct hts0 hf, hL⟩
  have hw : gq_W s E cJ (fun k => (q8 :: u2).getD k 0) oa gp_I0 gp_F0 lq_J0 lq_G0 (fun _ => 0) H locs := by
    refine ⟨hP.sub [33, 0, 1, 2, 3, 4, 5, 6, 7, 8, 9, 10, 11, 12, 13, 14, 15, 16, 17, 18] rfl, hP.sub [19, 20, 21, 22, 23, 24, 25, 26, 27, 28, 29, 30, 31, 32] rfl, hD.sub [33, 0, 1, 2, 3, 4, 5, 6, 7, 8, 9, 10, 11, 12, 13, 14, 15, 16, 17, 18, 19, 20, 21, 22, 23, 24, 25, 26, 27, 28, 29, 30, 31, 32] (by decide) rfl, hS⟩
  exact lq_loop C hlt kend (L / 5 + 1) 0 (by omega) (by omega) gp_I0 gp_F0 lq_J0 lq_G0 (fun _ => 0) H locs 34 308 ls lq_R0 hw (lv_sub hl [4, 3, 2, 1, 0] rfl) (by omega) (by omega)
