/-! ===== rows of ours over the kit: contracts that read, contracts that write, over one world taken whole ===== -/
abbrev gp_E : Type := va_G × ClassId × ClassId × (Nat → Nat)
def gp_ty (E : gp_E) : List (ClassId × FieldType) := [(E.2.1, .int), (E.2.2.1, .boolean)]
abbrev gp_rm (k mc ms : Nat) : Room := { frames := k, cells := mc, slots := ms, locals := 40 * k }
def gp_p0 (E : gp_E) (w : va_W) (U : State) : Prop := va_P E.1 gp_cl w U.heap ∧ va_K E.1 gp_cl (gp_ty E) U
def gp_p1 (E : gp_E) (w : va_W) (sz : Nat) (U : State) : Prop := U.heap.size = sz ∧ va_P E.1 gp_cl w U.heap ∧ va_K E.1 gp_cl (gp_ty E) U ∧ va_D (fun _ => True) w
def gp_QW (E : gp_E) (v : Option Value) (w w' : va_W) (sz : Nat) : Array Value → State → Outcome → State → Prop := fun _ st o t => o = .returned v ∧ va_P E.1 gp_cl w' t.heap ∧ va_F (va_A w sz) st t
/-- a method that reads: it answers r, the heap stays -/
def gp_CR (l : Launch) (y : MethodName) (cc : ByteArray) (maxL : Nat) (ret : Option FieldType) (k : Nat) (E : gp_E) (w : va_W) (av : List Value) (r : Int32) : Prop :=
  Met l y (.code y cc maxL ret :: gw) (gp_rm k 0 0) (va_Pc av (gp_p0 E w)) (QcRead r) 0 0 (fun _ => False)
/-- a method that writes: it answers v, the world w becomes w' -/
def gp_CW (l : Launch) (y : MethodName) (cc : ByteArray) (maxL : Nat) (ret : Option FieldType) (k : Nat) (E : gp_E) (w w' : va_W) (av : List Value) (v : Option Value) : Prop :=
  ∀ sz : Nat, Met l y (.code y cc maxL ret :: gw) (gp_rm k 0 0) (va_Pc av (gp_p1 E w sz)) (gp_QW E v w w' sz) 0 0 (va_A w sz)
theorem gp_b0 {E : gp_E} {w : va_W} {av : List Value} : FrameBlind (va_Pc av (gp_p0 E w)) := fun a U g mk q => by
  obtain ⟨q0, qP, qK⟩ := q
  exact ⟨q0, qP, va_K.moved (u := U) (U := U.calling g mk a) (Vm.Alike.refl U.vm) qK⟩
theorem gp_b1 {E : gp_E} {w : va_W} {sz : Nat} {av : List Value} : FrameBlind (va_Pc av (gp_p1 E w sz)) := fun a U g mk q => by
  obtain ⟨q0, q1, qP, qK, qD⟩ := q
  exact ⟨q0, q1, qP, va_K.moved (u := U) (U := U.calling g mk a) (Vm.Alike.refl U.vm) qK, qD⟩
theorem gp_free {A0 : Nat → Prop} {w : va_W} {H0 H : Heap} {locs : List Loc} (hD : va_D A0 w) (hS : va_S A0 H0 H locs) (hA : ∀ q, H0.size ≤ q → A0 q) : ∀ q, va_A w H.size q → A0 q := by
  intro q h
  rcases h with ⟨k, e, h⟩ | h
  · exact hD.2 k (q, e) h
  · exact hA q (Nat.le_trans hS.1 h)
/-- the same addresses: as far apart -/
theorem gp_dd {A : Nat → Prop} {w w' : va_W} (h : va_D A w) (e : w.map (fun q => q.1) = w'.map (fun q => q.1)) : va_D A w' := by
  have key : ∀ (k : Nat) (q : Nat × va_E), w'[k]? = some q → ∃ q2, w[k]? = some q2 ∧ q2.1 = q.1 := by
    intro k q hq
    have h1 : (w'.map (fun q => q.1))[k]? = some q.1 := by rw [List.getElem?_map, hq]; rfl
    rw [← e, List.getElem?_map] at h1
    cases h2 : w[k]? with
    | none => rw [h2] at h1; cases h1
    | some q2 => rw [h2] at h1; exact ⟨q2, rfl, Option.some.inj h1⟩
  refine ⟨fun i j x y hx hy hxy => ?_, fun k q hq => ?_⟩
  · obtain ⟨x2, a1, a2⟩ := key i x hx
    obtain ⟨y2, b1, b2⟩ := key j y hy
    exact h.1 i j x2 y2 a1 b1 (by rw [a2, b2, hxy])
  · obtain ⟨q2, a1, a2⟩ := key k q hq
    rw [← a2]
    exact h.2 k q2 a1
theorem gw_V {own C : String} {idx : Nat} {y : MethodName} {cc : ByteArray} {maxL : Nat} {ret : Option FieldType} (h1 : Cond.methodLink own idx y ∈ gw) (h2 : Cond.instanceMethod y ∈ gw) (h3 : Cond.selects C y y ∈ gw) (h4 : Cond.initialized C ∈ gw) (h5 : Cond.code y cc maxL ret ∈ gw) : GoodIn gw (wsV own idx C y (.code y cc maxL ret :: gw)) := by
  intro w hw
  refine gw_good w ?_
  simp only [wsV, List.mem_append, List.mem_cons, List.not_mem_nil, or_false] at hw
  rcases hw with (rfl | rfl | rfl | rfl) | rfl | h
  · exact h1
  · exact h2
  · exact h3
  · exact h4
  · exact h5
  · exact h
theorem gw_c {y : MethodName} {cc : ByteArray} {maxL : Nat} {ret : Option FieldType} (h5 : Cond.code y cc maxL ret ∈ gw) : GoodIn gw (.code y cc maxL ret :: gw) := by
  intro w hw
  refine gw_good w ?_
  rcases List.mem_cons.mp hw with rfl | h
  · exact h5
  · exact h
section GpB
variable {l : Launch} {y : MethodName} {cc : ByteArray} {maxL : Nat} {ret : Option FieldType} {k : Nat} {E : gp_E} {w w' : va_W} {av : List Value} {r : Int32} {v : Option Value}
theorem gp_ofR (hy : plainName y.cls = true) (hlen : (lg_sl av).length ≤ maxL)
    (body : ∀ (p : Program) (e : Env) (s : State) (m : MethodId) (below : List Frame) (meth : Method) (c : Code) (ls : Array Slot), p.tables.exec = Jvm.exec → c.code = cc → meth.sig.returnType = ret → (∀ x ∈ gw, x.before av.toArray s = true) → s.vm.findClass y.cls = some m.cls → meth.locks = false → c.maxLocals = maxL →
      va_P E.1 gp_cl w s.heap → va_K E.1 gp_cl (gp_ty E) s → lv_has ls maxL (lv_args 0 av) →
      W p l e (gp_rm k 0 0) s m av.toArray below meth c s.heap [] 0 0 (MQ below (QcRead r) av.toArray s 0 0 (fun _ => False)) (F0 m 0 ls [])) : gp_CR l y cc maxL ret k E w av r := by
  refine Met.ofW (cc := cc) (maxL := maxL) (ret := ret) hy rfl ?_
  intro p e s m args below meth c s₁ B hml hv
  obtain ⟨rfl, hP, hK⟩ := hv
  have hts := atoms_spec (ws := .code y cc maxL ret :: gw) B.pre
  have hl := lv_entry av (n := maxL) hlen
  rw [lg_entry_eq]
  generalize (lg_sl av ++ List.replicate (maxL - (lg_sl av).length) Slot.unset).toArray = ls at hl ⊢
  exact body p e s m below meth c ls B.exec B.bytes B.returns (fun x h => hts x (List.mem_cons_of_mem _ h)) (findClass_of_methodNamed B.named) B.notSynchronized hml hP hK hl
theorem gp_ofW (hy : plainName y.cls = true) (hlen : (lg_sl av).length ≤ maxL)
    (body : ∀ (p : Program) (e : Env) (s : State) (m : MethodId) (below : List Frame) (meth : Method) (c : Code) (ls : Array Slot) (A : Nat → Prop), p.tables.exec = Jvm.exec → c.code = cc → meth.sig.returnType = ret → (∀ x ∈ gw, x.before av.toArray s = true) → s.vm.findClass y.cls = some m.cls → meth.locks = false → c.maxLocals = maxL →
      va_P E.1 gp_cl w s.heap → va_K E.1 gp_cl (gp_ty E) s → va_D A w → (∀ q, s.heap.size ≤ q → A q) → va_A w s.heap.size = A → lv_has ls maxL (lv_args 0 av) →
      W p l e (gp_rm k 0 0) s m av.toArray below meth c s.heap [] 0 0 (MQ below (gp_QW E v w w' s.heap.size) av.toArray s 0 0 A) (F0 m 0 ls [])) : gp_CW l y cc maxL ret k E w w' av v := by
  intro sz
  refine Met.ofW (cc := cc) (maxL := maxL) (ret := ret) hy rfl ?_
  intro p e s m args below meth c s₁ B hml hv
  obtain ⟨rfl, hsz, hP, hK, hD0⟩ := hv
  subst hsz
  have hts := atoms_spec (ws := .code y cc maxL ret :: gw) B.pre
  have hl := lv_entry av (n := maxL) hlen
  rw [lg_entry_eq]
  generalize (lg_sl av ++ List.replicate (maxL - (lg_sl av).length) Slot.unset).toArray = ls at hl ⊢
  exact body p e s m below meth c ls (va_A w s.heap.size) B.exec B.bytes B.returns (fun x h => hts x (List.mem_cons_of_mem _ h)) (findClass_of_methodNamed B.named) B.notSynchronized hml hP hK hD0.self (fun q h => Or.inr h) rfl hl
end GpB
section GpC
variable {p : Program} {l : Launch} {e : Env} {R : Room} {s : State} {m : MethodId} {args : Array Value} {below : List Frame} {meth : Method} {c : Code} {H : Heap} {locs : List Loc} {cells slots : Nat} {Q : State → Prop}
variable {y : MethodName} {bytes cc : ByteArray} {maxL nL n index k : Nat} {ret : Option FieldType} {own : String} {b : Addr} {As rest st0 : List Value} {pc : Nat} {ls : Array Slot}
variable {E : gp_E} {w w' : va_W} {A0 : Nat → Prop} {r : Int32} {v : Option Value}
theorem gp_s0 {av : List Value} (hK : va_K E.1 gp_cl (gp_ty E) s) (hP : va_P E.1 gp_cl w H) : ∀ U : State, U.heap = H → s.WarmedH U.vm → va_Pc av (gp_p0 E w) av.toArray U := fun U hU hW => ⟨rfl, by rw [hU]; exact hP, va_K.moved hW.alike hK⟩
theorem gp_s1 {av : List Value} (hK : va_K E.1 gp_cl (gp_ty E) s) (hP : va_P E.1 gp_cl w H) (hD : va_D A0 w) : ∀ U : State, U.heap = H → s.WarmedH U.vm → va_Pc av (gp_p1 E w H.size) av.toArray U := fun U hU hW => ⟨rfl, by rw [hU], by rw [hU]; exact hP, va_K.moved hW.alike hK, hD.weaken (fun _ _ _ _ => trivial)⟩
/-- a virtual call of a method that reads -/
theorem gp_cR {q0 ci : Nat} {r0 : vw_C} {fs : List Value} (F : CallFix p m c cc nL s args gw own) (hM : gp_CR l y bytes maxL ret k E w (.ref b :: As) r)
    (cw : CallW R s args own r0.1 index y bytes maxL ret (.code y bytes maxL ret :: gw) (gp_rm k 0 0) 0 0 n) (hK : va_K E.1 gp_cl (gp_ty E) s) (hP : va_P E.1 gp_cl w H)
    (hc : gp_cl[ci]? = some r0) (he : w[q0]? = some (b, .inr (ci, fs))) (hn : As.length = n) (hsize : ls.size = nL) (hstack : st0 = As.reverse ++ .ref b :: rest) (hW : (rest.map fun v => v.category).sum ≤ 8) (hdg : decode cc pc = .ok (.invokevirtual index, 3)) (hf : cells + 0 ≤ R.cells ∧ slots + 0 ≤ R.slots)
    (kk : W p l e R s m args below meth c H locs cells slots Q (F0 m (pc + 3) ls (.int r :: rest))) : W p l e R s m args below meth c H locs cells slots Q (F0 m pc ls st0) :=
  W.callR (W.runV (As := As) (rest := rest) F hM cw ⟨gp_b0, va_recv hK hP hc he, gp_s0 hK hP⟩ rfl hn hsize hstack (lv_room hW) hdg hf) kk
/-- a static call of a method that reads -/
theorem gp_cS (F : CallFix p m c cc nL s args gw own) (hM : gp_CR l y bytes maxL ret k E w As r)
    (cw : CallB R s args own index y bytes maxL ret (.code y bytes maxL ret :: gw) (gp_rm k 0 0) 0 0 n ∧ (Cond.static y).before args s = true) (hK : va_K E.1 gp_cl (gp_ty E) s) (hP : va_P E.1 gp_cl w H)
    (hn : As.length = n) (hsize : ls.size = nL) (hstack : st0 = As.reverse ++ rest) (hW : (rest.map fun v => v.category).sum ≤ 8) (hdg : decode cc pc = .ok (.invokestatic index, 3)) (hf : cells + 0 ≤ R.cells ∧ slots + 0 ≤ R.slots)
    (kk : W p l e R s m args below meth c H locs cells slots Q (F0 m (pc + 3) ls (.int r :: rest))) : W p l e R s m args below meth c H locs cells slots Q (F0 m pc ls st0) :=
  W.callR (W.runS (As := As) (rest := rest) F hM cw ⟨gp_b0, gp_s0 hK hP⟩ rfl hn hsize hstack (lv_room hW) hdg hf) kk
/-- a virtual call of a method that writes -/
theorem gp_cW {q0 ci : Nat} {r0 : vw_C} {fs : List Value} (F : CallFix p m c cc nL s args gw own) (hM : gp_CW l y bytes maxL ret k E w w' (.ref b :: As) v)
    (cw : CallW R s args own r0.1 index y bytes maxL ret (.code y bytes maxL ret :: gw) (gp_rm k 0 0) 0 0 n) (hK : va_K E.1 gp_cl (gp_ty E) s) (hP : va_P E.1 gp_cl w H) (hD : va_D A0 w) (hS : va_S A0 s.heap H locs) (hA : ∀ q, s.heap.size ≤ q → A0 q) (hdd : w.map (fun q => q.1) = w'.map (fun q => q.1))
    (hc : gp_cl[ci]? = some r0) (he : w[q0]? = some (b, .inr (ci, fs))) (hn : As.length = n) (hsize : ls.size = nL) (hstack : st0 = As.reverse ++ .ref b :: rest) (hW : (rest.map fun v => v.category).sum ≤ 8) (hdg : decode cc pc = .ok (.invokevirtual index, 3)) (hf : cells + 0 ≤ R.cells ∧ slots + 0 ≤ R.slots)
    (kk : ∀ (H1 : Heap) (locs1 : List Loc), va_P E.1 gp_cl w' H1 → va_D A0 w' → va_S A0 s.heap H1 locs1 → W p l e R s m args below meth c H1 locs1 cells slots Q (F0 m (pc + 3) ls (v.toList ++ rest))) : W p l e R s m args below meth c H locs cells slots Q (F0 m pc ls st0) := by
  have hF := gp_free hD hS hA
  intro T hT X
  obtain ⟨v1, st₀, t, T', L, h0, X', hL, e1, e2, ⟨hv, hP1, hz, hk⟩, st⟩ := va_runV (As := As) (rest := rest) F (hM H.size) cw ⟨gp_b1, va_recv hK hP hc he, gp_s1 hK hP hD⟩ rfl hn hsize hstack (lv_room hW) hdg hf T hT X
  obtain rfl : v1 = v := by cases hv; rfl
  rw [h0] at hz hk
  obtain ⟨t2, a1, b1⟩ := kk T'.heap (locs ++ L) (by rw [e1]; exact hP1) (gp_dd hD hdd)
    ⟨Nat.le_trans hS.1 (by rw [e1]; exact hz), fun q h1 h2 => by rw [e1, hk q (Nat.lt_of_lt_of_le h1 hS.1) (fun z => h2 (hF q z))]; exact hS.2.1 q h1 h2, fun q hq => by
      rcases List.mem_append.mp hq with h | h
      · exact hS.2.2 q h
      · exact hF _ (hL q h)⟩ T' rfl X'
  exact ⟨t2, st t2 a1, b1⟩
/-- ends -/
theorem gp_ri (hx : p.tables.exec = Jvm.exec) (hb : c.code = cc) (hr : meth.sig.returnType = some .int) (hlocks : meth.locks = false) {x : Int32} (h : x = r) (hdg : decode cc pc = .ok (.ireturn, 1)) : W p l e R s m args below meth c s.heap [] 0 0 (MQ below (QcRead r) args s 0 0 (fun _ => False)) (F0 m pc ls [.int x]) :=
  W.iret hx hb hr (fun t ht _ => ⟨by rw [h], ht⟩) (fun _ h => nomatch h) hdg hlocks
theorem gp_rz (hx : p.tables.exec = Jvm.exec) (hb : c.code = cc) (hr : meth.sig.returnType = some .boolean) (hlocks : meth.locks = false) {x : Int32} (hn : narrow .boolean (.int x) = .int x) (h : x = r) (hdg : decode cc pc = .ok (.ireturn, 1)) : W p l e R s m args below meth c s.heap [] 0 0 (MQ below (QcRead r) args s 0 0 (fun _ => False)) (F0 m pc ls [.int x]) :=
  W.zret hx hb hr hn (fun t ht _ => ⟨by rw [h], ht⟩) (fun _ h => nomatch h) hdg hlocks
theorem gp_wi (hx : p.tables.exec = Jvm.exec) (hb : c.code = cc) (hr : meth.sig.returnType = some .int) (hlocks : meth.locks = false) (hAe : va_A w s.heap.size = A0) {x : Int32} (h : v = some (.int x)) (hP : va_P E.1 gp_cl w' H) (hS : va_S A0 s.heap H locs) (hdg : decode cc pc = .ok (.ireturn, 1)) : W p l e R s m args below meth c H locs 0 0 (MQ below (gp_QW E v w w' s.heap.size) args s 0 0 A0) (F0 m pc ls [.int x]) :=
  W.iret hx hb hr (fun t ht _ => ⟨by rw [h], by rw [ht]; exact hP, by rw [hAe]; exact hS.F ht⟩) hS.2.2 hdg hlocks
theorem gp_wz (hx : p.tables.exec = Jvm.exec) (hb : c.code = cc) (hr : meth.sig.returnType = some .boolean) (hlocks : meth.locks = false) (hAe : va_A w s.heap.size = A0) {x : Int32} (hn : narrow .boolean (.int x) = .int x) (h : v = some (.int x)) (hP : va_P E.1 gp_cl w' H) (hS : va_S A0 s.heap H locs) (hdg : decode cc pc = .ok (.ireturn, 1)) : W p l e R s m args below meth c H locs 0 0 (MQ below (gp_QW E v w w' s.heap.size) args s 0 0 A0) (F0 m pc ls [.int x]) :=
  W.zret hx hb hr hn (fun t ht _ => ⟨by rw [h], by rw [ht]; exact hP, by rw [hAe]; exact hS.F ht⟩) hS.2.2 hdg hlocks
theorem gp_wv (hx : p.tables.exec = Jvm.exec) (hb : c.code = cc) (hr : meth.sig.returnType = none) (hlocks : meth.locks = false) (hAe : va_A w s.heap.size = A0) (h : v = none) (hP : va_P E.1 gp_cl w' H) (hS : va_S A0 s.heap H locs) (hdg : decode cc pc = .ok (.return_, 1)) : W p l e R s m args below meth c H locs 0 0 (MQ below (gp_QW E v w w' s.heap.size) args s 0 0 A0) (F0 m pc ls []) :=
  W.vret hx hb hr (fun t ht _ => ⟨by rw [h], by rw [ht]; exact hP, by rw [hAe]; exact hS.F ht⟩) hS.2.2 hdg hlocks
end GpC
