/-! ===== the law's helpers: rows. What catching needs: the three exceptions' classes, none castable to another ===== -/
def gy_ns : List String := ["java/lang/IllegalArgumentException", "java/lang/IllegalStateException", "java/util/NoSuchElementException"]
def gy_Ct (U : State) : Prop := ∀ X ∈ gy_ns, ∀ Y ∈ gy_ns, ∃ cX cY, U.vm.findClass X = some cX ∧ U.vm.findClass Y = some cY ∧ (∃ k, U.vm.classes[cX]? = some k) ∧ U.vm.assignable cX cY = decide (X = Y)
theorem gy_Ct.mv {s U : State} (h : gy_Ct s) (hW : s.vm.Alike U.vm) : gy_Ct U := by
  intro X hX Y hY
  obtain ⟨cX, cY, h1, h2, ⟨k, hk⟩, h3⟩ := h X hX Y hY
  obtain ⟨k', hk', -⟩ := hW.2.2 _ _ hk
  exact ⟨cX, cY, by rw [hW.findClass]; exact h1, by rw [hW.findClass]; exact h2, ⟨k', hk'⟩, by rw [hW.assignable]; exact h3⟩
def gy_cat (n : Nat) : String := if n = 13 then "java/lang/IllegalArgumentException" else if n = 15 then "java/lang/IllegalStateException" else "java/util/NoSuchElementException"
def gy_go (X : String) (pc : Nat) : List (Nat × Nat × Nat × Nat) → Option Nat
  | [] => none
  | (a, b, h, ct) :: t => if (decide (a ≤ pc) && decide (pc < b)) && (ct == 13 || ct == 15 || ct == 21) then (if gy_cat ct = X then some h else gy_go X pc t) else none
theorem gy_link {s : State} {d : ClassId} {args : Array Value} {pl : Platform} (hpl : pl.magicAccessors = ({} : Platform).magicAccessors) (hts : ∀ w ∈ gw, w.before args s = true) (hd : s.vm.findClass "GuidePlansLaw" = some d) {ct : Nat} (h : (ct == 13 || ct == 15 || ct == 21) = true) : gy_cat ct ∈ gy_ns ∧ ct ≠ 0 ∧ ∃ c, s.vm.findClass (gy_cat ct) = some c ∧ s.vm.ClassLinks pl d ct c := by
  simp only [Bool.or_eq_true, beq_iff_eq] at h
  rcases h with (rfl | rfl) | rfl
  · exact ⟨by decide, by decide, Cond.classLink_spec hd (hts _ w2_9) pl hpl⟩
  · exact ⟨by decide, by decide, Cond.classLink_spec hd (hts _ w2_10) pl hpl⟩
  · exact ⟨by decide, by decide, Cond.classLink_spec hd (hts _ w2_106) pl hpl⟩
theorem gy_hits {s : State} {d : ClassId} {args : Array Value} {pl : Platform} (hpl : pl.magicAccessors = ({} : Platform).magicAccessors) (hts : ∀ w ∈ gw, w.before args s = true) (hd : s.vm.findClass "GuidePlansLaw" = some d) (hCt : gy_Ct s) {X : String} (hX : X ∈ gy_ns) {cX : ClassId} (hcX : s.vm.findClass X = some cX) {pc h : Nat} :
    ∀ (rows : List ExceptionTableEntry) (hh : List (Nat × Nat × Nat × Nat)), rows.map (fun h => (h.startPc, h.endPc, h.handlerPc, h.catchType)) = hh → gy_go X pc hh = some h → gy_hit pl s d pc cX rows h := by
  intro rows
  induction rows with
  | nil => intro hh e g; subst e; simp [gy_go] at g
  | cons x t ih =>
    intro hh e g
    subst e
    simp only [List.map_cons, gy_go] at g
    split at g
    · rename_i hc
      simp only [Bool.and_eq_true] at hc
      obtain ⟨hc1, hc2⟩ := hc
      obtain ⟨hm, h0, c, hfc, hl⟩ := gy_link (ct := x.catchType) hpl hts hd hc2
      obtain ⟨c1, c2, a1, a2, -, a3⟩ := hCt X hX _ hm
      cases hcX.symm.trans a1
      cases hfc.symm.trans a2
      refine ⟨by simp only [covers, Bool.and_eq_true]; exact hc1, h0, c, hl, ?_⟩
      split at g
      · rename_i e1
        left
        exact ⟨by rw [a3, e1]; simp, (Option.some.inj g).symm⟩
      · rename_i e1
        right
        exact ⟨by rw [a3]; simp only [decide_eq_false_iff_not]; exact fun z => e1 z.symm, ih _ rfl g⟩
    · cases g
theorem gx_St.eqv {U V : State} (h : gx_St U) (hh : U.heap = V.heap) (hv : U.vm = V.vm) : gx_St V := by
  refine ⟨fun w hw => ?_, fun q hq => ?_⟩
  · have h1 := gx_ws_ok w hw
    simp only [Bool.and_eq_true] at h1
    rw [← gx_eqv h1.1 hh hv #[] #[]]
    exact h.1 w hw
  · rw [← gx_str hv #[] #[]]
    exact h.2 q hq
/-- what was there stays: the words on statics too -/
theorem gx_ws_st : ∀ w ∈ gx_ws, (w.onTables || (match w with | .isRef (.static _ _ _) => true | .laysStatic _ _ _ => true | _ => false)) = true := by decide +kernel
theorem gx_St.mv2 {s U : State} (h : gx_St s) (hW : s.WarmedH U.vm) (hk : ∀ q : Nat, q < s.heap.size → U.heap[q]? = s.heap[q]?) : gx_St U := by
  have h0 : gx_St (s.setVm U.vm) := h.mv hW rfl
  refine ⟨fun w hw => ?_, fun q hq => ?_⟩
  · have h1 := gx_ws_ok w hw
    simp only [Bool.and_eq_true] at h1
    have hb := h0.1 w hw
    cases ht : w.onTables with
    | true =>
      have h2 := Cond.onTables_vm (A := #[]) (A' := #[]) (U := s) (U' := U) U.vm w ht
      rw [State.setVm_self] at h2
      rw [← h2]; exact hb
    | false =>
      have h3 := gx_ws_st w hw
      rw [ht] at h3
      simp only [Bool.false_or] at h3
      have hkeep : ∀ (a : Nat) (cell : Cell), (s.setVm U.vm).heap[a]? = some cell → U.heap[a]? = some cell := by
        intro a cell hc
        have hc' : s.heap[a]? = some cell := hc
        rw [hk a (Array.getElem?_eq_some_iff.mp hc').1]; exact hc'
      have hff : ∀ O f d, U.fieldFound? O f d = (s.setVm U.vm).fieldFound? O f d := fun O f d => rfl
      cases w with
      | laysStatic O f d =>
        obtain ⟨c, k, i, fd, a, cell, hc, hi, hst, ha, hcell, hs, hcls, hlt, hty⟩ := Cond.laysStatic_spec hb
        exact Cond.laysStatic_of (s := U) hc (by rw [hff]; exact hi) hst ha (hkeep _ _ hcell) hs hcls hlt hty
      | isRef t =>
        cases t with
        | static O f d =>
          simp only [Cond.before, Cond.holds, Cond.value, Term.eval, State.fieldNamed?] at hb ⊢
          rw [hff]
          cases hq : (s.setVm U.vm).fieldFound? O f d with
          | none => rw [hq] at hb; simp at hb
          | some r =>
            rw [hq] at hb
            obtain ⟨r1, r2, r3, r4⟩ := r
            cases hs4 : r4.isStatic with
            | false => simp [hs4] at hb
            | true =>
              cases hst : r2.statics with
              | none => simp [hs4, hst] at hb
              | some a =>
                cases hcell : (s.setVm U.vm).heap[a]? with
                | none =>
                  have : s.heap[a]? = none := hcell
                  simp [hs4, hst, this] at hb
                | some cell =>
                  have e1 : s.heap[a]? = some cell := hcell
                  have e2 : U.heap[a]? = some cell := hkeep _ _ hcell
                  simp [hs4, hst, e1] at hb
                  simp [hs4, hst, e2]
                  exact hb
        | _ => simp at h3
      | _ => simp at h3
  · rw [← gx_str (U := s.setVm U.vm) (V := U) rfl #[] #[]]
    exact h0.2 q hq
/-- the helper's contract: the world w, and out, a long[1] -/
def gl_p (E : gp_E) (cJ : ClassId) (w : va_W) (sz : Nat) (U : State) : Prop := U.heap.size = sz ∧ va_P E.1 gp_cl w U.heap ∧ va_K E.1 gp_cl (gp_ty E ++ [(cJ, .long)]) U ∧ va_D (fun _ => True) w ∧ gx_St U ∧ gy_Ct U
def gl_CH (l : Launch) (y : MethodName) (cc : ByteArray) (maxL : Nat) (hh : List (Nat × Nat × Nat × Nat)) (E : gp_E) (cJ : ClassId) (w w' : va_W) (av : List Value) (r : Int32) : Prop :=
  ∀ sz : Nat, Met l y (.codeWith y cc maxL (some .int) hh :: gw) (gp_rm 20 1 6) (va_Pc av (gl_p E cJ w sz)) (gp_QW E (some (.int r)) w w' sz) 1 6 (va_A w sz)
theorem gl_b {E : gp_E} {cJ : ClassId} {w : va_W} {sz : Nat} {av : List Value} : FrameBlind (va_Pc av (gl_p E cJ w sz)) := fun a U g mk q => by
  obtain ⟨q0, q1, qP, qK, qD, qS, qC⟩ := q
  exact ⟨q0, q1, qP, va_K.moved (u := U) (U := U.calling g mk a) (Vm.Alike.refl U.vm) qK, qD, qS.eqv rfl rfl, qC.mv (Vm.Alike.refl U.vm)⟩
section GlB
variable {l : Launch} {y : MethodName} {cc : ByteArray} {maxL : Nat} {hh : List (Nat × Nat × Nat × Nat)} {E : gp_E} {cJ : ClassId} {w w' : va_W} {av : List Value} {r : Int32}
theorem gl_of (hy : plainName y.cls = true) (hlen : (lg_sl av).length ≤ maxL)
    (body : ∀ (p : Program) (e : Env) (s : State) (m : MethodId) (below : List Frame) (meth : Method) (c : Code) (ls : Array Slot) (A : Nat → Prop), p.tables.exec = Jvm.exec → c.code = cc → meth.sig.returnType = some .int → (∀ x ∈ gw, x.before av.toArray s = true) → s.vm.findClass y.cls = some m.cls → meth.locks = false → c.maxLocals = maxL →
      c.exceptionTable.toList.map (fun h => (h.startPc, h.endPc, h.handlerPc, h.catchType)) = hh →
      va_P E.1 gp_cl w s.heap → va_K E.1 gp_cl (gp_ty E ++ [(cJ, .long)]) s → va_D A w → (∀ q, s.heap.size ≤ q → A q) → va_A w s.heap.size = A → gx_St s → gy_Ct s → lv_has ls maxL (lv_args 0 av) →
      W p l e (gp_rm 20 1 6) s m av.toArray below meth c s.heap [] 0 0 (MQ below (gp_QW E (some (.int r)) w w' s.heap.size) av.toArray s 1 6 A) (F0 m 0 ls [])) : gl_CH l y cc maxL hh E cJ w w' av r := by
  intro sz
  refine va_MetW (cc := cc) (maxL := maxL) (ret := some .int) (hh := hh) hy rfl ?_
  intro p e s m args below meth c s₁ B hml hv
  obtain ⟨rfl, hsz, hP, hK, hD0, hSt, hCt⟩ := hv
  subst hsz
  have hts := atoms_spec (ws := .codeWith y cc maxL (some .int) hh :: gw) B.pre
  have htb : c.exceptionTable.toList.map (fun h => (h.startPc, h.endPc, h.handlerPc, h.catchType)) = hh := by
    obtain ⟨m9, meth9, c9, hn9, h1, h2, -, -, h5, -⟩ := Cond.codeWith_spec (hts _ List.mem_cons_self)
    cases B.named.symm.trans hn9
    cases B.method.symm.trans h1
    cases (Stand.of_body B).code.symm.trans h2
    exact h5
  have hl := lv_entry av (n := maxL) hlen
  rw [lg_entry_eq]
  generalize (lg_sl av ++ List.replicate (maxL - (lg_sl av).length) Slot.unset).toArray = ls at hl ⊢
  exact body p e s m below meth c ls (va_A w s.heap.size) B.exec B.bytes B.returns (fun x h => hts x (List.mem_cons_of_mem _ h)) (findClass_of_methodNamed B.named) B.notSynchronized hml htb hP hK hD0.self (fun q h => Or.inr h) rfl hSt hCt hl
end GlB
section GlC
variable {p : Program} {l : Launch} {e : Env} {R : Room} {s : State} {m : MethodId} {args : Array Value} {below : List Frame} {meth : Method} {c : Code} {H : Heap} {locs : List Loc} {cells slots : Nat} {Q : State → Prop}
variable {y : MethodName} {bytes cc : ByteArray} {maxL nL n index k : Nat} {ret : Option FieldType} {own : String} {b : Addr} {As rest st0 : List Value} {pc : Nat} {ls : Array Slot}
variable {E : gp_E} {w w' wo : va_W} {A0 : Nat → Prop} {r : Int32} {v : Option Value} {X : String} {cJ : ClassId} {hh : List (Nat × Nat × Nat × Nat)}
/-- a call of a method that throws, caught here -/
theorem gl_thr (F : CallFix p m c cc nL s args gw "GuidePlansLaw") (hM : gx_CT l y bytes maxL ret k E w (.ref b :: As) X) {r0 : vw_C} {q0 ci : Nat} {fs : List Value}
    (cw : CallW R s args "GuidePlansLaw" r0.1 index y bytes maxL ret (.code y bytes maxL ret :: gw) (gp_rm k 1 6) 1 6 n) (hK : va_K E.1 gp_cl (gp_ty E) s) (hP : va_P E.1 gp_cl w s.heap) (hSt : gx_St s) (hCt : gy_Ct s) (hX : X ∈ gy_ns)
    (hc : gp_cl[ci]? = some r0) (he : w[q0]? = some (b, .inr (ci, fs))) (hn : As.length = n) (hsize : ls.size = nL) (hstack : st0 = As.reverse ++ .ref b :: rest) (hW : (rest.map fun v => v.category).sum ≤ 8) (hdg : decode cc pc = .ok (.invokevirtual index, 3)) (hf : 1 ≤ R.cells ∧ 6 ≤ R.slots)
    (htb : c.exceptionTable.toList.map (fun h => (h.startPc, h.endPc, h.handlerPc, h.catchType)) = hh) {h : Nat} (hgo : gy_go X pc hh = some h)
    (kk : ∀ (q : Nat) (H1 : Heap), s.heap.size ≤ H1.size → (∀ i : Nat, i < s.heap.size → H1[i]? = s.heap[i]?) → W p l e R s m args below meth c H1 [] 1 6 Q (F0 m h ls [.ref q])) : W p l e R s m args below meth c s.heap [] 0 0 Q (F0 m pc ls st0) := by
  intro T hT X0
  obtain ⟨q, ce, T', X', hce, hcv, hcl, hz, hk, st⟩ := gx_go F hM cw hK hP hSt hc he hn hsize hstack hW hdg hf hT X0
  have hk0 : ∃ k, s.vm.classes[ce.cls]? = some k := by
    obtain ⟨c1, c2, a1, a2, a3, -⟩ := hCt X hX X hX
    cases hcl.symm.trans a1
    exact a3
  have hpl : e.platform.magicAccessors = ({} : Platform).magicAccessors := by rw [X0.admits.platform]
  obtain ⟨vm', X2, st2⟩ := gy_caught X' q (g := F0 m pc ls rest) rfl hce hcv hk0 (h := h) (gy_hits hpl F.2.2.2.2 F.2.2.2.1 hCt hX hcl _ _ htb hgo)
  obtain ⟨t2, a1, b1⟩ := kk q T'.heap hz hk (T'.setVm vm') rfl X2
  exact ⟨t2, st t2 (st2 t2 a1), b1⟩
/-- a virtual call of a method that writes, beside other cells: what is apart stays -/
theorem gl_cW {q0 ci : Nat} {r0 : vw_C} {fs : List Value} (F : CallFix p m c cc nL s args gw own) (hM : gp_CW l y bytes maxL ret k E w w' (.ref b :: As) v)
    (cw : CallW R s args own r0.1 index y bytes maxL ret (.code y bytes maxL ret :: gw) (gp_rm k 0 0) 0 0 n) (hK : va_K E.1 gp_cl (gp_ty E) s) (hP : va_P E.1 gp_cl w H) (hD : va_D A0 w) (hS : va_S A0 s.heap H locs) (hA : ∀ q, s.heap.size ≤ q → A0 q)
    (hc : gp_cl[ci]? = some r0) (he : w[q0]? = some (b, .inr (ci, fs))) (hn : As.length = n) (hsize : ls.size = nL) (hstack : st0 = As.reverse ++ .ref b :: rest) (hW : (rest.map fun v => v.category).sum ≤ 8) (hdg : decode cc pc = .ok (.invokevirtual index, 3)) (hf : cells + 0 ≤ R.cells ∧ slots + 0 ≤ R.slots)
    (kk : ∀ (H1 : Heap) (locs1 : List Loc), va_P E.1 gp_cl w' H1 → (∀ q : Nat, q < H.size → ¬ va_A w H.size q → H1[q]? = H[q]?) → H.size ≤ H1.size → va_S A0 s.heap H1 locs1 → W p l e R s m args below meth c H1 locs1 cells slots Q (F0 m (pc + 3) ls (v.toList ++ rest))) : W p l e R s m args below meth c H locs cells slots Q (F0 m pc ls st0) := by
  have hF := gp_free hD hS hA
  intro T hT X
  obtain ⟨v1, st₀, t, T', L, h0, X', hL, e1, e2, ⟨hv, hP1, hz, hk⟩, st⟩ := va_runV (As := As) (rest := rest) F (hM H.size) cw ⟨gp_b1, va_recv hK hP hc he, gp_s1 hK hP hD⟩ rfl hn hsize hstack (lv_room hW) hdg hf T hT X
  obtain rfl : v1 = v := by cases hv; rfl
  rw [h0] at hz hk
  obtain ⟨t2, a1, b1⟩ := kk T'.heap (locs ++ L) (by rw [e1]; exact hP1) (fun q h1 h2 => by rw [e1]; exact hk q h1 h2) (by rw [e1]; exact hz)
    ⟨Nat.le_trans hS.1 (by rw [e1]; exact hz), fun q h1 h2 => by rw [e1, hk q (Nat.lt_of_lt_of_le h1 hS.1) (fun z => h2 (hF q z))]; exact hS.2.1 q h1 h2, fun q hq => by
      rcases List.mem_append.mp hq with h | h
      · exact hS.2.2 q h
      · exact hF _ (hL q h)⟩ T' rfl X'
  exact ⟨t2, st t2 a1, b1⟩
/-- a static call of a helper -/
theorem gl_cH (F : CallFix p m c cc nL s args gw own) (hM : gl_CH l y bytes maxL hh E cJ w w' As r)
    (hlink : (Cond.methodLink own index y).before args s = true) (hst : (Cond.static y).before args s = true) (hini : (Cond.initialized y.cls).before args s = true) (hcode : Cond.codeWith y bytes maxL (some .int) hh ∈ gw) (hy : y.cls ≠ "java/lang/invoke/MethodHandle" ∧ y.cls ≠ "java/lang/invoke/VarHandle") (hlen : ∀ sig, parseMethodDescriptor y.desc = some sig → As.length = sig.parameters.length) (hR : 20 + 1 ≤ R.frames ∧ 8 + (maxL + 11) + 800 ≤ R.locals)
    (hK : va_K E.1 gp_cl (gp_ty E ++ [(cJ, .long)]) s) (hP : va_P E.1 gp_cl w H) (hD : va_D A0 w) (hS : va_S A0 s.heap H locs) (hA : ∀ q, s.heap.size ≤ q → A0 q) (hA2 : ∀ q, q < s.heap.size → ¬ A0 q) (hSt : gx_St s) (hCt : gy_Ct s)
    (hsize : ls.size = nL) (hstack : st0 = As.reverse ++ rest) (hW : (rest.map fun v => v.category).sum ≤ 8) (hdg : decode cc pc = .ok (.invokestatic index, 3)) (hf : cells + 1 ≤ R.cells ∧ slots + 6 ≤ R.slots)
    (kk : ∀ (H1 : Heap) (locs1 : List Loc), va_P E.1 gp_cl w' H1 → (∀ q : Nat, q < H.size → ¬ va_A w H.size q → H1[q]? = H[q]?) → H.size ≤ H1.size → va_S A0 s.heap H1 locs1 → W p l e R s m args below meth c H1 locs1 (cells + 1) (slots + 6) Q (F0 m (pc + 3) ls (.int r :: rest))) : W p l e R s m args below meth c H locs cells slots Q (F0 m pc ls st0) := by
  have hF := gp_free hD hS hA
  intro T hT X
  obtain ⟨hx, hb, hml, ho, hts⟩ := F
  have hws : ∀ w ∈ (Cond.codeWith y bytes maxL (some .int) hh :: gw), ∀ (a' : Array Value) (U : State), s.WarmedH U.vm → w.before a' U = true := by
    refine pay_in hts ?_
    intro x hx
    refine gw_good x ?_
    rcases List.mem_cons.mp hx with rfl | h
    · exact hcode
    · exact h
  have hB : Back l R p e below s args y 3 8 (PreOf R 1 6 (va_Pc As (gl_p E cJ w H.size))) (PostOf (gp_QW E (some (.int r)) w w' H.size) 1 6 (va_A w H.size)) :=
    va_backW (hh := hh) (bytes := bytes) (maxL := maxL) (ret := some .int) (hM H.size) gl_b rfl rfl hR.1 hR.2 hws List.mem_cons_self (fun a' U hW => word_at hW (Or.inl (by first | rfl | simp [Cond.onTables, Cond.keeps, Cond.steady])) hini)
  obtain ⟨mk, methM, cM, hnamed, hmethM, -, -, -, -, -, -, hsigM⟩ := Cond.codeWith_spec (hts _ hcode)
  have hstatic : methM.isStatic = true := Cond.static_spec hnamed hmethM hst
  obtain ⟨kP, hkP, -⟩ := className_of_methodNamed hnamed
  have hinitP : kP.init = .initialized := Cond.initialized_spec (findClass_of_methodNamed hnamed) hkP hini
  obtain ⟨vm₁, X₁, hstep₁⟩ := X.invokestatic hx ho hlink hnamed hmethM hstatic hkP hinitP hy (g := F0 m pc ls st0) rfl (argsL := As) (rest := rest) (hlen _ hsigM) hstack (by rw [hb]; exact hdg)
  have hkeep : ∀ q : Nat, q < s.heap.size → (T.setVm vm₁).heap[q]? = s.heap[q]? := fun q hq => by
    show T.heap[q]? = _
    rw [hT]; exact hS.2.1 q hq (hA2 q hq)
  obtain ⟨v1, ⟨U', l2, c2, s2⟩, X', ⟨g', mk', t, L, e1, e2, ⟨hv, hP1, hz, hk⟩, h1, hL, h2, h3⟩, hsteps⟩ := hB m meth c ⟨T.setVm vm₁, locs, cells, slots⟩ (F0 m pc ls rest) (.invokestatic index) mk As.toArray X₁ rfl (hsize.trans hml.symm) (by rw [hb]; exact hdg) (lv_room hW) (X₁.named hnamed)
    ⟨hf.1, hf.2, rfl, by show T.heap.size = _; rw [hT], by show va_P _ _ _ T.heap; rw [hT]; exact hP, va_K.moved X₁.warmed.alike hK, hD.weaken (fun _ _ _ _ => trivial), hSt.mv2 X₁.warmed hkeep, hCt.mv X₁.warmed.alike⟩
  dsimp only [Pt.U, Pt.locs, Pt.cells, Pt.slots] at X' e1 e2 h1 h2 h3 hsteps
  subst h1; subst h2; subst h3
  cases hv
  have h0 : ((T.setVm vm₁).calling g' mk' As.toArray).heap = H := hT
  rw [h0] at hz hk
  obtain ⟨t2, a1, b1⟩ := kk U'.heap (locs ++ L) (by rw [e1]; exact hP1) (fun q h1 h2 => by rw [e1]; exact hk q h1 h2) (by rw [e1]; exact hz)
    ⟨Nat.le_trans hS.1 (by rw [e1]; exact hz), fun q h1 h2 => by rw [e1, hk q (Nat.lt_of_lt_of_le h1 hS.1) (fun z => h2 (hF q z))]; exact hS.2.1 q h1 h2, fun q hq => by
      rcases List.mem_append.mp hq with h | h
      · exact hS.2.2 q h
      · exact hF _ (hL q h)⟩ U' rfl X'
  exact ⟨t2, hstep₁ _ fun acts => by rw [doInvoke_state]; exact hsteps.trans a1, b1⟩
end GlC
