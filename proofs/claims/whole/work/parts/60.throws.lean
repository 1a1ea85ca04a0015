/-! ===== methods that throw (a launch without stack traces): rows of ours over the library's own laws of throwing ===== -/
/-- the one class of the three whose constructor of a text calls super(..) by the entry 13 of its pool; the others by 7 -/
def gx_ix (X : String) : Nat := if X = "java/util/NoSuchElementException" then 13 else 7
def gx_rx (X : String) : ByteArray := if X = "java/util/NoSuchElementException" then ⟨#[0x2a, 0x2b, 0xb7, 0x00, 0x0d, 0xb1]⟩ else Bundle.six
theorem gx_rx_ok (X : String) : decode (gx_rx X) 0 = .ok (.aload_n 0, 1) ∧ decode (gx_rx X) 1 = .ok (.aload_n 1, 1) ∧ decode (gx_rx X) 2 = .ok (.invokespecial (gx_ix X), 3) ∧ decode (gx_rx X) 5 = .ok (.return_, 1) := by
  by_cases h : X = "java/util/NoSuchElementException"
  · rw [gx_rx, gx_ix, if_pos h, if_pos h]; decide +kernel
  · rw [gx_rx, gx_ix, if_neg h, if_neg h]; decide +kernel
def gx_good : Cond → Bool
  | .instanceMethod _ => false
  | .code _ _ _ _ => false
  | .declares _ => false
  | .methodLink o _ _ => o == "GuidePlans"
  | _ => true
def gx_tl (ic : Nat) (X : String) : List Cond := (Bundle.ownAtoms "GuidePlans" ic X ["java/lang/RuntimeException", "java/lang/Exception"]).filter gx_good
def gx_at (ic : Nat) (X : String) : List Cond := Bundle.throwableAtoms ++ (Bundle.throwableSAtoms ++ (Bundle.passSAtoms X "java/lang/RuntimeException" (gx_ix X) (gx_rx X) ++ (Bundle.chainSAtoms "java/lang/RuntimeException" ["java/lang/Exception"] ++ gx_tl ic X)))
def gx_ws : List Cond := gx_at 48 "java/lang/IllegalArgumentException" ++ (gx_at 58 "java/lang/IllegalStateException" ++ gx_at 85 "java/util/NoSuchElementException")
def gx_tx : List (Nat × String) := [(46, "skills are not 0 .. 255"), (56, "there are four persons"), (171, "no such person"), (178, "not 0 <= from < to <= 96"), (184, "there are 20 spans off"), (83, "no such skill"), (89, "there are six tasks"), (180, "quarters are not 0 .. 96"), (176, "no such task"), (182, "nothing was planned"), (135, "no such change"), (165, "nothing to count by this number")]
/-- what a throw needs of the start: the words on Throwable and its kin, the texts -/
def gx_St (U : State) : Prop := (∀ w ∈ gx_ws, w.before #[] U = true) ∧ ∀ q ∈ gx_tx, (Cond.stringRef "GuidePlans" q.1 q.2).before #[] U = true
def gx_stat : Cond → Bool
  | .isRef (.static _ _ _) => true
  | .laysStatic _ _ _ => true
  | _ => false
theorem gx_eqv {w : Cond} (hw : (w.onTables || gx_stat w) = true) {U V : State} (hh : U.heap = V.heap) (hv : U.vm = V.vm) (a b : Array Value) : w.before a U = w.before b V := by
  cases h : w.onTables with
  | true =>
    have h1 := Cond.onTables_vm (A := a) (A' := b) (U := U) (U' := V) V.vm w h
    rw [State.setVm_self] at h1
    rw [← h1, ← hv, State.setVm_self]
  | false =>
    rw [h] at hw
    simp only [Bool.false_or] at hw
    cases w with
    | isRef t =>
      cases t with
      | static C n d => cases U; cases V; cases hh; cases hv; rfl
      | _ => simp [gx_stat] at hw
    | laysStatic C n d => cases U; cases V; cases hh; cases hv; rfl
    | _ => simp [gx_stat] at hw
theorem gx_str {i : Nat} {tx : String} {U V : State} (hv : U.vm = V.vm) (a b : Array Value) : (Cond.stringRef "GuidePlans" i tx).before a U = (Cond.stringRef "GuidePlans" i tx).before b V := by
  cases U; cases V; cases hv; rfl
theorem gx_ws_ok : ∀ w ∈ gx_ws, ((w.onTables || gx_stat w) && w.keepsFace) = true := by decide +kernel
theorem gx_St.mv {s U : State} (h : gx_St s) (hW : s.WarmedH U.vm) (hh : U.heap = s.heap) : gx_St U := by
  refine ⟨fun w hw => ?_, fun q hq => ?_⟩
  · have h1 := gx_ws_ok w hw
    simp only [Bool.and_eq_true] at h1
    have h2 := Cond.before_shiftedFace (State.Shifted.of_warmed hW) w h1.2 (h.1 w hw)
    rw [← h2]
    exact gx_eqv (V := s.setVm U.vm) h1.1 hh rfl #[] #[]
  · have h2 := Cond.stringRef_warmed (args := #[]) hW (h.2 q hq)
    rw [← h2]
    exact gx_str (V := s.setVm U.vm) rfl #[] #[]
def gx_QT (X : String) : Array Value → State → Outcome → State → Prop := fun _ st o t => ∃ (q : Addr) (ce : Cell), o = .threw q ∧ t.heap[q]? = some ce ∧ ce.vm = .none ∧ st.vm.findClass X = some ce.cls ∧ st.heap.size ≤ t.heap.size ∧ (∀ i : Nat, i < st.heap.size → t.heap[i]? = st.heap[i]?) ∧ st.WarmedH t.vm ∧ st.sameButNew ({ t with vm := st.vm } : State) [] 1 6
def gx_MQ (below : List Frame) (X : String) (a : Array Value) (s : State) : State → Prop := fun t => ∃ o, t.status = .running ∧ Ended t below o ∧ gx_QT X a s o t
/-- a method that throws an X, and writes nothing -/
def gx_CT (l : Launch) (y : MethodName) (cc : ByteArray) (maxL : Nat) (ret : Option FieldType) (k : Nat) (E : gp_E) (w : va_W) (av : List Value) (X : String) : Prop :=
  MetFree l y (headSpec (.code y cc maxL ret :: gw) (gp_rm k 1 6)) (va_Pc av (fun U => gp_p0 E w U ∧ gx_St U)) (fun _ _ _ _ _ => True) (gx_QT X)
theorem gx_kept {s t : State} {k n : Nat} (h : s.sameButNew t [] k n) : ∀ i : Nat, i < s.heap.size → t.heap[i]? = s.heap[i]? := by
  obtain ⟨-, -, -, -, -, q⟩ := h
  intro i hi
  have hc0 : s.heap[i]? = some s.heap[i] := Array.getElem?_eq_getElem hi
  obtain ⟨c', h1, h2, -, h4⟩ := q i _ hc0
  rw [h1, hc0]
  have h5 : c'.slots = (s.heap[i]).slots := Array.ext_getElem? (fun j => h4 j (by simp))
  rw [h2, h5]
section GxB
variable {l : Launch} {y : MethodName} {cc : ByteArray} {maxL : Nat} {ret : Option FieldType} {k : Nat} {E : gp_E} {w : va_W} {av : List Value} {X : String}
theorem gx_ofT (hy : plainName y.cls = true) (hlen : (lg_sl av).length ≤ maxL)
    (body : ∀ (p : Program) (e : Env) (s : State) (m : MethodId) (below : List Frame) (meth : Method) (c : Code) (ls : Array Slot), p.tables.exec = Jvm.exec → c.code = cc → meth.sig.returnType = ret → (∀ x ∈ gw, x.before av.toArray s = true) → s.vm.findClass y.cls = some m.cls → meth.locks = false → c.maxLocals = maxL → (∀ x ∈ c.exceptionTable.toList, False) →
      va_P E.1 gp_cl w s.heap → va_K E.1 gp_cl (gp_ty E) s → gx_St s → lv_has ls maxL (lv_args 0 av) →
      W p l e (gp_rm k 1 6) s m av.toArray below meth c s.heap [] 0 0 (gx_MQ below X av.toArray s) (F0 m 0 ls [])) : gx_CT l y cc maxL ret k E w av X := by
  refine MetFree.of_bodyS (code := cc) (maxLocals := maxL) (ret := ret) hy ?_ ?_
  · intro args s m h hn
    obtain ⟨meth, c, h1, h2, h3, h4, h5, h6, -, -⟩ := Cond.code_spec hn (atoms_spec (ws := .code y cc maxL ret :: gw) h _ List.mem_cons_self)
    exact ⟨meth, c, h1, h2, h3, h4, h5, h6⟩
  · intro p e s m args below meth c s₁ B hml hv _
    obtain ⟨rfl, ⟨hP, hK⟩, hSt⟩ := hv
    have hts := atoms_spec (ws := .code y cc maxL ret :: gw) B.pre
    have hh0 : s₁.heap = s.heap := by rw [B.state]; rfl
    have hem : ∀ x ∈ c.exceptionTable.toList, False := by
      have h9 := BodyLoose.noHandlers B (hts _ List.mem_cons_self)
      intro x hx
      rw [Array.isEmpty_iff.mp h9] at hx
      cases hx
    have hl := lv_entry av (n := maxL) hlen
    have hb := fun (ls : Array Slot) (hl : lv_has ls maxL (lv_args 0 av)) => body p e s m below meth c ls B.exec B.bytes B.returns (fun x h => hts x (List.mem_cons_of_mem _ h)) (findClass_of_methodNamed B.named) B.notSynchronized hml hem hP hK hSt hl
    have h := hb _ hl
    rw [← lg_entry_eq] at h
    obtain ⟨t, a1, o, b1, b2, b3⟩ := h s₁ hh0 (Stand.of_body B)
    exact ⟨t, o, a1, b1, b2, b3⟩
end GxB
/-- new X("..") has its text and is thrown: the constructors of X, RuntimeException, Exception, Throwable; X calls super(..) by its own entry -/
theorem gx_ctor {p : Program} {l : Launch} {e : Env} {R : Room} {s : State} {m : MethodId} {args : Array Value} {below : List Frame} {meth : Method} {c : Code} {T : State} {cells slots : Nat} (S : Stand p l e R s m args below meth c T [] cells slots) (hexec : p.tables.exec = Jvm.exec) (htr : e.platform.stackTraces = false) {X : String} {ic : Nat}
    (hown : s.vm.findClass "GuidePlans" = some m.cls) (hX : Bundle.fit X = true) (hat : ∀ w ∈ gx_at ic X, w.before args s = true)
    {a : Addr} {cX : ClassId} {kX : Class} (hfX : s.vm.findClass X = some cX) (hkX : s.vm.classes[cX]? = some kX) (hcell : T.heap[a]? = some (freshCell cX kX)) (hnew : s.heap.size ≤ a) {tx : Value} (htx : tx.isRef = true)
    {g : JFrame} (hg : g.method = m) (hsize : g.locals.size = c.maxLocals) (hlk : g.locked = none) (hen : g.entered = []) {rest : List Value} (hstack : g.stack = tx :: .ref a :: .ref a :: rest)
    (d6 : decode c.code g.pc = .ok (.invokespecial ic, 3)) (d9 : decode c.code (g.pc + 3) = .ok (.athrow, 1)) (hem : ∀ x ∈ c.exceptionTable.toList, covers x (g.pc + 3) = false)
    (hRf : 5 < R.frames) (hRl : 2 * g.monitorRoom + ((Value.ref a :: rest).map fun v => v.category).sum + 81 ≤ R.locals) (hlocks : meth.locks = false) :
    ∃ U : State, Steps p.tables e below (T.setTop g) U ∧ U.status = .running ∧ Ended U below (.threw a) ∧ s.WarmedH U.vm ∧ s.sameButNew ({ U with vm := s.vm } : State) [] cells slots ∧ ∃ ce, U.heap[a]? = some ce ∧ ce.vm = .none ∧ s.vm.findClass X = some ce.cls := by
  have hpl : e.platform.magicAccessors = ({} : Platform).magicAccessors := by rw [S.admits.platform]
  have w1 : ∀ w ∈ Bundle.throwableAtoms, w.before args s = true := fun w h => hat w (List.mem_append_left _ h)
  have w2 : ∀ w ∈ Bundle.throwableSAtoms, w.before args s = true := fun w h => hat w (List.mem_append_right _ (List.mem_append_left _ h))
  have w3 : ∀ w ∈ Bundle.passSAtoms X "java/lang/RuntimeException" (gx_ix X) (gx_rx X), w.before args s = true := fun w h => hat w (List.mem_append_right _ (List.mem_append_right _ (List.mem_append_left _ h)))
  have w4 : ∀ w ∈ Bundle.chainSAtoms "java/lang/RuntimeException" ["java/lang/Exception"], w.before args s = true := fun w h => hat w (List.mem_append_right _ (List.mem_append_right _ (List.mem_append_right _ (List.mem_append_left _ h))))
  have w5 : ∀ w, w ∈ Bundle.ownAtoms "GuidePlans" ic X ["java/lang/RuntimeException", "java/lang/Exception"] → gx_good w = true → w.before args s = true := fun w h g => hat w (List.mem_append_right _ (List.mem_append_right _ (List.mem_append_right _ (List.mem_append_right _ (List.mem_filter.mpr ⟨h, g⟩)))))
  obtain ⟨Th, Z0, L, -, Y⟩ := ThrowableC.of_atoms (args := args) (pl := e.platform) (by rw [S.admits.platform]) (by rw [S.admits.platform]) hpl w1
  obtain ⟨Z, M, LZ, LM, hnZ⟩ := Init0T.ofS_atoms (args := args) hpl L Y w2
  obtain ⟨r0, r1, r2, r5⟩ := gx_rx_ok X
  obtain ⟨P0, L0, hP0, hs0⟩ := PassC.ofS_atoms (args := args) hpl (Bundle.fit_spec hX).1 (by decide) r0 r1 r2 r5 w3
  obtain ⟨P1, Ps, hlen, L1, hLs, hP1, hk1, hks⟩ := Bundle.chainS (args := args) hpl hnZ ["java/lang/Exception"] "java/lang/RuntimeException" (by decide) (by decide) w4
  have hs01 : P0.sup = P1.m := Option.some.inj (hs0.symm.trans hP1)
  have hf0 : s.vm.findClass X = some P0.m.cls := findClass_of_methodNamed hP0
  cases Option.some.inj (hfX.symm.trans hf0)
  obtain ⟨c1, k1, hc1, hk1', hord, -, -, -⟩ := Cond.instantiable_spec (w5 (.instantiable X 6) (by simp [Bundle.ownAtoms]) rfl)
  cases Option.some.inj (hc1.symm.trans hf0)
  cases Option.some.inj (hkX.symm.trans hk1')
  have hsel : ∀ (t : MethodName) (r : MethodId), s.methodNamed? t = some r → (t.cls ≠ "java/lang/invoke/MethodHandle" ∧ t.cls ≠ "java/lang/invoke/VarHandle") → (Cond.selects X t t).before args s = true → selectMethod e.platform s.vm P0.m.cls r = .method r := by
    intro t r hr ht hw
    obtain ⟨c2, r2, m2, q1, q2, q3, q4, -⟩ := Cond.selects_spec hw
    cases Option.some.inj (q1.symm.trans hf0)
    cases Option.some.inj (q2.symm.trans (State.methodFound?_of_named hr ht))
    cases Option.some.inj (q3.symm.trans hr)
    rw [Launch.admits_selectMethod S.admits]; exact q4
  have hsel0 := hsel _ _ Y.fill0 (by decide) (w5 (.selects X Bundle.tFill0 Bundle.tFill0) (by simp [Bundle.ownAtoms]) rfl)
  have hselF := hsel _ _ Y.fill (by decide) (w5 (.selects X Bundle.tFill Bundle.tFill) (by simp [Bundle.ownAtoms]) rfl)
  obtain ⟨cS0, hcS0, hiS⟩ := Y.statics
  obtain ⟨u0, hu0⟩ := Cond.staticRefV Y.unassigned L.unassignedStatic L.statics hcS0 hiS (w5 (.isRef (.static Bundle.tN "UNASSIGNED_STACK" Bundle.steD)) (by simp [Bundle.ownAtoms]) rfl)
  obtain ⟨u1, hu1⟩ := Cond.staticRefV Y.sentinel L.sentinelStatic L.statics hcS0 hiS (w5 (.isRef (.static Bundle.tN "SUPPRESSED_SENTINEL" Bundle.listD)) (by simp [Bundle.ownAtoms]) rfl)
  obtain ⟨cb, ib, fb, hb1, hb2, hb3, hb4, -, hb5, hb6, hb7⟩ := Cond.ownField (t := .object "java/lang/Object") Y.found L.cls (by decide +kernel) (w5 (.fieldLink Bundle.tN 198 Bundle.tN "backtrace" "Ljava/lang/Object;") (by simp [Bundle.ownAtoms]) rfl) (w5 (.lays Bundle.tN Bundle.tN "backtrace" "Ljava/lang/Object;") (by simp [Bundle.ownAtoms]) rfl) e.platform hpl
  obtain ⟨cS, hcS, heS, -, hkS⟩ := S.same.2.2.2.2.2 Th.aS cS0 hcS0
  have hcS : T.heap[Th.aS]? = some cS := hcS
  obtain ⟨iM, hffM⟩ := Y.msg
  obtain ⟨tC, dC, hdC, hnC⟩ := Cond.laysAt hf0 hk1' Y.cause (w5 (.lays X Bundle.tN "cause" "Ljava/lang/Throwable;") (by simp [Bundle.ownAtoms]) rfl)
  obtain ⟨tS, dS, hdS, hnS⟩ := Cond.laysAt hf0 hk1' Y.stack (w5 (.lays X Bundle.tN "stackTrace" Bundle.steD) (by simp [Bundle.ownAtoms]) rfl)
  obtain ⟨tP, dP, hdP, hnP⟩ := Cond.laysAt hf0 hk1' Y.supp (w5 (.lays X Bundle.tN "suppressedExceptions" Bundle.listD) (by simp [Bundle.ownAtoms]) rfl)
  obtain ⟨tM, -, -, -⟩ := Cond.laysAt hf0 hk1' hffM (w5 (.lays X Bundle.tN "detailMessage" "Ljava/lang/String;") (by simp [Bundle.ownAtoms]) rfl)
  obtain ⟨tB, dB, hdB, hnB⟩ := Cond.laysAt hf0 hk1' hb7 (w5 (.lays X Bundle.tN "backtrace" "Ljava/lang/Object;") (by simp [Bundle.ownAtoms]) rfl)
  have aC := Cond.laysApart hdB hdC hnB hnC (by rw [hb5, Y.causeName]; decide)
  have aS := Cond.laysApart hdB hdS hnB hnS (by rw [hb5, Y.stackName]; decide)
  have aP := Cond.laysApart hdB hdP hnB hnP (by rw [hb5, Y.suppName]; decide)
  have hskip : SkipFacts Th e.platform s (fun u => u) u0 ((preparedCellV Th.toThrowableT (freshCell P0.m.cls kX) a u0 u1).withEntry T.cur) := by
    refine ⟨{ ci198 := cb, i198 := ib, fBack := fb }, ⟨hb1, hb2, hb3, hb4⟩, ?_, fun _ _ => rfl⟩
    have hz := fresh_default (c := P0.m.cls) tB
    rw [hb6] at hz
    simpa [preparedCellV, Cell.setSlot, Cell.withEntry, Array.getElem?_setIfInBounds, aC, aS, aP, aC.symm, aS.symm, aP.symm, defaultValue] using hz
  obtain ⟨tm, -, -, -, vm₁, hn0, -, -, -, -, -, -, -, hW₁, st1⟩ := Steps.initColdS (tb := p.tables) (e := e) (below := below) (s := s) (U := T) S.here hexec S.warmed hpl hown (t := Bundle.initS X) rfl rfl (Bundle.fit_spec hX).2
    (w5 (.methodLink "GuidePlans" ic (Bundle.initS X)) (by simp [Bundle.ownAtoms]) rfl) (w3 _ (by simp [Bundle.passSAtoms])) (bytes := gx_rx X) (maxL := 2) (w3 _ (by simp [Bundle.passSAtoms])) (f := g) hg (a := a) (msg := tx) (rest := .ref a :: rest) hstack d6
  cases Option.some.inj (hn0.symm.trans hP0)
  have S₁ := S.noted hW₁
  have hlt : a < T.heap.size := (Array.getElem?_eq_some_iff.mp hcell).1
  obtain ⟨vm₂, S₂, st2⟩ := S₁.ctorMessageOffV hexec (g := { g with stack := .ref a :: rest }) hg hsize Th L Z LZ M LM (P0 :: P1 :: Ps)
    (fun P hP => by
      rcases List.mem_cons.mp hP with rfl | hP
      · exact L0
      · rcases List.mem_cons.mp hP with rfl | hP
        · exact L1
        · exact hLs P hP) ⟨hs01, hk1, hks⟩ (u0 := u0) (sen := u1) (self := a) htx (cell := freshCell P0.m.cls kX) (cellS := cS)
    hcell (fun _ => by simp) (by simp) rfl rfl hsel0 hselF hcS (Nat.ne_of_lt (Nat.lt_of_lt_of_le (Array.getElem?_eq_some_iff.mp hcS0).1 hnew)) (fun hu => by
      rw [heS] at hu
      rw [show cS0.vm = .unknown from hu] at hiS
      cases hiS) (by rw [hkS _ (by simp)]; exact hu0) (by rw [hkS _ (by simp)]; exact hu1)
    (Takes.of_laid hk1' hord tC (by rw [Y.causeType]; rfl)) (Takes.of_laid hk1' hord tS (by rw [Y.stackType]; exact fits_refV_array _ u0)) (Takes.of_laid hk1' hord tP (by rw [Y.suppType]; exact fits_refV_object _ u1)) (Takes.of_laid hk1' hord tM (by rw [Y.msgType]; exact fits_refV_object _ ⟨tx, htx⟩)) Y.objLocals hskip htr [] d6
    (by simp only [List.length_cons, hlen, List.length_nil]; omega) (by simp only [List.length_cons, hlen, List.length_nil]; exact hRl)
  obtain ⟨hwalk, hrun, hend, hWU, hsame⟩ := S₂.athrowLeaves hexec (g := { g with stack := .ref a :: rest, pc := g.pc + 3 }) hg hlk hen hem (a := a) (rest := rest) rfl d9
  have hU := heapAt_setCell_self (s := (T.setVm vm₁).setVm vm₂) (plainBareV Th.toThrowableT (freshCell P0.m.cls kX) a u0 u1 tx) hlt
  refine ⟨_, st1 _ (fun acts => ?_), hrun, hend, hWU, hsame.weaken (fun y hy hl => ?_) (Nat.le_refl _) (Nat.le_refl _), _, hU, rfl, hf0⟩
  · rw [doInvoke_state]
    exact st2 _ hwalk
  · exfalso
    have hb : y.base = a := by
      simp only [List.nil_append, List.mem_cons, List.not_mem_nil, or_false] at hy
      rcases hy with rfl | rfl | rfl | rfl | rfl <;> rfl
    rw [hb] at hl
    exact Nat.not_lt.mpr hnew hl
section GxC
variable {p : Program} {l : Launch} {e : Env} {R : Room} {s : State} {m : MethodId} {args : Array Value} {below : List Frame} {meth : Method} {c : Code}
variable {y : MethodName} {bytes cc : ByteArray} {maxL nL n index k : Nat} {ret : Option FieldType} {own : String} {b : Addr} {As rest st0 : List Value} {pc : Nat} {ls : Array Slot}
variable {E : gp_E} {w : va_W} {X : String}
/-- throw new X("..") -/
theorem gx_thr (hexec : p.tables.exec = Jvm.exec) (hb : c.code = cc) (hl : l.stackTraces = false) {ik is ic : Nat} {tx : String} (hown : s.vm.findClass "GuidePlans" = some m.cls) (hX : Bundle.fit X = true)
    (hk : (Cond.classLink "GuidePlans" ik X).before args s = true) (hini : (Cond.initialized X).before args s = true) (hSt : gx_St s) (hat : ∀ w ∈ gx_at ic X, w ∈ gx_ws) (htx : (is, tx) ∈ gx_tx) (hsize : ls.size = c.maxLocals)
    (d0 : decode cc pc = .ok (.new ik, 3)) (d3 : decode cc (pc + 3) = .ok (.dup, 1)) (d4 : decode cc (pc + 4) = .ok (.ldc is, 2)) (d6 : decode cc (pc + 6) = .ok (.invokespecial ic, 3)) (d9 : decode cc (pc + 9) = .ok (.athrow, 1))
    (hem : ∀ x ∈ c.exceptionTable.toList, False) (hRf : 5 < R.frames) (hRl : (rest.map fun v => v.category).sum + 82 ≤ R.locals) (hRc : 1 ≤ R.cells) (hRs : 6 ≤ R.slots) (hlocks : meth.locks = false) :
    W p l e R s m args below meth c s.heap [] 0 0 (gx_MQ below X args s) (F0 m pc ls rest) := by
  intro T hT X0
  have htr : e.platform.stackTraces = false := (show e.platform.stackTraces = l.stackTraces by rw [X0.admits.platform]).trans hl
  have hat2 : ∀ w ∈ gx_at ic X, w.before args s = true := fun w hw => by
    have h1 := gx_ws_ok w (hat w hw)
    simp only [Bool.and_eq_true] at h1
    rw [gx_eqv h1.1 rfl rfl args #[]]
    exact hSt.1 w (hat w hw)
  have hins : (Cond.instantiable X 6).before args s = true := hat2 _ (List.mem_append_right _ (List.mem_append_right _ (List.mem_append_right _ (List.mem_append_right _ (List.mem_filter.mpr ⟨by simp [Bundle.ownAtoms], rfl⟩)))))
  obtain ⟨vm₁, cX, kX, hfX, hkX, -, -, X₁, st1⟩ := X0.newCold hexec (own := "GuidePlans") (C := X) (index := ik) (n := 6) hown hk hins hini (g := F0 m pc ls rest) rfl (by rw [hb]; exact d0) (by omega) (by omega)
  generalize hT1 : (T.setVm vm₁).pushCell { cls := cX, slots := kX.instanceTypes.map defaultValue, vm := .none } = T1 at X₁ st1
  have hcellA : T1.heap[T.heap.size]? = some (freshCell cX kX) := by rw [← hT1]; exact State.heap_pushCell_size _ _
  have hstr : (Cond.stringRef "GuidePlans" is tx).before args s = true := by
    rw [gx_str rfl args #[]]
    exact hSt.2 _ htx
  obtain ⟨-, -, -, sa, -, -, -, -, -, hev⟩ := Cond.stringRef_spec hown hstr
  have hcat : (Value.ref T.heap.size).category = 1 := rfl
  obtain ⟨U, hsteps, hrun, hend, hW, hsame, ce, hce, hOv, hOc⟩ := gx_ctor X₁ hexec htr (X := X) (ic := ic) hown hX hat2 hfX hkX hcellA (by rw [hT]; exact Nat.le_refl _) (tx := .ref sa) rfl
    (g := { method := m, pc := pc + 6, locals := ls, stack := .ref sa :: .ref T.heap.size :: .ref T.heap.size :: rest, locked := none }) rfl hsize rfl rfl (rest := rest) rfl
    (by rw [hb]; exact d6) (by rw [hb]; exact d9) (fun x hx => (hem x hx).elim) hRf (by
      have hm : (JFrame.monitorRoom { method := m, pc := pc + 6, locals := ls, stack := .ref sa :: .ref T.heap.size :: .ref T.heap.size :: rest, locked := none }) = 0 := rfl
      simp only [List.map_cons, List.sum_cons, hcat, hm]
      omega) hlocks
  have hsz : s.heap.size ≤ U.heap.size := hsame.2.1
  have hkeep : ∀ i : Nat, i < s.heap.size → U.heap[i]? = s.heap[i]? := fun i hi => gx_kept (t := { U with vm := s.vm }) hsame i hi
  refine ⟨U, ?_, .threw T.heap.size, hrun, hend, T.heap.size, ce, rfl, hce, hOv, hOc, hsz, hkeep, hW, ?_⟩
  · refine st1 _ ?_
    have d3' : decode c.code (pc + 3) = .ok (.dup, 1) := by rw [hb]; exact d3
    have d4' : decode c.code (pc + 4) = .ok (.ldc is, 2) := by rw [hb]; exact d4
    show Steps p.tables e below (T1.setTop { method := m, pc := pc + 3, locals := ls, stack := .ref T.heap.size :: rest, locked := none }) _
    jvm_step X₁.here [X₁.here.top, hexec, d3', Value.category]
    exact X₁.ldcString hexec (own := "GuidePlans") (text := tx) (index := is) (a := sa) hown hstr hev
      (g := { method := m, pc := pc + 4, locals := ls, stack := .ref T.heap.size :: .ref T.heap.size :: rest, locked := none }) rfl d4' _ hsteps
  · exact hsame.mono (by omega) (by omega)
/-- what a call of a method that throws comes to: the callee's exception over this frame -/
theorem gx_go (F : CallFix p m c cc nL s args gw own) (hM : gx_CT l y bytes maxL ret k E w (.ref b :: As) X) {r0 : vw_C} {q0 ci : Nat} {fs : List Value}
    (cw : CallW R s args own r0.1 index y bytes maxL ret (.code y bytes maxL ret :: gw) (gp_rm k 1 6) 1 6 n) (hK : va_K E.1 gp_cl (gp_ty E) s) (hP : va_P E.1 gp_cl w s.heap) (hSt : gx_St s)
    (hc : gp_cl[ci]? = some r0) (he : w[q0]? = some (b, .inr (ci, fs))) (hn : As.length = n) (hsize : ls.size = nL) (hstack : st0 = As.reverse ++ .ref b :: rest) (hW : (rest.map fun v => v.category).sum ≤ 8) (hdg : decode cc pc = .ok (.invokevirtual index, 3)) (hf : 1 ≤ R.cells ∧ 6 ≤ R.slots)
    {T : State} (hT : T.heap = s.heap) (X0 : Stand p l e R s m args below meth c T [] 0 0) :
    ∃ (q : Addr) (ce : Cell) (T' : State), Stand p l e R s m args below meth c T' [] 1 6 ∧ T'.heap[q]? = some ce ∧ ce.vm = .none ∧ s.vm.findClass X = some ce.cls ∧ s.heap.size ≤ T'.heap.size ∧ (∀ i : Nat, i < s.heap.size → T'.heap[i]? = s.heap[i]?) ∧
      ∀ target, Steps p.tables e below ((T'.setTop (F0 m pc ls rest)).pushFrame (.throwing q)) target → Steps p.tables e below (T.setTop (F0 m pc ls st0)) target := by
  obtain ⟨⟨hrc, hrs, hfr, hlo, hws, hcw, hcode, hini, hy, hlen, hl⟩, hin, hse⟩ := cw
  obtain ⟨hexec, hb, hml, hown, -⟩ := F
  obtain ⟨cellB, hcell, hobj, hcls⟩ := va_recv hK hP hc he
  rw [← hT] at hcell
  obtain ⟨mk, methM, hnamed, hmethM, hstM, habM⟩ := Cond.instanceMethod_spec hin
  obtain ⟨methM', cM, hmethM', hcM, -, hlM, -, -, -, hsigM⟩ := Cond.code_spec hnamed hcode
  cases hmethM.symm.trans hmethM'
  obtain ⟨c2, r2, m2, q1, q2, q3, q4, kP, hkP, hkPi⟩ := Cond.selects_spec hse
  cases hcls.symm.trans q1
  cases (State.methodFound?_of_named hnamed hy).symm.trans q2
  cases hnamed.symm.trans q3
  have hselP : selectMethod e.platform s.vm cellB.cls mk = .method mk := by rw [Launch.admits_selectMethod X0.admits]; exact q4
  have hlen2 : As.length = methM.sig.parameters.length := hn.trans (hlen _ hsigM)
  have hdg' : decode c.code pc = .ok (.invokevirtual index, 3) := by rw [hb]; exact hdg
  obtain ⟨vm₁, X₁, hstep₁⟩ := X0.invokevirtual hexec hown hl hnamed hmethM hstM hkP hkPi hy (a := b) (cell := cellB) hcell
    (fun z h => by rw [h] at hobj; cases hobj) hselP hmethM habM hkP hkPi (g := F0 m pc ls st0) rfl (argsL := As) (rest := rest) hlen2 hstack hdg'
  have hsize' : (F0 m pc ls rest).locals.size = c.maxLocals := hsize.trans hml.symm
  have hn1 : (T.setVm vm₁).methodNamed? y = some mk := X₁.named hnamed
  have hpre : ∀ x ∈ (Cond.code y bytes maxL ret :: gw), x.before (Value.ref b :: As).toArray (T.setVm vm₁) = true := fun x hx => hws x hx _ _ X₁.warmed
  obtain ⟨methY, cY, hmY, hcY, -, hlY, -, -, -, -⟩ := Cond.code_spec hn1 (hpre _ List.mem_cons_self)
  obtain ⟨kY, hkY, -⟩ := className_of_methodNamed hn1
  have hinitY : kY.init = .initialized := Cond.initialized_spec (findClass_of_methodNamed hn1) hkY (word_at (U := T.setVm vm₁) (a' := #[]) X₁.warmed (Or.inl (by first | rfl | simp [Cond.onTables, Cond.keeps, Cond.steady])) hini)
  have h : At (T.setVm vm₁) (F0 m pc ls rest).method c below := X₁.here
  have happ : (headSpec (.code y bytes maxL ret :: gw) (gp_rm k 1 6)).appliesLoose y e.platform ((T.setVm vm₁).calling (F0 m pc ls rest) mk (Value.ref b :: As).toArray) = true :=
    Spec.appliesLoose_calling (g := F0 m pc ls rest) h hdg' hn1 hkY hinitY
      (X₁.room_calling (g := F0 m pc ls rest) (R' := gp_rm k 1 6) hsize' hmY hcY hfr (by
        rw [hlY]
        have h9 : 2 * (F0 m pc ls rest).monitorRoom + ((F0 m pc ls rest).stack.map fun v => v.category).sum ≤ 8 := lv_room hW
        omega) (by simpa using hf.1) (by simpa using hf.2)) (atoms_intro hpre)
  obtain ⟨mid, hmid⟩ := h.above
  have hfrm : ((T.setVm vm₁).setTop (F0 m pc ls rest)).frames = (.java (F0 m pc ls rest) :: mid) ++ below := by rw [State.frames_setTop' _ h.top, hmid]; rfl
  have hPc : va_Pc (.ref b :: As) (fun U => gp_p0 E w U ∧ gx_St U) (Value.ref b :: As).toArray ((T.setVm vm₁).calling (F0 m pc ls rest) mk (Value.ref b :: As).toArray) := by
    refine ⟨rfl, ⟨?_, va_K.moved X₁.warmed.alike hK⟩, hSt.mv X₁.warmed hT⟩
    show va_P E.1 gp_cl w T.heap
    rw [hT]; exact hP
  obtain ⟨o, s₂, hsteps, hrun, hend, q, ce, rfl, hce, hcv, hcl, hz, hk, hW2, hsm⟩ := Steps.callFree hM p X₁.admits X₁.cas X₁.clock (acts := []) hfrm happ hPc trivial
  rw [State.frames_setTop' _ h.top, X₁.tail] at hend
  obtain ⟨T', X', -, -, ht⟩ := X₁.outOfThrown (g := F0 m pc ls rest) rfl (mk := mk) (a := (Value.ref b :: As).toArray) hend hW2 hsm
  have hh2 : s₂.heap = T'.heap := by rw [ht]; exact throwing_heap _ _ _
  have hh3 : ((T.setVm vm₁).calling (F0 m pc ls rest) mk (Value.ref b :: As).toArray).heap = s.heap := hT
  rw [hh2] at hce
  have hz2 : s.heap.size ≤ T'.heap.size := by
    rw [← hh2, ← hh3]; exact hz
  have hk2 : ∀ i : Nat, i < s.heap.size → T'.heap[i]? = s.heap[i]? := by
    rw [← hh2, ← hh3]; exact hk
  refine ⟨q, ce, T', X', hce, hcv, ?_, hz2, hk2, fun target h9 => hstep₁ _ fun acts => ?_⟩
  · have h9 : (T.setVm vm₁).vm.findClass X = some ce.cls := hcl
    rw [X₁.warmed.alike.findClass] at h9
    exact h9
  · rw [doInvoke_state]
    rw [ht] at hsteps
    exact hsteps.trans h9
/-- .. and no row of this method's table catches it -/
theorem gx_cV (F : CallFix p m c cc nL s args gw own) (hM : gx_CT l y bytes maxL ret k E w (.ref b :: As) X) {r0 : vw_C} {q0 ci : Nat} {fs : List Value}
    (cw : CallW R s args own r0.1 index y bytes maxL ret (.code y bytes maxL ret :: gw) (gp_rm k 1 6) 1 6 n) (hK : va_K E.1 gp_cl (gp_ty E) s) (hP : va_P E.1 gp_cl w s.heap) (hSt : gx_St s)
    (hc : gp_cl[ci]? = some r0) (he : w[q0]? = some (b, .inr (ci, fs))) (hn : As.length = n) (hsize : ls.size = nL) (hstack : st0 = As.reverse ++ .ref b :: rest) (hW : (rest.map fun v => v.category).sum ≤ 8) (hdg : decode cc pc = .ok (.invokevirtual index, 3)) (hf : 1 ≤ R.cells ∧ 6 ≤ R.slots)
    (hem : ∀ x ∈ c.exceptionTable.toList, False) (hlocks : meth.locks = false) :
    W p l e R s m args below meth c s.heap [] 0 0 (gx_MQ below X args s) (F0 m pc ls st0) := by
  intro T hT X0
  obtain ⟨q, ce, T', X', hce, hcv, hcl, hz, hk, st⟩ := gx_go F hM cw hK hP hSt hc he hn hsize hstack hW hdg hf hT X0
  obtain ⟨hwalk, hrun, hended, hWU, hsame⟩ := X'.leaveThrown q (g := F0 m pc ls rest) rfl rfl rfl (fun x hx => (hem x hx).elim) hlocks
  exact ⟨_, st _ hwalk, .threw q, hrun, hended, q, ce, rfl, hce, hcv, hcl, hz, hk, hWU, hsame⟩
end GxC
