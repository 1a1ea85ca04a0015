/-! ===== catching: rows of ours. The class that a row of the table names may be asked for the first time here: the tables warm ===== -/
/-- the rows, all of them over pc, the last of those looked at catches, at h -/
def gy_hit (pl : Platform) (s₀ : State) (d : ClassId) (pc : Nat) (thrown : ClassId) : List ExceptionTableEntry → Nat → Prop
  | [], _ => False
  | x :: t, h => covers x pc = true ∧ x.catchType ≠ 0 ∧ ∃ c : ClassId, s₀.vm.ClassLinks pl d x.catchType c ∧ ((s₀.vm.assignable thrown c = true ∧ h = x.handlerPc) ∨ (s₀.vm.assignable thrown c = false ∧ gy_hit pl s₀ d pc thrown t h))
theorem gy_row {Q : Handler → Pre} {E : CtlPost} {e : Env} {d : Bool} {acts : List Action} {s : State} {f : JFrame} {a : Addr} {x : ExceptionTableEntry} {t : List ExceptionTableEntry} {c : ClassId} {cell : Cell} (hx : covers x f.pc = true) (h0 : x.catchType ≠ 0)
    (hl : s.vm.ClassLinks e.platform f.method.cls x.catchType c) (hcell : s.heap[a]? = some cell) (hobj : ∀ k, cell.vm ≠ .statics k) (hk : ∃ k, s.vm.classes[cell.cls]? = some k) (hc : ∃ k, s.vm.classes[c]? = some k) :
    wp (findHandler.go f a (x :: t)) Q E e d acts s ↔ (if s.vm.assignable cell.cls c = true then Q (.found x.handlerPc) d acts (s.setVm (s.vm.noted f.method.cls x.catchType (.cls c))) else wp (findHandler.go f a t) Q E e d acts (s.setVm (s.vm.noted f.method.cls x.catchType (.cls c)))) := by
  simp only [covers] at hx
  obtain ⟨ha, ht⟩ := (resolveClass_links e.toSetting hl).op (op := VmOp.resolveClass f.method.cls x.catchType) rfl
  have hal : s.vm.Alike (s.vm.noted f.method.cls x.catchType (.cls c)) := (Vm.Alike.refl s.vm).noted _ _ _
  obtain ⟨k1, hk1⟩ := hk
  obtain ⟨k2, hk2⟩ := hc
  obtain ⟨k1', hk1', -⟩ := hal.2.2 _ _ hk1
  obtain ⟨k2', hk2', -⟩ := hal.2.2 _ _ hk2
  by_cases hfit : s.vm.assignable cell.cls c = true
  · have hfit' : (s.vm.noted f.method.cls x.catchType (.cls c)).assignable cell.cls c = true := by rw [hal.assignable]; exact hfit
    simp [findHandler.go, hx, h0, ha, ht, hcell, hobj, hk1', hk2', hfit, hfit', VmOp.dirties, VmOp.acts]
  · have hfit2 : s.vm.assignable cell.cls c = false := by simpa using hfit
    have hfit' : (s.vm.noted f.method.cls x.catchType (.cls c)).assignable cell.cls c = false := by rw [hal.assignable]; exact hfit2
    simp [findHandler.go, hx, h0, ha, ht, hcell, hobj, hk1', hk2', hfit2, hfit', VmOp.dirties, VmOp.acts]
theorem gy_find {e : Env} {s₀ : State} {f : JFrame} {a : Addr} {cell : Cell} {h : Nat} (hobj : ∀ k, cell.vm ≠ .statics k) (hk0 : ∃ k, s₀.vm.classes[cell.cls]? = some k) : ∀ (rows : List ExceptionTableEntry) (S : State), s₀.WarmedH S.vm → S.heap[a]? = some cell → gy_hit e.platform s₀ f.method.cls f.pc cell.cls rows h →
    ∃ vm', s₀.WarmedH vm' ∧ ∀ (Q : Handler → Pre) (E : CtlPost) (d : Bool) (acts : List Action), wp (findHandler.go f a rows) Q E e d acts S ↔ Q (.found h) d acts (S.setVm vm') := by
  intro rows
  induction rows with
  | nil => intro S _ _ hh; exact hh.elim
  | cons x t ih =>
    intro S hW hcell hh
    obtain ⟨hx, h0, c, hl, hh⟩ := hh
    obtain ⟨k0, hk0⟩ := hk0
    obtain ⟨k0', hk0', -⟩ := hW.alike.2.2 _ _ hk0
    obtain ⟨dk, _, _, kt, hd, _, _, _, _, hkt, _, hopen⟩ := hl.here
    obtain ⟨kt', hkt', -⟩ := hW.alike.2.2 _ _ hkt
    have hW2 : s₀.WarmedH (S.vm.noted f.method.cls x.catchType (.cls c)) := hW.noted hd hopen (State.rightAt_cls hl)
    rcases hh with ⟨hfit, rfl⟩ | ⟨hno, hh⟩
    · refine ⟨_, hW2, fun Q E d acts => ?_⟩
      rw [gy_row hx h0 (hW.classLinks hl) hcell hobj ⟨k0', hk0'⟩ ⟨kt', hkt'⟩, if_pos (by rw [hW.alike.assignable]; exact hfit)]
    · obtain ⟨vm', hW', hq⟩ := ih (S.setVm (S.vm.noted f.method.cls x.catchType (.cls c))) hW2 hcell hh
      refine ⟨vm', hW', fun Q E d acts => ?_⟩
      rw [gy_row hx h0 (hW.classLinks hl) hcell hobj ⟨k0', hk0'⟩ ⟨kt', hkt'⟩, if_neg (by rw [hW.alike.assignable, hno]; decide)]
      exact hq Q E d acts
theorem gy_throwing {e : Env} {s : State} {a : Addr} {f : JFrame} {r : List Frame} {h : Nat} {vm' : Vm} (hfind : ∀ (Q : Handler → Pre) (E : CtlPost) (d : Bool) (acts : List Action), wp (findHandler f a) Q E e d acts s ↔ Q (.found h) d acts (s.setVm vm')) :
    (stepThrowing e s a (.java f :: r)).Is ((s.setVm vm').setFrames (.java { f with pc := h, stack := [.ref a] } :: r)) [] := by
  simp only [stepThrowing, searchFrame, vmDo]
  generalize hr : Sem.go _ e false [] s = res
  obtain ⟨as, rfl, ha⟩ := Sem.eq_ok_of hr (a := Handler.found h) (s' := s.setVm vm') (acts' := []) (by simp [hfind _ _ _ _])
  exact ⟨rfl, ha⟩
theorem gy_caught {p : Program} {l : Launch} {e : Env} {R : Room} {s : State} {m : MethodId} {args : Array Value} {below : List Frame} {meth : Method} {c : Code} {T : State} {locs : List Loc} {cells slots : Nat} (X : Stand p l e R s m args below meth c T locs cells slots) (a : Addr) {g : JFrame} (hg : g.method = m)
    {cell : Cell} (hcell : T.heap[a]? = some cell) (hobj : cell.vm = .none) (hk0 : ∃ k, s.vm.classes[cell.cls]? = some k) {h : Nat} (hh : gy_hit e.platform s m.cls g.pc cell.cls c.exceptionTable.toList h) :
    ∃ vm', Stand p l e R s m args below meth c (T.setVm vm') locs cells slots ∧ ∀ target, Steps p.tables e below ((T.setVm vm').setTop { g with pc := h, stack := [.ref a] }) target → Steps p.tables e below ((T.setTop g).pushFrame (.throwing a)) target := by
  subst hg
  obtain ⟨vm', hW', hf⟩ := gy_find (e := e) (s₀ := s) (f := g) (a := a) (cell := cell) (h := h) (fun k => by rw [hobj]; exact fun z => by cases z) hk0 c.exceptionTable.toList ((T.setTop g).pushFrame (.throwing a)) X.warmed hcell hh
  refine ⟨vm', X.noted hW', fun target hrest => ?_⟩
  have hm' : ((T.setTop g).pushFrame (.throwing a)).vm.method? g.method = some meth := X.method'
  have hfind : ∀ (Q : Handler → Pre) (E : CtlPost) (d : Bool) (acts : List Action), wp (findHandler g a) Q E e d acts ((T.setTop g).pushFrame (.throwing a)) ↔ Q (.found h) d acts (((T.setTop g).pushFrame (.throwing a)).setVm vm') := fun Q E d acts => by
    rw [Jvm.W.findHandler_eq hm' X.code]
    exact hf Q E d acts
  have hat : At T g.method c below := X.here
  obtain ⟨hgo, hw⟩ := hat.throwing a
  refine Steps.head hgo hw ?_
  obtain ⟨g₀, hg0⟩ := Option.isSome_iff_exists.mp hat.top
  obtain ⟨r, hr⟩ := State.topJava?_eq_some.mp hg0
  have hr' : (T.setVm vm').frames = .java g₀ :: r := hr
  rw [stepThread_throwing (frames_entered hat.top _), (gy_throwing (s := (T.setTop g).pushFrame (.throwing a)) hfind).1]
  rw [State.setTop_of_frames _ hr'] at hrest
  have e1 : ∀ (u : State) (F G : List Frame), ((u.setFrames F).setVm vm').setFrames G = (u.setVm vm').setFrames G := fun u F G => by
    show ((u.setVm vm').setFrames F).setFrames G = _
    rw [State.setFrames_setFrames]
  rw [hr, List.tail_cons, State.pushFrame, e1, State.setTop_of_frames _ hr, e1]
  exact hrest
