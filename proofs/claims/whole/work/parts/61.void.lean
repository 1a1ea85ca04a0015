/-! ===== methods that read and answer nothing ===== -/
def gp_QV : Array Value → State → Outcome → State → Prop := fun _ st o t => o = .returned none ∧ t.heap = st.heap
def gp_CV (l : Launch) (y : MethodName) (cc : ByteArray) (maxL : Nat) (ret : Option FieldType) (k : Nat) (E : gp_E) (w : va_W) (av : List Value) : Prop :=
  Met l y (.code y cc maxL ret :: gw) (gp_rm k 0 0) (va_Pc av (gp_p0 E w)) gp_QV 0 0 (fun _ => False)
section GpV
variable {l : Launch} {y : MethodName} {cc : ByteArray} {maxL : Nat} {ret : Option FieldType} {k : Nat} {E : gp_E} {w : va_W} {av : List Value}
theorem gp_ofV (hy : plainName y.cls = true) (hlen : (lg_sl av).length ≤ maxL)
    (body : ∀ (p : Program) (e : Env) (s : State) (m : MethodId) (below : List Frame) (meth : Method) (c : Code) (ls : Array Slot), p.tables.exec = Jvm.exec → c.code = cc → meth.sig.returnType = ret → (∀ x ∈ gw, x.before av.toArray s = true) → s.vm.findClass y.cls = some m.cls → meth.locks = false → c.maxLocals = maxL →
      va_P E.1 gp_cl w s.heap → va_K E.1 gp_cl (gp_ty E) s → lv_has ls maxL (lv_args 0 av) →
      W p l e (gp_rm k 0 0) s m av.toArray below meth c s.heap [] 0 0 (MQ below gp_QV av.toArray s 0 0 (fun _ => False)) (F0 m 0 ls [])) : gp_CV l y cc maxL ret k E w av := by
  refine Met.ofW (cc := cc) (maxL := maxL) (ret := ret) hy rfl ?_
  intro p e s m args below meth c s₁ B hml hv
  obtain ⟨rfl, hP, hK⟩ := hv
  have hts := atoms_spec (ws := .code y cc maxL ret :: gw) B.pre
  have hl := lv_entry av (n := maxL) hlen
  rw [lg_entry_eq]
  generalize (lg_sl av ++ List.replicate (maxL - (lg_sl av).length) Slot.unset).toArray = ls at hl ⊢
  exact body p e s m below meth c ls B.exec B.bytes B.returns (fun x h => hts x (List.mem_cons_of_mem _ h)) (findClass_of_methodNamed B.named) B.notSynchronized hml hP hK hl
end GpV
section GpV2
variable {p : Program} {l : Launch} {e : Env} {R : Room} {s : State} {m : MethodId} {args : Array Value} {below : List Frame} {meth : Method} {c : Code} {H : Heap} {locs : List Loc} {cells slots : Nat} {Q : State → Prop}
variable {y : MethodName} {bytes cc : ByteArray} {maxL nL n index k : Nat} {ret : Option FieldType} {own : String} {b : Addr} {As rest st0 : List Value} {pc : Nat} {ls : Array Slot}
variable {E : gp_E} {w : va_W}
theorem gp_cV0 {q0 ci : Nat} {r0 : vw_C} {fs : List Value} (F : CallFix p m c cc nL s args gw own) (hM : gp_CV l y bytes maxL ret k E w (.ref b :: As))
    (cw : CallW R s args own r0.1 index y bytes maxL ret (.code y bytes maxL ret :: gw) (gp_rm k 0 0) 0 0 n) (hK : va_K E.1 gp_cl (gp_ty E) s) (hP : va_P E.1 gp_cl w H)
    (hc : gp_cl[ci]? = some r0) (he : w[q0]? = some (b, .inr (ci, fs))) (hn : As.length = n) (hsize : ls.size = nL) (hstack : st0 = As.reverse ++ .ref b :: rest) (hW : (rest.map fun v => v.category).sum ≤ 8) (hdg : decode cc pc = .ok (.invokevirtual index, 3)) (hf : cells + 0 ≤ R.cells ∧ slots + 0 ≤ R.slots)
    (kk : W p l e R s m args below meth c H locs cells slots Q (F0 m (pc + 3) ls rest)) : W p l e R s m args below meth c H locs cells slots Q (F0 m pc ls st0) := by
  intro T hT X
  obtain ⟨v, st₀, t, T', L, h0, X', hL, e1, ⟨hv, hh⟩, st⟩ := W.runV (As := As) (rest := rest) F hM cw ⟨gp_b0, va_recv hK hP hc he, gp_s0 hK hP⟩ rfl hn hsize hstack (lv_room hW) hdg hf T hT X
  cases hv
  obtain ⟨t2, a1, b1⟩ := kk T' (by rw [e1, hh, h0]) (Stand.forget X' (fun q h => (hL q h).elim))
  exact ⟨t2, st t2 a1, b1⟩
theorem gp_rv (hx : p.tables.exec = Jvm.exec) (hb : c.code = cc) (hr : meth.sig.returnType = none) (hlocks : meth.locks = false) (hdg : decode cc pc = .ok (.return_, 1)) : W p l e R s m args below meth c s.heap [] 0 0 (MQ below gp_QV args s 0 0 (fun _ => False)) (F0 m pc ls []) :=
  W.vret hx hb hr (fun t ht _ => ⟨rfl, ht⟩) (fun _ h => nomatch h) hdg hlocks
end GpV2
theorem gx_hat1 : ∀ w ∈ gx_at 48 "java/lang/IllegalArgumentException", w ∈ gx_ws := fun _ h => List.mem_append_left _ h
theorem gx_hat2 : ∀ w ∈ gx_at 58 "java/lang/IllegalStateException", w ∈ gx_ws := fun _ h => List.mem_append_right _ (List.mem_append_left _ h)
theorem gx_hat3 : ∀ w ∈ gx_at 85 "java/util/NoSuchElementException", w ∈ gx_ws := fun _ h => List.mem_append_right _ (List.mem_append_right _ h)
