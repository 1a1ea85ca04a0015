def gp_uF (F : Nat → Nat → Int32) (a : Nat) (g : Nat → Int32) : Nat → Nat → Int32 := fun j => if j = a then g else F j
def gp_wG (E : gp_E) (I : Nat → Int32) (F : Nat → Nat → Int32) : va_W := [(E.2.2.2 0, .inr (0, [.ref (E.2.2.2 1), .ref (E.2.2.2 2), .ref (E.2.2.2 17), .ref (E.2.2.2 18), .int (I 0), .int (I 1), .int (I 2), .int (I 3)])), (E.2.2.2 1, .inr (1, [.ref (E.2.2.2 3), .ref (E.2.2.2 4), .ref (E.2.2.2 5), .ref (E.2.2.2 6), .ref (E.2.2.2 7), .ref (E.2.2.2 8), .ref (E.2.2.2 9), .ref (E.2.2.2 10), .int (I 4), .int (I 5), .int (I 6), .int (I 7), .int (I 8)])), (E.2.2.2 2, .inr (2, [.ref (E.2.2.2 11), .ref (E.2.2.2 12), .ref (E.2.2.2 13), .ref (E.2.2.2 14), .ref (E.2.2.2 15), .ref (E.2.2.2 16), .int (I 9), .int (I 10), .int (I 11)])), (E.2.2.2 3, .inl (E.2.1, 4, .inl (F 0))), (E.2.2.2 4, .inl (E.2.1, 20, .inl (F 1))), (E.2.2.2 5, .inl (E.2.1, 20, .inl (F 2))), (E.2.2.2 6, .inl (E.2.1, 20, .inl (F 3))), (E.2.2.2 7, .inl (E.2.1, 6, .inl (F 4))), (E.2.2.2 8, .inl (E.2.1, 6, .inl (F 5))), (E.2.2.2 9, .inl (E.2.1, 6, .inl (F 6))), (E.2.2.2 10, .inl (E.2.2.1, 6, .inl (F 7))), (E.2.2.2 11, .inl (E.2.1, 6, .inl (F 8))), (E.2.2.2 12, .inl (E.2.1, 6, .inl (F 9))), (E.2.2.2 13, .inl (E.2.1, 6, .inl (F 10))), (E.2.2.2 14, .inl (E.2.1, 6, .inl (F 11))), (E.2.2.2 15, .inl (E.2.1, 4, .inl (F 12))), (E.2.2.2 16, .inl (E.2.1, 4, .inl (F 13))), (E.2.2.2 17, .inl (E.2.1, 6, .inl (F 14))), (E.2.2.2 18, .inl (E.2.1, 6, .inl (F 15)))]
def gp_wM (E : gp_E) (I : Nat → Int32) (F : Nat → Nat → Int32) : va_W := [(E.2.2.2 0, .inr (3, [.int (I 0), .int (I 1), .ref (E.2.2.2 1), .int (I 2), .ref (E.2.2.2 2), .ref (E.2.2.2 3), .ref (E.2.2.2 4), .int (I 3), .ref (E.2.2.2 5), .ref (E.2.2.2 6), .ref (E.2.2.2 7), .ref (E.2.2.2 8), .ref (E.2.2.2 9), .ref (E.2.2.2 10), .ref (E.2.2.2 11), .ref (E.2.2.2 12), .int (I 4), .int (I 5), .int (I 6), .int (I 7), .int (I 8), .int (I 9), .ref (E.2.2.2 13), .int (I 10), .int (I 11), .int (I 12), .int (I 13)])), (E.2.2.2 1, .inl (E.2.1, 4, .inl (F 0))), (E.2.2.2 2, .inl (E.2.1, 20, .inl (F 1))), (E.2.2.2 3, .inl (E.2.1, 20, .inl (F 2))), (E.2.2.2 4, .inl (E.2.1, 20, .inl (F 3))), (E.2.2.2 5, .inl (E.2.1, 6, .inl (F 4))), (E.2.2.2 6, .inl (E.2.1, 6, .inl (F 5))), (E.2.2.2 7, .inl (E.2.1, 6, .inl (F 6))), (E.2.2.2 8, .inl (E.2.2.1, 6, .inl (F 7))), (E.2.2.2 9, .inl (E.2.1, 6, .inl (F 8))), (E.2.2.2 10, .inl (E.2.1, 6, .inl (F 9))), (E.2.2.2 11, .inl (E.2.1, 6, .inl (F 10))), (E.2.2.2 12, .inl (E.2.2.1, 6, .inl (F 11))), (E.2.2.2 13, .inl (E.2.1, 6, .inl (F 12)))]
section GpA
variable {p : Program} {l : Launch} {e : Env} {R : Room} {s : State} {m : MethodId} {args : Array Value} {below : List Frame} {meth : Method} {c : Code} {H H0 : Heap} {locs : List Loc} {cells slots : Nat} {Q : State → Prop}
variable {cc : ByteArray} {pc : Nat} {ls : Array Slot} {rest : List Value} {E : gp_E} {A : Nat → Prop} {a : Nat} {ws : va_W}
theorem gp_ald (hx : p.tables.exec = Jvm.exec) (hb : c.code = cc) (hK : va_K E.1 gp_cl (gp_ty E) s) (hP : va_P E.1 gp_cl ws H) (q0 : Nat) {n : Nat} {f : Nat → Int32} (ha : ws[q0]? = some (a, .inl (E.2.1, n, .inl f))) {i : Int32} (t : Nat) (hi : i = nI t) (hlt : t < n) (hn : n < 2 ^ 31) (hdg : decode cc pc = .ok (.iaload, 1))
    (kk : W p l e R s m args below meth c H locs cells slots Q (F0 m (pc + 1) ls (.int (f t) :: rest))) : W p l e R s m args below meth c H locs cells slots Q (F0 m pc ls (.int i :: .ref a :: rest)) := by
  subst hi
  refine va_iald hx hb hK hP q0 0 ha rfl (vp_in_nI hlt hn) hdg ?_
  rw [nI_clamp (Nat.lt_trans hlt hn)]
  exact kk
theorem gp_zld (hx : p.tables.exec = Jvm.exec) (hb : c.code = cc) (hK : va_K E.1 gp_cl (gp_ty E) s) (hP : va_P E.1 gp_cl ws H) (q0 : Nat) {n : Nat} {f : Nat → Int32} (ha : ws[q0]? = some (a, .inl (E.2.2.1, n, .inl f))) {i : Int32} (t : Nat) (hi : i = nI t) (hlt : t < n) (hn : n < 2 ^ 31) (hdg : decode cc pc = .ok (.baload, 1))
    (kk : W p l e R s m args below meth c H locs cells slots Q (F0 m (pc + 1) ls (.int (f t) :: rest))) : W p l e R s m args below meth c H locs cells slots Q (F0 m pc ls (.int i :: .ref a :: rest)) := by
  subst hi
  refine va_zald hx hb hK hP q0 1 ha rfl (vp_in_nI hlt hn) hdg ?_
  rw [nI_clamp (Nat.lt_trans hlt hn)]
  exact kk
theorem gp_ast (hx : p.tables.exec = Jvm.exec) (hb : c.code = cc) (hK : va_K E.1 gp_cl (gp_ty E) s) (hP : va_P E.1 gp_cl ws H) (hD : va_D A ws) (hS : va_S A H0 H locs) (q0 : Nat) {n : Nat} {f : Nat → Int32} (ha : ws[q0]? = some (a, .inl (E.2.1, n, .inl f))) {i x : Int32} (t : Nat) (hi : i = nI t) (hlt : t < n) (hn : n < 2 ^ 31) (hdg : decode cc pc = .ok (.iastore, 1))
    (kk : ∀ (H1 : Heap) (locs1 : List Loc), va_P E.1 gp_cl (ws.set q0 (a, .inl (E.2.1, n, .inl (upd f t x)))) H1 → va_D A (ws.set q0 (a, .inl (E.2.1, n, .inl (upd f t x)))) → va_S A H0 H1 locs1 → W p l e R s m args below meth c H1 locs1 cells slots Q (F0 m (pc + 1) ls rest)) : W p l e R s m args below meth c H locs cells slots Q (F0 m pc ls (.int x :: .int i :: .ref a :: rest)) := by
  subst hi
  refine va_iast hx hb hK hP hD hS q0 0 ha rfl (vp_in_nI hlt hn) hdg ?_
  rw [nI_clamp (Nat.lt_trans hlt hn)]
  exact kk
theorem gp_zst (hx : p.tables.exec = Jvm.exec) (hb : c.code = cc) (hK : va_K E.1 gp_cl (gp_ty E) s) (hP : va_P E.1 gp_cl ws H) (hD : va_D A ws) (hS : va_S A H0 H locs) (q0 : Nat) {n : Nat} {f : Nat → Int32} (ha : ws[q0]? = some (a, .inl (E.2.2.1, n, .inl f))) {i x : Int32} (t : Nat) (hi : i = nI t) (hlt : t < n) (hn : n < 2 ^ 31) (hx1 : vp_nar .boolean x = x) (hdg : decode cc pc = .ok (.bastore, 1))
    (kk : ∀ (H1 : Heap) (locs1 : List Loc), va_P E.1 gp_cl (ws.set q0 (a, .inl (E.2.2.1, n, .inl (upd f t x)))) H1 → va_D A (ws.set q0 (a, .inl (E.2.2.1, n, .inl (upd f t x)))) → va_S A H0 H1 locs1 → W p l e R s m args below meth c H1 locs1 cells slots Q (F0 m (pc + 1) ls rest)) : W p l e R s m args below meth c H locs cells slots Q (F0 m pc ls (.int x :: .int i :: .ref a :: rest)) := by
  subst hi
  refine va_zast hx hb hK hP hD hS q0 1 ha rfl (vp_in_nI hlt hn) hdg ?_
  rw [nI_clamp (Nat.lt_trans hlt hn), hx1]
  exact kk
end GpA
