/-! ===== the law's helpers: each hands the class's answer on, or the number of the exception ===== -/
def gl_o (cJ : ClassId) (oa : Nat) (g : Nat → Int64) : Nat × va_E := (oa, .inl (cJ, 1, .inr (.inl g)))
theorem gl_K {E : gp_E} {cJ : ClassId} {s : State} (h : va_K E.1 gp_cl (gp_ty E ++ [(cJ, .long)]) s) : va_K E.1 gp_cl (gp_ty E) s := ⟨h.1, fun k q hq => h.2 k q (by
  match k, hq with
  | 0, hq => exact hq
  | 1, hq => exact hq
  | k + 2, hq => simp [gp_ty] at hq)⟩
theorem gl_tl {D : va_G} {cl : List vw_C} {o : Nat × va_E} {w : va_W} {H : Heap} (h : va_P D cl (o :: w) H) : va_P D cl w H := fun k q hq => h (k + 1) q hq
theorem gl_td {A : Nat → Prop} {o : Nat × va_E} {w : va_W} (h : va_D A (o :: w)) : va_D A w := ⟨fun i j p q hi hj hpq => by
  have := h.1 (i + 1) (j + 1) p q hi hj hpq
  omega, fun k q hq => h.2 (k + 1) q hq⟩
theorem gl_join {D : va_G} {cl : List vw_C} {A : Nat → Prop} {o : Nat × va_E} {w w' : va_W} {H H1 : Heap} (hP : va_P D cl (o :: w) H) (hD : va_D A (o :: w)) (hk : ∀ q : Nat, q < H.size → ¬ va_A w H.size q → H1[q]? = H[q]?) (hP1 : va_P D cl w' H1) : va_P D cl (o :: w') H1 := by
  intro k q hq
  match k, hq with
  | 0, hq =>
    cases hq
    have h0 := hP 0 o rfl
    refine h0.kept (hk _ h0.lt ?_)
    rintro (⟨k, e, h⟩ | h)
    · have := hD.1 0 (k + 1) o (o.1, e) rfl h rfl
      omega
    · have := h0.lt
      omega
  | k + 1, hq => exact hP1 k q hq
theorem gl_in1 : vp_in (0 : Int32) 1 := by unfold vp_in; decide
section GlR
variable {p : Program} {l : Launch} {e : Env} {R : Room} {s : State} {m : MethodId} {args : Array Value} {below : List Frame} {meth : Method} {c : Code} {H : Heap} {locs : List Loc} {cc : ByteArray} {pc : Nat} {ls : Array Slot} {E : gp_E} {w w' : va_W} {A0 : Nat → Prop} {r : Int32}
theorem gl_ret (hx : p.tables.exec = Jvm.exec) (hb : c.code = cc) (hr : meth.sig.returnType = some .int) (hlocks : meth.locks = false) (hAe : va_A w s.heap.size = A0) (hP : va_P E.1 gp_cl w' H) (hS : va_S A0 s.heap H locs) (hdg : decode cc pc = .ok (.ireturn, 1)) : W p l e R s m args below meth c H locs 1 6 (MQ below (gp_QW E (some (.int r)) w w' s.heap.size) args s 1 6 A0) (F0 m pc ls [.int r]) :=
  W.iret hx hb hr (fun t ht _ => ⟨rfl, by rw [ht]; exact hP, by rw [hAe]; exact hS.F ht⟩) hS.2.2 hdg hlocks
end GlR
theorem gp_RW {l : Launch} {y : MethodName} {cc : ByteArray} {maxL : Nat} {ret : Option FieldType} {k : Nat} {E : gp_E} {w : va_W} {av : List Value} {r : Int32} (h : gp_CR l y cc maxL ret k E w av r) : gp_CW l y cc maxL ret k E w w av (some (.int r)) := by
  intro sz p e ha hc hk s m args below hf happ hP _
  obtain ⟨h1, h2, h3, h4, h5⟩ := hP
  obtain ⟨n, o, a1, a2, a3, ⟨⟨a4, a5⟩, L, a6, a7⟩⟩ := h p e ha hc hk s m args below hf happ ⟨h1, h3, h4⟩ trivial
  exact ⟨n, o, a1, a2, a3, ⟨a4, by rw [a5]; exact h3, ⟨by rw [a5]; exact Nat.le_refl _, fun _ _ _ => by rw [a5]⟩⟩, L, a6, fun q hq => (a7 q hq).elim⟩

set_option maxHeartbeats 4000000 in
set_option maxRecDepth 100000 in
theorem hN_person (l : Launch) (E : gp_E) (I : Nat → Int32) (F : Nat → Nat → Int32) (cJ : ClassId) (oa : Nat) (g : Nat → Int64) (a0 : Int32) (k : Nat) (hk : k ≤ 19) (I2 : Nat → Int32) (F2 : Nat → Nat → Int32) (r : Int32) (hM : gp_CW l y_G_person b_G_person 2 (some .int) k E (gp_wG E I F) (gp_wG E I2 F2) [.ref (E.2.2.2 0), .int a0] (some (.int r))) : gl_CH l y_L_person b_L_person 4 [(0, 9, 12, 13), (0, 9, 15, 15)] E cJ (gl_o cJ oa g :: gp_wG E I F) (gl_o cJ oa (vp_updL g 0 r.toInt64) :: gp_wG E I2 F2) [.ref (E.2.2.2 0), .int a0, .ref oa] 0 := by
  refine gl_of (by decide) (Nat.le_of_ble_eq_true rfl) ?_
  intro xp xe xs xm below meth xc ls A hx hb hr hts hown hlocks hml htb hP hK hD hA hAe hSt hCt hl
  have hS : va_S A xs.heap xs.heap [] := va_S.rf
  have hown : xs.vm.findClass "GuidePlansLaw" = some xm.cls := hown
  have hl : lv_has ls 4 [(0, .ref (E.2.2.2 0)), (1, .int a0), (2, .ref oa)] := hl
  refine lv_aload_n hx hb d_L_person_0 rfl (lv_at hl 2 rfl) ?_
  refine lv_iconst (v := 0) hx hb d_L_person_1 (by decide) ?_
  refine lv_aload_n hx hb d_L_person_2 rfl (lv_at hl 0 rfl) ?_
  refine lv_iload_n hx hb d_L_person_3 rfl (lv_at hl 1 rfl) ?_
  refine gl_cW (q0 := 0) (ci := 0) (As := [.int a0]) (rest := [.int 0, .ref oa]) ⟨hx, hb, hml, hown, hts⟩ hM (k_L_7 hts ⟨by show k + 1 ≤ 20; omega, by show 8 + (2 + 11) + 40 * k ≤ 800; omega⟩ rfl rfl) (gl_K hK) (gl_tl hP) (gl_td hD) hS hA rfl rfl rfl hl.1 rfl (Nat.le_of_ble_eq_true rfl) d_L_person_4 ⟨Nat.le_of_ble_eq_true rfl, Nat.le_of_ble_eq_true rfl⟩ (fun H1 locs1 hP1 hk1 hz1 hS => ?_)
  have hP := gl_join hP hD hk1 hP1
  have hD : va_D A (gl_o cJ oa g :: gp_wG E I2 F2) := gp_dd hD rfl
  refine lv_i2l hx hb d_L_person_7 rfl ?_
  refine va_last (D := E.1) (cl := gp_cl) hx hb hK hP hD hS 0 2 rfl rfl gl_in1 d_L_person_8 (fun H2 locs2 hP hD hS => ?_)
  refine lv_goto (tgt := 18) hx hb d_L_person_9 (by decide) ?_
  refine lv_iconst (v := 0) hx hb d_L_person_18 (by decide) ?_
  refine W.widen (k := 1) (n := 6) (by omega) (by omega) ?_
  exact gl_ret hx hb hr hlocks hAe hP hS d_L_person_19
set_option maxHeartbeats 4000000 in
set_option maxRecDepth 100000 in
theorem hX1_person (l : Launch) (E : gp_E) (I : Nat → Int32) (F : Nat → Nat → Int32) (cJ : ClassId) (oa : Nat) (g : Nat → Int64) (a0 : Int32) (k : Nat) (hk : k ≤ 19) (hM : gx_CT l y_G_person b_G_person 2 (some .int) k E (gp_wG E I F) [.ref (E.2.2.2 0), .int a0] "java/lang/IllegalArgumentException") : gl_CH l y_L_person b_L_person 4 [(0, 9, 12, 13), (0, 9, 15, 15)] E cJ (gl_o cJ oa g :: gp_wG E I F) (gl_o cJ oa g :: gp_wG E I F) [.ref (E.2.2.2 0), .int a0, .ref oa] 1 := by
  refine gl_of (by decide) (Nat.le_of_ble_eq_true rfl) ?_
  intro xp xe xs xm below meth xc ls A hx hb hr hts hown hlocks hml htb hP hK hD hA hAe hSt hCt hl
  have hown : xs.vm.findClass "GuidePlansLaw" = some xm.cls := hown
  have hl : lv_has ls 4 [(0, .ref (E.2.2.2 0)), (1, .int a0), (2, .ref oa)] := hl
  refine lv_aload_n hx hb d_L_person_0 rfl (lv_at hl 2 rfl) ?_
  refine lv_iconst (v := 0) hx hb d_L_person_1 (by decide) ?_
  refine lv_aload_n hx hb d_L_person_2 rfl (lv_at hl 0 rfl) ?_
  refine lv_iload_n hx hb d_L_person_3 rfl (lv_at hl 1 rfl) ?_
  refine gl_thr (q0 := 0) (ci := 0) (As := [.int a0]) (rest := [.int 0, .ref oa]) ⟨hx, hb, hml, hown, hts⟩ hM (k_L_7 hts ⟨by show k + 1 ≤ 20; omega, by show 8 + (2 + 11) + 40 * k ≤ 800; omega⟩ rfl rfl) (gl_K hK) (gl_tl hP) hSt hCt (by decide) rfl rfl rfl hl.1 rfl (Nat.le_of_ble_eq_true rfl) d_L_person_4 ⟨Nat.le_of_ble_eq_true rfl, Nat.le_of_ble_eq_true rfl⟩ htb (h := 12) (by decide +kernel) (fun q H1 hz hk => ?_)
  have hP := hP.kept (H1 := H1) (fun k q h => hk _ (hP k q h).lt)
  have hS : va_S A xs.heap H1 [] := ⟨hz, fun q h1 _ => hk q h1, fun _ h => nomatch h⟩
  refine lv_astore_n (lv' := (3, .ref q) :: [(0, .ref (E.2.2.2 0)), (1, .int a0), (2, .ref oa)]) hx hb d_L_person_12 rfl hl (by decide) rfl (fun ls hl => ?_)
  refine lv_iconst (v := 1) hx hb d_L_person_13 (by decide) ?_
  exact gl_ret hx hb hr hlocks hAe hP hS d_L_person_14
set_option maxHeartbeats 4000000 in
set_option maxRecDepth 100000 in
theorem hX2_person (l : Launch) (E : gp_E) (I : Nat → Int32) (F : Nat → Nat → Int32) (cJ : ClassId) (oa : Nat) (g : Nat → Int64) (a0 : Int32) (k : Nat) (hk : k ≤ 19) (hM : gx_CT l y_G_person b_G_person 2 (some .int) k E (gp_wG E I F) [.ref (E.2.2.2 0), .int a0] "java/lang/IllegalStateException") : gl_CH l y_L_person b_L_person 4 [(0, 9, 12, 13), (0, 9, 15, 15)] E cJ (gl_o cJ oa g :: gp_wG E I F) (gl_o cJ oa g :: gp_wG E I F) [.ref (E.2.2.2 0), .int a0, .ref oa] 2 := by
  refine gl_of (by decide) (Nat.le_of_ble_eq_true rfl) ?_
  intro xp xe xs xm below meth xc ls A hx hb hr hts hown hlocks hml htb hP hK hD hA hAe hSt hCt hl
  have hown : xs.vm.findClass "GuidePlansLaw" = some xm.cls := hown
  have hl : lv_has ls 4 [(0, .ref (E.2.2.2 0)), (1, .int a0), (2, .ref oa)] := hl
  refine lv_aload_n hx hb d_L_person_0 rfl (lv_at hl 2 rfl) ?_
  refine lv_iconst (v := 0) hx hb d_L_person_1 (by decide) ?_
  refine lv_aload_n hx hb d_L_person_2 rfl (lv_at hl 0 rfl) ?_
  refine lv_iload_n hx hb d_L_person_3 rfl (lv_at hl 1 rfl) ?_
  refine gl_thr (q0 := 0) (ci := 0) (As := [.int a0]) (rest := [.int 0, .ref oa]) ⟨hx, hb, hml, hown, hts⟩ hM (k_L_7 hts ⟨by show k + 1 ≤ 20; omega, by show 8 + (2 + 11) + 40 * k ≤ 800; omega⟩ rfl rfl) (gl_K hK) (gl_tl hP) hSt hCt (by decide) rfl rfl rfl hl.1 rfl (Nat.le_of_ble_eq_true rfl) d_L_person_4 ⟨Nat.le_of_ble_eq_true rfl, Nat.le_of_ble_eq_true rfl⟩ htb (h := 15) (by decide +kernel) (fun q H1 hz hk => ?_)
  have hP := hP.kept (H1 := H1) (fun k q h => hk _ (hP k q h).lt)
  have hS : va_S A xs.heap H1 [] := ⟨hz, fun q h1 _ => hk q h1, fun _ h => nomatch h⟩
  refine lv_astore_n (lv' := (3, .ref q) :: [(0, .ref (E.2.2.2 0)), (1, .int a0), (2, .ref oa)]) hx hb d_L_person_15 rfl hl (by decide) rfl (fun ls hl => ?_)
  refine lv_iconst (v := 2) hx hb d_L_person_16 (by decide) ?_
  exact gl_ret hx hb hr hlocks hAe hP hS d_L_person_17
set_option maxHeartbeats 4000000 in
set_option maxRecDepth 100000 in
theorem hN_off (l : Launch) (E : gp_E) (I : Nat → Int32) (F : Nat → Nat → Int32) (cJ : ClassId) (oa : Nat) (g : Nat → Int64) (a0 a1 a2 : Int32) (k : Nat) (hk : k ≤ 19) (I2 : Nat → Int32) (F2 : Nat → Nat → Int32) (r : Int32) (hM : gp_CW l y_G_off b_G_off 4 (some .int) k E (gp_wG E I F) (gp_wG E I2 F2) [.ref (E.2.2.2 0), .int a0, .int a1, .int a2] (some (.int r))) : gl_CH l y_L_off b_L_off 6 [(0, 12, 15, 21), (0, 12, 19, 13), (0, 12, 23, 15)] E cJ (gl_o cJ oa g :: gp_wG E I F) (gl_o cJ oa (vp_updL g 0 r.toInt64) :: gp_wG E I2 F2) [.ref (E.2.2.2 0), .int a0, .int a1, .int a2, .ref oa] 0 := by
  refine gl_of (by decide) (Nat.le_of_ble_eq_true rfl) ?_
  intro xp xe xs xm below meth xc ls A hx hb hr hts hown hlocks hml htb hP hK hD hA hAe hSt hCt hl
  have hS : va_S A xs.heap xs.heap [] := va_S.rf
  have hown : xs.vm.findClass "GuidePlansLaw" = some xm.cls := hown
  have hl : lv_has ls 6 [(0, .ref (E.2.2.2 0)), (1, .int a0), (2, .int a1), (3, .int a2), (4, .ref oa)] := hl
  refine lv_aload hx hb d_L_off_0 (lv_at hl 4 rfl) ?_
  refine lv_iconst (v := 0) hx hb d_L_off_2 (by decide) ?_
  refine lv_aload_n hx hb d_L_off_3 rfl (lv_at hl 0 rfl) ?_
  refine lv_iload_n hx hb d_L_off_4 rfl (lv_at hl 1 rfl) ?_
  refine lv_iload_n hx hb d_L_off_5 rfl (lv_at hl 2 rfl) ?_
  refine lv_iload_n hx hb d_L_off_6 rfl (lv_at hl 3 rfl) ?_
  refine gl_cW (q0 := 0) (ci := 0) (As := [.int a0, .int a1, .int a2]) (rest := [.int 0, .ref oa]) ⟨hx, hb, hml, hown, hts⟩ hM (k_L_17 hts ⟨by show k + 1 ≤ 20; omega, by show 8 + (4 + 11) + 40 * k ≤ 800; omega⟩ rfl rfl) (gl_K hK) (gl_tl hP) (gl_td hD) hS hA rfl rfl rfl hl.1 rfl (Nat.le_of_ble_eq_true rfl) d_L_off_7 ⟨Nat.le_of_ble_eq_true rfl, Nat.le_of_ble_eq_true rfl⟩ (fun H1 locs1 hP1 hk1 hz1 hS => ?_)
  have hP := gl_join hP hD hk1 hP1
  have hD : va_D A (gl_o cJ oa g :: gp_wG E I2 F2) := gp_dd hD rfl
  refine lv_i2l hx hb d_L_off_10 rfl ?_
  refine va_last (D := E.1) (cl := gp_cl) hx hb hK hP hD hS 0 2 rfl rfl gl_in1 d_L_off_11 (fun H2 locs2 hP hD hS => ?_)
  refine lv_goto (tgt := 27) hx hb d_L_off_12 (by decide) ?_
  refine lv_iconst (v := 0) hx hb d_L_off_27 (by decide) ?_
  refine W.widen (k := 1) (n := 6) (by omega) (by omega) ?_
  exact gl_ret hx hb hr hlocks hAe hP hS d_L_off_28
set_option maxHeartbeats 4000000 in
set_option maxRecDepth 100000 in
theorem hX1_off (l : Launch) (E : gp_E) (I : Nat → Int32) (F : Nat → Nat → Int32) (cJ : ClassId) (oa : Nat) (g : Nat → Int64) (a0 a1 a2 : Int32) (k : Nat) (hk : k ≤ 19) (hM : gx_CT l y_G_off b_G_off 4 (some .int) k E (gp_wG E I F) [.ref (E.2.2.2 0), .int a0, .int a1, .int a2] "java/util/NoSuchElementException") : gl_CH l y_L_off b_L_off 6 [(0, 12, 15, 21), (0, 12, 19, 13), (0, 12, 23, 15)] E cJ (gl_o cJ oa g :: gp_wG E I F) (gl_o cJ oa g :: gp_wG E I F) [.ref (E.2.2.2 0), .int a0, .int a1, .int a2, .ref oa] 1 := by
  refine gl_of (by decide) (Nat.le_of_ble_eq_true rfl) ?_
  intro xp xe xs xm below meth xc ls A hx hb hr hts hown hlocks hml htb hP hK hD hA hAe hSt hCt hl
  have hown : xs.vm.findClass "GuidePlansLaw" = some xm.cls := hown
  have hl : lv_has ls 6 [(0, .ref (E.2.2.2 0)), (1, .int a0), (2, .int a1), (3, .int a2), (4, .ref oa)] := hl
  refine lv_aload hx hb d_L_off_0 (lv_at hl 4 rfl) ?_
  refine lv_iconst (v := 0) hx hb d_L_off_2 (by decide) ?_
  refine lv_aload_n hx hb d_L_off_3 rfl (lv_at hl 0 rfl) ?_
  refine lv_iload_n hx hb d_L_off_4 rfl (lv_at hl 1 rfl) ?_
  refine lv_iload_n hx hb d_L_off_5 rfl (lv_at hl 2 rfl) ?_
  refine lv_iload_n hx hb d_L_off_6 rfl (lv_at hl 3 rfl) ?_
  refine gl_thr (q0 := 0) (ci := 0) (As := [.int a0, .int a1, .int a2]) (rest := [.int 0, .ref oa]) ⟨hx, hb, hml, hown, hts⟩ hM (k_L_17 hts ⟨by show k + 1 ≤ 20; omega, by show 8 + (4 + 11) + 40 * k ≤ 800; omega⟩ rfl rfl) (gl_K hK) (gl_tl hP) hSt hCt (by decide) rfl rfl rfl hl.1 rfl (Nat.le_of_ble_eq_true rfl) d_L_off_7 ⟨Nat.le_of_ble_eq_true rfl, Nat.le_of_ble_eq_true rfl⟩ htb (h := 15) (by decide +kernel) (fun q H1 hz hk => ?_)
  have hP := hP.kept (H1 := H1) (fun k q h => hk _ (hP k q h).lt)
  have hS : va_S A xs.heap H1 [] := ⟨hz, fun q h1 _ => hk q h1, fun _ h => nomatch h⟩
  refine lv_astore (lv' := (5, .ref q) :: [(0, .ref (E.2.2.2 0)), (1, .int a0), (2, .int a1), (3, .int a2), (4, .ref oa)]) hx hb d_L_off_15 hl (by decide) rfl (fun ls hl => ?_)
  refine lv_iconst (v := 1) hx hb d_L_off_17 (by decide) ?_
  exact gl_ret hx hb hr hlocks hAe hP hS d_L_off_18
set_option maxHeartbeats 4000000 in
set_option maxRecDepth 100000 in
theorem hX2_off (l : Launch) (E : gp_E) (I : Nat → Int32) (F : Nat → Nat → Int32) (cJ : ClassId) (oa : Nat) (g : Nat → Int64) (a0 a1 a2 : Int32) (k : Nat) (hk : k ≤ 19) (hM : gx_CT l y_G_off b_G_off 4 (some .int) k E (gp_wG E I F) [.ref (E.2.2.2 0), .int a0, .int a1, .int a2] "java/lang/IllegalArgumentException") : gl_CH l y_L_off b_L_off 6 [(0, 12, 15, 21), (0, 12, 19, 13), (0, 12, 23, 15)] E cJ (gl_o cJ oa g :: gp_wG E I F) (gl_o cJ oa g :: gp_wG E I F) [.ref (E.2.2.2 0), .int a0, .int a1, .int a2, .ref oa] 2 := by
  refine gl_of (by decide) (Nat.le_of_ble_eq_true rfl) ?_
  intro xp xe xs xm below meth xc ls A hx hb hr hts hown hlocks hml htb hP hK hD hA hAe hSt hCt hl
  have hown : xs.vm.findClass "GuidePlansLaw" = some xm.cls := hown
  have hl : lv_has ls 6 [(0, .ref (E.2.2.2 0)), (1, .int a0), (2, .int a1), (3, .int a2), (4, .ref oa)] := hl
  refine lv_aload hx hb d_L_off_0 (lv_at hl 4 rfl) ?_
  refine lv_iconst (v := 0) hx hb d_L_off_2 (by decide) ?_
  refine lv_aload_n hx hb d_L_off_3 rfl (lv_at hl 0 rfl) ?_
  refine lv_iload_n hx hb d_L_off_4 rfl (lv_at hl 1 rfl) ?_
  refine lv_iload_n hx hb d_L_off_5 rfl (lv_at hl 2 rfl) ?_
  refine lv_iload_n hx hb d_L_off_6 rfl (lv_at hl 3 rfl) ?_
  refine gl_thr (q0 := 0) (ci := 0) (As := [.int a0, .int a1, .int a2]) (rest := [.int 0, .ref oa]) ⟨hx, hb, hml, hown, hts⟩ hM (k_L_17 hts ⟨by show k + 1 ≤ 20; omega, by show 8 + (4 + 11) + 40 * k ≤ 800; omega⟩ rfl rfl) (gl_K hK) (gl_tl hP) hSt hCt (by decide) rfl rfl rfl hl.1 rfl (Nat.le_of_ble_eq_true rfl) d_L_off_7 ⟨Nat.le_of_ble_eq_true rfl, Nat.le_of_ble_eq_true rfl⟩ htb (h := 19) (by decide +kernel) (fun q H1 hz hk => ?_)
  have hP := hP.kept (H1 := H1) (fun k q h => hk _ (hP k q h).lt)
  have hS : va_S A xs.heap H1 [] := ⟨hz, fun q h1 _ => hk q h1, fun _ h => nomatch h⟩
  refine lv_astore (lv' := (5, .ref q) :: [(0, .ref (E.2.2.2 0)), (1, .int a0), (2, .int a1), (3, .int a2), (4, .ref oa)]) hx hb d_L_off_19 hl (by decide) rfl (fun ls hl => ?_)
  refine lv_iconst (v := 2) hx hb d_L_off_21 (by decide) ?_
  exact gl_ret hx hb hr hlocks hAe hP hS d_L_off_22
set_option maxHeartbeats 4000000 in
set_option maxRecDepth 100000 in
theorem hX3_off (l : Launch) (E : gp_E) (I : Nat → Int32) (F : Nat → Nat → Int32) (cJ : ClassId) (oa : Nat) (g : Nat → Int64) (a0 a1 a2 : Int32) (k : Nat) (hk : k ≤ 19) (hM : gx_CT l y_G_off b_G_off 4 (some .int) k E (gp_wG E I F) [.ref (E.2.2.2 0), .int a0, .int a1, .int a2] "java/lang/IllegalStateException") : gl_CH l y_L_off b_L_off 6 [(0, 12, 15, 21), (0, 12, 19, 13), (0, 12, 23, 15)] E cJ (gl_o cJ oa g :: gp_wG E I F) (gl_o cJ oa g :: gp_wG E I F) [.ref (E.2.2.2 0), .int a0, .int a1, .int a2, .ref oa] 3 := by
  refine gl_of (by decide) (Nat.le_of_ble_eq_true rfl) ?_
  intro xp xe xs xm below meth xc ls A hx hb hr hts hown hlocks hml htb hP hK hD hA hAe hSt hCt hl
  have hown : xs.vm.findClass "GuidePlansLaw" = some xm.cls := hown
  have hl : lv_has ls 6 [(0, .ref (E.2.2.2 0)), (1, .int a0), (2, .int a1), (3, .int a2), (4, .ref oa)] := hl
  refine lv_aload hx hb d_L_off_0 (lv_at hl 4 rfl) ?_
  refine lv_iconst (v := 0) hx hb d_L_off_2 (by decide) ?_
  refine lv_aload_n hx hb d_L_off_3 rfl (lv_at hl 0 rfl) ?_
  refine lv_iload_n hx hb d_L_off_4 rfl (lv_at hl 1 rfl) ?_
  refine lv_iload_n hx hb d_L_off_5 rfl (lv_at hl 2 rfl) ?_
  refine lv_iload_n hx hb d_L_off_6 rfl (lv_at hl 3 rfl) ?_
  refine gl_thr (q0 := 0) (ci := 0) (As := [.int a0, .int a1, .int a2]) (rest := [.int 0, .ref oa]) ⟨hx, hb, hml, hown, hts⟩ hM (k_L_17 hts ⟨by show k + 1 ≤ 20; omega, by show 8 + (4 + 11) + 40 * k ≤ 800; omega⟩ rfl rfl) (gl_K hK) (gl_tl hP) hSt hCt (by decide) rfl rfl rfl hl.1 rfl (Nat.le_of_ble_eq_true rfl) d_L_off_7 ⟨Nat.le_of_ble_eq_true rfl, Nat.le_of_ble_eq_true rfl⟩ htb (h := 23) (by decide +kernel) (fun q H1 hz hk => ?_)
  have hP := hP.kept (H1 := H1) (fun k q h => hk _ (hP k q h).lt)
  have hS : va_S A xs.heap H1 [] := ⟨hz, fun q h1 _ => hk q h1, fun _ h => nomatch h⟩
  refine lv_astore (lv' := (5, .ref q) :: [(0, .ref (E.2.2.2 0)), (1, .int a0), (2, .int a1), (3, .int a2), (4, .ref oa)]) hx hb d_L_off_23 hl (by decide) rfl (fun ls hl => ?_)
  refine lv_iconst (v := 3) hx hb d_L_off_25 (by decide) ?_
  exact gl_ret hx hb hr hlocks hAe hP hS d_L_off_26
set_option maxHeartbeats 4000000 in
set_option maxRecDepth 100000 in
theorem hN_task (l : Launch) (E : gp_E) (I : Nat → Int32) (F : Nat → Nat → Int32) (cJ : ClassId) (oa : Nat) (g : Nat → Int64) (a0 a1 a2 a3 : Int32) (k : Nat) (hk : k ≤ 19) (I2 : Nat → Int32) (F2 : Nat → Nat → Int32) (r : Int32) (hM : gp_CW l y_G_task b_G_task 5 (some .int) k E (gp_wG E I F) (gp_wG E I2 F2) [.ref (E.2.2.2 0), .int a0, .int a1, .int a2, .int a3] (some (.int r))) : gl_CH l y_L_task b_L_task 7 [(0, 14, 17, 21), (0, 14, 21, 13), (0, 14, 25, 15)] E cJ (gl_o cJ oa g :: gp_wG E I F) (gl_o cJ oa (vp_updL g 0 r.toInt64) :: gp_wG E I2 F2) [.ref (E.2.2.2 0), .int a0, .int a1, .int a2, .int a3, .ref oa] 0 := by
  refine gl_of (by decide) (Nat.le_of_ble_eq_true rfl) ?_
  intro xp xe xs xm below meth xc ls A hx hb hr hts hown hlocks hml htb hP hK hD hA hAe hSt hCt hl
  have hS : va_S A xs.heap xs.heap [] := va_S.rf
  have hown : xs.vm.findClass "GuidePlansLaw" = some xm.cls := hown
  have hl : lv_has ls 7 [(0, .ref (E.2.2.2 0)), (1, .int a0), (2, .int a1), (3, .int a2), (4, .int a3), (5, .ref oa)] := hl
  refine lv_aload hx hb d_L_task_0 (lv_at hl 5 rfl) ?_
  refine lv_iconst (v := 0) hx hb d_L_task_2 (by decide) ?_
  refine lv_aload_n hx hb d_L_task_3 rfl (lv_at hl 0 rfl) ?_
  refine lv_iload_n hx hb d_L_task_4 rfl (lv_at hl 1 rfl) ?_
  refine lv_iload_n hx hb d_L_task_5 rfl (lv_at hl 2 rfl) ?_
  refine lv_iload_n hx hb d_L_task_6 rfl (lv_at hl 3 rfl) ?_
  refine lv_iload hx hb d_L_task_7 (lv_at hl 4 rfl) ?_
  refine gl_cW (q0 := 0) (ci := 0) (As := [.int a0, .int a1, .int a2, .int a3]) (rest := [.int 0, .ref oa]) ⟨hx, hb, hml, hown, hts⟩ hM (k_L_23 hts ⟨by show k + 1 ≤ 20; omega, by show 8 + (5 + 11) + 40 * k ≤ 800; omega⟩ rfl rfl) (gl_K hK) (gl_tl hP) (gl_td hD) hS hA rfl rfl rfl hl.1 rfl (Nat.le_of_ble_eq_true rfl) d_L_task_9 ⟨Nat.le_of_ble_eq_true rfl, Nat.le_of_ble_eq_true rfl⟩ (fun H1 locs1 hP1 hk1 hz1 hS => ?_)
  have hP := gl_join hP hD hk1 hP1
  have hD : va_D A (gl_o cJ oa g :: gp_wG E I2 F2) := gp_dd hD rfl
  refine lv_i2l hx hb d_L_task_12 rfl ?_
  refine va_last (D := E.1) (cl := gp_cl) hx hb hK hP hD hS 0 2 rfl rfl gl_in1 d_L_task_13 (fun H2 locs2 hP hD hS => ?_)
  refine lv_goto (tgt := 29) hx hb d_L_task_14 (by decide) ?_
  refine lv_iconst (v := 0) hx hb d_L_task_29 (by decide) ?_
  refine W.widen (k := 1) (n := 6) (by omega) (by omega) ?_
  exact gl_ret hx hb hr hlocks hAe hP hS d_L_task_30
set_option maxHeartbeats 4000000 in
set_option maxRecDepth 100000 in
theorem hX1_task (l : Launch) (E : gp_E) (I : Nat → Int32) (F : Nat → Nat → Int32) (cJ : ClassId) (oa : Nat) (g : Nat → Int64) (a0 a1 a2 a3 : Int32) (k : Nat) (hk : k ≤ 19) (hM : gx_CT l y_G_task b_G_task 5 (some .int) k E (gp_wG E I F) [.ref (E.2.2.2 0), .int a0, .int a1, .int a2, .int a3] "java/util/NoSuchElementException") : gl_CH l y_L_task b_L_task 7 [(0, 14, 17, 21), (0, 14, 21, 13), (0, 14, 25, 15)] E cJ (gl_o cJ oa g :: gp_wG E I F) (gl_o cJ oa g :: gp_wG E I F) [.ref (E.2.2.2 0), .int a0, .int a1, .int a2, .int a3, .ref oa] 1 := by
  refine gl_of (by decide) (Nat.le_of_ble_eq_true rfl) ?_
  intro xp xe xs xm below meth xc ls A hx hb hr hts hown hlocks hml htb hP hK hD hA hAe hSt hCt hl
  have hown : xs.vm.findClass "GuidePlansLaw" = some xm.cls := hown
  have hl : lv_has ls 7 [(0, .ref (E.2.2.2 0)), (1, .int a0), (2, .int a1), (3, .int a2), (4, .int a3), (5, .ref oa)] := hl
  refine lv_aload hx hb d_L_task_0 (lv_at hl 5 rfl) ?_
  refine lv_iconst (v := 0) hx hb d_L_task_2 (by decide) ?_
  refine lv_aload_n hx hb d_L_task_3 rfl (lv_at hl 0 rfl) ?_
  refine lv_iload_n hx hb d_L_task_4 rfl (lv_at hl 1 rfl) ?_
  refine lv_iload_n hx hb d_L_task_5 rfl (lv_at hl 2 rfl) ?_
  refine lv_iload_n hx hb d_L_task_6 rfl (lv_at hl 3 rfl) ?_
  refine lv_iload hx hb d_L_task_7 (lv_at hl 4 rfl) ?_
  refine gl_thr (q0 := 0) (ci := 0) (As := [.int a0, .int a1, .int a2, .int a3]) (rest := [.int 0, .ref oa]) ⟨hx, hb, hml, hown, hts⟩ hM (k_L_23 hts ⟨by show k + 1 ≤ 20; omega, by show 8 + (5 + 11) + 40 * k ≤ 800; omega⟩ rfl rfl) (gl_K hK) (gl_tl hP) hSt hCt (by decide) rfl rfl rfl hl.1 rfl (Nat.le_of_ble_eq_true rfl) d_L_task_9 ⟨Nat.le_of_ble_eq_true rfl, Nat.le_of_ble_eq_true rfl⟩ htb (h := 17) (by decide +kernel) (fun q H1 hz hk => ?_)
  have hP := hP.kept (H1 := H1) (fun k q h => hk _ (hP k q h).lt)
  have hS : va_S A xs.heap H1 [] := ⟨hz, fun q h1 _ => hk q h1, fun _ h => nomatch h⟩
  refine lv_astore (lv' := (6, .ref q) :: [(0, .ref (E.2.2.2 0)), (1, .int a0), (2, .int a1), (3, .int a2), (4, .int a3), (5, .ref oa)]) hx hb d_L_task_17 hl (by decide) rfl (fun ls hl => ?_)
  refine lv_iconst (v := 1) hx hb d_L_task_19 (by decide) ?_
  exact gl_ret hx hb hr hlocks hAe hP hS d_L_task_20
set_option maxHeartbeats 4000000 in
set_option maxRecDepth 100000 in
theorem hX2_task (l : Launch) (E : gp_E) (I : Nat → Int32) (F : Nat → Nat → Int32) (cJ : ClassId) (oa : Nat) (g : Nat → Int64) (a0 a1 a2 a3 : Int32) (k : Nat) (hk : k ≤ 19) (hM : gx_CT l y_G_task b_G_task 5 (some .int) k E (gp_wG E I F) [.ref (E.2.2.2 0), .int a0, .int a1, .int a2, .int a3] "java/lang/IllegalArgumentException") : gl_CH l y_L_task b_L_task 7 [(0, 14, 17, 21), (0, 14, 21, 13), (0, 14, 25, 15)] E cJ (gl_o cJ oa g :: gp_wG E I F) (gl_o cJ oa g :: gp_wG E I F) [.ref (E.2.2.2 0), .int a0, .int a1, .int a2, .int a3, .ref oa] 2 := by
  refine gl_of (by decide) (Nat.le_of_ble_eq_true rfl) ?_
  intro xp xe xs xm below meth xc ls A hx hb hr hts hown hlocks hml htb hP hK hD hA hAe hSt hCt hl
  have hown : xs.vm.findClass "GuidePlansLaw" = some xm.cls := hown
  have hl : lv_has ls 7 [(0, .ref (E.2.2.2 0)), (1, .int a0), (2, .int a1), (3, .int a2), (4, .int a3), (5, .ref oa)] := hl
  refine lv_aload hx hb d_L_task_0 (lv_at hl 5 rfl) ?_
  refine lv_iconst (v := 0) hx hb d_L_task_2 (by decide) ?_
  refine lv_aload_n hx hb d_L_task_3 rfl (lv_at hl 0 rfl) ?_
  refine lv_iload_n hx hb d_L_task_4 rfl (lv_at hl 1 rfl) ?_
  refine lv_iload_n hx hb d_L_task_5 rfl (lv_at hl 2 rfl) ?_
  refine lv_iload_n hx hb d_L_task_6 rfl (lv_at hl 3 rfl) ?_
  refine lv_iload hx hb d_L_task_7 (lv_at hl 4 rfl) ?_
  refine gl_thr (q0 := 0) (ci := 0) (As := [.int a0, .int a1, .int a2, .int a3]) (rest := [.int 0, .ref oa]) ⟨hx, hb, hml, hown, hts⟩ hM (k_L_23 hts ⟨by show k + 1 ≤ 20; omega, by show 8 + (5 + 11) + 40 * k ≤ 800; omega⟩ rfl rfl) (gl_K hK) (gl_tl hP) hSt hCt (by decide) rfl rfl rfl hl.1 rfl (Nat.le_of_ble_eq_true rfl) d_L_task_9 ⟨Nat.le_of_ble_eq_true rfl, Nat.le_of_ble_eq_true rfl⟩ htb (h := 21) (by decide +kernel) (fun q H1 hz hk => ?_)
  have hP := hP.kept (H1 := H1) (fun k q h => hk _ (hP k q h).lt)
  have hS : va_S A xs.heap H1 [] := ⟨hz, fun q h1 _ => hk q h1, fun _ h => nomatch h⟩
  refine lv_astore (lv' := (6, .ref q) :: [(0, .ref (E.2.2.2 0)), (1, .int a0), (2, .int a1), (3, .int a2), (4, .int a3), (5, .ref oa)]) hx hb d_L_task_21 hl (by decide) rfl (fun ls hl => ?_)
  refine lv_iconst (v := 2) hx hb d_L_task_23 (by decide) ?_
  exact gl_ret hx hb hr hlocks hAe hP hS d_L_task_24
set_option maxHeartbeats 4000000 in
set_option maxRecDepth 100000 in
theorem hX3_task (l : Launch) (E : gp_E) (I : Nat → Int32) (F : Nat → Nat → Int32) (cJ : ClassId) (oa : Nat) (g : Nat → Int64) (a0 a1 a2 a3 : Int32) (k : Nat) (hk : k ≤ 19) (hM : gx_CT l y_G_task b_G_task 5 (some .int) k E (gp_wG E I F) [.ref (E.2.2.2 0), .int a0, .int a1, .int a2, .int a3] "java/lang/IllegalStateException") : gl_CH l y_L_task b_L_task 7 [(0, 14, 17, 21), (0, 14, 21, 13), (0, 14, 25, 15)] E cJ (gl_o cJ oa g :: gp_wG E I F) (gl_o cJ oa g :: gp_wG E I F) [.ref (E.2.2.2 0), .int a0, .int a1, .int a2, .int a3, .ref oa] 3 := by
  refine gl_of (by decide) (Nat.le_of_ble_eq_true rfl) ?_
  intro xp xe xs xm below meth xc ls A hx hb hr hts hown hlocks hml htb hP hK hD hA hAe hSt hCt hl
  have hown : xs.vm.findClass "GuidePlansLaw" = some xm.cls := hown
  have hl : lv_has ls 7 [(0, .ref (E.2.2.2 0)), (1, .int a0), (2, .int a1), (3, .int a2), (4, .int a3), (5, .ref oa)] := hl
  refine lv_aload hx hb d_L_task_0 (lv_at hl 5 rfl) ?_
  refine lv_iconst (v := 0) hx hb d_L_task_2 (by decide) ?_
  refine lv_aload_n hx hb d_L_task_3 rfl (lv_at hl 0 rfl) ?_
  refine lv_iload_n hx hb d_L_task_4 rfl (lv_at hl 1 rfl) ?_
  refine lv_iload_n hx hb d_L_task_5 rfl (lv_at hl 2 rfl) ?_
  refine lv_iload_n hx hb d_L_task_6 rfl (lv_at hl 3 rfl) ?_
  refine lv_iload hx hb d_L_task_7 (lv_at hl 4 rfl) ?_
  refine gl_thr (q0 := 0) (ci := 0) (As := [.int a0, .int a1, .int a2, .int a3]) (rest := [.int 0, .ref oa]) ⟨hx, hb, hml, hown, hts⟩ hM (k_L_23 hts ⟨by show k + 1 ≤ 20; omega, by show 8 + (5 + 11) + 40 * k ≤ 800; omega⟩ rfl rfl) (gl_K hK) (gl_tl hP) hSt hCt (by decide) rfl rfl rfl hl.1 rfl (Nat.le_of_ble_eq_true rfl) d_L_task_9 ⟨Nat.le_of_ble_eq_true rfl, Nat.le_of_ble_eq_true rfl⟩ htb (h := 25) (by decide +kernel) (fun q H1 hz hk => ?_)
  have hP := hP.kept (H1 := H1) (fun k q h => hk _ (hP k q h).lt)
  have hS : va_S A xs.heap H1 [] := ⟨hz, fun q h1 _ => hk q h1, fun _ h => nomatch h⟩
  refine lv_astore (lv' := (6, .ref q) :: [(0, .ref (E.2.2.2 0)), (1, .int a0), (2, .int a1), (3, .int a2), (4, .int a3), (5, .ref oa)]) hx hb d_L_task_25 hl (by decide) rfl (fun ls hl => ?_)
  refine lv_iconst (v := 3) hx hb d_L_task_27 (by decide) ?_
  exact gl_ret hx hb hr hlocks hAe hP hS d_L_task_28
set_option maxHeartbeats 4000000 in
set_option maxRecDepth 100000 in
theorem hN_rest (l : Launch) (E : gp_E) (I : Nat → Int32) (F : Nat → Nat → Int32) (cJ : ClassId) (oa : Nat) (g : Nat → Int64) (a0 : Int32) (k : Nat) (hk : k ≤ 19) (I2 : Nat → Int32) (F2 : Nat → Nat → Int32) (r : Int32) (hM : gp_CW l y_G_rest b_G_rest 3 (some .int) k E (gp_wG E I F) (gp_wG E I2 F2) [.ref (E.2.2.2 0), .int a0] (some (.int r))) : gl_CH l y_L_rest b_L_rest 4 [(0, 9, 12, 13)] E cJ (gl_o cJ oa g :: gp_wG E I F) (gl_o cJ oa (vp_updL g 0 r.toInt64) :: gp_wG E I2 F2) [.ref (E.2.2.2 0), .int a0, .ref oa] 0 := by
  refine gl_of (by decide) (Nat.le_of_ble_eq_true rfl) ?_
  intro xp xe xs xm below meth xc ls A hx hb hr hts hown hlocks hml htb hP hK hD hA hAe hSt hCt hl
  have hS : va_S A xs.heap xs.heap [] := va_S.rf
  have hown : xs.vm.findClass "GuidePlansLaw" = some xm.cls := hown
  have hl : lv_has ls 4 [(0, .ref (E.2.2.2 0)), (1, .int a0), (2, .ref oa)] := hl
  refine lv_aload_n hx hb d_L_rest_0 rfl (lv_at hl 2 rfl) ?_
  refine lv_iconst (v := 0) hx hb d_L_rest_1 (by decide) ?_
  refine lv_aload_n hx hb d_L_rest_2 rfl (lv_at hl 0 rfl) ?_
  refine lv_iload_n hx hb d_L_rest_3 rfl (lv_at hl 1 rfl) ?_
  refine gl_cW (q0 := 0) (ci := 0) (As := [.int a0]) (rest := [.int 0, .ref oa]) ⟨hx, hb, hml, hown, hts⟩ hM (k_L_27 hts ⟨by show k + 1 ≤ 20; omega, by show 8 + (3 + 11) + 40 * k ≤ 800; omega⟩ rfl rfl) (gl_K hK) (gl_tl hP) (gl_td hD) hS hA rfl rfl rfl hl.1 rfl (Nat.le_of_ble_eq_true rfl) d_L_rest_4 ⟨Nat.le_of_ble_eq_true rfl, Nat.le_of_ble_eq_true rfl⟩ (fun H1 locs1 hP1 hk1 hz1 hS => ?_)
  have hP := gl_join hP hD hk1 hP1
  have hD : va_D A (gl_o cJ oa g :: gp_wG E I2 F2) := gp_dd hD rfl
  refine lv_i2l hx hb d_L_rest_7 rfl ?_
  refine va_last (D := E.1) (cl := gp_cl) hx hb hK hP hD hS 0 2 rfl rfl gl_in1 d_L_rest_8 (fun H2 locs2 hP hD hS => ?_)
  refine lv_goto (tgt := 15) hx hb d_L_rest_9 (by decide) ?_
  refine lv_iconst (v := 0) hx hb d_L_rest_15 (by decide) ?_
  refine W.widen (k := 1) (n := 6) (by omega) (by omega) ?_
  exact gl_ret hx hb hr hlocks hAe hP hS d_L_rest_16
set_option maxHeartbeats 4000000 in
set_option maxRecDepth 100000 in
theorem hX1_rest (l : Launch) (E : gp_E) (I : Nat → Int32) (F : Nat → Nat → Int32) (cJ : ClassId) (oa : Nat) (g : Nat → Int64) (a0 : Int32) (k : Nat) (hk : k ≤ 19) (hM : gx_CT l y_G_rest b_G_rest 3 (some .int) k E (gp_wG E I F) [.ref (E.2.2.2 0), .int a0] "java/lang/IllegalArgumentException") : gl_CH l y_L_rest b_L_rest 4 [(0, 9, 12, 13)] E cJ (gl_o cJ oa g :: gp_wG E I F) (gl_o cJ oa g :: gp_wG E I F) [.ref (E.2.2.2 0), .int a0, .ref oa] 1 := by
  refine gl_of (by decide) (Nat.le_of_ble_eq_true rfl) ?_
  intro xp xe xs xm below meth xc ls A hx hb hr hts hown hlocks hml htb hP hK hD hA hAe hSt hCt hl
  have hown : xs.vm.findClass "GuidePlansLaw" = some xm.cls := hown
  have hl : lv_has ls 4 [(0, .ref (E.2.2.2 0)), (1, .int a0), (2, .ref oa)] := hl
  refine lv_aload_n hx hb d_L_rest_0 rfl (lv_at hl 2 rfl) ?_
  refine lv_iconst (v := 0) hx hb d_L_rest_1 (by decide) ?_
  refine lv_aload_n hx hb d_L_rest_2 rfl (lv_at hl 0 rfl) ?_
  refine lv_iload_n hx hb d_L_rest_3 rfl (lv_at hl 1 rfl) ?_
  refine gl_thr (q0 := 0) (ci := 0) (As := [.int a0]) (rest := [.int 0, .ref oa]) ⟨hx, hb, hml, hown, hts⟩ hM (k_L_27 hts ⟨by show k + 1 ≤ 20; omega, by show 8 + (3 + 11) + 40 * k ≤ 800; omega⟩ rfl rfl) (gl_K hK) (gl_tl hP) hSt hCt (by decide) rfl rfl rfl hl.1 rfl (Nat.le_of_ble_eq_true rfl) d_L_rest_4 ⟨Nat.le_of_ble_eq_true rfl, Nat.le_of_ble_eq_true rfl⟩ htb (h := 12) (by decide +kernel) (fun q H1 hz hk => ?_)
  have hP := hP.kept (H1 := H1) (fun k q h => hk _ (hP k q h).lt)
  have hS : va_S A xs.heap H1 [] := ⟨hz, fun q h1 _ => hk q h1, fun _ h => nomatch h⟩
  refine lv_astore_n (lv' := (3, .ref q) :: [(0, .ref (E.2.2.2 0)), (1, .int a0), (2, .ref oa)]) hx hb d_L_rest_12 rfl hl (by decide) rfl (fun ls hl => ?_)
  refine lv_iconst (v := 1) hx hb d_L_rest_13 (by decide) ?_
  exact gl_ret hx hb hr hlocks hAe hP hS d_L_rest_14
set_option maxHeartbeats 4000000 in
set_option maxRecDepth 100000 in
theorem hN_limit (l : Launch) (E : gp_E) (I : Nat → Int32) (F : Nat → Nat → Int32) (cJ : ClassId) (oa : Nat) (g : Nat → Int64) (a0 : Int32) (k : Nat) (hk : k ≤ 19) (I2 : Nat → Int32) (F2 : Nat → Nat → Int32) (r : Int32) (hM : gp_CW l y_G_limit b_G_limit 3 (some .int) k E (gp_wG E I F) (gp_wG E I2 F2) [.ref (E.2.2.2 0), .int a0] (some (.int r))) : gl_CH l y_L_limit b_L_limit 4 [(0, 9, 12, 13)] E cJ (gl_o cJ oa g :: gp_wG E I F) (gl_o cJ oa (vp_updL g 0 r.toInt64) :: gp_wG E I2 F2) [.ref (E.2.2.2 0), .int a0, .ref oa] 0 := by
  refine gl_of (by decide) (Nat.le_of_ble_eq_true rfl) ?_
  intro xp xe xs xm below meth xc ls A hx hb hr hts hown hlocks hml htb hP hK hD hA hAe hSt hCt hl
  have hS : va_S A xs.heap xs.heap [] := va_S.rf
  have hown : xs.vm.findClass "GuidePlansLaw" = some xm.cls := hown
  have hl : lv_has ls 4 [(0, .ref (E.2.2.2 0)), (1, .int a0), (2, .ref oa)] := hl
  refine lv_aload_n hx hb d_L_limit_0 rfl (lv_at hl 2 rfl) ?_
  refine lv_iconst (v := 0) hx hb d_L_limit_1 (by decide) ?_
  refine lv_aload_n hx hb d_L_limit_2 rfl (lv_at hl 0 rfl) ?_
  refine lv_iload_n hx hb d_L_limit_3 rfl (lv_at hl 1 rfl) ?_
  refine gl_cW (q0 := 0) (ci := 0) (As := [.int a0]) (rest := [.int 0, .ref oa]) ⟨hx, hb, hml, hown, hts⟩ hM (k_L_30 hts ⟨by show k + 1 ≤ 20; omega, by show 8 + (3 + 11) + 40 * k ≤ 800; omega⟩ rfl rfl) (gl_K hK) (gl_tl hP) (gl_td hD) hS hA rfl rfl rfl hl.1 rfl (Nat.le_of_ble_eq_true rfl) d_L_limit_4 ⟨Nat.le_of_ble_eq_true rfl, Nat.le_of_ble_eq_true rfl⟩ (fun H1 locs1 hP1 hk1 hz1 hS => ?_)
  have hP := gl_join hP hD hk1 hP1
  have hD : va_D A (gl_o cJ oa g :: gp_wG E I2 F2) := gp_dd hD rfl
  refine lv_i2l hx hb d_L_limit_7 rfl ?_
  refine va_last (D := E.1) (cl := gp_cl) hx hb hK hP hD hS 0 2 rfl rfl gl_in1 d_L_limit_8 (fun H2 locs2 hP hD hS => ?_)
  refine lv_goto (tgt := 15) hx hb d_L_limit_9 (by decide) ?_
  refine lv_iconst (v := 0) hx hb d_L_limit_15 (by decide) ?_
  refine W.widen (k := 1) (n := 6) (by omega) (by omega) ?_
  exact gl_ret hx hb hr hlocks hAe hP hS d_L_limit_16
set_option maxHeartbeats 4000000 in
set_option maxRecDepth 100000 in
theorem hX1_limit (l : Launch) (E : gp_E) (I : Nat → Int32) (F : Nat → Nat → Int32) (cJ : ClassId) (oa : Nat) (g : Nat → Int64) (a0 : Int32) (k : Nat) (hk : k ≤ 19) (hM : gx_CT l y_G_limit b_G_limit 3 (some .int) k E (gp_wG E I F) [.ref (E.2.2.2 0), .int a0] "java/lang/IllegalArgumentException") : gl_CH l y_L_limit b_L_limit 4 [(0, 9, 12, 13)] E cJ (gl_o cJ oa g :: gp_wG E I F) (gl_o cJ oa g :: gp_wG E I F) [.ref (E.2.2.2 0), .int a0, .ref oa] 1 := by
  refine gl_of (by decide) (Nat.le_of_ble_eq_true rfl) ?_
  intro xp xe xs xm below meth xc ls A hx hb hr hts hown hlocks hml htb hP hK hD hA hAe hSt hCt hl
  have hown : xs.vm.findClass "GuidePlansLaw" = some xm.cls := hown
  have hl : lv_has ls 4 [(0, .ref (E.2.2.2 0)), (1, .int a0), (2, .ref oa)] := hl
  refine lv_aload_n hx hb d_L_limit_0 rfl (lv_at hl 2 rfl) ?_
  refine lv_iconst (v := 0) hx hb d_L_limit_1 (by decide) ?_
  refine lv_aload_n hx hb d_L_limit_2 rfl (lv_at hl 0 rfl) ?_
  refine lv_iload_n hx hb d_L_limit_3 rfl (lv_at hl 1 rfl) ?_
  refine gl_thr (q0 := 0) (ci := 0) (As := [.int a0]) (rest := [.int 0, .ref oa]) ⟨hx, hb, hml, hown, hts⟩ hM (k_L_30 hts ⟨by show k + 1 ≤ 20; omega, by show 8 + (3 + 11) + 40 * k ≤ 800; omega⟩ rfl rfl) (gl_K hK) (gl_tl hP) hSt hCt (by decide) rfl rfl rfl hl.1 rfl (Nat.le_of_ble_eq_true rfl) d_L_limit_4 ⟨Nat.le_of_ble_eq_true rfl, Nat.le_of_ble_eq_true rfl⟩ htb (h := 12) (by decide +kernel) (fun q H1 hz hk => ?_)
  have hP := hP.kept (H1 := H1) (fun k q h => hk _ (hP k q h).lt)
  have hS : va_S A xs.heap H1 [] := ⟨hz, fun q h1 _ => hk q h1, fun _ h => nomatch h⟩
  refine lv_astore_n (lv' := (3, .ref q) :: [(0, .ref (E.2.2.2 0)), (1, .int a0), (2, .ref oa)]) hx hb d_L_limit_12 rfl hl (by decide) rfl (fun ls hl => ?_)
  refine lv_iconst (v := 1) hx hb d_L_limit_13 (by decide) ?_
  exact gl_ret hx hb hr hlocks hAe hP hS d_L_limit_14
set_option maxHeartbeats 4000000 in
set_option maxRecDepth 100000 in
theorem hN_freeze (l : Launch) (E : gp_E) (I : Nat → Int32) (F : Nat → Nat → Int32) (cJ : ClassId) (oa : Nat) (g : Nat → Int64) (a0 : Int32) (k : Nat) (hk : k ≤ 19) (I2 : Nat → Int32) (F2 : Nat → Nat → Int32) (r : Int32) (hM : gp_CW l y_G_freeze b_G_freeze 3 (some .int) k E (gp_wG E I F) (gp_wG E I2 F2) [.ref (E.2.2.2 0), .int a0] (some (.int r))) : gl_CH l y_L_freeze b_L_freeze 4 [(0, 9, 12, 13)] E cJ (gl_o cJ oa g :: gp_wG E I F) (gl_o cJ oa (vp_updL g 0 r.toInt64) :: gp_wG E I2 F2) [.ref (E.2.2.2 0), .int a0, .ref oa] 0 := by
  refine gl_of (by decide) (Nat.le_of_ble_eq_true rfl) ?_
  intro xp xe xs xm below meth xc ls A hx hb hr hts hown hlocks hml htb hP hK hD hA hAe hSt hCt hl
  have hS : va_S A xs.heap xs.heap [] := va_S.rf
  have hown : xs.vm.findClass "GuidePlansLaw" = some xm.cls := hown
  have hl : lv_has ls 4 [(0, .ref (E.2.2.2 0)), (1, .int a0), (2, .ref oa)] := hl
  refine lv_aload_n hx hb d_L_freeze_0 rfl (lv_at hl 2 rfl) ?_
  refine lv_iconst (v := 0) hx hb d_L_freeze_1 (by decide) ?_
  refine lv_aload_n hx hb d_L_freeze_2 rfl (lv_at hl 0 rfl) ?_
  refine lv_iload_n hx hb d_L_freeze_3 rfl (lv_at hl 1 rfl) ?_
  refine gl_cW (q0 := 0) (ci := 0) (As := [.int a0]) (rest := [.int 0, .ref oa]) ⟨hx, hb, hml, hown, hts⟩ hM (k_L_33 hts ⟨by show k + 1 ≤ 20; omega, by show 8 + (3 + 11) + 40 * k ≤ 800; omega⟩ rfl rfl) (gl_K hK) (gl_tl hP) (gl_td hD) hS hA rfl rfl rfl hl.1 rfl (Nat.le_of_ble_eq_true rfl) d_L_freeze_4 ⟨Nat.le_of_ble_eq_true rfl, Nat.le_of_ble_eq_true rfl⟩ (fun H1 locs1 hP1 hk1 hz1 hS => ?_)
  have hP := gl_join hP hD hk1 hP1
  have hD : va_D A (gl_o cJ oa g :: gp_wG E I2 F2) := gp_dd hD rfl
  refine lv_i2l hx hb d_L_freeze_7 rfl ?_
  refine va_last (D := E.1) (cl := gp_cl) hx hb hK hP hD hS 0 2 rfl rfl gl_in1 d_L_freeze_8 (fun H2 locs2 hP hD hS => ?_)
  refine lv_goto (tgt := 15) hx hb d_L_freeze_9 (by decide) ?_
  refine lv_iconst (v := 0) hx hb d_L_freeze_15 (by decide) ?_
  refine W.widen (k := 1) (n := 6) (by omega) (by omega) ?_
  exact gl_ret hx hb hr hlocks hAe hP hS d_L_freeze_16
set_option maxHeartbeats 4000000 in
set_option maxRecDepth 100000 in
theorem hX1_freeze (l : Launch) (E : gp_E) (I : Nat → Int32) (F : Nat → Nat → Int32) (cJ : ClassId) (oa : Nat) (g : Nat → Int64) (a0 : Int32) (k : Nat) (hk : k ≤ 19) (hM : gx_CT l y_G_freeze b_G_freeze 3 (some .int) k E (gp_wG E I F) [.ref (E.2.2.2 0), .int a0] "java/lang/IllegalArgumentException") : gl_CH l y_L_freeze b_L_freeze 4 [(0, 9, 12, 13)] E cJ (gl_o cJ oa g :: gp_wG E I F) (gl_o cJ oa g :: gp_wG E I F) [.ref (E.2.2.2 0), .int a0, .ref oa] 1 := by
  refine gl_of (by decide) (Nat.le_of_ble_eq_true rfl) ?_
  intro xp xe xs xm below meth xc ls A hx hb hr hts hown hlocks hml htb hP hK hD hA hAe hSt hCt hl
  have hown : xs.vm.findClass "GuidePlansLaw" = some xm.cls := hown
  have hl : lv_has ls 4 [(0, .ref (E.2.2.2 0)), (1, .int a0), (2, .ref oa)] := hl
  refine lv_aload_n hx hb d_L_freeze_0 rfl (lv_at hl 2 rfl) ?_
  refine lv_iconst (v := 0) hx hb d_L_freeze_1 (by decide) ?_
  refine lv_aload_n hx hb d_L_freeze_2 rfl (lv_at hl 0 rfl) ?_
  refine lv_iload_n hx hb d_L_freeze_3 rfl (lv_at hl 1 rfl) ?_
  refine gl_thr (q0 := 0) (ci := 0) (As := [.int a0]) (rest := [.int 0, .ref oa]) ⟨hx, hb, hml, hown, hts⟩ hM (k_L_33 hts ⟨by show k + 1 ≤ 20; omega, by show 8 + (3 + 11) + 40 * k ≤ 800; omega⟩ rfl rfl) (gl_K hK) (gl_tl hP) hSt hCt (by decide) rfl rfl rfl hl.1 rfl (Nat.le_of_ble_eq_true rfl) d_L_freeze_4 ⟨Nat.le_of_ble_eq_true rfl, Nat.le_of_ble_eq_true rfl⟩ htb (h := 12) (by decide +kernel) (fun q H1 hz hk => ?_)
  have hP := hP.kept (H1 := H1) (fun k q h => hk _ (hP k q h).lt)
  have hS : va_S A xs.heap H1 [] := ⟨hz, fun q h1 _ => hk q h1, fun _ h => nomatch h⟩
  refine lv_astore_n (lv' := (3, .ref q) :: [(0, .ref (E.2.2.2 0)), (1, .int a0), (2, .ref oa)]) hx hb d_L_freeze_12 rfl hl (by decide) rfl (fun ls hl => ?_)
  refine lv_iconst (v := 1) hx hb d_L_freeze_13 (by decide) ?_
  exact gl_ret hx hb hr hlocks hAe hP hS d_L_freeze_14
set_option maxHeartbeats 4000000 in
set_option maxRecDepth 100000 in
theorem hN_of (l : Launch) (E : gp_E) (I : Nat → Int32) (F : Nat → Nat → Int32) (cJ : ClassId) (oa : Nat) (g : Nat → Int64) (a0 : Int32) (k : Nat) (hk : k ≤ 19) (I2 : Nat → Int32) (F2 : Nat → Nat → Int32) (r : Int32) (hM : gp_CW l y_G_of b_G_of 2 (some .int) k E (gp_wG E I F) (gp_wG E I2 F2) [.ref (E.2.2.2 0), .int a0] (some (.int r))) : gl_CH l y_L_of b_L_of 4 [(0, 9, 12, 21)] E cJ (gl_o cJ oa g :: gp_wG E I F) (gl_o cJ oa (vp_updL g 0 r.toInt64) :: gp_wG E I2 F2) [.ref (E.2.2.2 0), .int a0, .ref oa] 0 := by
  refine gl_of (by decide) (Nat.le_of_ble_eq_true rfl) ?_
  intro xp xe xs xm below meth xc ls A hx hb hr hts hown hlocks hml htb hP hK hD hA hAe hSt hCt hl
  have hS : va_S A xs.heap xs.heap [] := va_S.rf
  have hown : xs.vm.findClass "GuidePlansLaw" = some xm.cls := hown
  have hl : lv_has ls 4 [(0, .ref (E.2.2.2 0)), (1, .int a0), (2, .ref oa)] := hl
  refine lv_aload_n hx hb d_L_of_0 rfl (lv_at hl 2 rfl) ?_
  refine lv_iconst (v := 0) hx hb d_L_of_1 (by decide) ?_
  refine lv_aload_n hx hb d_L_of_2 rfl (lv_at hl 0 rfl) ?_
  refine lv_iload_n hx hb d_L_of_3 rfl (lv_at hl 1 rfl) ?_
  refine gl_cW (q0 := 0) (ci := 0) (As := [.int a0]) (rest := [.int 0, .ref oa]) ⟨hx, hb, hml, hown, hts⟩ hM (k_L_36 hts ⟨by show k + 1 ≤ 20; omega, by show 8 + (2 + 11) + 40 * k ≤ 800; omega⟩ rfl rfl) (gl_K hK) (gl_tl hP) (gl_td hD) hS hA rfl rfl rfl hl.1 rfl (Nat.le_of_ble_eq_true rfl) d_L_of_4 ⟨Nat.le_of_ble_eq_true rfl, Nat.le_of_ble_eq_true rfl⟩ (fun H1 locs1 hP1 hk1 hz1 hS => ?_)
  have hP := gl_join hP hD hk1 hP1
  have hD : va_D A (gl_o cJ oa g :: gp_wG E I2 F2) := gp_dd hD rfl
  refine lv_i2l hx hb d_L_of_7 rfl ?_
  refine va_last (D := E.1) (cl := gp_cl) hx hb hK hP hD hS 0 2 rfl rfl gl_in1 d_L_of_8 (fun H2 locs2 hP hD hS => ?_)
  refine lv_goto (tgt := 15) hx hb d_L_of_9 (by decide) ?_
  refine lv_iconst (v := 0) hx hb d_L_of_15 (by decide) ?_
  refine W.widen (k := 1) (n := 6) (by omega) (by omega) ?_
  exact gl_ret hx hb hr hlocks hAe hP hS d_L_of_16
set_option maxHeartbeats 4000000 in
set_option maxRecDepth 100000 in
theorem hX1_of (l : Launch) (E : gp_E) (I : Nat → Int32) (F : Nat → Nat → Int32) (cJ : ClassId) (oa : Nat) (g : Nat → Int64) (a0 : Int32) (k : Nat) (hk : k ≤ 19) (hM : gx_CT l y_G_of b_G_of 2 (some .int) k E (gp_wG E I F) [.ref (E.2.2.2 0), .int a0] "java/util/NoSuchElementException") : gl_CH l y_L_of b_L_of 4 [(0, 9, 12, 21)] E cJ (gl_o cJ oa g :: gp_wG E I F) (gl_o cJ oa g :: gp_wG E I F) [.ref (E.2.2.2 0), .int a0, .ref oa] 1 := by
  refine gl_of (by decide) (Nat.le_of_ble_eq_true rfl) ?_
  intro xp xe xs xm below meth xc ls A hx hb hr hts hown hlocks hml htb hP hK hD hA hAe hSt hCt hl
  have hown : xs.vm.findClass "GuidePlansLaw" = some xm.cls := hown
  have hl : lv_has ls 4 [(0, .ref (E.2.2.2 0)), (1, .int a0), (2, .ref oa)] := hl
  refine lv_aload_n hx hb d_L_of_0 rfl (lv_at hl 2 rfl) ?_
  refine lv_iconst (v := 0) hx hb d_L_of_1 (by decide) ?_
  refine lv_aload_n hx hb d_L_of_2 rfl (lv_at hl 0 rfl) ?_
  refine lv_iload_n hx hb d_L_of_3 rfl (lv_at hl 1 rfl) ?_
  refine gl_thr (q0 := 0) (ci := 0) (As := [.int a0]) (rest := [.int 0, .ref oa]) ⟨hx, hb, hml, hown, hts⟩ hM (k_L_36 hts ⟨by show k + 1 ≤ 20; omega, by show 8 + (2 + 11) + 40 * k ≤ 800; omega⟩ rfl rfl) (gl_K hK) (gl_tl hP) hSt hCt (by decide) rfl rfl rfl hl.1 rfl (Nat.le_of_ble_eq_true rfl) d_L_of_4 ⟨Nat.le_of_ble_eq_true rfl, Nat.le_of_ble_eq_true rfl⟩ htb (h := 12) (by decide +kernel) (fun q H1 hz hk => ?_)
  have hP := hP.kept (H1 := H1) (fun k q h => hk _ (hP k q h).lt)
  have hS : va_S A xs.heap H1 [] := ⟨hz, fun q h1 _ => hk q h1, fun _ h => nomatch h⟩
  refine lv_astore_n (lv' := (3, .ref q) :: [(0, .ref (E.2.2.2 0)), (1, .int a0), (2, .ref oa)]) hx hb d_L_of_12 rfl hl (by decide) rfl (fun ls hl => ?_)
  refine lv_iconst (v := 1) hx hb d_L_of_13 (by decide) ?_
  exact gl_ret hx hb hr hlocks hAe hP hS d_L_of_14
set_option maxHeartbeats 4000000 in
set_option maxRecDepth 100000 in
theorem hN_cost (l : Launch) (E : gp_E) (I : Nat → Int32) (F : Nat → Nat → Int32) (cJ : ClassId) (oa : Nat) (g : Nat → Int64) (k : Nat) (hk : k ≤ 19) (I2 : Nat → Int32) (F2 : Nat → Nat → Int32) (r : Int32) (hM : gp_CW l y_G_cost b_G_cost 1 (some .int) k E (gp_wG E I F) (gp_wG E I2 F2) [.ref (E.2.2.2 0)] (some (.int r))) : gl_CH l y_L_cost b_L_cost 3 [(0, 8, 11, 15)] E cJ (gl_o cJ oa g :: gp_wG E I F) (gl_o cJ oa (vp_updL g 0 r.toInt64) :: gp_wG E I2 F2) [.ref (E.2.2.2 0), .ref oa] 0 := by
  refine gl_of (by decide) (Nat.le_of_ble_eq_true rfl) ?_
  intro xp xe xs xm below meth xc ls A hx hb hr hts hown hlocks hml htb hP hK hD hA hAe hSt hCt hl
  have hS : va_S A xs.heap xs.heap [] := va_S.rf
  have hown : xs.vm.findClass "GuidePlansLaw" = some xm.cls := hown
  have hl : lv_has ls 3 [(0, .ref (E.2.2.2 0)), (1, .ref oa)] := hl
  refine lv_aload_n hx hb d_L_cost_0 rfl (lv_at hl 1 rfl) ?_
  refine lv_iconst (v := 0) hx hb d_L_cost_1 (by decide) ?_
  refine lv_aload_n hx hb d_L_cost_2 rfl (lv_at hl 0 rfl) ?_
  refine gl_cW (q0 := 0) (ci := 0) (As := []) (rest := [.int 0, .ref oa]) ⟨hx, hb, hml, hown, hts⟩ hM (k_L_39 hts ⟨by show k + 1 ≤ 20; omega, by show 8 + (1 + 11) + 40 * k ≤ 800; omega⟩ rfl rfl) (gl_K hK) (gl_tl hP) (gl_td hD) hS hA rfl rfl rfl hl.1 rfl (Nat.le_of_ble_eq_true rfl) d_L_cost_3 ⟨Nat.le_of_ble_eq_true rfl, Nat.le_of_ble_eq_true rfl⟩ (fun H1 locs1 hP1 hk1 hz1 hS => ?_)
  have hP := gl_join hP hD hk1 hP1
  have hD : va_D A (gl_o cJ oa g :: gp_wG E I2 F2) := gp_dd hD rfl
  refine lv_i2l hx hb d_L_cost_6 rfl ?_
  refine va_last (D := E.1) (cl := gp_cl) hx hb hK hP hD hS 0 2 rfl rfl gl_in1 d_L_cost_7 (fun H2 locs2 hP hD hS => ?_)
  refine lv_goto (tgt := 14) hx hb d_L_cost_8 (by decide) ?_
  refine lv_iconst (v := 0) hx hb d_L_cost_14 (by decide) ?_
  refine W.widen (k := 1) (n := 6) (by omega) (by omega) ?_
  exact gl_ret hx hb hr hlocks hAe hP hS d_L_cost_15
set_option maxHeartbeats 4000000 in
set_option maxRecDepth 100000 in
theorem hX1_cost (l : Launch) (E : gp_E) (I : Nat → Int32) (F : Nat → Nat → Int32) (cJ : ClassId) (oa : Nat) (g : Nat → Int64) (k : Nat) (hk : k ≤ 19) (hM : gx_CT l y_G_cost b_G_cost 1 (some .int) k E (gp_wG E I F) [.ref (E.2.2.2 0)] "java/lang/IllegalStateException") : gl_CH l y_L_cost b_L_cost 3 [(0, 8, 11, 15)] E cJ (gl_o cJ oa g :: gp_wG E I F) (gl_o cJ oa g :: gp_wG E I F) [.ref (E.2.2.2 0), .ref oa] 1 := by
  refine gl_of (by decide) (Nat.le_of_ble_eq_true rfl) ?_
  intro xp xe xs xm below meth xc ls A hx hb hr hts hown hlocks hml htb hP hK hD hA hAe hSt hCt hl
  have hown : xs.vm.findClass "GuidePlansLaw" = some xm.cls := hown
  have hl : lv_has ls 3 [(0, .ref (E.2.2.2 0)), (1, .ref oa)] := hl
  refine lv_aload_n hx hb d_L_cost_0 rfl (lv_at hl 1 rfl) ?_
  refine lv_iconst (v := 0) hx hb d_L_cost_1 (by decide) ?_
  refine lv_aload_n hx hb d_L_cost_2 rfl (lv_at hl 0 rfl) ?_
  refine gl_thr (q0 := 0) (ci := 0) (As := []) (rest := [.int 0, .ref oa]) ⟨hx, hb, hml, hown, hts⟩ hM (k_L_39 hts ⟨by show k + 1 ≤ 20; omega, by show 8 + (1 + 11) + 40 * k ≤ 800; omega⟩ rfl rfl) (gl_K hK) (gl_tl hP) hSt hCt (by decide) rfl rfl rfl hl.1 rfl (Nat.le_of_ble_eq_true rfl) d_L_cost_3 ⟨Nat.le_of_ble_eq_true rfl, Nat.le_of_ble_eq_true rfl⟩ htb (h := 11) (by decide +kernel) (fun q H1 hz hk => ?_)
  have hP := hP.kept (H1 := H1) (fun k q h => hk _ (hP k q h).lt)
  have hS : va_S A xs.heap H1 [] := ⟨hz, fun q h1 _ => hk q h1, fun _ h => nomatch h⟩
  refine lv_astore_n (lv' := (2, .ref q) :: [(0, .ref (E.2.2.2 0)), (1, .ref oa)]) hx hb d_L_cost_11 rfl hl (by decide) rfl (fun ls hl => ?_)
  refine lv_iconst (v := 1) hx hb d_L_cost_12 (by decide) ?_
  exact gl_ret hx hb hr hlocks hAe hP hS d_L_cost_13
set_option maxHeartbeats 4000000 in
set_option maxRecDepth 100000 in
theorem hN_absent (l : Launch) (E : gp_E) (I : Nat → Int32) (F : Nat → Nat → Int32) (cJ : ClassId) (oa : Nat) (g : Nat → Int64) (a0 a1 : Int32) (k : Nat) (hk : k ≤ 19) (I2 : Nat → Int32) (F2 : Nat → Nat → Int32) (r : Int32) (hM : gp_CW l y_G_absent b_G_absent 3 (some .int) k E (gp_wG E I F) (gp_wG E I2 F2) [.ref (E.2.2.2 0), .int a0, .int a1] (some (.int r))) : gl_CH l y_L_absent b_L_absent 5 [(0, 10, 13, 21), (0, 10, 17, 13), (0, 10, 21, 15)] E cJ (gl_o cJ oa g :: gp_wG E I F) (gl_o cJ oa (vp_updL g 0 r.toInt64) :: gp_wG E I2 F2) [.ref (E.2.2.2 0), .int a0, .int a1, .ref oa] 0 := by
  refine gl_of (by decide) (Nat.le_of_ble_eq_true rfl) ?_
  intro xp xe xs xm below meth xc ls A hx hb hr hts hown hlocks hml htb hP hK hD hA hAe hSt hCt hl
  have hS : va_S A xs.heap xs.heap [] := va_S.rf
  have hown : xs.vm.findClass "GuidePlansLaw" = some xm.cls := hown
  have hl : lv_has ls 5 [(0, .ref (E.2.2.2 0)), (1, .int a0), (2, .int a1), (3, .ref oa)] := hl
  refine lv_aload_n hx hb d_L_absent_0 rfl (lv_at hl 3 rfl) ?_
  refine lv_iconst (v := 0) hx hb d_L_absent_1 (by decide) ?_
  refine lv_aload_n hx hb d_L_absent_2 rfl (lv_at hl 0 rfl) ?_
  refine lv_iload_n hx hb d_L_absent_3 rfl (lv_at hl 1 rfl) ?_
  refine lv_iload_n hx hb d_L_absent_4 rfl (lv_at hl 2 rfl) ?_
  refine gl_cW (q0 := 0) (ci := 0) (As := [.int a0, .int a1]) (rest := [.int 0, .ref oa]) ⟨hx, hb, hml, hown, hts⟩ hM (k_L_43 hts ⟨by show k + 1 ≤ 20; omega, by show 8 + (3 + 11) + 40 * k ≤ 800; omega⟩ rfl rfl) (gl_K hK) (gl_tl hP) (gl_td hD) hS hA rfl rfl rfl hl.1 rfl (Nat.le_of_ble_eq_true rfl) d_L_absent_5 ⟨Nat.le_of_ble_eq_true rfl, Nat.le_of_ble_eq_true rfl⟩ (fun H1 locs1 hP1 hk1 hz1 hS => ?_)
  have hP := gl_join hP hD hk1 hP1
  have hD : va_D A (gl_o cJ oa g :: gp_wG E I2 F2) := gp_dd hD rfl
  refine lv_i2l hx hb d_L_absent_8 rfl ?_
  refine va_last (D := E.1) (cl := gp_cl) hx hb hK hP hD hS 0 2 rfl rfl gl_in1 d_L_absent_9 (fun H2 locs2 hP hD hS => ?_)
  refine lv_goto (tgt := 25) hx hb d_L_absent_10 (by decide) ?_
  refine lv_iconst (v := 0) hx hb d_L_absent_25 (by decide) ?_
  refine W.widen (k := 1) (n := 6) (by omega) (by omega) ?_
  exact gl_ret hx hb hr hlocks hAe hP hS d_L_absent_26
set_option maxHeartbeats 4000000 in
set_option maxRecDepth 100000 in
theorem hX1_absent (l : Launch) (E : gp_E) (I : Nat → Int32) (F : Nat → Nat → Int32) (cJ : ClassId) (oa : Nat) (g : Nat → Int64) (a0 a1 : Int32) (k : Nat) (hk : k ≤ 19) (hM : gx_CT l y_G_absent b_G_absent 3 (some .int) k E (gp_wG E I F) [.ref (E.2.2.2 0), .int a0, .int a1] "java/util/NoSuchElementException") : gl_CH l y_L_absent b_L_absent 5 [(0, 10, 13, 21), (0, 10, 17, 13), (0, 10, 21, 15)] E cJ (gl_o cJ oa g :: gp_wG E I F) (gl_o cJ oa g :: gp_wG E I F) [.ref (E.2.2.2 0), .int a0, .int a1, .ref oa] 1 := by
  refine gl_of (by decide) (Nat.le_of_ble_eq_true rfl) ?_
  intro xp xe xs xm below meth xc ls A hx hb hr hts hown hlocks hml htb hP hK hD hA hAe hSt hCt hl
  have hown : xs.vm.findClass "GuidePlansLaw" = some xm.cls := hown
  have hl : lv_has ls 5 [(0, .ref (E.2.2.2 0)), (1, .int a0), (2, .int a1), (3, .ref oa)] := hl
  refine lv_aload_n hx hb d_L_absent_0 rfl (lv_at hl 3 rfl) ?_
  refine lv_iconst (v := 0) hx hb d_L_absent_1 (by decide) ?_
  refine lv_aload_n hx hb d_L_absent_2 rfl (lv_at hl 0 rfl) ?_
  refine lv_iload_n hx hb d_L_absent_3 rfl (lv_at hl 1 rfl) ?_
  refine lv_iload_n hx hb d_L_absent_4 rfl (lv_at hl 2 rfl) ?_
  refine gl_thr (q0 := 0) (ci := 0) (As := [.int a0, .int a1]) (rest := [.int 0, .ref oa]) ⟨hx, hb, hml, hown, hts⟩ hM (k_L_43 hts ⟨by show k + 1 ≤ 20; omega, by show 8 + (3 + 11) + 40 * k ≤ 800; omega⟩ rfl rfl) (gl_K hK) (gl_tl hP) hSt hCt (by decide) rfl rfl rfl hl.1 rfl (Nat.le_of_ble_eq_true rfl) d_L_absent_5 ⟨Nat.le_of_ble_eq_true rfl, Nat.le_of_ble_eq_true rfl⟩ htb (h := 13) (by decide +kernel) (fun q H1 hz hk => ?_)
  have hP := hP.kept (H1 := H1) (fun k q h => hk _ (hP k q h).lt)
  have hS : va_S A xs.heap H1 [] := ⟨hz, fun q h1 _ => hk q h1, fun _ h => nomatch h⟩
  refine lv_astore (lv' := (4, .ref q) :: [(0, .ref (E.2.2.2 0)), (1, .int a0), (2, .int a1), (3, .ref oa)]) hx hb d_L_absent_13 hl (by decide) rfl (fun ls hl => ?_)
  refine lv_iconst (v := 1) hx hb d_L_absent_15 (by decide) ?_
  exact gl_ret hx hb hr hlocks hAe hP hS d_L_absent_16
set_option maxHeartbeats 4000000 in
set_option maxRecDepth 100000 in
theorem hX2_absent (l : Launch) (E : gp_E) (I : Nat → Int32) (F : Nat → Nat → Int32) (cJ : ClassId) (oa : Nat) (g : Nat → Int64) (a0 a1 : Int32) (k : Nat) (hk : k ≤ 19) (hM : gx_CT l y_G_absent b_G_absent 3 (some .int) k E (gp_wG E I F) [.ref (E.2.2.2 0), .int a0, .int a1] "java/lang/IllegalArgumentException") : gl_CH l y_L_absent b_L_absent 5 [(0, 10, 13, 21), (0, 10, 17, 13), (0, 10, 21, 15)] E cJ (gl_o cJ oa g :: gp_wG E I F) (gl_o cJ oa g :: gp_wG E I F) [.ref (E.2.2.2 0), .int a0, .int a1, .ref oa] 2 := by
  refine gl_of (by decide) (Nat.le_of_ble_eq_true rfl) ?_
  intro xp xe xs xm below meth xc ls A hx hb hr hts hown hlocks hml htb hP hK hD hA hAe hSt hCt hl
  have hown : xs.vm.findClass "GuidePlansLaw" = some xm.cls := hown
  have hl : lv_has ls 5 [(0, .ref (E.2.2.2 0)), (1, .int a0), (2, .int a1), (3, .ref oa)] := hl
  refine lv_aload_n hx hb d_L_absent_0 rfl (lv_at hl 3 rfl) ?_
  refine lv_iconst (v := 0) hx hb d_L_absent_1 (by decide) ?_
  refine lv_aload_n hx hb d_L_absent_2 rfl (lv_at hl 0 rfl) ?_
  refine lv_iload_n hx hb d_L_absent_3 rfl (lv_at hl 1 rfl) ?_
  refine lv_iload_n hx hb d_L_absent_4 rfl (lv_at hl 2 rfl) ?_
  refine gl_thr (q0 := 0) (ci := 0) (As := [.int a0, .int a1]) (rest := [.int 0, .ref oa]) ⟨hx, hb, hml, hown, hts⟩ hM (k_L_43 hts ⟨by show k + 1 ≤ 20; omega, by show 8 + (3 + 11) + 40 * k ≤ 800; omega⟩ rfl rfl) (gl_K hK) (gl_tl hP) hSt hCt (by decide) rfl rfl rfl hl.1 rfl (Nat.le_of_ble_eq_true rfl) d_L_absent_5 ⟨Nat.le_of_ble_eq_true rfl, Nat.le_of_ble_eq_true rfl⟩ htb (h := 17) (by decide +kernel) (fun q H1 hz hk => ?_)
  have hP := hP.kept (H1 := H1) (fun k q h => hk _ (hP k q h).lt)
  have hS : va_S A xs.heap H1 [] := ⟨hz, fun q h1 _ => hk q h1, fun _ h => nomatch h⟩
  refine lv_astore (lv' := (4, .ref q) :: [(0, .ref (E.2.2.2 0)), (1, .int a0), (2, .int a1), (3, .ref oa)]) hx hb d_L_absent_17 hl (by decide) rfl (fun ls hl => ?_)
  refine lv_iconst (v := 2) hx hb d_L_absent_19 (by decide) ?_
  exact gl_ret hx hb hr hlocks hAe hP hS d_L_absent_20
set_option maxHeartbeats 4000000 in
set_option maxRecDepth 100000 in
theorem hX3_absent (l : Launch) (E : gp_E) (I : Nat → Int32) (F : Nat → Nat → Int32) (cJ : ClassId) (oa : Nat) (g : Nat → Int64) (a0 a1 : Int32) (k : Nat) (hk : k ≤ 19) (hM : gx_CT l y_G_absent b_G_absent 3 (some .int) k E (gp_wG E I F) [.ref (E.2.2.2 0), .int a0, .int a1] "java/lang/IllegalStateException") : gl_CH l y_L_absent b_L_absent 5 [(0, 10, 13, 21), (0, 10, 17, 13), (0, 10, 21, 15)] E cJ (gl_o cJ oa g :: gp_wG E I F) (gl_o cJ oa g :: gp_wG E I F) [.ref (E.2.2.2 0), .int a0, .int a1, .ref oa] 3 := by
  refine gl_of (by decide) (Nat.le_of_ble_eq_true rfl) ?_
  intro xp xe xs xm below meth xc ls A hx hb hr hts hown hlocks hml htb hP hK hD hA hAe hSt hCt hl
  have hown : xs.vm.findClass "GuidePlansLaw" = some xm.cls := hown
  have hl : lv_has ls 5 [(0, .ref (E.2.2.2 0)), (1, .int a0), (2, .int a1), (3, .ref oa)] := hl
  refine lv_aload_n hx hb d_L_absent_0 rfl (lv_at hl 3 rfl) ?_
  refine lv_iconst (v := 0) hx hb d_L_absent_1 (by decide) ?_
  refine lv_aload_n hx hb d_L_absent_2 rfl (lv_at hl 0 rfl) ?_
  refine lv_iload_n hx hb d_L_absent_3 rfl (lv_at hl 1 rfl) ?_
  refine lv_iload_n hx hb d_L_absent_4 rfl (lv_at hl 2 rfl) ?_
  refine gl_thr (q0 := 0) (ci := 0) (As := [.int a0, .int a1]) (rest := [.int 0, .ref oa]) ⟨hx, hb, hml, hown, hts⟩ hM (k_L_43 hts ⟨by show k + 1 ≤ 20; omega, by show 8 + (3 + 11) + 40 * k ≤ 800; omega⟩ rfl rfl) (gl_K hK) (gl_tl hP) hSt hCt (by decide) rfl rfl rfl hl.1 rfl (Nat.le_of_ble_eq_true rfl) d_L_absent_5 ⟨Nat.le_of_ble_eq_true rfl, Nat.le_of_ble_eq_true rfl⟩ htb (h := 21) (by decide +kernel) (fun q H1 hz hk => ?_)
  have hP := hP.kept (H1 := H1) (fun k q h => hk _ (hP k q h).lt)
  have hS : va_S A xs.heap H1 [] := ⟨hz, fun q h1 _ => hk q h1, fun _ h => nomatch h⟩
  refine lv_astore (lv' := (4, .ref q) :: [(0, .ref (E.2.2.2 0)), (1, .int a0), (2, .int a1), (3, .ref oa)]) hx hb d_L_absent_21 hl (by decide) rfl (fun ls hl => ?_)
  refine lv_iconst (v := 3) hx hb d_L_absent_23 (by decide) ?_
  exact gl_ret hx hb hr hlocks hAe hP hS d_L_absent_24
set_option maxHeartbeats 4000000 in
set_option maxRecDepth 100000 in
theorem hN_changed (l : Launch) (E : gp_E) (I : Nat → Int32) (F : Nat → Nat → Int32) (cJ : ClassId) (oa : Nat) (g : Nat → Int64) (a0 : Int32) (k : Nat) (hk : k ≤ 19) (I2 : Nat → Int32) (F2 : Nat → Nat → Int32) (r : Int32) (hM : gp_CW l y_G_changed b_G_changed 2 (some .int) k E (gp_wG E I F) (gp_wG E I2 F2) [.ref (E.2.2.2 0), .int a0] (some (.int r))) : gl_CH l y_L_changed b_L_changed 4 [(0, 9, 12, 21)] E cJ (gl_o cJ oa g :: gp_wG E I F) (gl_o cJ oa (vp_updL g 0 r.toInt64) :: gp_wG E I2 F2) [.ref (E.2.2.2 0), .int a0, .ref oa] 0 := by
  refine gl_of (by decide) (Nat.le_of_ble_eq_true rfl) ?_
  intro xp xe xs xm below meth xc ls A hx hb hr hts hown hlocks hml htb hP hK hD hA hAe hSt hCt hl
  have hS : va_S A xs.heap xs.heap [] := va_S.rf
  have hown : xs.vm.findClass "GuidePlansLaw" = some xm.cls := hown
  have hl : lv_has ls 4 [(0, .ref (E.2.2.2 0)), (1, .int a0), (2, .ref oa)] := hl
  refine lv_aload_n hx hb d_L_changed_0 rfl (lv_at hl 2 rfl) ?_
  refine lv_iconst (v := 0) hx hb d_L_changed_1 (by decide) ?_
  refine lv_aload_n hx hb d_L_changed_2 rfl (lv_at hl 0 rfl) ?_
  refine lv_iload_n hx hb d_L_changed_3 rfl (lv_at hl 1 rfl) ?_
  refine gl_cW (q0 := 0) (ci := 0) (As := [.int a0]) (rest := [.int 0, .ref oa]) ⟨hx, hb, hml, hown, hts⟩ hM (k_L_47 hts ⟨by show k + 1 ≤ 20; omega, by show 8 + (2 + 11) + 40 * k ≤ 800; omega⟩ rfl rfl) (gl_K hK) (gl_tl hP) (gl_td hD) hS hA rfl rfl rfl hl.1 rfl (Nat.le_of_ble_eq_true rfl) d_L_changed_4 ⟨Nat.le_of_ble_eq_true rfl, Nat.le_of_ble_eq_true rfl⟩ (fun H1 locs1 hP1 hk1 hz1 hS => ?_)
  have hP := gl_join hP hD hk1 hP1
  have hD : va_D A (gl_o cJ oa g :: gp_wG E I2 F2) := gp_dd hD rfl
  refine lv_i2l hx hb d_L_changed_7 rfl ?_
  refine va_last (D := E.1) (cl := gp_cl) hx hb hK hP hD hS 0 2 rfl rfl gl_in1 d_L_changed_8 (fun H2 locs2 hP hD hS => ?_)
  refine lv_goto (tgt := 15) hx hb d_L_changed_9 (by decide) ?_
  refine lv_iconst (v := 0) hx hb d_L_changed_15 (by decide) ?_
  refine W.widen (k := 1) (n := 6) (by omega) (by omega) ?_
  exact gl_ret hx hb hr hlocks hAe hP hS d_L_changed_16
set_option maxHeartbeats 4000000 in
set_option maxRecDepth 100000 in
theorem hX1_changed (l : Launch) (E : gp_E) (I : Nat → Int32) (F : Nat → Nat → Int32) (cJ : ClassId) (oa : Nat) (g : Nat → Int64) (a0 : Int32) (k : Nat) (hk : k ≤ 19) (hM : gx_CT l y_G_changed b_G_changed 2 (some .int) k E (gp_wG E I F) [.ref (E.2.2.2 0), .int a0] "java/util/NoSuchElementException") : gl_CH l y_L_changed b_L_changed 4 [(0, 9, 12, 21)] E cJ (gl_o cJ oa g :: gp_wG E I F) (gl_o cJ oa g :: gp_wG E I F) [.ref (E.2.2.2 0), .int a0, .ref oa] 1 := by
  refine gl_of (by decide) (Nat.le_of_ble_eq_true rfl) ?_
  intro xp xe xs xm below meth xc ls A hx hb hr hts hown hlocks hml htb hP hK hD hA hAe hSt hCt hl
  have hown : xs.vm.findClass "GuidePlansLaw" = some xm.cls := hown
  have hl : lv_has ls 4 [(0, .ref (E.2.2.2 0)), (1, .int a0), (2, .ref oa)] := hl
  refine lv_aload_n hx hb d_L_changed_0 rfl (lv_at hl 2 rfl) ?_
  refine lv_iconst (v := 0) hx hb d_L_changed_1 (by decide) ?_
  refine lv_aload_n hx hb d_L_changed_2 rfl (lv_at hl 0 rfl) ?_
  refine lv_iload_n hx hb d_L_changed_3 rfl (lv_at hl 1 rfl) ?_
  refine gl_thr (q0 := 0) (ci := 0) (As := [.int a0]) (rest := [.int 0, .ref oa]) ⟨hx, hb, hml, hown, hts⟩ hM (k_L_47 hts ⟨by show k + 1 ≤ 20; omega, by show 8 + (2 + 11) + 40 * k ≤ 800; omega⟩ rfl rfl) (gl_K hK) (gl_tl hP) hSt hCt (by decide) rfl rfl rfl hl.1 rfl (Nat.le_of_ble_eq_true rfl) d_L_changed_4 ⟨Nat.le_of_ble_eq_true rfl, Nat.le_of_ble_eq_true rfl⟩ htb (h := 12) (by decide +kernel) (fun q H1 hz hk => ?_)
  have hP := hP.kept (H1 := H1) (fun k q h => hk _ (hP k q h).lt)
  have hS : va_S A xs.heap H1 [] := ⟨hz, fun q h1 _ => hk q h1, fun _ h => nomatch h⟩
  refine lv_astore_n (lv' := (3, .ref q) :: [(0, .ref (E.2.2.2 0)), (1, .int a0), (2, .ref oa)]) hx hb d_L_changed_12 rfl hl (by decide) rfl (fun ls hl => ?_)
  refine lv_iconst (v := 1) hx hb d_L_changed_13 (by decide) ?_
  exact gl_ret hx hb hr hlocks hAe hP hS d_L_changed_14
set_option maxHeartbeats 4000000 in
set_option maxRecDepth 100000 in
theorem hN_swap (l : Launch) (E : gp_E) (I : Nat → Int32) (F : Nat → Nat → Int32) (cJ : ClassId) (oa : Nat) (g : Nat → Int64) (a0 a1 : Int32) (k : Nat) (hk : k ≤ 19) (I2 : Nat → Int32) (F2 : Nat → Nat → Int32) (r : Int32) (hM : gp_CW l y_G_swap b_G_swap 6 (some .int) k E (gp_wG E I F) (gp_wG E I2 F2) [.ref (E.2.2.2 0), .int a0, .int a1] (some (.int r))) : gl_CH l y_L_swap b_L_swap 5 [(0, 10, 13, 21), (0, 10, 17, 15)] E cJ (gl_o cJ oa g :: gp_wG E I F) (gl_o cJ oa (vp_updL g 0 r.toInt64) :: gp_wG E I2 F2) [.ref (E.2.2.2 0), .int a0, .int a1, .ref oa] 0 := by
  refine gl_of (by decide) (Nat.le_of_ble_eq_true rfl) ?_
  intro xp xe xs xm below meth xc ls A hx hb hr hts hown hlocks hml htb hP hK hD hA hAe hSt hCt hl
  have hS : va_S A xs.heap xs.heap [] := va_S.rf
  have hown : xs.vm.findClass "GuidePlansLaw" = some xm.cls := hown
  have hl : lv_has ls 5 [(0, .ref (E.2.2.2 0)), (1, .int a0), (2, .int a1), (3, .ref oa)] := hl
  refine lv_aload_n hx hb d_L_swap_0 rfl (lv_at hl 3 rfl) ?_
  refine lv_iconst (v := 0) hx hb d_L_swap_1 (by decide) ?_
  refine lv_aload_n hx hb d_L_swap_2 rfl (lv_at hl 0 rfl) ?_
  refine lv_iload_n hx hb d_L_swap_3 rfl (lv_at hl 1 rfl) ?_
  refine lv_iload_n hx hb d_L_swap_4 rfl (lv_at hl 2 rfl) ?_
  refine gl_cW (q0 := 0) (ci := 0) (As := [.int a0, .int a1]) (rest := [.int 0, .ref oa]) ⟨hx, hb, hml, hown, hts⟩ hM (k_L_50 hts ⟨by show k + 1 ≤ 20; omega, by show 8 + (6 + 11) + 40 * k ≤ 800; omega⟩ rfl rfl) (gl_K hK) (gl_tl hP) (gl_td hD) hS hA rfl rfl rfl hl.1 rfl (Nat.le_of_ble_eq_true rfl) d_L_swap_5 ⟨Nat.le_of_ble_eq_true rfl, Nat.le_of_ble_eq_true rfl⟩ (fun H1 locs1 hP1 hk1 hz1 hS => ?_)
  have hP := gl_join hP hD hk1 hP1
  have hD : va_D A (gl_o cJ oa g :: gp_wG E I2 F2) := gp_dd hD rfl
  refine lv_i2l hx hb d_L_swap_8 rfl ?_
  refine va_last (D := E.1) (cl := gp_cl) hx hb hK hP hD hS 0 2 rfl rfl gl_in1 d_L_swap_9 (fun H2 locs2 hP hD hS => ?_)
  refine lv_goto (tgt := 21) hx hb d_L_swap_10 (by decide) ?_
  refine lv_iconst (v := 0) hx hb d_L_swap_21 (by decide) ?_
  refine W.widen (k := 1) (n := 6) (by omega) (by omega) ?_
  exact gl_ret hx hb hr hlocks hAe hP hS d_L_swap_22
set_option maxHeartbeats 4000000 in
set_option maxRecDepth 100000 in
theorem hX1_swap (l : Launch) (E : gp_E) (I : Nat → Int32) (F : Nat → Nat → Int32) (cJ : ClassId) (oa : Nat) (g : Nat → Int64) (a0 a1 : Int32) (k : Nat) (hk : k ≤ 19) (hM : gx_CT l y_G_swap b_G_swap 6 (some .int) k E (gp_wG E I F) [.ref (E.2.2.2 0), .int a0, .int a1] "java/util/NoSuchElementException") : gl_CH l y_L_swap b_L_swap 5 [(0, 10, 13, 21), (0, 10, 17, 15)] E cJ (gl_o cJ oa g :: gp_wG E I F) (gl_o cJ oa g :: gp_wG E I F) [.ref (E.2.2.2 0), .int a0, .int a1, .ref oa] 1 := by
  refine gl_of (by decide) (Nat.le_of_ble_eq_true rfl) ?_
  intro xp xe xs xm below meth xc ls A hx hb hr hts hown hlocks hml htb hP hK hD hA hAe hSt hCt hl
  have hown : xs.vm.findClass "GuidePlansLaw" = some xm.cls := hown
  have hl : lv_has ls 5 [(0, .ref (E.2.2.2 0)), (1, .int a0), (2, .int a1), (3, .ref oa)] := hl
  refine lv_aload_n hx hb d_L_swap_0 rfl (lv_at hl 3 rfl) ?_
  refine lv_iconst (v := 0) hx hb d_L_swap_1 (by decide) ?_
  refine lv_aload_n hx hb d_L_swap_2 rfl (lv_at hl 0 rfl) ?_
  refine lv_iload_n hx hb d_L_swap_3 rfl (lv_at hl 1 rfl) ?_
  refine lv_iload_n hx hb d_L_swap_4 rfl (lv_at hl 2 rfl) ?_
  refine gl_thr (q0 := 0) (ci := 0) (As := [.int a0, .int a1]) (rest := [.int 0, .ref oa]) ⟨hx, hb, hml, hown, hts⟩ hM (k_L_50 hts ⟨by show k + 1 ≤ 20; omega, by show 8 + (6 + 11) + 40 * k ≤ 800; omega⟩ rfl rfl) (gl_K hK) (gl_tl hP) hSt hCt (by decide) rfl rfl rfl hl.1 rfl (Nat.le_of_ble_eq_true rfl) d_L_swap_5 ⟨Nat.le_of_ble_eq_true rfl, Nat.le_of_ble_eq_true rfl⟩ htb (h := 13) (by decide +kernel) (fun q H1 hz hk => ?_)
  have hP := hP.kept (H1 := H1) (fun k q h => hk _ (hP k q h).lt)
  have hS : va_S A xs.heap H1 [] := ⟨hz, fun q h1 _ => hk q h1, fun _ h => nomatch h⟩
  refine lv_astore (lv' := (4, .ref q) :: [(0, .ref (E.2.2.2 0)), (1, .int a0), (2, .int a1), (3, .ref oa)]) hx hb d_L_swap_13 hl (by decide) rfl (fun ls hl => ?_)
  refine lv_iconst (v := 1) hx hb d_L_swap_15 (by decide) ?_
  exact gl_ret hx hb hr hlocks hAe hP hS d_L_swap_16
set_option maxHeartbeats 4000000 in
set_option maxRecDepth 100000 in
theorem hX2_swap (l : Launch) (E : gp_E) (I : Nat → Int32) (F : Nat → Nat → Int32) (cJ : ClassId) (oa : Nat) (g : Nat → Int64) (a0 a1 : Int32) (k : Nat) (hk : k ≤ 19) (hM : gx_CT l y_G_swap b_G_swap 6 (some .int) k E (gp_wG E I F) [.ref (E.2.2.2 0), .int a0, .int a1] "java/lang/IllegalStateException") : gl_CH l y_L_swap b_L_swap 5 [(0, 10, 13, 21), (0, 10, 17, 15)] E cJ (gl_o cJ oa g :: gp_wG E I F) (gl_o cJ oa g :: gp_wG E I F) [.ref (E.2.2.2 0), .int a0, .int a1, .ref oa] 2 := by
  refine gl_of (by decide) (Nat.le_of_ble_eq_true rfl) ?_
  intro xp xe xs xm below meth xc ls A hx hb hr hts hown hlocks hml htb hP hK hD hA hAe hSt hCt hl
  have hown : xs.vm.findClass "GuidePlansLaw" = some xm.cls := hown
  have hl : lv_has ls 5 [(0, .ref (E.2.2.2 0)), (1, .int a0), (2, .int a1), (3, .ref oa)] := hl
  refine lv_aload_n hx hb d_L_swap_0 rfl (lv_at hl 3 rfl) ?_
  refine lv_iconst (v := 0) hx hb d_L_swap_1 (by decide) ?_
  refine lv_aload_n hx hb d_L_swap_2 rfl (lv_at hl 0 rfl) ?_
  refine lv_iload_n hx hb d_L_swap_3 rfl (lv_at hl 1 rfl) ?_
  refine lv_iload_n hx hb d_L_swap_4 rfl (lv_at hl 2 rfl) ?_
  refine gl_thr (q0 := 0) (ci := 0) (As := [.int a0, .int a1]) (rest := [.int 0, .ref oa]) ⟨hx, hb, hml, hown, hts⟩ hM (k_L_50 hts ⟨by show k + 1 ≤ 20; omega, by show 8 + (6 + 11) + 40 * k ≤ 800; omega⟩ rfl rfl) (gl_K hK) (gl_tl hP) hSt hCt (by decide) rfl rfl rfl hl.1 rfl (Nat.le_of_ble_eq_true rfl) d_L_swap_5 ⟨Nat.le_of_ble_eq_true rfl, Nat.le_of_ble_eq_true rfl⟩ htb (h := 17) (by decide +kernel) (fun q H1 hz hk => ?_)
  have hP := hP.kept (H1 := H1) (fun k q h => hk _ (hP k q h).lt)
  have hS : va_S A xs.heap H1 [] := ⟨hz, fun q h1 _ => hk q h1, fun _ h => nomatch h⟩
  refine lv_astore (lv' := (4, .ref q) :: [(0, .ref (E.2.2.2 0)), (1, .int a0), (2, .int a1), (3, .ref oa)]) hx hb d_L_swap_17 hl (by decide) rfl (fun ls hl => ?_)
  refine lv_iconst (v := 2) hx hb d_L_swap_19 (by decide) ?_
  exact gl_ret hx hb hr hlocks hAe hP hS d_L_swap_20
set_option maxHeartbeats 4000000 in
set_option maxRecDepth 100000 in
theorem hN_work (l : Launch) (E : gp_E) (I : Nat → Int32) (F : Nat → Nat → Int32) (cJ : ClassId) (oa : Nat) (g : Nat → Int64) (a0 : Int32) (k : Nat) (hk : k ≤ 19) (I2 : Nat → Int32) (F2 : Nat → Nat → Int32) (r : Int32) (hM : gp_CW l y_G_work b_G_work 2 (some .int) k E (gp_wG E I F) (gp_wG E I2 F2) [.ref (E.2.2.2 0), .int a0] (some (.int r))) : gl_CH l y_L_work b_L_work 4 [(0, 9, 12, 21)] E cJ (gl_o cJ oa g :: gp_wG E I F) (gl_o cJ oa (vp_updL g 0 r.toInt64) :: gp_wG E I2 F2) [.ref (E.2.2.2 0), .int a0, .ref oa] 0 := by
  refine gl_of (by decide) (Nat.le_of_ble_eq_true rfl) ?_
  intro xp xe xs xm below meth xc ls A hx hb hr hts hown hlocks hml htb hP hK hD hA hAe hSt hCt hl
  have hS : va_S A xs.heap xs.heap [] := va_S.rf
  have hown : xs.vm.findClass "GuidePlansLaw" = some xm.cls := hown
  have hl : lv_has ls 4 [(0, .ref (E.2.2.2 0)), (1, .int a0), (2, .ref oa)] := hl
  refine lv_aload_n hx hb d_L_work_0 rfl (lv_at hl 2 rfl) ?_
  refine lv_iconst (v := 0) hx hb d_L_work_1 (by decide) ?_
  refine lv_aload_n hx hb d_L_work_2 rfl (lv_at hl 0 rfl) ?_
  refine lv_iload_n hx hb d_L_work_3 rfl (lv_at hl 1 rfl) ?_
  refine gl_cW (q0 := 0) (ci := 0) (As := [.int a0]) (rest := [.int 0, .ref oa]) ⟨hx, hb, hml, hown, hts⟩ hM (k_L_53 hts ⟨by show k + 1 ≤ 20; omega, by show 8 + (2 + 11) + 40 * k ≤ 800; omega⟩ rfl rfl) (gl_K hK) (gl_tl hP) (gl_td hD) hS hA rfl rfl rfl hl.1 rfl (Nat.le_of_ble_eq_true rfl) d_L_work_4 ⟨Nat.le_of_ble_eq_true rfl, Nat.le_of_ble_eq_true rfl⟩ (fun H1 locs1 hP1 hk1 hz1 hS => ?_)
  have hP := gl_join hP hD hk1 hP1
  have hD : va_D A (gl_o cJ oa g :: gp_wG E I2 F2) := gp_dd hD rfl
  refine lv_i2l hx hb d_L_work_7 rfl ?_
  refine va_last (D := E.1) (cl := gp_cl) hx hb hK hP hD hS 0 2 rfl rfl gl_in1 d_L_work_8 (fun H2 locs2 hP hD hS => ?_)
  refine lv_goto (tgt := 15) hx hb d_L_work_9 (by decide) ?_
  refine lv_iconst (v := 0) hx hb d_L_work_15 (by decide) ?_
  refine W.widen (k := 1) (n := 6) (by omega) (by omega) ?_
  exact gl_ret hx hb hr hlocks hAe hP hS d_L_work_16
set_option maxHeartbeats 4000000 in
set_option maxRecDepth 100000 in
theorem hX1_work (l : Launch) (E : gp_E) (I : Nat → Int32) (F : Nat → Nat → Int32) (cJ : ClassId) (oa : Nat) (g : Nat → Int64) (a0 : Int32) (k : Nat) (hk : k ≤ 19) (hM : gx_CT l y_G_work b_G_work 2 (some .int) k E (gp_wG E I F) [.ref (E.2.2.2 0), .int a0] "java/util/NoSuchElementException") : gl_CH l y_L_work b_L_work 4 [(0, 9, 12, 21)] E cJ (gl_o cJ oa g :: gp_wG E I F) (gl_o cJ oa g :: gp_wG E I F) [.ref (E.2.2.2 0), .int a0, .ref oa] 1 := by
  refine gl_of (by decide) (Nat.le_of_ble_eq_true rfl) ?_
  intro xp xe xs xm below meth xc ls A hx hb hr hts hown hlocks hml htb hP hK hD hA hAe hSt hCt hl
  have hown : xs.vm.findClass "GuidePlansLaw" = some xm.cls := hown
  have hl : lv_has ls 4 [(0, .ref (E.2.2.2 0)), (1, .int a0), (2, .ref oa)] := hl
  refine lv_aload_n hx hb d_L_work_0 rfl (lv_at hl 2 rfl) ?_
  refine lv_iconst (v := 0) hx hb d_L_work_1 (by decide) ?_
  refine lv_aload_n hx hb d_L_work_2 rfl (lv_at hl 0 rfl) ?_
  refine lv_iload_n hx hb d_L_work_3 rfl (lv_at hl 1 rfl) ?_
  refine gl_thr (q0 := 0) (ci := 0) (As := [.int a0]) (rest := [.int 0, .ref oa]) ⟨hx, hb, hml, hown, hts⟩ hM (k_L_53 hts ⟨by show k + 1 ≤ 20; omega, by show 8 + (2 + 11) + 40 * k ≤ 800; omega⟩ rfl rfl) (gl_K hK) (gl_tl hP) hSt hCt (by decide) rfl rfl rfl hl.1 rfl (Nat.le_of_ble_eq_true rfl) d_L_work_4 ⟨Nat.le_of_ble_eq_true rfl, Nat.le_of_ble_eq_true rfl⟩ htb (h := 12) (by decide +kernel) (fun q H1 hz hk => ?_)
  have hP := hP.kept (H1 := H1) (fun k q h => hk _ (hP k q h).lt)
  have hS : va_S A xs.heap H1 [] := ⟨hz, fun q h1 _ => hk q h1, fun _ h => nomatch h⟩
  refine lv_astore_n (lv' := (3, .ref q) :: [(0, .ref (E.2.2.2 0)), (1, .int a0), (2, .ref oa)]) hx hb d_L_work_12 rfl hl (by decide) rfl (fun ls hl => ?_)
  refine lv_iconst (v := 1) hx hb d_L_work_13 (by decide) ?_
  exact gl_ret hx hb hr hlocks hAe hP hS d_L_work_14
set_option maxHeartbeats 4000000 in
set_option maxRecDepth 100000 in
theorem hN_count (l : Launch) (E : gp_E) (I : Nat → Int32) (F : Nat → Nat → Int32) (cJ : ClassId) (oa : Nat) (g : Nat → Int64) (a0 : Int32) (k : Nat) (hk : k ≤ 19) (I2 : Nat → Int32) (F2 : Nat → Nat → Int32) (r : Int32) (hM : gp_CW l y_G_count b_G_count 2 (some .int) k E (gp_wG E I F) (gp_wG E I2 F2) [.ref (E.2.2.2 0), .int a0] (some (.int r))) : gl_CH l y_L_count b_L_count 4 [(0, 9, 12, 21)] E cJ (gl_o cJ oa g :: gp_wG E I F) (gl_o cJ oa (vp_updL g 0 r.toInt64) :: gp_wG E I2 F2) [.ref (E.2.2.2 0), .int a0, .ref oa] 0 := by
  refine gl_of (by decide) (Nat.le_of_ble_eq_true rfl) ?_
  intro xp xe xs xm below meth xc ls A hx hb hr hts hown hlocks hml htb hP hK hD hA hAe hSt hCt hl
  have hS : va_S A xs.heap xs.heap [] := va_S.rf
  have hown : xs.vm.findClass "GuidePlansLaw" = some xm.cls := hown
  have hl : lv_has ls 4 [(0, .ref (E.2.2.2 0)), (1, .int a0), (2, .ref oa)] := hl
  refine lv_aload_n hx hb d_L_count_0 rfl (lv_at hl 2 rfl) ?_
  refine lv_iconst (v := 0) hx hb d_L_count_1 (by decide) ?_
  refine lv_aload_n hx hb d_L_count_2 rfl (lv_at hl 0 rfl) ?_
  refine lv_iload_n hx hb d_L_count_3 rfl (lv_at hl 1 rfl) ?_
  refine gl_cW (q0 := 0) (ci := 0) (As := [.int a0]) (rest := [.int 0, .ref oa]) ⟨hx, hb, hml, hown, hts⟩ hM (k_L_56 hts ⟨by show k + 1 ≤ 20; omega, by show 8 + (2 + 11) + 40 * k ≤ 800; omega⟩ rfl rfl) (gl_K hK) (gl_tl hP) (gl_td hD) hS hA rfl rfl rfl hl.1 rfl (Nat.le_of_ble_eq_true rfl) d_L_count_4 ⟨Nat.le_of_ble_eq_true rfl, Nat.le_of_ble_eq_true rfl⟩ (fun H1 locs1 hP1 hk1 hz1 hS => ?_)
  have hP := gl_join hP hD hk1 hP1
  have hD : va_D A (gl_o cJ oa g :: gp_wG E I2 F2) := gp_dd hD rfl
  refine lv_i2l hx hb d_L_count_7 rfl ?_
  refine va_last (D := E.1) (cl := gp_cl) hx hb hK hP hD hS 0 2 rfl rfl gl_in1 d_L_count_8 (fun H2 locs2 hP hD hS => ?_)
  refine lv_goto (tgt := 15) hx hb d_L_count_9 (by decide) ?_
  refine lv_iconst (v := 0) hx hb d_L_count_15 (by decide) ?_
  refine W.widen (k := 1) (n := 6) (by omega) (by omega) ?_
  exact gl_ret hx hb hr hlocks hAe hP hS d_L_count_16
set_option maxHeartbeats 4000000 in
set_option maxRecDepth 100000 in
theorem hX1_count (l : Launch) (E : gp_E) (I : Nat → Int32) (F : Nat → Nat → Int32) (cJ : ClassId) (oa : Nat) (g : Nat → Int64) (a0 : Int32) (k : Nat) (hk : k ≤ 19) (hM : gx_CT l y_G_count b_G_count 2 (some .int) k E (gp_wG E I F) [.ref (E.2.2.2 0), .int a0] "java/util/NoSuchElementException") : gl_CH l y_L_count b_L_count 4 [(0, 9, 12, 21)] E cJ (gl_o cJ oa g :: gp_wG E I F) (gl_o cJ oa g :: gp_wG E I F) [.ref (E.2.2.2 0), .int a0, .ref oa] 1 := by
  refine gl_of (by decide) (Nat.le_of_ble_eq_true rfl) ?_
  intro xp xe xs xm below meth xc ls A hx hb hr hts hown hlocks hml htb hP hK hD hA hAe hSt hCt hl
  have hown : xs.vm.findClass "GuidePlansLaw" = some xm.cls := hown
  have hl : lv_has ls 4 [(0, .ref (E.2.2.2 0)), (1, .int a0), (2, .ref oa)] := hl
  refine lv_aload_n hx hb d_L_count_0 rfl (lv_at hl 2 rfl) ?_
  refine lv_iconst (v := 0) hx hb d_L_count_1 (by decide) ?_
  refine lv_aload_n hx hb d_L_count_2 rfl (lv_at hl 0 rfl) ?_
  refine lv_iload_n hx hb d_L_count_3 rfl (lv_at hl 1 rfl) ?_
  refine gl_thr (q0 := 0) (ci := 0) (As := [.int a0]) (rest := [.int 0, .ref oa]) ⟨hx, hb, hml, hown, hts⟩ hM (k_L_56 hts ⟨by show k + 1 ≤ 20; omega, by show 8 + (2 + 11) + 40 * k ≤ 800; omega⟩ rfl rfl) (gl_K hK) (gl_tl hP) hSt hCt (by decide) rfl rfl rfl hl.1 rfl (Nat.le_of_ble_eq_true rfl) d_L_count_4 ⟨Nat.le_of_ble_eq_true rfl, Nat.le_of_ble_eq_true rfl⟩ htb (h := 12) (by decide +kernel) (fun q H1 hz hk => ?_)
  have hP := hP.kept (H1 := H1) (fun k q h => hk _ (hP k q h).lt)
  have hS : va_S A xs.heap H1 [] := ⟨hz, fun q h1 _ => hk q h1, fun _ h => nomatch h⟩
  refine lv_astore_n (lv' := (3, .ref q) :: [(0, .ref (E.2.2.2 0)), (1, .int a0), (2, .ref oa)]) hx hb d_L_count_12 rfl hl (by decide) rfl (fun ls hl => ?_)
  refine lv_iconst (v := 1) hx hb d_L_count_13 (by decide) ?_
  exact gl_ret hx hb hr hlocks hAe hP hS d_L_count_14
