theorem gq_len {d : String} {n : Nat} {As : List Value} (h : (parseMethodDescriptor d).map (fun d => d.parameters.length) = some n) (hA : As.length = n) : ∀ sig, parseMethodDescriptor d = some sig → As.length = sig.parameters.length := by
  intro sig hs
  rw [hs] at h
  rw [hA]
  exact (Option.some.inj h).symm
set_option maxHeartbeats 4000000 in
set_option maxRecDepth 100000 in
theorem lc_person {p : Program} {l : Launch} {e : Env} {s : State} {m : MethodId} {below : List Frame} {meth : Method} {c : Code} {b L : Nat} {xs : Nat → Int32} {E : gp_E} {cJ : ClassId} {aM : Nat → Nat} {oa n : Nat} {I : Nat → Int32} {F : Nat → Nat → Int32} {J : Nat → Int32} {G : Nat → Nat → Int32} {g : Nat → Int64} {H : Heap} {locs : List Loc} {cells slots : Nat} {Q : State → Prop} {ls : Array Slot} {Rel : (Nat → Int32) → (Nat → Nat → Int32) → (Nat → Int32) → (Nat → Nat → Int32) → Prop} (C : gq_C p s m c b L xs E cJ) (hn : n + 5 ≤ L) (hw : gq_W s E cJ aM oa I F J G g H locs) (hl : lv_has ls 7 (gq_l b oa n E aM)) (hr1 : cells + 1 ≤ 665590 ∧ slots + 6 ≤ 7099334) (hp : ∃ (k b9 : Int32) (I2 : Nat → Int32) (F2 : Nat → Nat → Int32) (J2 : Nat → Int32) (G2 : Nat → Nat → Int32) (g2 : Nat → Int64) (kM : Nat), kM ≤ 30 ∧ Rel I2 F2 J2 G2 ∧ J2 0 = k ∧ (k = 0 → g2 0 = b9.toInt64) ∧ gl_CH l y_L_person b_L_person 4 [(0, 9, 12, 13), (0, 9, 15, 15)] E cJ (gl_o cJ oa g :: gp_wG E I F) (gl_o cJ oa g2 :: gp_wG E I2 F2) [.ref (E.2.2.2 0), .int (xs (n + 1)), .ref oa] k ∧ gp_CW l y_M_person b_M_person 2 (some .int) kM (gq_M E aM) (gp_wM (gq_M E aM) J G) (gp_wM (gq_M E aM) J2 G2) [.ref (aM 0), .int (xs (n + 1))] (some (.int b9))) (kk : ∀ (I2 : Nat → Int32) (F2 : Nat → Nat → Int32) (J2 : Nat → Int32) (G2 : Nat → Nat → Int32) (g2 : Nat → Int64) (H1 : Heap) (locs1 : List Loc) (ls1 : Array Slot), Rel I2 F2 J2 G2 → gq_W s E cJ aM oa I2 F2 J2 G2 g2 H1 locs1 → lv_has ls1 7 (gq_l b oa n E aM) → W p l e room_1 s m #[Value.ref b] below meth c H1 locs1 (cells + 1) (slots + 6) Q (F0 m 971 ls1 [])) : W p l e room_1 s m #[Value.ref b] below meth c H locs cells slots Q (F0 m 116 ls []) := by
  obtain ⟨hx, hb, hml, hown, hts, hX, hbl, hK, hSt, hCt, hL⟩ := C
  obtain ⟨hP, hPM, hD, hS⟩ := hw
  obtain ⟨k, b9, I2, F2, J2, G2, g2, kM, hkM, hRel, hJ0, hk0, hH, hM⟩ := hp
  refine lv_aload_n hx hb d_L_law_116 rfl (lv_at hl 1 rfl) ?_
  refine lv_aload_n hx hb d_L_law_117 rfl (lv_at hl 0 rfl) ?_
  refine lv_iload hx hb d_L_law_118 (lv_at hl 4 rfl) ?_
  refine lv_iconst (v := 1) hx hb d_L_law_120 (by decide) ?_
  refine lv_iadd hx hb d_L_law_121 ?_
  refine gq_sld hx hb hX hbl hS (n + 1) (nI_add n 1) (by omega) hL d_L_law_122 ?_
  refine lv_aload_n hx hb d_L_law_123 rfl (lv_at hl 3 rfl) ?_
  refine gl_cH (As := [.ref (E.2.2.2 0), .int (xs (n + 1)), .ref oa]) (rest := []) ⟨hx, hb, hml, hown, hts⟩ hH (hts _ w2_6) (hts _ w2_7) (hts _ w1_0) w2_8 (by decide) (gq_len (n := 3) (by decide +kernel) rfl) ⟨Nat.le_of_ble_eq_true rfl, Nat.le_of_ble_eq_true rfl⟩ hK hP (gq_d1 hD) hS (fun _ h => h) (fun _ h => Nat.not_le.mpr h) hSt hCt hl.1 rfl (Nat.le_of_ble_eq_true rfl) d_L_law_124 ⟨hr1.1, hr1.2⟩ (fun H1 locs1 hP hk1 hz1 hS => ?_)
  have hPM := gq_keep hPM (fun i j p q hi hj => (gq_ap hD j i q p hj hi).symm) hk1
  have hD : va_D (fun q => s.heap.size ≤ q) ((gl_o cJ oa g2 :: gp_wG E I2 F2) ++ gp_wM (gq_M E aM) J G) := gp_dd hD rfl
  refine lv_istore (lv' := (5, .int k) :: gq_l b oa n E aM) hx hb d_L_law_127 hl (by decide) rfl (fun ls hl => ?_)
  refine lv_aload_n hx hb d_L_law_129 rfl (lv_at hl 3 rfl) ?_
  refine lv_aload_n hx hb d_L_law_130 rfl (lv_at hl 1 rfl) ?_
  refine lv_iload hx hb d_L_law_131 (lv_at hl 5 rfl) ?_
  refine lv_iconst (v := 1) hx hb d_L_law_133 (by decide) ?_
  refine lv_iadd hx hb d_L_law_134 ?_
  refine gq_sld hx hb hX hbl hS (n + 1) (nI_add n 1) (by omega) hL d_L_law_135 ?_
  refine gl_cW (A0 := fun q => s.heap.size ≤ q) (q0 := 0) (ci := 3) (As := [.int (xs (n + 1))]) (rest := []) ⟨hx, hb, hml, hown, hts⟩ hM (k_L_68 hts ⟨by show kM + 1 ≤ 2048; omega, by show 8 + (2 + 11) + 40 * kM ≤ 84000; omega⟩ rfl rfl) (gl_K hK) hPM (gq_d2 hD) hS (fun _ h => h) rfl rfl rfl hl.1 rfl (Nat.le_of_ble_eq_true rfl) d_L_law_136 ⟨hr1.1, hr1.2⟩ (fun H2 locs2 hPM hk2 hz2 hS => ?_)
  have hP := gq_keep hP (gq_ap hD) hk2
  have hD : va_D (fun q => s.heap.size ≤ q) ((gl_o cJ oa g2 :: gp_wG E I2 F2) ++ gp_wM (gq_M E aM) J2 G2) := gp_dd hD rfl
  refine lv_istore (lv' := (6, .int b9) :: (5, .int k) :: gq_l b oa n E aM) hx hb d_L_law_139 hl (by decide) rfl (fun ls hl => ?_)
  refine lv_aload_n hx hb d_L_law_141 rfl (lv_at hl 4 rfl) ?_
  refine gp_cR (q0 := 0) (ci := 3) (As := []) (rest := []) ⟨hx, hb, hml, hown, hts⟩ (c_M_thrown l (gq_M E aM) J2 G2) (k_L_69 hts ⟨Nat.le_of_ble_eq_true rfl, Nat.le_of_ble_eq_true rfl⟩ rfl rfl) (gl_K hK) hPM rfl rfl rfl hl.1 rfl (Nat.le_of_ble_eq_true rfl) d_L_law_142 ⟨hr1.1, hr1.2⟩ ?_
  refine lv_iload hx hb d_L_law_145 (lv_at hl 1 rfl) ?_
  refine lv_icmp_eq (tgt := 152) hx hb d_L_law_147 (by decide) (fun _ => ?_) (fun h => absurd hJ0 h)
  refine lv_iload hx hb d_L_law_152 (lv_at hl 1 rfl) ?_
  have hend : W p l e room_1 s m #[Value.ref b] below meth c H2 locs2 (cells + 1) (slots + 6) Q (F0 m 169 ls []) := lv_goto (tgt := 971) hx hb d_L_law_169 (by decide) (kk I2 F2 J2 G2 g2 H2 locs2 ls hRel ⟨hP, hPM, hD, hS⟩ (lv_sub hl [2, 3, 4, 5, 6] rfl))
  refine lv_if_ne (tgt := 169) hx hb d_L_law_154 (by decide) (fun _ => hend) (fun hk => ?_)
  refine lv_aload_n hx hb d_L_law_157 rfl (lv_at hl 5 rfl) ?_
  refine lv_iconst (v := 0) hx hb d_L_law_158 (by decide) ?_
  refine va_lald (D := E.1) (cl := gp_cl) hx hb hK hP 0 2 rfl rfl gl_in1 d_L_law_159 ?_
  refine lv_iload hx hb d_L_law_160 (lv_at hl 0 rfl) ?_
  refine lv_i2l hx hb d_L_law_162 rfl ?_
  refine W.lcmp hx hb d_L_law_163 ?_
  refine lv_if_eq (tgt := 169) hx hb d_L_law_164 (by decide) (fun _ => hend) (fun h => absurd (show lg_cmp (g2 0) b9.toInt64 = 0 by rw [hk0 hk]; exact lg_cmp0 _) h)
set_option maxHeartbeats 4000000 in
set_option maxRecDepth 100000 in
theorem lc_off {p : Program} {l : Launch} {e : Env} {s : State} {m : MethodId} {below : List Frame} {meth : Method} {c : Code} {b L : Nat} {xs : Nat → Int32} {E : gp_E} {cJ : ClassId} {aM : Nat → Nat} {oa n : Nat} {I : Nat → Int32} {F : Nat → Nat → Int32} {J : Nat → Int32} {G : Nat → Nat → Int32} {g : Nat → Int64} {H : Heap} {locs : List Loc} {cells slots : Nat} {Q : State → Prop} {ls : Array Slot} {Rel : (Nat → Int32) → (Nat → Nat → Int32) → (Nat → Int32) → (Nat → Nat → Int32) → Prop} (C : gq_C p s m c b L xs E cJ) (hn : n + 5 ≤ L) (hw : gq_W s E cJ aM oa I F J G g H locs) (hl : lv_has ls 7 (gq_l b oa n E aM)) (hr1 : cells + 1 ≤ 665590 ∧ slots + 6 ≤ 7099334) (hp : ∃ (k b9 : Int32) (I2 : Nat → Int32) (F2 : Nat → Nat → Int32) (J2 : Nat → Int32) (G2 : Nat → Nat → Int32) (g2 : Nat → Int64) (kM : Nat), kM ≤ 30 ∧ Rel I2 F2 J2 G2 ∧ J2 0 = k ∧ (k = 0 → g2 0 = b9.toInt64) ∧ gl_CH l y_L_off b_L_off 6 [(0, 12, 15, 21), (0, 12, 19, 13), (0, 12, 23, 15)] E cJ (gl_o cJ oa g :: gp_wG E I F) (gl_o cJ oa g2 :: gp_wG E I2 F2) [.ref (E.2.2.2 0), .int (xs (n + 1)), .int (xs (n + 2)), .int (xs (n + 3)), .ref oa] k ∧ gp_CW l y_M_off b_M_off 4 (some .int) kM (gq_M E aM) (gp_wM (gq_M E aM) J G) (gp_wM (gq_M E aM) J2 G2) [.ref (aM 0), .int (xs (n + 1)), .int (xs (n + 2)), .int (xs (n + 3))] (some (.int b9))) (kk : ∀ (I2 : Nat → Int32) (F2 : Nat → Nat → Int32) (J2 : Nat → Int32) (G2 : Nat → Nat → Int32) (g2 : Nat → Int64) (H1 : Heap) (locs1 : List Loc) (ls1 : Array Slot), Rel I2 F2 J2 G2 → gq_W s E cJ aM oa I2 F2 J2 G2 g2 H1 locs1 → lv_has ls1 7 (gq_l b oa n E aM) → W p l e room_1 s m #[Value.ref b] below meth c H1 locs1 (cells + 1) (slots + 6) Q (F0 m 971 ls1 [])) : W p l e room_1 s m #[Value.ref b] below meth c H locs cells slots Q (F0 m 172 ls []) := by
  obtain ⟨hx, hb, hml, hown, hts, hX, hbl, hK, hSt, hCt, hL⟩ := C
  obtain ⟨hP, hPM, hD, hS⟩ := hw
  obtain ⟨k, b9, I2, F2, J2, G2, g2, kM, hkM, hRel, hJ0, hk0, hH, hM⟩ := hp
  refine lv_aload_n hx hb d_L_law_172 rfl (lv_at hl 1 rfl) ?_
  refine lv_aload_n hx hb d_L_law_173 rfl (lv_at hl 0 rfl) ?_
  refine lv_iload hx hb d_L_law_174 (lv_at hl 4 rfl) ?_
  refine lv_iconst (v := 1) hx hb d_L_law_176 (by decide) ?_
  refine lv_iadd hx hb d_L_law_177 ?_
  refine gq_sld hx hb hX hbl hS (n + 1) (nI_add n 1) (by omega) hL d_L_law_178 ?_
  refine lv_aload_n hx hb d_L_law_179 rfl (lv_at hl 0 rfl) ?_
  refine lv_iload hx hb d_L_law_180 (lv_at hl 4 rfl) ?_
  refine lv_iconst (v := 2) hx hb d_L_law_182 (by decide) ?_
  refine lv_iadd hx hb d_L_law_183 ?_
  refine gq_sld hx hb hX hbl hS (n + 2) (nI_add n 2) (by omega) hL d_L_law_184 ?_
  refine lv_aload_n hx hb d_L_law_185 rfl (lv_at hl 0 rfl) ?_
  refine lv_iload hx hb d_L_law_186 (lv_at hl 4 rfl) ?_
  refine lv_iconst (v := 3) hx hb d_L_law_188 (by decide) ?_
  refine lv_iadd hx hb d_L_law_189 ?_
  refine gq_sld hx hb hX hbl hS (n + 3) (nI_add n 3) (by omega) hL d_L_law_190 ?_
  refine lv_aload_n hx hb d_L_law_191 rfl (lv_at hl 3 rfl) ?_
  refine gl_cH (As := [.ref (E.2.2.2 0), .int (xs (n + 1)), .int (xs (n + 2)), .int (xs (n + 3)), .ref oa]) (rest := []) ⟨hx, hb, hml, hown, hts⟩ hH (hts _ w2_103) (hts _ w2_104) (hts _ w1_0) w2_105 (by decide) (gq_len (n := 5) (by decide +kernel) rfl) ⟨Nat.le_of_ble_eq_true rfl, Nat.le_of_ble_eq_true rfl⟩ hK hP (gq_d1 hD) hS (fun _ h => h) (fun _ h => Nat.not_le.mpr h) hSt hCt hl.1 rfl (Nat.le_of_ble_eq_true rfl) d_L_law_192 ⟨hr1.1, hr1.2⟩ (fun H1 locs1 hP hk1 hz1 hS => ?_)
  have hPM := gq_keep hPM (fun i j p q hi hj => (gq_ap hD j i q p hj hi).symm) hk1
  have hD : va_D (fun q => s.heap.size ≤ q) ((gl_o cJ oa g2 :: gp_wG E I2 F2) ++ gp_wM (gq_M E aM) J G) := gp_dd hD rfl
  refine lv_istore (lv' := (5, .int k) :: gq_l b oa n E aM) hx hb d_L_law_195 hl (by decide) rfl (fun ls hl => ?_)
  refine lv_aload_n hx hb d_L_law_197 rfl (lv_at hl 3 rfl) ?_
  refine lv_aload_n hx hb d_L_law_198 rfl (lv_at hl 1 rfl) ?_
  refine lv_iload hx hb d_L_law_199 (lv_at hl 5 rfl) ?_
  refine lv_iconst (v := 1) hx hb d_L_law_201 (by decide) ?_
  refine lv_iadd hx hb d_L_law_202 ?_
  refine gq_sld hx hb hX hbl hS (n + 1) (nI_add n 1) (by omega) hL d_L_law_203 ?_
  refine lv_aload_n hx hb d_L_law_204 rfl (lv_at hl 1 rfl) ?_
  refine lv_iload hx hb d_L_law_205 (lv_at hl 5 rfl) ?_
  refine lv_iconst (v := 2) hx hb d_L_law_207 (by decide) ?_
  refine lv_iadd hx hb d_L_law_208 ?_
  refine gq_sld hx hb hX hbl hS (n + 2) (nI_add n 2) (by omega) hL d_L_law_209 ?_
  refine lv_aload_n hx hb d_L_law_210 rfl (lv_at hl 1 rfl) ?_
  refine lv_iload hx hb d_L_law_211 (lv_at hl 5 rfl) ?_
  refine lv_iconst (v := 3) hx hb d_L_law_213 (by decide) ?_
  refine lv_iadd hx hb d_L_law_214 ?_
  refine gq_sld hx hb hX hbl hS (n + 3) (nI_add n 3) (by omega) hL d_L_law_215 ?_
  refine gl_cW (A0 := fun q => s.heap.size ≤ q) (q0 := 0) (ci := 3) (As := [.int (xs (n + 1)), .int (xs (n + 2)), .int (xs (n + 3))]) (rest := []) ⟨hx, hb, hml, hown, hts⟩ hM (k_L_75 hts ⟨by show kM + 1 ≤ 2048; omega, by show 8 + (4 + 11) + 40 * kM ≤ 84000; omega⟩ rfl rfl) (gl_K hK) hPM (gq_d2 hD) hS (fun _ h => h) rfl rfl rfl hl.1 rfl (Nat.le_of_ble_eq_true rfl) d_L_law_216 ⟨hr1.1, hr1.2⟩ (fun H2 locs2 hPM hk2 hz2 hS => ?_)
  have hP := gq_keep hP (gq_ap hD) hk2
  have hD : va_D (fun q => s.heap.size ≤ q) ((gl_o cJ oa g2 :: gp_wG E I2 F2) ++ gp_wM (gq_M E aM) J2 G2) := gp_dd hD rfl
  refine lv_istore (lv' := (6, .int b9) :: (5, .int k) :: gq_l b oa n E aM) hx hb d_L_law_219 hl (by decide) rfl (fun ls hl => ?_)
  refine lv_aload_n hx hb d_L_law_221 rfl (lv_at hl 4 rfl) ?_
  refine gp_cR (q0 := 0) (ci := 3) (As := []) (rest := []) ⟨hx, hb, hml, hown, hts⟩ (c_M_thrown l (gq_M E aM) J2 G2) (k_L_69 hts ⟨Nat.le_of_ble_eq_true rfl, Nat.le_of_ble_eq_true rfl⟩ rfl rfl) (gl_K hK) hPM rfl rfl rfl hl.1 rfl (Nat.le_of_ble_eq_true rfl) d_L_law_222 ⟨hr1.1, hr1.2⟩ ?_
  refine lv_iload hx hb d_L_law_225 (lv_at hl 1 rfl) ?_
  refine lv_icmp_eq (tgt := 232) hx hb d_L_law_227 (by decide) (fun _ => ?_) (fun h => absurd hJ0 h)
  refine lv_iload hx hb d_L_law_232 (lv_at hl 1 rfl) ?_
  have hend : W p l e room_1 s m #[Value.ref b] below meth c H2 locs2 (cells + 1) (slots + 6) Q (F0 m 249 ls []) := lv_goto (tgt := 971) hx hb d_L_law_249 (by decide) (kk I2 F2 J2 G2 g2 H2 locs2 ls hRel ⟨hP, hPM, hD, hS⟩ (lv_sub hl [2, 3, 4, 5, 6] rfl))
  refine lv_if_ne (tgt := 249) hx hb d_L_law_234 (by decide) (fun _ => hend) (fun hk => ?_)
  refine lv_aload_n hx hb d_L_law_237 rfl (lv_at hl 5 rfl) ?_
  refine lv_iconst (v := 0) hx hb d_L_law_238 (by decide) ?_
  refine va_lald (D := E.1) (cl := gp_cl) hx hb hK hP 0 2 rfl rfl gl_in1 d_L_law_239 ?_
  refine lv_iload hx hb d_L_law_240 (lv_at hl 0 rfl) ?_
  refine lv_i2l hx hb d_L_law_242 rfl ?_
  refine W.lcmp hx hb d_L_law_243 ?_
  refine lv_if_eq (tgt := 249) hx hb d_L_law_244 (by decide) (fun _ => hend) (fun h => absurd (show lg_cmp (g2 0) b9.toInt64 = 0 by rw [hk0 hk]; exact lg_cmp0 _) h)
set_option maxHeartbeats 4000000 in
set_option maxRecDepth 100000 in
theorem lc_task {p : Program} {l : Launch} {e : Env} {s : State} {m : MethodId} {below : List Frame} {meth : Method} {c : Code} {b L : Nat} {xs : Nat → Int32} {E : gp_E} {cJ : ClassId} {aM : Nat → Nat} {oa n : Nat} {I : Nat → Int32} {F : Nat → Nat → Int32} {J : Nat → Int32} {G : Nat → Nat → Int32} {g : Nat → Int64} {H : Heap} {locs : List Loc} {cells slots : Nat} {Q : State → Prop} {ls : Array Slot} {Rel : (Nat → Int32) → (Nat → Nat → Int32) → (Nat → Int32) → (Nat → Nat → Int32) → Prop} (C : gq_C p s m c b L xs E cJ) (hn : n + 5 ≤ L) (hw : gq_W s E cJ aM oa I F J G g H locs) (hl : lv_has ls 7 (gq_l b oa n E aM)) (hr1 : cells + 1 ≤ 665590 ∧ slots + 6 ≤ 7099334) (hp : ∃ (k b9 : Int32) (I2 : Nat → Int32) (F2 : Nat → Nat → Int32) (J2 : Nat → Int32) (G2 : Nat → Nat → Int32) (g2 : Nat → Int64) (kM : Nat), kM ≤ 30 ∧ Rel I2 F2 J2 G2 ∧ J2 0 = k ∧ (k = 0 → g2 0 = b9.toInt64) ∧ gl_CH l y_L_task b_L_task 7 [(0, 14, 17, 21), (0, 14, 21, 13), (0, 14, 25, 15)] E cJ (gl_o cJ oa g :: gp_wG E I F) (gl_o cJ oa g2 :: gp_wG E I2 F2) [.ref (E.2.2.2 0), .int (xs (n + 1)), .int (xs (n + 2)), .int (xs (n + 3)), .int (if xs (n + 4) = 0 then 0 else 1), .ref oa] k ∧ gp_CW l y_M_task b_M_task 5 (some .int) kM (gq_M E aM) (gp_wM (gq_M E aM) J G) (gp_wM (gq_M E aM) J2 G2) [.ref (aM 0), .int (xs (n + 1)), .int (xs (n + 2)), .int (xs (n + 3)), .int (if xs (n + 4) = 0 then 0 else 1)] (some (.int b9))) (kk : ∀ (I2 : Nat → Int32) (F2 : Nat → Nat → Int32) (J2 : Nat → Int32) (G2 : Nat → Nat → Int32) (g2 : Nat → Int64) (H1 : Heap) (locs1 : List Loc) (ls1 : Array Slot), Rel I2 F2 J2 G2 → gq_W s E cJ aM oa I2 F2 J2 G2 g2 H1 locs1 → lv_has ls1 7 (gq_l b oa n E aM) → W p l e room_1 s m #[Value.ref b] below meth c H1 locs1 (cells + 1) (slots + 6) Q (F0 m 971 ls1 [])) : W p l e room_1 s m #[Value.ref b] below meth c H locs cells slots Q (F0 m 252 ls []) := by
  obtain ⟨hx, hb, hml, hown, hts, hX, hbl, hK, hSt, hCt, hL⟩ := C
  obtain ⟨hP, hPM, hD, hS⟩ := hw
  obtain ⟨k, b9, I2, F2, J2, G2, g2, kM, hkM, hRel, hJ0, hk0, hH, hM⟩ := hp
  refine lv_aload_n hx hb d_L_law_252 rfl (lv_at hl 1 rfl) ?_
  refine lv_aload_n hx hb d_L_law_253 rfl (lv_at hl 0 rfl) ?_
  refine lv_iload hx hb d_L_law_254 (lv_at hl 4 rfl) ?_
  refine lv_iconst (v := 1) hx hb d_L_law_256 (by decide) ?_
  refine lv_iadd hx hb d_L_law_257 ?_
  refine gq_sld hx hb hX hbl hS (n + 1) (nI_add n 1) (by omega) hL d_L_law_258 ?_
  refine lv_aload_n hx hb d_L_law_259 rfl (lv_at hl 0 rfl) ?_
  refine lv_iload hx hb d_L_law_260 (lv_at hl 4 rfl) ?_
  refine lv_iconst (v := 2) hx hb d_L_law_262 (by decide) ?_
  refine lv_iadd hx hb d_L_law_263 ?_
  refine gq_sld hx hb hX hbl hS (n + 2) (nI_add n 2) (by omega) hL d_L_law_264 ?_
  refine lv_aload_n hx hb d_L_law_265 rfl (lv_at hl 0 rfl) ?_
  refine lv_iload hx hb d_L_law_266 (lv_at hl 4 rfl) ?_
  refine lv_iconst (v := 3) hx hb d_L_law_268 (by decide) ?_
  refine lv_iadd hx hb d_L_law_269 ?_
  refine gq_sld hx hb hX hbl hS (n + 3) (nI_add n 3) (by omega) hL d_L_law_270 ?_
  refine lv_aload_n hx hb d_L_law_271 rfl (lv_at hl 0 rfl) ?_
  refine lv_iload hx hb d_L_law_272 (lv_at hl 4 rfl) ?_
  refine lv_iconst (v := 4) hx hb d_L_law_274 (by decide) ?_
  refine lv_iadd hx hb d_L_law_275 ?_
  refine gq_sld hx hb hX hbl hS (n + 4) (nI_add n 4) (by omega) hL d_L_law_276 ?_
  refine gq_ne0 (t1 := 284) (t2 := 285) hx hb d_L_law_277 (by decide) d_L_law_280 d_L_law_281 (by decide) d_L_law_284 rfl ?_
  refine lv_aload_n hx hb d_L_law_285 rfl (lv_at hl 3 rfl) ?_
  refine gl_cH (As := [.ref (E.2.2.2 0), .int (xs (n + 1)), .int (xs (n + 2)), .int (xs (n + 3)), .int (if xs (n + 4) = 0 then 0 else 1), .ref oa]) (rest := []) ⟨hx, hb, hml, hown, hts⟩ hH (hts _ w2_146) (hts _ w2_147) (hts _ w1_0) w2_148 (by decide) (gq_len (n := 6) (by decide +kernel) rfl) ⟨Nat.le_of_ble_eq_true rfl, Nat.le_of_ble_eq_true rfl⟩ hK hP (gq_d1 hD) hS (fun _ h => h) (fun _ h => Nat.not_le.mpr h) hSt hCt hl.1 rfl (Nat.le_of_ble_eq_true rfl) d_L_law_286 ⟨hr1.1, hr1.2⟩ (fun H1 locs1 hP hk1 hz1 hS => ?_)
  have hPM := gq_keep hPM (fun i j p q hi hj => (gq_ap hD j i q p hj hi).symm) hk1
  have hD : va_D (fun q => s.heap.size ≤ q) ((gl_o cJ oa g2 :: gp_wG E I2 F2) ++ gp_wM (gq_M E aM) J G) := gp_dd hD rfl
  refine lv_istore (lv' := (5, .int k) :: gq_l b oa n E aM) hx hb d_L_law_289 hl (by decide) rfl (fun ls hl => ?_)
  refine lv_aload_n hx hb d_L_law_291 rfl (lv_at hl 3 rfl) ?_
  refine lv_aload_n hx hb d_L_law_292 rfl (lv_at hl 1 rfl) ?_
  refine lv_iload hx hb d_L_law_293 (lv_at hl 5 rfl) ?_
  refine lv_iconst (v := 1) hx hb d_L_law_295 (by decide) ?_
  refine lv_iadd hx hb d_L_law_296 ?_
  refine gq_sld hx hb hX hbl hS (n + 1) (nI_add n 1) (by omega) hL d_L_law_297 ?_
  refine lv_aload_n hx hb d_L_law_298 rfl (lv_at hl 1 rfl) ?_
  refine lv_iload hx hb d_L_law_299 (lv_at hl 5 rfl) ?_
  refine lv_iconst (v := 2) hx hb d_L_law_301 (by decide) ?_
  refine lv_iadd hx hb d_L_law_302 ?_
  refine gq_sld hx hb hX hbl hS (n + 2) (nI_add n 2) (by omega) hL d_L_law_303 ?_
  refine lv_aload_n hx hb d_L_law_304 rfl (lv_at hl 1 rfl) ?_
  refine lv_iload hx hb d_L_law_305 (lv_at hl 5 rfl) ?_
  refine lv_iconst (v := 3) hx hb d_L_law_307 (by decide) ?_
  refine lv_iadd hx hb d_L_law_308 ?_
  refine gq_sld hx hb hX hbl hS (n + 3) (nI_add n 3) (by omega) hL d_L_law_309 ?_
  refine lv_aload_n hx hb d_L_law_310 rfl (lv_at hl 1 rfl) ?_
  refine lv_iload hx hb d_L_law_311 (lv_at hl 5 rfl) ?_
  refine lv_iconst (v := 4) hx hb d_L_law_313 (by decide) ?_
  refine lv_iadd hx hb d_L_law_314 ?_
  refine gq_sld hx hb hX hbl hS (n + 4) (nI_add n 4) (by omega) hL d_L_law_315 ?_
  refine gq_ne0 (t1 := 323) (t2 := 324) hx hb d_L_law_316 (by decide) d_L_law_319 d_L_law_320 (by decide) d_L_law_323 rfl ?_
  refine gl_cW (A0 := fun q => s.heap.size ≤ q) (q0 := 0) (ci := 3) (As := [.int (xs (n + 1)), .int (xs (n + 2)), .int (xs (n + 3)), .int (if xs (n + 4) = 0 then 0 else 1)]) (rest := []) ⟨hx, hb, hml, hown, hts⟩ hM (k_L_79 hts ⟨by show kM + 1 ≤ 2048; omega, by show 8 + (5 + 11) + 40 * kM ≤ 84000; omega⟩ rfl rfl) (gl_K hK) hPM (gq_d2 hD) hS (fun _ h => h) rfl rfl rfl hl.1 rfl (Nat.le_of_ble_eq_true rfl) d_L_law_324 ⟨hr1.1, hr1.2⟩ (fun H2 locs2 hPM hk2 hz2 hS => ?_)
  have hP := gq_keep hP (gq_ap hD) hk2
  have hD : va_D (fun q => s.heap.size ≤ q) ((gl_o cJ oa g2 :: gp_wG E I2 F2) ++ gp_wM (gq_M E aM) J2 G2) := gp_dd hD rfl
  refine lv_istore (lv' := (6, .int b9) :: (5, .int k) :: gq_l b oa n E aM) hx hb d_L_law_327 hl (by decide) rfl (fun ls hl => ?_)
  refine lv_aload_n hx hb d_L_law_329 rfl (lv_at hl 4 rfl) ?_
  refine gp_cR (q0 := 0) (ci := 3) (As := []) (rest := []) ⟨hx, hb, hml, hown, hts⟩ (c_M_thrown l (gq_M E aM) J2 G2) (k_L_69 hts ⟨Nat.le_of_ble_eq_true rfl, Nat.le_of_ble_eq_true rfl⟩ rfl rfl) (gl_K hK) hPM rfl rfl rfl hl.1 rfl (Nat.le_of_ble_eq_true rfl) d_L_law_330 ⟨hr1.1, hr1.2⟩ ?_
  refine lv_iload hx hb d_L_law_333 (lv_at hl 1 rfl) ?_
  refine lv_icmp_eq (tgt := 340) hx hb d_L_law_335 (by decide) (fun _ => ?_) (fun h => absurd hJ0 h)
  refine lv_iload hx hb d_L_law_340 (lv_at hl 1 rfl) ?_
  have hend : W p l e room_1 s m #[Value.ref b] below meth c H2 locs2 (cells + 1) (slots + 6) Q (F0 m 357 ls []) := lv_goto (tgt := 971) hx hb d_L_law_357 (by decide) (kk I2 F2 J2 G2 g2 H2 locs2 ls hRel ⟨hP, hPM, hD, hS⟩ (lv_sub hl [2, 3, 4, 5, 6] rfl))
  refine lv_if_ne (tgt := 357) hx hb d_L_law_342 (by decide) (fun _ => hend) (fun hk => ?_)
  refine lv_aload_n hx hb d_L_law_345 rfl (lv_at hl 5 rfl) ?_
  refine lv_iconst (v := 0) hx hb d_L_law_346 (by decide) ?_
  refine va_lald (D := E.1) (cl := gp_cl) hx hb hK hP 0 2 rfl rfl gl_in1 d_L_law_347 ?_
  refine lv_iload hx hb d_L_law_348 (lv_at hl 0 rfl) ?_
  refine lv_i2l hx hb d_L_law_350 rfl ?_
  refine W.lcmp hx hb d_L_law_351 ?_
  refine lv_if_eq (tgt := 357) hx hb d_L_law_352 (by decide) (fun _ => hend) (fun h => absurd (show lg_cmp (g2 0) b9.toInt64 = 0 by rw [hk0 hk]; exact lg_cmp0 _) h)
set_option maxHeartbeats 4000000 in
set_option maxRecDepth 100000 in
theorem lc_rest {p : Program} {l : Launch} {e : Env} {s : State} {m : MethodId} {below : List Frame} {meth : Method} {c : Code} {b L : Nat} {xs : Nat → Int32} {E : gp_E} {cJ : ClassId} {aM : Nat → Nat} {oa n : Nat} {I : Nat → Int32} {F : Nat → Nat → Int32} {J : Nat → Int32} {G : Nat → Nat → Int32} {g : Nat → Int64} {H : Heap} {locs : List Loc} {cells slots : Nat} {Q : State → Prop} {ls : Array Slot} {Rel : (Nat → Int32) → (Nat → Nat → Int32) → (Nat → Int32) → (Nat → Nat → Int32) → Prop} (C : gq_C p s m c b L xs E cJ) (hn : n + 5 ≤ L) (hw : gq_W s E cJ aM oa I F J G g H locs) (hl : lv_has ls 7 (gq_l b oa n E aM)) (hr1 : cells + 1 ≤ 665590 ∧ slots + 6 ≤ 7099334) (hp : ∃ (k b9 : Int32) (I2 : Nat → Int32) (F2 : Nat → Nat → Int32) (J2 : Nat → Int32) (G2 : Nat → Nat → Int32) (g2 : Nat → Int64) (kM : Nat), kM ≤ 30 ∧ Rel I2 F2 J2 G2 ∧ J2 0 = k ∧ (k = 0 → g2 0 = b9.toInt64) ∧ gl_CH l y_L_rest b_L_rest 4 [(0, 9, 12, 13)] E cJ (gl_o cJ oa g :: gp_wG E I F) (gl_o cJ oa g2 :: gp_wG E I2 F2) [.ref (E.2.2.2 0), .int (xs (n + 1)), .ref oa] k ∧ gp_CW l y_M_rest b_M_rest 3 (some .int) kM (gq_M E aM) (gp_wM (gq_M E aM) J G) (gp_wM (gq_M E aM) J2 G2) [.ref (aM 0), .int (xs (n + 1))] (some (.int b9))) (kk : ∀ (I2 : Nat → Int32) (F2 : Nat → Nat → Int32) (J2 : Nat → Int32) (G2 : Nat → Nat → Int32) (g2 : Nat → Int64) (H1 : Heap) (locs1 : List Loc) (ls1 : Array Slot), Rel I2 F2 J2 G2 → gq_W s E cJ aM oa I2 F2 J2 G2 g2 H1 locs1 → lv_has ls1 7 (gq_l b oa n E aM) → W p l e room_1 s m #[Value.ref b] below meth c H1 locs1 (cells + 1) (slots + 6) Q (F0 m 971 ls1 [])) : W p l e room_1 s m #[Value.ref b] below meth c H locs cells slots Q (F0 m 360 ls []) := by
  obtain ⟨hx, hb, hml, hown, hts, hX, hbl, hK, hSt, hCt, hL⟩ := C
  obtain ⟨hP, hPM, hD, hS⟩ := hw
  obtain ⟨k, b9, I2, F2, J2, G2, g2, kM, hkM, hRel, hJ0, hk0, hH, hM⟩ := hp
  refine lv_aload_n hx hb d_L_law_360 rfl (lv_at hl 1 rfl) ?_
  refine lv_aload_n hx hb d_L_law_361 rfl (lv_at hl 0 rfl) ?_
  refine lv_iload hx hb d_L_law_362 (lv_at hl 4 rfl) ?_
  refine lv_iconst (v := 1) hx hb d_L_law_364 (by decide) ?_
  refine lv_iadd hx hb d_L_law_365 ?_
  refine gq_sld hx hb hX hbl hS (n + 1) (nI_add n 1) (by omega) hL d_L_law_366 ?_
  refine lv_aload_n hx hb d_L_law_367 rfl (lv_at hl 3 rfl) ?_
  refine gl_cH (As := [.ref (E.2.2.2 0), .int (xs (n + 1)), .ref oa]) (rest := []) ⟨hx, hb, hml, hown, hts⟩ hH (hts _ w2_159) (hts _ w2_160) (hts _ w1_0) w2_161 (by decide) (gq_len (n := 3) (by decide +kernel) rfl) ⟨Nat.le_of_ble_eq_true rfl, Nat.le_of_ble_eq_true rfl⟩ hK hP (gq_d1 hD) hS (fun _ h => h) (fun _ h => Nat.not_le.mpr h) hSt hCt hl.1 rfl (Nat.le_of_ble_eq_true rfl) d_L_law_368 ⟨hr1.1, hr1.2⟩ (fun H1 locs1 hP hk1 hz1 hS => ?_)
  have hPM := gq_keep hPM (fun i j p q hi hj => (gq_ap hD j i q p hj hi).symm) hk1
  have hD : va_D (fun q => s.heap.size ≤ q) ((gl_o cJ oa g2 :: gp_wG E I2 F2) ++ gp_wM (gq_M E aM) J G) := gp_dd hD rfl
  refine lv_istore (lv' := (5, .int k) :: gq_l b oa n E aM) hx hb d_L_law_371 hl (by decide) rfl (fun ls hl => ?_)
  refine lv_aload_n hx hb d_L_law_373 rfl (lv_at hl 3 rfl) ?_
  refine lv_aload_n hx hb d_L_law_374 rfl (lv_at hl 1 rfl) ?_
  refine lv_iload hx hb d_L_law_375 (lv_at hl 5 rfl) ?_
  refine lv_iconst (v := 1) hx hb d_L_law_377 (by decide) ?_
  refine lv_iadd hx hb d_L_law_378 ?_
  refine gq_sld hx hb hX hbl hS (n + 1) (nI_add n 1) (by omega) hL d_L_law_379 ?_
  refine gl_cW (A0 := fun q => s.heap.size ≤ q) (q0 := 0) (ci := 3) (As := [.int (xs (n + 1))]) (rest := []) ⟨hx, hb, hml, hown, hts⟩ hM (k_L_82 hts ⟨by show kM + 1 ≤ 2048; omega, by show 8 + (3 + 11) + 40 * kM ≤ 84000; omega⟩ rfl rfl) (gl_K hK) hPM (gq_d2 hD) hS (fun _ h => h) rfl rfl rfl hl.1 rfl (Nat.le_of_ble_eq_true rfl) d_L_law_380 ⟨hr1.1, hr1.2⟩ (fun H2 locs2 hPM hk2 hz2 hS => ?_)
  have hP := gq_keep hP (gq_ap hD) hk2
  have hD : va_D (fun q => s.heap.size ≤ q) ((gl_o cJ oa g2 :: gp_wG E I2 F2) ++ gp_wM (gq_M E aM) J2 G2) := gp_dd hD rfl
  refine lv_istore (lv' := (6, .int b9) :: (5, .int k) :: gq_l b oa n E aM) hx hb d_L_law_383 hl (by decide) rfl (fun ls hl => ?_)
  refine lv_aload_n hx hb d_L_law_385 rfl (lv_at hl 4 rfl) ?_
  refine gp_cR (q0 := 0) (ci := 3) (As := []) (rest := []) ⟨hx, hb, hml, hown, hts⟩ (c_M_thrown l (gq_M E aM) J2 G2) (k_L_69 hts ⟨Nat.le_of_ble_eq_true rfl, Nat.le_of_ble_eq_true rfl⟩ rfl rfl) (gl_K hK) hPM rfl rfl rfl hl.1 rfl (Nat.le_of_ble_eq_true rfl) d_L_law_386 ⟨hr1.1, hr1.2⟩ ?_
  refine lv_iload hx hb d_L_law_389 (lv_at hl 1 rfl) ?_
  refine lv_icmp_eq (tgt := 396) hx hb d_L_law_391 (by decide) (fun _ => ?_) (fun h => absurd hJ0 h)
  refine lv_iload hx hb d_L_law_396 (lv_at hl 1 rfl) ?_
  have hend : W p l e room_1 s m #[Value.ref b] below meth c H2 locs2 (cells + 1) (slots + 6) Q (F0 m 413 ls []) := lv_goto (tgt := 971) hx hb d_L_law_413 (by decide) (kk I2 F2 J2 G2 g2 H2 locs2 ls hRel ⟨hP, hPM, hD, hS⟩ (lv_sub hl [2, 3, 4, 5, 6] rfl))
  refine lv_if_ne (tgt := 413) hx hb d_L_law_398 (by decide) (fun _ => hend) (fun hk => ?_)
  refine lv_aload_n hx hb d_L_law_401 rfl (lv_at hl 5 rfl) ?_
  refine lv_iconst (v := 0) hx hb d_L_law_402 (by decide) ?_
  refine va_lald (D := E.1) (cl := gp_cl) hx hb hK hP 0 2 rfl rfl gl_in1 d_L_law_403 ?_
  refine lv_iload hx hb d_L_law_404 (lv_at hl 0 rfl) ?_
  refine lv_i2l hx hb d_L_law_406 rfl ?_
  refine W.lcmp hx hb d_L_law_407 ?_
  refine lv_if_eq (tgt := 413) hx hb d_L_law_408 (by decide) (fun _ => hend) (fun h => absurd (show lg_cmp (g2 0) b9.toInt64 = 0 by rw [hk0 hk]; exact lg_cmp0 _) h)
set_option maxHeartbeats 4000000 in
set_option maxRecDepth 100000 in
theorem lc_limit {p : Program} {l : Launch} {e : Env} {s : State} {m : MethodId} {below : List Frame} {meth : Method} {c : Code} {b L : Nat} {xs : Nat → Int32} {E : gp_E} {cJ : ClassId} {aM : Nat → Nat} {oa n : Nat} {I : Nat → Int32} {F : Nat → Nat → Int32} {J : Nat → Int32} {G : Nat → Nat → Int32} {g : Nat → Int64} {H : Heap} {locs : List Loc} {cells slots : Nat} {Q : State → Prop} {ls : Array Slot} {Rel : (Nat → Int32) → (Nat → Nat → Int32) → (Nat → Int32) → (Nat → Nat → Int32) → Prop} (C : gq_C p s m c b L xs E cJ) (hn : n + 5 ≤ L) (hw : gq_W s E cJ aM oa I F J G g H locs) (hl : lv_has ls 7 (gq_l b oa n E aM)) (hr1 : cells + 1 ≤ 665590 ∧ slots + 6 ≤ 7099334) (hp : ∃ (k b9 : Int32) (I2 : Nat → Int32) (F2 : Nat → Nat → Int32) (J2 : Nat → Int32) (G2 : Nat → Nat → Int32) (g2 : Nat → Int64) (kM : Nat), kM ≤ 30 ∧ Rel I2 F2 J2 G2 ∧ J2 0 = k ∧ (k = 0 → g2 0 = b9.toInt64) ∧ gl_CH l y_L_limit b_L_limit 4 [(0, 9, 12, 13)] E cJ (gl_o cJ oa g :: gp_wG E I F) (gl_o cJ oa g2 :: gp_wG E I2 F2) [.ref (E.2.2.2 0), .int (xs (n + 1)), .ref oa] k ∧ gp_CW l y_M_limit b_M_limit 3 (some .int) kM (gq_M E aM) (gp_wM (gq_M E aM) J G) (gp_wM (gq_M E aM) J2 G2) [.ref (aM 0), .int (xs (n + 1))] (some (.int b9))) (kk : ∀ (I2 : Nat → Int32) (F2 : Nat → Nat → Int32) (J2 : Nat → Int32) (G2 : Nat → Nat → Int32) (g2 : Nat → Int64) (H1 : Heap) (locs1 : List Loc) (ls1 : Array Slot), Rel I2 F2 J2 G2 → gq_W s E cJ aM oa I2 F2 J2 G2 g2 H1 locs1 → lv_has ls1 7 (gq_l b oa n E aM) → W p l e room_1 s m #[Value.ref b] below meth c H1 locs1 (cells + 1) (slots + 6) Q (F0 m 971 ls1 [])) : W p l e room_1 s m #[Value.ref b] below meth c H locs cells slots Q (F0 m 416 ls []) := by
  obtain ⟨hx, hb, hml, hown, hts, hX, hbl, hK, hSt, hCt, hL⟩ := C
  obtain ⟨hP, hPM, hD, hS⟩ := hw
  obtain ⟨k, b9, I2, F2, J2, G2, g2, kM, hkM, hRel, hJ0, hk0, hH, hM⟩ := hp
  refine lv_aload_n hx hb d_L_law_416 rfl (lv_at hl 1 rfl) ?_
  refine lv_aload_n hx hb d_L_law_417 rfl (lv_at hl 0 rfl) ?_
  refine lv_iload hx hb d_L_law_418 (lv_at hl 4 rfl) ?_
  refine lv_iconst (v := 1) hx hb d_L_law_420 (by decide) ?_
  refine lv_iadd hx hb d_L_law_421 ?_
  refine gq_sld hx hb hX hbl hS (n + 1) (nI_add n 1) (by omega) hL d_L_law_422 ?_
  refine lv_aload_n hx hb d_L_law_423 rfl (lv_at hl 3 rfl) ?_
  refine gl_cH (As := [.ref (E.2.2.2 0), .int (xs (n + 1)), .ref oa]) (rest := []) ⟨hx, hb, hml, hown, hts⟩ hH (hts _ w2_171) (hts _ w2_172) (hts _ w1_0) w2_173 (by decide) (gq_len (n := 3) (by decide +kernel) rfl) ⟨Nat.le_of_ble_eq_true rfl, Nat.le_of_ble_eq_true rfl⟩ hK hP (gq_d1 hD) hS (fun _ h => h) (fun _ h => Nat.not_le.mpr h) hSt hCt hl.1 rfl (Nat.le_of_ble_eq_true rfl) d_L_law_424 ⟨hr1.1, hr1.2⟩ (fun H1 locs1 hP hk1 hz1 hS => ?_)
  have hPM := gq_keep hPM (fun i j p q hi hj => (gq_ap hD j i q p hj hi).symm) hk1
  have hD : va_D (fun q => s.heap.size ≤ q) ((gl_o cJ oa g2 :: gp_wG E I2 F2) ++ gp_wM (gq_M E aM) J G) := gp_dd hD rfl
  refine lv_istore (lv' := (5, .int k) :: gq_l b oa n E aM) hx hb d_L_law_427 hl (by decide) rfl (fun ls hl => ?_)
  refine lv_aload_n hx hb d_L_law_429 rfl (lv_at hl 3 rfl) ?_
  refine lv_aload_n hx hb d_L_law_430 rfl (lv_at hl 1 rfl) ?_
  refine lv_iload hx hb d_L_law_431 (lv_at hl 5 rfl) ?_
  refine lv_iconst (v := 1) hx hb d_L_law_433 (by decide) ?_
  refine lv_iadd hx hb d_L_law_434 ?_
  refine gq_sld hx hb hX hbl hS (n + 1) (nI_add n 1) (by omega) hL d_L_law_435 ?_
  refine gl_cW (A0 := fun q => s.heap.size ≤ q) (q0 := 0) (ci := 3) (As := [.int (xs (n + 1))]) (rest := []) ⟨hx, hb, hml, hown, hts⟩ hM (k_L_85 hts ⟨by show kM + 1 ≤ 2048; omega, by show 8 + (3 + 11) + 40 * kM ≤ 84000; omega⟩ rfl rfl) (gl_K hK) hPM (gq_d2 hD) hS (fun _ h => h) rfl rfl rfl hl.1 rfl (Nat.le_of_ble_eq_true rfl) d_L_law_436 ⟨hr1.1, hr1.2⟩ (fun H2 locs2 hPM hk2 hz2 hS => ?_)
  have hP := gq_keep hP (gq_ap hD) hk2
  have hD : va_D (fun q => s.heap.size ≤ q) ((gl_o cJ oa g2 :: gp_wG E I2 F2) ++ gp_wM (gq_M E aM) J2 G2) := gp_dd hD rfl
  refine lv_istore (lv' := (6, .int b9) :: (5, .int k) :: gq_l b oa n E aM) hx hb d_L_law_439 hl (by decide) rfl (fun ls hl => ?_)
  refine lv_aload_n hx hb d_L_law_441 rfl (lv_at hl 4 rfl) ?_
  refine gp_cR (q0 := 0) (ci := 3) (As := []) (rest := []) ⟨hx, hb, hml, hown, hts⟩ (c_M_thrown l (gq_M E aM) J2 G2) (k_L_69 hts ⟨Nat.le_of_ble_eq_true rfl, Nat.le_of_ble_eq_true rfl⟩ rfl rfl) (gl_K hK) hPM rfl rfl rfl hl.1 rfl (Nat.le_of_ble_eq_true rfl) d_L_law_442 ⟨hr1.1, hr1.2⟩ ?_
  refine lv_iload hx hb d_L_law_445 (lv_at hl 1 rfl) ?_
  refine lv_icmp_eq (tgt := 452) hx hb d_L_law_447 (by decide) (fun _ => ?_) (fun h => absurd hJ0 h)
  refine lv_iload hx hb d_L_law_452 (lv_at hl 1 rfl) ?_
  have hend : W p l e room_1 s m #[Value.ref b] below meth c H2 locs2 (cells + 1) (slots + 6) Q (F0 m 469 ls []) := lv_goto (tgt := 971) hx hb d_L_law_469 (by decide) (kk I2 F2 J2 G2 g2 H2 locs2 ls hRel ⟨hP, hPM, hD, hS⟩ (lv_sub hl [2, 3, 4, 5, 6] rfl))
  refine lv_if_ne (tgt := 469) hx hb d_L_law_454 (by decide) (fun _ => hend) (fun hk => ?_)
  refine lv_aload_n hx hb d_L_law_457 rfl (lv_at hl 5 rfl) ?_
  refine lv_iconst (v := 0) hx hb d_L_law_458 (by decide) ?_
  refine va_lald (D := E.1) (cl := gp_cl) hx hb hK hP 0 2 rfl rfl gl_in1 d_L_law_459 ?_
  refine lv_iload hx hb d_L_law_460 (lv_at hl 0 rfl) ?_
  refine lv_i2l hx hb d_L_law_462 rfl ?_
  refine W.lcmp hx hb d_L_law_463 ?_
  refine lv_if_eq (tgt := 469) hx hb d_L_law_464 (by decide) (fun _ => hend) (fun h => absurd (show lg_cmp (g2 0) b9.toInt64 = 0 by rw [hk0 hk]; exact lg_cmp0 _) h)
set_option maxHeartbeats 4000000 in
set_option maxRecDepth 100000 in
theorem lc_freeze {p : Program} {l : Launch} {e : Env} {s : State} {m : MethodId} {below : List Frame} {meth : Method} {c : Code} {b L : Nat} {xs : Nat → Int32} {E : gp_E} {cJ : ClassId} {aM : Nat → Nat} {oa n : Nat} {I : Nat → Int32} {F : Nat → Nat → Int32} {J : Nat → Int32} {G : Nat → Nat → Int32} {g : Nat → Int64} {H : Heap} {locs : List Loc} {cells slots : Nat} {Q : State → Prop} {ls : Array Slot} {Rel : (Nat → Int32) → (Nat → Nat → Int32) → (Nat → Int32) → (Nat → Nat → Int32) → Prop} (C : gq_C p s m c b L xs E cJ) (hn : n + 5 ≤ L) (hw : gq_W s E cJ aM oa I F J G g H locs) (hl : lv_has ls 7 (gq_l b oa n E aM)) (hr1 : cells + 1 ≤ 665590 ∧ slots + 6 ≤ 7099334) (hp : ∃ (k b9 : Int32) (I2 : Nat → Int32) (F2 : Nat → Nat → Int32) (J2 : Nat → Int32) (G2 : Nat → Nat → Int32) (g2 : Nat → Int64) (kM : Nat), kM ≤ 30 ∧ Rel I2 F2 J2 G2 ∧ J2 0 = k ∧ (k = 0 → g2 0 = b9.toInt64) ∧ gl_CH l y_L_freeze b_L_freeze 4 [(0, 9, 12, 13)] E cJ (gl_o cJ oa g :: gp_wG E I F) (gl_o cJ oa g2 :: gp_wG E I2 F2) [.ref (E.2.2.2 0), .int (xs (n + 1)), .ref oa] k ∧ gp_CW l y_M_freeze b_M_freeze 3 (some .int) kM (gq_M E aM) (gp_wM (gq_M E aM) J G) (gp_wM (gq_M E aM) J2 G2) [.ref (aM 0), .int (xs (n + 1))] (some (.int b9))) (kk : ∀ (I2 : Nat → Int32) (F2 : Nat → Nat → Int32) (J2 : Nat → Int32) (G2 : Nat → Nat → Int32) (g2 : Nat → Int64) (H1 : Heap) (locs1 : List Loc) (ls1 : Array Slot), Rel I2 F2 J2 G2 → gq_W s E cJ aM oa I2 F2 J2 G2 g2 H1 locs1 → lv_has ls1 7 (gq_l b oa n E aM) → W p l e room_1 s m #[Value.ref b] below meth c H1 locs1 (cells + 1) (slots + 6) Q (F0 m 971 ls1 [])) : W p l e room_1 s m #[Value.ref b] below meth c H locs cells slots Q (F0 m 472 ls []) := by
  obtain ⟨hx, hb, hml, hown, hts, hX, hbl, hK, hSt, hCt, hL⟩ := C
  obtain ⟨hP, hPM, hD, hS⟩ := hw
  obtain ⟨k, b9, I2, F2, J2, G2, g2, kM, hkM, hRel, hJ0, hk0, hH, hM⟩ := hp
  refine lv_aload_n hx hb d_L_law_472 rfl (lv_at hl 1 rfl) ?_
  refine lv_aload_n hx hb d_L_law_473 rfl (lv_at hl 0 rfl) ?_
  refine lv_iload hx hb d_L_law_474 (lv_at hl 4 rfl) ?_
  refine lv_iconst (v := 1) hx hb d_L_law_476 (by decide) ?_
  refine lv_iadd hx hb d_L_law_477 ?_
  refine gq_sld hx hb hX hbl hS (n + 1) (nI_add n 1) (by omega) hL d_L_law_478 ?_
  refine lv_aload_n hx hb d_L_law_479 rfl (lv_at hl 3 rfl) ?_
  refine gl_cH (As := [.ref (E.2.2.2 0), .int (xs (n + 1)), .ref oa]) (rest := []) ⟨hx, hb, hml, hown, hts⟩ hH (hts _ w2_178) (hts _ w2_179) (hts _ w1_0) w2_180 (by decide) (gq_len (n := 3) (by decide +kernel) rfl) ⟨Nat.le_of_ble_eq_true rfl, Nat.le_of_ble_eq_true rfl⟩ hK hP (gq_d1 hD) hS (fun _ h => h) (fun _ h => Nat.not_le.mpr h) hSt hCt hl.1 rfl (Nat.le_of_ble_eq_true rfl) d_L_law_480 ⟨hr1.1, hr1.2⟩ (fun H1 locs1 hP hk1 hz1 hS => ?_)
  have hPM := gq_keep hPM (fun i j p q hi hj => (gq_ap hD j i q p hj hi).symm) hk1
  have hD : va_D (fun q => s.heap.size ≤ q) ((gl_o cJ oa g2 :: gp_wG E I2 F2) ++ gp_wM (gq_M E aM) J G) := gp_dd hD rfl
  refine lv_istore (lv' := (5, .int k) :: gq_l b oa n E aM) hx hb d_L_law_483 hl (by decide) rfl (fun ls hl => ?_)
  refine lv_aload_n hx hb d_L_law_485 rfl (lv_at hl 3 rfl) ?_
  refine lv_aload_n hx hb d_L_law_486 rfl (lv_at hl 1 rfl) ?_
  refine lv_iload hx hb d_L_law_487 (lv_at hl 5 rfl) ?_
  refine lv_iconst (v := 1) hx hb d_L_law_489 (by decide) ?_
  refine lv_iadd hx hb d_L_law_490 ?_
  refine gq_sld hx hb hX hbl hS (n + 1) (nI_add n 1) (by omega) hL d_L_law_491 ?_
  refine gl_cW (A0 := fun q => s.heap.size ≤ q) (q0 := 0) (ci := 3) (As := [.int (xs (n + 1))]) (rest := []) ⟨hx, hb, hml, hown, hts⟩ hM (k_L_88 hts ⟨by show kM + 1 ≤ 2048; omega, by show 8 + (3 + 11) + 40 * kM ≤ 84000; omega⟩ rfl rfl) (gl_K hK) hPM (gq_d2 hD) hS (fun _ h => h) rfl rfl rfl hl.1 rfl (Nat.le_of_ble_eq_true rfl) d_L_law_492 ⟨hr1.1, hr1.2⟩ (fun H2 locs2 hPM hk2 hz2 hS => ?_)
  have hP := gq_keep hP (gq_ap hD) hk2
  have hD : va_D (fun q => s.heap.size ≤ q) ((gl_o cJ oa g2 :: gp_wG E I2 F2) ++ gp_wM (gq_M E aM) J2 G2) := gp_dd hD rfl
  refine lv_istore (lv' := (6, .int b9) :: (5, .int k) :: gq_l b oa n E aM) hx hb d_L_law_495 hl (by decide) rfl (fun ls hl => ?_)
  refine lv_aload_n hx hb d_L_law_497 rfl (lv_at hl 4 rfl) ?_
  refine gp_cR (q0 := 0) (ci := 3) (As := []) (rest := []) ⟨hx, hb, hml, hown, hts⟩ (c_M_thrown l (gq_M E aM) J2 G2) (k_L_69 hts ⟨Nat.le_of_ble_eq_true rfl, Nat.le_of_ble_eq_true rfl⟩ rfl rfl) (gl_K hK) hPM rfl rfl rfl hl.1 rfl (Nat.le_of_ble_eq_true rfl) d_L_law_498 ⟨hr1.1, hr1.2⟩ ?_
  refine lv_iload hx hb d_L_law_501 (lv_at hl 1 rfl) ?_
  refine lv_icmp_eq (tgt := 508) hx hb d_L_law_503 (by decide) (fun _ => ?_) (fun h => absurd hJ0 h)
  refine lv_iload hx hb d_L_law_508 (lv_at hl 1 rfl) ?_
  have hend : W p l e room_1 s m #[Value.ref b] below meth c H2 locs2 (cells + 1) (slots + 6) Q (F0 m 525 ls []) := lv_goto (tgt := 971) hx hb d_L_law_525 (by decide) (kk I2 F2 J2 G2 g2 H2 locs2 ls hRel ⟨hP, hPM, hD, hS⟩ (lv_sub hl [2, 3, 4, 5, 6] rfl))
  refine lv_if_ne (tgt := 525) hx hb d_L_law_510 (by decide) (fun _ => hend) (fun hk => ?_)
  refine lv_aload_n hx hb d_L_law_513 rfl (lv_at hl 5 rfl) ?_
  refine lv_iconst (v := 0) hx hb d_L_law_514 (by decide) ?_
  refine va_lald (D := E.1) (cl := gp_cl) hx hb hK hP 0 2 rfl rfl gl_in1 d_L_law_515 ?_
  refine lv_iload hx hb d_L_law_516 (lv_at hl 0 rfl) ?_
  refine lv_i2l hx hb d_L_law_518 rfl ?_
  refine W.lcmp hx hb d_L_law_519 ?_
  refine lv_if_eq (tgt := 525) hx hb d_L_law_520 (by decide) (fun _ => hend) (fun h => absurd (show lg_cmp (g2 0) b9.toInt64 = 0 by rw [hk0 hk]; exact lg_cmp0 _) h)
set_option maxHeartbeats 4000000 in
set_option maxRecDepth 100000 in
theorem lc_run {p : Program} {l : Launch} {e : Env} {s : State} {m : MethodId} {below : List Frame} {meth : Method} {c : Code} {b L : Nat} {xs : Nat → Int32} {E : gp_E} {cJ : ClassId} {aM : Nat → Nat} {oa n : Nat} {I : Nat → Int32} {F : Nat → Nat → Int32} {J : Nat → Int32} {G : Nat → Nat → Int32} {g : Nat → Int64} {H : Heap} {locs : List Loc} {cells slots : Nat} {Q : State → Prop} {ls : Array Slot} {Rel : (Nat → Int32) → (Nat → Nat → Int32) → (Nat → Int32) → (Nat → Nat → Int32) → Prop} (C : gq_C p s m c b L xs E cJ) (hw : gq_W s E cJ aM oa I F J G g H locs) (hl : lv_has ls 7 (gq_l b oa n E aM)) (hr1 : cells + 1 ≤ 665590 ∧ slots + 6 ≤ 7099334) (hp : ∃ (r : Int32) (I2 : Nat → Int32) (F2 : Nat → Nat → Int32) (J2 : Nat → Int32) (G2 : Nat → Nat → Int32) (kG kM : Nat), kG ≤ 30 ∧ kM ≤ 30 ∧ Rel I2 F2 J2 G2 ∧ gp_CW l y_G_run b_G_run 1 (some .int) kG E (gp_wG E I F) (gp_wG E I2 F2) [.ref (E.2.2.2 0)] (some (.int r)) ∧ gp_CW l y_M_run b_M_run 2 (some .int) kM (gq_M E aM) (gp_wM (gq_M E aM) J G) (gp_wM (gq_M E aM) J2 G2) [.ref (aM 0)] (some (.int r))) (kk : ∀ (I2 : Nat → Int32) (F2 : Nat → Nat → Int32) (J2 : Nat → Int32) (G2 : Nat → Nat → Int32) (g2 : Nat → Int64) (H1 : Heap) (locs1 : List Loc) (ls1 : Array Slot), Rel I2 F2 J2 G2 → gq_W s E cJ aM oa I2 F2 J2 G2 g2 H1 locs1 → lv_has ls1 7 (gq_l b oa n E aM) → W p l e room_1 s m #[Value.ref b] below meth c H1 locs1 (cells + 1) (slots + 6) Q (F0 m 971 ls1 [])) : W p l e room_1 s m #[Value.ref b] below meth c H locs cells slots Q (F0 m 528 ls []) := by
  obtain ⟨hx, hb, hml, hown, hts, hX, hbl, hK, hSt, hCt, hL⟩ := C
  obtain ⟨hP, hPM, hD, hS⟩ := hw
  obtain ⟨r, I2, F2, J2, G2, kG, kM, hkG, hkM, hRel, hG, hM⟩ := hp
  refine lv_aload_n hx hb d_L_law_528 rfl (lv_at hl 1 rfl) ?_
  refine gl_cW (A0 := fun q => s.heap.size ≤ q) (q0 := 0) (ci := 0) (As := []) (rest := []) ⟨hx, hb, hml, hown, hts⟩ hG (k_L_89 hts ⟨by show kG + 1 ≤ 2048; omega, by show 8 + (1 + 11) + 40 * kG ≤ 84000; omega⟩ rfl rfl) (gl_K hK) (gl_tl hP) (gl_td (gq_d1 hD)) hS (fun _ h => h) rfl rfl rfl hl.1 rfl (Nat.le_of_ble_eq_true rfl) d_L_law_529 ⟨by show cells + 0 ≤ 665590; omega, by show slots + 0 ≤ 7099334; omega⟩ (fun H1 locs1 hP1 hk1 hz1 hS => ?_)
  have hPM := gq_keep hPM (fun i j p q hi hj => (gq_ap hD (j + 1) i q p hj hi).symm) hk1
  have hP := gl_join hP (gq_d1 hD) hk1 hP1
  have hD : va_D (fun q => s.heap.size ≤ q) ((gl_o cJ oa g :: gp_wG E I2 F2) ++ gp_wM (gq_M E aM) J G) := gp_dd hD rfl
  refine lv_aload_n hx hb d_L_law_532 rfl (lv_at hl 2 rfl) ?_
  refine gl_cW (A0 := fun q => s.heap.size ≤ q) (q0 := 0) (ci := 3) (As := []) (rest := [.int r]) ⟨hx, hb, hml, hown, hts⟩ hM (k_L_92 hts ⟨by show kM + 1 ≤ 2048; omega, by show 8 + (2 + 11) + 40 * kM ≤ 84000; omega⟩ rfl rfl) (gl_K hK) hPM (gq_d2 hD) hS (fun _ h => h) rfl rfl rfl hl.1 rfl (Nat.le_of_ble_eq_true rfl) d_L_law_533 ⟨by show cells + 0 ≤ 665590; omega, by show slots + 0 ≤ 7099334; omega⟩ (fun H2 locs2 hPM hk2 hz2 hS => ?_)
  have hP := gq_keep hP (gq_ap hD) hk2
  have hD : va_D (fun q => s.heap.size ≤ q) ((gl_o cJ oa g :: gp_wG E I2 F2) ++ gp_wM (gq_M E aM) J2 G2) := gp_dd hD rfl
  refine lv_icmp_eq (tgt := 971) hx hb d_L_law_536 (by decide) (fun _ => ?_) (fun h => absurd rfl h)
  exact W.widen (k := cells + 1) (n := slots + 6) (by omega) (by omega) (kk I2 F2 J2 G2 g H2 locs2 ls hRel ⟨hP, hPM, hD, hS⟩ hl)
set_option maxHeartbeats 4000000 in
set_option maxRecDepth 100000 in
theorem lc_told {p : Program} {l : Launch} {e : Env} {s : State} {m : MethodId} {below : List Frame} {meth : Method} {c : Code} {b L : Nat} {xs : Nat → Int32} {E : gp_E} {cJ : ClassId} {aM : Nat → Nat} {oa n : Nat} {I : Nat → Int32} {F : Nat → Nat → Int32} {J : Nat → Int32} {G : Nat → Nat → Int32} {g : Nat → Int64} {H : Heap} {locs : List Loc} {cells slots : Nat} {Q : State → Prop} {ls : Array Slot} {Rel : (Nat → Int32) → (Nat → Nat → Int32) → (Nat → Int32) → (Nat → Nat → Int32) → Prop} (C : gq_C p s m c b L xs E cJ) (hw : gq_W s E cJ aM oa I F J G g H locs) (hl : lv_has ls 7 (gq_l b oa n E aM)) (hr1 : cells + 1 ≤ 665590 ∧ slots + 6 ≤ 7099334) (hp : ∃ (r : Int32) (I2 : Nat → Int32) (F2 : Nat → Nat → Int32) (J2 : Nat → Int32) (G2 : Nat → Nat → Int32) (kG kM : Nat), kG ≤ 30 ∧ kM ≤ 30 ∧ Rel I2 F2 J2 G2 ∧ gp_CW l y_G_told b_G_told 1 (some .int) kG E (gp_wG E I F) (gp_wG E I2 F2) [.ref (E.2.2.2 0)] (some (.int r)) ∧ gp_CW l y_M_told b_M_told 1 (some .int) kM (gq_M E aM) (gp_wM (gq_M E aM) J G) (gp_wM (gq_M E aM) J2 G2) [.ref (aM 0)] (some (.int r))) (kk : ∀ (I2 : Nat → Int32) (F2 : Nat → Nat → Int32) (J2 : Nat → Int32) (G2 : Nat → Nat → Int32) (g2 : Nat → Int64) (H1 : Heap) (locs1 : List Loc) (ls1 : Array Slot), Rel I2 F2 J2 G2 → gq_W s E cJ aM oa I2 F2 J2 G2 g2 H1 locs1 → lv_has ls1 7 (gq_l b oa n E aM) → W p l e room_1 s m #[Value.ref b] below meth c H1 locs1 (cells + 1) (slots + 6) Q (F0 m 971 ls1 [])) : W p l e room_1 s m #[Value.ref b] below meth c H locs cells slots Q (F0 m 541 ls []) := by
  obtain ⟨hx, hb, hml, hown, hts, hX, hbl, hK, hSt, hCt, hL⟩ := C
  obtain ⟨hP, hPM, hD, hS⟩ := hw
  obtain ⟨r, I2, F2, J2, G2, kG, kM, hkG, hkM, hRel, hG, hM⟩ := hp
  refine lv_aload_n hx hb d_L_law_541 rfl (lv_at hl 1 rfl) ?_
  refine gl_cW (A0 := fun q => s.heap.size ≤ q) (q0 := 0) (ci := 0) (As := []) (rest := []) ⟨hx, hb, hml, hown, hts⟩ hG (k_L_93 hts ⟨by show kG + 1 ≤ 2048; omega, by show 8 + (1 + 11) + 40 * kG ≤ 84000; omega⟩ rfl rfl) (gl_K hK) (gl_tl hP) (gl_td (gq_d1 hD)) hS (fun _ h => h) rfl rfl rfl hl.1 rfl (Nat.le_of_ble_eq_true rfl) d_L_law_542 ⟨by show cells + 0 ≤ 665590; omega, by show slots + 0 ≤ 7099334; omega⟩ (fun H1 locs1 hP1 hk1 hz1 hS => ?_)
  have hPM := gq_keep hPM (fun i j p q hi hj => (gq_ap hD (j + 1) i q p hj hi).symm) hk1
  have hP := gl_join hP (gq_d1 hD) hk1 hP1
  have hD : va_D (fun q => s.heap.size ≤ q) ((gl_o cJ oa g :: gp_wG E I2 F2) ++ gp_wM (gq_M E aM) J G) := gp_dd hD rfl
  refine lv_aload_n hx hb d_L_law_545 rfl (lv_at hl 2 rfl) ?_
  refine gl_cW (A0 := fun q => s.heap.size ≤ q) (q0 := 0) (ci := 3) (As := []) (rest := [.int r]) ⟨hx, hb, hml, hown, hts⟩ hM (k_L_96 hts ⟨by show kM + 1 ≤ 2048; omega, by show 8 + (1 + 11) + 40 * kM ≤ 84000; omega⟩ rfl rfl) (gl_K hK) hPM (gq_d2 hD) hS (fun _ h => h) rfl rfl rfl hl.1 rfl (Nat.le_of_ble_eq_true rfl) d_L_law_546 ⟨by show cells + 0 ≤ 665590; omega, by show slots + 0 ≤ 7099334; omega⟩ (fun H2 locs2 hPM hk2 hz2 hS => ?_)
  have hP := gq_keep hP (gq_ap hD) hk2
  have hD : va_D (fun q => s.heap.size ≤ q) ((gl_o cJ oa g :: gp_wG E I2 F2) ++ gp_wM (gq_M E aM) J2 G2) := gp_dd hD rfl
  refine lv_icmp_eq (tgt := 971) hx hb d_L_law_549 (by decide) (fun _ => ?_) (fun h => absurd rfl h)
  exact W.widen (k := cells + 1) (n := slots + 6) (by omega) (by omega) (kk I2 F2 J2 G2 g H2 locs2 ls hRel ⟨hP, hPM, hD, hS⟩ hl)
set_option maxHeartbeats 4000000 in
set_option maxRecDepth 100000 in
theorem lc_of {p : Program} {l : Launch} {e : Env} {s : State} {m : MethodId} {below : List Frame} {meth : Method} {c : Code} {b L : Nat} {xs : Nat → Int32} {E : gp_E} {cJ : ClassId} {aM : Nat → Nat} {oa n : Nat} {I : Nat → Int32} {F : Nat → Nat → Int32} {J : Nat → Int32} {G : Nat → Nat → Int32} {g : Nat → Int64} {H : Heap} {locs : List Loc} {cells slots : Nat} {Q : State → Prop} {ls : Array Slot} {Rel : (Nat → Int32) → (Nat → Nat → Int32) → (Nat → Int32) → (Nat → Nat → Int32) → Prop} (C : gq_C p s m c b L xs E cJ) (hn : n + 5 ≤ L) (hw : gq_W s E cJ aM oa I F J G g H locs) (hl : lv_has ls 7 (gq_l b oa n E aM)) (hr1 : cells + 1 ≤ 665590 ∧ slots + 6 ≤ 7099334) (hp : ∃ (k b9 : Int32) (I2 : Nat → Int32) (F2 : Nat → Nat → Int32) (J2 : Nat → Int32) (G2 : Nat → Nat → Int32) (g2 : Nat → Int64) (kM : Nat), kM ≤ 30 ∧ Rel I2 F2 J2 G2 ∧ J2 0 = k ∧ (k = 0 → g2 0 = b9.toInt64) ∧ gl_CH l y_L_of b_L_of 4 [(0, 9, 12, 21)] E cJ (gl_o cJ oa g :: gp_wG E I F) (gl_o cJ oa g2 :: gp_wG E I2 F2) [.ref (E.2.2.2 0), .int (xs (n + 1)), .ref oa] k ∧ gp_CW l y_M_of b_M_of 2 (some .int) kM (gq_M E aM) (gp_wM (gq_M E aM) J G) (gp_wM (gq_M E aM) J2 G2) [.ref (aM 0), .int (xs (n + 1))] (some (.int b9))) (kk : ∀ (I2 : Nat → Int32) (F2 : Nat → Nat → Int32) (J2 : Nat → Int32) (G2 : Nat → Nat → Int32) (g2 : Nat → Int64) (H1 : Heap) (locs1 : List Loc) (ls1 : Array Slot), Rel I2 F2 J2 G2 → gq_W s E cJ aM oa I2 F2 J2 G2 g2 H1 locs1 → lv_has ls1 7 (gq_l b oa n E aM) → W p l e room_1 s m #[Value.ref b] below meth c H1 locs1 (cells + 1) (slots + 6) Q (F0 m 971 ls1 [])) : W p l e room_1 s m #[Value.ref b] below meth c H locs cells slots Q (F0 m 554 ls []) := by
  obtain ⟨hx, hb, hml, hown, hts, hX, hbl, hK, hSt, hCt, hL⟩ := C
  obtain ⟨hP, hPM, hD, hS⟩ := hw
  obtain ⟨k, b9, I2, F2, J2, G2, g2, kM, hkM, hRel, hJ0, hk0, hH, hM⟩ := hp
  refine lv_aload_n hx hb d_L_law_554 rfl (lv_at hl 1 rfl) ?_
  refine lv_aload_n hx hb d_L_law_555 rfl (lv_at hl 0 rfl) ?_
  refine lv_iload hx hb d_L_law_556 (lv_at hl 4 rfl) ?_
  refine lv_iconst (v := 1) hx hb d_L_law_558 (by decide) ?_
  refine lv_iadd hx hb d_L_law_559 ?_
  refine gq_sld hx hb hX hbl hS (n + 1) (nI_add n 1) (by omega) hL d_L_law_560 ?_
  refine lv_aload_n hx hb d_L_law_561 rfl (lv_at hl 3 rfl) ?_
  refine gl_cH (As := [.ref (E.2.2.2 0), .int (xs (n + 1)), .ref oa]) (rest := []) ⟨hx, hb, hml, hown, hts⟩ hH (hts _ w2_185) (hts _ w2_186) (hts _ w1_0) w2_187 (by decide) (gq_len (n := 3) (by decide +kernel) rfl) ⟨Nat.le_of_ble_eq_true rfl, Nat.le_of_ble_eq_true rfl⟩ hK hP (gq_d1 hD) hS (fun _ h => h) (fun _ h => Nat.not_le.mpr h) hSt hCt hl.1 rfl (Nat.le_of_ble_eq_true rfl) d_L_law_562 ⟨hr1.1, hr1.2⟩ (fun H1 locs1 hP hk1 hz1 hS => ?_)
  have hPM := gq_keep hPM (fun i j p q hi hj => (gq_ap hD j i q p hj hi).symm) hk1
  have hD : va_D (fun q => s.heap.size ≤ q) ((gl_o cJ oa g2 :: gp_wG E I2 F2) ++ gp_wM (gq_M E aM) J G) := gp_dd hD rfl
  refine lv_istore (lv' := (5, .int k) :: gq_l b oa n E aM) hx hb d_L_law_565 hl (by decide) rfl (fun ls hl => ?_)
  refine lv_aload_n hx hb d_L_law_567 rfl (lv_at hl 3 rfl) ?_
  refine lv_aload_n hx hb d_L_law_568 rfl (lv_at hl 1 rfl) ?_
  refine lv_iload hx hb d_L_law_569 (lv_at hl 5 rfl) ?_
  refine lv_iconst (v := 1) hx hb d_L_law_571 (by decide) ?_
  refine lv_iadd hx hb d_L_law_572 ?_
  refine gq_sld hx hb hX hbl hS (n + 1) (nI_add n 1) (by omega) hL d_L_law_573 ?_
  refine gl_cW (A0 := fun q => s.heap.size ≤ q) (q0 := 0) (ci := 3) (As := [.int (xs (n + 1))]) (rest := []) ⟨hx, hb, hml, hown, hts⟩ hM (k_L_99 hts ⟨by show kM + 1 ≤ 2048; omega, by show 8 + (2 + 11) + 40 * kM ≤ 84000; omega⟩ rfl rfl) (gl_K hK) hPM (gq_d2 hD) hS (fun _ h => h) rfl rfl rfl hl.1 rfl (Nat.le_of_ble_eq_true rfl) d_L_law_574 ⟨hr1.1, hr1.2⟩ (fun H2 locs2 hPM hk2 hz2 hS => ?_)
  have hP := gq_keep hP (gq_ap hD) hk2
  have hD : va_D (fun q => s.heap.size ≤ q) ((gl_o cJ oa g2 :: gp_wG E I2 F2) ++ gp_wM (gq_M E aM) J2 G2) := gp_dd hD rfl
  refine lv_istore (lv' := (6, .int b9) :: (5, .int k) :: gq_l b oa n E aM) hx hb d_L_law_577 hl (by decide) rfl (fun ls hl => ?_)
  refine lv_aload_n hx hb d_L_law_579 rfl (lv_at hl 4 rfl) ?_
  refine gp_cR (q0 := 0) (ci := 3) (As := []) (rest := []) ⟨hx, hb, hml, hown, hts⟩ (c_M_thrown l (gq_M E aM) J2 G2) (k_L_69 hts ⟨Nat.le_of_ble_eq_true rfl, Nat.le_of_ble_eq_true rfl⟩ rfl rfl) (gl_K hK) hPM rfl rfl rfl hl.1 rfl (Nat.le_of_ble_eq_true rfl) d_L_law_580 ⟨hr1.1, hr1.2⟩ ?_
  refine lv_iload hx hb d_L_law_583 (lv_at hl 1 rfl) ?_
  refine lv_icmp_eq (tgt := 590) hx hb d_L_law_585 (by decide) (fun _ => ?_) (fun h => absurd hJ0 h)
  refine lv_iload hx hb d_L_law_590 (lv_at hl 1 rfl) ?_
  have hend : W p l e room_1 s m #[Value.ref b] below meth c H2 locs2 (cells + 1) (slots + 6) Q (F0 m 607 ls []) := lv_goto (tgt := 971) hx hb d_L_law_607 (by decide) (kk I2 F2 J2 G2 g2 H2 locs2 ls hRel ⟨hP, hPM, hD, hS⟩ (lv_sub hl [2, 3, 4, 5, 6] rfl))
  refine lv_if_ne (tgt := 607) hx hb d_L_law_592 (by decide) (fun _ => hend) (fun hk => ?_)
  refine lv_aload_n hx hb d_L_law_595 rfl (lv_at hl 5 rfl) ?_
  refine lv_iconst (v := 0) hx hb d_L_law_596 (by decide) ?_
  refine va_lald (D := E.1) (cl := gp_cl) hx hb hK hP 0 2 rfl rfl gl_in1 d_L_law_597 ?_
  refine lv_iload hx hb d_L_law_598 (lv_at hl 0 rfl) ?_
  refine lv_i2l hx hb d_L_law_600 rfl ?_
  refine W.lcmp hx hb d_L_law_601 ?_
  refine lv_if_eq (tgt := 607) hx hb d_L_law_602 (by decide) (fun _ => hend) (fun h => absurd (show lg_cmp (g2 0) b9.toInt64 = 0 by rw [hk0 hk]; exact lg_cmp0 _) h)
set_option maxHeartbeats 4000000 in
set_option maxRecDepth 100000 in
theorem lc_cost {p : Program} {l : Launch} {e : Env} {s : State} {m : MethodId} {below : List Frame} {meth : Method} {c : Code} {b L : Nat} {xs : Nat → Int32} {E : gp_E} {cJ : ClassId} {aM : Nat → Nat} {oa n : Nat} {I : Nat → Int32} {F : Nat → Nat → Int32} {J : Nat → Int32} {G : Nat → Nat → Int32} {g : Nat → Int64} {H : Heap} {locs : List Loc} {cells slots : Nat} {Q : State → Prop} {ls : Array Slot} {Rel : (Nat → Int32) → (Nat → Nat → Int32) → (Nat → Int32) → (Nat → Nat → Int32) → Prop} (C : gq_C p s m c b L xs E cJ) (hn : n + 5 ≤ L) (hw : gq_W s E cJ aM oa I F J G g H locs) (hl : lv_has ls 7 (gq_l b oa n E aM)) (hr1 : cells + 1 ≤ 665590 ∧ slots + 6 ≤ 7099334) (hp : ∃ (k b9 : Int32) (I2 : Nat → Int32) (F2 : Nat → Nat → Int32) (J2 : Nat → Int32) (G2 : Nat → Nat → Int32) (g2 : Nat → Int64) (kM : Nat), kM ≤ 30 ∧ Rel I2 F2 J2 G2 ∧ J2 0 = k ∧ (k = 0 → g2 0 = b9.toInt64) ∧ gl_CH l y_L_cost b_L_cost 3 [(0, 8, 11, 15)] E cJ (gl_o cJ oa g :: gp_wG E I F) (gl_o cJ oa g2 :: gp_wG E I2 F2) [.ref (E.2.2.2 0), .ref oa] k ∧ gp_CW l y_M_cost b_M_cost 1 (some .int) kM (gq_M E aM) (gp_wM (gq_M E aM) J G) (gp_wM (gq_M E aM) J2 G2) [.ref (aM 0)] (some (.int b9))) (kk : ∀ (I2 : Nat → Int32) (F2 : Nat → Nat → Int32) (J2 : Nat → Int32) (G2 : Nat → Nat → Int32) (g2 : Nat → Int64) (H1 : Heap) (locs1 : List Loc) (ls1 : Array Slot), Rel I2 F2 J2 G2 → gq_W s E cJ aM oa I2 F2 J2 G2 g2 H1 locs1 → lv_has ls1 7 (gq_l b oa n E aM) → W p l e room_1 s m #[Value.ref b] below meth c H1 locs1 (cells + 1) (slots + 6) Q (F0 m 971 ls1 [])) : W p l e room_1 s m #[Value.ref b] below meth c H locs cells slots Q (F0 m 610 ls []) := by
  obtain ⟨hx, hb, hml, hown, hts, hX, hbl, hK, hSt, hCt, hL⟩ := C
  obtain ⟨hP, hPM, hD, hS⟩ := hw
  obtain ⟨k, b9, I2, F2, J2, G2, g2, kM, hkM, hRel, hJ0, hk0, hH, hM⟩ := hp
  refine lv_aload_n hx hb d_L_law_610 rfl (lv_at hl 1 rfl) ?_
  refine lv_aload_n hx hb d_L_law_611 rfl (lv_at hl 3 rfl) ?_
  refine gl_cH (As := [.ref (E.2.2.2 0), .ref oa]) (rest := []) ⟨hx, hb, hml, hown, hts⟩ hH (hts _ w2_198) (hts _ w2_199) (hts _ w1_0) w2_200 (by decide) (gq_len (n := 2) (by decide +kernel) rfl) ⟨Nat.le_of_ble_eq_true rfl, Nat.le_of_ble_eq_true rfl⟩ hK hP (gq_d1 hD) hS (fun _ h => h) (fun _ h => Nat.not_le.mpr h) hSt hCt hl.1 rfl (Nat.le_of_ble_eq_true rfl) d_L_law_612 ⟨hr1.1, hr1.2⟩ (fun H1 locs1 hP hk1 hz1 hS => ?_)
  have hPM := gq_keep hPM (fun i j p q hi hj => (gq_ap hD j i q p hj hi).symm) hk1
  have hD : va_D (fun q => s.heap.size ≤ q) ((gl_o cJ oa g2 :: gp_wG E I2 F2) ++ gp_wM (gq_M E aM) J G) := gp_dd hD rfl
  refine lv_istore (lv' := (5, .int k) :: gq_l b oa n E aM) hx hb d_L_law_615 hl (by decide) rfl (fun ls hl => ?_)
  refine lv_aload_n hx hb d_L_law_617 rfl (lv_at hl 3 rfl) ?_
  refine gl_cW (A0 := fun q => s.heap.size ≤ q) (q0 := 0) (ci := 3) (As := []) (rest := []) ⟨hx, hb, hml, hown, hts⟩ hM (k_L_103 hts ⟨by show kM + 1 ≤ 2048; omega, by show 8 + (1 + 11) + 40 * kM ≤ 84000; omega⟩ rfl rfl) (gl_K hK) hPM (gq_d2 hD) hS (fun _ h => h) rfl rfl rfl hl.1 rfl (Nat.le_of_ble_eq_true rfl) d_L_law_618 ⟨hr1.1, hr1.2⟩ (fun H2 locs2 hPM hk2 hz2 hS => ?_)
  have hP := gq_keep hP (gq_ap hD) hk2
  have hD : va_D (fun q => s.heap.size ≤ q) ((gl_o cJ oa g2 :: gp_wG E I2 F2) ++ gp_wM (gq_M E aM) J2 G2) := gp_dd hD rfl
  refine lv_istore (lv' := (6, .int b9) :: (5, .int k) :: gq_l b oa n E aM) hx hb d_L_law_621 hl (by decide) rfl (fun ls hl => ?_)
  refine lv_aload_n hx hb d_L_law_623 rfl (lv_at hl 4 rfl) ?_
  refine gp_cR (q0 := 0) (ci := 3) (As := []) (rest := []) ⟨hx, hb, hml, hown, hts⟩ (c_M_thrown l (gq_M E aM) J2 G2) (k_L_69 hts ⟨Nat.le_of_ble_eq_true rfl, Nat.le_of_ble_eq_true rfl⟩ rfl rfl) (gl_K hK) hPM rfl rfl rfl hl.1 rfl (Nat.le_of_ble_eq_true rfl) d_L_law_624 ⟨hr1.1, hr1.2⟩ ?_
  refine lv_iload hx hb d_L_law_627 (lv_at hl 1 rfl) ?_
  refine lv_icmp_eq (tgt := 634) hx hb d_L_law_629 (by decide) (fun _ => ?_) (fun h => absurd hJ0 h)
  refine lv_iload hx hb d_L_law_634 (lv_at hl 1 rfl) ?_
  have hend : W p l e room_1 s m #[Value.ref b] below meth c H2 locs2 (cells + 1) (slots + 6) Q (F0 m 651 ls []) := lv_goto (tgt := 971) hx hb d_L_law_651 (by decide) (kk I2 F2 J2 G2 g2 H2 locs2 ls hRel ⟨hP, hPM, hD, hS⟩ (lv_sub hl [2, 3, 4, 5, 6] rfl))
  refine lv_if_ne (tgt := 651) hx hb d_L_law_636 (by decide) (fun _ => hend) (fun hk => ?_)
  refine lv_aload_n hx hb d_L_law_639 rfl (lv_at hl 5 rfl) ?_
  refine lv_iconst (v := 0) hx hb d_L_law_640 (by decide) ?_
  refine va_lald (D := E.1) (cl := gp_cl) hx hb hK hP 0 2 rfl rfl gl_in1 d_L_law_641 ?_
  refine lv_iload hx hb d_L_law_642 (lv_at hl 0 rfl) ?_
  refine lv_i2l hx hb d_L_law_644 rfl ?_
  refine W.lcmp hx hb d_L_law_645 ?_
  refine lv_if_eq (tgt := 651) hx hb d_L_law_646 (by decide) (fun _ => hend) (fun h => absurd (show lg_cmp (g2 0) b9.toInt64 = 0 by rw [hk0 hk]; exact lg_cmp0 _) h)
set_option maxHeartbeats 4000000 in
set_option maxRecDepth 100000 in
theorem lc_absent {p : Program} {l : Launch} {e : Env} {s : State} {m : MethodId} {below : List Frame} {meth : Method} {c : Code} {b L : Nat} {xs : Nat → Int32} {E : gp_E} {cJ : ClassId} {aM : Nat → Nat} {oa n : Nat} {I : Nat → Int32} {F : Nat → Nat → Int32} {J : Nat → Int32} {G : Nat → Nat → Int32} {g : Nat → Int64} {H : Heap} {locs : List Loc} {cells slots : Nat} {Q : State → Prop} {ls : Array Slot} {Rel : (Nat → Int32) → (Nat → Nat → Int32) → (Nat → Int32) → (Nat → Nat → Int32) → Prop} (C : gq_C p s m c b L xs E cJ) (hn : n + 5 ≤ L) (hw : gq_W s E cJ aM oa I F J G g H locs) (hl : lv_has ls 7 (gq_l b oa n E aM)) (hr1 : cells + 1 ≤ 665590 ∧ slots + 6 ≤ 7099334) (hp : ∃ (k b9 : Int32) (I2 : Nat → Int32) (F2 : Nat → Nat → Int32) (J2 : Nat → Int32) (G2 : Nat → Nat → Int32) (g2 : Nat → Int64) (kM : Nat), kM ≤ 30 ∧ Rel I2 F2 J2 G2 ∧ J2 0 = k ∧ (k = 0 → g2 0 = b9.toInt64) ∧ gl_CH l y_L_absent b_L_absent 5 [(0, 10, 13, 21), (0, 10, 17, 13), (0, 10, 21, 15)] E cJ (gl_o cJ oa g :: gp_wG E I F) (gl_o cJ oa g2 :: gp_wG E I2 F2) [.ref (E.2.2.2 0), .int (xs (n + 1)), .int (xs (n + 2)), .ref oa] k ∧ gp_CW l y_M_absent b_M_absent 4 (some .int) kM (gq_M E aM) (gp_wM (gq_M E aM) J G) (gp_wM (gq_M E aM) J2 G2) [.ref (aM 0), .int (xs (n + 1)), .int (xs (n + 2))] (some (.int b9))) (kk : ∀ (I2 : Nat → Int32) (F2 : Nat → Nat → Int32) (J2 : Nat → Int32) (G2 : Nat → Nat → Int32) (g2 : Nat → Int64) (H1 : Heap) (locs1 : List Loc) (ls1 : Array Slot), Rel I2 F2 J2 G2 → gq_W s E cJ aM oa I2 F2 J2 G2 g2 H1 locs1 → lv_has ls1 7 (gq_l b oa n E aM) → W p l e room_1 s m #[Value.ref b] below meth c H1 locs1 (cells + 1) (slots + 6) Q (F0 m 971 ls1 [])) : W p l e room_1 s m #[Value.ref b] below meth c H locs cells slots Q (F0 m 654 ls []) := by
  obtain ⟨hx, hb, hml, hown, hts, hX, hbl, hK, hSt, hCt, hL⟩ := C
  obtain ⟨hP, hPM, hD, hS⟩ := hw
  obtain ⟨k, b9, I2, F2, J2, G2, g2, kM, hkM, hRel, hJ0, hk0, hH, hM⟩ := hp
  refine lv_aload_n hx hb d_L_law_654 rfl (lv_at hl 1 rfl) ?_
  refine lv_aload_n hx hb d_L_law_655 rfl (lv_at hl 0 rfl) ?_
  refine lv_iload hx hb d_L_law_656 (lv_at hl 4 rfl) ?_
  refine lv_iconst (v := 1) hx hb d_L_law_658 (by decide) ?_
  refine lv_iadd hx hb d_L_law_659 ?_
  refine gq_sld hx hb hX hbl hS (n + 1) (nI_add n 1) (by omega) hL d_L_law_660 ?_
  refine lv_aload_n hx hb d_L_law_661 rfl (lv_at hl 0 rfl) ?_
  refine lv_iload hx hb d_L_law_662 (lv_at hl 4 rfl) ?_
  refine lv_iconst (v := 2) hx hb d_L_law_664 (by decide) ?_
  refine lv_iadd hx hb d_L_law_665 ?_
  refine gq_sld hx hb hX hbl hS (n + 2) (nI_add n 2) (by omega) hL d_L_law_666 ?_
  refine lv_aload_n hx hb d_L_law_667 rfl (lv_at hl 3 rfl) ?_
  refine gl_cH (As := [.ref (E.2.2.2 0), .int (xs (n + 1)), .int (xs (n + 2)), .ref oa]) (rest := []) ⟨hx, hb, hml, hown, hts⟩ hH (hts _ w2_210) (hts _ w2_211) (hts _ w1_0) w2_212 (by decide) (gq_len (n := 4) (by decide +kernel) rfl) ⟨Nat.le_of_ble_eq_true rfl, Nat.le_of_ble_eq_true rfl⟩ hK hP (gq_d1 hD) hS (fun _ h => h) (fun _ h => Nat.not_le.mpr h) hSt hCt hl.1 rfl (Nat.le_of_ble_eq_true rfl) d_L_law_668 ⟨hr1.1, hr1.2⟩ (fun H1 locs1 hP hk1 hz1 hS => ?_)
  have hPM := gq_keep hPM (fun i j p q hi hj => (gq_ap hD j i q p hj hi).symm) hk1
  have hD : va_D (fun q => s.heap.size ≤ q) ((gl_o cJ oa g2 :: gp_wG E I2 F2) ++ gp_wM (gq_M E aM) J G) := gp_dd hD rfl
  refine lv_istore (lv' := (5, .int k) :: gq_l b oa n E aM) hx hb d_L_law_671 hl (by decide) rfl (fun ls hl => ?_)
  refine lv_aload_n hx hb d_L_law_673 rfl (lv_at hl 3 rfl) ?_
  refine lv_aload_n hx hb d_L_law_674 rfl (lv_at hl 1 rfl) ?_
  refine lv_iload hx hb d_L_law_675 (lv_at hl 5 rfl) ?_
  refine lv_iconst (v := 1) hx hb d_L_law_677 (by decide) ?_
  refine lv_iadd hx hb d_L_law_678 ?_
  refine gq_sld hx hb hX hbl hS (n + 1) (nI_add n 1) (by omega) hL d_L_law_679 ?_
  refine lv_aload_n hx hb d_L_law_680 rfl (lv_at hl 1 rfl) ?_
  refine lv_iload hx hb d_L_law_681 (lv_at hl 5 rfl) ?_
  refine lv_iconst (v := 2) hx hb d_L_law_683 (by decide) ?_
  refine lv_iadd hx hb d_L_law_684 ?_
  refine gq_sld hx hb hX hbl hS (n + 2) (nI_add n 2) (by omega) hL d_L_law_685 ?_
  refine gl_cW (A0 := fun q => s.heap.size ≤ q) (q0 := 0) (ci := 3) (As := [.int (xs (n + 1)), .int (xs (n + 2))]) (rest := []) ⟨hx, hb, hml, hown, hts⟩ hM (k_L_107 hts ⟨by show kM + 1 ≤ 2048; omega, by show 8 + (4 + 11) + 40 * kM ≤ 84000; omega⟩ rfl rfl) (gl_K hK) hPM (gq_d2 hD) hS (fun _ h => h) rfl rfl rfl hl.1 rfl (Nat.le_of_ble_eq_true rfl) d_L_law_686 ⟨hr1.1, hr1.2⟩ (fun H2 locs2 hPM hk2 hz2 hS => ?_)
  have hP := gq_keep hP (gq_ap hD) hk2
  have hD : va_D (fun q => s.heap.size ≤ q) ((gl_o cJ oa g2 :: gp_wG E I2 F2) ++ gp_wM (gq_M E aM) J2 G2) := gp_dd hD rfl
  refine lv_istore (lv' := (6, .int b9) :: (5, .int k) :: gq_l b oa n E aM) hx hb d_L_law_689 hl (by decide) rfl (fun ls hl => ?_)
  refine lv_aload_n hx hb d_L_law_691 rfl (lv_at hl 4 rfl) ?_
  refine gp_cR (q0 := 0) (ci := 3) (As := []) (rest := []) ⟨hx, hb, hml, hown, hts⟩ (c_M_thrown l (gq_M E aM) J2 G2) (k_L_69 hts ⟨Nat.le_of_ble_eq_true rfl, Nat.le_of_ble_eq_true rfl⟩ rfl rfl) (gl_K hK) hPM rfl rfl rfl hl.1 rfl (Nat.le_of_ble_eq_true rfl) d_L_law_692 ⟨hr1.1, hr1.2⟩ ?_
  refine lv_iload hx hb d_L_law_695 (lv_at hl 1 rfl) ?_
  refine lv_icmp_eq (tgt := 702) hx hb d_L_law_697 (by decide) (fun _ => ?_) (fun h => absurd hJ0 h)
  refine lv_iload hx hb d_L_law_702 (lv_at hl 1 rfl) ?_
  have hend : W p l e room_1 s m #[Value.ref b] below meth c H2 locs2 (cells + 1) (slots + 6) Q (F0 m 719 ls []) := lv_goto (tgt := 971) hx hb d_L_law_719 (by decide) (kk I2 F2 J2 G2 g2 H2 locs2 ls hRel ⟨hP, hPM, hD, hS⟩ (lv_sub hl [2, 3, 4, 5, 6] rfl))
  refine lv_if_ne (tgt := 719) hx hb d_L_law_704 (by decide) (fun _ => hend) (fun hk => ?_)
  refine lv_aload_n hx hb d_L_law_707 rfl (lv_at hl 5 rfl) ?_
  refine lv_iconst (v := 0) hx hb d_L_law_708 (by decide) ?_
  refine va_lald (D := E.1) (cl := gp_cl) hx hb hK hP 0 2 rfl rfl gl_in1 d_L_law_709 ?_
  refine lv_iload hx hb d_L_law_710 (lv_at hl 0 rfl) ?_
  refine lv_i2l hx hb d_L_law_712 rfl ?_
  refine W.lcmp hx hb d_L_law_713 ?_
  refine lv_if_eq (tgt := 719) hx hb d_L_law_714 (by decide) (fun _ => hend) (fun h => absurd (show lg_cmp (g2 0) b9.toInt64 = 0 by rw [hk0 hk]; exact lg_cmp0 _) h)
set_option maxHeartbeats 4000000 in
set_option maxRecDepth 100000 in
theorem lc_changed {p : Program} {l : Launch} {e : Env} {s : State} {m : MethodId} {below : List Frame} {meth : Method} {c : Code} {b L : Nat} {xs : Nat → Int32} {E : gp_E} {cJ : ClassId} {aM : Nat → Nat} {oa n : Nat} {I : Nat → Int32} {F : Nat → Nat → Int32} {J : Nat → Int32} {G : Nat → Nat → Int32} {g : Nat → Int64} {H : Heap} {locs : List Loc} {cells slots : Nat} {Q : State → Prop} {ls : Array Slot} {Rel : (Nat → Int32) → (Nat → Nat → Int32) → (Nat → Int32) → (Nat → Nat → Int32) → Prop} (C : gq_C p s m c b L xs E cJ) (hn : n + 5 ≤ L) (hw : gq_W s E cJ aM oa I F J G g H locs) (hl : lv_has ls 7 (gq_l b oa n E aM)) (hr1 : cells + 1 ≤ 665590 ∧ slots + 6 ≤ 7099334) (hp : ∃ (k b9 : Int32) (I2 : Nat → Int32) (F2 : Nat → Nat → Int32) (J2 : Nat → Int32) (G2 : Nat → Nat → Int32) (g2 : Nat → Int64) (kM : Nat), kM ≤ 30 ∧ Rel I2 F2 J2 G2 ∧ J2 0 = k ∧ (k = 0 → g2 0 = b9.toInt64) ∧ gl_CH l y_L_changed b_L_changed 4 [(0, 9, 12, 21)] E cJ (gl_o cJ oa g :: gp_wG E I F) (gl_o cJ oa g2 :: gp_wG E I2 F2) [.ref (E.2.2.2 0), .int (xs (n + 1)), .ref oa] k ∧ gp_CW l y_M_changed b_M_changed 2 (some .int) kM (gq_M E aM) (gp_wM (gq_M E aM) J G) (gp_wM (gq_M E aM) J2 G2) [.ref (aM 0), .int (xs (n + 1))] (some (.int b9))) (kk : ∀ (I2 : Nat → Int32) (F2 : Nat → Nat → Int32) (J2 : Nat → Int32) (G2 : Nat → Nat → Int32) (g2 : Nat → Int64) (H1 : Heap) (locs1 : List Loc) (ls1 : Array Slot), Rel I2 F2 J2 G2 → gq_W s E cJ aM oa I2 F2 J2 G2 g2 H1 locs1 → lv_has ls1 7 (gq_l b oa n E aM) → W p l e room_1 s m #[Value.ref b] below meth c H1 locs1 (cells + 1) (slots + 6) Q (F0 m 971 ls1 [])) : W p l e room_1 s m #[Value.ref b] below meth c H locs cells slots Q (F0 m 722 ls []) := by
  obtain ⟨hx, hb, hml, hown, hts, hX, hbl, hK, hSt, hCt, hL⟩ := C
  obtain ⟨hP, hPM, hD, hS⟩ := hw
  obtain ⟨k, b9, I2, F2, J2, G2, g2, kM, hkM, hRel, hJ0, hk0, hH, hM⟩ := hp
  refine lv_aload_n hx hb d_L_law_722 rfl (lv_at hl 1 rfl) ?_
  refine lv_aload_n hx hb d_L_law_723 rfl (lv_at hl 0 rfl) ?_
  refine lv_iload hx hb d_L_law_724 (lv_at hl 4 rfl) ?_
  refine lv_iconst (v := 1) hx hb d_L_law_726 (by decide) ?_
  refine lv_iadd hx hb d_L_law_727 ?_
  refine gq_sld hx hb hX hbl hS (n + 1) (nI_add n 1) (by omega) hL d_L_law_728 ?_
  refine lv_aload_n hx hb d_L_law_729 rfl (lv_at hl 3 rfl) ?_
  refine gl_cH (As := [.ref (E.2.2.2 0), .int (xs (n + 1)), .ref oa]) (rest := []) ⟨hx, hb, hml, hown, hts⟩ hH (hts _ w2_229) (hts _ w2_230) (hts _ w1_0) w2_231 (by decide) (gq_len (n := 3) (by decide +kernel) rfl) ⟨Nat.le_of_ble_eq_true rfl, Nat.le_of_ble_eq_true rfl⟩ hK hP (gq_d1 hD) hS (fun _ h => h) (fun _ h => Nat.not_le.mpr h) hSt hCt hl.1 rfl (Nat.le_of_ble_eq_true rfl) d_L_law_730 ⟨hr1.1, hr1.2⟩ (fun H1 locs1 hP hk1 hz1 hS => ?_)
  have hPM := gq_keep hPM (fun i j p q hi hj => (gq_ap hD j i q p hj hi).symm) hk1
  have hD : va_D (fun q => s.heap.size ≤ q) ((gl_o cJ oa g2 :: gp_wG E I2 F2) ++ gp_wM (gq_M E aM) J G) := gp_dd hD rfl
  refine lv_istore (lv' := (5, .int k) :: gq_l b oa n E aM) hx hb d_L_law_733 hl (by decide) rfl (fun ls hl => ?_)
  refine lv_aload_n hx hb d_L_law_735 rfl (lv_at hl 3 rfl) ?_
  refine lv_aload_n hx hb d_L_law_736 rfl (lv_at hl 1 rfl) ?_
  refine lv_iload hx hb d_L_law_737 (lv_at hl 5 rfl) ?_
  refine lv_iconst (v := 1) hx hb d_L_law_739 (by decide) ?_
  refine lv_iadd hx hb d_L_law_740 ?_
  refine gq_sld hx hb hX hbl hS (n + 1) (nI_add n 1) (by omega) hL d_L_law_741 ?_
  refine gl_cW (A0 := fun q => s.heap.size ≤ q) (q0 := 0) (ci := 3) (As := [.int (xs (n + 1))]) (rest := []) ⟨hx, hb, hml, hown, hts⟩ hM (k_L_110 hts ⟨by show kM + 1 ≤ 2048; omega, by show 8 + (2 + 11) + 40 * kM ≤ 84000; omega⟩ rfl rfl) (gl_K hK) hPM (gq_d2 hD) hS (fun _ h => h) rfl rfl rfl hl.1 rfl (Nat.le_of_ble_eq_true rfl) d_L_law_742 ⟨hr1.1, hr1.2⟩ (fun H2 locs2 hPM hk2 hz2 hS => ?_)
  have hP := gq_keep hP (gq_ap hD) hk2
  have hD : va_D (fun q => s.heap.size ≤ q) ((gl_o cJ oa g2 :: gp_wG E I2 F2) ++ gp_wM (gq_M E aM) J2 G2) := gp_dd hD rfl
  refine lv_istore (lv' := (6, .int b9) :: (5, .int k) :: gq_l b oa n E aM) hx hb d_L_law_745 hl (by decide) rfl (fun ls hl => ?_)
  refine lv_aload_n hx hb d_L_law_747 rfl (lv_at hl 4 rfl) ?_
  refine gp_cR (q0 := 0) (ci := 3) (As := []) (rest := []) ⟨hx, hb, hml, hown, hts⟩ (c_M_thrown l (gq_M E aM) J2 G2) (k_L_69 hts ⟨Nat.le_of_ble_eq_true rfl, Nat.le_of_ble_eq_true rfl⟩ rfl rfl) (gl_K hK) hPM rfl rfl rfl hl.1 rfl (Nat.le_of_ble_eq_true rfl) d_L_law_748 ⟨hr1.1, hr1.2⟩ ?_
  refine lv_iload hx hb d_L_law_751 (lv_at hl 1 rfl) ?_
  refine lv_icmp_eq (tgt := 758) hx hb d_L_law_753 (by decide) (fun _ => ?_) (fun h => absurd hJ0 h)
  refine lv_iload hx hb d_L_law_758 (lv_at hl 1 rfl) ?_
  have hend : W p l e room_1 s m #[Value.ref b] below meth c H2 locs2 (cells + 1) (slots + 6) Q (F0 m 775 ls []) := lv_goto (tgt := 971) hx hb d_L_law_775 (by decide) (kk I2 F2 J2 G2 g2 H2 locs2 ls hRel ⟨hP, hPM, hD, hS⟩ (lv_sub hl [2, 3, 4, 5, 6] rfl))
  refine lv_if_ne (tgt := 775) hx hb d_L_law_760 (by decide) (fun _ => hend) (fun hk => ?_)
  refine lv_aload_n hx hb d_L_law_763 rfl (lv_at hl 5 rfl) ?_
  refine lv_iconst (v := 0) hx hb d_L_law_764 (by decide) ?_
  refine va_lald (D := E.1) (cl := gp_cl) hx hb hK hP 0 2 rfl rfl gl_in1 d_L_law_765 ?_
  refine lv_iload hx hb d_L_law_766 (lv_at hl 0 rfl) ?_
  refine lv_i2l hx hb d_L_law_768 rfl ?_
  refine W.lcmp hx hb d_L_law_769 ?_
  refine lv_if_eq (tgt := 775) hx hb d_L_law_770 (by decide) (fun _ => hend) (fun h => absurd (show lg_cmp (g2 0) b9.toInt64 = 0 by rw [hk0 hk]; exact lg_cmp0 _) h)
set_option maxHeartbeats 4000000 in
set_option maxRecDepth 100000 in
theorem lc_swap {p : Program} {l : Launch} {e : Env} {s : State} {m : MethodId} {below : List Frame} {meth : Method} {c : Code} {b L : Nat} {xs : Nat → Int32} {E : gp_E} {cJ : ClassId} {aM : Nat → Nat} {oa n : Nat} {I : Nat → Int32} {F : Nat → Nat → Int32} {J : Nat → Int32} {G : Nat → Nat → Int32} {g : Nat → Int64} {H : Heap} {locs : List Loc} {cells slots : Nat} {Q : State → Prop} {ls : Array Slot} {Rel : (Nat → Int32) → (Nat → Nat → Int32) → (Nat → Int32) → (Nat → Nat → Int32) → Prop} (C : gq_C p s m c b L xs E cJ) (hn : n + 5 ≤ L) (hw : gq_W s E cJ aM oa I F J G g H locs) (hl : lv_has ls 7 (gq_l b oa n E aM)) (hr1 : cells + 1 ≤ 665590 ∧ slots + 6 ≤ 7099334) (hp : ∃ (k b9 : Int32) (I2 : Nat → Int32) (F2 : Nat → Nat → Int32) (J2 : Nat → Int32) (G2 : Nat → Nat → Int32) (g2 : Nat → Int64) (kM : Nat), kM ≤ 30 ∧ Rel I2 F2 J2 G2 ∧ J2 0 = k ∧ (k = 0 → g2 0 = b9.toInt64) ∧ gl_CH l y_L_swap b_L_swap 5 [(0, 10, 13, 21), (0, 10, 17, 15)] E cJ (gl_o cJ oa g :: gp_wG E I F) (gl_o cJ oa g2 :: gp_wG E I2 F2) [.ref (E.2.2.2 0), .int (xs (n + 1)), .int (xs (n + 2)), .ref oa] k ∧ gp_CW l y_M_swap b_M_swap 5 (some .int) kM (gq_M E aM) (gp_wM (gq_M E aM) J G) (gp_wM (gq_M E aM) J2 G2) [.ref (aM 0), .int (xs (n + 1)), .int (xs (n + 2))] (some (.int b9))) (kk : ∀ (I2 : Nat → Int32) (F2 : Nat → Nat → Int32) (J2 : Nat → Int32) (G2 : Nat → Nat → Int32) (g2 : Nat → Int64) (H1 : Heap) (locs1 : List Loc) (ls1 : Array Slot), Rel I2 F2 J2 G2 → gq_W s E cJ aM oa I2 F2 J2 G2 g2 H1 locs1 → lv_has ls1 7 (gq_l b oa n E aM) → W p l e room_1 s m #[Value.ref b] below meth c H1 locs1 (cells + 1) (slots + 6) Q (F0 m 971 ls1 [])) : W p l e room_1 s m #[Value.ref b] below meth c H locs cells slots Q (F0 m 778 ls []) := by
  obtain ⟨hx, hb, hml, hown, hts, hX, hbl, hK, hSt, hCt, hL⟩ := C
  obtain ⟨hP, hPM, hD, hS⟩ := hw
  obtain ⟨k, b9, I2, F2, J2, G2, g2, kM, hkM, hRel, hJ0, hk0, hH, hM⟩ := hp
  refine lv_aload_n hx hb d_L_law_778 rfl (lv_at hl 1 rfl) ?_
  refine lv_aload_n hx hb d_L_law_779 rfl (lv_at hl 0 rfl) ?_
  refine lv_iload hx hb d_L_law_780 (lv_at hl 4 rfl) ?_
  refine lv_iconst (v := 1) hx hb d_L_law_782 (by decide) ?_
  refine lv_iadd hx hb d_L_law_783 ?_
  refine gq_sld hx hb hX hbl hS (n + 1) (nI_add n 1) (by omega) hL d_L_law_784 ?_
  refine lv_aload_n hx hb d_L_law_785 rfl (lv_at hl 0 rfl) ?_
  refine lv_iload hx hb d_L_law_786 (lv_at hl 4 rfl) ?_
  refine lv_iconst (v := 2) hx hb d_L_law_788 (by decide) ?_
  refine lv_iadd hx hb d_L_law_789 ?_
  refine gq_sld hx hb hX hbl hS (n + 2) (nI_add n 2) (by omega) hL d_L_law_790 ?_
  refine lv_aload_n hx hb d_L_law_791 rfl (lv_at hl 3 rfl) ?_
  refine gl_cH (As := [.ref (E.2.2.2 0), .int (xs (n + 1)), .int (xs (n + 2)), .ref oa]) (rest := []) ⟨hx, hb, hml, hown, hts⟩ hH (hts _ w2_237) (hts _ w2_238) (hts _ w1_0) w2_239 (by decide) (gq_len (n := 4) (by decide +kernel) rfl) ⟨Nat.le_of_ble_eq_true rfl, Nat.le_of_ble_eq_true rfl⟩ hK hP (gq_d1 hD) hS (fun _ h => h) (fun _ h => Nat.not_le.mpr h) hSt hCt hl.1 rfl (Nat.le_of_ble_eq_true rfl) d_L_law_792 ⟨hr1.1, hr1.2⟩ (fun H1 locs1 hP hk1 hz1 hS => ?_)
  have hPM := gq_keep hPM (fun i j p q hi hj => (gq_ap hD j i q p hj hi).symm) hk1
  have hD : va_D (fun q => s.heap.size ≤ q) ((gl_o cJ oa g2 :: gp_wG E I2 F2) ++ gp_wM (gq_M E aM) J G) := gp_dd hD rfl
  refine lv_istore (lv' := (5, .int k) :: gq_l b oa n E aM) hx hb d_L_law_795 hl (by decide) rfl (fun ls hl => ?_)
  refine lv_aload_n hx hb d_L_law_797 rfl (lv_at hl 3 rfl) ?_
  refine lv_aload_n hx hb d_L_law_798 rfl (lv_at hl 1 rfl) ?_
  refine lv_iload hx hb d_L_law_799 (lv_at hl 5 rfl) ?_
  refine lv_iconst (v := 1) hx hb d_L_law_801 (by decide) ?_
  refine lv_iadd hx hb d_L_law_802 ?_
  refine gq_sld hx hb hX hbl hS (n + 1) (nI_add n 1) (by omega) hL d_L_law_803 ?_
  refine lv_aload_n hx hb d_L_law_804 rfl (lv_at hl 1 rfl) ?_
  refine lv_iload hx hb d_L_law_805 (lv_at hl 5 rfl) ?_
  refine lv_iconst (v := 2) hx hb d_L_law_807 (by decide) ?_
  refine lv_iadd hx hb d_L_law_808 ?_
  refine gq_sld hx hb hX hbl hS (n + 2) (nI_add n 2) (by omega) hL d_L_law_809 ?_
  refine gl_cW (A0 := fun q => s.heap.size ≤ q) (q0 := 0) (ci := 3) (As := [.int (xs (n + 1)), .int (xs (n + 2))]) (rest := []) ⟨hx, hb, hml, hown, hts⟩ hM (k_L_113 hts ⟨by show kM + 1 ≤ 2048; omega, by show 8 + (5 + 11) + 40 * kM ≤ 84000; omega⟩ rfl rfl) (gl_K hK) hPM (gq_d2 hD) hS (fun _ h => h) rfl rfl rfl hl.1 rfl (Nat.le_of_ble_eq_true rfl) d_L_law_810 ⟨hr1.1, hr1.2⟩ (fun H2 locs2 hPM hk2 hz2 hS => ?_)
  have hP := gq_keep hP (gq_ap hD) hk2
  have hD : va_D (fun q => s.heap.size ≤ q) ((gl_o cJ oa g2 :: gp_wG E I2 F2) ++ gp_wM (gq_M E aM) J2 G2) := gp_dd hD rfl
  refine lv_istore (lv' := (6, .int b9) :: (5, .int k) :: gq_l b oa n E aM) hx hb d_L_law_813 hl (by decide) rfl (fun ls hl => ?_)
  refine lv_aload_n hx hb d_L_law_815 rfl (lv_at hl 4 rfl) ?_
  refine gp_cR (q0 := 0) (ci := 3) (As := []) (rest := []) ⟨hx, hb, hml, hown, hts⟩ (c_M_thrown l (gq_M E aM) J2 G2) (k_L_69 hts ⟨Nat.le_of_ble_eq_true rfl, Nat.le_of_ble_eq_true rfl⟩ rfl rfl) (gl_K hK) hPM rfl rfl rfl hl.1 rfl (Nat.le_of_ble_eq_true rfl) d_L_law_816 ⟨hr1.1, hr1.2⟩ ?_
  refine lv_iload hx hb d_L_law_819 (lv_at hl 1 rfl) ?_
  refine lv_icmp_eq (tgt := 826) hx hb d_L_law_821 (by decide) (fun _ => ?_) (fun h => absurd hJ0 h)
  refine lv_iload hx hb d_L_law_826 (lv_at hl 1 rfl) ?_
  have hend : W p l e room_1 s m #[Value.ref b] below meth c H2 locs2 (cells + 1) (slots + 6) Q (F0 m 843 ls []) := lv_goto (tgt := 971) hx hb d_L_law_843 (by decide) (kk I2 F2 J2 G2 g2 H2 locs2 ls hRel ⟨hP, hPM, hD, hS⟩ (lv_sub hl [2, 3, 4, 5, 6] rfl))
  refine lv_if_ne (tgt := 843) hx hb d_L_law_828 (by decide) (fun _ => hend) (fun hk => ?_)
  refine lv_aload_n hx hb d_L_law_831 rfl (lv_at hl 5 rfl) ?_
  refine lv_iconst (v := 0) hx hb d_L_law_832 (by decide) ?_
  refine va_lald (D := E.1) (cl := gp_cl) hx hb hK hP 0 2 rfl rfl gl_in1 d_L_law_833 ?_
  refine lv_iload hx hb d_L_law_834 (lv_at hl 0 rfl) ?_
  refine lv_i2l hx hb d_L_law_836 rfl ?_
  refine W.lcmp hx hb d_L_law_837 ?_
  refine lv_if_eq (tgt := 843) hx hb d_L_law_838 (by decide) (fun _ => hend) (fun h => absurd (show lg_cmp (g2 0) b9.toInt64 = 0 by rw [hk0 hk]; exact lg_cmp0 _) h)
set_option maxHeartbeats 4000000 in
set_option maxRecDepth 100000 in
theorem lc_work {p : Program} {l : Launch} {e : Env} {s : State} {m : MethodId} {below : List Frame} {meth : Method} {c : Code} {b L : Nat} {xs : Nat → Int32} {E : gp_E} {cJ : ClassId} {aM : Nat → Nat} {oa n : Nat} {I : Nat → Int32} {F : Nat → Nat → Int32} {J : Nat → Int32} {G : Nat → Nat → Int32} {g : Nat → Int64} {H : Heap} {locs : List Loc} {cells slots : Nat} {Q : State → Prop} {ls : Array Slot} {Rel : (Nat → Int32) → (Nat → Nat → Int32) → (Nat → Int32) → (Nat → Nat → Int32) → Prop} (C : gq_C p s m c b L xs E cJ) (hn : n + 5 ≤ L) (hw : gq_W s E cJ aM oa I F J G g H locs) (hl : lv_has ls 7 (gq_l b oa n E aM)) (hr1 : cells + 1 ≤ 665590 ∧ slots + 6 ≤ 7099334) (hp : ∃ (k b9 : Int32) (I2 : Nat → Int32) (F2 : Nat → Nat → Int32) (J2 : Nat → Int32) (G2 : Nat → Nat → Int32) (g2 : Nat → Int64) (kM : Nat), kM ≤ 30 ∧ Rel I2 F2 J2 G2 ∧ J2 0 = k ∧ (k = 0 → g2 0 = b9.toInt64) ∧ gl_CH l y_L_work b_L_work 4 [(0, 9, 12, 21)] E cJ (gl_o cJ oa g :: gp_wG E I F) (gl_o cJ oa g2 :: gp_wG E I2 F2) [.ref (E.2.2.2 0), .int (xs (n + 1)), .ref oa] k ∧ gp_CW l y_M_work b_M_work 2 (some .int) kM (gq_M E aM) (gp_wM (gq_M E aM) J G) (gp_wM (gq_M E aM) J2 G2) [.ref (aM 0), .int (xs (n + 1))] (some (.int b9))) (kk : ∀ (I2 : Nat → Int32) (F2 : Nat → Nat → Int32) (J2 : Nat → Int32) (G2 : Nat → Nat → Int32) (g2 : Nat → Int64) (H1 : Heap) (locs1 : List Loc) (ls1 : Array Slot), Rel I2 F2 J2 G2 → gq_W s E cJ aM oa I2 F2 J2 G2 g2 H1 locs1 → lv_has ls1 7 (gq_l b oa n E aM) → W p l e room_1 s m #[Value.ref b] below meth c H1 locs1 (cells + 1) (slots + 6) Q (F0 m 971 ls1 [])) : W p l e room_1 s m #[Value.ref b] below meth c H locs cells slots Q (F0 m 846 ls []) := by
  obtain ⟨hx, hb, hml, hown, hts, hX, hbl, hK, hSt, hCt, hL⟩ := C
  obtain ⟨hP, hPM, hD, hS⟩ := hw
  obtain ⟨k, b9, I2, F2, J2, G2, g2, kM, hkM, hRel, hJ0, hk0, hH, hM⟩ := hp
  refine lv_aload_n hx hb d_L_law_846 rfl (lv_at hl 1 rfl) ?_
  refine lv_aload_n hx hb d_L_law_847 rfl (lv_at hl 0 rfl) ?_
  refine lv_iload hx hb d_L_law_848 (lv_at hl 4 rfl) ?_
  refine lv_iconst (v := 1) hx hb d_L_law_850 (by decide) ?_
  refine lv_iadd hx hb d_L_law_851 ?_
  refine gq_sld hx hb hX hbl hS (n + 1) (nI_add n 1) (by omega) hL d_L_law_852 ?_
  refine lv_aload_n hx hb d_L_law_853 rfl (lv_at hl 3 rfl) ?_
  refine gl_cH (As := [.ref (E.2.2.2 0), .int (xs (n + 1)), .ref oa]) (rest := []) ⟨hx, hb, hml, hown, hts⟩ hH (hts _ w3_31) (hts _ w3_32) (hts _ w1_0) w3_33 (by decide) (gq_len (n := 3) (by decide +kernel) rfl) ⟨Nat.le_of_ble_eq_true rfl, Nat.le_of_ble_eq_true rfl⟩ hK hP (gq_d1 hD) hS (fun _ h => h) (fun _ h => Nat.not_le.mpr h) hSt hCt hl.1 rfl (Nat.le_of_ble_eq_true rfl) d_L_law_854 ⟨hr1.1, hr1.2⟩ (fun H1 locs1 hP hk1 hz1 hS => ?_)
  have hPM := gq_keep hPM (fun i j p q hi hj => (gq_ap hD j i q p hj hi).symm) hk1
  have hD : va_D (fun q => s.heap.size ≤ q) ((gl_o cJ oa g2 :: gp_wG E I2 F2) ++ gp_wM (gq_M E aM) J G) := gp_dd hD rfl
  refine lv_istore (lv' := (5, .int k) :: gq_l b oa n E aM) hx hb d_L_law_857 hl (by decide) rfl (fun ls hl => ?_)
  refine lv_aload_n hx hb d_L_law_859 rfl (lv_at hl 3 rfl) ?_
  refine lv_aload_n hx hb d_L_law_860 rfl (lv_at hl 1 rfl) ?_
  refine lv_iload hx hb d_L_law_861 (lv_at hl 5 rfl) ?_
  refine lv_iconst (v := 1) hx hb d_L_law_863 (by decide) ?_
  refine lv_iadd hx hb d_L_law_864 ?_
  refine gq_sld hx hb hX hbl hS (n + 1) (nI_add n 1) (by omega) hL d_L_law_865 ?_
  refine gl_cW (A0 := fun q => s.heap.size ≤ q) (q0 := 0) (ci := 3) (As := [.int (xs (n + 1))]) (rest := []) ⟨hx, hb, hml, hown, hts⟩ hM (k_L_116 hts ⟨by show kM + 1 ≤ 2048; omega, by show 8 + (2 + 11) + 40 * kM ≤ 84000; omega⟩ rfl rfl) (gl_K hK) hPM (gq_d2 hD) hS (fun _ h => h) rfl rfl rfl hl.1 rfl (Nat.le_of_ble_eq_true rfl) d_L_law_866 ⟨hr1.1, hr1.2⟩ (fun H2 locs2 hPM hk2 hz2 hS => ?_)
  have hP := gq_keep hP (gq_ap hD) hk2
  have hD : va_D (fun q => s.heap.size ≤ q) ((gl_o cJ oa g2 :: gp_wG E I2 F2) ++ gp_wM (gq_M E aM) J2 G2) := gp_dd hD rfl
  refine lv_istore (lv' := (6, .int b9) :: (5, .int k) :: gq_l b oa n E aM) hx hb d_L_law_869 hl (by decide) rfl (fun ls hl => ?_)
  refine lv_aload_n hx hb d_L_law_871 rfl (lv_at hl 4 rfl) ?_
  refine gp_cR (q0 := 0) (ci := 3) (As := []) (rest := []) ⟨hx, hb, hml, hown, hts⟩ (c_M_thrown l (gq_M E aM) J2 G2) (k_L_69 hts ⟨Nat.le_of_ble_eq_true rfl, Nat.le_of_ble_eq_true rfl⟩ rfl rfl) (gl_K hK) hPM rfl rfl rfl hl.1 rfl (Nat.le_of_ble_eq_true rfl) d_L_law_872 ⟨hr1.1, hr1.2⟩ ?_
  refine lv_iload hx hb d_L_law_875 (lv_at hl 1 rfl) ?_
  refine lv_icmp_eq (tgt := 882) hx hb d_L_law_877 (by decide) (fun _ => ?_) (fun h => absurd hJ0 h)
  refine lv_iload hx hb d_L_law_882 (lv_at hl 1 rfl) ?_
  have hend : W p l e room_1 s m #[Value.ref b] below meth c H2 locs2 (cells + 1) (slots + 6) Q (F0 m 899 ls []) := lv_goto (tgt := 971) hx hb d_L_law_899 (by decide) (kk I2 F2 J2 G2 g2 H2 locs2 ls hRel ⟨hP, hPM, hD, hS⟩ (lv_sub hl [2, 3, 4, 5, 6] rfl))
  refine lv_if_ne (tgt := 899) hx hb d_L_law_884 (by decide) (fun _ => hend) (fun hk => ?_)
  refine lv_aload_n hx hb d_L_law_887 rfl (lv_at hl 5 rfl) ?_
  refine lv_iconst (v := 0) hx hb d_L_law_888 (by decide) ?_
  refine va_lald (D := E.1) (cl := gp_cl) hx hb hK hP 0 2 rfl rfl gl_in1 d_L_law_889 ?_
  refine lv_iload hx hb d_L_law_890 (lv_at hl 0 rfl) ?_
  refine lv_i2l hx hb d_L_law_892 rfl ?_
  refine W.lcmp hx hb d_L_law_893 ?_
  refine lv_if_eq (tgt := 899) hx hb d_L_law_894 (by decide) (fun _ => hend) (fun h => absurd (show lg_cmp (g2 0) b9.toInt64 = 0 by rw [hk0 hk]; exact lg_cmp0 _) h)
set_option maxHeartbeats 4000000 in
set_option maxRecDepth 100000 in
theorem lc_fair {p : Program} {l : Launch} {e : Env} {s : State} {m : MethodId} {below : List Frame} {meth : Method} {c : Code} {b L : Nat} {xs : Nat → Int32} {E : gp_E} {cJ : ClassId} {aM : Nat → Nat} {oa n : Nat} {I : Nat → Int32} {F : Nat → Nat → Int32} {J : Nat → Int32} {G : Nat → Nat → Int32} {g : Nat → Int64} {H : Heap} {locs : List Loc} {cells slots : Nat} {Q : State → Prop} {ls : Array Slot} {Rel : (Nat → Int32) → (Nat → Nat → Int32) → (Nat → Int32) → (Nat → Nat → Int32) → Prop} (C : gq_C p s m c b L xs E cJ) (hw : gq_W s E cJ aM oa I F J G g H locs) (hl : lv_has ls 7 (gq_l b oa n E aM)) (hr1 : cells + 1 ≤ 665590 ∧ slots + 6 ≤ 7099334) (hp : ∃ (r : Int32) (I2 : Nat → Int32) (F2 : Nat → Nat → Int32) (J2 : Nat → Int32) (G2 : Nat → Nat → Int32) (kG kM : Nat), kG ≤ 30 ∧ kM ≤ 30 ∧ Rel I2 F2 J2 G2 ∧ gp_CW l y_G_fair b_G_fair 5 (some .int) kG E (gp_wG E I F) (gp_wG E I2 F2) [.ref (E.2.2.2 0)] (some (.int r)) ∧ gp_CW l y_M_fair b_M_fair 6 (some .int) kM (gq_M E aM) (gp_wM (gq_M E aM) J G) (gp_wM (gq_M E aM) J2 G2) [.ref (aM 0)] (some (.int r))) (kk : ∀ (I2 : Nat → Int32) (F2 : Nat → Nat → Int32) (J2 : Nat → Int32) (G2 : Nat → Nat → Int32) (g2 : Nat → Int64) (H1 : Heap) (locs1 : List Loc) (ls1 : Array Slot), Rel I2 F2 J2 G2 → gq_W s E cJ aM oa I2 F2 J2 G2 g2 H1 locs1 → lv_has ls1 7 (gq_l b oa n E aM) → W p l e room_1 s m #[Value.ref b] below meth c H1 locs1 (cells + 1) (slots + 6) Q (F0 m 971 ls1 [])) : W p l e room_1 s m #[Value.ref b] below meth c H locs cells slots Q (F0 m 902 ls []) := by
  obtain ⟨hx, hb, hml, hown, hts, hX, hbl, hK, hSt, hCt, hL⟩ := C
  obtain ⟨hP, hPM, hD, hS⟩ := hw
  obtain ⟨r, I2, F2, J2, G2, kG, kM, hkG, hkM, hRel, hG, hM⟩ := hp
  refine lv_aload_n hx hb d_L_law_902 rfl (lv_at hl 1 rfl) ?_
  refine gl_cW (A0 := fun q => s.heap.size ≤ q) (q0 := 0) (ci := 0) (As := []) (rest := []) ⟨hx, hb, hml, hown, hts⟩ hG (k_L_117 hts ⟨by show kG + 1 ≤ 2048; omega, by show 8 + (5 + 11) + 40 * kG ≤ 84000; omega⟩ rfl rfl) (gl_K hK) (gl_tl hP) (gl_td (gq_d1 hD)) hS (fun _ h => h) rfl rfl rfl hl.1 rfl (Nat.le_of_ble_eq_true rfl) d_L_law_903 ⟨by show cells + 0 ≤ 665590; omega, by show slots + 0 ≤ 7099334; omega⟩ (fun H1 locs1 hP1 hk1 hz1 hS => ?_)
  have hPM := gq_keep hPM (fun i j p q hi hj => (gq_ap hD (j + 1) i q p hj hi).symm) hk1
  have hP := gl_join hP (gq_d1 hD) hk1 hP1
  have hD : va_D (fun q => s.heap.size ≤ q) ((gl_o cJ oa g :: gp_wG E I2 F2) ++ gp_wM (gq_M E aM) J G) := gp_dd hD rfl
  refine lv_aload_n hx hb d_L_law_906 rfl (lv_at hl 2 rfl) ?_
  refine gl_cW (A0 := fun q => s.heap.size ≤ q) (q0 := 0) (ci := 3) (As := []) (rest := [.int r]) ⟨hx, hb, hml, hown, hts⟩ hM (k_L_120 hts ⟨by show kM + 1 ≤ 2048; omega, by show 8 + (6 + 11) + 40 * kM ≤ 84000; omega⟩ rfl rfl) (gl_K hK) hPM (gq_d2 hD) hS (fun _ h => h) rfl rfl rfl hl.1 rfl (Nat.le_of_ble_eq_true rfl) d_L_law_907 ⟨by show cells + 0 ≤ 665590; omega, by show slots + 0 ≤ 7099334; omega⟩ (fun H2 locs2 hPM hk2 hz2 hS => ?_)
  have hP := gq_keep hP (gq_ap hD) hk2
  have hD : va_D (fun q => s.heap.size ≤ q) ((gl_o cJ oa g :: gp_wG E I2 F2) ++ gp_wM (gq_M E aM) J2 G2) := gp_dd hD rfl
  refine lv_icmp_eq (tgt := 971) hx hb d_L_law_910 (by decide) (fun _ => ?_) (fun h => absurd rfl h)
  exact W.widen (k := cells + 1) (n := slots + 6) (by omega) (by omega) (kk I2 F2 J2 G2 g H2 locs2 ls hRel ⟨hP, hPM, hD, hS⟩ hl)
set_option maxHeartbeats 4000000 in
set_option maxRecDepth 100000 in
theorem lc_count {p : Program} {l : Launch} {e : Env} {s : State} {m : MethodId} {below : List Frame} {meth : Method} {c : Code} {b L : Nat} {xs : Nat → Int32} {E : gp_E} {cJ : ClassId} {aM : Nat → Nat} {oa n : Nat} {I : Nat → Int32} {F : Nat → Nat → Int32} {J : Nat → Int32} {G : Nat → Nat → Int32} {g : Nat → Int64} {H : Heap} {locs : List Loc} {cells slots : Nat} {Q : State → Prop} {ls : Array Slot} {Rel : (Nat → Int32) → (Nat → Nat → Int32) → (Nat → Int32) → (Nat → Nat → Int32) → Prop} (C : gq_C p s m c b L xs E cJ) (hn : n + 5 ≤ L) (hw : gq_W s E cJ aM oa I F J G g H locs) (hl : lv_has ls 7 (gq_l b oa n E aM)) (hr1 : cells + 1 ≤ 665590 ∧ slots + 6 ≤ 7099334) (hp : ∃ (k b9 : Int32) (I2 : Nat → Int32) (F2 : Nat → Nat → Int32) (J2 : Nat → Int32) (G2 : Nat → Nat → Int32) (g2 : Nat → Int64) (kM : Nat), kM ≤ 30 ∧ Rel I2 F2 J2 G2 ∧ J2 0 = k ∧ (k = 0 → g2 0 = b9.toInt64) ∧ gl_CH l y_L_count b_L_count 4 [(0, 9, 12, 21)] E cJ (gl_o cJ oa g :: gp_wG E I F) (gl_o cJ oa g2 :: gp_wG E I2 F2) [.ref (E.2.2.2 0), .int (xs (n + 1)), .ref oa] k ∧ gp_CW l y_M_count b_M_count 2 (some .int) kM (gq_M E aM) (gp_wM (gq_M E aM) J G) (gp_wM (gq_M E aM) J2 G2) [.ref (aM 0), .int (xs (n + 1))] (some (.int b9))) (kk : ∀ (I2 : Nat → Int32) (F2 : Nat → Nat → Int32) (J2 : Nat → Int32) (G2 : Nat → Nat → Int32) (g2 : Nat → Int64) (H1 : Heap) (locs1 : List Loc) (ls1 : Array Slot), Rel I2 F2 J2 G2 → gq_W s E cJ aM oa I2 F2 J2 G2 g2 H1 locs1 → lv_has ls1 7 (gq_l b oa n E aM) → W p l e room_1 s m #[Value.ref b] below meth c H1 locs1 (cells + 1) (slots + 6) Q (F0 m 971 ls1 [])) : W p l e room_1 s m #[Value.ref b] below meth c H locs cells slots Q (F0 m 915 ls []) := by
  obtain ⟨hx, hb, hml, hown, hts, hX, hbl, hK, hSt, hCt, hL⟩ := C
  obtain ⟨hP, hPM, hD, hS⟩ := hw
  obtain ⟨k, b9, I2, F2, J2, G2, g2, kM, hkM, hRel, hJ0, hk0, hH, hM⟩ := hp
  refine lv_aload_n hx hb d_L_law_915 rfl (lv_at hl 1 rfl) ?_
  refine lv_aload_n hx hb d_L_law_916 rfl (lv_at hl 0 rfl) ?_
  refine lv_iload hx hb d_L_law_917 (lv_at hl 4 rfl) ?_
  refine lv_iconst (v := 1) hx hb d_L_law_919 (by decide) ?_
  refine lv_iadd hx hb d_L_law_920 ?_
  refine gq_sld hx hb hX hbl hS (n + 1) (nI_add n 1) (by omega) hL d_L_law_921 ?_
  refine lv_aload_n hx hb d_L_law_922 rfl (lv_at hl 3 rfl) ?_
  refine gl_cH (As := [.ref (E.2.2.2 0), .int (xs (n + 1)), .ref oa]) (rest := []) ⟨hx, hb, hml, hown, hts⟩ hH (hts _ w3_38) (hts _ w3_39) (hts _ w1_0) w3_40 (by decide) (gq_len (n := 3) (by decide +kernel) rfl) ⟨Nat.le_of_ble_eq_true rfl, Nat.le_of_ble_eq_true rfl⟩ hK hP (gq_d1 hD) hS (fun _ h => h) (fun _ h => Nat.not_le.mpr h) hSt hCt hl.1 rfl (Nat.le_of_ble_eq_true rfl) d_L_law_923 ⟨hr1.1, hr1.2⟩ (fun H1 locs1 hP hk1 hz1 hS => ?_)
  have hPM := gq_keep hPM (fun i j p q hi hj => (gq_ap hD j i q p hj hi).symm) hk1
  have hD : va_D (fun q => s.heap.size ≤ q) ((gl_o cJ oa g2 :: gp_wG E I2 F2) ++ gp_wM (gq_M E aM) J G) := gp_dd hD rfl
  refine lv_istore (lv' := (5, .int k) :: gq_l b oa n E aM) hx hb d_L_law_926 hl (by decide) rfl (fun ls hl => ?_)
  refine lv_aload_n hx hb d_L_law_928 rfl (lv_at hl 3 rfl) ?_
  refine lv_aload_n hx hb d_L_law_929 rfl (lv_at hl 1 rfl) ?_
  refine lv_iload hx hb d_L_law_930 (lv_at hl 5 rfl) ?_
  refine lv_iconst (v := 1) hx hb d_L_law_932 (by decide) ?_
  refine lv_iadd hx hb d_L_law_933 ?_
  refine gq_sld hx hb hX hbl hS (n + 1) (nI_add n 1) (by omega) hL d_L_law_934 ?_
  refine gl_cW (A0 := fun q => s.heap.size ≤ q) (q0 := 0) (ci := 3) (As := [.int (xs (n + 1))]) (rest := []) ⟨hx, hb, hml, hown, hts⟩ hM (k_L_123 hts ⟨by show kM + 1 ≤ 2048; omega, by show 8 + (2 + 11) + 40 * kM ≤ 84000; omega⟩ rfl rfl) (gl_K hK) hPM (gq_d2 hD) hS (fun _ h => h) rfl rfl rfl hl.1 rfl (Nat.le_of_ble_eq_true rfl) d_L_law_935 ⟨hr1.1, hr1.2⟩ (fun H2 locs2 hPM hk2 hz2 hS => ?_)
  have hP := gq_keep hP (gq_ap hD) hk2
  have hD : va_D (fun q => s.heap.size ≤ q) ((gl_o cJ oa g2 :: gp_wG E I2 F2) ++ gp_wM (gq_M E aM) J2 G2) := gp_dd hD rfl
  refine lv_istore (lv' := (6, .int b9) :: (5, .int k) :: gq_l b oa n E aM) hx hb d_L_law_938 hl (by decide) rfl (fun ls hl => ?_)
  refine lv_aload_n hx hb d_L_law_940 rfl (lv_at hl 4 rfl) ?_
  refine gp_cR (q0 := 0) (ci := 3) (As := []) (rest := []) ⟨hx, hb, hml, hown, hts⟩ (c_M_thrown l (gq_M E aM) J2 G2) (k_L_69 hts ⟨Nat.le_of_ble_eq_true rfl, Nat.le_of_ble_eq_true rfl⟩ rfl rfl) (gl_K hK) hPM rfl rfl rfl hl.1 rfl (Nat.le_of_ble_eq_true rfl) d_L_law_941 ⟨hr1.1, hr1.2⟩ ?_
  refine lv_iload hx hb d_L_law_944 (lv_at hl 1 rfl) ?_
  refine lv_icmp_eq (tgt := 951) hx hb d_L_law_946 (by decide) (fun _ => ?_) (fun h => absurd hJ0 h)
  refine lv_iload hx hb d_L_law_951 (lv_at hl 1 rfl) ?_
  have hend : W p l e room_1 s m #[Value.ref b] below meth c H2 locs2 (cells + 1) (slots + 6) Q (F0 m 968 ls []) := lv_goto (tgt := 971) hx hb d_L_law_968 (by decide) (kk I2 F2 J2 G2 g2 H2 locs2 ls hRel ⟨hP, hPM, hD, hS⟩ (lv_sub hl [2, 3, 4, 5, 6] rfl))
  refine lv_if_ne (tgt := 968) hx hb d_L_law_953 (by decide) (fun _ => hend) (fun hk => ?_)
  refine lv_aload_n hx hb d_L_law_956 rfl (lv_at hl 5 rfl) ?_
  refine lv_iconst (v := 0) hx hb d_L_law_957 (by decide) ?_
  refine va_lald (D := E.1) (cl := gp_cl) hx hb hK hP 0 2 rfl rfl gl_in1 d_L_law_958 ?_
  refine lv_iload hx hb d_L_law_959 (lv_at hl 0 rfl) ?_
  refine lv_i2l hx hb d_L_law_961 rfl ?_
  refine W.lcmp hx hb d_L_law_962 ?_
  refine lv_if_eq (tgt := 968) hx hb d_L_law_963 (by decide) (fun _ => hend) (fun h => absurd (show lg_cmp (g2 0) b9.toInt64 = 0 by rw [hk0 hk]; exact lg_cmp0 _) h)
