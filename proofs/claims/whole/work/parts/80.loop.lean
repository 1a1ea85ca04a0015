/-! ===== the law's loop ===== -/
theorem lq_15 (x : Int32) : ∃ k, k < 16 ∧ x &&& 15 = nI k := by
  refine ⟨(x.toBitVec &&& 15#32).toNat, ?_, ?_⟩
  · rw [BitVec.toNat_and]
    exact Nat.lt_of_le_of_lt Nat.and_le_right (by decide)
  · refine Int32.toBitVec_inj.mp ?_
    rw [Int32.toBitVec_and]
    show x.toBitVec &&& 15#32 = BitVec.ofNat 32 _
    rw [BitVec.ofNat_toNat, BitVec.setWidth_eq]
theorem lq_le {L n : Nat} (hL : L ≤ 2560) (hn : n ≤ 3000) (h : ¬ nI L - 5 < nI n) : n + 5 ≤ L := by
  by_cases c : 5 ≤ L
  · have e : nI L - 5 = nI (L - 5) := by
      rw [show (5 : Int32) = nI 5 from rfl]
      generalize hd : L - 5 = d
      rw [show L = d + 5 by omega, pz_sub]
    rw [e, nI_ltI (by omega) (by omega)] at h
    omega
  · have h1 : ∀ L, L < 5 → nI L - 5 ≤ -1 := by decide
    exact absurd (Int32.lt_of_le_of_lt (h1 L (by omega)) (pz_mlt (m := n) (by omega))) h

section LqL
variable {p : Program} {l : Launch} {e : Env} {s : State} {m : MethodId} {below : List Frame} {meth : Method} {c : Code} {b L : Nat} {xs : Nat → Int32} {E : gp_E} {cJ : ClassId} {aM : Nat → Nat} {oa : Nat} {Q : State → Prop}
set_option maxHeartbeats 4000000 in
set_option maxRecDepth 100000 in
theorem lq_step {n : Nat} {I : Nat → Int32} {F : Nat → Nat → Int32} {J : Nat → Int32} {G : Nat → Nat → Int32} {g : Nat → Int64} {H : Heap} {locs : List Loc} {cells slots : Nat} {ls : Array Slot} (C : gq_C p s m c b L xs E cJ) (hlt : l.stackTraces = false) (hn9 : n ≤ 3000) (hR : gr_Rel I F J G) (hw : gq_W s E cJ aM oa I F J G g H locs) (hl : lv_has ls 7 (gq_l b oa n E aM)) (hr1 : cells + 1 ≤ 665590 ∧ slots + 6 ≤ 7099334)
    (kend : ∀ ls : Array Slot, W p l e room_1 s m #[Value.ref b] below meth c H locs cells slots Q (F0 m 977 ls []))
    (knext : n + 5 ≤ L → ∀ (I2 : Nat → Int32) (F2 : Nat → Nat → Int32) (J2 : Nat → Int32) (G2 : Nat → Nat → Int32) (g2 : Nat → Int64) (H1 : Heap) (locs1 : List Loc) (ls1 : Array Slot), gr_Rel I2 F2 J2 G2 → gq_W s E cJ aM oa I2 F2 J2 G2 g2 H1 locs1 → lv_has ls1 7 (gq_l b oa (n + 5) E aM) → W p l e room_1 s m #[Value.ref b] below meth c H1 locs1 (cells + 1) (slots + 6) Q (F0 m 23 ls1 [])) :
    W p l e room_1 s m #[Value.ref b] below meth c H locs cells slots Q (F0 m 23 ls []) := by
  have C0 := C
  have hw0 := hw
  obtain ⟨hx, hb, hml, hown, hts, hX, hbl, hK, hSt, hCt, hL⟩ := C
  obtain ⟨hP, hPM, hD, hS⟩ := hw
  refine lv_iload hx hb d_L_law_23 (lv_at hl 4 rfl) ?_
  refine lv_aload_n hx hb d_L_law_25 rfl (lv_at hl 0 rfl) ?_
  refine va_slen hx hb hX hbl (Nat.not_le.mpr hbl) hS d_L_law_26 ?_
  refine lv_iconst (v := 5) hx hb d_L_law_27 (by decide) ?_
  refine lv_isub hx hb d_L_law_28 ?_
  refine lv_icmp_gt (tgt := 977) hx hb d_L_law_29 (by decide) (fun _ => kend ls) (fun hc => ?_)
  have hn : n + 5 ≤ L := lq_le hL hn9 hc
  refine lv_aload_n hx hb d_L_law_32 rfl (lv_at hl 0 rfl) ?_
  refine lv_iload hx hb d_L_law_33 (lv_at hl 4 rfl) ?_
  refine gq_sld hx hb hX hbl hS n rfl (by omega) hL d_L_law_35 ?_
  refine lv_bipush (v := 15) hx hb d_L_law_36 (by decide) ?_
  refine lv_iand hx hb d_L_law_38 ?_
  have kk : ∀ (I2 : Nat → Int32) (F2 : Nat → Nat → Int32) (J2 : Nat → Int32) (G2 : Nat → Nat → Int32) (g2 : Nat → Int64) (H1 : Heap) (locs1 : List Loc) (ls1 : Array Slot), gr_Rel I2 F2 J2 G2 → gq_W s E cJ aM oa I2 F2 J2 G2 g2 H1 locs1 → lv_has ls1 7 (gq_l b oa n E aM) → W p l e room_1 s m #[Value.ref b] below meth c H1 locs1 (cells + 1) (slots + 6) Q (F0 m 971 ls1 []) := by
    intro I2 F2 J2 G2 g2 H1 locs1 ls1 hR2 hw2 hl2
    refine lv_iinc (k := 4) (v := nI (n + 5)) (lv' := [(4, .int (nI (n + 5))), (0, .ref b), (1, .ref (E.2.2.2 0)), (2, .ref (aM 0)), (3, .ref oa)]) hx hb d_L_law_971 hl2 rfl (nI_add n 5) (by decide) rfl (fun ls hl => ?_)
    exact lv_goto (tgt := 23) hx hb d_L_law_974 (by decide) (knext hn I2 F2 J2 G2 g2 H1 locs1 ls hR2 hw2 (lv_sub hl [1, 2, 3, 4, 0] rfl))
  obtain ⟨k, hk, ek⟩ := lq_15 (xs n)
  rw [ek]
  have hcase : k = 0 ∨ k = 1 ∨ k = 2 ∨ k = 3 ∨ k = 4 ∨ k = 5 ∨ k = 6 ∨ k = 7 ∨ k = 8 ∨ k = 9 ∨ k = 10 ∨ k = 11 ∨ k = 12 ∨ k = 13 ∨ k = 14 ∨ k = 15 := by omega
  rcases hcase with rfl | rfl | rfl | rfl | rfl | rfl | rfl | rfl | rfl | rfl | rfl | rfl | rfl | rfl | rfl | rfl
  · exact lv_tableIn (off := 77) (tgt := 116) hx hb d_L_law_39 (by decide) (by decide) (by decide) (by decide) (lc_person C0 hn hw0 hl hr1 (pr_person hlt hR) kk)
  · exact lv_tableIn (off := 133) (tgt := 172) hx hb d_L_law_39 (by decide) (by decide) (by decide) (by decide) (lc_off C0 hn hw0 hl hr1 (pr_off hlt hR) kk)
  · exact lv_tableIn (off := 213) (tgt := 252) hx hb d_L_law_39 (by decide) (by decide) (by decide) (by decide) (lc_task C0 hn hw0 hl hr1 (pr_task hlt hR) kk)
  · exact lv_tableIn (off := 321) (tgt := 360) hx hb d_L_law_39 (by decide) (by decide) (by decide) (by decide) (lc_rest C0 hn hw0 hl hr1 (pr_rest hlt hR) kk)
  · exact lv_tableIn (off := 377) (tgt := 416) hx hb d_L_law_39 (by decide) (by decide) (by decide) (by decide) (lc_limit C0 hn hw0 hl hr1 (pr_limit hlt hR) kk)
  · exact lv_tableIn (off := 433) (tgt := 472) hx hb d_L_law_39 (by decide) (by decide) (by decide) (by decide) (lc_freeze C0 hn hw0 hl hr1 (pr_freeze hlt hR) kk)
  · exact lv_tableIn (off := 489) (tgt := 528) hx hb d_L_law_39 (by decide) (by decide) (by decide) (by decide) (lc_run C0 hw0 hl hr1 (pr_run hR) kk)
  · exact lv_tableIn (off := 502) (tgt := 541) hx hb d_L_law_39 (by decide) (by decide) (by decide) (by decide) (lc_told C0 hw0 hl hr1 (pr_told hR) kk)
  · exact lv_tableIn (off := 515) (tgt := 554) hx hb d_L_law_39 (by decide) (by decide) (by decide) (by decide) (lc_of C0 hn hw0 hl hr1 (pr_of hlt hR) kk)
  · exact lv_tableIn (off := 571) (tgt := 610) hx hb d_L_law_39 (by decide) (by decide) (by decide) (by decide) (lc_cost C0 hn hw0 hl hr1 (pr_cost (xs := xs) (n := n) hlt hR) kk)
  · exact lv_tableIn (off := 615) (tgt := 654) hx hb d_L_law_39 (by decide) (by decide) (by decide) (by decide) (lc_absent C0 hn hw0 hl hr1 (pr_absent hlt hR) kk)
  · exact lv_tableIn (off := 683) (tgt := 722) hx hb d_L_law_39 (by decide) (by decide) (by decide) (by decide) (lc_changed C0 hn hw0 hl hr1 (pr_changed hlt hR) kk)
  · exact lv_tableIn (off := 739) (tgt := 778) hx hb d_L_law_39 (by decide) (by decide) (by decide) (by decide) (lc_swap C0 hn hw0 hl hr1 (pr_swap hlt hR) kk)
  · exact lv_tableIn (off := 807) (tgt := 846) hx hb d_L_law_39 (by decide) (by decide) (by decide) (by decide) (lc_work C0 hn hw0 hl hr1 (pr_work hlt hR) kk)
  · exact lv_tableIn (off := 863) (tgt := 902) hx hb d_L_law_39 (by decide) (by decide) (by decide) (by decide) (lc_fair C0 hw0 hl hr1 (pr_fair hR) kk)
  · exact lv_tableIn (off := 876) (tgt := 915) hx hb d_L_law_39 (by decide) (by decide) (by decide) (by decide) (lc_count C0 hn hw0 hl hr1 (pr_count hlt hR) kk)
theorem lq_loop (C : gq_C p s m c b L xs E cJ) (hlt : l.stackTraces = false) (kend : ∀ (H : Heap) (locs : List Loc) (cells slots : Nat) (ls : Array Slot), va_S (fun q => s.heap.size ≤ q) s.heap H locs → cells ≤ 2000 → slots ≤ 20000 → W p l e room_1 s m #[Value.ref b] below meth c H locs cells slots Q (F0 m 977 ls [])) :
    ∀ (k n : Nat), L + 1 ≤ n + 5 * k → n ≤ 2565 → ∀ (I : Nat → Int32) (F : Nat → Nat → Int32) (J : Nat → Int32) (G : Nat → Nat → Int32) (g : Nat → Int64) (H : Heap) (locs : List Loc) (cells slots : Nat) (ls : Array Slot), gr_Rel I F J G → gq_W s E cJ aM oa I F J G g H locs → lv_has ls 7 (gq_l b oa n E aM) → cells + k ≤ 1900 → slots + 6 * k ≤ 19000 → W p l e room_1 s m #[Value.ref b] below meth c H locs cells slots Q (F0 m 23 ls []) := by
  have hL : L ≤ 2560 := C.2.2.2.2.2.2.2.2.2.2
  intro k
  induction k with
  | zero =>
    intro n h1 h2 I F J G g H locs cells slots ls hR hw hl hc hs
    exact lq_step C hlt (by omega) hR hw hl ⟨by omega, by omega⟩ (fun ls => kend H locs cells slots ls hw.2.2.2 (by omega) (by omega)) (fun h => absurd h (by omega))
  | succ k ih =>
    intro n h1 h2 I F J G g H locs cells slots ls hR hw hl hc hs
    exact lq_step C hlt (by omega) hR hw hl ⟨by omega, by omega⟩ (fun ls => kend H locs cells slots ls hw.2.2.2 (by omega) (by omega)) (fun h I2 F2 J2 G2 g2 H1 locs1 ls1 hR2 hw2 hl2 => ih (n + 5) (by omega) (by omega) I2 F2 J2 G2 g2 H1 locs1 (cells + 1) (slots + 6) ls1 hR2 hw2 hl2 (by omega) (by omega))
end LqL
