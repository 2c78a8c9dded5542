section LL
variable {p : Program} {e : Env} {s : State} {m : MethodId} {below : List Frame} {meth : Method} {c : Code} {Q : State → Prop} {D : va_G} {cI cZ cQ : ClassId} {b0 L k9 : Nat} {xs : Nat → Int32}
variable {H : Heap} {locs : List Loc} {ls : Array Slot} {N : Nat → Nat → Nat} {S : Nat → Nat → Int32} {w : mm_M} {sz : Nat}
set_option maxHeartbeats 4000000 in
set_option maxRecDepth 100000 in
theorem lw_next (l : Launch) (hx : p.tables.exec = Jvm.exec) (hb : c.code = code) {cells slots : Nat} (hl : lv_has ls 4 [(3, .int (nI (6 * k9))), (2, .ref (s.heap.size + 14)), (1, .ref s.heap.size), (0, .ref b0)]) (kk : ∀ ls : Array Slot, lv_has ls 4 [(3, .int (nI (6 * (k9 + 1)))), (2, .ref (s.heap.size + 14)), (1, .ref s.heap.size), (0, .ref b0)] → W p l e room_1 s m #[Value.ref b0] below meth c H locs cells slots Q (F0 m 18 ls [])) : W p l e room_1 s m #[Value.ref b0] below meth c H locs cells slots Q (F0 m 740 ls []) := by
  refine lv_iinc (k := 0) (v := nI (6 * (k9 + 1))) hx hb d_Law_law_740 hl rfl (lw_six k9) (by decide) rfl (fun ls hl => ?_)
  have hl : lv_has ls 4 [(3, .int (nI (6 * (k9 + 1)))), (2, .ref (s.heap.size + 14)), (1, .ref s.heap.size), (0, .ref b0)] := hl
  refine lv_goto (tgt := 18) hx hb d_Law_law_743 (by decide) ?_
  exact kk ls hl
set_option maxHeartbeats 4000000 in
set_option maxRecDepth 100000 in
theorem lw_loop (l : Launch) (C : lw_C p s m c D cI cZ cQ b0 L xs) (hr : meth.sig.returnType = ret) (hlocks : meth.locks = false) : ∀ (d k9 : Nat) (ls : Array Slot) (N : Nat → Nat → Nat) (S : Nat → Nat → Int32) (w : mm_M) (sz : Nat) (H : Heap) (locs : List Loc), d = L - 6 * k9 → 6 * k9 ≤ L → mm_P s.heap.size D kc w H → H.size = sz → mm_S s.heap.size s.heap H locs → lw_J s.heap.size cI cZ cQ k9 sz N S w → lv_has ls 4 [(3, .int (nI (6 * k9))), (2, .ref (s.heap.size + 14)), (1, .ref s.heap.size), (0, .ref b0)] → W p l e room_1 s m #[Value.ref b0] below meth c H locs (31 + 5 * k9) (1015 + 17 * k9) (lw_Z below #[Value.ref b0] s) (F0 m 18 ls []) := by
  intro d
  induction d using Nat.strongRecOn with
  | ind d ih =>
    intro k9 ls N S w sz H locs hd hk9 hP hz hS hJ hl
    have C9 := C
    obtain ⟨hx, hb, hml, hown, hts, hK, hX, hbl, hL⟩ := C9
    refine lv_iload_n hx hb d_Law_law_18 rfl (lv_at hl 0 rfl) ?_
    refine lv_aload_n hx hb d_Law_law_19 rfl (lv_at hl 3 rfl) ?_
    refine va_slen (A := fun q => s.heap.size ≤ q) hx hb hX hbl (Nat.not_le.mpr hbl) hS d_Law_law_20 ?_
    refine lv_bipush (v := nI 6) hx hb d_Law_law_21 (by decide) ?_
    refine lv_isub hx hb d_Law_law_23 ?_
    refine lv_icmp_gt (tgt := 746) hx hb d_Law_law_24 (by decide) (fun _ => ?_) (fun h6 => ?_)
    · refine lv_iconst (v := 1) hx hb d_Law_law_746 (by decide) ?_
      refine va_forget (fun q hq => hS.2.2 q hq) ?_
      refine W.widen (k := 763340) (n := 6812228) (by omega) (by omega) ?_
      exact lw_ret hx hb hr hlocks d_Law_law_747
    have hk : 6 * k9 + 6 ≤ L := lw_le hL (by omega) h6
    have kk : ∀ (N1 : Nat → Nat → Nat) (S1 : Nat → Nat → Int32) (w1 : mm_M) (sz1 : Nat) (H1 : Heap) (locs1 : List Loc), mm_P s.heap.size D kc w1 H1 → H1.size = sz1 → mm_S s.heap.size s.heap H1 locs1 → lw_J s.heap.size cI cZ cQ (k9 + 1) sz1 N1 S1 w1 → W p l e room_1 s m #[Value.ref b0] below meth c H1 locs1 (31 + 5 * (k9 + 1)) (1015 + 17 * (k9 + 1)) (lw_Z below #[Value.ref b0] s) (F0 m 740 ls []) := fun N1 S1 w1 sz1 H1 locs1 hP1 hz1 hS1 hJ1 => lw_next l hx hb hl (fun ls1 hl1 => ih _ (by omega) (k9 + 1) ls1 N1 S1 w1 sz1 H1 locs1 rfl (by omega) hP1 hz1 hS1 hJ1 hl1)
    refine lv_aload_n hx hb d_Law_law_27 rfl (lv_at hl 3 rfl) ?_
    refine lv_iload_n hx hb d_Law_law_28 rfl (lv_at hl 0 rfl) ?_
    refine va_sld (A := fun q => s.heap.size ≤ q) hx hb hX hbl (Nat.not_le.mpr hbl) hS (lw_vin (by omega) hL) d_Law_law_29 ?_
    refine lv_bipush (v := nI 31) hx hb d_Law_law_30 (by decide) ?_
    refine lv_iand hx hb d_Law_law_32 ?_
    obtain ⟨j, hj, hje⟩ := pk_andE (xs (nI (6 * k9)).toNatClampNeg) (m := nI 31) 5 (by decide)
    refine kk_top hje ?_
    clear hje
    rcases (show j = 0 ∨ j = 1 ∨ j = 2 ∨ j = 3 ∨ j = 4 ∨ j = 5 ∨ j = 6 ∨ j = 7 ∨ j = 8 ∨ j = 9 ∨ j = 10 ∨ j = 11 ∨ j = 12 ∨ j = 13 ∨ j = 14 ∨ j = 15 ∨ j = 16 ∨ j = 17 ∨ 18 ≤ j by omega) with rfl | rfl | rfl | rfl | rfl | rfl | rfl | rfl | rfl | rfl | rfl | rfl | rfl | rfl | rfl | rfl | rfl | rfl | hj2
    · refine lv_tableIn (off := 87) (tgt := 120) hx hb d_Law_law_33 (by decide +kernel) (by decide +kernel) (by decide +kernel) (by decide) ?_
      exact lc_name l C hk hP hz hS hJ hl kk
    · refine lv_tableIn (off := 150) (tgt := 183) hx hb d_Law_law_33 (by decide +kernel) (by decide +kernel) (by decide +kernel) (by decide) ?_
      exact lc_permit l C hk hP hz hS hJ hl kk
    · refine lv_tableIn (off := 229) (tgt := 262) hx hb d_Law_law_33 (by decide +kernel) (by decide +kernel) (by decide +kernel) (by decide) ?_
      exact lc_tag l C hk hP hz hS hJ hl kk
    · refine lv_tableIn (off := 282) (tgt := 315) hx hb d_Law_law_33 (by decide +kernel) (by decide +kernel) (by decide +kernel) (by decide) ?_
      exact lc_also l C hk hP hz hS hJ hl kk
    · refine lv_tableIn (off := 315) (tgt := 348) hx hb d_Law_law_33 (by decide +kernel) (by decide +kernel) (by decide +kernel) (by decide) ?_
      exact lc_quorum l C hk hP hz hS hJ hl kk
    · refine lv_tableIn (off := 348) (tgt := 381) hx hb d_Law_law_33 (by decide +kernel) (by decide +kernel) (by decide +kernel) (by decide) ?_
      exact lc_revoke l C hk hP hz hS hJ hl kk
    · refine lv_tableIn (off := 371) (tgt := 404) hx hb d_Law_law_33 (by decide +kernel) (by decide +kernel) (by decide +kernel) (by decide) ?_
      exact lc_certificates l C hk hP hz hS hJ hl kk
    · refine lv_tableIn (off := 384) (tgt := 417) hx hb d_Law_law_33 (by decide +kernel) (by decide +kernel) (by decide +kernel) (by decide) ?_
      exact lc_meant l C hk hP hz hS hJ hl kk
    · refine lv_tableIn (off := 417) (tgt := 450) hx hb d_Law_law_33 (by decide +kernel) (by decide +kernel) (by decide +kernel) (by decide) ?_
      exact lc_cost l C hk hP hz hS hJ hl kk
    · refine lv_tableIn (off := 460) (tgt := 493) hx hb d_Law_law_33 (by decide +kernel) (by decide +kernel) (by decide +kernel) (by decide) ?_
      exact lc_may l C hk hP hz hS hJ hl kk
    · refine lv_tableIn (off := 513) (tgt := 546) hx hb d_Law_law_33 (by decide +kernel) (by decide +kernel) (by decide +kernel) (by decide) ?_
      exact lc_holders l C hk hP hz hS hJ hl kk
    · refine lv_tableIn (off := 556) (tgt := 589) hx hb d_Law_law_33 (by decide +kernel) (by decide +kernel) (by decide +kernel) (by decide) ?_
      exact lc_begin l C hk hP hz hS hJ hl kk
    · refine lv_tableIn (off := 579) (tgt := 612) hx hb d_Law_law_33 (by decide +kernel) (by decide +kernel) (by decide +kernel) (by decide) ?_
      exact lc_follow l C hk hP hz hS hJ hl kk
    · refine lv_tableIn (off := 602) (tgt := 635) hx hb d_Law_law_33 (by decide +kernel) (by decide +kernel) (by decide +kernel) (by decide) ?_
      exact lc_head l C hk hP hz hS hJ hl kk
    · refine lv_tableIn (off := 615) (tgt := 648) hx hb d_Law_law_33 (by decide +kernel) (by decide +kernel) (by decide +kernel) (by decide) ?_
      exact lc_behind l C hk hP hz hS hJ hl kk
    · refine lv_tableIn (off := 638) (tgt := 671) hx hb d_Law_law_33 (by decide +kernel) (by decide +kernel) (by decide +kernel) (by decide) ?_
      exact lc_grants l C hk hP hz hS hJ hl kk
    · refine lv_tableIn (off := 681) (tgt := 714) hx hb d_Law_law_33 (by decide +kernel) (by decide +kernel) (by decide +kernel) (by decide) ?_
      exact lc_used l C hk hP hz hS hJ hl kk
    · refine lv_tableIn (off := 694) (tgt := 727) hx hb d_Law_law_33 (by decide +kernel) (by decide +kernel) (by decide +kernel) (by decide) ?_
      exact lc_delegates l C hk hP hz hS hJ hl kk
    · have hj3 : j < 32 := hj
      refine lv_tableOut (tgt := 740) hx hb d_Law_law_33 (Or.inr (by rw [nI_toInt (by omega)]; omega)) (by decide) ?_
      refine W.widen (k := 31 + 5 * (k9 + 1)) (n := 1015 + 17 * (k9 + 1)) (by omega) (by omega) ?_
      exact kk N S w sz H locs hP hz hS ⟨hJ.1, hJ.2.1, hJ.2.2.1, hJ.2.2.2.up⟩
end LL
