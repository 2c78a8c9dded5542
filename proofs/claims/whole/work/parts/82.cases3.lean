section LC
variable {p : Program} {e : Env} {s : State} {m : MethodId} {below : List Frame} {meth : Method} {c : Code} {Q : State → Prop} {D : va_G} {cI cZ cQ : ClassId} {b0 L k9 : Nat} {xs : Nat → Int32}
variable {H : Heap} {locs : List Loc} {ls : Array Slot} {N : Nat → Nat → Nat} {S : Nat → Nat → Int32} {w : mm_M} {sz : Nat}
set_option maxHeartbeats 4000000 in
set_option maxRecDepth 100000 in
theorem lc_follow (l : Launch) (C : lw_C p s m c D cI cZ cQ b0 L xs) (hk : 6 * k9 + 6 ≤ L) (hP : mm_P s.heap.size D kc w H) (hz : H.size = sz) (hS : mm_S s.heap.size s.heap H locs) (hJ : lw_J s.heap.size cI cZ cQ k9 sz N S w) (hl : lv_has ls 4 [(3, .int (nI (6 * k9))), (2, .ref (s.heap.size + 14)), (1, .ref s.heap.size), (0, .ref b0)])
    (kk : ∀ (N1 : Nat → Nat → Nat) (S1 : Nat → Nat → Int32) (w1 : mm_M) (sz1 : Nat) (H1 : Heap) (locs1 : List Loc), mm_P s.heap.size D kc w1 H1 → H1.size = sz1 → mm_S s.heap.size s.heap H1 locs1 → lw_J s.heap.size cI cZ cQ (k9 + 1) sz1 N1 S1 w1 → W p l e room_1 s m #[Value.ref b0] below meth c H1 locs1 (31 + 5 * (k9 + 1)) (1015 + 17 * (k9 + 1)) Q (F0 m 740 ls [])) : W p l e room_1 s m #[Value.ref b0] below meth c H locs (31 + 5 * k9) (1015 + 17 * k9) Q (F0 m 612 ls []) := by
  obtain ⟨hx, hb, hml, hown, hts, hK, hX, hbl, hL⟩ := C
  obtain ⟨hXI, hM1, hsz, hG⟩ := hJ
  have hG9 := hG
  obtain ⟨hR, hCh, h7, hn, hu⟩ := hG9
  have hX9 := hXI
  obtain ⟨T0, U0, ad0, hx0, -, -⟩ := hX9
  refine lv_aload_n hx hb d_Law_law_612 rfl (lv_at hl 2 rfl) ?_
  refine lw_rd hx hb hX hbl hL hk hS hl 1 (by decide) (by decide) d_Law_law_613 d_Law_law_614 d_Law_law_615 d_Law_law_616 d_Law_law_617 ?_
  refine kk_calli (va_runV (As := [.int (xs (6 * k9 + 1))]) (rest := []) ⟨hx, hb, hml, hown, hts⟩ (c_X_follow l hXI hR hCh) (cwV 1 hts (gW_in (hd := [_, _, _, _, _]) (kk_5 wd_429 wd_430 wd_431 wd_1 cw_X_follow)) rfl rfl rfl ⟨rfl, ds_X_follow⟩ ⟨Nat.le_of_ble_eq_true rfl, Nat.le_of_ble_eq_true rfl⟩) (kk_preV hK hP hz (by omega) hx0.2.1 rfl) rfl rfl hl.1 rfl (lv_room (Nat.le_of_ble_eq_true rfl)) d_Law_law_618 ⟨show 31 + 5 * k9 + 0 ≤ 763340 by omega, show 1015 + 17 * k9 + 0 ≤ 6812228 by omega⟩) hS (fun r1 w1 sz1 H locs hp1 hP hz hS => ?_)
  obtain ⟨hr1, hX1, hk1, hs1⟩ := hp1
  have hM1 := hM1.keep hk1
  have hsz1 : s.heap.size + 31 ≤ sz1 := by omega
  refine lv_aload_n hx hb d_Law_law_621 rfl (lv_at hl 1 rfl) ?_
  refine lw_rd hx hb hX hbl hL hk hS hl 1 (by decide) (by decide) d_Law_law_622 d_Law_law_623 d_Law_law_624 d_Law_law_625 d_Law_law_626 ?_
  refine kk_calli (va_runV (As := [.int (xs (6 * k9 + 1))]) (rest := [.int r1]) ⟨hx, hb, hml, hown, hts⟩ (c_Mod_follow l hM1 hn hR hCh) (cwV 1 hts (gW_in (hd := [_, _, _, _, _]) (kk_5 wd_694 wd_695 wd_696 wd_8 cw_Mod_follow)) rfl rfl rfl ⟨rfl, ds_Mod_follow⟩ ⟨Nat.le_of_ble_eq_true rfl, Nat.le_of_ble_eq_true rfl⟩) (kk_preV hK hP hz (by omega) hM1.1 rfl) rfl rfl hl.1 rfl (lv_room (Nat.le_of_ble_eq_true rfl)) d_Law_law_627 ⟨show 31 + 5 * k9 + 0 + 0 ≤ 763340 by omega, show 1015 + 17 * k9 + 0 + 0 ≤ 6812228 by omega⟩) hS (fun r2 w2 sz2 H2 locs2 hp2 hP2 hz2 hS2 => ?_)
  obtain ⟨hr2, hM2, hk2, hs2⟩ := hp2
  refine lv_icmp_eq (tgt := 740) hx hb d_Law_law_630 (by decide) (fun _ => ?_) (fun h9 => absurd (hr1.trans hr2.symm) h9)
  refine W.widen (k := 31 + 5 * (k9 + 1)) (n := 1015 + 17 * (k9 + 1)) (by omega) (by omega) ?_
  subst hs2
  exact kk (fo_N N (xs (6 * k9 + 1))) (fo_S N S (xs (6 * k9 + 1))) w2 _ H2 locs2 hP2 hz2 hS2 ⟨xs_keep hX1 hk2, hM2, hsz1, hG.fo (by omega) _⟩
set_option maxHeartbeats 4000000 in
set_option maxRecDepth 100000 in
theorem lc_head (l : Launch) (C : lw_C p s m c D cI cZ cQ b0 L xs) (hk : 6 * k9 + 6 ≤ L) (hP : mm_P s.heap.size D kc w H) (hz : H.size = sz) (hS : mm_S s.heap.size s.heap H locs) (hJ : lw_J s.heap.size cI cZ cQ k9 sz N S w) (hl : lv_has ls 4 [(3, .int (nI (6 * k9))), (2, .ref (s.heap.size + 14)), (1, .ref s.heap.size), (0, .ref b0)])
    (kk : ∀ (N1 : Nat → Nat → Nat) (S1 : Nat → Nat → Int32) (w1 : mm_M) (sz1 : Nat) (H1 : Heap) (locs1 : List Loc), mm_P s.heap.size D kc w1 H1 → H1.size = sz1 → mm_S s.heap.size s.heap H1 locs1 → lw_J s.heap.size cI cZ cQ (k9 + 1) sz1 N1 S1 w1 → W p l e room_1 s m #[Value.ref b0] below meth c H1 locs1 (31 + 5 * (k9 + 1)) (1015 + 17 * (k9 + 1)) Q (F0 m 740 ls [])) : W p l e room_1 s m #[Value.ref b0] below meth c H locs (31 + 5 * k9) (1015 + 17 * k9) Q (F0 m 635 ls []) := by
  obtain ⟨hx, hb, hml, hown, hts, hK, hX, hbl, hL⟩ := C
  obtain ⟨hXI, hM1, hsz, hG⟩ := hJ
  have hG9 := hG
  obtain ⟨hR, hCh, h7, hn, hu⟩ := hG9
  have hX9 := hXI
  obtain ⟨T0, U0, ad0, hx0, -, -⟩ := hX9
  refine lv_aload_n hx hb d_Law_law_635 rfl (lv_at hl 2 rfl) ?_
  refine vp_callSi (va_Run.run (va_runV (As := []) (rest := []) ⟨hx, hb, hml, hown, hts⟩ (c_X_head l hXI hR hCh) (cwV 0 hts (gW_in (hd := [_, _, _, _, _]) (kk_5 wd_458 wd_459 wd_460 wd_1 cw_X_head)) rfl rfl rfl ⟨rfl, ds_X_head⟩ ⟨Nat.le_of_ble_eq_true rfl, Nat.le_of_ble_eq_true rfl⟩) (kk_preV hK hP hz (by omega) hx0.2.1 rfl) rfl rfl hl.1 rfl (lv_room (Nat.le_of_ble_eq_true rfl)) d_Law_law_636 ⟨show 31 + 5 * k9 + 0 ≤ 763340 by omega, show 1015 + 17 * k9 + 0 ≤ 6812228 by omega⟩)) (fun r1 hr1 => ?_)
  refine lv_aload_n hx hb d_Law_law_639 rfl (lv_at hl 1 rfl) ?_
  refine vp_callSi (va_Run.run (va_runV (As := []) (rest := [.int r1]) ⟨hx, hb, hml, hown, hts⟩ (c_Mod_head l hM1 hCh) (cwV 0 hts (gW_in (hd := [_, _, _, _, _]) (kk_5 wd_706 wd_707 wd_708 wd_8 cw_Mod_head)) rfl rfl rfl ⟨rfl, ds_Mod_head⟩ ⟨Nat.le_of_ble_eq_true rfl, Nat.le_of_ble_eq_true rfl⟩) (kk_preV hK hP hz (by omega) hM1.1 rfl) rfl rfl hl.1 rfl (lv_room (Nat.le_of_ble_eq_true rfl)) d_Law_law_640 ⟨show 31 + 5 * k9 + 0 ≤ 763340 by omega, show 1015 + 17 * k9 + 0 ≤ 6812228 by omega⟩)) (fun r2 hr2 => ?_)
  refine lv_icmp_eq (tgt := 740) hx hb d_Law_law_643 (by decide) (fun _ => ?_) (fun h9 => absurd (hr1.trans hr2.symm) h9)
  refine W.widen (k := 31 + 5 * (k9 + 1)) (n := 1015 + 17 * (k9 + 1)) (by omega) (by omega) ?_
  exact kk N S w sz H locs hP hz hS ⟨hXI, hM1, hsz, hG.up⟩
set_option maxHeartbeats 4000000 in
set_option maxRecDepth 100000 in
theorem lc_behind (l : Launch) (C : lw_C p s m c D cI cZ cQ b0 L xs) (hk : 6 * k9 + 6 ≤ L) (hP : mm_P s.heap.size D kc w H) (hz : H.size = sz) (hS : mm_S s.heap.size s.heap H locs) (hJ : lw_J s.heap.size cI cZ cQ k9 sz N S w) (hl : lv_has ls 4 [(3, .int (nI (6 * k9))), (2, .ref (s.heap.size + 14)), (1, .ref s.heap.size), (0, .ref b0)])
    (kk : ∀ (N1 : Nat → Nat → Nat) (S1 : Nat → Nat → Int32) (w1 : mm_M) (sz1 : Nat) (H1 : Heap) (locs1 : List Loc), mm_P s.heap.size D kc w1 H1 → H1.size = sz1 → mm_S s.heap.size s.heap H1 locs1 → lw_J s.heap.size cI cZ cQ (k9 + 1) sz1 N1 S1 w1 → W p l e room_1 s m #[Value.ref b0] below meth c H1 locs1 (31 + 5 * (k9 + 1)) (1015 + 17 * (k9 + 1)) Q (F0 m 740 ls [])) : W p l e room_1 s m #[Value.ref b0] below meth c H locs (31 + 5 * k9) (1015 + 17 * k9) Q (F0 m 648 ls []) := by
  obtain ⟨hx, hb, hml, hown, hts, hK, hX, hbl, hL⟩ := C
  obtain ⟨hXI, hM1, hsz, hG⟩ := hJ
  have hG9 := hG
  obtain ⟨hR, hCh, h7, hn, hu⟩ := hG9
  have hX9 := hXI
  obtain ⟨T0, U0, ad0, hx0, -, -⟩ := hX9
  refine lv_aload_n hx hb d_Law_law_648 rfl (lv_at hl 2 rfl) ?_
  refine lw_rd hx hb hX hbl hL hk hS hl 1 (by decide) (by decide) d_Law_law_649 d_Law_law_650 d_Law_law_651 d_Law_law_652 d_Law_law_653 ?_
  refine vp_callSi (va_Run.run (va_runV (As := [.int (xs (6 * k9 + 1))]) (rest := []) ⟨hx, hb, hml, hown, hts⟩ (c_X_behind l hXI hR hCh) (cwV 1 hts (gW_in (hd := [_, _, _, _, _]) (kk_5 wd_463 wd_464 wd_465 wd_1 cw_X_behind)) rfl rfl rfl ⟨rfl, ds_X_behind⟩ ⟨Nat.le_of_ble_eq_true rfl, Nat.le_of_ble_eq_true rfl⟩) (kk_preV hK hP hz (by omega) hx0.2.1 rfl) rfl rfl hl.1 rfl (lv_room (Nat.le_of_ble_eq_true rfl)) d_Law_law_654 ⟨show 31 + 5 * k9 + 0 ≤ 763340 by omega, show 1015 + 17 * k9 + 0 ≤ 6812228 by omega⟩)) (fun r1 hr1 => ?_)
  refine lv_aload_n hx hb d_Law_law_657 rfl (lv_at hl 1 rfl) ?_
  refine lw_rd hx hb hX hbl hL hk hS hl 1 (by decide) (by decide) d_Law_law_658 d_Law_law_659 d_Law_law_660 d_Law_law_661 d_Law_law_662 ?_
  refine vp_callSi (va_Run.run (va_runV (As := [.int (xs (6 * k9 + 1))]) (rest := [.int r1]) ⟨hx, hb, hml, hown, hts⟩ (c_Mod_behind l hM1 hCh) (cwV 1 hts (gW_in (hd := [_, _, _, _, _]) (kk_5 wd_710 wd_711 wd_712 wd_8 cw_Mod_behind)) rfl rfl rfl ⟨rfl, ds_Mod_behind⟩ ⟨Nat.le_of_ble_eq_true rfl, Nat.le_of_ble_eq_true rfl⟩) (kk_preV hK hP hz (by omega) hM1.1 rfl) rfl rfl hl.1 rfl (lv_room (Nat.le_of_ble_eq_true rfl)) d_Law_law_663 ⟨show 31 + 5 * k9 + 0 ≤ 763340 by omega, show 1015 + 17 * k9 + 0 ≤ 6812228 by omega⟩)) (fun r2 hr2 => ?_)
  refine lv_icmp_eq (tgt := 740) hx hb d_Law_law_666 (by decide) (fun _ => ?_) (fun h9 => absurd (hr1.trans hr2.symm) h9)
  refine W.widen (k := 31 + 5 * (k9 + 1)) (n := 1015 + 17 * (k9 + 1)) (by omega) (by omega) ?_
  exact kk N S w sz H locs hP hz hS ⟨hXI, hM1, hsz, hG.up⟩
set_option maxHeartbeats 4000000 in
set_option maxRecDepth 100000 in
theorem lc_grants (l : Launch) (C : lw_C p s m c D cI cZ cQ b0 L xs) (hk : 6 * k9 + 6 ≤ L) (hP : mm_P s.heap.size D kc w H) (hz : H.size = sz) (hS : mm_S s.heap.size s.heap H locs) (hJ : lw_J s.heap.size cI cZ cQ k9 sz N S w) (hl : lv_has ls 4 [(3, .int (nI (6 * k9))), (2, .ref (s.heap.size + 14)), (1, .ref s.heap.size), (0, .ref b0)])
    (kk : ∀ (N1 : Nat → Nat → Nat) (S1 : Nat → Nat → Int32) (w1 : mm_M) (sz1 : Nat) (H1 : Heap) (locs1 : List Loc), mm_P s.heap.size D kc w1 H1 → H1.size = sz1 → mm_S s.heap.size s.heap H1 locs1 → lw_J s.heap.size cI cZ cQ (k9 + 1) sz1 N1 S1 w1 → W p l e room_1 s m #[Value.ref b0] below meth c H1 locs1 (31 + 5 * (k9 + 1)) (1015 + 17 * (k9 + 1)) Q (F0 m 740 ls [])) : W p l e room_1 s m #[Value.ref b0] below meth c H locs (31 + 5 * k9) (1015 + 17 * k9) Q (F0 m 671 ls []) := by
  obtain ⟨hx, hb, hml, hown, hts, hK, hX, hbl, hL⟩ := C
  obtain ⟨hXI, hM1, hsz, hG⟩ := hJ
  have hG9 := hG
  obtain ⟨hR, hCh, h7, hn, hu⟩ := hG9
  have hX9 := hXI
  obtain ⟨T0, U0, ad0, hx0, -, -⟩ := hX9
  refine lv_aload_n hx hb d_Law_law_671 rfl (lv_at hl 2 rfl) ?_
  refine lw_rd hx hb hX hbl hL hk hS hl 1 (by decide) (by decide) d_Law_law_672 d_Law_law_673 d_Law_law_674 d_Law_law_675 d_Law_law_676 ?_
  refine lw_rd hx hb hX hbl hL hk hS hl 2 (by decide) (by decide) d_Law_law_677 d_Law_law_678 d_Law_law_679 d_Law_law_680 d_Law_law_681 ?_
  refine lw_rd hx hb hX hbl hL hk hS hl 3 (by decide) (by decide) d_Law_law_682 d_Law_law_683 d_Law_law_684 d_Law_law_685 d_Law_law_686 ?_
  refine vp_callSi (va_Run.run (va_runV (As := [.int (xs (6 * k9 + 1)), .int (xs (6 * k9 + 2)), .int (xs (6 * k9 + 3))]) (rest := []) ⟨hx, hb, hml, hown, hts⟩ (c_X_grants l hXI hR hCh) (cwV 3 hts (gW_in (hd := [_, _, _, _, _]) (kk_5 wd_467 wd_468 wd_469 wd_1 cw_X_grants)) rfl rfl rfl ⟨rfl, ds_X_grants⟩ ⟨Nat.le_of_ble_eq_true rfl, Nat.le_of_ble_eq_true rfl⟩) (kk_preV hK hP hz (by omega) hx0.2.1 rfl) rfl rfl hl.1 rfl (lv_room (Nat.le_of_ble_eq_true rfl)) d_Law_law_687 ⟨show 31 + 5 * k9 + 0 ≤ 763340 by omega, show 1015 + 17 * k9 + 0 ≤ 6812228 by omega⟩)) (fun r1 hr1 => ?_)
  refine lv_aload_n hx hb d_Law_law_690 rfl (lv_at hl 1 rfl) ?_
  refine lw_rd hx hb hX hbl hL hk hS hl 1 (by decide) (by decide) d_Law_law_691 d_Law_law_692 d_Law_law_693 d_Law_law_694 d_Law_law_695 ?_
  refine lw_rd hx hb hX hbl hL hk hS hl 2 (by decide) (by decide) d_Law_law_696 d_Law_law_697 d_Law_law_698 d_Law_law_699 d_Law_law_700 ?_
  refine lw_rd hx hb hX hbl hL hk hS hl 3 (by decide) (by decide) d_Law_law_701 d_Law_law_702 d_Law_law_703 d_Law_law_704 d_Law_law_705 ?_
  refine vp_callSi (va_Run.run (va_runV (As := [.int (xs (6 * k9 + 1)), .int (xs (6 * k9 + 2)), .int (xs (6 * k9 + 3))]) (rest := [.int r1]) ⟨hx, hb, hml, hown, hts⟩ (c_Mod_grants l hM1 hCh) (cwV 3 hts (gW_in (hd := [_, _, _, _, _]) (kk_5 wd_714 wd_715 wd_716 wd_8 cw_Mod_grants)) rfl rfl rfl ⟨rfl, ds_Mod_grants⟩ ⟨Nat.le_of_ble_eq_true rfl, Nat.le_of_ble_eq_true rfl⟩) (kk_preV hK hP hz (by omega) hM1.1 rfl) rfl rfl hl.1 rfl (lv_room (Nat.le_of_ble_eq_true rfl)) d_Law_law_706 ⟨show 31 + 5 * k9 + 0 ≤ 763340 by omega, show 1015 + 17 * k9 + 0 ≤ 6812228 by omega⟩)) (fun r2 hr2 => ?_)
  refine lv_icmp_eq (tgt := 740) hx hb d_Law_law_709 (by decide) (fun _ => ?_) (fun h9 => absurd (hr1.trans hr2.symm) h9)
  refine W.widen (k := 31 + 5 * (k9 + 1)) (n := 1015 + 17 * (k9 + 1)) (by omega) (by omega) ?_
  exact kk N S w sz H locs hP hz hS ⟨hXI, hM1, hsz, hG.up⟩
set_option maxHeartbeats 4000000 in
set_option maxRecDepth 100000 in
theorem lc_used (l : Launch) (C : lw_C p s m c D cI cZ cQ b0 L xs) (hk : 6 * k9 + 6 ≤ L) (hP : mm_P s.heap.size D kc w H) (hz : H.size = sz) (hS : mm_S s.heap.size s.heap H locs) (hJ : lw_J s.heap.size cI cZ cQ k9 sz N S w) (hl : lv_has ls 4 [(3, .int (nI (6 * k9))), (2, .ref (s.heap.size + 14)), (1, .ref s.heap.size), (0, .ref b0)])
    (kk : ∀ (N1 : Nat → Nat → Nat) (S1 : Nat → Nat → Int32) (w1 : mm_M) (sz1 : Nat) (H1 : Heap) (locs1 : List Loc), mm_P s.heap.size D kc w1 H1 → H1.size = sz1 → mm_S s.heap.size s.heap H1 locs1 → lw_J s.heap.size cI cZ cQ (k9 + 1) sz1 N1 S1 w1 → W p l e room_1 s m #[Value.ref b0] below meth c H1 locs1 (31 + 5 * (k9 + 1)) (1015 + 17 * (k9 + 1)) Q (F0 m 740 ls [])) : W p l e room_1 s m #[Value.ref b0] below meth c H locs (31 + 5 * k9) (1015 + 17 * k9) Q (F0 m 714 ls []) := by
  obtain ⟨hx, hb, hml, hown, hts, hK, hX, hbl, hL⟩ := C
  obtain ⟨hXI, hM1, hsz, hG⟩ := hJ
  have hG9 := hG
  obtain ⟨hR, hCh, h7, hn, hu⟩ := hG9
  have hX9 := hXI
  obtain ⟨T0, U0, ad0, hx0, -, -⟩ := hX9
  refine lv_aload_n hx hb d_Law_law_714 rfl (lv_at hl 2 rfl) ?_
  refine vp_callSi (va_Run.run (va_runV (As := []) (rest := []) ⟨hx, hb, hml, hown, hts⟩ (c_X_used l hXI hR hCh) (cwV 0 hts (gW_in (hd := [_, _, _, _, _]) (kk_5 wd_477 wd_478 wd_479 wd_1 cw_X_used)) rfl rfl rfl ⟨rfl, ds_X_used⟩ ⟨Nat.le_of_ble_eq_true rfl, Nat.le_of_ble_eq_true rfl⟩) (kk_preV hK hP hz (by omega) hx0.2.1 rfl) rfl rfl hl.1 rfl (lv_room (Nat.le_of_ble_eq_true rfl)) d_Law_law_715 ⟨show 31 + 5 * k9 + 0 ≤ 763340 by omega, show 1015 + 17 * k9 + 0 ≤ 6812228 by omega⟩)) (fun r1 hr1 => ?_)
  refine lv_aload_n hx hb d_Law_law_718 rfl (lv_at hl 1 rfl) ?_
  refine vp_callSi (va_Run.run (va_runV (As := []) (rest := [.int r1]) ⟨hx, hb, hml, hown, hts⟩ (c_Mod_used l hM1) (cwV 0 hts (gW_in (hd := [_, _, _, _, _]) (kk_5 wd_718 wd_719 wd_720 wd_8 cw_Mod_used)) rfl rfl rfl ⟨rfl, ds_Mod_used⟩ ⟨Nat.le_of_ble_eq_true rfl, Nat.le_of_ble_eq_true rfl⟩) (kk_preV hK hP hz (by omega) hM1.1 rfl) rfl rfl hl.1 rfl (lv_room (Nat.le_of_ble_eq_true rfl)) d_Law_law_719 ⟨show 31 + 5 * k9 + 0 ≤ 763340 by omega, show 1015 + 17 * k9 + 0 ≤ 6812228 by omega⟩)) (fun r2 hr2 => ?_)
  refine lv_icmp_eq (tgt := 740) hx hb d_Law_law_722 (by decide) (fun _ => ?_) (fun h9 => absurd (hr1.trans hr2.symm) h9)
  refine W.widen (k := 31 + 5 * (k9 + 1)) (n := 1015 + 17 * (k9 + 1)) (by omega) (by omega) ?_
  exact kk N S w sz H locs hP hz hS ⟨hXI, hM1, hsz, hG.up⟩
set_option maxHeartbeats 4000000 in
set_option maxRecDepth 100000 in
theorem lc_delegates (l : Launch) (C : lw_C p s m c D cI cZ cQ b0 L xs) (hk : 6 * k9 + 6 ≤ L) (hP : mm_P s.heap.size D kc w H) (hz : H.size = sz) (hS : mm_S s.heap.size s.heap H locs) (hJ : lw_J s.heap.size cI cZ cQ k9 sz N S w) (hl : lv_has ls 4 [(3, .int (nI (6 * k9))), (2, .ref (s.heap.size + 14)), (1, .ref s.heap.size), (0, .ref b0)])
    (kk : ∀ (N1 : Nat → Nat → Nat) (S1 : Nat → Nat → Int32) (w1 : mm_M) (sz1 : Nat) (H1 : Heap) (locs1 : List Loc), mm_P s.heap.size D kc w1 H1 → H1.size = sz1 → mm_S s.heap.size s.heap H1 locs1 → lw_J s.heap.size cI cZ cQ (k9 + 1) sz1 N1 S1 w1 → W p l e room_1 s m #[Value.ref b0] below meth c H1 locs1 (31 + 5 * (k9 + 1)) (1015 + 17 * (k9 + 1)) Q (F0 m 740 ls [])) : W p l e room_1 s m #[Value.ref b0] below meth c H locs (31 + 5 * k9) (1015 + 17 * k9) Q (F0 m 727 ls []) := by
  obtain ⟨hx, hb, hml, hown, hts, hK, hX, hbl, hL⟩ := C
  obtain ⟨hXI, hM1, hsz, hG⟩ := hJ
  have hG9 := hG
  obtain ⟨hR, hCh, h7, hn, hu⟩ := hG9
  have hX9 := hXI
  obtain ⟨T0, U0, ad0, hx0, -, -⟩ := hX9
  refine lv_aload_n hx hb d_Law_law_727 rfl (lv_at hl 2 rfl) ?_
  refine vp_callSi (va_Run.run (va_runV (As := []) (rest := []) ⟨hx, hb, hml, hown, hts⟩ (c_X_delegates l hXI hR hCh) (cwV 0 hts (gW_in (hd := [_, _, _, _, _]) (kk_5 wd_481 wd_482 wd_483 wd_1 cw_X_delegates)) rfl rfl rfl ⟨rfl, ds_X_delegates⟩ ⟨Nat.le_of_ble_eq_true rfl, Nat.le_of_ble_eq_true rfl⟩) (kk_preV hK hP hz (by omega) hx0.2.1 rfl) rfl rfl hl.1 rfl (lv_room (Nat.le_of_ble_eq_true rfl)) d_Law_law_728 ⟨show 31 + 5 * k9 + 0 ≤ 763340 by omega, show 1015 + 17 * k9 + 0 ≤ 6812228 by omega⟩)) (fun r1 hr1 => ?_)
  refine lv_aload_n hx hb d_Law_law_731 rfl (lv_at hl 1 rfl) ?_
  refine vp_callSi (va_Run.run (va_runV (As := []) (rest := [.int r1]) ⟨hx, hb, hml, hown, hts⟩ (c_Mod_delegates l hM1 hCh) (cwV 0 hts (gW_in (hd := [_, _, _, _, _]) (kk_5 wd_722 wd_723 wd_724 wd_8 cw_Mod_delegates)) rfl rfl rfl ⟨rfl, ds_Mod_delegates⟩ ⟨Nat.le_of_ble_eq_true rfl, Nat.le_of_ble_eq_true rfl⟩) (kk_preV hK hP hz (by omega) hM1.1 rfl) rfl rfl hl.1 rfl (lv_room (Nat.le_of_ble_eq_true rfl)) d_Law_law_732 ⟨show 31 + 5 * k9 + 0 ≤ 763340 by omega, show 1015 + 17 * k9 + 0 ≤ 6812228 by omega⟩)) (fun r2 hr2 => ?_)
  refine lv_icmp_eq (tgt := 740) hx hb d_Law_law_735 (by decide) (fun _ => ?_) (fun h9 => absurd (hr1.trans hr2.symm) h9)
  refine W.widen (k := 31 + 5 * (k9 + 1)) (n := 1015 + 17 * (k9 + 1)) (by omega) (by omega) ?_
  exact kk N S w sz H locs hP hz hS ⟨hXI, hM1, hsz, hG.up⟩
end LC
