section LC
variable {p : Program} {e : Env} {s : State} {m : MethodId} {below : List Frame} {meth : Method} {c : Code} {Q : State → Prop} {D : va_G} {cI cZ cQ : ClassId} {b0 L k9 : Nat} {xs : Nat → Int32}
variable {H : Heap} {locs : List Loc} {ls : Array Slot} {N : Nat → Nat → Nat} {S : Nat → Nat → Int32} {w : mm_M} {sz : Nat}
set_option maxHeartbeats 4000000 in
set_option maxRecDepth 100000 in
theorem lc_certificates (l : Launch) (C : lw_C p s m c D cI cZ cQ b0 L xs) (hk : 6 * k9 + 6 ≤ L) (hP : mm_P s.heap.size D kc w H) (hz : H.size = sz) (hS : mm_S s.heap.size s.heap H locs) (hJ : lw_J s.heap.size cI cZ cQ k9 sz N S w) (hl : lv_has ls 4 [(3, .int (nI (6 * k9))), (2, .ref (s.heap.size + 14)), (1, .ref s.heap.size), (0, .ref b0)])
    (kk : ∀ (N1 : Nat → Nat → Nat) (S1 : Nat → Nat → Int32) (w1 : mm_M) (sz1 : Nat) (H1 : Heap) (locs1 : List Loc), mm_P s.heap.size D kc w1 H1 → H1.size = sz1 → mm_S s.heap.size s.heap H1 locs1 → lw_J s.heap.size cI cZ cQ (k9 + 1) sz1 N1 S1 w1 → W p l e room_1 s m #[Value.ref b0] below meth c H1 locs1 (31 + 5 * (k9 + 1)) (1015 + 17 * (k9 + 1)) Q (F0 m 740 ls [])) : W p l e room_1 s m #[Value.ref b0] below meth c H locs (31 + 5 * k9) (1015 + 17 * k9) Q (F0 m 404 ls []) := by
  obtain ⟨hx, hb, hml, hown, hts, hK, hX, hbl, hL⟩ := C
  obtain ⟨hXI, hM1, hsz, hG⟩ := hJ
  have hG9 := hG
  obtain ⟨hR, hCh, h7, hn, hu⟩ := hG9
  have hX9 := hXI
  obtain ⟨T0, U0, ad0, hx0, -, -⟩ := hX9
  refine lv_aload_n hx hb d_Law_law_404 rfl (lv_at hl 2 rfl) ?_
  refine vp_callSi (va_Run.run (va_runV (As := []) (rest := []) ⟨hx, hb, hml, hown, hts⟩ (c_X_certificates l hXI hR hCh) (cwV 0 hts (gW_in (hd := [_, _, _, _, _]) (kk_5 wd_297 wd_298 wd_299 wd_1 cw_X_certificates)) rfl rfl rfl ⟨rfl, ds_X_certificates⟩ ⟨Nat.le_of_ble_eq_true rfl, Nat.le_of_ble_eq_true rfl⟩) (kk_preV hK hP hz (by omega) hx0.2.1 rfl) rfl rfl hl.1 rfl (lv_room (Nat.le_of_ble_eq_true rfl)) d_Law_law_405 ⟨show 31 + 5 * k9 + 0 ≤ 763340 by omega, show 1015 + 17 * k9 + 0 ≤ 6812228 by omega⟩)) (fun r1 hr1 => ?_)
  refine lv_aload_n hx hb d_Law_law_408 rfl (lv_at hl 1 rfl) ?_
  refine vp_callSi (va_Run.run (va_runV (As := []) (rest := [.int r1]) ⟨hx, hb, hml, hown, hts⟩ (c_Mod_certificates l hM1) (cwV 0 hts (gW_in (hd := [_, _, _, _, _]) (kk_5 wd_617 wd_618 wd_619 wd_8 cw_Mod_certificates)) rfl rfl rfl ⟨rfl, ds_Mod_certificates⟩ ⟨Nat.le_of_ble_eq_true rfl, Nat.le_of_ble_eq_true rfl⟩) (kk_preV hK hP hz (by omega) hM1.1 rfl) rfl rfl hl.1 rfl (lv_room (Nat.le_of_ble_eq_true rfl)) d_Law_law_409 ⟨show 31 + 5 * k9 + 0 ≤ 763340 by omega, show 1015 + 17 * k9 + 0 ≤ 6812228 by omega⟩)) (fun r2 hr2 => ?_)
  refine lv_icmp_eq (tgt := 740) hx hb d_Law_law_412 (by decide) (fun _ => ?_) (fun h9 => absurd (hr1.trans hr2.symm) h9)
  refine W.widen (k := 31 + 5 * (k9 + 1)) (n := 1015 + 17 * (k9 + 1)) (by omega) (by omega) ?_
  exact kk N S w sz H locs hP hz hS ⟨hXI, hM1, hsz, hG.up⟩
set_option maxHeartbeats 4000000 in
set_option maxRecDepth 100000 in
theorem lc_meant (l : Launch) (C : lw_C p s m c D cI cZ cQ b0 L xs) (hk : 6 * k9 + 6 ≤ L) (hP : mm_P s.heap.size D kc w H) (hz : H.size = sz) (hS : mm_S s.heap.size s.heap H locs) (hJ : lw_J s.heap.size cI cZ cQ k9 sz N S w) (hl : lv_has ls 4 [(3, .int (nI (6 * k9))), (2, .ref (s.heap.size + 14)), (1, .ref s.heap.size), (0, .ref b0)])
    (kk : ∀ (N1 : Nat → Nat → Nat) (S1 : Nat → Nat → Int32) (w1 : mm_M) (sz1 : Nat) (H1 : Heap) (locs1 : List Loc), mm_P s.heap.size D kc w1 H1 → H1.size = sz1 → mm_S s.heap.size s.heap H1 locs1 → lw_J s.heap.size cI cZ cQ (k9 + 1) sz1 N1 S1 w1 → W p l e room_1 s m #[Value.ref b0] below meth c H1 locs1 (31 + 5 * (k9 + 1)) (1015 + 17 * (k9 + 1)) Q (F0 m 740 ls [])) : W p l e room_1 s m #[Value.ref b0] below meth c H locs (31 + 5 * k9) (1015 + 17 * k9) Q (F0 m 417 ls []) := by
  obtain ⟨hx, hb, hml, hown, hts, hK, hX, hbl, hL⟩ := C
  obtain ⟨hXI, hM1, hsz, hG⟩ := hJ
  have hG9 := hG
  obtain ⟨hR, hCh, h7, hn, hu⟩ := hG9
  have hX9 := hXI
  obtain ⟨T0, U0, ad0, hx0, -, -⟩ := hX9
  refine lv_aload_n hx hb d_Law_law_417 rfl (lv_at hl 2 rfl) ?_
  refine lw_rd hx hb hX hbl hL hk hS hl 1 (by decide) (by decide) d_Law_law_418 d_Law_law_419 d_Law_law_420 d_Law_law_421 d_Law_law_422 ?_
  refine lw_rd hx hb hX hbl hL hk hS hl 2 (by decide) (by decide) d_Law_law_423 d_Law_law_424 d_Law_law_425 d_Law_law_426 d_Law_law_427 ?_
  refine kk_calli (va_runV (As := [.int (xs (6 * k9 + 1)), .int (xs (6 * k9 + 2))]) (rest := []) ⟨hx, hb, hml, hown, hts⟩ (c_X_meant l hXI hR hCh) (cwV 2 hts (gW_in (hd := [_, _, _, _, _]) (kk_5 wd_301 wd_302 wd_303 wd_1 cw_X_meant)) rfl rfl rfl ⟨rfl, ds_X_meant⟩ ⟨Nat.le_of_ble_eq_true rfl, Nat.le_of_ble_eq_true rfl⟩) (kk_preV hK hP hz (by omega) hx0.2.1 rfl) rfl rfl hl.1 rfl (lv_room (Nat.le_of_ble_eq_true rfl)) d_Law_law_428 ⟨show 31 + 5 * k9 + 0 ≤ 763340 by omega, show 1015 + 17 * k9 + 0 ≤ 6812228 by omega⟩) hS (fun r1 w1 sz1 H locs hp1 hP hz hS => ?_)
  obtain ⟨hr1, hX1, hk1, hs1⟩ := hp1
  have hM1 := hM1.keep hk1
  have hsz1 : s.heap.size + 31 ≤ sz1 := by omega
  refine lv_aload_n hx hb d_Law_law_431 rfl (lv_at hl 1 rfl) ?_
  refine lw_rd hx hb hX hbl hL hk hS hl 1 (by decide) (by decide) d_Law_law_432 d_Law_law_433 d_Law_law_434 d_Law_law_435 d_Law_law_436 ?_
  refine lw_rd hx hb hX hbl hL hk hS hl 2 (by decide) (by decide) d_Law_law_437 d_Law_law_438 d_Law_law_439 d_Law_law_440 d_Law_law_441 ?_
  refine kk_calli (va_runV (As := [.int (xs (6 * k9 + 1)), .int (xs (6 * k9 + 2))]) (rest := [.int r1]) ⟨hx, hb, hml, hown, hts⟩ (c_Mod_meant l hM1 hn hR) (cwV 2 hts (gW_in (hd := [_, _, _, _, _]) (kk_5 wd_621 wd_622 wd_623 wd_8 cw_Mod_meant)) rfl rfl rfl ⟨rfl, ds_Mod_meant⟩ ⟨Nat.le_of_ble_eq_true rfl, Nat.le_of_ble_eq_true rfl⟩) (kk_preV hK hP hz (by omega) hM1.1 rfl) rfl rfl hl.1 rfl (lv_room (Nat.le_of_ble_eq_true rfl)) d_Law_law_442 ⟨show 31 + 5 * k9 + 0 + 0 ≤ 763340 by omega, show 1015 + 17 * k9 + 0 + 0 ≤ 6812228 by omega⟩) hS (fun r2 w2 sz2 H2 locs2 hp2 hP2 hz2 hS2 => ?_)
  obtain ⟨hr2, hM2, hk2, hs2⟩ := hp2
  refine lv_icmp_eq (tgt := 740) hx hb d_Law_law_445 (by decide) (fun _ => ?_) (fun h9 => absurd (hr1.trans hr2.symm) h9)
  refine W.widen (k := 31 + 5 * (k9 + 1)) (n := 1015 + 17 * (k9 + 1)) (by omega) (by omega) ?_
  subst hs2
  exact kk (me_N N S (xs (6 * k9 + 1)) (xs (6 * k9 + 2))) (S) w2 _ H2 locs2 hP2 hz2 hS2 ⟨xs_me _ _ (xs_keep hX1 hk2), hM2, hsz1, hG.me _ _⟩
set_option maxHeartbeats 4000000 in
set_option maxRecDepth 100000 in
theorem lc_cost (l : Launch) (C : lw_C p s m c D cI cZ cQ b0 L xs) (hk : 6 * k9 + 6 ≤ L) (hP : mm_P s.heap.size D kc w H) (hz : H.size = sz) (hS : mm_S s.heap.size s.heap H locs) (hJ : lw_J s.heap.size cI cZ cQ k9 sz N S w) (hl : lv_has ls 4 [(3, .int (nI (6 * k9))), (2, .ref (s.heap.size + 14)), (1, .ref s.heap.size), (0, .ref b0)])
    (kk : ∀ (N1 : Nat → Nat → Nat) (S1 : Nat → Nat → Int32) (w1 : mm_M) (sz1 : Nat) (H1 : Heap) (locs1 : List Loc), mm_P s.heap.size D kc w1 H1 → H1.size = sz1 → mm_S s.heap.size s.heap H1 locs1 → lw_J s.heap.size cI cZ cQ (k9 + 1) sz1 N1 S1 w1 → W p l e room_1 s m #[Value.ref b0] below meth c H1 locs1 (31 + 5 * (k9 + 1)) (1015 + 17 * (k9 + 1)) Q (F0 m 740 ls [])) : W p l e room_1 s m #[Value.ref b0] below meth c H locs (31 + 5 * k9) (1015 + 17 * k9) Q (F0 m 450 ls []) := by
  obtain ⟨hx, hb, hml, hown, hts, hK, hX, hbl, hL⟩ := C
  obtain ⟨hXI, hM1, hsz, hG⟩ := hJ
  have hG9 := hG
  obtain ⟨hR, hCh, h7, hn, hu⟩ := hG9
  have hX9 := hXI
  obtain ⟨T0, U0, ad0, hx0, -, -⟩ := hX9
  refine lv_aload_n hx hb d_Law_law_450 rfl (lv_at hl 2 rfl) ?_
  refine lw_rd hx hb hX hbl hL hk hS hl 1 (by decide) (by decide) d_Law_law_451 d_Law_law_452 d_Law_law_453 d_Law_law_454 d_Law_law_455 ?_
  refine lw_rd hx hb hX hbl hL hk hS hl 2 (by decide) (by decide) d_Law_law_456 d_Law_law_457 d_Law_law_458 d_Law_law_459 d_Law_law_460 ?_
  refine lw_rd hx hb hX hbl hL hk hS hl 3 (by decide) (by decide) d_Law_law_461 d_Law_law_462 d_Law_law_463 d_Law_law_464 d_Law_law_465 ?_
  refine kk_calli (va_runV (As := [.int (xs (6 * k9 + 1)), .int (xs (6 * k9 + 2)), .int (xs (6 * k9 + 3))]) (rest := []) ⟨hx, hb, hml, hown, hts⟩ (c_X_cost l hXI hR hCh) (cwV 3 hts (gW_in (hd := [_, _, _, _, _]) (kk_5 wd_345 wd_346 wd_347 wd_1 cw_X_cost)) rfl rfl rfl ⟨rfl, ds_X_cost⟩ ⟨Nat.le_of_ble_eq_true rfl, Nat.le_of_ble_eq_true rfl⟩) (kk_preV hK hP hz (by omega) hx0.2.1 rfl) rfl rfl hl.1 rfl (lv_room (Nat.le_of_ble_eq_true rfl)) d_Law_law_466 ⟨show 31 + 5 * k9 + 0 ≤ 763340 by omega, show 1015 + 17 * k9 + 0 ≤ 6812228 by omega⟩) hS (fun r1 w1 sz1 H locs hp1 hP hz hS => ?_)
  obtain ⟨hr1, hX1, hk1, hs1⟩ := hp1
  have hM1 := hM1.keep hk1
  have hsz1 : s.heap.size + 31 ≤ sz1 := by omega
  refine lv_aload_n hx hb d_Law_law_469 rfl (lv_at hl 1 rfl) ?_
  refine lw_rd hx hb hX hbl hL hk hS hl 1 (by decide) (by decide) d_Law_law_470 d_Law_law_471 d_Law_law_472 d_Law_law_473 d_Law_law_474 ?_
  refine lw_rd hx hb hX hbl hL hk hS hl 2 (by decide) (by decide) d_Law_law_475 d_Law_law_476 d_Law_law_477 d_Law_law_478 d_Law_law_479 ?_
  refine lw_rd hx hb hX hbl hL hk hS hl 3 (by decide) (by decide) d_Law_law_480 d_Law_law_481 d_Law_law_482 d_Law_law_483 d_Law_law_484 ?_
  refine kk_calli (va_runV (As := [.int (xs (6 * k9 + 1)), .int (xs (6 * k9 + 2)), .int (xs (6 * k9 + 3))]) (rest := [.int r1]) ⟨hx, hb, hml, hown, hts⟩ (c_Mod_cost l hM1 hn hR) (cwV 3 hts (gW_in (hd := [_, _, _, _, _]) (kk_5 wd_647 wd_648 wd_649 wd_8 cw_Mod_cost)) rfl rfl rfl ⟨rfl, ds_Mod_cost⟩ ⟨Nat.le_of_ble_eq_true rfl, Nat.le_of_ble_eq_true rfl⟩) (kk_preV hK hP hz (by omega) hM1.1 rfl) rfl rfl hl.1 rfl (lv_room (Nat.le_of_ble_eq_true rfl)) d_Law_law_485 ⟨show 31 + 5 * k9 + 0 + 0 ≤ 763340 by omega, show 1015 + 17 * k9 + 0 + 0 ≤ 6812228 by omega⟩) hS (fun r2 w2 sz2 H2 locs2 hp2 hP2 hz2 hS2 => ?_)
  obtain ⟨hr2, hM2, hk2, hs2⟩ := hp2
  refine lv_icmp_eq (tgt := 740) hx hb d_Law_law_488 (by decide) (fun _ => ?_) (fun h9 => absurd (hr1.trans hr2.symm) h9)
  refine W.widen (k := 31 + 5 * (k9 + 1)) (n := 1015 + 17 * (k9 + 1)) (by omega) (by omega) ?_
  subst hs2
  exact kk (co_N N S (xs (6 * k9 + 1)) (xs (6 * k9 + 2)) (xs (6 * k9 + 3))) (S) w2 _ H2 locs2 hP2 hz2 hS2 ⟨xs_co _ _ _ (xs_keep hX1 hk2), hM2, hsz1, hG.co _ _ _⟩
set_option maxHeartbeats 4000000 in
set_option maxRecDepth 100000 in
theorem lc_may (l : Launch) (C : lw_C p s m c D cI cZ cQ b0 L xs) (hk : 6 * k9 + 6 ≤ L) (hP : mm_P s.heap.size D kc w H) (hz : H.size = sz) (hS : mm_S s.heap.size s.heap H locs) (hJ : lw_J s.heap.size cI cZ cQ k9 sz N S w) (hl : lv_has ls 4 [(3, .int (nI (6 * k9))), (2, .ref (s.heap.size + 14)), (1, .ref s.heap.size), (0, .ref b0)])
    (kk : ∀ (N1 : Nat → Nat → Nat) (S1 : Nat → Nat → Int32) (w1 : mm_M) (sz1 : Nat) (H1 : Heap) (locs1 : List Loc), mm_P s.heap.size D kc w1 H1 → H1.size = sz1 → mm_S s.heap.size s.heap H1 locs1 → lw_J s.heap.size cI cZ cQ (k9 + 1) sz1 N1 S1 w1 → W p l e room_1 s m #[Value.ref b0] below meth c H1 locs1 (31 + 5 * (k9 + 1)) (1015 + 17 * (k9 + 1)) Q (F0 m 740 ls [])) : W p l e room_1 s m #[Value.ref b0] below meth c H locs (31 + 5 * k9) (1015 + 17 * k9) Q (F0 m 493 ls []) := by
  obtain ⟨hx, hb, hml, hown, hts, hK, hX, hbl, hL⟩ := C
  obtain ⟨hXI, hM1, hsz, hG⟩ := hJ
  have hG9 := hG
  obtain ⟨hR, hCh, h7, hn, hu⟩ := hG9
  have hX9 := hXI
  obtain ⟨T0, U0, ad0, hx0, -, -⟩ := hX9
  refine lv_aload_n hx hb d_Law_law_493 rfl (lv_at hl 2 rfl) ?_
  refine lw_rd hx hb hX hbl hL hk hS hl 1 (by decide) (by decide) d_Law_law_494 d_Law_law_495 d_Law_law_496 d_Law_law_497 d_Law_law_498 ?_
  refine lw_rd hx hb hX hbl hL hk hS hl 2 (by decide) (by decide) d_Law_law_499 d_Law_law_500 d_Law_law_501 d_Law_law_502 d_Law_law_503 ?_
  refine lw_rd hx hb hX hbl hL hk hS hl 3 (by decide) (by decide) d_Law_law_504 d_Law_law_505 d_Law_law_506 d_Law_law_507 d_Law_law_508 ?_
  refine lw_rd hx hb hX hbl hL hk hS hl 4 (by decide) (by decide) d_Law_law_509 d_Law_law_510 d_Law_law_511 d_Law_law_512 d_Law_law_513 ?_
  refine kk_calli (va_runV (As := [.int (xs (6 * k9 + 1)), .int (xs (6 * k9 + 2)), .int (xs (6 * k9 + 3)), .int (xs (6 * k9 + 4))]) (rest := []) ⟨hx, hb, hml, hown, hts⟩ (c_X_may l hXI hR hCh) (cwV 4 hts (gW_in (hd := [_, _, _, _, _]) (kk_5 wd_352 wd_353 wd_354 wd_1 cw_X_may)) rfl rfl rfl ⟨rfl, ds_X_may⟩ ⟨Nat.le_of_ble_eq_true rfl, Nat.le_of_ble_eq_true rfl⟩) (kk_preV hK hP hz (by omega) hx0.2.1 rfl) rfl rfl hl.1 rfl (lv_room (Nat.le_of_ble_eq_true rfl)) d_Law_law_514 ⟨show 31 + 5 * k9 + 0 ≤ 763340 by omega, show 1015 + 17 * k9 + 0 ≤ 6812228 by omega⟩) hS (fun r1 w1 sz1 H locs hp1 hP hz hS => ?_)
  obtain ⟨hr1, hX1, hk1, hs1⟩ := hp1
  have hM1 := hM1.keep hk1
  have hsz1 : s.heap.size + 31 ≤ sz1 := by omega
  refine lv_aload_n hx hb d_Law_law_517 rfl (lv_at hl 1 rfl) ?_
  refine lw_rd hx hb hX hbl hL hk hS hl 1 (by decide) (by decide) d_Law_law_518 d_Law_law_519 d_Law_law_520 d_Law_law_521 d_Law_law_522 ?_
  refine lw_rd hx hb hX hbl hL hk hS hl 2 (by decide) (by decide) d_Law_law_523 d_Law_law_524 d_Law_law_525 d_Law_law_526 d_Law_law_527 ?_
  refine lw_rd hx hb hX hbl hL hk hS hl 3 (by decide) (by decide) d_Law_law_528 d_Law_law_529 d_Law_law_530 d_Law_law_531 d_Law_law_532 ?_
  refine lw_rd hx hb hX hbl hL hk hS hl 4 (by decide) (by decide) d_Law_law_533 d_Law_law_534 d_Law_law_535 d_Law_law_536 d_Law_law_537 ?_
  refine kk_calli (va_runV (As := [.int (xs (6 * k9 + 1)), .int (xs (6 * k9 + 2)), .int (xs (6 * k9 + 3)), .int (xs (6 * k9 + 4))]) (rest := [.int r1]) ⟨hx, hb, hml, hown, hts⟩ (c_Mod_may l hM1 hn hR) (cwV 4 hts (gW_in (hd := [_, _, _, _, _]) (kk_5 wd_651 wd_652 wd_653 wd_8 cw_Mod_may)) rfl rfl rfl ⟨rfl, ds_Mod_may⟩ ⟨Nat.le_of_ble_eq_true rfl, Nat.le_of_ble_eq_true rfl⟩) (kk_preV hK hP hz (by omega) hM1.1 rfl) rfl rfl hl.1 rfl (lv_room (Nat.le_of_ble_eq_true rfl)) d_Law_law_538 ⟨show 31 + 5 * k9 + 0 + 0 ≤ 763340 by omega, show 1015 + 17 * k9 + 0 + 0 ≤ 6812228 by omega⟩) hS (fun r2 w2 sz2 H2 locs2 hp2 hP2 hz2 hS2 => ?_)
  obtain ⟨hr2, hM2, hk2, hs2⟩ := hp2
  refine lv_icmp_eq (tgt := 740) hx hb d_Law_law_541 (by decide) (fun _ => ?_) (fun h9 => absurd (hr1.trans hr2.symm) h9)
  refine W.widen (k := 31 + 5 * (k9 + 1)) (n := 1015 + 17 * (k9 + 1)) (by omega) (by omega) ?_
  subst hs2
  exact kk (ma_N N S (xs (6 * k9 + 1)) (xs (6 * k9 + 2)) (xs (6 * k9 + 3)) (xs (6 * k9 + 4))) (S) w2 _ H2 locs2 hP2 hz2 hS2 ⟨xs_ma _ _ _ _ (xs_keep hX1 hk2), hM2, hsz1, hG.ma _ _ _ _⟩
set_option maxHeartbeats 4000000 in
set_option maxRecDepth 100000 in
theorem lc_holders (l : Launch) (C : lw_C p s m c D cI cZ cQ b0 L xs) (hk : 6 * k9 + 6 ≤ L) (hP : mm_P s.heap.size D kc w H) (hz : H.size = sz) (hS : mm_S s.heap.size s.heap H locs) (hJ : lw_J s.heap.size cI cZ cQ k9 sz N S w) (hl : lv_has ls 4 [(3, .int (nI (6 * k9))), (2, .ref (s.heap.size + 14)), (1, .ref s.heap.size), (0, .ref b0)])
    (kk : ∀ (N1 : Nat → Nat → Nat) (S1 : Nat → Nat → Int32) (w1 : mm_M) (sz1 : Nat) (H1 : Heap) (locs1 : List Loc), mm_P s.heap.size D kc w1 H1 → H1.size = sz1 → mm_S s.heap.size s.heap H1 locs1 → lw_J s.heap.size cI cZ cQ (k9 + 1) sz1 N1 S1 w1 → W p l e room_1 s m #[Value.ref b0] below meth c H1 locs1 (31 + 5 * (k9 + 1)) (1015 + 17 * (k9 + 1)) Q (F0 m 740 ls [])) : W p l e room_1 s m #[Value.ref b0] below meth c H locs (31 + 5 * k9) (1015 + 17 * k9) Q (F0 m 546 ls []) := by
  obtain ⟨hx, hb, hml, hown, hts, hK, hX, hbl, hL⟩ := C
  obtain ⟨hXI, hM1, hsz, hG⟩ := hJ
  have hG9 := hG
  obtain ⟨hR, hCh, h7, hn, hu⟩ := hG9
  have hX9 := hXI
  obtain ⟨T0, U0, ad0, hx0, -, -⟩ := hX9
  refine lv_aload_n hx hb d_Law_law_546 rfl (lv_at hl 2 rfl) ?_
  refine lw_rd hx hb hX hbl hL hk hS hl 1 (by decide) (by decide) d_Law_law_547 d_Law_law_548 d_Law_law_549 d_Law_law_550 d_Law_law_551 ?_
  refine lw_rd hx hb hX hbl hL hk hS hl 2 (by decide) (by decide) d_Law_law_552 d_Law_law_553 d_Law_law_554 d_Law_law_555 d_Law_law_556 ?_
  refine lw_rd hx hb hX hbl hL hk hS hl 3 (by decide) (by decide) d_Law_law_557 d_Law_law_558 d_Law_law_559 d_Law_law_560 d_Law_law_561 ?_
  refine kk_calli (va_runV (As := [.int (xs (6 * k9 + 1)), .int (xs (6 * k9 + 2)), .int (xs (6 * k9 + 3))]) (rest := []) ⟨hx, hb, hml, hown, hts⟩ (c_X_holders l hXI hR hCh) (cwV 3 hts (gW_in (hd := [_, _, _, _, _]) (kk_5 wd_394 wd_395 wd_396 wd_1 cw_X_holders)) rfl rfl rfl ⟨rfl, ds_X_holders⟩ ⟨Nat.le_of_ble_eq_true rfl, Nat.le_of_ble_eq_true rfl⟩) (kk_preV hK hP hz (by omega) hx0.2.1 rfl) rfl rfl hl.1 rfl (lv_room (Nat.le_of_ble_eq_true rfl)) d_Law_law_562 ⟨show 31 + 5 * k9 + 0 ≤ 763340 by omega, show 1015 + 17 * k9 + 0 ≤ 6812228 by omega⟩) hS (fun r1 w1 sz1 H locs hp1 hP hz hS => ?_)
  obtain ⟨hr1, hX1, hk1, hs1⟩ := hp1
  have hM1 := hM1.keep hk1
  have hsz1 : s.heap.size + 31 ≤ sz1 := by omega
  refine lv_aload_n hx hb d_Law_law_565 rfl (lv_at hl 1 rfl) ?_
  refine lw_rd hx hb hX hbl hL hk hS hl 1 (by decide) (by decide) d_Law_law_566 d_Law_law_567 d_Law_law_568 d_Law_law_569 d_Law_law_570 ?_
  refine lw_rd hx hb hX hbl hL hk hS hl 2 (by decide) (by decide) d_Law_law_571 d_Law_law_572 d_Law_law_573 d_Law_law_574 d_Law_law_575 ?_
  refine lw_rd hx hb hX hbl hL hk hS hl 3 (by decide) (by decide) d_Law_law_576 d_Law_law_577 d_Law_law_578 d_Law_law_579 d_Law_law_580 ?_
  refine kk_calli (va_runV (As := [.int (xs (6 * k9 + 1)), .int (xs (6 * k9 + 2)), .int (xs (6 * k9 + 3))]) (rest := [.int r1]) ⟨hx, hb, hml, hown, hts⟩ (c_Mod_holders l hM1 hn hR) (cwV 3 hts (gW_in (hd := [_, _, _, _, _]) (kk_5 wd_678 wd_679 wd_680 wd_8 cw_Mod_holders)) rfl rfl rfl ⟨rfl, ds_Mod_holders⟩ ⟨Nat.le_of_ble_eq_true rfl, Nat.le_of_ble_eq_true rfl⟩) (kk_preV hK hP hz (by omega) hM1.1 rfl) rfl rfl hl.1 rfl (lv_room (Nat.le_of_ble_eq_true rfl)) d_Law_law_581 ⟨show 31 + 5 * k9 + 0 + 0 ≤ 763340 by omega, show 1015 + 17 * k9 + 0 + 0 ≤ 6812228 by omega⟩) hS (fun r2 w2 sz2 H2 locs2 hp2 hP2 hz2 hS2 => ?_)
  obtain ⟨hr2, ⟨ha1, hb1, hM2⟩, hk2, hs2⟩ := hp2
  refine lv_icmp_eq (tgt := 740) hx hb d_Law_law_584 (by decide) (fun _ => ?_) (fun h9 => absurd (hr1.trans hr2.symm) h9)
  refine W.widen (k := 31 + 5 * (k9 + 1)) (n := 1015 + 17 * (k9 + 1)) (by omega) (by omega) ?_
  subst hs2
  exact kk (va_up (va_up N 14 ha1) 15 hb1) (S) w2 _ H2 locs2 hP2 hz2 hS2 ⟨xs_15 _ (xs_14 _ (xs_keep hX1 hk2)), hM2, hsz1, hG.ho _ _⟩
set_option maxHeartbeats 4000000 in
set_option maxRecDepth 100000 in
theorem lc_begin (l : Launch) (C : lw_C p s m c D cI cZ cQ b0 L xs) (hk : 6 * k9 + 6 ≤ L) (hP : mm_P s.heap.size D kc w H) (hz : H.size = sz) (hS : mm_S s.heap.size s.heap H locs) (hJ : lw_J s.heap.size cI cZ cQ k9 sz N S w) (hl : lv_has ls 4 [(3, .int (nI (6 * k9))), (2, .ref (s.heap.size + 14)), (1, .ref s.heap.size), (0, .ref b0)])
    (kk : ∀ (N1 : Nat → Nat → Nat) (S1 : Nat → Nat → Int32) (w1 : mm_M) (sz1 : Nat) (H1 : Heap) (locs1 : List Loc), mm_P s.heap.size D kc w1 H1 → H1.size = sz1 → mm_S s.heap.size s.heap H1 locs1 → lw_J s.heap.size cI cZ cQ (k9 + 1) sz1 N1 S1 w1 → W p l e room_1 s m #[Value.ref b0] below meth c H1 locs1 (31 + 5 * (k9 + 1)) (1015 + 17 * (k9 + 1)) Q (F0 m 740 ls [])) : W p l e room_1 s m #[Value.ref b0] below meth c H locs (31 + 5 * k9) (1015 + 17 * k9) Q (F0 m 589 ls []) := by
  obtain ⟨hx, hb, hml, hown, hts, hK, hX, hbl, hL⟩ := C
  obtain ⟨hXI, hM1, hsz, hG⟩ := hJ
  have hG9 := hG
  obtain ⟨hR, hCh, h7, hn, hu⟩ := hG9
  have hX9 := hXI
  obtain ⟨T0, U0, ad0, hx0, -, -⟩ := hX9
  refine lv_aload_n hx hb d_Law_law_589 rfl (lv_at hl 2 rfl) ?_
  refine lw_rd hx hb hX hbl hL hk hS hl 1 (by decide) (by decide) d_Law_law_590 d_Law_law_591 d_Law_law_592 d_Law_law_593 d_Law_law_594 ?_
  refine kk_calli (va_runV (As := [.int (xs (6 * k9 + 1))]) (rest := []) ⟨hx, hb, hml, hown, hts⟩ (c_X_begin l hXI hR hCh) (cwV 1 hts (gW_in (hd := [_, _, _, _, _]) (kk_5 wd_398 wd_399 wd_400 wd_1 cw_X_begin)) rfl rfl rfl ⟨rfl, ds_X_begin⟩ ⟨Nat.le_of_ble_eq_true rfl, Nat.le_of_ble_eq_true rfl⟩) (kk_preV hK hP hz (by omega) hx0.2.1 rfl) rfl rfl hl.1 rfl (lv_room (Nat.le_of_ble_eq_true rfl)) d_Law_law_595 ⟨show 31 + 5 * k9 + 0 ≤ 763340 by omega, show 1015 + 17 * k9 + 0 ≤ 6812228 by omega⟩) hS (fun r1 w1 sz1 H locs hp1 hP hz hS => ?_)
  obtain ⟨hr1, hX1, hk1, hs1⟩ := hp1
  have hM1 := hM1.keep hk1
  have hsz1 : s.heap.size + 31 ≤ sz1 := by omega
  refine lv_aload_n hx hb d_Law_law_598 rfl (lv_at hl 1 rfl) ?_
  refine lw_rd hx hb hX hbl hL hk hS hl 1 (by decide) (by decide) d_Law_law_599 d_Law_law_600 d_Law_law_601 d_Law_law_602 d_Law_law_603 ?_
  refine kk_calli (va_runV (As := [.int (xs (6 * k9 + 1))]) (rest := [.int r1]) ⟨hx, hb, hml, hown, hts⟩ (c_Mod_begin l hM1 hn hR) (cwV 1 hts (gW_in (hd := [_, _, _, _, _]) (kk_5 wd_683 wd_684 wd_685 wd_8 cw_Mod_begin)) rfl rfl rfl ⟨rfl, ds_Mod_begin⟩ ⟨Nat.le_of_ble_eq_true rfl, Nat.le_of_ble_eq_true rfl⟩) (kk_preV hK hP hz (by omega) hM1.1 rfl) rfl rfl hl.1 rfl (lv_room (Nat.le_of_ble_eq_true rfl)) d_Law_law_604 ⟨show 31 + 5 * k9 + 0 + 0 ≤ 763340 by omega, show 1015 + 17 * k9 + 0 + 0 ≤ 6812228 by omega⟩) hS (fun r2 w2 sz2 H2 locs2 hp2 hP2 hz2 hS2 => ?_)
  obtain ⟨hr2, hM2, hk2, hs2⟩ := hp2
  refine lv_icmp_eq (tgt := 740) hx hb d_Law_law_607 (by decide) (fun _ => ?_) (fun h9 => absurd (hr1.trans hr2.symm) h9)
  refine W.widen (k := 31 + 5 * (k9 + 1)) (n := 1015 + 17 * (k9 + 1)) (by omega) (by omega) ?_
  subst hs2
  exact kk (be_N N (xs (6 * k9 + 1))) (be_S N S (xs (6 * k9 + 1))) w2 _ H2 locs2 hP2 hz2 hS2 ⟨xs_keep hX1 hk2, hM2, hsz1, hG.be _⟩
end LC
