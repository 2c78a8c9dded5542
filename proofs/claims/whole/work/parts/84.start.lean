set_option maxHeartbeats 4000000 in
set_option maxRecDepth 100000 in
theorem whole_start {p : Program} {e : Env} {s : State} {m : MethodId} {below : List Frame} {meth : Method} {c : Code} (l : Launch) {b L : Nat} {xs : Nat → Int32} (hL : L ≤ 3072) (C0 : lw_At p s m meth c b L xs) : W p l e room_1 s m #[Value.ref b] below meth c s.heap [] 0 0 (lw_Z below #[Value.ref b] s) (entryFrame m ([Value.ref b] : List Value).toArray 4) := by
  obtain ⟨hx, hb, hr, hml, hown, htb, hX, hbl, hlocks, hpre⟩ := C0
  have hfl := flat_of_before _ hpre
  obtain ⟨D, cI, cZ, cQ, hK⟩ := lw_K htb (hfl _ (by decide +kernel)) (hfl _ (by decide +kernel))
  have hts := lw_gw htb
  have hl := lv_entry ([.ref b]) (n := 4) (Nat.le_of_ble_eq_true rfl)
  rw [lg_entry_eq]
  generalize (lg_sl ([Value.ref b]) ++ List.replicate (4 - (lg_sl ([Value.ref b])).length) Slot.unset).toArray = ls at hl ⊢
  have hl : lv_has ls 4 [(0, .ref b)] := hl
  have hown : s.vm.findClass "DelegationClosureLaw" = some m.cls := hown
  have hC : lw_C p s m c D cI cZ cQ b L xs := ⟨hx, hb, hml, hown, hts, hK, hX, hbl, hL⟩
  have hP : mm_P s.heap.size D kc (fun _ => none) s.heap := fun a x h => by cases h
  have hS : mm_S s.heap.size s.heap s.heap [] := va_S.rf
  refine mm_new (D := D) (C := n_X) (T := T_X) (N := 4) (ci := 0) (fs := [.null, .null, .null, .null]) (h := s.heap.size) hx hb hts lay_X t_X ty_X hown (hts _ (List.mem_cons_of_mem _ wd_15)) (hts _ (List.mem_cons_of_mem _ wd_16)) (hts _ (List.mem_cons_of_mem _ wd_1)) hK.1 hP hS rfl def_X (Nat.le_of_ble_eq_true rfl) (Nat.le_of_ble_eq_true rfl) rfl (by omega) d_Law_law_0 (fun H hP hz hS => ?_)
  obtain ⟨w0, hw0⟩ : ∃ z : mm_M, z = mm_up (fun _ => none) s.heap.size (.inr (0, [.null, .null, .null, .null])) := ⟨_, rfl⟩
  have hP : mm_P s.heap.size D kc w0 H := by rw [hw0]; exact hP
  have f0 : w0 s.heap.size = some (.inr (0, [.null, .null, .null, .null])) := by rw [hw0]; exact mm_us _ _ _
  refine lv_dup hx hb d_Law_law_3 rfl ?_
  refine kk_callv (va_runI (As := []) (rest := [.ref s.heap.size]) ⟨hx, hb, hml, hown, hts⟩ (c_X_init l f0 (Nat.lt_succ_self _)) (cwI 0 hts (gW_in (hd := [_]) (kk_1 cw_X_init)) rfl rfl rfl (hts _ (List.mem_cons_of_mem _ wd_1)) (hts _ (List.mem_cons_of_mem _ wd_17)) (hts _ (List.mem_cons_of_mem _ wd_18)) rfl ds_X_init ⟨Nat.le_of_ble_eq_true rfl, Nat.le_of_ble_eq_true rfl⟩) (kk_preS hK hP hz (by omega)) rfl rfl hl.1 rfl (lv_room (Nat.le_of_ble_eq_true rfl)) d_Law_law_4 ⟨Nat.le_of_ble_eq_true rfl, Nat.le_of_ble_eq_true rfl⟩) hS (fun w1 sz1 H locs hp hP hz hS => ?_)
  obtain ⟨he1, hs1⟩ := hp
  have hx1 := lw_x0 he1
  have hz : H.size = s.heap.size + 14 := hz.trans hs1
  clear he1 hs1 f0 hw0
  refine lv_astore_n hx hb d_Law_law_7 rfl hl (by decide) rfl (fun ls hl => ?_)
  have hl : lv_has ls 4 [(1, .ref s.heap.size), (0, .ref b)] := hl
  refine mm_new (D := D) (C := n_Mod) (T := T_Mod) (N := 27) (ci := 9) (fs := [.int 0, .null, .null, .null, .null, .null, .null, .null, .null, .null, .null, .null, .null, .null, .null, .null, .int 0, .int 0, .int 0, .null, .int 0, .int 0, .int 0, .int 0, .int 0, .int 0, .int 0]) (h := s.heap.size + 14) hx hb hts lay_Mod t_Mod ty_Mod hown (hts _ (List.mem_cons_of_mem _ wd_485)) (hts _ (List.mem_cons_of_mem _ wd_486)) (hts _ (List.mem_cons_of_mem _ wd_8)) hK.1 hP hS rfl def_Mod (Nat.le_of_ble_eq_true rfl) (Nat.le_of_ble_eq_true rfl) hz (by omega) d_Law_law_8 (fun H hP hz hS => ?_)
  obtain ⟨w2, hw2⟩ : ∃ z : mm_M, z = mm_up w1 (s.heap.size + 14) (.inr (9, [.int 0, .null, .null, .null, .null, .null, .null, .null, .null, .null, .null, .null, .null, .null, .null, .null, .int 0, .int 0, .int 0, .null, .int 0, .int 0, .int 0, .int 0, .int 0, .int 0, .int 0])) := ⟨_, rfl⟩
  have hP : mm_P s.heap.size D kc w2 H := by rw [hw2]; exact hP
  have hz : H.size = s.heap.size + 15 := hz
  have f2 : w2 (s.heap.size + 14) = some (.inr (9, [.int 0, .null, .null, .null, .null, .null, .null, .null, .null, .null, .null, .null, .null, .null, .null, .null, .int 0, .int 0, .int 0, .null, .int 0, .int 0, .int 0, .int 0, .int 0, .int 0, .int 0])) := by rw [hw2]; exact mm_us _ _ _
  have fr2 : ∀ j, j ≠ s.heap.size + 14 → w2 j = w1 j := fun j h9 => by rw [hw2]; exact mm_un h9
  clear hw2
  refine lv_dup hx hb d_Law_law_11 rfl ?_
  refine kk_callv (va_runI (As := []) (rest := [.ref (s.heap.size + 14)]) ⟨hx, hb, hml, hown, hts⟩ (c_Mod_init l f2 (Nat.lt_succ_self _)) (cwI 0 hts (gW_in (hd := [_]) (kk_1 cw_Mod_init)) rfl rfl rfl (hts _ (List.mem_cons_of_mem _ wd_8)) (hts _ (List.mem_cons_of_mem _ wd_487)) (hts _ (List.mem_cons_of_mem _ wd_488)) rfl ds_Mod_init ⟨Nat.le_of_ble_eq_true rfl, Nat.le_of_ble_eq_true rfl⟩) (kk_preS hK hP hz (by omega)) rfl rfl hl.1 rfl (lv_room (Nat.le_of_ble_eq_true rfl)) d_Law_law_12 ⟨Nat.le_of_ble_eq_true rfl, Nat.le_of_ble_eq_true rfl⟩) hS (fun w3 sz3 H locs hp hP hz hS => ?_)
  obtain ⟨he3, hs3⟩ := hp
  have hm3 := lw_m0 he3
  have hz : H.size = s.heap.size + 31 := hz.trans hs3
  have hx3 : xs_I s.heap.size cI cZ cQ (s.heap.size + 31) (fun _ _ => 0) (fun _ _ => nI 0) w3 := xs_keep hx1 (fun j hj => (hm3.2 j hj).trans (fr2 j (by omega)))
  clear he3 hs3 f2 fr2 hx1
  refine lv_astore_n hx hb d_Law_law_15 rfl hl (by decide) rfl (fun ls hl => ?_)
  have hl : lv_has ls 4 [(2, .ref (s.heap.size + 14)), (1, .ref s.heap.size), (0, .ref b)] := hl
  refine lv_iconst (v := nI (6 * 0)) hx hb d_Law_law_16 (by decide) ?_
  refine lv_istore_n hx hb d_Law_law_17 rfl hl (by decide) rfl (fun ls hl => ?_)
  have hl : lv_has ls 4 [(3, .int (nI (6 * 0))), (2, .ref (s.heap.size + 14)), (1, .ref s.heap.size), (0, .ref b)] := hl
  refine W.widen (k := 31 + 5 * 0) (n := 1015 + 17 * 0) (Nat.le_of_ble_eq_true rfl) (Nat.le_of_ble_eq_true rfl) ?_
  have hg : lw_G 0 (fun _ _ => 0) := ⟨fun j hj => absurd hj (Nat.not_lt_zero j), ⟨Nat.zero_le _, Nat.zero_le _, Nat.zero_le _, (show (0 : Nat) < 256 by decide), (show (0 : Nat) < 2 ^ 20 by decide), Nat.zero_le _, fun j => Nat.zero_le _⟩, fun j hj => rfl, Nat.zero_le _, Nat.zero_le _⟩
  exact lw_loop l hC hr hlocks (L - 6 * 0) 0 ls (fun _ _ => 0) (fun _ _ => nI 0) w3 _ H locs rfl (Nat.zero_le _) hP hz hS ⟨hx3, hm3.1, Nat.le_refl _, hg⟩ hl
