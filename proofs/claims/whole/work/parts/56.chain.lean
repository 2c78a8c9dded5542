theorem d_Chn_putAhead_0 : decode k_Chn_putAhead 0 = .ok (.iload_n 1, 1) := by decide +kernel
theorem d_Chn_putAhead_1 : decode k_Chn_putAhead 1 = .ok (.invokestatic 78, 3) := by decide +kernel
theorem d_Chn_putAhead_4 : decode k_Chn_putAhead 4 = .ok (.istore_n 3, 1) := by decide +kernel
theorem d_Chn_putAhead_5 : decode k_Chn_putAhead 5 = .ok (.aload_n 0, 1) := by decide +kernel
theorem d_Chn_putAhead_6 : decode k_Chn_putAhead 6 = .ok (.getfield 15, 3) := by decide +kernel
theorem d_Chn_putAhead_9 : decode k_Chn_putAhead 9 = .ok (.aload_n 0, 1) := by decide +kernel
theorem d_Chn_putAhead_10 : decode k_Chn_putAhead 10 = .ok (.getfield 19, 3) := by decide +kernel
theorem d_Chn_putAhead_13 : decode k_Chn_putAhead 13 = .ok (.iload_n 2, 1) := by decide +kernel
theorem d_Chn_putAhead_14 : decode k_Chn_putAhead 14 = .ok (.isub, 1) := by decide +kernel
theorem d_Chn_putAhead_15 : decode k_Chn_putAhead 15 = .ok (.aload_n 0, 1) := by decide +kernel
theorem d_Chn_putAhead_16 : decode k_Chn_putAhead 16 = .ok (.getfield 15, 3) := by decide +kernel
theorem d_Chn_putAhead_19 : decode k_Chn_putAhead 19 = .ok (.iload_n 3, 1) := by decide +kernel
theorem d_Chn_putAhead_20 : decode k_Chn_putAhead 20 = .ok (.iload_n 2, 1) := by decide +kernel
theorem d_Chn_putAhead_21 : decode k_Chn_putAhead 21 = .ok (.invokestatic 97, 3) := by decide +kernel
theorem d_Chn_putAhead_24 : decode k_Chn_putAhead 24 = .ok (.aload_n 0, 1) := by decide +kernel
theorem d_Chn_putAhead_25 : decode k_Chn_putAhead 25 = .ok (.iload_n 1, 1) := by decide +kernel
theorem d_Chn_putAhead_26 : decode k_Chn_putAhead 26 = .ok (.invokestatic 103, 3) := by decide +kernel
theorem d_Chn_putAhead_29 : decode k_Chn_putAhead 29 = .ok (.putfield 9, 3) := by decide +kernel
theorem d_Chn_putAhead_32 : decode k_Chn_putAhead 32 = .ok (.iload_n 3, 1) := by decide +kernel
theorem d_Chn_putAhead_33 : decode k_Chn_putAhead 33 = .ok (.ifCond .le 13, 3) := by decide +kernel
theorem d_Chn_putAhead_36 : decode k_Chn_putAhead 36 = .ok (.aload_n 0, 1) := by decide +kernel
theorem d_Chn_putAhead_37 : decode k_Chn_putAhead 37 = .ok (.getfield 15, 3) := by decide +kernel
theorem d_Chn_putAhead_40 : decode k_Chn_putAhead 40 = .ok (.iconst 0, 1) := by decide +kernel
theorem d_Chn_putAhead_41 : decode k_Chn_putAhead 41 = .ok (.iload_n 1, 1) := by decide +kernel
theorem d_Chn_putAhead_42 : decode k_Chn_putAhead 42 = .ok (.invokestatic 106, 3) := by decide +kernel
theorem d_Chn_putAhead_45 : decode k_Chn_putAhead 45 = .ok (.iastore, 1) := by decide +kernel
theorem d_Chn_putAhead_46 : decode k_Chn_putAhead 46 = .ok (.iload_n 3, 1) := by decide +kernel
theorem d_Chn_putAhead_47 : decode k_Chn_putAhead 47 = .ok (.iconst 1, 1) := by decide +kernel
theorem d_Chn_putAhead_48 : decode k_Chn_putAhead 48 = .ok (.if_icmp .le 13, 3) := by decide +kernel
theorem d_Chn_putAhead_51 : decode k_Chn_putAhead 51 = .ok (.aload_n 0, 1) := by decide +kernel
theorem d_Chn_putAhead_52 : decode k_Chn_putAhead 52 = .ok (.getfield 15, 3) := by decide +kernel
theorem d_Chn_putAhead_55 : decode k_Chn_putAhead 55 = .ok (.iconst 1, 1) := by decide +kernel
theorem d_Chn_putAhead_56 : decode k_Chn_putAhead 56 = .ok (.iload_n 1, 1) := by decide +kernel
theorem d_Chn_putAhead_57 : decode k_Chn_putAhead 57 = .ok (.invokestatic 109, 3) := by decide +kernel
theorem d_Chn_putAhead_60 : decode k_Chn_putAhead 60 = .ok (.iastore, 1) := by decide +kernel
theorem d_Chn_putAhead_61 : decode k_Chn_putAhead 61 = .ok (.aload_n 0, 1) := by decide +kernel
theorem d_Chn_putAhead_62 : decode k_Chn_putAhead 62 = .ok (.iload_n 3, 1) := by decide +kernel
theorem d_Chn_putAhead_63 : decode k_Chn_putAhead 63 = .ok (.iload_n 2, 1) := by decide +kernel
theorem d_Chn_putAhead_64 : decode k_Chn_putAhead 64 = .ok (.iadd, 1) := by decide +kernel
theorem d_Chn_putAhead_65 : decode k_Chn_putAhead 65 = .ok (.putfield 19, 3) := by decide +kernel
theorem d_Chn_putAhead_68 : decode k_Chn_putAhead 68 = .ok (.return_, 1) := by decide +kernel
set_option maxHeartbeats 4000000 in
set_option maxRecDepth 100000 in
theorem c_Chn_putAhead (l : Launch) {B : Nat} {D : va_G} {cI cZ cQ : ClassId} {w : mm_M} {sz : Nat} {a nm tg tm ky sz9 us dl n kp : Nat} {g : Nat → Nat} (h_0 : w a = some (.inr (4, [.int (nI ky), .ref nm, .int (nI sz9), .ref tg, .ref tm, .int (nI us), .int (nI dl)]))) (h_1 : w nm = some (.inl (cI, 4, .inl (fun i => nI (g i))))) (hn2 : n < 200) (hk1 : kp ≤ sz9) (hs4 : sz9 ≤ 4) (hk4 : ch_a n + kp ≤ 4) (hne0 : a ≠ nm) : Met l y_Chn_putAhead ws_Chn_putAhead (kk_rm 2 0 0) (kk_Pc B D cI cZ cQ [.ref a, .int (nI n), .int (nI kp)] w sz) (kk_Qv B D (fun w' sz' => w' = mm_up (mm_up w a (.inr (4, [.int (nI (n % 8)), .ref nm, .int (nI (ch_a n + kp)), .ref tg, .ref tm, .int (nI us), .int (nI dl)]))) nm (.inl (cI, 4, .inl (fun i => nI ((ch_put g n (sz9 - kp) kp) i)))) ∧ sz' = sz)) 0 0 (fun q => B ≤ q) := by
  refine Met.ofW (cc := k_Chn_putAhead) (maxL := 4) (ret := none) (by decide) rfl ?_
  intro p e s m args below meth c s₁ BB hml hv
  obtain ⟨rfl, hK, hP, hz, hBz⟩ := hv
  have hx := BB.exec
  have hb := BB.bytes
  have hr := BB.returns
  have hts := atoms_spec (ws := ws_Chn_putAhead) BB.pre
  have hown : s.vm.findClass "DelegationClosure$Chain" = some m.cls := findClass_of_methodNamed BB.named
  have hlocks := BB.notSynchronized
  have hS : mm_S B s.heap s.heap [] := va_S.rf
  have hl := lv_entry ([.ref a, .int (nI n), .int (nI kp)]) (n := 4) (Nat.le_of_ble_eq_true rfl)
  rw [lg_entry_eq]
  generalize (lg_sl ([.ref a, .int (nI n), .int (nI kp)]) ++ List.replicate (4 - (lg_sl ([.ref a, .int (nI n), .int (nI kp)])).length) Slot.unset).toArray = ls at hl ⊢
  have hl : lv_has ls 4 [(0, .ref a), (1, .int (nI n)), (2, .int (nI kp))] := hl
  have hA2 := ch_a_le n
  refine lv_iload_n hx hb d_Chn_putAhead_0 rfl (lv_at hl 1 rfl) ?_
  refine vp_callSi (va_Run.run (va_runSN (As := [.int (nI n)]) (rest := []) ⟨hx, hb, hml, hown, hts⟩ (c_X_namesIn l (by omega)) ⟨va_cnB 1 hts (gW_in (hd := [_]) (kk_1 cw_X_namesIn)) rfl rfl rfl (hK.2.1 _ nw_410 rfl) (hts _ (List.mem_cons_of_mem _ wd_1)) ds_X_namesIn ⟨Nat.le_of_ble_eq_true rfl, Nat.le_of_ble_eq_true rfl⟩, (hts _ (List.mem_cons_of_mem _ wd_411)), trivial⟩ (kk_preS hK hP hz hBz) rfl rfl hl.1 rfl (lv_room (Nat.le_of_ble_eq_true rfl)) d_Chn_putAhead_1 ⟨Nat.le_of_ble_eq_true rfl, Nat.le_of_ble_eq_true rfl⟩)) (fun r1 hr1 => ?_)
  subst hr1
  refine kk_top (y := nI (ch_a n)) (rfl) ?_
  refine lv_istore_n hx hb d_Chn_putAhead_4 rfl hl (by decide) rfl (fun ls hl => ?_)
  have hl : lv_has ls 4 [(3, .int (nI (ch_a n))), (0, .ref a), (1, .int (nI n)), (2, .int (nI kp))] := hl
  refine lv_aload_n hx hb d_Chn_putAhead_5 rfl (lv_at hl 1 rfl) ?_
  refine mm_get (D := D) (C := n_Chn) (T := T_Chn) (N := 7) (v := .ref nm) hx hb hts lay_Chn hown hK.1 hP h_0 rfl 1 (by decide) (hts _ (List.mem_cons_of_mem _ wd_107)) (fun _ h9 => h9) rfl d_Chn_putAhead_6 ?_
  refine lv_aload_n hx hb d_Chn_putAhead_9 rfl (lv_at hl 1 rfl) ?_
  refine mm_get (D := D) (C := n_Chn) (T := T_Chn) (N := 7) (v := .int (nI sz9)) hx hb hts lay_Chn hown hK.1 hP h_0 rfl 2 (by decide) (hts _ (List.mem_cons_of_mem _ wd_109)) (fun _ h9 => h9) rfl d_Chn_putAhead_10 ?_
  refine lv_iload_n hx hb d_Chn_putAhead_13 rfl (lv_at hl 3 rfl) ?_
  refine lv_isub hx hb d_Chn_putAhead_14 ?_
  refine kk_top (pk_sub (by omega)) ?_
  refine lv_aload_n hx hb d_Chn_putAhead_15 rfl (lv_at hl 1 rfl) ?_
  refine mm_get (D := D) (C := n_Chn) (T := T_Chn) (N := 7) (v := .ref nm) hx hb hts lay_Chn hown hK.1 hP h_0 rfl 1 (by decide) (hts _ (List.mem_cons_of_mem _ wd_107)) (fun _ h9 => h9) rfl d_Chn_putAhead_16 ?_
  refine lv_iload_n hx hb d_Chn_putAhead_19 rfl (lv_at hl 0 rfl) ?_
  refine lv_iload_n hx hb d_Chn_putAhead_20 rfl (lv_at hl 3 rfl) ?_
  refine mm_copyi hx hb (by rw [hml]; exact hl.1.symm) hown (hts _ (List.mem_cons_of_mem _ wd_413)) (hts _ (List.mem_cons_of_mem _ wd_415)) (hts _ (List.mem_cons_of_mem _ wd_414)) (hts _ (List.mem_cons_of_mem _ wd_14)) hK.1 hP hS 0 h_1 rfl (sz9 - kp) (ch_a n) kp rfl rfl rfl (by omega) (by omega) (by decide) (Nat.le_of_ble_eq_true rfl) (Nat.le_of_ble_eq_true rfl) d_Chn_putAhead_21 (fun H locs hP hz1 hS => ?_)
  rw [ch_cpy] at hP
  have hz : H.size = sz := hz1.trans hz
  obtain ⟨w2, hw2⟩ : ∃ z : mm_M, z = mm_up w nm (.inl (cI, 4, .inl (fun i => nI ((va_cpy g g (sz9 - kp) (ch_a n) kp) i)))) := ⟨_, rfl⟩
  have hP : mm_P B D kc w2 H := by rw [hw2]; exact hP
  have fr2 : ∀ j, j ≠ nm → w2 j = w j := fun j h9 => by rw [hw2]; exact mm_un h9
  have fa2 : w2 nm = some (.inl (cI, 4, .inl (fun i => nI ((va_cpy g g (sz9 - kp) (ch_a n) kp) i)))) := by rw [hw2]; exact mm_us _ _ _
  refine lv_aload_n hx hb d_Chn_putAhead_24 rfl (lv_at hl 1 rfl) ?_
  refine lv_iload_n hx hb d_Chn_putAhead_25 rfl (lv_at hl 2 rfl) ?_
  refine vp_callSi (va_Run.run (va_runSN (As := [.int (nI n)]) (rest := [.ref a]) ⟨hx, hb, hml, hown, hts⟩ (c_X_keyOf l (by omega)) ⟨va_cnB 1 hts (gW_in (hd := [_]) (kk_1 cw_X_keyOf)) rfl rfl rfl (hK.2.1 _ nw_416 rfl) (hts _ (List.mem_cons_of_mem _ wd_1)) ds_X_keyOf ⟨Nat.le_of_ble_eq_true rfl, Nat.le_of_ble_eq_true rfl⟩, (hts _ (List.mem_cons_of_mem _ wd_334)), trivial⟩ (kk_preS hK hP hz hBz) rfl rfl hl.1 rfl (lv_room (Nat.le_of_ble_eq_true rfl)) d_Chn_putAhead_26 ⟨Nat.le_of_ble_eq_true rfl, Nat.le_of_ble_eq_true rfl⟩)) (fun r3 hr3 => ?_)
  subst hr3
  have f4 := (fr2 _ hne0).trans (h_0)
  refine mm_put (D := D) (C := n_Chn) (T := T_Chn) (N := 7) (v := .int (nI (n % 8))) (ty := .int) hx hb hts lay_Chn t_Chn ty_Chn nm_Chn hown hK.1 hP hS f4 rfl 0 (by decide) (hts _ (List.mem_cons_of_mem _ wd_105)) (fun _ h9 => h9) rfl (by decide +kernel) rfl rfl (Nat.le_of_ble_eq_true rfl) d_Chn_putAhead_29 (fun H locs hP hz1 hS => ?_)
  have hz : H.size = sz := hz1.trans hz
  obtain ⟨w5, hw5⟩ : ∃ z : mm_M, z = mm_up w2 a (.inr (4, [.int (nI (n % 8)), .ref nm, .int (nI sz9), .ref tg, .ref tm, .int (nI us), .int (nI dl)])) := ⟨_, rfl⟩
  have hP : mm_P B D kc w5 H := by rw [hw5]; exact hP
  have fr5 : ∀ j, j ≠ a → w5 j = w2 j := fun j h9 => by rw [hw5]; exact mm_un h9
  have fa5 : w5 a = some (.inr (4, [.int (nI (n % 8)), .ref nm, .int (nI sz9), .ref tg, .ref tm, .int (nI us), .int (nI dl)])) := by rw [hw5]; exact mm_us _ _ _
  refine lv_iload_n hx hb d_Chn_putAhead_32 rfl (lv_at hl 0 rfl) ?_
  refine lv_if_le (tgt := 46) hx hb d_Chn_putAhead_33 (by decide) (fun cc6 => ?_) (fun cc6 => ?_)
  · rw [← nI_0] at cc6
    have cc6 : ch_a n ≤ 0 := (nI_leI (by omega) (by omega)).mp cc6
    refine lv_iload_n hx hb d_Chn_putAhead_46 rfl (lv_at hl 0 rfl) ?_
    refine lv_iconst (v := nI 1) hx hb d_Chn_putAhead_47 (by decide) ?_
    refine lv_icmp_le (tgt := 61) hx hb d_Chn_putAhead_48 (by decide) (fun cc7 => ?_) (fun cc7 => ?_)
    · have cc7 : ch_a n ≤ 1 := (nI_leI (by omega) (by omega)).mp cc7
      refine lv_aload_n hx hb d_Chn_putAhead_61 rfl (lv_at hl 1 rfl) ?_
      refine lv_iload_n hx hb d_Chn_putAhead_62 rfl (lv_at hl 0 rfl) ?_
      refine lv_iload_n hx hb d_Chn_putAhead_63 rfl (lv_at hl 3 rfl) ?_
      refine lv_iadd hx hb d_Chn_putAhead_64 ?_
      refine kk_top (nI_add _ _) ?_
      refine mm_put (D := D) (C := n_Chn) (T := T_Chn) (N := 7) (v := .int (nI ((ch_a n) + kp))) (ty := .int) hx hb hts lay_Chn t_Chn ty_Chn nm_Chn hown hK.1 hP hS fa5 rfl 2 (by decide) (hts _ (List.mem_cons_of_mem _ wd_109)) (fun _ h9 => h9) rfl (by decide +kernel) rfl rfl (Nat.le_of_ble_eq_true rfl) d_Chn_putAhead_65 (fun H locs hP hz1 hS => ?_)
      have hz : H.size = sz := hz1.trans hz
      obtain ⟨w8, hw8⟩ : ∃ z : mm_M, z = mm_up w5 a (.inr (4, [.int (nI (n % 8)), .ref nm, .int (nI ((ch_a n) + kp)), .ref tg, .ref tm, .int (nI us), .int (nI dl)])) := ⟨_, rfl⟩
      have hP : mm_P B D kc w8 H := by rw [hw8]; exact hP
      have fr8 : ∀ j, j ≠ a → w8 j = w5 j := fun j h9 => by rw [hw8]; exact mm_un h9
      have fa8 : w8 a = some (.inr (4, [.int (nI (n % 8)), .ref nm, .int (nI ((ch_a n) + kp)), .ref tg, .ref tm, .int (nI us), .int (nI dl)])) := by rw [hw8]; exact mm_us _ _ _
      have f9 := (fr8 _ hne0.symm).trans ((fr5 _ hne0.symm).trans (fa2))
      rw [cx_put0 (by omega)] at f9
      exact W.vret hx hb hr (fun t ht hW => ⟨⟨(w8, sz), rfl, ⟨mm_e2 fa8 f9 (fun j g0 g1 => (fr8 j g0).trans ((fr5 j g0).trans (fr2 j g1))), rfl⟩, by rw [ht]; exact hP, by rw [ht]; exact hz⟩, hS.F ht⟩) hS.2.2 d_Chn_putAhead_68
    · have cc7 : ¬ (ch_a n ≤ 1) := fun q => cc7 ((nI_leI (by omega) (by omega)).mpr q)
      exact absurd cc7 (by omega)
  · rw [← nI_0] at cc6
    have cc6 : ¬ (ch_a n ≤ 0) := fun q => cc6 ((nI_leI (by omega) (by omega)).mpr q)
    have ha1 := ch_a_1 (n := n) (by omega)
    refine lv_aload_n hx hb d_Chn_putAhead_36 rfl (lv_at hl 1 rfl) ?_
    refine mm_get (D := D) (C := n_Chn) (T := T_Chn) (N := 7) (v := .ref nm) hx hb hts lay_Chn hown hK.1 hP fa5 rfl 1 (by decide) (hts _ (List.mem_cons_of_mem _ wd_107)) (fun _ h9 => h9) rfl d_Chn_putAhead_37 ?_
    refine lv_iconst (v := nI 0) hx hb d_Chn_putAhead_40 (by decide) ?_
    refine lv_iload_n hx hb d_Chn_putAhead_41 rfl (lv_at hl 2 rfl) ?_
    refine vp_callSi (va_Run.run (va_runSN (As := [.int (nI n)]) (rest := [.int (nI 0), .ref nm]) ⟨hx, hb, hml, hown, hts⟩ (c_X_firstNameOf l (by omega)) ⟨va_cnB 1 hts (gW_in (hd := [_]) (kk_1 cw_X_firstNameOf)) rfl rfl rfl (hK.2.1 _ nw_417 rfl) (hts _ (List.mem_cons_of_mem _ wd_1)) ds_X_firstNameOf ⟨Nat.le_of_ble_eq_true rfl, Nat.le_of_ble_eq_true rfl⟩, (hts _ (List.mem_cons_of_mem _ wd_156)), trivial⟩ (kk_preS hK hP hz hBz) rfl rfl hl.1 rfl (lv_room (Nat.le_of_ble_eq_true rfl)) d_Chn_putAhead_42 ⟨Nat.le_of_ble_eq_true rfl, Nat.le_of_ble_eq_true rfl⟩)) (fun r10 hr10 => ?_)
    subst hr10
    refine kk_top (y := nI (n / 8 % 5 - 1)) (pk_sub (by omega)) ?_
    have f11 := (fr5 _ hne0.symm).trans (fa2)
    refine mm_iast hx hb hK.1 hP hS 0 f11 rfl 0 rfl (by omega) (by decide) d_Chn_putAhead_45 (fun H locs hP hz1 hS => ?_)
    rw [show upd (fun i => nI ((va_cpy g g (sz9 - kp) (ch_a n) kp) i)) 0 (nI (n / 8 % 5 - 1)) = fun i => nI ((va_up (va_cpy g g (sz9 - kp) (ch_a n) kp) 0 (n / 8 % 5 - 1)) i) from kk_upn _ _ _] at hP
    have hz : H.size = sz := hz1.trans hz
    obtain ⟨w12, hw12⟩ : ∃ z : mm_M, z = mm_up w5 nm (.inl (cI, 4, .inl (fun i => nI ((va_up (va_cpy g g (sz9 - kp) (ch_a n) kp) 0 (n / 8 % 5 - 1)) i)))) := ⟨_, rfl⟩
    have hP : mm_P B D kc w12 H := by rw [hw12]; exact hP
    have fr12 : ∀ j, j ≠ nm → w12 j = w5 j := fun j h9 => by rw [hw12]; exact mm_un h9
    have fa12 : w12 nm = some (.inl (cI, 4, .inl (fun i => nI ((va_up (va_cpy g g (sz9 - kp) (ch_a n) kp) 0 (n / 8 % 5 - 1)) i)))) := by rw [hw12]; exact mm_us _ _ _
    refine lv_iload_n hx hb d_Chn_putAhead_46 rfl (lv_at hl 0 rfl) ?_
    refine lv_iconst (v := nI 1) hx hb d_Chn_putAhead_47 (by decide) ?_
    refine lv_icmp_le (tgt := 61) hx hb d_Chn_putAhead_48 (by decide) (fun cc13 => ?_) (fun cc13 => ?_)
    · have cc13 : ch_a n ≤ 1 := (nI_leI (by omega) (by omega)).mp cc13
      refine lv_aload_n hx hb d_Chn_putAhead_61 rfl (lv_at hl 1 rfl) ?_
      refine lv_iload_n hx hb d_Chn_putAhead_62 rfl (lv_at hl 0 rfl) ?_
      refine lv_iload_n hx hb d_Chn_putAhead_63 rfl (lv_at hl 3 rfl) ?_
      refine lv_iadd hx hb d_Chn_putAhead_64 ?_
      refine kk_top (nI_add _ _) ?_
      have f14 := (fr12 _ hne0).trans (fa5)
      refine mm_put (D := D) (C := n_Chn) (T := T_Chn) (N := 7) (v := .int (nI ((ch_a n) + kp))) (ty := .int) hx hb hts lay_Chn t_Chn ty_Chn nm_Chn hown hK.1 hP hS f14 rfl 2 (by decide) (hts _ (List.mem_cons_of_mem _ wd_109)) (fun _ h9 => h9) rfl (by decide +kernel) rfl rfl (Nat.le_of_ble_eq_true rfl) d_Chn_putAhead_65 (fun H locs hP hz1 hS => ?_)
      have hz : H.size = sz := hz1.trans hz
      obtain ⟨w15, hw15⟩ : ∃ z : mm_M, z = mm_up w12 a (.inr (4, [.int (nI (n % 8)), .ref nm, .int (nI ((ch_a n) + kp)), .ref tg, .ref tm, .int (nI us), .int (nI dl)])) := ⟨_, rfl⟩
      have hP : mm_P B D kc w15 H := by rw [hw15]; exact hP
      have fr15 : ∀ j, j ≠ a → w15 j = w12 j := fun j h9 => by rw [hw15]; exact mm_un h9
      have fa15 : w15 a = some (.inr (4, [.int (nI (n % 8)), .ref nm, .int (nI ((ch_a n) + kp)), .ref tg, .ref tm, .int (nI us), .int (nI dl)])) := by rw [hw15]; exact mm_us _ _ _
      have f16 := (fr15 _ hne0.symm).trans (fa12)
      rw [cx_put1 (by omega)] at f16
      exact W.vret hx hb hr (fun t ht hW => ⟨⟨(w15, sz), rfl, ⟨mm_e2 fa15 f16 (fun j g0 g1 => (fr15 j g0).trans ((fr12 j g1).trans ((fr5 j g0).trans (fr2 j g1)))), rfl⟩, by rw [ht]; exact hP, by rw [ht]; exact hz⟩, hS.F ht⟩) hS.2.2 d_Chn_putAhead_68
    · have cc13 : ¬ (ch_a n ≤ 1) := fun q => cc13 ((nI_leI (by omega) (by omega)).mpr q)
      have ha2 := ch_a_2 (n := n) (by omega)
      refine lv_aload_n hx hb d_Chn_putAhead_51 rfl (lv_at hl 1 rfl) ?_
      have f17 := (fr12 _ hne0).trans (fa5)
      refine mm_get (D := D) (C := n_Chn) (T := T_Chn) (N := 7) (v := .ref nm) hx hb hts lay_Chn hown hK.1 hP f17 rfl 1 (by decide) (hts _ (List.mem_cons_of_mem _ wd_107)) (fun _ h9 => h9) rfl d_Chn_putAhead_52 ?_
      refine lv_iconst (v := nI 1) hx hb d_Chn_putAhead_55 (by decide) ?_
      refine lv_iload_n hx hb d_Chn_putAhead_56 rfl (lv_at hl 2 rfl) ?_
      refine vp_callSi (va_Run.run (va_runSN (As := [.int (nI n)]) (rest := [.int (nI 1), .ref nm]) ⟨hx, hb, hml, hown, hts⟩ (c_X_secondNameOf l (by omega)) ⟨va_cnB 1 hts (gW_in (hd := [_]) (kk_1 cw_X_secondNameOf)) rfl rfl rfl (hK.2.1 _ nw_418 rfl) (hts _ (List.mem_cons_of_mem _ wd_1)) ds_X_secondNameOf ⟨Nat.le_of_ble_eq_true rfl, Nat.le_of_ble_eq_true rfl⟩, (hts _ (List.mem_cons_of_mem _ wd_159)), trivial⟩ (kk_preS hK hP hz hBz) rfl rfl hl.1 rfl (lv_room (Nat.le_of_ble_eq_true rfl)) d_Chn_putAhead_57 ⟨Nat.le_of_ble_eq_true rfl, Nat.le_of_ble_eq_true rfl⟩)) (fun r18 hr18 => ?_)
      subst hr18
      refine kk_top (y := nI (n / 40 - 1)) (pk_sub (by omega)) ?_
      refine mm_iast hx hb hK.1 hP hS 0 fa12 rfl 1 rfl (by omega) (by decide) d_Chn_putAhead_60 (fun H locs hP hz1 hS => ?_)
      rw [show upd (fun i => nI ((va_up (va_cpy g g (sz9 - kp) (ch_a n) kp) 0 (n / 8 % 5 - 1)) i)) 1 (nI (n / 40 - 1)) = fun i => nI ((va_up (va_up (va_cpy g g (sz9 - kp) (ch_a n) kp) 0 (n / 8 % 5 - 1)) 1 (n / 40 - 1)) i) from kk_upn _ _ _] at hP
      have hz : H.size = sz := hz1.trans hz
      obtain ⟨w19, hw19⟩ : ∃ z : mm_M, z = mm_up w12 nm (.inl (cI, 4, .inl (fun i => nI ((va_up (va_up (va_cpy g g (sz9 - kp) (ch_a n) kp) 0 (n / 8 % 5 - 1)) 1 (n / 40 - 1)) i)))) := ⟨_, rfl⟩
      have hP : mm_P B D kc w19 H := by rw [hw19]; exact hP
      have fr19 : ∀ j, j ≠ nm → w19 j = w12 j := fun j h9 => by rw [hw19]; exact mm_un h9
      have fa19 : w19 nm = some (.inl (cI, 4, .inl (fun i => nI ((va_up (va_up (va_cpy g g (sz9 - kp) (ch_a n) kp) 0 (n / 8 % 5 - 1)) 1 (n / 40 - 1)) i)))) := by rw [hw19]; exact mm_us _ _ _
      refine lv_aload_n hx hb d_Chn_putAhead_61 rfl (lv_at hl 1 rfl) ?_
      refine lv_iload_n hx hb d_Chn_putAhead_62 rfl (lv_at hl 0 rfl) ?_
      refine lv_iload_n hx hb d_Chn_putAhead_63 rfl (lv_at hl 3 rfl) ?_
      refine lv_iadd hx hb d_Chn_putAhead_64 ?_
      refine kk_top (nI_add _ _) ?_
      have f20 := (fr19 _ hne0).trans (f17)
      refine mm_put (D := D) (C := n_Chn) (T := T_Chn) (N := 7) (v := .int (nI ((ch_a n) + kp))) (ty := .int) hx hb hts lay_Chn t_Chn ty_Chn nm_Chn hown hK.1 hP hS f20 rfl 2 (by decide) (hts _ (List.mem_cons_of_mem _ wd_109)) (fun _ h9 => h9) rfl (by decide +kernel) rfl rfl (Nat.le_of_ble_eq_true rfl) d_Chn_putAhead_65 (fun H locs hP hz1 hS => ?_)
      have hz : H.size = sz := hz1.trans hz
      obtain ⟨w21, hw21⟩ : ∃ z : mm_M, z = mm_up w19 a (.inr (4, [.int (nI (n % 8)), .ref nm, .int (nI ((ch_a n) + kp)), .ref tg, .ref tm, .int (nI us), .int (nI dl)])) := ⟨_, rfl⟩
      have hP : mm_P B D kc w21 H := by rw [hw21]; exact hP
      have fr21 : ∀ j, j ≠ a → w21 j = w19 j := fun j h9 => by rw [hw21]; exact mm_un h9
      have fa21 : w21 a = some (.inr (4, [.int (nI (n % 8)), .ref nm, .int (nI ((ch_a n) + kp)), .ref tg, .ref tm, .int (nI us), .int (nI dl)])) := by rw [hw21]; exact mm_us _ _ _
      have f22 := (fr21 _ hne0.symm).trans (fa19)
      rw [cx_put2 (by omega)] at f22
      exact W.vret hx hb hr (fun t ht hW => ⟨⟨(w21, sz), rfl, ⟨mm_e2 fa21 f22 (fun j g0 g1 => (fr21 j g0).trans ((fr19 j g1).trans ((fr12 j g1).trans ((fr5 j g0).trans (fr2 j g1))))), rfl⟩, by rw [ht]; exact hP, by rw [ht]; exact hz⟩, hS.F ht⟩) hS.2.2 d_Chn_putAhead_68
theorem d_Chn_start_0 : decode k_Chn_start 0 = .ok (.aload_n 0, 1) := by decide +kernel
theorem d_Chn_start_1 : decode k_Chn_start 1 = .ok (.aload_n 1, 1) := by decide +kernel
theorem d_Chn_start_2 : decode k_Chn_start 2 = .ok (.getfield 45, 3) := by decide +kernel
theorem d_Chn_start_5 : decode k_Chn_start 5 = .ok (.iconst 0, 1) := by decide +kernel
theorem d_Chn_start_6 : decode k_Chn_start 6 = .ok (.iaload, 1) := by decide +kernel
theorem d_Chn_start_7 : decode k_Chn_start 7 = .ok (.iconst 0, 1) := by decide +kernel
theorem d_Chn_start_8 : decode k_Chn_start 8 = .ok (.invokevirtual 50, 3) := by decide +kernel
theorem d_Chn_start_11 : decode k_Chn_start 11 = .ok (.aload_n 0, 1) := by decide +kernel
theorem d_Chn_start_12 : decode k_Chn_start 12 = .ok (.getfield 25, 3) := by decide +kernel
theorem d_Chn_start_15 : decode k_Chn_start 15 = .ok (.aload_n 1, 1) := by decide +kernel
theorem d_Chn_start_16 : decode k_Chn_start 16 = .ok (.getfield 53, 3) := by decide +kernel
theorem d_Chn_start_19 : decode k_Chn_start 19 = .ok (.invokevirtual 54, 3) := by decide +kernel
theorem d_Chn_start_22 : decode k_Chn_start 22 = .ok (.aload_n 0, 1) := by decide +kernel
theorem d_Chn_start_23 : decode k_Chn_start 23 = .ok (.getfield 34, 3) := by decide +kernel
theorem d_Chn_start_26 : decode k_Chn_start 26 = .ok (.aload_n 1, 1) := by decide +kernel
theorem d_Chn_start_27 : decode k_Chn_start 27 = .ok (.getfield 58, 3) := by decide +kernel
theorem d_Chn_start_30 : decode k_Chn_start 30 = .ok (.invokevirtual 59, 3) := by decide +kernel
theorem d_Chn_start_33 : decode k_Chn_start 33 = .ok (.aload_n 0, 1) := by decide +kernel
theorem d_Chn_start_34 : decode k_Chn_start 34 = .ok (.aload_n 1, 1) := by decide +kernel
theorem d_Chn_start_35 : decode k_Chn_start 35 = .ok (.getfield 62, 3) := by decide +kernel
theorem d_Chn_start_38 : decode k_Chn_start 38 = .ok (.putfield 41, 3) := by decide +kernel
theorem d_Chn_start_41 : decode k_Chn_start 41 = .ok (.aload_n 0, 1) := by decide +kernel
theorem d_Chn_start_42 : decode k_Chn_start 42 = .ok (.iconst 1, 1) := by decide +kernel
theorem d_Chn_start_43 : decode k_Chn_start 43 = .ok (.putfield 38, 3) := by decide +kernel
theorem d_Chn_start_46 : decode k_Chn_start 46 = .ok (.return_, 1) := by decide +kernel
set_option maxHeartbeats 4000000 in
set_option maxRecDepth 100000 in
theorem c_Chn_start (l : Launch) {B : Nat} {D : va_G} {cI cZ cQ : ClassId} {w : mm_M} {sz : Nat} {a ky sz9 us dl og : Nat} {g : Nat → Nat} {tl th fr to : Int32} {q iss gn dq mn nd o2 : Nat} {su : Nat → Nat} {f2 t2 l2 h2 : Int32} (h_0 : w a = some (.inr (4, [.int (nI ky), .ref (a + 1), .int (nI sz9), .ref (a + 2), .ref (a + 4), .int (nI us), .int (nI dl)]))) (h_1 : w (a + 1) = some (.inl (cI, 4, .inl (fun i => nI (g i))))) (h_2 : w (a + 2) = some (.inr (5, [.int (nI og), .ref (a + 3)]))) (h_3 : w (a + 3) = some (.inr (6, [.int tl, .int th]))) (h_4 : w (a + 4) = some (.inr (6, [.int fr, .int to]))) (h_5 : w q = some (.inr (8, [.int (nI iss), .ref (q + 1), .int (nI gn), .ref (q + 2), .ref (q + 3), .int (nI dq), .int (nI mn), .int (nI nd)]))) (h_6 : w (q + 1) = some (.inr (6, [.int f2, .int t2]))) (h_7 : w (q + 2) = some (.inl (cI, 3, .inl (fun i => nI (su i))))) (h_8 : w (q + 3) = some (.inr (5, [.int (nI o2), .ref (q + 4)]))) (h_9 : w (q + 4) = some (.inr (6, [.int l2, .int h2]))) (hs0 : su 0 < 200) (hdq : dq ≤ 1) (hs4 : sz9 ≤ 4) (hA : a + 5 ≤ q) : Met l y_Chn_start ws_Chn_start (kk_rm 3 0 0) (kk_Pc B D cI cZ cQ [.ref a, .ref q] w sz) (kk_Qv B D (fun w' sz' => w' = mm_up (mm_up (mm_up (mm_up (mm_up w a (.inr (4, [.int (nI ((su 0) % 8)), .ref (a + 1), .int (nI (ch_a (su 0) + 0)), .ref (a + 2), .ref (a + 4), .int (nI 1), .int (nI dq)]))) (a + 1) (.inl (cI, 4, .inl (fun i => nI ((ch_put g (su 0) (sz9 - 0) 0) i))))) (a + 2) (.inr (5, [.int (nI o2), .ref (a + 3)]))) (a + 3) (.inr (6, [.int l2, .int h2]))) (a + 4) (.inr (6, [.int f2, .int t2])) ∧ sz' = sz)) 0 0 (fun q => B ≤ q) := by
  refine Met.ofW (cc := k_Chn_start) (maxL := 2) (ret := none) (by decide) rfl ?_
  intro p e s m args below meth c s₁ BB hml hv
  obtain ⟨rfl, hK, hP, hz, hBz⟩ := hv
  have hx := BB.exec
  have hb := BB.bytes
  have hr := BB.returns
  have hts := atoms_spec (ws := ws_Chn_start) BB.pre
  have hown : s.vm.findClass "DelegationClosure$Chain" = some m.cls := findClass_of_methodNamed BB.named
  have hlocks := BB.notSynchronized
  have hS : mm_S B s.heap s.heap [] := va_S.rf
  have hl := lv_entry ([.ref a, .ref q]) (n := 2) (Nat.le_of_ble_eq_true rfl)
  rw [lg_entry_eq]
  generalize (lg_sl ([.ref a, .ref q]) ++ List.replicate (2 - (lg_sl ([.ref a, .ref q])).length) Slot.unset).toArray = ls at hl ⊢
  have hl : lv_has ls 2 [(0, .ref a), (1, .ref q)] := hl
  have hA2 := ch_a_le (su 0)
  refine lv_aload_n hx hb d_Chn_start_0 rfl (lv_at hl 0 rfl) ?_
  refine lv_aload_n hx hb d_Chn_start_1 rfl (lv_at hl 1 rfl) ?_
  refine mm_get (D := D) (C := n_Prm) (T := T_Prm) (N := 8) (v := .ref (q + 2)) hx hb hts lay_Prm hown hK.1 hP h_5 rfl 3 (by decide) (hts _ (List.mem_cons_of_mem _ wd_229)) (fun _ h9 => h9) rfl d_Chn_start_2 ?_
  refine lv_iconst (v := nI 0) hx hb d_Chn_start_5 (by decide) ?_
  refine mm_iald hx hb hK.1 hP 0 h_7 rfl 0 rfl (by omega) (by decide) d_Chn_start_6 ?_
  refine W.eq (g2 := F0 m 7 ls [.int (nI (su 0)), .ref a]) rfl ?_
  refine lv_iconst (v := nI 0) hx hb d_Chn_start_7 (by decide) ?_
  refine kk_callv (va_runV (As := [.int (nI (su 0)), .int (nI 0)]) (rest := []) ⟨hx, hb, hml, hown, hts⟩ (c_Chn_putAhead l h_0 h_1 (by omega) (by omega) (by omega) (by omega) (by omega)) (cwV 2 hts (gW_in (hd := [_, _, _, _, _]) (kk_5 wd_406 wd_408 sl_Chn_putAhead wd_5 cw_Chn_putAhead)) rfl rfl rfl ⟨rfl, ds_Chn_putAhead⟩ ⟨Nat.le_of_ble_eq_true rfl, Nat.le_of_ble_eq_true rfl⟩) (kk_preV hK hP hz hBz h_0 rfl) rfl rfl hl.1 rfl (lv_room (Nat.le_of_ble_eq_true rfl)) d_Chn_start_8 ⟨Nat.le_of_ble_eq_true rfl, Nat.le_of_ble_eq_true rfl⟩) hS (fun w1 sz1 H locs hp1 hP hz hS => ?_)
  obtain ⟨he1, hs1⟩ := hp1
  have hz : H.size = sz := hz.trans hs1
  have hw2 : w1 = mm_up (mm_up w a (.inr (4, [.int (nI ((su 0) % 8)), .ref (a + 1), .int (nI (ch_a (su 0) + 0)), .ref (a + 2), .ref (a + 4), .int (nI us), .int (nI dl)]))) (a + 1) (.inl (cI, 4, .inl (fun i => nI ((ch_put g (su 0) (sz9 - 0) 0) i)))) := he1
  have fr2 : ∀ j, j ≠ a → j ≠ a + 1 → w1 j = w j := fun j h90 h91 => by rw [hw2]; exact (mm_un h91).trans (mm_un h90)
  have fa2_0 : w1 a = some (.inr (4, [.int (nI ((su 0) % 8)), .ref (a + 1), .int (nI (ch_a (su 0) + 0)), .ref (a + 2), .ref (a + 4), .int (nI us), .int (nI dl)])) := by rw [hw2]; exact (mm_un (by omega)).trans (mm_us _ _ _)
  have fa2_1 : w1 (a + 1) = some (.inl (cI, 4, .inl (fun i => nI ((ch_put g (su 0) (sz9 - 0) 0) i)))) := by rw [hw2]; exact mm_us _ _ _
  refine lv_aload_n hx hb d_Chn_start_11 rfl (lv_at hl 0 rfl) ?_
  refine mm_get (D := D) (C := n_Chn) (T := T_Chn) (N := 7) (v := .ref (a + 2)) hx hb hts lay_Chn hown hK.1 hP fa2_0 rfl 3 (by decide) (hts _ (List.mem_cons_of_mem _ wd_111)) (fun _ h9 => h9) rfl d_Chn_start_12 ?_
  refine lv_aload_n hx hb d_Chn_start_15 rfl (lv_at hl 1 rfl) ?_
  have f3 := (fr2 _ (by omega) (by omega)).trans (h_5)
  refine mm_get (D := D) (C := n_Prm) (T := T_Prm) (N := 8) (v := .ref (q + 3)) hx hb hts lay_Prm hown hK.1 hP f3 rfl 4 (by decide) (hts _ (List.mem_cons_of_mem _ wd_233)) (fun _ h9 => h9) rfl d_Chn_start_16 ?_
  have f4 := (fr2 _ (by omega) (by omega)).trans (h_2)
  have f5 := (fr2 _ (by omega) (by omega)).trans (h_3)
  have f6 := (fr2 _ (by omega) (by omega)).trans (h_8)
  have f7 := (fr2 _ (by omega) (by omega)).trans (h_9)
  refine kk_callv (va_runV (As := [.ref (q + 3)]) (rest := []) ⟨hx, hb, hml, hown, hts⟩ (c_Tag_copy l f4 f5 f6 f7 (by omega) (by omega) (by omega) (by omega) (by omega)) (cwV 1 hts (gW_in (hd := [_, _, _, _, _]) (kk_5 wd_419 wd_420 wd_421 wd_6 cw_Tag_copy)) rfl rfl rfl ⟨rfl, ds_Tag_copy⟩ ⟨Nat.le_of_ble_eq_true rfl, Nat.le_of_ble_eq_true rfl⟩) (kk_preV hK hP hz hBz f4 rfl) rfl rfl hl.1 rfl (lv_room (Nat.le_of_ble_eq_true rfl)) d_Chn_start_19 ⟨Nat.le_of_ble_eq_true rfl, Nat.le_of_ble_eq_true rfl⟩) hS (fun w8 sz8 H locs hp8 hP hz hS => ?_)
  obtain ⟨he8, hs8⟩ := hp8
  have hz : H.size = sz := hz.trans hs8
  have hw9 : w8 = mm_up (mm_up w1 (a + 2) (.inr (5, [.int (nI o2), .ref (a + 3)]))) (a + 3) (.inr (6, [.int l2, .int h2])) := he8
  have fr9 : ∀ j, j ≠ a + 2 → j ≠ a + 3 → w8 j = w1 j := fun j h90 h91 => by rw [hw9]; exact (mm_un h91).trans (mm_un h90)
  have fa9_0 : w8 (a + 2) = some (.inr (5, [.int (nI o2), .ref (a + 3)])) := by rw [hw9]; exact (mm_un (by omega)).trans (mm_us _ _ _)
  have fa9_1 : w8 (a + 3) = some (.inr (6, [.int l2, .int h2])) := by rw [hw9]; exact mm_us _ _ _
  refine lv_aload_n hx hb d_Chn_start_22 rfl (lv_at hl 0 rfl) ?_
  have f10 := (fr9 _ (by omega) (by omega)).trans (fa2_0)
  refine mm_get (D := D) (C := n_Chn) (T := T_Chn) (N := 7) (v := .ref (a + 4)) hx hb hts lay_Chn hown hK.1 hP f10 rfl 4 (by decide) (hts _ (List.mem_cons_of_mem _ wd_112)) (fun _ h9 => h9) rfl d_Chn_start_23 ?_
  refine lv_aload_n hx hb d_Chn_start_26 rfl (lv_at hl 1 rfl) ?_
  have f11 := (fr9 _ (by omega) (by omega)).trans (f3)
  refine mm_get (D := D) (C := n_Prm) (T := T_Prm) (N := 8) (v := .ref (q + 1)) hx hb hts lay_Prm hown hK.1 hP f11 rfl 1 (by decide) (hts _ (List.mem_cons_of_mem _ wd_193)) (fun x9 h9 => u_same (hts _ (List.mem_cons_of_mem _ wd_192)) x9 h9) rfl d_Chn_start_27 ?_
  have f12 := (fr9 _ (by omega) (by omega)).trans ((fr2 _ (by omega) (by omega)).trans (h_4))
  have f13 := (fr9 _ (by omega) (by omega)).trans ((fr2 _ (by omega) (by omega)).trans (h_6))
  refine kk_callv (va_runV (As := [.ref (q + 1)]) (rest := []) ⟨hx, hb, hml, hown, hts⟩ (c_Spn_copy l f12 f13) (cwV 1 hts (gW_in (hd := [_, _, _, _, _]) (kk_5 wd_428 wd_424 wd_425 wd_7 cw_Spn_copy)) rfl rfl rfl ⟨rfl, ds_Spn_copy⟩ ⟨Nat.le_of_ble_eq_true rfl, Nat.le_of_ble_eq_true rfl⟩) (kk_preV hK hP hz hBz f12 rfl) rfl rfl hl.1 rfl (lv_room (Nat.le_of_ble_eq_true rfl)) d_Chn_start_30 ⟨Nat.le_of_ble_eq_true rfl, Nat.le_of_ble_eq_true rfl⟩) hS (fun w14 sz14 H locs hp14 hP hz hS => ?_)
  obtain ⟨he14, hs14⟩ := hp14
  have hz : H.size = sz := hz.trans hs14
  have hw15 : w14 = mm_up w8 (a + 4) (.inr (6, [.int f2, .int t2])) := he14
  have fr15 : ∀ j, j ≠ a + 4 → w14 j = w8 j := fun j h90 => by rw [hw15]; exact mm_un h90
  have fa15_0 : w14 (a + 4) = some (.inr (6, [.int f2, .int t2])) := by rw [hw15]; exact mm_us _ _ _
  refine lv_aload_n hx hb d_Chn_start_33 rfl (lv_at hl 0 rfl) ?_
  refine lv_aload_n hx hb d_Chn_start_34 rfl (lv_at hl 1 rfl) ?_
  have f16 := (fr15 _ (by omega)).trans (f11)
  refine mm_get (D := D) (C := n_Prm) (T := T_Prm) (N := 8) (v := .int (nI dq)) hx hb hts lay_Prm hown hK.1 hP f16 rfl 5 (by decide) (hts _ (List.mem_cons_of_mem _ wd_236)) (fun _ h9 => h9) rfl d_Chn_start_35 ?_
  have f17 := (fr15 _ (by omega)).trans (f10)
  refine mm_put (D := D) (C := n_Chn) (T := T_Chn) (N := 7) (v := .int (nI dq)) (ty := .boolean) hx hb hts lay_Chn t_Chn ty_Chn nm_Chn hown hK.1 hP hS f17 rfl 6 (by decide) (hts _ (List.mem_cons_of_mem _ wd_115)) (fun _ h9 => h9) rfl (by decide +kernel) (kk_nar1 hdq) (kk_fit1 hdq) (Nat.le_of_ble_eq_true rfl) d_Chn_start_38 (fun H locs hP hz1 hS => ?_)
  have hz : H.size = sz := hz1.trans hz
  obtain ⟨w18, hw18⟩ : ∃ z : mm_M, z = mm_up w14 a (.inr (4, [.int (nI ((su 0) % 8)), .ref (a + 1), .int (nI (ch_a (su 0) + 0)), .ref (a + 2), .ref (a + 4), .int (nI us), .int (nI dq)])) := ⟨_, rfl⟩
  have hP : mm_P B D kc w18 H := by rw [hw18]; exact hP
  have fr18 : ∀ j, j ≠ a → w18 j = w14 j := fun j h9 => by rw [hw18]; exact mm_un h9
  have fa18 : w18 a = some (.inr (4, [.int (nI ((su 0) % 8)), .ref (a + 1), .int (nI (ch_a (su 0) + 0)), .ref (a + 2), .ref (a + 4), .int (nI us), .int (nI dq)])) := by rw [hw18]; exact mm_us _ _ _
  refine lv_aload_n hx hb d_Chn_start_41 rfl (lv_at hl 0 rfl) ?_
  refine lv_iconst (v := nI 1) hx hb d_Chn_start_42 (by decide) ?_
  refine mm_put (D := D) (C := n_Chn) (T := T_Chn) (N := 7) (v := .int (nI 1)) (ty := .int) hx hb hts lay_Chn t_Chn ty_Chn nm_Chn hown hK.1 hP hS fa18 rfl 5 (by decide) (hts _ (List.mem_cons_of_mem _ wd_113)) (fun _ h9 => h9) rfl (by decide +kernel) rfl rfl (Nat.le_of_ble_eq_true rfl) d_Chn_start_43 (fun H locs hP hz1 hS => ?_)
  have hz : H.size = sz := hz1.trans hz
  obtain ⟨w19, hw19⟩ : ∃ z : mm_M, z = mm_up w18 a (.inr (4, [.int (nI ((su 0) % 8)), .ref (a + 1), .int (nI (ch_a (su 0) + 0)), .ref (a + 2), .ref (a + 4), .int (nI 1), .int (nI dq)])) := ⟨_, rfl⟩
  have hP : mm_P B D kc w19 H := by rw [hw19]; exact hP
  have fr19 : ∀ j, j ≠ a → w19 j = w18 j := fun j h9 => by rw [hw19]; exact mm_un h9
  have fa19 : w19 a = some (.inr (4, [.int (nI ((su 0) % 8)), .ref (a + 1), .int (nI (ch_a (su 0) + 0)), .ref (a + 2), .ref (a + 4), .int (nI 1), .int (nI dq)])) := by rw [hw19]; exact mm_us _ _ _
  exact W.vret hx hb hr (fun t ht hW => ⟨⟨(w19, sz), rfl, ⟨mm_e5 fa19 ((fr19 _ (by omega)).trans ((fr18 _ (by omega)).trans ((fr15 _ (by omega)).trans ((fr9 _ (by omega) (by omega)).trans (fa2_1))))) ((fr19 _ (by omega)).trans ((fr18 _ (by omega)).trans ((fr15 _ (by omega)).trans (fa9_0)))) ((fr19 _ (by omega)).trans ((fr18 _ (by omega)).trans ((fr15 _ (by omega)).trans (fa9_1)))) ((fr19 _ (by omega)).trans ((fr18 _ (by omega)).trans (fa15_0))) (fun j g0 g1 g2 g3 g4 => (fr19 j g0).trans ((fr18 j g0).trans ((fr15 j g4).trans ((fr9 j g2 g3).trans (fr2 j g0 g1))))), rfl⟩, by rw [ht]; exact hP, by rw [ht]; exact hz⟩, hS.F ht⟩) hS.2.2 d_Chn_start_46
