theorem d_X_may_0 : decode k_X_may 0 = .ok (.iload_n 1, 1) := by decide +kernel
theorem d_X_may_1 : decode k_X_may 1 = .ok (.invokestatic 37, 3) := by decide +kernel
theorem d_X_may_4 : decode k_X_may 4 = .ok (.ifCond .eq 10, 3) := by decide +kernel
theorem d_X_may_7 : decode k_X_may 7 = .ok (.iload_n 2, 1) := by decide +kernel
theorem d_X_may_8 : decode k_X_may 8 = .ok (.invokestatic 110, 3) := by decide +kernel
theorem d_X_may_11 : decode k_X_may 11 = .ok (.ifCond .ne 5, 3) := by decide +kernel
theorem d_X_may_14 : decode k_X_may 14 = .ok (.iconst (-1), 1) := by decide +kernel
theorem d_X_may_15 : decode k_X_may 15 = .ok (.ireturn, 1) := by decide +kernel
theorem d_X_may_16 : decode k_X_may 16 = .ok (.aload_n 0, 1) := by decide +kernel
theorem d_X_may_17 : decode k_X_may 17 = .ok (.getfield 19, 3) := by decide +kernel
theorem d_X_may_20 : decode k_X_may 20 = .ok (.aload_n 0, 1) := by decide +kernel
theorem d_X_may_21 : decode k_X_may 21 = .ok (.getfield 12, 3) := by decide +kernel
theorem d_X_may_24 : decode k_X_may 24 = .ok (.iload 4, 2) := by decide +kernel
theorem d_X_may_26 : decode k_X_may 26 = .ok (.invokevirtual 98, 3) := by decide +kernel
theorem d_X_may_29 : decode k_X_may 29 = .ok (.aload_n 0, 1) := by decide +kernel
theorem d_X_may_30 : decode k_X_may 30 = .ok (.getfield 26, 3) := by decide +kernel
theorem d_X_may_33 : decode k_X_may 33 = .ok (.aload_n 0, 1) := by decide +kernel
theorem d_X_may_34 : decode k_X_may 34 = .ok (.getfield 12, 3) := by decide +kernel
theorem d_X_may_37 : decode k_X_may 37 = .ok (.iload_n 2, 1) := by decide +kernel
theorem d_X_may_38 : decode k_X_may 38 = .ok (.iload_n 3, 1) := by decide +kernel
theorem d_X_may_39 : decode k_X_may 39 = .ok (.iload 4, 2) := by decide +kernel
theorem d_X_may_41 : decode k_X_may 41 = .ok (.invokevirtual 113, 3) := by decide +kernel
theorem d_X_may_44 : decode k_X_may 44 = .ok (.aload_n 0, 1) := by decide +kernel
theorem d_X_may_45 : decode k_X_may 45 = .ok (.getfield 26, 3) := by decide +kernel
theorem d_X_may_48 : decode k_X_may 48 = .ok (.aload_n 0, 1) := by decide +kernel
theorem d_X_may_49 : decode k_X_may 49 = .ok (.getfield 12, 3) := by decide +kernel
theorem d_X_may_52 : decode k_X_may 52 = .ok (.aload_n 0, 1) := by decide +kernel
theorem d_X_may_53 : decode k_X_may 53 = .ok (.getfield 19, 3) := by decide +kernel
theorem d_X_may_56 : decode k_X_may 56 = .ok (.iload_n 1, 1) := by decide +kernel
theorem d_X_may_57 : decode k_X_may 57 = .ok (.invokevirtual 117, 3) := by decide +kernel
theorem d_X_may_60 : decode k_X_may 60 = .ok (.invokestatic 106, 3) := by decide +kernel
theorem d_X_may_63 : decode k_X_may 63 = .ok (.ireturn, 1) := by decide +kernel
set_option maxHeartbeats 4000000 in
set_option maxRecDepth 100000 in
theorem c_X_may (l : Launch) {B : Nat} {D : va_G} {cI cZ cQ : ClassId} {w : mm_M} {sz : Nat} {b : Nat} {N : Nat → Nat → Nat} {S : Nat → Nat → Int32} {kr pr z9 t9 : Int32} (hXI : xs_I b cI cZ cQ sz N S w) (hR : rg_I N) (hC : ch_I N)  : Met l y_X_may ws_X_may (kk_rm 6 0 0) (kk_Pc B D cI cZ cQ [.ref b, .int kr, .int pr, .int z9, .int t9] w sz) (kk_Qi B D (fun r w' sz' => r = ma_r N S kr pr z9 t9 ∧ xs_I b cI cZ cQ sz' N S w' ∧ (∀ j, b + 14 ≤ j → j < b + 31 → w' j = w j) ∧ sz' = sz)) 0 0 (fun q => B ≤ q) := by
  refine Met.ofW (cc := k_X_may) (maxL := 5) (ret := (some .int)) (by decide) rfl ?_
  intro p e s m args below meth c s₁ BB hml hv
  obtain ⟨rfl, hK, hP, hz, hBz⟩ := hv
  have hx := BB.exec
  have hb := BB.bytes
  have hr := BB.returns
  have hts := atoms_spec (ws := ws_X_may) BB.pre
  have hown : s.vm.findClass "DelegationClosure" = some m.cls := findClass_of_methodNamed BB.named
  have hlocks := BB.notSynchronized
  have hS : mm_S B s.heap s.heap [] := va_S.rf
  have hl := lv_entry ([.ref b, .int kr, .int pr, .int z9, .int t9]) (n := 5) (Nat.le_of_ble_eq_true rfl)
  rw [lg_entry_eq]
  generalize (lg_sl ([.ref b, .int kr, .int pr, .int z9, .int t9]) ++ List.replicate (5 - (lg_sl ([.ref b, .int kr, .int pr, .int z9, .int t9])).length) Slot.unset).toArray = ls at hl ⊢
  have hl : lv_has ls 5 [(0, .ref b), (1, .int kr), (2, .int pr), (3, .int z9), (4, .int t9)] := hl
  obtain ⟨T, U, ad, ⟨hRe, x0, x3, x4, x5, x6, x7, x8, x9, x10, x11, x12, x13⟩, hXr, hLa⟩ := hXI
  have hn := hRe.2.2.1
  have hC1 := hC.1
  have hC2 := hC.2.1
  have hC3 := hC.2.2.1
  have hC4 := hC.2.2.2.1
  have hC5 := hC.2.2.2.2.1
  have hC6 := hC.2.2.2.2.2.1
  by_cases hok : ma_ok kr pr
  · obtain ⟨y9, hy9, rfl⟩ := kk_lim_of hok.1 (by omega)
    obtain ⟨o9, ho9, rfl⟩ := kk_lim_of hok.2 (by omega)
    refine lv_iload_n hx hb d_X_may_0 rfl (lv_at hl 1 rfl) ?_
    refine vp_callSi (va_Run.run (va_runS (As := [.int (nI y9)]) (rest := []) ⟨hx, hb, hml, hown, hts⟩ (c_X_isKey l ) (va_cwS 1 hts (gW_in (hd := [_, _, _, _]) (kk_4 wd_149 wd_150 wd_1 cw_X_isKey)) rfl rfl rfl ds_X_isKey ⟨Nat.le_of_ble_eq_true rfl, Nat.le_of_ble_eq_true rfl⟩) (kk_preS hK hP hz hBz) rfl rfl hl.1 rfl (lv_room (Nat.le_of_ble_eq_true rfl)) d_X_may_1 ⟨Nat.le_of_ble_eq_true rfl, Nat.le_of_ble_eq_true rfl⟩)) (fun r1 hr1 => ?_)
    subst hr1
    refine lv_if_eq (tgt := 14) hx hb d_X_may_4 (by decide) (fun cc2 => ?_) (fun cc2 => ?_)
    · have cc2 := kk_b0 cc2
      exact absurd hok.1 cc2
    · have cc2 := kk_b1 cc2
      refine lv_iload_n hx hb d_X_may_7 rfl (lv_at hl 2 rfl) ?_
      refine vp_callSi (va_Run.run (va_runS (As := [.int (nI o9)]) (rest := []) ⟨hx, hb, hml, hown, hts⟩ (c_X_isOperation l ) (va_cwS 1 hts (gW_in (hd := [_, _, _, _]) (kk_4 wd_356 wd_357 wd_1 cw_X_isOperation)) rfl rfl rfl ds_X_isOperation ⟨Nat.le_of_ble_eq_true rfl, Nat.le_of_ble_eq_true rfl⟩) (kk_preS hK hP hz hBz) rfl rfl hl.1 rfl (lv_room (Nat.le_of_ble_eq_true rfl)) d_X_may_8 ⟨Nat.le_of_ble_eq_true rfl, Nat.le_of_ble_eq_true rfl⟩)) (fun r3 hr3 => ?_)
      subst hr3
      refine lv_if_ne (tgt := 16) hx hb d_X_may_11 (by decide) (fun cc4 => ?_) (fun cc4 => ?_)
      · have cc4 := kk_b1 cc4
        refine lv_aload_n hx hb d_X_may_16 rfl (lv_at hl 0 rfl) ?_
        refine mm_get (D := D) (C := n_X) (T := T_X) (N := 4) (v := .ref (b + 3)) hx hb hts lay_X hown hK.1 hP x0 rfl 1 (by decide) (hts _ (List.mem_cons_of_mem _ wd_133)) (fun _ h9 => h9) rfl d_X_may_17 ?_
        refine lv_aload_n hx hb d_X_may_20 rfl (lv_at hl 0 rfl) ?_
        refine mm_get (D := D) (C := n_X) (T := T_X) (N := 4) (v := .ref (b + 1)) hx hb hts lay_X hown hK.1 hP x0 rfl 0 (by decide) (hts _ (List.mem_cons_of_mem _ wd_132)) (fun _ h9 => h9) rfl d_X_may_21 ?_
        refine lv_iload hx hb d_X_may_24 (lv_at hl 4 rfl) ?_
        refine kk_callv (va_runV (As := [.ref (b + 1), .int t9]) (rest := []) ⟨hx, hb, hml, hown, hts⟩ (c_Mea_workOut l (N := N) (S := S) (ad := ad) x3 x4 hRe hR (by omega) (fun j hj => by have := (hLa j hj).1; omega)) (cwV 2 hts (gW_in (hd := [_, _, _, _, _]) (kk_5 wd_305 wd_306 wd_307 wd_3 cw_Mea_workOut)) rfl rfl rfl ⟨rfl, ds_Mea_workOut⟩ ⟨Nat.le_of_ble_eq_true rfl, Nat.le_of_ble_eq_true rfl⟩) (kk_preV hK hP hz hBz x3 rfl) rfl rfl hl.1 rfl (lv_room (Nat.le_of_ble_eq_true rfl)) d_X_may_26 ⟨Nat.le_of_ble_eq_true rfl, Nat.le_of_ble_eq_true rfl⟩) hS (fun w5 sz5 H locs hp5 hP hz hS => ?_)
        obtain ⟨he5, hs5⟩ := hp5
        have hz : H.size = sz := hz.trans hs5
        have hw6 : w5 = mm_up w (b + 4) (.inl (cI, 256, .inl (fun i => nI ((dm_run (ru_M N S t9) 257 (fun _ => 1000)) i)))) := he5
        have fr6 : ∀ j, j ≠ b + 4 → w5 j = w j := fun j h90 => by rw [hw6]; exact mm_un h90
        have fa6_0 : w5 (b + 4) = some (.inl (cI, 256, .inl (fun i => nI ((dm_run (ru_M N S t9) 257 (fun _ => 1000)) i)))) := by rw [hw6]; exact mm_us _ _ _
        rw [me_V_eq S t9 hR] at fa6_0
        refine lv_aload_n hx hb d_X_may_29 rfl (lv_at hl 0 rfl) ?_
        have f7 := (fr6 _ (by omega)).trans (x0)
        refine mm_get (D := D) (C := n_X) (T := T_X) (N := 4) (v := .ref (b + 5)) hx hb hts lay_X hown hK.1 hP f7 rfl 2 (by decide) (hts _ (List.mem_cons_of_mem _ wd_134)) (fun _ h9 => h9) rfl d_X_may_30 ?_
        refine lv_aload_n hx hb d_X_may_33 rfl (lv_at hl 0 rfl) ?_
        refine mm_get (D := D) (C := n_X) (T := T_X) (N := 4) (v := .ref (b + 1)) hx hb hts lay_X hown hK.1 hP f7 rfl 0 (by decide) (hts _ (List.mem_cons_of_mem _ wd_132)) (fun _ h9 => h9) rfl d_X_may_34 ?_
        refine lv_iload_n hx hb d_X_may_37 rfl (lv_at hl 2 rfl) ?_
        refine lv_iload_n hx hb d_X_may_38 rfl (lv_at hl 3 rfl) ?_
        refine lv_iload hx hb d_X_may_39 (lv_at hl 4 rfl) ?_
        have f8 := (fr6 _ (by omega)).trans (x5)
        have f9 := (fr6 _ (by omega)).trans (x6)
        refine kk_callv (va_runV (As := [.ref (b + 1), .int (nI o9), .int z9, .int t9]) (rest := []) ⟨hx, hb, hml, hown, hts⟩ (c_Led_mark l (N := N) (S := S) (ad := ad) f8 f9 (hRe.keep (fun i9 hi9 => fr6 i9 (by rcases hi9 with h | h | ⟨c9, h, h8, h7⟩ <;> (try have := (hLa c9 h).1) <;> omega))) hR (by omega) (by omega) (fun j hj => by have := (hLa j hj).1; omega)) (cwV 4 hts (gW_in (hd := [_, _, _, _, _]) (kk_5 wd_359 wd_360 wd_361 wd_4 cw_Led_mark)) rfl rfl rfl ⟨rfl, ds_Led_mark⟩ ⟨Nat.le_of_ble_eq_true rfl, Nat.le_of_ble_eq_true rfl⟩) (kk_preV hK hP hz hBz f8 rfl) rfl rfl hl.1 rfl (lv_room (Nat.le_of_ble_eq_true rfl)) d_X_may_41 ⟨Nat.le_of_ble_eq_true rfl, Nat.le_of_ble_eq_true rfl⟩) hS (fun w10 sz10 H locs hp10 hP hz hS => ?_)
        obtain ⟨he10, hs10⟩ := hp10
        have hz : H.size = sz := hz.trans hs10
        have hw11 : w10 = mm_up w5 (b + 6) (.inl (cZ, 24, .inl (fun i => nI ((ld_cn N S o9 z9 t9 (T 1) (N 0 0)) i)))) := he10
        have fr11 : ∀ j, j ≠ b + 6 → w10 j = w5 j := fun j h90 => by rw [hw11]; exact mm_un h90
        have fa11_0 : w10 (b + 6) = some (.inl (cZ, 24, .inl (fun i => nI ((ld_cn N S o9 z9 t9 (T 1) (N 0 0)) i)))) := by rw [hw11]; exact mm_us _ _ _
        refine lv_aload_n hx hb d_X_may_44 rfl (lv_at hl 0 rfl) ?_
        have f12 := (fr11 _ (by omega)).trans (f7)
        refine mm_get (D := D) (C := n_X) (T := T_X) (N := 4) (v := .ref (b + 5)) hx hb hts lay_X hown hK.1 hP f12 rfl 2 (by decide) (hts _ (List.mem_cons_of_mem _ wd_134)) (fun _ h9 => h9) rfl d_X_may_45 ?_
        refine lv_aload_n hx hb d_X_may_48 rfl (lv_at hl 0 rfl) ?_
        refine mm_get (D := D) (C := n_X) (T := T_X) (N := 4) (v := .ref (b + 1)) hx hb hts lay_X hown hK.1 hP f12 rfl 0 (by decide) (hts _ (List.mem_cons_of_mem _ wd_132)) (fun _ h9 => h9) rfl d_X_may_49 ?_
        refine lv_aload_n hx hb d_X_may_52 rfl (lv_at hl 0 rfl) ?_
        refine mm_get (D := D) (C := n_X) (T := T_X) (N := 4) (v := .ref (b + 3)) hx hb hts lay_X hown hK.1 hP f12 rfl 1 (by decide) (hts _ (List.mem_cons_of_mem _ wd_133)) (fun _ h9 => h9) rfl d_X_may_53 ?_
        refine lv_iload_n hx hb d_X_may_56 rfl (lv_at hl 1 rfl) ?_
        have f13 := (fr11 _ (by omega)).trans (f8)
        have f14 := (fr11 _ (by omega)).trans ((fr6 _ (by omega)).trans (x7))
        have f15 := (fr11 _ (by omega)).trans ((fr6 _ (by omega)).trans (x8))
        have f16 := (fr11 _ (by omega)).trans ((fr6 _ (by omega)).trans (x3))
        have f17 := (fr11 _ (by omega)).trans (fa6_0)
        refine kk_calli (va_runV (As := [.ref (b + 1), .ref (b + 3), .int (nI y9)]) (rest := []) ⟨hx, hb, hml, hown, hts⟩ (c_Led_fromOwner l (N := N) (S := S) (ad := ad) f13 fa11_0 f14 f15 f16 f17 (hRe.keep (fun i9 hi9 => (fr11 i9 (by rcases hi9 with h | h | ⟨c9, h, h8, h7⟩ <;> (try have := (hLa c9 h).1) <;> omega)).trans (fr6 i9 (by rcases hi9 with h | h | ⟨c9, h, h8, h7⟩ <;> (try have := (hLa c9 h).1) <;> omega)))) hR (me_V_le N S t9) hXr.2.2.2.2.2.2 (ld_cn_le hXr.2.2.2.2.2.1 _) (by omega) (by omega) (by omega) (fun j hj => by have := (hLa j hj).1; omega)) (cwV 3 hts (gW_in (hd := [_, _, _, _, _]) (kk_5 wd_370 wd_371 wd_372 wd_4 cw_Led_fromOwner)) rfl rfl rfl ⟨rfl, ds_Led_fromOwner⟩ ⟨Nat.le_of_ble_eq_true rfl, Nat.le_of_ble_eq_true rfl⟩) (kk_preV hK hP hz hBz f13 rfl) rfl rfl hl.1 rfl (lv_room (Nat.le_of_ble_eq_true rfl)) d_X_may_57 ⟨Nat.le_of_ble_eq_true rfl, Nat.le_of_ble_eq_true rfl⟩) hS (fun r19 w19 sz19 H locs hp19 hP hz hS => ?_)
        obtain ⟨hr19, so9_18, hso9_18, he19, hs19⟩ := hp19
        subst hr19
        have hz : H.size = sz := hz.trans hs19
        have hw20 : w19 = mm_up (mm_up w10 (b + 7) (.inl (cI, 9, .inl (fun i => nI ((dm_run (lx_R N (ld_cn N S o9 z9 t9 (T 1) (N 0 0)) (me_V N S t9) y9) 10 (fun _ => 1000)) i))))) (b + 8) (.inl (cI, 3, .inl (fun i => nI (so9_18 i)))) := he19
        have fr20 : ∀ j, j ≠ b + 7 → j ≠ b + 8 → w19 j = w10 j := fun j h90 h91 => by rw [hw20]; exact (mm_un h91).trans (mm_un h90)
        have fa20_0 : w19 (b + 7) = some (.inl (cI, 9, .inl (fun i => nI ((dm_run (lx_R N (ld_cn N S o9 z9 t9 (T 1) (N 0 0)) (me_V N S t9) y9) 10 (fun _ => 1000)) i)))) := by rw [hw20]; exact (mm_un (by omega)).trans (mm_us _ _ _)
        have fa20_1 : w19 (b + 8) = some (.inl (cI, 3, .inl (fun i => nI (so9_18 i)))) := by rw [hw20]; exact mm_us _ _ _
        refine kk_top (y := nI (dm_L (N 3) (ld_U N S (me_V N S t9) y9 o9 z9 t9) (N 0 0) 8)) (congrArg nI (ma_eq S _ _ _ _ _ _ hR)) ?_
        have hq2 := dm_L_1000 (iss := N 3) (u := ld_U N S (me_V N S t9) y9 o9 z9 t9) (N 0 0) 8
        refine vp_callSi (va_Run.run (va_runS (As := [.int (nI (dm_L (N 3) (ld_U N S (me_V N S t9) y9 o9 z9 t9) (N 0 0) 8))]) (rest := []) ⟨hx, hb, hml, hown, hts⟩ (c_X_costOrNone l (by omega)) (va_cwS 1 hts (gW_in (hd := [_, _, _, _]) (kk_4 wd_349 wd_350 wd_1 cw_X_costOrNone)) rfl rfl rfl ds_X_costOrNone ⟨Nat.le_of_ble_eq_true rfl, Nat.le_of_ble_eq_true rfl⟩) (kk_preS hK hP hz hBz) rfl rfl hl.1 rfl (lv_room (Nat.le_of_ble_eq_true rfl)) d_X_may_60 ⟨Nat.le_of_ble_eq_true rfl, Nat.le_of_ble_eq_true rfl⟩)) (fun r21 hr21 => ?_)
        subst hr21
        exact W.iret hx hb hr (fun t ht hW => ⟨⟨_, (w19, sz), rfl, ⟨(ma_r_pos hok (by omega) (by omega)).symm, ⟨va_up (va_up (va_up (va_up T 0 (me_V N S t9)) 1 (ld_cn N S o9 z9 t9 (T 1) (N 0 0))) 2 (dm_run (lx_R N (ld_cn N S o9 z9 t9 (T 1) (N 0 0)) (me_V N S t9) y9) 10 (fun _ => 1000))) 3 so9_18, U, ad, ⟨hRe.keep (fun i9 hi9 => (fr20 i9 (by rcases hi9 with h | h | ⟨c9, h, h8, h7⟩ <;> (try have := (hLa c9 h).1) <;> omega) (by rcases hi9 with h | h | ⟨c9, h, h8, h7⟩ <;> (try have := (hLa c9 h).1) <;> omega)).trans ((fr11 i9 (by rcases hi9 with h | h | ⟨c9, h, h8, h7⟩ <;> (try have := (hLa c9 h).1) <;> omega)).trans (fr6 i9 (by rcases hi9 with h | h | ⟨c9, h, h8, h7⟩ <;> (try have := (hLa c9 h).1) <;> omega)))), ((fr20 _ (by omega) (by omega)).trans (f12)), ((fr20 _ (by omega) (by omega)).trans (f16)), ((fr20 _ (by omega) (by omega)).trans (f17)), ((fr20 _ (by omega) (by omega)).trans (f13)), ((fr20 _ (by omega) (by omega)).trans (fa11_0)), fa20_0, fa20_1, ((fr20 _ (by omega) (by omega)).trans ((fr11 _ (by omega)).trans ((fr6 _ (by omega)).trans (x9)))), ((fr20 _ (by omega) (by omega)).trans ((fr11 _ (by omega)).trans ((fr6 _ (by omega)).trans (x10)))), ((fr20 _ (by omega) (by omega)).trans ((fr11 _ (by omega)).trans ((fr6 _ (by omega)).trans (x11)))), ((fr20 _ (by omega) (by omega)).trans ((fr11 _ (by omega)).trans ((fr6 _ (by omega)).trans (x12)))), ((fr20 _ (by omega) (by omega)).trans ((fr11 _ (by omega)).trans ((fr6 _ (by omega)).trans (x13))))⟩, ⟨hXr.1, hXr.2.1, hXr.2.2.1, hXr.2.2.2.1, hXr.2.2.2.2.1, ld_cn_le hXr.2.2.2.2.2.1 _, hso9_18⟩, hLa⟩, (fun j hj1 hj2 => (fr20 j (by omega) (by omega)).trans ((fr11 j (by omega)).trans (fr6 j (by omega)))), rfl⟩, by rw [ht]; exact hP, by rw [ht]; exact hz⟩, hS.F ht⟩) hS.2.2 d_X_may_63
      · have cc4 := kk_b0 cc4
        exact absurd hok.2 cc4
  · refine lv_iload_n hx hb d_X_may_0 rfl (lv_at hl 1 rfl) ?_
    refine vp_callSi (va_Run.run (va_runS (As := [.int kr]) (rest := []) ⟨hx, hb, hml, hown, hts⟩ (c_X_isKey l ) (va_cwS 1 hts (gW_in (hd := [_, _, _, _]) (kk_4 wd_149 wd_150 wd_1 cw_X_isKey)) rfl rfl rfl ds_X_isKey ⟨Nat.le_of_ble_eq_true rfl, Nat.le_of_ble_eq_true rfl⟩) (kk_preS hK hP hz hBz) rfl rfl hl.1 rfl (lv_room (Nat.le_of_ble_eq_true rfl)) d_X_may_1 ⟨Nat.le_of_ble_eq_true rfl, Nat.le_of_ble_eq_true rfl⟩)) (fun r22 hr22 => ?_)
    subst hr22
    refine lv_if_eq (tgt := 14) hx hb d_X_may_4 (by decide) (fun cc23 => ?_) (fun cc23 => ?_)
    · have cc23 := kk_b0 cc23
      refine lv_iconst (v := (-1)) hx hb d_X_may_14 (by decide) ?_
      exact W.iret hx hb hr (fun t ht hW => ⟨⟨_, (w, sz), rfl, ⟨(if_neg hok).symm, ⟨T, U, ad, ⟨hRe, x0, x3, x4, x5, x6, x7, x8, x9, x10, x11, x12, x13⟩, hXr, hLa⟩, (fun j hj1 hj2 => rfl), rfl⟩, by rw [ht]; exact hP, by rw [ht]; exact hz⟩, hS.F ht⟩) hS.2.2 d_X_may_15
    · have cc23 := kk_b1 cc23
      refine lv_iload_n hx hb d_X_may_7 rfl (lv_at hl 2 rfl) ?_
      refine vp_callSi (va_Run.run (va_runS (As := [.int pr]) (rest := []) ⟨hx, hb, hml, hown, hts⟩ (c_X_isOperation l ) (va_cwS 1 hts (gW_in (hd := [_, _, _, _]) (kk_4 wd_356 wd_357 wd_1 cw_X_isOperation)) rfl rfl rfl ds_X_isOperation ⟨Nat.le_of_ble_eq_true rfl, Nat.le_of_ble_eq_true rfl⟩) (kk_preS hK hP hz hBz) rfl rfl hl.1 rfl (lv_room (Nat.le_of_ble_eq_true rfl)) d_X_may_8 ⟨Nat.le_of_ble_eq_true rfl, Nat.le_of_ble_eq_true rfl⟩)) (fun r24 hr24 => ?_)
      subst hr24
      refine lv_if_ne (tgt := 16) hx hb d_X_may_11 (by decide) (fun cc25 => ?_) (fun cc25 => ?_)
      · have cc25 := kk_b1 cc25
        exact absurd ⟨cc23, cc25⟩ hok
      · have cc25 := kk_b0 cc25
        refine lv_iconst (v := (-1)) hx hb d_X_may_14 (by decide) ?_
        exact W.iret hx hb hr (fun t ht hW => ⟨⟨_, (w, sz), rfl, ⟨(if_neg hok).symm, ⟨T, U, ad, ⟨hRe, x0, x3, x4, x5, x6, x7, x8, x9, x10, x11, x12, x13⟩, hXr, hLa⟩, (fun j hj1 hj2 => rfl), rfl⟩, by rw [ht]; exact hP, by rw [ht]; exact hz⟩, hS.F ht⟩) hS.2.2 d_X_may_15
theorem d_X_holders_0 : decode k_X_holders 0 = .ok (.iload_n 1, 1) := by decide +kernel
theorem d_X_holders_1 : decode k_X_holders 1 = .ok (.invokestatic 110, 3) := by decide +kernel
theorem d_X_holders_4 : decode k_X_holders 4 = .ok (.ifCond .ne 5, 3) := by decide +kernel
theorem d_X_holders_7 : decode k_X_holders 7 = .ok (.iconst 0, 1) := by decide +kernel
theorem d_X_holders_8 : decode k_X_holders 8 = .ok (.ireturn, 1) := by decide +kernel
theorem d_X_holders_9 : decode k_X_holders 9 = .ok (.aload_n 0, 1) := by decide +kernel
theorem d_X_holders_10 : decode k_X_holders 10 = .ok (.getfield 19, 3) := by decide +kernel
theorem d_X_holders_13 : decode k_X_holders 13 = .ok (.aload_n 0, 1) := by decide +kernel
theorem d_X_holders_14 : decode k_X_holders 14 = .ok (.getfield 12, 3) := by decide +kernel
theorem d_X_holders_17 : decode k_X_holders 17 = .ok (.iload_n 3, 1) := by decide +kernel
theorem d_X_holders_18 : decode k_X_holders 18 = .ok (.invokevirtual 98, 3) := by decide +kernel
theorem d_X_holders_21 : decode k_X_holders 21 = .ok (.aload_n 0, 1) := by decide +kernel
theorem d_X_holders_22 : decode k_X_holders 22 = .ok (.getfield 26, 3) := by decide +kernel
theorem d_X_holders_25 : decode k_X_holders 25 = .ok (.aload_n 0, 1) := by decide +kernel
theorem d_X_holders_26 : decode k_X_holders 26 = .ok (.getfield 12, 3) := by decide +kernel
theorem d_X_holders_29 : decode k_X_holders 29 = .ok (.iload_n 1, 1) := by decide +kernel
theorem d_X_holders_30 : decode k_X_holders 30 = .ok (.iload_n 2, 1) := by decide +kernel
theorem d_X_holders_31 : decode k_X_holders 31 = .ok (.iload_n 3, 1) := by decide +kernel
theorem d_X_holders_32 : decode k_X_holders 32 = .ok (.invokevirtual 113, 3) := by decide +kernel
theorem d_X_holders_35 : decode k_X_holders 35 = .ok (.iconst 0, 1) := by decide +kernel
theorem d_X_holders_36 : decode k_X_holders 36 = .ok (.istore 4, 2) := by decide +kernel
theorem d_X_holders_38 : decode k_X_holders 38 = .ok (.iconst 0, 1) := by decide +kernel
theorem d_X_holders_39 : decode k_X_holders 39 = .ok (.istore 5, 2) := by decide +kernel
theorem d_X_holders_41 : decode k_X_holders 41 = .ok (.iload 5, 2) := by decide +kernel
theorem d_X_holders_43 : decode k_X_holders 43 = .ok (.bipush 8, 2) := by decide +kernel
theorem d_X_holders_45 : decode k_X_holders 45 = .ok (.if_icmp .ge 41, 3) := by decide +kernel
theorem d_X_holders_48 : decode k_X_holders 48 = .ok (.aload_n 0, 1) := by decide +kernel
theorem d_X_holders_49 : decode k_X_holders 49 = .ok (.getfield 26, 3) := by decide +kernel
theorem d_X_holders_52 : decode k_X_holders 52 = .ok (.aload_n 0, 1) := by decide +kernel
theorem d_X_holders_53 : decode k_X_holders 53 = .ok (.getfield 12, 3) := by decide +kernel
theorem d_X_holders_56 : decode k_X_holders 56 = .ok (.aload_n 0, 1) := by decide +kernel
theorem d_X_holders_57 : decode k_X_holders 57 = .ok (.getfield 19, 3) := by decide +kernel
theorem d_X_holders_60 : decode k_X_holders 60 = .ok (.iload 5, 2) := by decide +kernel
theorem d_X_holders_62 : decode k_X_holders 62 = .ok (.invokevirtual 117, 3) := by decide +kernel
theorem d_X_holders_65 : decode k_X_holders 65 = .ok (.sipush 1000, 3) := by decide +kernel
theorem d_X_holders_68 : decode k_X_holders 68 = .ok (.if_icmp .eq 12, 3) := by decide +kernel
theorem d_X_holders_71 : decode k_X_holders 71 = .ok (.iload 4, 2) := by decide +kernel
theorem d_X_holders_73 : decode k_X_holders 73 = .ok (.iconst 1, 1) := by decide +kernel
theorem d_X_holders_74 : decode k_X_holders 74 = .ok (.iload 5, 2) := by decide +kernel
theorem d_X_holders_76 : decode k_X_holders 76 = .ok (.ishl, 1) := by decide +kernel
theorem d_X_holders_77 : decode k_X_holders 77 = .ok (.ior, 1) := by decide +kernel
theorem d_X_holders_78 : decode k_X_holders 78 = .ok (.istore 4, 2) := by decide +kernel
theorem d_X_holders_80 : decode k_X_holders 80 = .ok (.iinc 5 1, 3) := by decide +kernel
theorem d_X_holders_83 : decode k_X_holders 83 = .ok (.goto (-42), 3) := by decide +kernel
theorem d_X_holders_86 : decode k_X_holders 86 = .ok (.iload 4, 2) := by decide +kernel
theorem d_X_holders_88 : decode k_X_holders 88 = .ok (.ireturn, 1) := by decide +kernel
set_option maxHeartbeats 4000000 in
set_option maxRecDepth 100000 in
theorem c_X_holders (l : Launch) {B : Nat} {D : va_G} {cI cZ cQ : ClassId} {w : mm_M} {sz : Nat} {b : Nat} {N : Nat → Nat → Nat} {S : Nat → Nat → Int32} {pr z9 t9 : Int32} (hXI : xs_I b cI cZ cQ sz N S w) (hR : rg_I N) (hC : ch_I N)  : Met l y_X_holders ws_X_holders (kk_rm 6 0 0) (kk_Pc B D cI cZ cQ [.ref b, .int pr, .int z9, .int t9] w sz) (kk_Qi B D (fun r w' sz' => r = ho_r N S pr z9 t9 ∧ xs_I b cI cZ cQ sz' N S w' ∧ (∀ j, b + 14 ≤ j → j < b + 31 → w' j = w j) ∧ sz' = sz)) 0 0 (fun q => B ≤ q) := by
  refine Met.ofW (cc := k_X_holders) (maxL := 6) (ret := (some .int)) (by decide) rfl ?_
  intro p e s m args below meth c s₁ BB hml hv
  obtain ⟨rfl, hK, hP, hz, hBz⟩ := hv
  have hx := BB.exec
  have hb := BB.bytes
  have hr := BB.returns
  have hts := atoms_spec (ws := ws_X_holders) BB.pre
  have hown : s.vm.findClass "DelegationClosure" = some m.cls := findClass_of_methodNamed BB.named
  have hlocks := BB.notSynchronized
  have hS : mm_S B s.heap s.heap [] := va_S.rf
  have hl := lv_entry ([.ref b, .int pr, .int z9, .int t9]) (n := 6) (Nat.le_of_ble_eq_true rfl)
  rw [lg_entry_eq]
  generalize (lg_sl ([.ref b, .int pr, .int z9, .int t9]) ++ List.replicate (6 - (lg_sl ([.ref b, .int pr, .int z9, .int t9])).length) Slot.unset).toArray = ls at hl ⊢
  have hl : lv_has ls 6 [(0, .ref b), (1, .int pr), (2, .int z9), (3, .int t9)] := hl
  obtain ⟨T, U, ad, ⟨hRe, x0, x3, x4, x5, x6, x7, x8, x9, x10, x11, x12, x13⟩, hXr, hLa⟩ := hXI
  have hn := hRe.2.2.1
  have hC1 := hC.1
  have hC2 := hC.2.1
  have hC3 := hC.2.2.1
  have hC4 := hC.2.2.2.1
  have hC5 := hC.2.2.2.2.1
  have hC6 := hC.2.2.2.2.2.1
  refine lv_iload_n hx hb d_X_holders_0 rfl (lv_at hl 1 rfl) ?_
  refine vp_callSi (va_Run.run (va_runS (As := [.int pr]) (rest := []) ⟨hx, hb, hml, hown, hts⟩ (c_X_isOperation l ) (va_cwS 1 hts (gW_in (hd := [_, _, _, _]) (kk_4 wd_356 wd_357 wd_1 cw_X_isOperation)) rfl rfl rfl ds_X_isOperation ⟨Nat.le_of_ble_eq_true rfl, Nat.le_of_ble_eq_true rfl⟩) (kk_preS hK hP hz hBz) rfl rfl hl.1 rfl (lv_room (Nat.le_of_ble_eq_true rfl)) d_X_holders_1 ⟨Nat.le_of_ble_eq_true rfl, Nat.le_of_ble_eq_true rfl⟩)) (fun r1 hr1 => ?_)
  subst hr1
  refine lv_if_ne (tgt := 9) hx hb d_X_holders_4 (by decide) (fun cc2 => ?_) (fun cc2 => ?_)
  · have cc2 := kk_b1 cc2
    obtain ⟨o9, ho9, hpo⟩ := kk_lim_of cc2 (by omega)
    refine lv_aload_n hx hb d_X_holders_9 rfl (lv_at hl 0 rfl) ?_
    refine mm_get (D := D) (C := n_X) (T := T_X) (N := 4) (v := .ref (b + 3)) hx hb hts lay_X hown hK.1 hP x0 rfl 1 (by decide) (hts _ (List.mem_cons_of_mem _ wd_133)) (fun _ h9 => h9) rfl d_X_holders_10 ?_
    refine lv_aload_n hx hb d_X_holders_13 rfl (lv_at hl 0 rfl) ?_
    refine mm_get (D := D) (C := n_X) (T := T_X) (N := 4) (v := .ref (b + 1)) hx hb hts lay_X hown hK.1 hP x0 rfl 0 (by decide) (hts _ (List.mem_cons_of_mem _ wd_132)) (fun _ h9 => h9) rfl d_X_holders_14 ?_
    refine lv_iload_n hx hb d_X_holders_17 rfl (lv_at hl 3 rfl) ?_
    refine kk_callv (va_runV (As := [.ref (b + 1), .int t9]) (rest := []) ⟨hx, hb, hml, hown, hts⟩ (c_Mea_workOut l (N := N) (S := S) (ad := ad) x3 x4 hRe hR (by omega) (fun j hj => by have := (hLa j hj).1; omega)) (cwV 2 hts (gW_in (hd := [_, _, _, _, _]) (kk_5 wd_305 wd_306 wd_307 wd_3 cw_Mea_workOut)) rfl rfl rfl ⟨rfl, ds_Mea_workOut⟩ ⟨Nat.le_of_ble_eq_true rfl, Nat.le_of_ble_eq_true rfl⟩) (kk_preV hK hP hz hBz x3 rfl) rfl rfl hl.1 rfl (lv_room (Nat.le_of_ble_eq_true rfl)) d_X_holders_18 ⟨Nat.le_of_ble_eq_true rfl, Nat.le_of_ble_eq_true rfl⟩) hS (fun w3 sz3 H locs hp3 hP hz hS => ?_)
    obtain ⟨he3, hs3⟩ := hp3
    have hz : H.size = sz := hz.trans hs3
    have hw4 : w3 = mm_up w (b + 4) (.inl (cI, 256, .inl (fun i => nI ((dm_run (ru_M N S t9) 257 (fun _ => 1000)) i)))) := he3
    have fr4 : ∀ j, j ≠ b + 4 → w3 j = w j := fun j h90 => by rw [hw4]; exact mm_un h90
    have fa4_0 : w3 (b + 4) = some (.inl (cI, 256, .inl (fun i => nI ((dm_run (ru_M N S t9) 257 (fun _ => 1000)) i)))) := by rw [hw4]; exact mm_us _ _ _
    rw [me_V_eq S t9 hR] at fa4_0
    refine lv_aload_n hx hb d_X_holders_21 rfl (lv_at hl 0 rfl) ?_
    have f5 := (fr4 _ (by omega)).trans (x0)
    refine mm_get (D := D) (C := n_X) (T := T_X) (N := 4) (v := .ref (b + 5)) hx hb hts lay_X hown hK.1 hP f5 rfl 2 (by decide) (hts _ (List.mem_cons_of_mem _ wd_134)) (fun _ h9 => h9) rfl d_X_holders_22 ?_
    refine lv_aload_n hx hb d_X_holders_25 rfl (lv_at hl 0 rfl) ?_
    refine mm_get (D := D) (C := n_X) (T := T_X) (N := 4) (v := .ref (b + 1)) hx hb hts lay_X hown hK.1 hP f5 rfl 0 (by decide) (hts _ (List.mem_cons_of_mem _ wd_132)) (fun _ h9 => h9) rfl d_X_holders_26 ?_
    refine lv_iload_n hx hb d_X_holders_29 rfl (lv_at hl 1 rfl) ?_
    refine kk_top (hpo) ?_
    refine lv_iload_n hx hb d_X_holders_30 rfl (lv_at hl 2 rfl) ?_
    refine lv_iload_n hx hb d_X_holders_31 rfl (lv_at hl 3 rfl) ?_
    have f6 := (fr4 _ (by omega)).trans (x5)
    have f7 := (fr4 _ (by omega)).trans (x6)
    refine kk_callv (va_runV (As := [.ref (b + 1), .int (nI o9), .int z9, .int t9]) (rest := []) ⟨hx, hb, hml, hown, hts⟩ (c_Led_mark l (N := N) (S := S) (ad := ad) f6 f7 (hRe.keep (fun i9 hi9 => fr4 i9 (by rcases hi9 with h | h | ⟨c9, h, h8, h7⟩ <;> (try have := (hLa c9 h).1) <;> omega))) hR (by omega) (by omega) (fun j hj => by have := (hLa j hj).1; omega)) (cwV 4 hts (gW_in (hd := [_, _, _, _, _]) (kk_5 wd_359 wd_360 wd_361 wd_4 cw_Led_mark)) rfl rfl rfl ⟨rfl, ds_Led_mark⟩ ⟨Nat.le_of_ble_eq_true rfl, Nat.le_of_ble_eq_true rfl⟩) (kk_preV hK hP hz hBz f6 rfl) rfl rfl hl.1 rfl (lv_room (Nat.le_of_ble_eq_true rfl)) d_X_holders_32 ⟨Nat.le_of_ble_eq_true rfl, Nat.le_of_ble_eq_true rfl⟩) hS (fun w8 sz8 H locs hp8 hP hz hS => ?_)
    obtain ⟨he8, hs8⟩ := hp8
    have hz : H.size = sz := hz.trans hs8
    have hw9 : w8 = mm_up w3 (b + 6) (.inl (cZ, 24, .inl (fun i => nI ((ld_cn N S o9 z9 t9 (T 1) (N 0 0)) i)))) := he8
    have fr9 : ∀ j, j ≠ b + 6 → w8 j = w3 j := fun j h90 => by rw [hw9]; exact mm_un h90
    have fa9_0 : w8 (b + 6) = some (.inl (cZ, 24, .inl (fun i => nI ((ld_cn N S o9 z9 t9 (T 1) (N 0 0)) i)))) := by rw [hw9]; exact mm_us _ _ _
    refine lv_iconst (v := nI 0) hx hb d_X_holders_35 (by decide) ?_
    refine lv_istore hx hb d_X_holders_36 hl (by decide) rfl (fun ls hl => ?_)
    have hl : lv_has ls 6 [(4, .int (nI 0)), (0, .ref b), (1, .int pr), (2, .int z9), (3, .int t9)] := hl
    refine lv_iconst (v := nI 0) hx hb d_X_holders_38 (by decide) ?_
    refine lv_istore hx hb d_X_holders_39 hl (by decide) rfl (fun ls hl => ?_)
    have hl : lv_has ls 6 [(5, .int (nI 0)), (4, .int (nI 0)), (0, .ref b), (1, .int pr), (2, .int z9), (3, .int t9)] := hl
    have lp10 : ∀ (d : Nat) (k : Nat) (lv : Nat → Nat) (so9 : Nat → Nat) (w11 : mm_M) (H : Heap) (locs : List Loc) (ls : Array Slot), d = 8 - k → (mm_P B D kc w11 H) → (H.size = sz) → (mm_S B s.heap H locs) → (∀ j, j ≠ b + 7 → j ≠ b + 8 → w11 j = w8 j) → (w11 (b + 7) = some (.inl (cI, 9, .inl (fun i => nI (lv i))))) → (w11 (b + 8) = some (.inl (cI, 3, .inl (fun i => nI (so9 i))))) → (k ≤ 8) → (∀ j, so9 j ≤ 1000) → lv_has ls 6 [(5, .int (nI k)), (4, .int (nI (dm_set (ho_P N S o9 z9 t9) k))), (0, .ref b), (1, .int pr), (2, .int z9), (3, .int t9)] → W p l e (headSpec ws_X_holders (kk_rm 6 0 0)).room s m ([.ref b, .int pr, .int z9, .int t9]).toArray below meth c H locs 0 0 (MQ below (kk_Qi B D (fun r w' sz' => r = ho_r N S pr z9 t9 ∧ xs_I b cI cZ cQ sz' N S w' ∧ (∀ j, b + 14 ≤ j → j < b + 31 → w' j = w j) ∧ sz' = sz)) ([.ref b, .int pr, .int z9, .int t9]).toArray s 0 0 (fun q => B ≤ q)) (F0 m 41 ls []) := by
      intro d
      induction d using Nat.strongRecOn with
      | ind d ih =>
        intro k lv so9 w11 H locs ls hd hP hz hS frw11 fw11_0 fw11_1 hk hso9 hl
        refine lv_iload hx hb d_X_holders_41 (lv_at hl 0 rfl) ?_
        refine lv_bipush (v := nI 8) hx hb d_X_holders_43 (by decide) ?_
        refine lv_icmp_ge (tgt := 86) hx hb d_X_holders_45 (by decide) (fun cc12 => ?_) (fun cc12 => ?_)
        · have cc12 : 8 ≤ k := (nI_leI (by omega) (by omega)).mp cc12
          refine lv_iload hx hb d_X_holders_86 (lv_at hl 1 rfl) ?_
          exact W.iret hx hb hr (fun t ht hW => ⟨⟨_, (w11, sz), rfl, ⟨(by rw [ho_r_pos cc2 hpo (by omega)]; obtain rfl : k = 8 := (by omega); rfl), ⟨va_up (va_up (va_up (va_up T 0 (me_V N S t9)) 1 (ld_cn N S o9 z9 t9 (T 1) (N 0 0))) 2 lv) 3 so9, U, ad, ⟨hRe.keep (fun i9 hi9 => (frw11 i9 (by rcases hi9 with h | h | ⟨c9, h, h8, h7⟩ <;> (try have := (hLa c9 h).1) <;> omega) (by rcases hi9 with h | h | ⟨c9, h, h8, h7⟩ <;> (try have := (hLa c9 h).1) <;> omega)).trans ((fr9 i9 (by rcases hi9 with h | h | ⟨c9, h, h8, h7⟩ <;> (try have := (hLa c9 h).1) <;> omega)).trans (fr4 i9 (by rcases hi9 with h | h | ⟨c9, h, h8, h7⟩ <;> (try have := (hLa c9 h).1) <;> omega)))), ((frw11 _ (by omega) (by omega)).trans ((fr9 _ (by omega)).trans (f5))), ((frw11 _ (by omega) (by omega)).trans ((fr9 _ (by omega)).trans ((fr4 _ (by omega)).trans (x3)))), ((frw11 _ (by omega) (by omega)).trans ((fr9 _ (by omega)).trans (fa4_0))), ((frw11 _ (by omega) (by omega)).trans ((fr9 _ (by omega)).trans (f6))), ((frw11 _ (by omega) (by omega)).trans (fa9_0)), fw11_0, fw11_1, ((frw11 _ (by omega) (by omega)).trans ((fr9 _ (by omega)).trans ((fr4 _ (by omega)).trans (x9)))), ((frw11 _ (by omega) (by omega)).trans ((fr9 _ (by omega)).trans ((fr4 _ (by omega)).trans (x10)))), ((frw11 _ (by omega) (by omega)).trans ((fr9 _ (by omega)).trans ((fr4 _ (by omega)).trans (x11)))), ((frw11 _ (by omega) (by omega)).trans ((fr9 _ (by omega)).trans ((fr4 _ (by omega)).trans (x12)))), ((frw11 _ (by omega) (by omega)).trans ((fr9 _ (by omega)).trans ((fr4 _ (by omega)).trans (x13))))⟩, ⟨hXr.1, hXr.2.1, hXr.2.2.1, hXr.2.2.2.1, hXr.2.2.2.2.1, ld_cn_le hXr.2.2.2.2.2.1 _, hso9⟩, hLa⟩, (fun j hj1 hj2 => (frw11 j (by omega) (by omega)).trans ((fr9 j (by omega)).trans (fr4 j (by omega)))), rfl⟩, by rw [ht]; exact hP, by rw [ht]; exact hz⟩, hS.F ht⟩) hS.2.2 d_X_holders_88
        · have cc12 : ¬ (8 ≤ k) := fun q => cc12 ((nI_leI (by omega) (by omega)).mpr q)
          refine lv_aload_n hx hb d_X_holders_48 rfl (lv_at hl 2 rfl) ?_
          have f13 := (frw11 _ (by omega) (by omega)).trans ((fr9 _ (by omega)).trans (f5))
          refine mm_get (D := D) (C := n_X) (T := T_X) (N := 4) (v := .ref (b + 5)) hx hb hts lay_X hown hK.1 hP f13 rfl 2 (by decide) (hts _ (List.mem_cons_of_mem _ wd_134)) (fun _ h9 => h9) rfl d_X_holders_49 ?_
          refine lv_aload_n hx hb d_X_holders_52 rfl (lv_at hl 2 rfl) ?_
          refine mm_get (D := D) (C := n_X) (T := T_X) (N := 4) (v := .ref (b + 1)) hx hb hts lay_X hown hK.1 hP f13 rfl 0 (by decide) (hts _ (List.mem_cons_of_mem _ wd_132)) (fun _ h9 => h9) rfl d_X_holders_53 ?_
          refine lv_aload_n hx hb d_X_holders_56 rfl (lv_at hl 2 rfl) ?_
          refine mm_get (D := D) (C := n_X) (T := T_X) (N := 4) (v := .ref (b + 3)) hx hb hts lay_X hown hK.1 hP f13 rfl 1 (by decide) (hts _ (List.mem_cons_of_mem _ wd_133)) (fun _ h9 => h9) rfl d_X_holders_57 ?_
          refine lv_iload hx hb d_X_holders_60 (lv_at hl 0 rfl) ?_
          have f14 := (frw11 _ (by omega) (by omega)).trans ((fr9 _ (by omega)).trans (f6))
          have f15 := (frw11 _ (by omega) (by omega)).trans (fa9_0)
          have f16 := (frw11 _ (by omega) (by omega)).trans ((fr9 _ (by omega)).trans ((fr4 _ (by omega)).trans (x3)))
          have f17 := (frw11 _ (by omega) (by omega)).trans ((fr9 _ (by omega)).trans (fa4_0))
          refine kk_calli (va_runV (As := [.ref (b + 1), .ref (b + 3), .int (nI k)]) (rest := []) ⟨hx, hb, hml, hown, hts⟩ (c_Led_fromOwner l (N := N) (S := S) (ad := ad) f14 f15 fw11_0 fw11_1 f16 f17 (hRe.keep (fun i9 hi9 => (frw11 i9 (by rcases hi9 with h | h | ⟨c9, h, h8, h7⟩ <;> (try have := (hLa c9 h).1) <;> omega) (by rcases hi9 with h | h | ⟨c9, h, h8, h7⟩ <;> (try have := (hLa c9 h).1) <;> omega)).trans ((fr9 i9 (by rcases hi9 with h | h | ⟨c9, h, h8, h7⟩ <;> (try have := (hLa c9 h).1) <;> omega)).trans (fr4 i9 (by rcases hi9 with h | h | ⟨c9, h, h8, h7⟩ <;> (try have := (hLa c9 h).1) <;> omega))))) hR (me_V_le N S t9) hso9 (ld_cn_le hXr.2.2.2.2.2.1 _) (by omega) (by omega) (by omega) (fun j hj => by have := (hLa j hj).1; omega)) (cwV 3 hts (gW_in (hd := [_, _, _, _, _]) (kk_5 wd_370 wd_371 wd_372 wd_4 cw_Led_fromOwner)) rfl rfl rfl ⟨rfl, ds_Led_fromOwner⟩ ⟨Nat.le_of_ble_eq_true rfl, Nat.le_of_ble_eq_true rfl⟩) (kk_preV hK hP hz hBz f14 rfl) rfl rfl hl.1 rfl (lv_room (Nat.le_of_ble_eq_true rfl)) d_X_holders_62 ⟨Nat.le_of_ble_eq_true rfl, Nat.le_of_ble_eq_true rfl⟩) hS (fun r19 w19 sz19 H locs hp19 hP hz hS => ?_)
          obtain ⟨hr19, so9_18, hso9_18, he19, hs19⟩ := hp19
          subst hr19
          have hz : H.size = sz := hz.trans hs19
          have hw20 : w19 = mm_up (mm_up w11 (b + 7) (.inl (cI, 9, .inl (fun i => nI ((dm_run (lx_R N (ld_cn N S o9 z9 t9 (T 1) (N 0 0)) (me_V N S t9) k) 10 (fun _ => 1000)) i))))) (b + 8) (.inl (cI, 3, .inl (fun i => nI (so9_18 i)))) := he19
          have fr20 : ∀ j, j ≠ b + 7 → j ≠ b + 8 → w19 j = w11 j := fun j h90 h91 => by rw [hw20]; exact (mm_un h91).trans (mm_un h90)
          have fa20_0 : w19 (b + 7) = some (.inl (cI, 9, .inl (fun i => nI ((dm_run (lx_R N (ld_cn N S o9 z9 t9 (T 1) (N 0 0)) (me_V N S t9) k) 10 (fun _ => 1000)) i)))) := by rw [hw20]; exact (mm_un (by omega)).trans (mm_us _ _ _)
          have fa20_1 : w19 (b + 8) = some (.inl (cI, 3, .inl (fun i => nI (so9_18 i)))) := by rw [hw20]; exact mm_us _ _ _
          refine kk_top (y := nI (dm_L (N 3) (ld_U N S (me_V N S t9) k o9 z9 t9) (N 0 0) 8)) (congrArg nI (ma_eq S _ _ _ _ _ _ hR)) ?_
          refine lv_sipush (v := nI 1000) hx hb d_X_holders_65 (by decide) ?_
          have hq2 := dm_L_1000 (iss := N 3) (u := ld_U N S (me_V N S t9) k o9 z9 t9) (N 0 0) 8
          refine lv_icmp_eq (tgt := 80) hx hb d_X_holders_68 (by decide) (fun cc21 => ?_) (fun cc21 => ?_)
          · have cc21 : dm_L (N 3) (ld_U N S (me_V N S t9) k o9 z9 t9) (N 0 0) 8 = 1000 := (nI_eq (by omega) (by omega)).mp cc21
            rw [show dm_set (ho_P N S o9 z9 t9) k = dm_set (ho_P N S o9 z9 t9) (k + 1) from dm_set_f (fun q => of_decide_eq_true q cc21)] at hl
            refine lv_iinc (k := 0) (v := nI (k + 1)) hx hb d_X_holders_80 hl rfl (kk_inc _) (by decide) rfl (fun ls hl => ?_)
            have hl : lv_has ls 6 [(5, .int (nI (k + 1))), (4, .int (nI (dm_set (ho_P N S o9 z9 t9) (k + 1)))), (0, .ref b), (1, .int pr), (2, .int z9), (3, .int t9)] := hl
            refine lv_goto (tgt := 41) hx hb d_X_holders_83 (by decide) ?_
            exact ih _ (by omega) (k + 1) (dm_run (lx_R N (ld_cn N S o9 z9 t9 (T 1) (N 0 0)) (me_V N S t9) k) 10 (fun _ => 1000)) so9_18 w19 _ _ ls rfl hP hz hS (fun j g0 g1 => (fr20 j g0 g1).trans (frw11 j g0 g1)) fa20_0 fa20_1 (by omega) hso9_18 (lv_sub hl [0, 1, 2, 3, 4, 5] rfl)
          · have cc21 : ¬ (dm_L (N 3) (ld_U N S (me_V N S t9) k o9 z9 t9) (N 0 0) 8 = 1000) := fun q => cc21 ((nI_eq (by omega) (by omega)).mpr q)
            refine lv_iload hx hb d_X_holders_71 (lv_at hl 1 rfl) ?_
            refine lv_iconst (v := nI 1) hx hb d_X_holders_73 (by decide) ?_
            refine lv_iload hx hb d_X_holders_74 (lv_at hl 0 rfl) ?_
            refine lv_ishl hx hb d_X_holders_76 ?_
            refine kk_top (y := nI (2 ^ k)) (bt_shl _ (by omega)) ?_
            refine lv_ior hx hb d_X_holders_77 ?_
            refine kk_top (y := nI (dm_set (ho_P N S o9 z9 t9) (k + 1))) ((bt_or _ (by omega) _ (dm_set_lt _ _)).trans (congrArg nI (dm_set_t (decide_eq_true cc21)))) ?_
            refine lv_istore hx hb d_X_holders_78 hl (by decide) rfl (fun ls hl => ?_)
            have hl : lv_has ls 6 [(4, .int (nI (dm_set (ho_P N S o9 z9 t9) (k + 1)))), (5, .int (nI k)), (0, .ref b), (1, .int pr), (2, .int z9), (3, .int t9)] := hl
            refine lv_iinc (k := 1) (v := nI (k + 1)) hx hb d_X_holders_80 hl rfl (kk_inc _) (by decide) rfl (fun ls hl => ?_)
            have hl : lv_has ls 6 [(5, .int (nI (k + 1))), (4, .int (nI (dm_set (ho_P N S o9 z9 t9) (k + 1)))), (0, .ref b), (1, .int pr), (2, .int z9), (3, .int t9)] := hl
            refine lv_goto (tgt := 41) hx hb d_X_holders_83 (by decide) ?_
            exact ih _ (by omega) (k + 1) (dm_run (lx_R N (ld_cn N S o9 z9 t9 (T 1) (N 0 0)) (me_V N S t9) k) 10 (fun _ => 1000)) so9_18 w19 _ _ ls rfl hP hz hS (fun j g0 g1 => (fr20 j g0 g1).trans (frw11 j g0 g1)) fa20_0 fa20_1 (by omega) hso9_18 (lv_sub hl [0, 1, 2, 3, 4, 5] rfl)
    exact lp10 _ 0 (T 2) (T 3) w8 _ _ _ rfl hP hz hS (fun _ _ _ => rfl) ((fr9 _ (by omega)).trans ((fr4 _ (by omega)).trans (x7))) ((fr9 _ (by omega)).trans ((fr4 _ (by omega)).trans (x8))) (by omega) hXr.2.2.2.2.2.2 (lv_sub hl [0, 1, 2, 3, 4, 5] rfl)
  · have cc2 := kk_b0 cc2
    refine lv_iconst (v := nI 0) hx hb d_X_holders_7 (by decide) ?_
    exact W.iret hx hb hr (fun t ht hW => ⟨⟨_, (w, sz), rfl, ⟨(if_neg cc2).symm, ⟨T, U, ad, ⟨hRe, x0, x3, x4, x5, x6, x7, x8, x9, x10, x11, x12, x13⟩, hXr, hLa⟩, (fun j hj1 hj2 => rfl), rfl⟩, by rw [ht]; exact hP, by rw [ht]; exact hz⟩, hS.F ht⟩) hS.2.2 d_X_holders_8
