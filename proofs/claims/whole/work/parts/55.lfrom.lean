theorem d_Led_fromOwner_0 : decode k_Led_fromOwner 0 = .ok (.aload_n 0, 1) := by decide +kernel
theorem d_Led_fromOwner_1 : decode k_Led_fromOwner 1 = .ok (.getfield 15, 3) := by decide +kernel
theorem d_Led_fromOwner_4 : decode k_Led_fromOwner 4 = .ok (.sipush 1000, 3) := by decide +kernel
theorem d_Led_fromOwner_7 : decode k_Led_fromOwner 7 = .ok (.invokestatic 53, 3) := by decide +kernel
theorem d_Led_fromOwner_10 : decode k_Led_fromOwner 10 = .ok (.iconst 1, 1) := by decide +kernel
theorem d_Led_fromOwner_11 : decode k_Led_fromOwner 11 = .ok (.istore 4, 2) := by decide +kernel
theorem d_Led_fromOwner_13 : decode k_Led_fromOwner 13 = .ok (.iconst 0, 1) := by decide +kernel
theorem d_Led_fromOwner_14 : decode k_Led_fromOwner 14 = .ok (.istore 5, 2) := by decide +kernel
theorem d_Led_fromOwner_16 : decode k_Led_fromOwner 16 = .ok (.iload 4, 2) := by decide +kernel
theorem d_Led_fromOwner_18 : decode k_Led_fromOwner 18 = .ok (.ifCond .eq 28, 3) := by decide +kernel
theorem d_Led_fromOwner_21 : decode k_Led_fromOwner 21 = .ok (.iload 5, 2) := by decide +kernel
theorem d_Led_fromOwner_23 : decode k_Led_fromOwner 23 = .ok (.aload_n 0, 1) := by decide +kernel
theorem d_Led_fromOwner_24 : decode k_Led_fromOwner 24 = .ok (.getfield 15, 3) := by decide +kernel
theorem d_Led_fromOwner_27 : decode k_Led_fromOwner 27 = .ok (.arraylength, 1) := by decide +kernel
theorem d_Led_fromOwner_28 : decode k_Led_fromOwner 28 = .ok (.if_icmp .gt 18, 3) := by decide +kernel
theorem d_Led_fromOwner_31 : decode k_Led_fromOwner 31 = .ok (.aload_n 0, 1) := by decide +kernel
theorem d_Led_fromOwner_32 : decode k_Led_fromOwner 32 = .ok (.aload_n 1, 1) := by decide +kernel
theorem d_Led_fromOwner_33 : decode k_Led_fromOwner 33 = .ok (.aload_n 2, 1) := by decide +kernel
theorem d_Led_fromOwner_34 : decode k_Led_fromOwner 34 = .ok (.iload_n 3, 1) := by decide +kernel
theorem d_Led_fromOwner_35 : decode k_Led_fromOwner 35 = .ok (.invokevirtual 59, 3) := by decide +kernel
theorem d_Led_fromOwner_38 : decode k_Led_fromOwner 38 = .ok (.istore 4, 2) := by decide +kernel
theorem d_Led_fromOwner_40 : decode k_Led_fromOwner 40 = .ok (.iinc 5 1, 3) := by decide +kernel
theorem d_Led_fromOwner_43 : decode k_Led_fromOwner 43 = .ok (.goto (-27), 3) := by decide +kernel
theorem d_Led_fromOwner_46 : decode k_Led_fromOwner 46 = .ok (.aload_n 0, 1) := by decide +kernel
theorem d_Led_fromOwner_47 : decode k_Led_fromOwner 47 = .ok (.getfield 15, 3) := by decide +kernel
theorem d_Led_fromOwner_50 : decode k_Led_fromOwner 50 = .ok (.bipush 8, 2) := by decide +kernel
theorem d_Led_fromOwner_52 : decode k_Led_fromOwner 52 = .ok (.iaload, 1) := by decide +kernel
theorem d_Led_fromOwner_53 : decode k_Led_fromOwner 53 = .ok (.ireturn, 1) := by decide +kernel
set_option maxHeartbeats 4000000 in
set_option maxRecDepth 100000 in
theorem c_Led_fromOwner (l : Launch) {B : Nat} {D : va_G} {cI cZ cQ : ClassId} {w : mm_M} {sz : Nat} {a q m9 x : Nat} {cn g l9 so : Nat → Nat} {N : Nat → Nat → Nat} {S : Nat → Nat → Int32} {ad : Nat → Nat} (h_0 : w a = some (.inr (3, [.ref (a + 1), .ref (a + 2), .ref (a + 3)]))) (h_1 : w (a + 1) = some (.inl (cZ, 24, .inl (fun i => nI (cn i))))) (h_2 : w (a + 2) = some (.inl (cI, 9, .inl (fun i => nI (l9 i))))) (h_3 : w (a + 3) = some (.inl (cI, 3, .inl (fun i => nI (so i))))) (h_4 : w m9 = some (.inr (2, [.ref (m9 + 1)]))) (h_5 : w (m9 + 1) = some (.inl (cI, 256, .inl (fun i => nI (g i))))) (hRe : re_I q cI cQ N S ad w) (hR : rg_I N) (hg : ∀ j, g j ≤ 1000) (hso : ∀ j, so j ≤ 1000) (hcn : ∀ j, cn j ≤ 1) (hx9 : x < 8) (hq : q + 2 ≤ m9) (hma : m9 + 1 < a) (had : ∀ j, j < N 0 0 → a + 3 < ad j) : Met l y_Led_fromOwner ws_Led_fromOwner (kk_rm 5 0 0) (kk_Pc B D cI cZ cQ [.ref a, .ref q, .ref m9, .int (nI x)] w sz) (kk_Qi B D (fun r w' sz' => r = nI (dm_run (lx_R N cn g x) 10 (fun _ => 1000) 8) ∧ ∃ so9 : Nat → Nat, (∀ j, so9 j ≤ 1000) ∧ w' = mm_up (mm_up w (a + 2) (.inl (cI, 9, .inl (fun i => nI ((dm_run (lx_R N cn g x) 10 (fun _ => 1000)) i))))) (a + 3) (.inl (cI, 3, .inl (fun i => nI (so9 i)))) ∧ sz' = sz)) 0 0 (fun q => B ≤ q) := by
  refine Met.ofW (cc := k_Led_fromOwner) (maxL := 6) (ret := (some .int)) (by decide) rfl ?_
  intro p e s m args below meth c s₁ BB hml hv
  obtain ⟨rfl, hK, hP, hz, hBz⟩ := hv
  have hx := BB.exec
  have hb := BB.bytes
  have hr := BB.returns
  have hts := atoms_spec (ws := ws_Led_fromOwner) BB.pre
  have hown : s.vm.findClass "DelegationClosure$Leads" = some m.cls := findClass_of_methodNamed BB.named
  have hlocks := BB.notSynchronized
  have hS : mm_S B s.heap s.heap [] := va_S.rf
  have hl := lv_entry ([.ref a, .ref q, .ref m9, .int (nI x)]) (n := 6) (Nat.le_of_ble_eq_true rfl)
  rw [lg_entry_eq]
  generalize (lg_sl ([.ref a, .ref q, .ref m9, .int (nI x)]) ++ List.replicate (6 - (lg_sl ([.ref a, .ref q, .ref m9, .int (nI x)])).length) Slot.unset).toArray = ls at hl ⊢
  have hl : lv_has ls 6 [(0, .ref a), (1, .ref q), (2, .ref m9), (3, .int (nI x))] := hl
  refine lv_aload_n hx hb d_Led_fromOwner_0 rfl (lv_at hl 0 rfl) ?_
  refine mm_get (D := D) (C := n_Led) (T := T_Led) (N := 3) (v := .ref (a + 2)) hx hb hts lay_Led hown hK.1 hP h_0 rfl 1 (by decide) (hts _ (List.mem_cons_of_mem _ wd_59)) (fun _ h9 => h9) rfl d_Led_fromOwner_1 ?_
  refine lv_sipush (v := nI 1000) hx hb d_Led_fromOwner_4 (by decide) ?_
  refine kk_callv (va_runS (As := [.ref (a + 2), .int (nI 1000)]) (rest := []) ⟨hx, hb, hml, hown, hts⟩ (c_Arr_fill l h_2 (by omega)) (va_cwS 2 hts (gW_in (hd := [_, _, _, _]) (kk_4 wd_374 wd_310 wd_12 cw_Arr_fill)) rfl rfl rfl ds_Arr_fill ⟨Nat.le_of_ble_eq_true rfl, Nat.le_of_ble_eq_true rfl⟩) (kk_preS hK hP hz hBz) rfl rfl hl.1 rfl (lv_room (Nat.le_of_ble_eq_true rfl)) d_Led_fromOwner_7 ⟨Nat.le_of_ble_eq_true rfl, Nat.le_of_ble_eq_true rfl⟩) hS (fun w1 sz1 H locs hp1 hP hz hS => ?_)
  obtain ⟨he1, hs1⟩ := hp1
  have hz : H.size = sz := hz.trans hs1
  have hw2 : w1 = mm_up w (a + 2) (.inl (cI, 9, .inl (fun i => nI ((fun _ => 1000) i)))) := he1
  have fr2 : ∀ j, j ≠ a + 2 → w1 j = w j := fun j h90 => by rw [hw2]; exact mm_un h90
  have fa2_0 : w1 (a + 2) = some (.inl (cI, 9, .inl (fun i => nI ((fun _ => 1000) i)))) := by rw [hw2]; exact mm_us _ _ _
  refine lv_iconst (v := nI 1) hx hb d_Led_fromOwner_10 (by decide) ?_
  refine lv_istore hx hb d_Led_fromOwner_11 hl (by decide) rfl (fun ls hl => ?_)
  have hl : lv_has ls 6 [(4, .int (nI 1)), (0, .ref a), (1, .ref q), (2, .ref m9), (3, .int (nI x))] := hl
  refine lv_iconst (v := nI 0) hx hb d_Led_fromOwner_13 (by decide) ?_
  refine lv_istore hx hb d_Led_fromOwner_14 hl (by decide) rfl (fun ls hl => ?_)
  have hl : lv_has ls 6 [(5, .int (nI 0)), (4, .int (nI 1)), (0, .ref a), (1, .ref q), (2, .ref m9), (3, .int (nI x))] := hl
  have lp3 : ∀ (d : Nat) (k : Nat) (bt : Bool) (lv : Nat → Nat) (so9 : Nat → Nat) (w4 : mm_M) (H : Heap) (locs : List Loc) (ls : Array Slot), d = 10 - k → (mm_P B D kc w4 H) → (H.size = sz) → (mm_S B s.heap H locs) → (∀ j, j ≠ a + 2 → j ≠ a + 3 → w4 j = w1 j) → (w4 (a + 2) = some (.inl (cI, 9, .inl (fun i => nI (lv i))))) → (w4 (a + 3) = some (.inl (cI, 3, .inl (fun i => nI (so9 i))))) → (k ≤ 10) → (∀ j, lv j ≤ 1000) → (∀ j, so9 j ≤ 1000) → ((if bt = true then dm_run (lx_R N cn g x) (10 - k) lv else lv) = dm_run (lx_R N cn g x) 10 (fun _ => 1000)) → lv_has ls 6 [(5, .int (nI k)), (4, .int (nI (if bt = true then 1 else 0))), (0, .ref a), (1, .ref q), (2, .ref m9), (3, .int (nI x))] → W p l e (headSpec ws_Led_fromOwner (kk_rm 5 0 0)).room s m ([.ref a, .ref q, .ref m9, .int (nI x)]).toArray below meth c H locs 0 0 (MQ below (kk_Qi B D (fun r w' sz' => r = nI (dm_run (lx_R N cn g x) 10 (fun _ => 1000) 8) ∧ ∃ so9 : Nat → Nat, (∀ j, so9 j ≤ 1000) ∧ w' = mm_up (mm_up w (a + 2) (.inl (cI, 9, .inl (fun i => nI ((dm_run (lx_R N cn g x) 10 (fun _ => 1000)) i))))) (a + 3) (.inl (cI, 3, .inl (fun i => nI (so9 i)))) ∧ sz' = sz)) ([.ref a, .ref q, .ref m9, .int (nI x)]).toArray s 0 0 (fun q => B ≤ q)) (F0 m 16 ls []) := by
    intro d
    induction d using Nat.strongRecOn with
    | ind d ih =>
      intro k bt lv so9 w4 H locs ls hd hP hz hS frw4 fw4_0 fw4_1 hk hgb hso9 hI hl
      have hRk := hRe.keep (fun i9 hi9 => (frw4 i9 (by rcases hi9 with h | h | ⟨c9, h, h8, h7⟩ <;> (try have := had c9 h) <;> omega) (by rcases hi9 with h | h | ⟨c9, h, h8, h7⟩ <;> (try have := had c9 h) <;> omega)).trans (fr2 i9 (by rcases hi9 with h | h | ⟨c9, h, h8, h7⟩ <;> (try have := had c9 h) <;> omega)))
      refine lv_iload hx hb d_Led_fromOwner_16 (lv_at hl 1 rfl) ?_
      refine lv_if_eq (tgt := 46) hx hb d_Led_fromOwner_18 (by decide) (fun cc5 => ?_) (fun cc5 => ?_)
      · have cc5 := kk_b0 cc5
        have hg9 : lv = dm_run (lx_R N cn g x) 10 (fun _ => 1000) := by rw [← hI, if_neg cc5]
        subst hg9
        refine lv_aload_n hx hb d_Led_fromOwner_46 rfl (lv_at hl 2 rfl) ?_
        have f6 := (frw4 _ (by omega) (by omega)).trans ((fr2 _ (by omega)).trans (h_0))
        refine mm_get (D := D) (C := n_Led) (T := T_Led) (N := 3) (v := .ref (a + 2)) hx hb hts lay_Led hown hK.1 hP f6 rfl 1 (by decide) (hts _ (List.mem_cons_of_mem _ wd_59)) (fun _ h9 => h9) rfl d_Led_fromOwner_47 ?_
        refine lv_bipush (v := nI 8) hx hb d_Led_fromOwner_50 (by decide) ?_
        refine mm_iald hx hb hK.1 hP 0 fw4_0 rfl 8 rfl (by omega) (by decide) d_Led_fromOwner_52 ?_
        refine W.eq (g2 := F0 m 53 ls [.int (nI ((dm_run (lx_R N cn g x) 10 (fun _ => 1000)) 8))]) rfl ?_
        exact W.iret hx hb hr (fun t ht hW => ⟨⟨_, (w4, sz), rfl, ⟨rfl, so9, hso9, mm_e2 fw4_0 fw4_1 (fun j g0 g1 => (frw4 j g0 g1).trans (fr2 j g0)), rfl⟩, by rw [ht]; exact hP, by rw [ht]; exact hz⟩, hS.F ht⟩) hS.2.2 d_Led_fromOwner_53
      · have cc5 := kk_b1 cc5
        refine lv_iload hx hb d_Led_fromOwner_21 (lv_at hl 0 rfl) ?_
        refine lv_aload_n hx hb d_Led_fromOwner_23 rfl (lv_at hl 2 rfl) ?_
        have f7 := (frw4 _ (by omega) (by omega)).trans ((fr2 _ (by omega)).trans (h_0))
        refine mm_get (D := D) (C := n_Led) (T := T_Led) (N := 3) (v := .ref (a + 2)) hx hb hts lay_Led hown hK.1 hP f7 rfl 1 (by decide) (hts _ (List.mem_cons_of_mem _ wd_59)) (fun _ h9 => h9) rfl d_Led_fromOwner_24 ?_
        refine mm_alen hx hb hK.1 hP 0 fw4_0 rfl d_Led_fromOwner_27 ?_
        refine lv_icmp_gt (tgt := 46) hx hb d_Led_fromOwner_28 (by decide) (fun cc8 => ?_) (fun cc8 => ?_)
        · have cc8 : 9 < k := (nI_ltI (by omega) (by omega)).mp cc8
          have hg9 : lv = dm_run (lx_R N cn g x) 10 (fun _ => 1000) := by rw [← hI, if_pos cc5, show 10 - k = 0 by omega]; rfl
          subst hg9
          refine lv_aload_n hx hb d_Led_fromOwner_46 rfl (lv_at hl 2 rfl) ?_
          refine mm_get (D := D) (C := n_Led) (T := T_Led) (N := 3) (v := .ref (a + 2)) hx hb hts lay_Led hown hK.1 hP f7 rfl 1 (by decide) (hts _ (List.mem_cons_of_mem _ wd_59)) (fun _ h9 => h9) rfl d_Led_fromOwner_47 ?_
          refine lv_bipush (v := nI 8) hx hb d_Led_fromOwner_50 (by decide) ?_
          refine mm_iald hx hb hK.1 hP 0 fw4_0 rfl 8 rfl (by omega) (by decide) d_Led_fromOwner_52 ?_
          refine W.eq (g2 := F0 m 53 ls [.int (nI ((dm_run (lx_R N cn g x) 10 (fun _ => 1000)) 8))]) rfl ?_
          exact W.iret hx hb hr (fun t ht hW => ⟨⟨_, (w4, sz), rfl, ⟨rfl, so9, hso9, mm_e2 fw4_0 fw4_1 (fun j g0 g1 => (frw4 j g0 g1).trans (fr2 j g0)), rfl⟩, by rw [ht]; exact hP, by rw [ht]; exact hz⟩, hS.F ht⟩) hS.2.2 d_Led_fromOwner_53
        · have cc8 : ¬ (9 < k) := fun q => cc8 ((nI_ltI (by omega) (by omega)).mpr q)
          refine lv_aload_n hx hb d_Led_fromOwner_31 rfl (lv_at hl 2 rfl) ?_
          refine lv_aload_n hx hb d_Led_fromOwner_32 rfl (lv_at hl 3 rfl) ?_
          refine lv_aload_n hx hb d_Led_fromOwner_33 rfl (lv_at hl 4 rfl) ?_
          refine lv_iload_n hx hb d_Led_fromOwner_34 rfl (lv_at hl 5 rfl) ?_
          have f9 := (frw4 _ (by omega) (by omega)).trans ((fr2 _ (by omega)).trans (h_1))
          have f10 := (frw4 _ (by omega) (by omega)).trans ((fr2 _ (by omega)).trans (h_4))
          have f11 := (frw4 _ (by omega) (by omega)).trans ((fr2 _ (by omega)).trans (h_5))
          refine kk_calli (va_runV (As := [.ref q, .ref m9, .int (nI x)]) (rest := []) ⟨hx, hb, hml, hown, hts⟩ (c_Led_improve l (N := N) (S := S) (ad := ad) f7 f9 fw4_0 fw4_1 f10 f11 hRk hR hg hgb hso9 hcn (by omega) (by omega) (by omega) had) (cwV 3 hts (gW_in (hd := [_, _, _, _, _]) (kk_5 wd_375 wd_377 sl_Led_improve wd_4 cw_Led_improve)) rfl rfl rfl ⟨rfl, ds_Led_improve⟩ ⟨Nat.le_of_ble_eq_true rfl, Nat.le_of_ble_eq_true rfl⟩) (kk_preV hK hP hz hBz f7 rfl) rfl rfl hl.1 rfl (lv_room (Nat.le_of_ble_eq_true rfl)) d_Led_fromOwner_35 ⟨Nat.le_of_ble_eq_true rfl, Nat.le_of_ble_eq_true rfl⟩) hS (fun r13 w13 sz13 H locs hp13 hP hz hS => ?_)
          obtain ⟨hr13, so9_12, hso9_12, he13, hs13⟩ := hp13
          subst hr13
          have hz : H.size = sz := hz.trans hs13
          have hw14 : w13 = mm_up (mm_up w4 (a + 2) (.inl (cI, 9, .inl (fun i => nI ((dm_pass (lx_R N cn g x) lv) i))))) (a + 3) (.inl (cI, 3, .inl (fun i => nI (so9_12 i)))) := he13
          have fr14 : ∀ j, j ≠ a + 2 → j ≠ a + 3 → w13 j = w4 j := fun j h90 h91 => by rw [hw14]; exact (mm_un h91).trans (mm_un h90)
          have fa14_0 : w13 (a + 2) = some (.inl (cI, 9, .inl (fun i => nI ((dm_pass (lx_R N cn g x) lv) i)))) := by rw [hw14]; exact (mm_un (by omega)).trans (mm_us _ _ _)
          have fa14_1 : w13 (a + 3) = some (.inl (cI, 3, .inl (fun i => nI (so9_12 i)))) := by rw [hw14]; exact mm_us _ _ _
          refine lv_istore hx hb d_Led_fromOwner_38 hl (by decide) rfl (fun ls hl => ?_)
          have hl : lv_has ls 6 [(4, .int (nI (if dm_flag (lx_R N cn g x) lv = true then 1 else 0))), (5, .int (nI k)), (0, .ref a), (1, .ref q), (2, .ref m9), (3, .int (nI x))] := hl
          refine lv_iinc (k := 1) (v := nI (k + 1)) hx hb d_Led_fromOwner_40 hl rfl (kk_inc _) (by decide) rfl (fun ls hl => ?_)
          have hl : lv_has ls 6 [(5, .int (nI (k + 1))), (4, .int (nI (if dm_flag (lx_R N cn g x) lv = true then 1 else 0))), (0, .ref a), (1, .ref q), (2, .ref m9), (3, .int (nI x))] := hl
          refine lv_goto (tgt := 16) hx hb d_Led_fromOwner_43 (by decide) ?_
          exact ih _ (by omega) (k + 1) (dm_flag (lx_R N cn g x) lv) (dm_pass (lx_R N cn g x) lv) so9_12 w13 _ _ ls rfl hP hz hS (fun j g0 g1 => (fr14 j g0 g1).trans (frw4 j g0 g1)) fa14_0 fa14_1 (by omega) (dm_pass_1000 hgb) hso9_12 (by rw [← hI, if_pos cc5, show 10 - k = (10 - (k + 1)) + 1 by omega]; rfl) (lv_sub hl [0, 1, 2, 3, 4, 5] rfl)
  exact lp3 _ 0 true (fun _ => 1000) so w1 _ _ _ rfl hP hz hS (fun _ _ _ => rfl) fa2_0 ((fr2 _ (by omega)).trans (h_3)) (by omega) (fun _ => Nat.le_refl _) hso (if_pos rfl) (lv_sub hl [0, 1, 2, 3, 4, 5] rfl)
