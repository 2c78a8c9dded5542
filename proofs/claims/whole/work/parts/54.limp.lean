theorem d_Led_improve_0 : decode k_Led_improve 0 = .ok (.iconst 0, 1) := by decide +kernel
theorem d_Led_improve_1 : decode k_Led_improve 1 = .ok (.istore 4, 2) := by decide +kernel
theorem d_Led_improve_3 : decode k_Led_improve 3 = .ok (.iconst 0, 1) := by decide +kernel
theorem d_Led_improve_4 : decode k_Led_improve 4 = .ok (.istore 5, 2) := by decide +kernel
theorem d_Led_improve_6 : decode k_Led_improve 6 = .ok (.iload 5, 2) := by decide +kernel
theorem d_Led_improve_8 : decode k_Led_improve 8 = .ok (.aload_n 1, 1) := by decide +kernel
theorem d_Led_improve_9 : decode k_Led_improve 9 = .ok (.getfield 22, 3) := by decide +kernel
theorem d_Led_improve_12 : decode k_Led_improve 12 = .ok (.if_icmp .ge 75, 3) := by decide +kernel
theorem d_Led_improve_15 : decode k_Led_improve 15 = .ok (.aload_n 1, 1) := by decide +kernel
theorem d_Led_improve_16 : decode k_Led_improve 16 = .ok (.iload 5, 2) := by decide +kernel
theorem d_Led_improve_18 : decode k_Led_improve 18 = .ok (.invokevirtual 28, 3) := by decide +kernel
theorem d_Led_improve_21 : decode k_Led_improve 21 = .ok (.astore 6, 2) := by decide +kernel
theorem d_Led_improve_23 : decode k_Led_improve 23 = .ok (.aload 6, 2) := by decide +kernel
theorem d_Led_improve_25 : decode k_Led_improve 25 = .ok (.ifnull 56, 3) := by decide +kernel
theorem d_Led_improve_28 : decode k_Led_improve 28 = .ok (.aload_n 0, 1) := by decide +kernel
theorem d_Led_improve_29 : decode k_Led_improve 29 = .ok (.getfield 9, 3) := by decide +kernel
theorem d_Led_improve_32 : decode k_Led_improve 32 = .ok (.iload 5, 2) := by decide +kernel
theorem d_Led_improve_34 : decode k_Led_improve 34 = .ok (.baload, 1) := by decide +kernel
theorem d_Led_improve_35 : decode k_Led_improve 35 = .ok (.ifCond .ne 6, 3) := by decide +kernel
theorem d_Led_improve_38 : decode k_Led_improve 38 = .ok (.goto 43, 3) := by decide +kernel
theorem d_Led_improve_41 : decode k_Led_improve 41 = .ok (.aload_n 0, 1) := by decide +kernel
theorem d_Led_improve_42 : decode k_Led_improve 42 = .ok (.aload_n 2, 1) := by decide +kernel
theorem d_Led_improve_43 : decode k_Led_improve 43 = .ok (.aload 6, 2) := by decide +kernel
theorem d_Led_improve_45 : decode k_Led_improve 45 = .ok (.iload_n 3, 1) := by decide +kernel
theorem d_Led_improve_46 : decode k_Led_improve 46 = .ok (.invokevirtual 63, 3) := by decide +kernel
theorem d_Led_improve_49 : decode k_Led_improve 49 = .ok (.istore 7, 2) := by decide +kernel
theorem d_Led_improve_51 : decode k_Led_improve 51 = .ok (.iload 7, 2) := by decide +kernel
theorem d_Led_improve_53 : decode k_Led_improve 53 = .ok (.aload_n 0, 1) := by decide +kernel
theorem d_Led_improve_54 : decode k_Led_improve 54 = .ok (.getfield 15, 3) := by decide +kernel
theorem d_Led_improve_57 : decode k_Led_improve 57 = .ok (.aload 6, 2) := by decide +kernel
theorem d_Led_improve_59 : decode k_Led_improve 59 = .ok (.getfield 67, 3) := by decide +kernel
theorem d_Led_improve_62 : decode k_Led_improve 62 = .ok (.iaload, 1) := by decide +kernel
theorem d_Led_improve_63 : decode k_Led_improve 63 = .ok (.if_icmp .ge 18, 3) := by decide +kernel
theorem d_Led_improve_66 : decode k_Led_improve 66 = .ok (.aload_n 0, 1) := by decide +kernel
theorem d_Led_improve_67 : decode k_Led_improve 67 = .ok (.getfield 15, 3) := by decide +kernel
theorem d_Led_improve_70 : decode k_Led_improve 70 = .ok (.aload 6, 2) := by decide +kernel
theorem d_Led_improve_72 : decode k_Led_improve 72 = .ok (.getfield 67, 3) := by decide +kernel
theorem d_Led_improve_75 : decode k_Led_improve 75 = .ok (.iload 7, 2) := by decide +kernel
theorem d_Led_improve_77 : decode k_Led_improve 77 = .ok (.iastore, 1) := by decide +kernel
theorem d_Led_improve_78 : decode k_Led_improve 78 = .ok (.iconst 1, 1) := by decide +kernel
theorem d_Led_improve_79 : decode k_Led_improve 79 = .ok (.istore 4, 2) := by decide +kernel
theorem d_Led_improve_81 : decode k_Led_improve 81 = .ok (.iinc 5 1, 3) := by decide +kernel
theorem d_Led_improve_84 : decode k_Led_improve 84 = .ok (.goto (-78), 3) := by decide +kernel
theorem d_Led_improve_87 : decode k_Led_improve 87 = .ok (.iload 4, 2) := by decide +kernel
theorem d_Led_improve_89 : decode k_Led_improve 89 = .ok (.ireturn, 1) := by decide +kernel
set_option maxHeartbeats 4000000 in
set_option maxRecDepth 100000 in
theorem c_Led_improve (l : Launch) {B : Nat} {D : va_G} {cI cZ cQ : ClassId} {w : mm_M} {sz : Nat} {a q m9 x : Nat} {cn g l9 so : Nat → Nat} {N : Nat → Nat → Nat} {S : Nat → Nat → Int32} {ad : Nat → Nat} (h_0 : w a = some (.inr (3, [.ref (a + 1), .ref (a + 2), .ref (a + 3)]))) (h_1 : w (a + 1) = some (.inl (cZ, 24, .inl (fun i => nI (cn i))))) (h_2 : w (a + 2) = some (.inl (cI, 9, .inl (fun i => nI (l9 i))))) (h_3 : w (a + 3) = some (.inl (cI, 3, .inl (fun i => nI (so i))))) (h_4 : w m9 = some (.inr (2, [.ref (m9 + 1)]))) (h_5 : w (m9 + 1) = some (.inl (cI, 256, .inl (fun i => nI (g i))))) (hRe : re_I q cI cQ N S ad w) (hR : rg_I N) (hg : ∀ j, g j ≤ 1000) (hl9 : ∀ j, l9 j ≤ 1000) (hso : ∀ j, so j ≤ 1000) (hcn : ∀ j, cn j ≤ 1) (hx9 : x < 8) (hq : q + 2 ≤ m9) (hma : m9 + 1 < a) (had : ∀ j, j < N 0 0 → a + 3 < ad j) : Met l y_Led_improve ws_Led_improve (kk_rm 4 0 0) (kk_Pc B D cI cZ cQ [.ref a, .ref q, .ref m9, .int (nI x)] w sz) (kk_Qi B D (fun r w' sz' => r = nI (if dm_flag (lx_R N cn g x) l9 = true then 1 else 0) ∧ ∃ so9 : Nat → Nat, (∀ j, so9 j ≤ 1000) ∧ w' = mm_up (mm_up w (a + 2) (.inl (cI, 9, .inl (fun i => nI ((dm_pass (lx_R N cn g x) l9) i))))) (a + 3) (.inl (cI, 3, .inl (fun i => nI (so9 i)))) ∧ sz' = sz)) 0 0 (fun q => B ≤ q) := by
  refine Met.ofW (cc := k_Led_improve) (maxL := 8) (ret := (some .boolean)) (by decide) rfl ?_
  intro p e s m args below meth c s₁ BB hml hv
  obtain ⟨rfl, hK, hP, hz, hBz⟩ := hv
  have hx := BB.exec
  have hb := BB.bytes
  have hr := BB.returns
  have hts := atoms_spec (ws := ws_Led_improve) BB.pre
  have hown : s.vm.findClass "DelegationClosure$Leads" = some m.cls := findClass_of_methodNamed BB.named
  have hlocks := BB.notSynchronized
  have hS : mm_S B s.heap s.heap [] := va_S.rf
  have hl := lv_entry ([.ref a, .ref q, .ref m9, .int (nI x)]) (n := 8) (Nat.le_of_ble_eq_true rfl)
  rw [lg_entry_eq]
  generalize (lg_sl ([.ref a, .ref q, .ref m9, .int (nI x)]) ++ List.replicate (8 - (lg_sl ([.ref a, .ref q, .ref m9, .int (nI x)])).length) Slot.unset).toArray = ls at hl ⊢
  have hl : lv_has ls 8 [(0, .ref a), (1, .ref q), (2, .ref m9), (3, .int (nI x))] := hl
  have hn := hRe.2.2.1
  refine lv_iconst (v := nI 0) hx hb d_Led_improve_0 (by decide) ?_
  refine lv_istore hx hb d_Led_improve_1 hl (by decide) rfl (fun ls hl => ?_)
  have hl : lv_has ls 8 [(4, .int (nI 0)), (0, .ref a), (1, .ref q), (2, .ref m9), (3, .int (nI x))] := hl
  refine lv_iconst (v := nI 0) hx hb d_Led_improve_3 (by decide) ?_
  refine lv_istore hx hb d_Led_improve_4 hl (by decide) rfl (fun ls hl => ?_)
  have hl : lv_has ls 8 [(5, .int (nI 0)), (4, .int (nI 0)), (0, .ref a), (1, .ref q), (2, .ref m9), (3, .int (nI x))] := hl
  have lp1 : ∀ (d : Nat) (k : Nat) (so9 : Nat → Nat) (w2 : mm_M) (H : Heap) (locs : List Loc) (ls : Array Slot), d = N 0 0 - k → (mm_P B D kc w2 H) → (H.size = sz) → (mm_S B s.heap H locs) → (∀ j, j ≠ a + 2 → j ≠ a + 3 → w2 j = w j) → (w2 (a + 2) = some (.inl (cI, 9, .inl (fun i => nI ((dm_pass (dm_upto (lx_f N cn g x) k) l9) i))))) → (w2 (a + 3) = some (.inl (cI, 3, .inl (fun i => nI (so9 i))))) → (k ≤ N 0 0) → (∀ j, so9 j ≤ 1000) → lv_has ls 8 [(5, .int (nI k)), (4, .int (nI (if dm_flag (dm_upto (lx_f N cn g x) k) l9 = true then 1 else 0))), (0, .ref a), (1, .ref q), (2, .ref m9), (3, .int (nI x))] → W p l e (headSpec ws_Led_improve (kk_rm 4 0 0)).room s m ([.ref a, .ref q, .ref m9, .int (nI x)]).toArray below meth c H locs 0 0 (MQ below (kk_Qi B D (fun r w' sz' => r = nI (if dm_flag (lx_R N cn g x) l9 = true then 1 else 0) ∧ ∃ so9 : Nat → Nat, (∀ j, so9 j ≤ 1000) ∧ w' = mm_up (mm_up w (a + 2) (.inl (cI, 9, .inl (fun i => nI ((dm_pass (lx_R N cn g x) l9) i))))) (a + 3) (.inl (cI, 3, .inl (fun i => nI (so9 i)))) ∧ sz' = sz)) ([.ref a, .ref q, .ref m9, .int (nI x)]).toArray s 0 0 (fun q => B ≤ q)) (F0 m 6 ls []) := by
    intro d
    induction d using Nat.strongRecOn with
    | ind d ih =>
      intro k so9 w2 H locs ls hd hP hz hS frw2 fw2_0 fw2_1 hk hso9 hl
      have hlk := dm_pass_1000 (R := dm_upto (lx_f N cn g x) k) hl9
      refine lv_iload hx hb d_Led_improve_6 (lv_at hl 0 rfl) ?_
      refine lv_aload_n hx hb d_Led_improve_8 rfl (lv_at hl 3 rfl) ?_
      have f3 := (frw2 _ (by omega) (by omega)).trans (hRe.1)
      refine mm_getN (D := D) (C := n_Reg) (T := T_Reg) (N := 2) (v := .int (nI (N 0 0))) hx hb hts lay_Reg hown hK.1 hP f3 rfl 1 (by decide) (hK.2.1 _ nw_33 rfl) (fun _ h9 => h9) rfl d_Led_improve_9 ?_
      refine lv_icmp_ge (tgt := 87) hx hb d_Led_improve_12 (by decide) (fun cc4 => ?_) (fun cc4 => ?_)
      · have cc4 : N 0 0 ≤ k := (nI_leI (by omega) (by omega)).mp cc4
        obtain rfl : k = N 0 0 := by omega
        refine lv_iload hx hb d_Led_improve_87 (lv_at hl 1 rfl) ?_
        exact W.zret hx hb hr (kk_nar _) (fun t ht hW => ⟨⟨_, (w2, sz), rfl, ⟨rfl, so9, hso9, mm_e2 fw2_0 fw2_1 (fun j g0 g1 => frw2 j g0 g1), rfl⟩, by rw [ht]; exact hP, by rw [ht]; exact hz⟩, hS.F ht⟩) hS.2.2 d_Led_improve_89
      · have cc4 : ¬ (N 0 0 ≤ k) := fun q => cc4 ((nI_leI (by omega) (by omega)).mpr q)
        have hk2 : k < N 0 0 := by omega
        have hRk := hRe.keep (fun i9 hi9 => frw2 i9 (by rcases hi9 with h | h | ⟨c9, h, h8, h7⟩ <;> (try have := had c9 h) <;> omega) (by rcases hi9 with h | h | ⟨c9, h, h8, h7⟩ <;> (try have := had c9 h) <;> omega))
        have hRj := hR k hk2
        have hdk := had k hk2
        rcases hRk.2.2.2 k hk2 with ⟨h2, hn1, hn2⟩ | ⟨h2, hp1, hp2, hp3, hp4, hp5⟩
        · by_cases hgn : N 1 k = 0
          · refine lv_aload_n hx hb d_Led_improve_15 rfl (lv_at hl 3 rfl) ?_
            refine lv_iload hx hb d_Led_improve_16 (lv_at hl 0 rfl) ?_
            refine va_csq (va_Run.run (va_runV (As := [.int (nI k)]) (rest := []) ⟨hx, hb, hml, hown, hts⟩ (c_Reg_permission l (N := N) (S := S) (ad := ad) hRk hR) (cwV 1 hts (gW_in (hd := [_, _, _, _, _]) (kk_5 wd_363 wd_264 wd_265 wd_2 cw_Reg_permission)) rfl rfl rfl ⟨rfl, ds_Reg_permission⟩ ⟨Nat.le_of_ble_eq_true rfl, Nat.le_of_ble_eq_true rfl⟩) (kk_preV hK hP hz hBz f3 rfl) rfl rfl hl.1 rfl (lv_room (Nat.le_of_ble_eq_true rfl)) d_Led_improve_18 ⟨Nat.le_of_ble_eq_true rfl, Nat.le_of_ble_eq_true rfl⟩)) (fun r5 hr5 => ?_)
            subst hr5
            refine kk_topv (y := .null) (by rw [re_pm_no hk2 hn (fun q => by have := q.2; omega)]; rfl) ?_
            refine lv_astoreN hx hb d_Led_improve_21 hl (by decide) rfl (fun ls hl => ?_)
            have hl : lv_has ls 8 [(6, .null), (5, .int (nI k)), (4, .int (nI (if dm_flag (dm_upto (lx_f N cn g x) k) l9 = true then 1 else 0))), (0, .ref a), (1, .ref q), (2, .ref m9), (3, .int (nI x))] := hl
            refine lv_aloadN hx hb d_Led_improve_23 (lv_at hl 0 rfl) ?_
            refine lv_ifnullN (tgt := 81) hx hb d_Led_improve_25 (by decide) ?_
            refine lv_iinc (k := 1) (v := nI (k + 1)) hx hb d_Led_improve_81 hl rfl (kk_inc _) (by decide) rfl (fun ls hl => ?_)
            have hl : lv_has ls 8 [(5, .int (nI (k + 1))), (6, .null), (4, .int (nI (if dm_flag (dm_upto (lx_f N cn g x) k) l9 = true then 1 else 0))), (0, .ref a), (1, .ref q), (2, .ref m9), (3, .int (nI x))] := hl
            refine lv_goto (tgt := 6) hx hb d_Led_improve_84 (by decide) ?_
            have e1 := dm_none (f := lx_f N cn g x) (g := l9) (k := k) (if_neg (fun q9 => by have := q9.1.2; omega))
            rw [← e1.2] at hl
            exact ih _ (by omega) (k + 1) so9 w2 _ _ ls rfl hP hz hS (fun j g0 g1 => frw2 j g0 g1) (by rw [e1.1]; exact fw2_0) fw2_1 (by omega) hso9 (lv_sub hl [0, 2, 3, 4, 5, 6] rfl)
          · refine lv_aload_n hx hb d_Led_improve_15 rfl (lv_at hl 3 rfl) ?_
            refine lv_iload hx hb d_Led_improve_16 (lv_at hl 0 rfl) ?_
            refine va_csq (va_Run.run (va_runV (As := [.int (nI k)]) (rest := []) ⟨hx, hb, hml, hown, hts⟩ (c_Reg_permission l (N := N) (S := S) (ad := ad) hRk hR) (cwV 1 hts (gW_in (hd := [_, _, _, _, _]) (kk_5 wd_363 wd_264 wd_265 wd_2 cw_Reg_permission)) rfl rfl rfl ⟨rfl, ds_Reg_permission⟩ ⟨Nat.le_of_ble_eq_true rfl, Nat.le_of_ble_eq_true rfl⟩) (kk_preV hK hP hz hBz f3 rfl) rfl rfl hl.1 rfl (lv_room (Nat.le_of_ble_eq_true rfl)) d_Led_improve_18 ⟨Nat.le_of_ble_eq_true rfl, Nat.le_of_ble_eq_true rfl⟩)) (fun r6 hr6 => ?_)
            subst hr6
            refine kk_topv (y := .null) (by rw [re_pm_no hk2 hn (fun q => by have := q.2; omega)]; rfl) ?_
            refine lv_astoreN hx hb d_Led_improve_21 hl (by decide) rfl (fun ls hl => ?_)
            have hl : lv_has ls 8 [(6, .null), (5, .int (nI k)), (4, .int (nI (if dm_flag (dm_upto (lx_f N cn g x) k) l9 = true then 1 else 0))), (0, .ref a), (1, .ref q), (2, .ref m9), (3, .int (nI x))] := hl
            refine lv_aloadN hx hb d_Led_improve_23 (lv_at hl 0 rfl) ?_
            refine lv_ifnullN (tgt := 81) hx hb d_Led_improve_25 (by decide) ?_
            refine lv_iinc (k := 1) (v := nI (k + 1)) hx hb d_Led_improve_81 hl rfl (kk_inc _) (by decide) rfl (fun ls hl => ?_)
            have hl : lv_has ls 8 [(5, .int (nI (k + 1))), (6, .null), (4, .int (nI (if dm_flag (dm_upto (lx_f N cn g x) k) l9 = true then 1 else 0))), (0, .ref a), (1, .ref q), (2, .ref m9), (3, .int (nI x))] := hl
            refine lv_goto (tgt := 6) hx hb d_Led_improve_84 (by decide) ?_
            have e1 := dm_none (f := lx_f N cn g x) (g := l9) (k := k) (if_neg (fun q9 => by have := q9.1.2; omega))
            rw [← e1.2] at hl
            exact ih _ (by omega) (k + 1) so9 w2 _ _ ls rfl hP hz hS (fun j g0 g1 => frw2 j g0 g1) (by rw [e1.1]; exact fw2_0) fw2_1 (by omega) hso9 (lv_sub hl [0, 2, 3, 4, 5, 6] rfl)
        · by_cases hgn : N 1 k = 0
          · refine lv_aload_n hx hb d_Led_improve_15 rfl (lv_at hl 3 rfl) ?_
            refine lv_iload hx hb d_Led_improve_16 (lv_at hl 0 rfl) ?_
            refine va_csq (va_Run.run (va_runV (As := [.int (nI k)]) (rest := []) ⟨hx, hb, hml, hown, hts⟩ (c_Reg_permission l (N := N) (S := S) (ad := ad) hRk hR) (cwV 1 hts (gW_in (hd := [_, _, _, _, _]) (kk_5 wd_363 wd_264 wd_265 wd_2 cw_Reg_permission)) rfl rfl rfl ⟨rfl, ds_Reg_permission⟩ ⟨Nat.le_of_ble_eq_true rfl, Nat.le_of_ble_eq_true rfl⟩) (kk_preV hK hP hz hBz f3 rfl) rfl rfl hl.1 rfl (lv_room (Nat.le_of_ble_eq_true rfl)) d_Led_improve_18 ⟨Nat.le_of_ble_eq_true rfl, Nat.le_of_ble_eq_true rfl⟩)) (fun r7 hr7 => ?_)
            subst hr7
            refine kk_topv (y := .ref (ad k)) (by rw [re_pm_in hk2 hn hgn h2]; rfl) ?_
            refine lv_astore hx hb d_Led_improve_21 hl (by decide) rfl (fun ls hl => ?_)
            have hl : lv_has ls 8 [(6, .ref (ad k)), (5, .int (nI k)), (4, .int (nI (if dm_flag (dm_upto (lx_f N cn g x) k) l9 = true then 1 else 0))), (0, .ref a), (1, .ref q), (2, .ref m9), (3, .int (nI x))] := hl
            refine lv_aload hx hb d_Led_improve_23 (lv_at hl 0 rfl) ?_
            refine lv_ifnull hx hb d_Led_improve_25 ?_
            refine lv_aload_n hx hb d_Led_improve_28 rfl (lv_at hl 3 rfl) ?_
            have f8 := (frw2 _ (by omega) (by omega)).trans (h_0)
            refine mm_get (D := D) (C := n_Led) (T := T_Led) (N := 3) (v := .ref (a + 1)) hx hb hts lay_Led hown hK.1 hP f8 rfl 0 (by decide) (hts _ (List.mem_cons_of_mem _ wd_58)) (fun _ h9 => h9) rfl d_Led_improve_29 ?_
            refine lv_iload hx hb d_Led_improve_32 (lv_at hl 1 rfl) ?_
            have f9 := (frw2 _ (by omega) (by omega)).trans (h_1)
            refine mm_zald hx hb hK.1 hP 1 f9 rfl k rfl (by omega) (by decide) d_Led_improve_34 ?_
            refine W.eq (g2 := F0 m 35 ls [.int (nI (cn k))]) rfl ?_
            have hck := hcn k
            refine lv_if_ne (tgt := 41) hx hb d_Led_improve_35 (by decide) (fun cc10 => ?_) (fun cc10 => ?_)
            · rw [← nI_0] at cc10
              have cc10 : ¬ (cn k = 0) := fun q => cc10 ((nI_eq (by omega) (by omega)).mpr q)
              refine lv_aload_n hx hb d_Led_improve_41 rfl (lv_at hl 3 rfl) ?_
              refine lv_aload_n hx hb d_Led_improve_42 rfl (lv_at hl 5 rfl) ?_
              refine lv_aload hx hb d_Led_improve_43 (lv_at hl 0 rfl) ?_
              refine lv_iload_n hx hb d_Led_improve_45 rfl (lv_at hl 6 rfl) ?_
              have hsu := ce_sub_lt hRj.2.2.2.2.2.1
              have f11 := (frw2 _ (by omega) (by omega)).trans (h_4)
              have f12 := (frw2 _ (by omega) (by omega)).trans (h_5)
              refine kk_calli (va_runV (As := [.ref m9, .ref (ad k), .int (nI x)]) (rest := []) ⟨hx, hb, hml, hown, hts⟩ (c_Led_byCertificate l f8 fw2_0 fw2_1 f11 f12 hp1 hp3 (by omega) (by omega) (by omega) (by omega) (by omega) (by omega) hsu hg hlk hso9 (by omega) (by omega) (by omega)) (cwV 3 hts (gW_in (hd := [_, _, _, _, _]) (kk_5 wd_379 wd_381 sl_Led_byCertificate wd_4 cw_Led_byCertificate)) rfl rfl rfl ⟨rfl, ds_Led_byCertificate⟩ ⟨Nat.le_of_ble_eq_true rfl, Nat.le_of_ble_eq_true rfl⟩) (kk_preV hK hP hz hBz f8 rfl) rfl rfl hl.1 rfl (lv_room (Nat.le_of_ble_eq_true rfl)) d_Led_improve_46 ⟨Nat.le_of_ble_eq_true rfl, Nat.le_of_ble_eq_true rfl⟩) hS (fun r13 w13 sz13 H locs hp13 hP hz hS => ?_)
              obtain ⟨hr13, he13, hs13⟩ := hp13
              subst hr13
              have hz : H.size = sz := hz.trans hs13
              have hw14 : w13 = mm_up w2 (a + 3) (.inl (cI, 3, .inl (fun i => nI ((dm_srt (bc_c (N 13 k) (ce_sub N k) g (dm_pass (dm_upto (lx_f N cn g x) k) l9) x) so9 (N 8 k)) i)))) := he13
              have fr14 : ∀ j, j ≠ a + 3 → w13 j = w2 j := fun j h90 => by rw [hw14]; exact mm_un h90
              have fa14_0 : w13 (a + 3) = some (.inl (cI, 3, .inl (fun i => nI ((dm_srt (bc_c (N 13 k) (ce_sub N k) g (dm_pass (dm_upto (lx_f N cn g x) k) l9) x) so9 (N 8 k)) i)))) := by rw [hw14]; exact mm_us _ _ _
              refine kk_top (y := nI (ld_v N g x k (dm_pass (dm_upto (lx_f N cn g x) k) l9))) (congrArg nI (ld_v_srt hg (by omega) (by omega) (by omega) (by omega))) ?_
              refine lv_istore hx hb d_Led_improve_49 hl (by decide) rfl (fun ls hl => ?_)
              have hl : lv_has ls 8 [(7, .int (nI (ld_v N g x k (dm_pass (dm_upto (lx_f N cn g x) k) l9)))), (6, .ref (ad k)), (5, .int (nI k)), (4, .int (nI (if dm_flag (dm_upto (lx_f N cn g x) k) l9 = true then 1 else 0))), (0, .ref a), (1, .ref q), (2, .ref m9), (3, .int (nI x))] := hl
              refine lv_iload hx hb d_Led_improve_51 (lv_at hl 0 rfl) ?_
              refine lv_aload_n hx hb d_Led_improve_53 rfl (lv_at hl 4 rfl) ?_
              have f15 := (fr14 _ (by omega)).trans (f8)
              refine mm_get (D := D) (C := n_Led) (T := T_Led) (N := 3) (v := .ref (a + 2)) hx hb hts lay_Led hown hK.1 hP f15 rfl 1 (by decide) (hts _ (List.mem_cons_of_mem _ wd_59)) (fun _ h9 => h9) rfl d_Led_improve_54 ?_
              refine lv_aload hx hb d_Led_improve_57 (lv_at hl 1 rfl) ?_
              have f16 := (fr14 _ (by omega)).trans (hp1)
              refine mm_get (D := D) (C := n_Prm) (T := T_Prm) (N := 8) (v := .int (nI (N 3 k))) hx hb hts lay_Prm hown hK.1 hP f16 rfl 0 (by decide) (hts _ (List.mem_cons_of_mem _ wd_186)) (fun x9 h9 => u_same (hts _ (List.mem_cons_of_mem _ wd_187)) x9 h9) rfl d_Led_improve_59 ?_
              have f17 := (fr14 _ (by omega)).trans (fw2_0)
              refine mm_iald hx hb hK.1 hP 0 f17 rfl (N 3 k) rfl (by omega) (by decide) d_Led_improve_62 ?_
              refine W.eq (g2 := F0 m 63 ls [.int (nI ((dm_pass (dm_upto (lx_f N cn g x) k) l9) (N 3 k))), .int (nI (ld_v N g x k (dm_pass (dm_upto (lx_f N cn g x) k) l9)))]) rfl ?_
              have hq2 := ld_v_le N g x k (dm_pass (dm_upto (lx_f N cn g x) k) l9)
              have hq3 := hlk (N 3 k)
              refine lv_icmp_ge (tgt := 81) hx hb d_Led_improve_63 (by decide) (fun cc18 => ?_) (fun cc18 => ?_)
              · have cc18 : (dm_pass (dm_upto (lx_f N cn g x) k) l9) (N 3 k) ≤ ld_v N g x k (dm_pass (dm_upto (lx_f N cn g x) k) l9) := (nI_leI (by omega) (by omega)).mp cc18
                have e1 := dm_one_f (f := lx_f N cn g x) (g := l9) (k := k) (t := N 3 k) (F := fun l => ld_v N g x k l) (if_pos ⟨⟨hgn, h2⟩, by omega⟩) (Nat.not_lt.mpr cc18)
                rw [← e1.2] at hl
                refine lv_iinc (k := 2) (v := nI (k + 1)) hx hb d_Led_improve_81 hl rfl (kk_inc _) (by decide) rfl (fun ls hl => ?_)
                have hl : lv_has ls 8 [(5, .int (nI (k + 1))), (7, .int (nI (ld_v N g x k (dm_pass (dm_upto (lx_f N cn g x) k) l9)))), (6, .ref (ad k)), (4, .int (nI (if dm_flag (dm_upto (lx_f N cn g x) (k + 1)) l9 = true then 1 else 0))), (0, .ref a), (1, .ref q), (2, .ref m9), (3, .int (nI x))] := hl
                refine lv_goto (tgt := 6) hx hb d_Led_improve_84 (by decide) ?_
                exact ih _ (by omega) (k + 1) (dm_srt (bc_c (N 13 k) (ce_sub N k) g (dm_pass (dm_upto (lx_f N cn g x) k) l9) x) so9 (N 8 k)) w13 _ _ ls rfl hP hz hS (fun j g0 g1 => (fr14 j g1).trans (frw2 j g0 g1)) (by rw [e1.1]; exact f17) fa14_0 (by omega) (dm_srt_le (bc_le hg) hso9 _) (lv_sub hl [0, 3, 4, 5, 6, 7] rfl)
              · have cc18 : ¬ ((dm_pass (dm_upto (lx_f N cn g x) k) l9) (N 3 k) ≤ ld_v N g x k (dm_pass (dm_upto (lx_f N cn g x) k) l9)) := fun q => cc18 ((nI_leI (by omega) (by omega)).mpr q)
                have e1 := dm_one_t (f := lx_f N cn g x) (g := l9) (k := k) (t := N 3 k) (F := fun l => ld_v N g x k l) (if_pos ⟨⟨hgn, h2⟩, by omega⟩) (Nat.lt_of_not_le cc18)
                refine lv_aload_n hx hb d_Led_improve_66 rfl (lv_at hl 4 rfl) ?_
                refine mm_get (D := D) (C := n_Led) (T := T_Led) (N := 3) (v := .ref (a + 2)) hx hb hts lay_Led hown hK.1 hP f15 rfl 1 (by decide) (hts _ (List.mem_cons_of_mem _ wd_59)) (fun _ h9 => h9) rfl d_Led_improve_67 ?_
                refine lv_aload hx hb d_Led_improve_70 (lv_at hl 1 rfl) ?_
                refine mm_get (D := D) (C := n_Prm) (T := T_Prm) (N := 8) (v := .int (nI (N 3 k))) hx hb hts lay_Prm hown hK.1 hP f16 rfl 0 (by decide) (hts _ (List.mem_cons_of_mem _ wd_186)) (fun x9 h9 => u_same (hts _ (List.mem_cons_of_mem _ wd_187)) x9 h9) rfl d_Led_improve_72 ?_
                refine lv_iload hx hb d_Led_improve_75 (lv_at hl 0 rfl) ?_
                refine mm_iast hx hb hK.1 hP hS 0 f17 rfl (N 3 k) rfl (by omega) (by decide) d_Led_improve_77 (fun H locs hP hz1 hS => ?_)
                rw [show upd (fun i => nI ((dm_pass (dm_upto (lx_f N cn g x) k) l9) i)) (N 3 k) (nI (ld_v N g x k (dm_pass (dm_upto (lx_f N cn g x) k) l9))) = fun i => nI ((va_up (dm_pass (dm_upto (lx_f N cn g x) k) l9) (N 3 k) (ld_v N g x k (dm_pass (dm_upto (lx_f N cn g x) k) l9))) i) from kk_upn _ _ _] at hP
                have hz : H.size = sz := hz1.trans hz
                obtain ⟨w19, hw19⟩ : ∃ z : mm_M, z = mm_up w13 (a + 2) (.inl (cI, 9, .inl (fun i => nI ((va_up (dm_pass (dm_upto (lx_f N cn g x) k) l9) (N 3 k) (ld_v N g x k (dm_pass (dm_upto (lx_f N cn g x) k) l9))) i)))) := ⟨_, rfl⟩
                have hP : mm_P B D kc w19 H := by rw [hw19]; exact hP
                have fr19 : ∀ j, j ≠ a + 2 → w19 j = w13 j := fun j h9 => by rw [hw19]; exact mm_un h9
                have fa19 : w19 (a + 2) = some (.inl (cI, 9, .inl (fun i => nI ((va_up (dm_pass (dm_upto (lx_f N cn g x) k) l9) (N 3 k) (ld_v N g x k (dm_pass (dm_upto (lx_f N cn g x) k) l9))) i)))) := by rw [hw19]; exact mm_us _ _ _
                refine lv_iconst (v := nI 1) hx hb d_Led_improve_78 (by decide) ?_
                refine kk_top (y := nI (if dm_flag (dm_upto (lx_f N cn g x) (k + 1)) l9 = true then 1 else 0)) (kk_ift e1.2) ?_
                refine lv_istore hx hb d_Led_improve_79 hl (by decide) rfl (fun ls hl => ?_)
                have hl : lv_has ls 8 [(4, .int (nI (if dm_flag (dm_upto (lx_f N cn g x) (k + 1)) l9 = true then 1 else 0))), (7, .int (nI (ld_v N g x k (dm_pass (dm_upto (lx_f N cn g x) k) l9)))), (6, .ref (ad k)), (5, .int (nI k)), (0, .ref a), (1, .ref q), (2, .ref m9), (3, .int (nI x))] := hl
                refine lv_iinc (k := 3) (v := nI (k + 1)) hx hb d_Led_improve_81 hl rfl (kk_inc _) (by decide) rfl (fun ls hl => ?_)
                have hl : lv_has ls 8 [(5, .int (nI (k + 1))), (4, .int (nI (if dm_flag (dm_upto (lx_f N cn g x) (k + 1)) l9 = true then 1 else 0))), (7, .int (nI (ld_v N g x k (dm_pass (dm_upto (lx_f N cn g x) k) l9)))), (6, .ref (ad k)), (0, .ref a), (1, .ref q), (2, .ref m9), (3, .int (nI x))] := hl
                refine lv_goto (tgt := 6) hx hb d_Led_improve_84 (by decide) ?_
                exact ih _ (by omega) (k + 1) (dm_srt (bc_c (N 13 k) (ce_sub N k) g (dm_pass (dm_upto (lx_f N cn g x) k) l9) x) so9 (N 8 k)) w19 _ _ ls rfl hP hz hS (fun j g0 g1 => (fr19 j g0).trans ((fr14 j g1).trans (frw2 j g0 g1))) (by rw [e1.1]; exact fa19) ((fr19 _ (by omega)).trans (fa14_0)) (by omega) (dm_srt_le (bc_le hg) hso9 _) (lv_sub hl [0, 1, 4, 5, 6, 7] rfl)
            · rw [← nI_0] at cc10
              have cc10 : cn k = 0 := (nI_eq (by omega) (by omega)).mp cc10
              refine lv_goto (tgt := 81) hx hb d_Led_improve_38 (by decide) ?_
              refine lv_iinc (k := 1) (v := nI (k + 1)) hx hb d_Led_improve_81 hl rfl (kk_inc _) (by decide) rfl (fun ls hl => ?_)
              have hl : lv_has ls 8 [(5, .int (nI (k + 1))), (6, .ref (ad k)), (4, .int (nI (if dm_flag (dm_upto (lx_f N cn g x) k) l9 = true then 1 else 0))), (0, .ref a), (1, .ref q), (2, .ref m9), (3, .int (nI x))] := hl
              refine lv_goto (tgt := 6) hx hb d_Led_improve_84 (by decide) ?_
              have e1 := dm_none (f := lx_f N cn g x) (g := l9) (k := k) (if_neg (fun q9 => by have := q9.2; omega))
              rw [← e1.2] at hl
              exact ih _ (by omega) (k + 1) so9 w2 _ _ ls rfl hP hz hS (fun j g0 g1 => frw2 j g0 g1) (by rw [e1.1]; exact fw2_0) fw2_1 (by omega) hso9 (lv_sub hl [0, 2, 3, 4, 5, 6] rfl)
          · refine lv_aload_n hx hb d_Led_improve_15 rfl (lv_at hl 3 rfl) ?_
            refine lv_iload hx hb d_Led_improve_16 (lv_at hl 0 rfl) ?_
            refine va_csq (va_Run.run (va_runV (As := [.int (nI k)]) (rest := []) ⟨hx, hb, hml, hown, hts⟩ (c_Reg_permission l (N := N) (S := S) (ad := ad) hRk hR) (cwV 1 hts (gW_in (hd := [_, _, _, _, _]) (kk_5 wd_363 wd_264 wd_265 wd_2 cw_Reg_permission)) rfl rfl rfl ⟨rfl, ds_Reg_permission⟩ ⟨Nat.le_of_ble_eq_true rfl, Nat.le_of_ble_eq_true rfl⟩) (kk_preV hK hP hz hBz f3 rfl) rfl rfl hl.1 rfl (lv_room (Nat.le_of_ble_eq_true rfl)) d_Led_improve_18 ⟨Nat.le_of_ble_eq_true rfl, Nat.le_of_ble_eq_true rfl⟩)) (fun r20 hr20 => ?_)
            subst hr20
            refine kk_topv (y := .null) (by rw [re_pm_no hk2 hn (fun q => hgn q.1)]; rfl) ?_
            refine lv_astoreN hx hb d_Led_improve_21 hl (by decide) rfl (fun ls hl => ?_)
            have hl : lv_has ls 8 [(6, .null), (5, .int (nI k)), (4, .int (nI (if dm_flag (dm_upto (lx_f N cn g x) k) l9 = true then 1 else 0))), (0, .ref a), (1, .ref q), (2, .ref m9), (3, .int (nI x))] := hl
            refine lv_aloadN hx hb d_Led_improve_23 (lv_at hl 0 rfl) ?_
            refine lv_ifnullN (tgt := 81) hx hb d_Led_improve_25 (by decide) ?_
            refine lv_iinc (k := 1) (v := nI (k + 1)) hx hb d_Led_improve_81 hl rfl (kk_inc _) (by decide) rfl (fun ls hl => ?_)
            have hl : lv_has ls 8 [(5, .int (nI (k + 1))), (6, .null), (4, .int (nI (if dm_flag (dm_upto (lx_f N cn g x) k) l9 = true then 1 else 0))), (0, .ref a), (1, .ref q), (2, .ref m9), (3, .int (nI x))] := hl
            refine lv_goto (tgt := 6) hx hb d_Led_improve_84 (by decide) ?_
            have e1 := dm_none (f := lx_f N cn g x) (g := l9) (k := k) (if_neg (fun q9 => hgn q9.1.1))
            rw [← e1.2] at hl
            exact ih _ (by omega) (k + 1) so9 w2 _ _ ls rfl hP hz hS (fun j g0 g1 => frw2 j g0 g1) (by rw [e1.1]; exact fw2_0) fw2_1 (by omega) hso9 (lv_sub hl [0, 2, 3, 4, 5, 6] rfl)
  exact lp1 _ 0 so w _ _ _ rfl hP hz hS (fun _ _ _ => rfl) h_2 h_3 (by omega) hso (lv_sub hl [0, 1, 2, 3, 4, 5] rfl)
