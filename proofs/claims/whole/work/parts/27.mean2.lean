theorem d_Mea_improve_0 : decode k_Mea_improve 0 = .ok (.iconst 0, 1) := by decide +kernel
theorem d_Mea_improve_1 : decode k_Mea_improve 1 = .ok (.istore_n 3, 1) := by decide +kernel
theorem d_Mea_improve_2 : decode k_Mea_improve 2 = .ok (.iconst 0, 1) := by decide +kernel
theorem d_Mea_improve_3 : decode k_Mea_improve 3 = .ok (.istore 4, 2) := by decide +kernel
theorem d_Mea_improve_5 : decode k_Mea_improve 5 = .ok (.iload 4, 2) := by decide +kernel
theorem d_Mea_improve_7 : decode k_Mea_improve 7 = .ok (.aload_n 1, 1) := by decide +kernel
theorem d_Mea_improve_8 : decode k_Mea_improve 8 = .ok (.getfield 25, 3) := by decide +kernel
theorem d_Mea_improve_11 : decode k_Mea_improve 11 = .ok (.if_icmp .ge 53, 3) := by decide +kernel
theorem d_Mea_improve_14 : decode k_Mea_improve 14 = .ok (.aload_n 1, 1) := by decide +kernel
theorem d_Mea_improve_15 : decode k_Mea_improve 15 = .ok (.iload 4, 2) := by decide +kernel
theorem d_Mea_improve_17 : decode k_Mea_improve 17 = .ok (.invokevirtual 31, 3) := by decide +kernel
theorem d_Mea_improve_20 : decode k_Mea_improve 20 = .ok (.astore 6, 2) := by decide +kernel
theorem d_Mea_improve_22 : decode k_Mea_improve 22 = .ok (.aload 6, 2) := by decide +kernel
theorem d_Mea_improve_24 : decode k_Mea_improve 24 = .ok (.instanceof 35, 3) := by decide +kernel
theorem d_Mea_improve_27 : decode k_Mea_improve 27 = .ok (.ifCond .eq 31, 3) := by decide +kernel
theorem d_Mea_improve_30 : decode k_Mea_improve 30 = .ok (.aload 6, 2) := by decide +kernel
theorem d_Mea_improve_32 : decode k_Mea_improve 32 = .ok (.checkcast 35, 3) := by decide +kernel
theorem d_Mea_improve_35 : decode k_Mea_improve 35 = .ok (.astore 5, 2) := by decide +kernel
theorem d_Mea_improve_37 : decode k_Mea_improve 37 = .ok (.aload 5, 2) := by decide +kernel
theorem d_Mea_improve_39 : decode k_Mea_improve 39 = .ok (.getfield 37, 3) := by decide +kernel
theorem d_Mea_improve_42 : decode k_Mea_improve 42 = .ok (.iload_n 2, 1) := by decide +kernel
theorem d_Mea_improve_43 : decode k_Mea_improve 43 = .ok (.invokevirtual 41, 3) := by decide +kernel
theorem d_Mea_improve_46 : decode k_Mea_improve 46 = .ok (.ifCond .eq 12, 3) := by decide +kernel
theorem d_Mea_improve_49 : decode k_Mea_improve 49 = .ok (.iload_n 3, 1) := by decide +kernel
theorem d_Mea_improve_50 : decode k_Mea_improve 50 = .ok (.aload_n 0, 1) := by decide +kernel
theorem d_Mea_improve_51 : decode k_Mea_improve 51 = .ok (.aload 5, 2) := by decide +kernel
theorem d_Mea_improve_53 : decode k_Mea_improve 53 = .ok (.invokevirtual 47, 3) := by decide +kernel
theorem d_Mea_improve_56 : decode k_Mea_improve 56 = .ok (.ior, 1) := by decide +kernel
theorem d_Mea_improve_57 : decode k_Mea_improve 57 = .ok (.istore_n 3, 1) := by decide +kernel
theorem d_Mea_improve_58 : decode k_Mea_improve 58 = .ok (.iinc 4 1, 3) := by decide +kernel
theorem d_Mea_improve_61 : decode k_Mea_improve 61 = .ok (.goto (-56), 3) := by decide +kernel
theorem d_Mea_improve_64 : decode k_Mea_improve 64 = .ok (.iload_n 3, 1) := by decide +kernel
theorem d_Mea_improve_65 : decode k_Mea_improve 65 = .ok (.ireturn, 1) := by decide +kernel
set_option maxHeartbeats 4000000 in
set_option maxRecDepth 100000 in
theorem c_Mea_improve (l : Launch) {B : Nat} {D : va_G} {cI cZ cQ : ClassId} {w : mm_M} {sz : Nat} {a q : Nat} {t : Int32} {g : Nat → Nat} {N : Nat → Nat → Nat} {S : Nat → Nat → Int32} {ad : Nat → Nat} (h_0 : w a = some (.inr (2, [.ref (a + 1)]))) (h_1 : w (a + 1) = some (.inl (cI, 256, .inl (fun i => nI (g i))))) (hRe : re_I q cI cQ N S ad w) (hR : rg_I N) (hg : ∀ j, g j ≤ 1000) (hq : q + 2 ≤ a) (had : ∀ j, j < N 0 0 → a + 2 ≤ ad j) : Met l y_Mea_improve ws_Mea_improve (kk_rm 3 0 0) (kk_Pc B D cI cZ cQ [.ref a, .ref q, .int t] w sz) (kk_Qi B D (fun r w' sz' => r = nI (if dm_flag (ru_M N S t) g = true then 1 else 0) ∧ w' = mm_up w (a + 1) (.inl (cI, 256, .inl (fun i => nI ((dm_pass (ru_M N S t) g) i)))) ∧ sz' = sz)) 0 0 (fun q => B ≤ q) := by
  refine Met.ofW (cc := k_Mea_improve) (maxL := 7) (ret := (some .boolean)) (by decide) rfl ?_
  intro p e s m args below meth c s₁ BB hml hv
  obtain ⟨rfl, hK, hP, hz, hBz⟩ := hv
  have hx := BB.exec
  have hb := BB.bytes
  have hr := BB.returns
  have hts := atoms_spec (ws := ws_Mea_improve) BB.pre
  have hown : s.vm.findClass "DelegationClosure$Meanings" = some m.cls := findClass_of_methodNamed BB.named
  have hlocks := BB.notSynchronized
  have hS : mm_S B s.heap s.heap [] := va_S.rf
  have hl := lv_entry ([.ref a, .ref q, .int t]) (n := 7) (Nat.le_of_ble_eq_true rfl)
  rw [lg_entry_eq]
  generalize (lg_sl ([.ref a, .ref q, .int t]) ++ List.replicate (7 - (lg_sl ([.ref a, .ref q, .int t])).length) Slot.unset).toArray = ls at hl ⊢
  have hl : lv_has ls 7 [(0, .ref a), (1, .ref q), (2, .int t)] := hl
  have hn := hRe.2.2.1
  refine lv_iconst (v := nI 0) hx hb d_Mea_improve_0 (by decide) ?_
  refine lv_istore_n hx hb d_Mea_improve_1 rfl hl (by decide) rfl (fun ls hl => ?_)
  have hl : lv_has ls 7 [(3, .int (nI 0)), (0, .ref a), (1, .ref q), (2, .int t)] := hl
  refine lv_iconst (v := nI 0) hx hb d_Mea_improve_2 (by decide) ?_
  refine lv_istore hx hb d_Mea_improve_3 hl (by decide) rfl (fun ls hl => ?_)
  have hl : lv_has ls 7 [(4, .int (nI 0)), (3, .int (nI 0)), (0, .ref a), (1, .ref q), (2, .int t)] := hl
  have lp1 : ∀ (d : Nat) (k : Nat) (w2 : mm_M) (H : Heap) (locs : List Loc) (ls : Array Slot), d = N 0 0 - k → (mm_P B D kc w2 H) → (H.size = sz) → (mm_S B s.heap H locs) → (∀ j, j ≠ a + 1 → w2 j = w j) → (w2 (a + 1) = some (.inl (cI, 256, .inl (fun i => nI ((dm_pass (dm_upto (ru_m N S t) k) g) i))))) → (k ≤ N 0 0) → lv_has ls 7 [(4, .int (nI k)), (3, .int (nI (if dm_flag (dm_upto (ru_m N S t) k) g = true then 1 else 0))), (0, .ref a), (1, .ref q), (2, .int t)] → W p l e (headSpec ws_Mea_improve (kk_rm 3 0 0)).room s m ([.ref a, .ref q, .int t]).toArray below meth c H locs 0 0 (MQ below (kk_Qi B D (fun r w' sz' => r = nI (if dm_flag (ru_M N S t) g = true then 1 else 0) ∧ w' = mm_up w (a + 1) (.inl (cI, 256, .inl (fun i => nI ((dm_pass (ru_M N S t) g) i)))) ∧ sz' = sz)) ([.ref a, .ref q, .int t]).toArray s 0 0 (fun q => B ≤ q)) (F0 m 5 ls []) := by
    intro d
    induction d using Nat.strongRecOn with
    | ind d ih =>
      intro k w2 H locs ls hd hP hz hS frw2 fw2_0 hk hl
      have hgk := dm_pass_1000 (R := dm_upto (ru_m N S t) k) hg
      refine lv_iload hx hb d_Mea_improve_5 (lv_at hl 0 rfl) ?_
      refine lv_aload_n hx hb d_Mea_improve_7 rfl (lv_at hl 3 rfl) ?_
      have f3 := (frw2 _ (by omega)).trans (hRe.1)
      refine mm_getN (D := D) (C := n_Reg) (T := T_Reg) (N := 2) (v := .int (nI (N 0 0))) hx hb hts lay_Reg hown hK.1 hP f3 rfl 1 (by decide) (hK.2.1 _ nw_34 rfl) (fun _ h9 => h9) rfl d_Mea_improve_8 ?_
      refine lv_icmp_ge (tgt := 64) hx hb d_Mea_improve_11 (by decide) (fun cc4 => ?_) (fun cc4 => ?_)
      · have cc4 : N 0 0 ≤ k := (nI_leI (by omega) (by omega)).mp cc4
        obtain rfl : k = N 0 0 := by omega
        refine lv_iload_n hx hb d_Mea_improve_64 rfl (lv_at hl 1 rfl) ?_
        exact W.zret hx hb hr (kk_nar _) (fun t ht hW => ⟨⟨_, (w2, sz), rfl, ⟨rfl, mm_e1 fw2_0 (fun j g0 => frw2 j g0), rfl⟩, by rw [ht]; exact hP, by rw [ht]; exact hz⟩, hS.F ht⟩) hS.2.2 d_Mea_improve_65
      · have cc4 : ¬ (N 0 0 ≤ k) := fun q => cc4 ((nI_leI (by omega) (by omega)).mpr q)
        have hk2 : k < N 0 0 := by omega
        have hRk := hRe.keep (fun i9 hi9 => frw2 i9 (by rcases hi9 with h | h | ⟨c9, h, h8, h7⟩ <;> (try have := had c9 h) <;> omega))
        have hRj := hR k hk2
        have hdk := had k hk2
        have hsk : wf_subn (N 7 (3 * k)) := hRj.2.2.2.2.2.1 0 (by omega)
        rcases hRk.2.2.2 k hk2 with ⟨h2, hn1, hn2⟩ | ⟨h2, hp1, hp2, hp3, hp4, hp5⟩
        · by_cases hgn : N 1 k = 0
          · refine lv_aload_n hx hb d_Mea_improve_14 rfl (lv_at hl 3 rfl) ?_
            refine lv_iload hx hb d_Mea_improve_15 (lv_at hl 0 rfl) ?_
            refine va_csq (va_Run.run (va_runV (As := [.int (nI k)]) (rest := []) ⟨hx, hb, hml, hown, hts⟩ (c_Reg_standing l (N := N) (S := S) (ad := ad) hRk hR) (cwV 1 hts (gW_in (hd := [_, _, _, _, _]) (kk_5 wd_316 wd_268 wd_269 wd_2 cw_Reg_standing)) rfl rfl rfl ⟨rfl, ds_Reg_standing⟩ ⟨Nat.le_of_ble_eq_true rfl, Nat.le_of_ble_eq_true rfl⟩) (kk_preV hK hP hz hBz f3 rfl) rfl rfl hl.1 rfl (lv_room (Nat.le_of_ble_eq_true rfl)) d_Mea_improve_17 ⟨Nat.le_of_ble_eq_true rfl, Nat.le_of_ble_eq_true rfl⟩)) (fun r5 hr5 => ?_)
            subst hr5
            refine kk_topv (y := .ref (ad k)) (by rw [re_st_in hk2 hn hgn]; rfl) ?_
            refine lv_astore hx hb d_Mea_improve_20 hl (by decide) rfl (fun ls hl => ?_)
            have hl : lv_has ls 7 [(6, .ref (ad k)), (4, .int (nI k)), (3, .int (nI (if dm_flag (dm_upto (ru_m N S t) k) g = true then 1 else 0))), (0, .ref a), (1, .ref q), (2, .int t)] := hl
            refine lv_aload hx hb d_Mea_improve_22 (lv_at hl 0 rfl) ?_
            refine va_instS hx hb hown (hts _ (List.mem_cons_of_mem _ wd_317)) (hK.1.1 7 _ rfl).2 (mm_recv hK.1 hP hn1 rfl) d_Mea_improve_24 ?_
            refine lv_if_eq (tgt := 58) hx hb d_Mea_improve_27 (by decide) (fun cc6 => ?_) (fun cc6 => ?_)
            · exact absurd cc6 (by decide)
            · refine lv_aload hx hb d_Mea_improve_30 (lv_at hl 0 rfl) ?_
              refine va_castS hx hb hown (hts _ (List.mem_cons_of_mem _ wd_317)) (hK.1.1 7 _ rfl).2 (mm_recv hK.1 hP hn1 rfl) d_Mea_improve_32 ?_
              refine lv_astore hx hb d_Mea_improve_35 hl (by decide) rfl (fun ls hl => ?_)
              have hl : lv_has ls 7 [(5, .ref (ad k)), (6, .ref (ad k)), (4, .int (nI k)), (3, .int (nI (if dm_flag (dm_upto (ru_m N S t) k) g = true then 1 else 0))), (0, .ref a), (1, .ref q), (2, .int t)] := hl
              refine lv_aload hx hb d_Mea_improve_37 (lv_at hl 0 rfl) ?_
              refine mm_get (D := D) (C := n_Nam) (T := T_Nam) (N := 5) (v := .ref (ad k + 1)) hx hb hts lay_Nam hown hK.1 hP hn1 rfl 1 (by decide) (hts _ (List.mem_cons_of_mem _ wd_194)) (fun x9 h9 => u_same (hts _ (List.mem_cons_of_mem _ wd_195)) x9 h9) rfl d_Mea_improve_39 ?_
              refine lv_iload_n hx hb d_Mea_improve_42 rfl (lv_at hl 6 rfl) ?_
              refine vp_callSi (va_Run.run (va_runV (As := [.int t]) (rest := []) ⟨hx, hb, hml, hown, hts⟩ (c_Spn_contains l hn2) (cwV 1 hts (gW_in (hd := [_, _, _, _, _]) (kk_5 wd_318 wd_319 wd_320 wd_7 cw_Spn_contains)) rfl rfl rfl ⟨rfl, ds_Spn_contains⟩ ⟨Nat.le_of_ble_eq_true rfl, Nat.le_of_ble_eq_true rfl⟩) (kk_preV hK hP hz hBz hn2 rfl) rfl rfl hl.1 rfl (lv_room (Nat.le_of_ble_eq_true rfl)) d_Mea_improve_43 ⟨Nat.le_of_ble_eq_true rfl, Nat.le_of_ble_eq_true rfl⟩)) (fun r7 hr7 => ?_)
              subst hr7
              refine lv_if_eq (tgt := 58) hx hb d_Mea_improve_46 (by decide) (fun cc8 => ?_) (fun cc8 => ?_)
              · have cc8 := kk_b0 cc8
                refine lv_iinc (k := 2) (v := nI (k + 1)) hx hb d_Mea_improve_58 hl rfl (kk_inc _) (by decide) rfl (fun ls hl => ?_)
                have hl : lv_has ls 7 [(4, .int (nI (k + 1))), (5, .ref (ad k)), (6, .ref (ad k)), (3, .int (nI (if dm_flag (dm_upto (ru_m N S t) k) g = true then 1 else 0))), (0, .ref a), (1, .ref q), (2, .int t)] := hl
                refine lv_goto (tgt := 5) hx hb d_Mea_improve_61 (by decide) ?_
                have e1 := dm_none (f := ru_m N S t) (g := g) (k := k) (if_neg (fun q => cc8 q.2.2))
                rw [← e1.2] at hl
                exact ih _ (by omega) (k + 1) w2 _ _ ls rfl hP hz hS (fun j g0 => frw2 j g0) (by rw [e1.1]; exact fw2_0) (by omega) (lv_sub hl [0, 3, 4, 5, 6] rfl)
              · have cc8 := kk_b1 cc8
                refine lv_iload_n hx hb d_Mea_improve_49 rfl (lv_at hl 3 rfl) ?_
                refine lv_aload_n hx hb d_Mea_improve_50 rfl (lv_at hl 4 rfl) ?_
                refine lv_aload hx hb d_Mea_improve_51 (lv_at hl 0 rfl) ?_
                have f9 := (frw2 _ (by omega)).trans (h_0)
                refine kk_calli (va_runV (As := [.ref (ad k)]) (rest := [.int (nI (if dm_flag (dm_upto (ru_m N S t) k) g = true then 1 else 0))]) ⟨hx, hb, hml, hown, hts⟩ (c_Mea_improveBy l f9 fw2_0 hn1 (by omega) (by omega) (by omega) hgk (by omega) (by omega)) (cwV 1 hts (gW_in (hd := [_, _, _, _, _]) (kk_5 wd_322 wd_324 sl_Mea_improveBy wd_3 cw_Mea_improveBy)) rfl rfl rfl ⟨rfl, ds_Mea_improveBy⟩ ⟨Nat.le_of_ble_eq_true rfl, Nat.le_of_ble_eq_true rfl⟩) (kk_preV hK hP hz hBz f9 rfl) rfl rfl hl.1 rfl (lv_room (Nat.le_of_ble_eq_true rfl)) d_Mea_improve_53 ⟨Nat.le_of_ble_eq_true rfl, Nat.le_of_ble_eq_true rfl⟩) hS (fun r10 w10 sz10 H locs hp10 hP hz hS => ?_)
                obtain ⟨hr10, he10, hs10⟩ := hp10
                subst hr10
                have hz : H.size = sz := hz.trans hs10
                have hw11 : w10 = mm_up w2 (a + 1) (.inl (cI, 256, .inl (fun i => nI ((dm_pass (dm_upto (ru_n (N 3 k) (N 4 k) (N 7 (3 * k))) 8) (dm_pass (dm_upto (ru_m N S t) k) g)) i)))) := he10
                have fr11 : ∀ j, j ≠ a + 1 → w10 j = w2 j := fun j h90 => by rw [hw11]; exact mm_un h90
                have fa11_0 : w10 (a + 1) = some (.inl (cI, 256, .inl (fun i => nI ((dm_pass (dm_upto (ru_n (N 3 k) (N 4 k) (N 7 (3 * k))) 8) (dm_pass (dm_upto (ru_m N S t) k) g)) i)))) := by rw [hw11]; exact mm_us _ _ _
                refine lv_ior hx hb d_Mea_improve_56 ?_
                have e1 := dm_some (f := ru_m N S t) (g := g) (k := k) (if_pos ⟨hgn, h2, cc8⟩)
                refine kk_top (y := nI (if dm_flag (dm_upto (ru_m N S t) (k + 1)) g = true then 1 else 0)) ((kk_or _ _).trans (kk_iteq (by rw [e1.2, Bool.or_eq_true]))) ?_
                refine lv_istore_n hx hb d_Mea_improve_57 rfl hl (by decide) rfl (fun ls hl => ?_)
                have hl : lv_has ls 7 [(3, .int (nI (if dm_flag (dm_upto (ru_m N S t) (k + 1)) g = true then 1 else 0))), (5, .ref (ad k)), (6, .ref (ad k)), (4, .int (nI k)), (0, .ref a), (1, .ref q), (2, .int t)] := hl
                refine lv_iinc (k := 3) (v := nI (k + 1)) hx hb d_Mea_improve_58 hl rfl (kk_inc _) (by decide) rfl (fun ls hl => ?_)
                have hl : lv_has ls 7 [(4, .int (nI (k + 1))), (3, .int (nI (if dm_flag (dm_upto (ru_m N S t) (k + 1)) g = true then 1 else 0))), (5, .ref (ad k)), (6, .ref (ad k)), (0, .ref a), (1, .ref q), (2, .int t)] := hl
                refine lv_goto (tgt := 5) hx hb d_Mea_improve_61 (by decide) ?_
                exact ih _ (by omega) (k + 1) w10 _ _ ls rfl hP hz hS (fun j g0 => (fr11 j g0).trans (frw2 j g0)) (by rw [e1.1]; exact fa11_0) (by omega) (lv_sub hl [0, 1, 4, 5, 6] rfl)
          · refine lv_aload_n hx hb d_Mea_improve_14 rfl (lv_at hl 3 rfl) ?_
            refine lv_iload hx hb d_Mea_improve_15 (lv_at hl 0 rfl) ?_
            refine va_csq (va_Run.run (va_runV (As := [.int (nI k)]) (rest := []) ⟨hx, hb, hml, hown, hts⟩ (c_Reg_standing l (N := N) (S := S) (ad := ad) hRk hR) (cwV 1 hts (gW_in (hd := [_, _, _, _, _]) (kk_5 wd_316 wd_268 wd_269 wd_2 cw_Reg_standing)) rfl rfl rfl ⟨rfl, ds_Reg_standing⟩ ⟨Nat.le_of_ble_eq_true rfl, Nat.le_of_ble_eq_true rfl⟩) (kk_preV hK hP hz hBz f3 rfl) rfl rfl hl.1 rfl (lv_room (Nat.le_of_ble_eq_true rfl)) d_Mea_improve_17 ⟨Nat.le_of_ble_eq_true rfl, Nat.le_of_ble_eq_true rfl⟩)) (fun r12 hr12 => ?_)
            subst hr12
            refine kk_topv (y := .null) (by rw [re_st_no hk2 hn hgn]; rfl) ?_
            refine lv_astoreN hx hb d_Mea_improve_20 hl (by decide) rfl (fun ls hl => ?_)
            have hl : lv_has ls 7 [(6, .null), (4, .int (nI k)), (3, .int (nI (if dm_flag (dm_upto (ru_m N S t) k) g = true then 1 else 0))), (0, .ref a), (1, .ref q), (2, .int t)] := hl
            refine lv_aloadN hx hb d_Mea_improve_22 (lv_at hl 0 rfl) ?_
            refine lv_instN hx hb d_Mea_improve_24 ?_
            refine lv_if_eq (tgt := 58) hx hb d_Mea_improve_27 (by decide) (fun cc13 => ?_) (fun cc13 => ?_)
            · refine lv_iinc (k := 1) (v := nI (k + 1)) hx hb d_Mea_improve_58 hl rfl (kk_inc _) (by decide) rfl (fun ls hl => ?_)
              have hl : lv_has ls 7 [(4, .int (nI (k + 1))), (6, .null), (3, .int (nI (if dm_flag (dm_upto (ru_m N S t) k) g = true then 1 else 0))), (0, .ref a), (1, .ref q), (2, .int t)] := hl
              refine lv_goto (tgt := 5) hx hb d_Mea_improve_61 (by decide) ?_
              have e1 := dm_none (f := ru_m N S t) (g := g) (k := k) (if_neg (fun q => hgn q.1))
              rw [← e1.2] at hl
              exact ih _ (by omega) (k + 1) w2 _ _ ls rfl hP hz hS (fun j g0 => frw2 j g0) (by rw [e1.1]; exact fw2_0) (by omega) (lv_sub hl [0, 2, 3, 4, 5] rfl)
            · exact absurd cc13 (by decide)
        · by_cases hgn : N 1 k = 0
          · refine lv_aload_n hx hb d_Mea_improve_14 rfl (lv_at hl 3 rfl) ?_
            refine lv_iload hx hb d_Mea_improve_15 (lv_at hl 0 rfl) ?_
            refine va_csq (va_Run.run (va_runV (As := [.int (nI k)]) (rest := []) ⟨hx, hb, hml, hown, hts⟩ (c_Reg_standing l (N := N) (S := S) (ad := ad) hRk hR) (cwV 1 hts (gW_in (hd := [_, _, _, _, _]) (kk_5 wd_316 wd_268 wd_269 wd_2 cw_Reg_standing)) rfl rfl rfl ⟨rfl, ds_Reg_standing⟩ ⟨Nat.le_of_ble_eq_true rfl, Nat.le_of_ble_eq_true rfl⟩) (kk_preV hK hP hz hBz f3 rfl) rfl rfl hl.1 rfl (lv_room (Nat.le_of_ble_eq_true rfl)) d_Mea_improve_17 ⟨Nat.le_of_ble_eq_true rfl, Nat.le_of_ble_eq_true rfl⟩)) (fun r14 hr14 => ?_)
            subst hr14
            refine kk_topv (y := .ref (ad k)) (by rw [re_st_in hk2 hn hgn]; rfl) ?_
            refine lv_astore hx hb d_Mea_improve_20 hl (by decide) rfl (fun ls hl => ?_)
            have hl : lv_has ls 7 [(6, .ref (ad k)), (4, .int (nI k)), (3, .int (nI (if dm_flag (dm_upto (ru_m N S t) k) g = true then 1 else 0))), (0, .ref a), (1, .ref q), (2, .int t)] := hl
            refine lv_aload hx hb d_Mea_improve_22 (lv_at hl 0 rfl) ?_
            refine va_instNo hx hb hown (hts _ (List.mem_cons_of_mem _ wd_317)) hK.2.2.2.2 (mm_recv hK.1 hP hp1 rfl) d_Mea_improve_24 ?_
            refine lv_if_eq (tgt := 58) hx hb d_Mea_improve_27 (by decide) (fun cc15 => ?_) (fun cc15 => ?_)
            · refine lv_iinc (k := 1) (v := nI (k + 1)) hx hb d_Mea_improve_58 hl rfl (kk_inc _) (by decide) rfl (fun ls hl => ?_)
              have hl : lv_has ls 7 [(4, .int (nI (k + 1))), (6, .ref (ad k)), (3, .int (nI (if dm_flag (dm_upto (ru_m N S t) k) g = true then 1 else 0))), (0, .ref a), (1, .ref q), (2, .int t)] := hl
              refine lv_goto (tgt := 5) hx hb d_Mea_improve_61 (by decide) ?_
              have e1 := dm_none (f := ru_m N S t) (g := g) (k := k) (if_neg (fun q => by have := q.2.1; omega))
              rw [← e1.2] at hl
              exact ih _ (by omega) (k + 1) w2 _ _ ls rfl hP hz hS (fun j g0 => frw2 j g0) (by rw [e1.1]; exact fw2_0) (by omega) (lv_sub hl [0, 2, 3, 4, 5] rfl)
            · exact absurd cc15 (by decide)
          · refine lv_aload_n hx hb d_Mea_improve_14 rfl (lv_at hl 3 rfl) ?_
            refine lv_iload hx hb d_Mea_improve_15 (lv_at hl 0 rfl) ?_
            refine va_csq (va_Run.run (va_runV (As := [.int (nI k)]) (rest := []) ⟨hx, hb, hml, hown, hts⟩ (c_Reg_standing l (N := N) (S := S) (ad := ad) hRk hR) (cwV 1 hts (gW_in (hd := [_, _, _, _, _]) (kk_5 wd_316 wd_268 wd_269 wd_2 cw_Reg_standing)) rfl rfl rfl ⟨rfl, ds_Reg_standing⟩ ⟨Nat.le_of_ble_eq_true rfl, Nat.le_of_ble_eq_true rfl⟩) (kk_preV hK hP hz hBz f3 rfl) rfl rfl hl.1 rfl (lv_room (Nat.le_of_ble_eq_true rfl)) d_Mea_improve_17 ⟨Nat.le_of_ble_eq_true rfl, Nat.le_of_ble_eq_true rfl⟩)) (fun r16 hr16 => ?_)
            subst hr16
            refine kk_topv (y := .null) (by rw [re_st_no hk2 hn hgn]; rfl) ?_
            refine lv_astoreN hx hb d_Mea_improve_20 hl (by decide) rfl (fun ls hl => ?_)
            have hl : lv_has ls 7 [(6, .null), (4, .int (nI k)), (3, .int (nI (if dm_flag (dm_upto (ru_m N S t) k) g = true then 1 else 0))), (0, .ref a), (1, .ref q), (2, .int t)] := hl
            refine lv_aloadN hx hb d_Mea_improve_22 (lv_at hl 0 rfl) ?_
            refine lv_instN hx hb d_Mea_improve_24 ?_
            refine lv_if_eq (tgt := 58) hx hb d_Mea_improve_27 (by decide) (fun cc17 => ?_) (fun cc17 => ?_)
            · refine lv_iinc (k := 1) (v := nI (k + 1)) hx hb d_Mea_improve_58 hl rfl (kk_inc _) (by decide) rfl (fun ls hl => ?_)
              have hl : lv_has ls 7 [(4, .int (nI (k + 1))), (6, .null), (3, .int (nI (if dm_flag (dm_upto (ru_m N S t) k) g = true then 1 else 0))), (0, .ref a), (1, .ref q), (2, .int t)] := hl
              refine lv_goto (tgt := 5) hx hb d_Mea_improve_61 (by decide) ?_
              have e1 := dm_none (f := ru_m N S t) (g := g) (k := k) (if_neg (fun q => hgn q.1))
              rw [← e1.2] at hl
              exact ih _ (by omega) (k + 1) w2 _ _ ls rfl hP hz hS (fun j g0 => frw2 j g0) (by rw [e1.1]; exact fw2_0) (by omega) (lv_sub hl [0, 2, 3, 4, 5] rfl)
            · exact absurd cc17 (by decide)
  exact lp1 _ 0 w _ _ _ rfl hP hz hS (fun _ _ => rfl) h_1 (by omega) (lv_sub hl [0, 1, 2, 3, 4] rfl)
theorem d_Mea_workOut_0 : decode k_Mea_workOut 0 = .ok (.aload_n 0, 1) := by decide +kernel
theorem d_Mea_workOut_1 : decode k_Mea_workOut 1 = .ok (.getfield 9, 3) := by decide +kernel
theorem d_Mea_workOut_4 : decode k_Mea_workOut 4 = .ok (.sipush 1000, 3) := by decide +kernel
theorem d_Mea_workOut_7 : decode k_Mea_workOut 7 = .ok (.invokestatic 15, 3) := by decide +kernel
theorem d_Mea_workOut_10 : decode k_Mea_workOut 10 = .ok (.iconst 1, 1) := by decide +kernel
theorem d_Mea_workOut_11 : decode k_Mea_workOut 11 = .ok (.istore_n 3, 1) := by decide +kernel
theorem d_Mea_workOut_12 : decode k_Mea_workOut 12 = .ok (.iconst 0, 1) := by decide +kernel
theorem d_Mea_workOut_13 : decode k_Mea_workOut 13 = .ok (.istore 4, 2) := by decide +kernel
theorem d_Mea_workOut_15 : decode k_Mea_workOut 15 = .ok (.iload_n 3, 1) := by decide +kernel
theorem d_Mea_workOut_16 : decode k_Mea_workOut 16 = .ok (.ifCond .eq 26, 3) := by decide +kernel
theorem d_Mea_workOut_19 : decode k_Mea_workOut 19 = .ok (.iload 4, 2) := by decide +kernel
theorem d_Mea_workOut_21 : decode k_Mea_workOut 21 = .ok (.aload_n 0, 1) := by decide +kernel
theorem d_Mea_workOut_22 : decode k_Mea_workOut 22 = .ok (.getfield 9, 3) := by decide +kernel
theorem d_Mea_workOut_25 : decode k_Mea_workOut 25 = .ok (.arraylength, 1) := by decide +kernel
theorem d_Mea_workOut_26 : decode k_Mea_workOut 26 = .ok (.if_icmp .gt 16, 3) := by decide +kernel
theorem d_Mea_workOut_29 : decode k_Mea_workOut 29 = .ok (.aload_n 0, 1) := by decide +kernel
theorem d_Mea_workOut_30 : decode k_Mea_workOut 30 = .ok (.aload_n 1, 1) := by decide +kernel
theorem d_Mea_workOut_31 : decode k_Mea_workOut 31 = .ok (.iload_n 2, 1) := by decide +kernel
theorem d_Mea_workOut_32 : decode k_Mea_workOut 32 = .ok (.invokevirtual 21, 3) := by decide +kernel
theorem d_Mea_workOut_35 : decode k_Mea_workOut 35 = .ok (.istore_n 3, 1) := by decide +kernel
theorem d_Mea_workOut_36 : decode k_Mea_workOut 36 = .ok (.iinc 4 1, 3) := by decide +kernel
theorem d_Mea_workOut_39 : decode k_Mea_workOut 39 = .ok (.goto (-24), 3) := by decide +kernel
theorem d_Mea_workOut_42 : decode k_Mea_workOut 42 = .ok (.return_, 1) := by decide +kernel
set_option maxHeartbeats 4000000 in
set_option maxRecDepth 100000 in
theorem c_Mea_workOut (l : Launch) {B : Nat} {D : va_G} {cI cZ cQ : ClassId} {w : mm_M} {sz : Nat} {a q : Nat} {t : Int32} {g0 : Nat → Nat} {N : Nat → Nat → Nat} {S : Nat → Nat → Int32} {ad : Nat → Nat} (h_0 : w a = some (.inr (2, [.ref (a + 1)]))) (h_1 : w (a + 1) = some (.inl (cI, 256, .inl (fun i => nI (g0 i))))) (hRe : re_I q cI cQ N S ad w) (hR : rg_I N) (hq : q + 2 ≤ a) (had : ∀ j, j < N 0 0 → a + 2 ≤ ad j) : Met l y_Mea_workOut ws_Mea_workOut (kk_rm 4 0 0) (kk_Pc B D cI cZ cQ [.ref a, .ref q, .int t] w sz) (kk_Qv B D (fun w' sz' => w' = mm_up w (a + 1) (.inl (cI, 256, .inl (fun i => nI ((dm_run (ru_M N S t) 257 (fun _ => 1000)) i)))) ∧ sz' = sz)) 0 0 (fun q => B ≤ q) := by
  refine Met.ofW (cc := k_Mea_workOut) (maxL := 5) (ret := none) (by decide) rfl ?_
  intro p e s m args below meth c s₁ BB hml hv
  obtain ⟨rfl, hK, hP, hz, hBz⟩ := hv
  have hx := BB.exec
  have hb := BB.bytes
  have hr := BB.returns
  have hts := atoms_spec (ws := ws_Mea_workOut) BB.pre
  have hown : s.vm.findClass "DelegationClosure$Meanings" = some m.cls := findClass_of_methodNamed BB.named
  have hlocks := BB.notSynchronized
  have hS : mm_S B s.heap s.heap [] := va_S.rf
  have hl := lv_entry ([.ref a, .ref q, .int t]) (n := 5) (Nat.le_of_ble_eq_true rfl)
  rw [lg_entry_eq]
  generalize (lg_sl ([.ref a, .ref q, .int t]) ++ List.replicate (5 - (lg_sl ([.ref a, .ref q, .int t])).length) Slot.unset).toArray = ls at hl ⊢
  have hl : lv_has ls 5 [(0, .ref a), (1, .ref q), (2, .int t)] := hl
  refine lv_aload_n hx hb d_Mea_workOut_0 rfl (lv_at hl 0 rfl) ?_
  refine mm_get (D := D) (C := n_Mea) (T := T_Mea) (N := 1) (v := .ref (a + 1)) hx hb hts lay_Mea hown hK.1 hP h_0 rfl 0 (by decide) (hts _ (List.mem_cons_of_mem _ wd_47)) (fun _ h9 => h9) rfl d_Mea_workOut_1 ?_
  refine lv_sipush (v := nI 1000) hx hb d_Mea_workOut_4 (by decide) ?_
  refine kk_callv (va_runS (As := [.ref (a + 1), .int (nI 1000)]) (rest := []) ⟨hx, hb, hml, hown, hts⟩ (c_Arr_fill l h_1 (by omega)) (va_cwS 2 hts (gW_in (hd := [_, _, _, _]) (kk_4 wd_309 wd_310 wd_12 cw_Arr_fill)) rfl rfl rfl ds_Arr_fill ⟨Nat.le_of_ble_eq_true rfl, Nat.le_of_ble_eq_true rfl⟩) (kk_preS hK hP hz hBz) rfl rfl hl.1 rfl (lv_room (Nat.le_of_ble_eq_true rfl)) d_Mea_workOut_7 ⟨Nat.le_of_ble_eq_true rfl, Nat.le_of_ble_eq_true rfl⟩) hS (fun w1 sz1 H locs hp1 hP hz hS => ?_)
  obtain ⟨he1, hs1⟩ := hp1
  have hz : H.size = sz := hz.trans hs1
  have hw2 : w1 = mm_up w (a + 1) (.inl (cI, 256, .inl (fun i => nI ((fun _ => 1000) i)))) := he1
  have fr2 : ∀ j, j ≠ a + 1 → w1 j = w j := fun j h90 => by rw [hw2]; exact mm_un h90
  have fa2_0 : w1 (a + 1) = some (.inl (cI, 256, .inl (fun i => nI ((fun _ => 1000) i)))) := by rw [hw2]; exact mm_us _ _ _
  refine lv_iconst (v := nI 1) hx hb d_Mea_workOut_10 (by decide) ?_
  refine lv_istore_n hx hb d_Mea_workOut_11 rfl hl (by decide) rfl (fun ls hl => ?_)
  have hl : lv_has ls 5 [(3, .int (nI 1)), (0, .ref a), (1, .ref q), (2, .int t)] := hl
  refine lv_iconst (v := nI 0) hx hb d_Mea_workOut_12 (by decide) ?_
  refine lv_istore hx hb d_Mea_workOut_13 hl (by decide) rfl (fun ls hl => ?_)
  have hl : lv_has ls 5 [(4, .int (nI 0)), (3, .int (nI 1)), (0, .ref a), (1, .ref q), (2, .int t)] := hl
  have lp3 : ∀ (d : Nat) (k : Nat) (bt : Bool) (g : Nat → Nat) (w4 : mm_M) (H : Heap) (locs : List Loc) (ls : Array Slot), d = 257 - k → (mm_P B D kc w4 H) → (H.size = sz) → (mm_S B s.heap H locs) → (∀ j, j ≠ a + 1 → w4 j = w1 j) → (w4 (a + 1) = some (.inl (cI, 256, .inl (fun i => nI (g i))))) → (k ≤ 257) → (∀ j, g j ≤ 1000) → ((if bt = true then dm_run (ru_M N S t) (257 - k) g else g) = dm_run (ru_M N S t) 257 (fun _ => 1000)) → lv_has ls 5 [(4, .int (nI k)), (3, .int (nI (if bt = true then 1 else 0))), (0, .ref a), (1, .ref q), (2, .int t)] → W p l e (headSpec ws_Mea_workOut (kk_rm 4 0 0)).room s m ([.ref a, .ref q, .int t]).toArray below meth c H locs 0 0 (MQ below (kk_Qv B D (fun w' sz' => w' = mm_up w (a + 1) (.inl (cI, 256, .inl (fun i => nI ((dm_run (ru_M N S t) 257 (fun _ => 1000)) i)))) ∧ sz' = sz)) ([.ref a, .ref q, .int t]).toArray s 0 0 (fun q => B ≤ q)) (F0 m 15 ls []) := by
    intro d
    induction d using Nat.strongRecOn with
    | ind d ih =>
      intro k bt g w4 H locs ls hd hP hz hS frw4 fw4_0 hk hgb hI hl
      have hRk := hRe.keep (fun i9 hi9 => (frw4 i9 (by rcases hi9 with h | h | ⟨c9, h, h8, h7⟩ <;> (try have := had c9 h) <;> omega)).trans (fr2 i9 (by rcases hi9 with h | h | ⟨c9, h, h8, h7⟩ <;> (try have := had c9 h) <;> omega)))
      refine lv_iload_n hx hb d_Mea_workOut_15 rfl (lv_at hl 1 rfl) ?_
      refine lv_if_eq (tgt := 42) hx hb d_Mea_workOut_16 (by decide) (fun cc5 => ?_) (fun cc5 => ?_)
      · have cc5 := kk_b0 cc5
        have hg9 : g = dm_run (ru_M N S t) 257 (fun _ => 1000) := by rw [← hI, if_neg cc5]
        subst hg9
        exact W.vret hx hb hr (fun t ht hW => ⟨⟨(w4, sz), rfl, ⟨mm_e1 fw4_0 (fun j g0 => (frw4 j g0).trans (fr2 j g0)), rfl⟩, by rw [ht]; exact hP, by rw [ht]; exact hz⟩, hS.F ht⟩) hS.2.2 d_Mea_workOut_42
      · have cc5 := kk_b1 cc5
        refine lv_iload hx hb d_Mea_workOut_19 (lv_at hl 0 rfl) ?_
        refine lv_aload_n hx hb d_Mea_workOut_21 rfl (lv_at hl 2 rfl) ?_
        have f6 := (frw4 _ (by omega)).trans ((fr2 _ (by omega)).trans (h_0))
        refine mm_get (D := D) (C := n_Mea) (T := T_Mea) (N := 1) (v := .ref (a + 1)) hx hb hts lay_Mea hown hK.1 hP f6 rfl 0 (by decide) (hts _ (List.mem_cons_of_mem _ wd_47)) (fun _ h9 => h9) rfl d_Mea_workOut_22 ?_
        refine mm_alen hx hb hK.1 hP 0 fw4_0 rfl d_Mea_workOut_25 ?_
        refine lv_icmp_gt (tgt := 42) hx hb d_Mea_workOut_26 (by decide) (fun cc7 => ?_) (fun cc7 => ?_)
        · have cc7 : 256 < k := (nI_ltI (by omega) (by omega)).mp cc7
          have hg9 : g = dm_run (ru_M N S t) 257 (fun _ => 1000) := by rw [← hI, if_pos cc5, show 257 - k = 0 by omega]; rfl
          subst hg9
          exact W.vret hx hb hr (fun t ht hW => ⟨⟨(w4, sz), rfl, ⟨mm_e1 fw4_0 (fun j g0 => (frw4 j g0).trans (fr2 j g0)), rfl⟩, by rw [ht]; exact hP, by rw [ht]; exact hz⟩, hS.F ht⟩) hS.2.2 d_Mea_workOut_42
        · have cc7 : ¬ (256 < k) := fun q => cc7 ((nI_ltI (by omega) (by omega)).mpr q)
          refine lv_aload_n hx hb d_Mea_workOut_29 rfl (lv_at hl 2 rfl) ?_
          refine lv_aload_n hx hb d_Mea_workOut_30 rfl (lv_at hl 3 rfl) ?_
          refine lv_iload_n hx hb d_Mea_workOut_31 rfl (lv_at hl 4 rfl) ?_
          refine kk_calli (va_runV (As := [.ref q, .int t]) (rest := []) ⟨hx, hb, hml, hown, hts⟩ (c_Mea_improve l (N := N) (S := S) (ad := ad) f6 fw4_0 hRk hR hgb (by omega) had) (cwV 2 hts (gW_in (hd := [_, _, _, _, _]) (kk_5 wd_312 wd_314 sl_Mea_improve wd_3 cw_Mea_improve)) rfl rfl rfl ⟨rfl, ds_Mea_improve⟩ ⟨Nat.le_of_ble_eq_true rfl, Nat.le_of_ble_eq_true rfl⟩) (kk_preV hK hP hz hBz f6 rfl) rfl rfl hl.1 rfl (lv_room (Nat.le_of_ble_eq_true rfl)) d_Mea_workOut_32 ⟨Nat.le_of_ble_eq_true rfl, Nat.le_of_ble_eq_true rfl⟩) hS (fun r8 w8 sz8 H locs hp8 hP hz hS => ?_)
          obtain ⟨hr8, he8, hs8⟩ := hp8
          subst hr8
          have hz : H.size = sz := hz.trans hs8
          have hw9 : w8 = mm_up w4 (a + 1) (.inl (cI, 256, .inl (fun i => nI ((dm_pass (ru_M N S t) g) i)))) := he8
          have fr9 : ∀ j, j ≠ a + 1 → w8 j = w4 j := fun j h90 => by rw [hw9]; exact mm_un h90
          have fa9_0 : w8 (a + 1) = some (.inl (cI, 256, .inl (fun i => nI ((dm_pass (ru_M N S t) g) i)))) := by rw [hw9]; exact mm_us _ _ _
          refine lv_istore_n hx hb d_Mea_workOut_35 rfl hl (by decide) rfl (fun ls hl => ?_)
          have hl : lv_has ls 5 [(3, .int (nI (if dm_flag (ru_M N S t) g = true then 1 else 0))), (4, .int (nI k)), (0, .ref a), (1, .ref q), (2, .int t)] := hl
          refine lv_iinc (k := 1) (v := nI (k + 1)) hx hb d_Mea_workOut_36 hl rfl (kk_inc _) (by decide) rfl (fun ls hl => ?_)
          have hl : lv_has ls 5 [(4, .int (nI (k + 1))), (3, .int (nI (if dm_flag (ru_M N S t) g = true then 1 else 0))), (0, .ref a), (1, .ref q), (2, .int t)] := hl
          refine lv_goto (tgt := 15) hx hb d_Mea_workOut_39 (by decide) ?_
          exact ih _ (by omega) (k + 1) (dm_flag (ru_M N S t) g) (dm_pass (ru_M N S t) g) w8 _ _ ls rfl hP hz hS (fun j g0 => (fr9 j g0).trans (frw4 j g0)) fa9_0 (by omega) (dm_pass_1000 hgb) (by rw [← hI, if_pos cc5, show 257 - k = (257 - (k + 1)) + 1 by omega]; rfl) (lv_sub hl [0, 1, 2, 3, 4] rfl)
  exact lp3 _ 0 true (fun _ => 1000) w1 _ _ _ rfl hP hz hS (fun _ _ => rfl) fa2_0 (by omega) (fun _ => Nat.le_refl _) (if_pos rfl) (lv_sub hl [0, 1, 2, 3, 4] rfl)
