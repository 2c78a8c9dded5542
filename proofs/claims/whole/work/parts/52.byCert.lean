theorem d_Led_byCertificate_0 : decode k_Led_byCertificate 0 = .ok (.iconst 0, 1) := by decide +kernel
theorem d_Led_byCertificate_1 : decode k_Led_byCertificate 1 = .ok (.istore 4, 2) := by decide +kernel
theorem d_Led_byCertificate_3 : decode k_Led_byCertificate 3 = .ok (.iload 4, 2) := by decide +kernel
theorem d_Led_byCertificate_5 : decode k_Led_byCertificate 5 = .ok (.aload_n 2, 1) := by decide +kernel
theorem d_Led_byCertificate_6 : decode k_Led_byCertificate 6 = .ok (.getfield 70, 3) := by decide +kernel
theorem d_Led_byCertificate_9 : decode k_Led_byCertificate 9 = .ok (.if_icmp .ge 36, 3) := by decide +kernel
theorem d_Led_byCertificate_12 : decode k_Led_byCertificate 12 = .ok (.aload_n 2, 1) := by decide +kernel
theorem d_Led_byCertificate_13 : decode k_Led_byCertificate 13 = .ok (.getfield 71, 3) := by decide +kernel
theorem d_Led_byCertificate_16 : decode k_Led_byCertificate 16 = .ok (.iload 4, 2) := by decide +kernel
theorem d_Led_byCertificate_18 : decode k_Led_byCertificate 18 = .ok (.iaload, 1) := by decide +kernel
theorem d_Led_byCertificate_19 : decode k_Led_byCertificate 19 = .ok (.istore 5, 2) := by decide +kernel
theorem d_Led_byCertificate_21 : decode k_Led_byCertificate 21 = .ok (.aload_n 0, 1) := by decide +kernel
theorem d_Led_byCertificate_22 : decode k_Led_byCertificate 22 = .ok (.iload 4, 2) := by decide +kernel
theorem d_Led_byCertificate_24 : decode k_Led_byCertificate 24 = .ok (.aload_n 0, 1) := by decide +kernel
theorem d_Led_byCertificate_25 : decode k_Led_byCertificate 25 = .ok (.aload_n 1, 1) := by decide +kernel
theorem d_Led_byCertificate_26 : decode k_Led_byCertificate 26 = .ok (.iload 5, 2) := by decide +kernel
theorem d_Led_byCertificate_28 : decode k_Led_byCertificate 28 = .ok (.aload_n 2, 1) := by decide +kernel
theorem d_Led_byCertificate_29 : decode k_Led_byCertificate 29 = .ok (.getfield 74, 3) := by decide +kernel
theorem d_Led_byCertificate_32 : decode k_Led_byCertificate 32 = .ok (.iload_n 3, 1) := by decide +kernel
theorem d_Led_byCertificate_33 : decode k_Led_byCertificate 33 = .ok (.invokevirtual 78, 3) := by decide +kernel
theorem d_Led_byCertificate_36 : decode k_Led_byCertificate 36 = .ok (.invokevirtual 82, 3) := by decide +kernel
theorem d_Led_byCertificate_39 : decode k_Led_byCertificate 39 = .ok (.iinc 4 1, 3) := by decide +kernel
theorem d_Led_byCertificate_42 : decode k_Led_byCertificate 42 = .ok (.goto (-39), 3) := by decide +kernel
theorem d_Led_byCertificate_45 : decode k_Led_byCertificate 45 = .ok (.iconst 1, 1) := by decide +kernel
theorem d_Led_byCertificate_46 : decode k_Led_byCertificate 46 = .ok (.istore 4, 2) := by decide +kernel
theorem d_Led_byCertificate_48 : decode k_Led_byCertificate 48 = .ok (.iconst 0, 1) := by decide +kernel
theorem d_Led_byCertificate_49 : decode k_Led_byCertificate 49 = .ok (.istore 5, 2) := by decide +kernel
theorem d_Led_byCertificate_51 : decode k_Led_byCertificate 51 = .ok (.iload 5, 2) := by decide +kernel
theorem d_Led_byCertificate_53 : decode k_Led_byCertificate 53 = .ok (.aload_n 2, 1) := by decide +kernel
theorem d_Led_byCertificate_54 : decode k_Led_byCertificate 54 = .ok (.getfield 86, 3) := by decide +kernel
theorem d_Led_byCertificate_57 : decode k_Led_byCertificate 57 = .ok (.if_icmp .ge 23, 3) := by decide +kernel
theorem d_Led_byCertificate_60 : decode k_Led_byCertificate 60 = .ok (.iload 4, 2) := by decide +kernel
theorem d_Led_byCertificate_62 : decode k_Led_byCertificate 62 = .ok (.aload_n 0, 1) := by decide +kernel
theorem d_Led_byCertificate_63 : decode k_Led_byCertificate 63 = .ok (.getfield 19, 3) := by decide +kernel
theorem d_Led_byCertificate_66 : decode k_Led_byCertificate 66 = .ok (.iload 5, 2) := by decide +kernel
theorem d_Led_byCertificate_68 : decode k_Led_byCertificate 68 = .ok (.iaload, 1) := by decide +kernel
theorem d_Led_byCertificate_69 : decode k_Led_byCertificate 69 = .ok (.invokestatic 89, 3) := by decide +kernel
theorem d_Led_byCertificate_72 : decode k_Led_byCertificate 72 = .ok (.istore 4, 2) := by decide +kernel
theorem d_Led_byCertificate_74 : decode k_Led_byCertificate 74 = .ok (.iinc 5 1, 3) := by decide +kernel
theorem d_Led_byCertificate_77 : decode k_Led_byCertificate 77 = .ok (.goto (-26), 3) := by decide +kernel
theorem d_Led_byCertificate_80 : decode k_Led_byCertificate 80 = .ok (.iload 4, 2) := by decide +kernel
theorem d_Led_byCertificate_82 : decode k_Led_byCertificate 82 = .ok (.ireturn, 1) := by decide +kernel
set_option maxHeartbeats 4000000 in
set_option maxRecDepth 100000 in
theorem c_Led_byCertificate (l : Launch) {B : Nat} {D : va_G} {cI cZ cQ : ClassId} {w : mm_M} {sz : Nat} {a m9 q iss tm gn ar tg dl mn nd x : Nat} {g l9 so su : Nat → Nat} (h_0 : w a = some (.inr (3, [.ref (a + 1), .ref (a + 2), .ref (a + 3)]))) (h_1 : w (a + 2) = some (.inl (cI, 9, .inl (fun i => nI (l9 i))))) (h_2 : w (a + 3) = some (.inl (cI, 3, .inl (fun i => nI (so i))))) (h_3 : w m9 = some (.inr (2, [.ref (m9 + 1)]))) (h_4 : w (m9 + 1) = some (.inl (cI, 256, .inl (fun i => nI (g i))))) (h_5 : w q = some (.inr (8, [.int (nI iss), .ref tm, .int (nI gn), .ref ar, .ref tg, .int (nI dl), .int (nI mn), .int (nI nd)]))) (h_6 : w ar = some (.inl (cI, 3, .inl (fun i => nI (su i))))) (hm1 : 1 ≤ mn) (hm3 : mn ≤ 3) (hn1 : 1 ≤ nd) (hnm : nd ≤ mn) (hdl : dl ≤ 1) (hx9 : x < 8) (hsu : ∀ i, i < 3 → su i < 200) (hg : ∀ j, g j ≤ 1000) (hl9 : ∀ j, l9 j ≤ 1000) (hso : ∀ j, so j ≤ 1000) (hp1 : m9 + 1 < a) (hp2 : a + 3 < q) (hp3 : a + 3 < ar) : Met l y_Led_byCertificate ws_Led_byCertificate (kk_rm 3 0 0) (kk_Pc B D cI cZ cQ [.ref a, .ref m9, .ref q, .int (nI x)] w sz) (kk_Qi B D (fun r w' sz' => r = nI (dm_sum (dm_srt (bc_c dl su g l9 x) so mn) nd) ∧ w' = mm_up w (a + 3) (.inl (cI, 3, .inl (fun i => nI ((dm_srt (bc_c dl su g l9 x) so mn) i)))) ∧ sz' = sz)) 0 0 (fun q => B ≤ q) := by
  refine Met.ofW (cc := k_Led_byCertificate) (maxL := 6) (ret := (some .int)) (by decide) rfl ?_
  intro p e s m args below meth c s₁ BB hml hv
  obtain ⟨rfl, hK, hP, hz, hBz⟩ := hv
  have hx := BB.exec
  have hb := BB.bytes
  have hr := BB.returns
  have hts := atoms_spec (ws := ws_Led_byCertificate) BB.pre
  have hown : s.vm.findClass "DelegationClosure$Leads" = some m.cls := findClass_of_methodNamed BB.named
  have hlocks := BB.notSynchronized
  have hS : mm_S B s.heap s.heap [] := va_S.rf
  have hl := lv_entry ([.ref a, .ref m9, .ref q, .int (nI x)]) (n := 6) (Nat.le_of_ble_eq_true rfl)
  rw [lg_entry_eq]
  generalize (lg_sl ([.ref a, .ref m9, .ref q, .int (nI x)]) ++ List.replicate (6 - (lg_sl ([.ref a, .ref m9, .ref q, .int (nI x)])).length) Slot.unset).toArray = ls at hl ⊢
  have hl : lv_has ls 6 [(0, .ref a), (1, .ref m9), (2, .ref q), (3, .int (nI x))] := hl
  have hcl : ∀ i, bc_c dl su g l9 x i ≤ 1000 := bc_le hg
  refine lv_iconst (v := nI 0) hx hb d_Led_byCertificate_0 (by decide) ?_
  refine lv_istore hx hb d_Led_byCertificate_1 hl (by decide) rfl (fun ls hl => ?_)
  have hl : lv_has ls 6 [(4, .int (nI 0)), (0, .ref a), (1, .ref m9), (2, .ref q), (3, .int (nI x))] := hl
  have lp1 : ∀ (d : Nat) (k : Nat) (w2 : mm_M) (H : Heap) (locs : List Loc) (ls : Array Slot), d = mn - k → (mm_P B D kc w2 H) → (H.size = sz) → (mm_S B s.heap H locs) → (∀ j, j ≠ a + 3 → w2 j = w j) → (w2 (a + 3) = some (.inl (cI, 3, .inl (fun i => nI ((dm_srt (bc_c dl su g l9 x) so k) i))))) → (k ≤ mn) → lv_has ls 6 [(4, .int (nI k)), (0, .ref a), (1, .ref m9), (2, .ref q), (3, .int (nI x))] → W p l e (headSpec ws_Led_byCertificate (kk_rm 3 0 0)).room s m ([.ref a, .ref m9, .ref q, .int (nI x)]).toArray below meth c H locs 0 0 (MQ below (kk_Qi B D (fun r w' sz' => r = nI (dm_sum (dm_srt (bc_c dl su g l9 x) so mn) nd) ∧ w' = mm_up w (a + 3) (.inl (cI, 3, .inl (fun i => nI ((dm_srt (bc_c dl su g l9 x) so mn) i)))) ∧ sz' = sz)) ([.ref a, .ref m9, .ref q, .int (nI x)]).toArray s 0 0 (fun q => B ≤ q)) (F0 m 3 ls []) := by
    intro d
    induction d using Nat.strongRecOn with
    | ind d ih =>
      intro k w2 H locs ls hd hP hz hS frw2 fw2_0 hk hl
      have hsk := dm_srt_le hcl hso k
      refine lv_iload hx hb d_Led_byCertificate_3 (lv_at hl 0 rfl) ?_
      refine lv_aload_n hx hb d_Led_byCertificate_5 rfl (lv_at hl 3 rfl) ?_
      have f3 := (frw2 _ (by omega)).trans (h_5)
      refine mm_get (D := D) (C := n_Prm) (T := T_Prm) (N := 8) (v := .int (nI mn)) hx hb hts lay_Prm hown hK.1 hP f3 rfl 6 (by decide) (hts _ (List.mem_cons_of_mem _ wd_239)) (fun _ h9 => h9) rfl d_Led_byCertificate_6 ?_
      refine lv_icmp_ge (tgt := 45) hx hb d_Led_byCertificate_9 (by decide) (fun cc4 => ?_) (fun cc4 => ?_)
      · have cc4 : mn ≤ k := (nI_leI (by omega) (by omega)).mp cc4
        obtain rfl : mn = k := by omega
        refine lv_iconst (v := nI 1) hx hb d_Led_byCertificate_45 (by decide) ?_
        refine lv_istore hx hb d_Led_byCertificate_46 hl (by decide) rfl (fun ls hl => ?_)
        have hl : lv_has ls 6 [(4, .int (nI 1)), (0, .ref a), (1, .ref m9), (2, .ref q), (3, .int (nI x))] := hl
        refine lv_iconst (v := nI 0) hx hb d_Led_byCertificate_48 (by decide) ?_
        refine lv_istore hx hb d_Led_byCertificate_49 hl (by decide) rfl (fun ls hl => ?_)
        have hl : lv_has ls 6 [(5, .int (nI 0)), (4, .int (nI 1)), (0, .ref a), (1, .ref m9), (2, .ref q), (3, .int (nI x))] := hl
        have lp5 : ∀ (d : Nat) (k2 : Nat) (ls : Array Slot), d = nd - k2 → (k2 ≤ nd) → lv_has ls 6 [(5, .int (nI k2)), (4, .int (nI (dm_sum (dm_srt (bc_c dl su g l9 x) so mn) k2))), (0, .ref a), (1, .ref m9), (2, .ref q), (3, .int (nI x))] → W p l e (headSpec ws_Led_byCertificate (kk_rm 3 0 0)).room s m ([.ref a, .ref m9, .ref q, .int (nI x)]).toArray below meth c H locs 0 0 (MQ below (kk_Qi B D (fun r w' sz' => r = nI (dm_sum (dm_srt (bc_c dl su g l9 x) so mn) nd) ∧ w' = mm_up w (a + 3) (.inl (cI, 3, .inl (fun i => nI ((dm_srt (bc_c dl su g l9 x) so mn) i)))) ∧ sz' = sz)) ([.ref a, .ref m9, .ref q, .int (nI x)]).toArray s 0 0 (fun q => B ≤ q)) (F0 m 51 ls []) := by
          intro d
          induction d using Nat.strongRecOn with
          | ind d ihlp5 =>
            intro k2 ls hd hk2 hl
            refine lv_iload hx hb d_Led_byCertificate_51 (lv_at hl 0 rfl) ?_
            refine lv_aload_n hx hb d_Led_byCertificate_53 rfl (lv_at hl 4 rfl) ?_
            refine mm_get (D := D) (C := n_Prm) (T := T_Prm) (N := 8) (v := .int (nI nd)) hx hb hts lay_Prm hown hK.1 hP f3 rfl 7 (by decide) (hts _ (List.mem_cons_of_mem _ wd_243)) (fun _ h9 => h9) rfl d_Led_byCertificate_54 ?_
            refine lv_icmp_ge (tgt := 80) hx hb d_Led_byCertificate_57 (by decide) (fun cc6 => ?_) (fun cc6 => ?_)
            · have cc6 : nd ≤ k2 := (nI_leI (by omega) (by omega)).mp cc6
              obtain rfl : nd = k2 := by omega
              refine lv_iload hx hb d_Led_byCertificate_80 (lv_at hl 1 rfl) ?_
              exact W.iret hx hb hr (fun t ht hW => ⟨⟨_, (w2, sz), rfl, ⟨rfl, mm_e1 fw2_0 (fun j g0 => frw2 j g0), rfl⟩, by rw [ht]; exact hP, by rw [ht]; exact hz⟩, hS.F ht⟩) hS.2.2 d_Led_byCertificate_82
            · have cc6 : ¬ (nd ≤ k2) := fun q => cc6 ((nI_leI (by omega) (by omega)).mpr q)
              refine lv_iload hx hb d_Led_byCertificate_60 (lv_at hl 1 rfl) ?_
              refine lv_aload_n hx hb d_Led_byCertificate_62 rfl (lv_at hl 2 rfl) ?_
              have f7 := (frw2 _ (by omega)).trans (h_0)
              refine mm_get (D := D) (C := n_Led) (T := T_Led) (N := 3) (v := .ref (a + 3)) hx hb hts lay_Led hown hK.1 hP f7 rfl 2 (by decide) (hts _ (List.mem_cons_of_mem _ wd_60)) (fun _ h9 => h9) rfl d_Led_byCertificate_63 ?_
              refine lv_iload hx hb d_Led_byCertificate_66 (lv_at hl 0 rfl) ?_
              refine mm_iald hx hb hK.1 hP 0 fw2_0 rfl k2 rfl (by omega) (by decide) d_Led_byCertificate_68 ?_
              refine W.eq (g2 := F0 m 69 ls [.int (nI ((dm_srt (bc_c dl su g l9 x) so mn) k2)), .int (nI (dm_sum (dm_srt (bc_c dl su g l9 x) so mn) k2))]) rfl ?_
              have hq3 := dm_sum_le (dm_srt (bc_c dl su g l9 x) so mn) k2
              have hq4 := dm_srt_le hcl hso mn k2
              refine vp_callSi (va_Run.run (va_runSN (As := [.int (nI (dm_sum (dm_srt (bc_c dl su g l9 x) so mn) k2)), .int (nI ((dm_srt (bc_c dl su g l9 x) so mn) k2))]) (rest := []) ⟨hx, hb, hml, hown, hts⟩ (c_X_sumOf l (by omega) (by omega)) ⟨va_cnB 2 hts (gW_in (hd := [_]) (kk_1 cw_X_sumOf)) rfl rfl rfl (hK.2.1 _ nw_388 rfl) (hts _ (List.mem_cons_of_mem _ wd_1)) ds_X_sumOf ⟨Nat.le_of_ble_eq_true rfl, Nat.le_of_ble_eq_true rfl⟩, (hts _ (List.mem_cons_of_mem _ wd_339)), trivial⟩ (kk_preS hK hP hz hBz) rfl rfl hl.1 rfl (lv_room (Nat.le_of_ble_eq_true rfl)) d_Led_byCertificate_69 ⟨Nat.le_of_ble_eq_true rfl, Nat.le_of_ble_eq_true rfl⟩)) (fun r8 hr8 => ?_)
              subst hr8
              refine kk_top (y := nI (dm_sum (dm_srt (bc_c dl su g l9 x) so mn) (k2 + 1))) (rfl) ?_
              refine lv_istore hx hb d_Led_byCertificate_72 hl (by decide) rfl (fun ls hl => ?_)
              have hl : lv_has ls 6 [(4, .int (nI (dm_sum (dm_srt (bc_c dl su g l9 x) so mn) (k2 + 1)))), (5, .int (nI k2)), (0, .ref a), (1, .ref m9), (2, .ref q), (3, .int (nI x))] := hl
              refine lv_iinc (k := 1) (v := nI (k2 + 1)) hx hb d_Led_byCertificate_74 hl rfl (kk_inc _) (by decide) rfl (fun ls hl => ?_)
              have hl : lv_has ls 6 [(5, .int (nI (k2 + 1))), (4, .int (nI (dm_sum (dm_srt (bc_c dl su g l9 x) so mn) (k2 + 1)))), (0, .ref a), (1, .ref m9), (2, .ref q), (3, .int (nI x))] := hl
              refine lv_goto (tgt := 51) hx hb d_Led_byCertificate_77 (by decide) ?_
              exact ihlp5 _ (by omega) (k2 + 1) ls rfl (by omega) (lv_sub hl [0, 1, 2, 3, 4, 5] rfl)
        exact lp5 _ 0 _ rfl (by omega) (lv_sub hl [0, 1, 2, 3, 4, 5] rfl)
      · have cc4 : ¬ (mn ≤ k) := fun q => cc4 ((nI_leI (by omega) (by omega)).mpr q)
        have hq := hsu k (by omega)
        have hq2 : dm_by1 (dl == 1) (fun y => dm_ofs g (su k) y) l9 x ≤ 1000 := hcl k
        refine lv_aload_n hx hb d_Led_byCertificate_12 rfl (lv_at hl 3 rfl) ?_
        refine mm_get (D := D) (C := n_Prm) (T := T_Prm) (N := 8) (v := .ref ar) hx hb hts lay_Prm hown hK.1 hP f3 rfl 3 (by decide) (hts _ (List.mem_cons_of_mem _ wd_230)) (fun _ h9 => h9) rfl d_Led_byCertificate_13 ?_
        refine lv_iload hx hb d_Led_byCertificate_16 (lv_at hl 0 rfl) ?_
        have f9 := (frw2 _ (by omega)).trans (h_6)
        refine mm_iald hx hb hK.1 hP 0 f9 rfl k rfl (by omega) (by decide) d_Led_byCertificate_18 ?_
        refine W.eq (g2 := F0 m 19 ls [.int (nI (su k))]) rfl ?_
        refine lv_istore hx hb d_Led_byCertificate_19 hl (by decide) rfl (fun ls hl => ?_)
        have hl : lv_has ls 6 [(5, .int (nI (su k))), (4, .int (nI k)), (0, .ref a), (1, .ref m9), (2, .ref q), (3, .int (nI x))] := hl
        refine lv_aload_n hx hb d_Led_byCertificate_21 rfl (lv_at hl 2 rfl) ?_
        refine lv_iload hx hb d_Led_byCertificate_22 (lv_at hl 1 rfl) ?_
        refine lv_aload_n hx hb d_Led_byCertificate_24 rfl (lv_at hl 2 rfl) ?_
        refine lv_aload_n hx hb d_Led_byCertificate_25 rfl (lv_at hl 3 rfl) ?_
        refine lv_iload hx hb d_Led_byCertificate_26 (lv_at hl 0 rfl) ?_
        refine lv_aload_n hx hb d_Led_byCertificate_28 rfl (lv_at hl 4 rfl) ?_
        refine mm_get (D := D) (C := n_Prm) (T := T_Prm) (N := 8) (v := .int (nI dl)) hx hb hts lay_Prm hown hK.1 hP f3 rfl 5 (by decide) (hts _ (List.mem_cons_of_mem _ wd_237)) (fun _ h9 => h9) rfl d_Led_byCertificate_29 ?_
        refine lv_iload_n hx hb d_Led_byCertificate_32 rfl (lv_at hl 5 rfl) ?_
        have f10 := (frw2 _ (by omega)).trans (h_0)
        have f11 := (frw2 _ (by omega)).trans (h_1)
        have f12 := (frw2 _ (by omega)).trans (h_3)
        have f13 := (frw2 _ (by omega)).trans (h_4)
        refine vp_callSi (va_Run.run (va_runV (As := [.ref m9, .int (nI (su k)), .int (nI dl), .int (nI x)]) (rest := [.int (nI k), .ref a]) ⟨hx, hb, hml, hown, hts⟩ (c_Led_bySubject l f10 f11 f12 f13 (by omega) (by omega) (by omega) hg hl9) (cwV 4 hts (gW_in (hd := [_, _, _, _, _]) (kk_5 wd_383 wd_385 sl_Led_bySubject wd_4 cw_Led_bySubject)) rfl rfl rfl ⟨rfl, ds_Led_bySubject⟩ ⟨Nat.le_of_ble_eq_true rfl, Nat.le_of_ble_eq_true rfl⟩) (kk_preV hK hP hz hBz f10 rfl) rfl rfl hl.1 rfl (lv_room (Nat.le_of_ble_eq_true rfl)) d_Led_byCertificate_33 ⟨Nat.le_of_ble_eq_true rfl, Nat.le_of_ble_eq_true rfl⟩)) (fun r14 hr14 => ?_)
        subst hr14
        refine kk_callv (va_runV (As := [.int (nI k), .int (nI (dm_by1 (dl == 1) (fun y => dm_ofs g (su k) y) l9 x))]) (rest := []) ⟨hx, hb, hml, hown, hts⟩ (c_Led_sortIn l f10 fw2_0 (by omega) (by omega) hsk) (cwV 2 hts (gW_in (hd := [_, _, _, _, _]) (kk_5 wd_390 wd_392 sl_Led_sortIn wd_4 cw_Led_sortIn)) rfl rfl rfl ⟨rfl, ds_Led_sortIn⟩ ⟨Nat.le_of_ble_eq_true rfl, Nat.le_of_ble_eq_true rfl⟩) (kk_preV hK hP hz hBz f10 rfl) rfl rfl hl.1 rfl (lv_room (Nat.le_of_ble_eq_true rfl)) d_Led_byCertificate_36 ⟨Nat.le_of_ble_eq_true rfl, Nat.le_of_ble_eq_true rfl⟩) hS (fun w15 sz15 H locs hp15 hP hz hS => ?_)
        obtain ⟨he15, hs15⟩ := hp15
        have hz : H.size = sz := hz.trans hs15
        have hw16 : w15 = mm_up w2 (a + 3) (.inl (cI, 3, .inl (fun i => nI ((dm_ins (dm_srt (bc_c dl su g l9 x) so k) k (dm_by1 (dl == 1) (fun y => dm_ofs g (su k) y) l9 x)) i)))) := he15
        have fr16 : ∀ j, j ≠ a + 3 → w15 j = w2 j := fun j h90 => by rw [hw16]; exact mm_un h90
        have fa16_0 : w15 (a + 3) = some (.inl (cI, 3, .inl (fun i => nI ((dm_ins (dm_srt (bc_c dl su g l9 x) so k) k (dm_by1 (dl == 1) (fun y => dm_ofs g (su k) y) l9 x)) i)))) := by rw [hw16]; exact mm_us _ _ _
        refine lv_iinc (k := 1) (v := nI (k + 1)) hx hb d_Led_byCertificate_39 hl rfl (kk_inc _) (by decide) rfl (fun ls hl => ?_)
        have hl : lv_has ls 6 [(4, .int (nI (k + 1))), (5, .int (nI (su k))), (0, .ref a), (1, .ref m9), (2, .ref q), (3, .int (nI x))] := hl
        refine lv_goto (tgt := 3) hx hb d_Led_byCertificate_42 (by decide) ?_
        exact ih _ (by omega) (k + 1) w15 _ _ ls rfl hP hz hS (fun j g0 => (fr16 j g0).trans (frw2 j g0)) fa16_0 (by omega) (lv_sub hl [0, 2, 3, 4, 5] rfl)
  exact lp1 _ 0 w _ _ _ rfl hP hz hS (fun _ _ => rfl) h_2 (by omega) (lv_sub hl [0, 1, 2, 3, 4] rfl)
