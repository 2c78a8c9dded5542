theorem d_Chn_replaceName_0 : decode k_Chn_replaceName 0 = .ok (.aload_n 0, 1) := by decide +kernel
theorem d_Chn_replaceName_1 : decode k_Chn_replaceName 1 = .ok (.invokevirtual 63, 3) := by decide +kernel
theorem d_Chn_replaceName_4 : decode k_Chn_replaceName 4 = .ok (.ifCond .eq 34, 3) := by decide +kernel
theorem d_Chn_replaceName_7 : decode k_Chn_replaceName 7 = .ok (.aload_n 0, 1) := by decide +kernel
theorem d_Chn_replaceName_8 : decode k_Chn_replaceName 8 = .ok (.getfield 19, 3) := by decide +kernel
theorem d_Chn_replaceName_11 : decode k_Chn_replaceName 11 = .ok (.ifCond .eq 27, 3) := by decide +kernel
theorem d_Chn_replaceName_14 : decode k_Chn_replaceName 14 = .ok (.aload_n 0, 1) := by decide +kernel
theorem d_Chn_replaceName_15 : decode k_Chn_replaceName 15 = .ok (.getfield 9, 3) := by decide +kernel
theorem d_Chn_replaceName_18 : decode k_Chn_replaceName 18 = .ok (.aload_n 1, 1) := by decide +kernel
theorem d_Chn_replaceName_19 : decode k_Chn_replaceName 19 = .ok (.getfield 67, 3) := by decide +kernel
theorem d_Chn_replaceName_22 : decode k_Chn_replaceName 22 = .ok (.if_icmp .ne 16, 3) := by decide +kernel
theorem d_Chn_replaceName_25 : decode k_Chn_replaceName 25 = .ok (.aload_n 0, 1) := by decide +kernel
theorem d_Chn_replaceName_26 : decode k_Chn_replaceName 26 = .ok (.getfield 15, 3) := by decide +kernel
theorem d_Chn_replaceName_29 : decode k_Chn_replaceName 29 = .ok (.iconst 0, 1) := by decide +kernel
theorem d_Chn_replaceName_30 : decode k_Chn_replaceName 30 = .ok (.iaload, 1) := by decide +kernel
theorem d_Chn_replaceName_31 : decode k_Chn_replaceName 31 = .ok (.aload_n 1, 1) := by decide +kernel
theorem d_Chn_replaceName_32 : decode k_Chn_replaceName 32 = .ok (.getfield 72, 3) := by decide +kernel
theorem d_Chn_replaceName_35 : decode k_Chn_replaceName 35 = .ok (.if_icmp .eq 5, 3) := by decide +kernel
theorem d_Chn_replaceName_38 : decode k_Chn_replaceName 38 = .ok (.iconst 0, 1) := by decide +kernel
theorem d_Chn_replaceName_39 : decode k_Chn_replaceName 39 = .ok (.ireturn, 1) := by decide +kernel
theorem d_Chn_replaceName_40 : decode k_Chn_replaceName 40 = .ok (.aload_n 0, 1) := by decide +kernel
theorem d_Chn_replaceName_41 : decode k_Chn_replaceName 41 = .ok (.getfield 19, 3) := by decide +kernel
theorem d_Chn_replaceName_44 : decode k_Chn_replaceName 44 = .ok (.iconst 1, 1) := by decide +kernel
theorem d_Chn_replaceName_45 : decode k_Chn_replaceName 45 = .ok (.isub, 1) := by decide +kernel
theorem d_Chn_replaceName_46 : decode k_Chn_replaceName 46 = .ok (.istore_n 2, 1) := by decide +kernel
theorem d_Chn_replaceName_47 : decode k_Chn_replaceName 47 = .ok (.aload_n 1, 1) := by decide +kernel
theorem d_Chn_replaceName_48 : decode k_Chn_replaceName 48 = .ok (.getfield 75, 3) := by decide +kernel
theorem d_Chn_replaceName_51 : decode k_Chn_replaceName 51 = .ok (.invokestatic 78, 3) := by decide +kernel
theorem d_Chn_replaceName_54 : decode k_Chn_replaceName 54 = .ok (.iload_n 2, 1) := by decide +kernel
theorem d_Chn_replaceName_55 : decode k_Chn_replaceName 55 = .ok (.iadd, 1) := by decide +kernel
theorem d_Chn_replaceName_56 : decode k_Chn_replaceName 56 = .ok (.iconst 4, 1) := by decide +kernel
theorem d_Chn_replaceName_57 : decode k_Chn_replaceName 57 = .ok (.if_icmp .le 5, 3) := by decide +kernel
theorem d_Chn_replaceName_60 : decode k_Chn_replaceName 60 = .ok (.iconst 0, 1) := by decide +kernel
theorem d_Chn_replaceName_61 : decode k_Chn_replaceName 61 = .ok (.ireturn, 1) := by decide +kernel
theorem d_Chn_replaceName_62 : decode k_Chn_replaceName 62 = .ok (.aload_n 0, 1) := by decide +kernel
theorem d_Chn_replaceName_63 : decode k_Chn_replaceName 63 = .ok (.aload_n 1, 1) := by decide +kernel
theorem d_Chn_replaceName_64 : decode k_Chn_replaceName 64 = .ok (.getfield 75, 3) := by decide +kernel
theorem d_Chn_replaceName_67 : decode k_Chn_replaceName 67 = .ok (.iload_n 2, 1) := by decide +kernel
theorem d_Chn_replaceName_68 : decode k_Chn_replaceName 68 = .ok (.invokevirtual 50, 3) := by decide +kernel
theorem d_Chn_replaceName_71 : decode k_Chn_replaceName 71 = .ok (.aload_n 0, 1) := by decide +kernel
theorem d_Chn_replaceName_72 : decode k_Chn_replaceName 72 = .ok (.getfield 34, 3) := by decide +kernel
theorem d_Chn_replaceName_75 : decode k_Chn_replaceName 75 = .ok (.aload_n 1, 1) := by decide +kernel
theorem d_Chn_replaceName_76 : decode k_Chn_replaceName 76 = .ok (.getfield 82, 3) := by decide +kernel
theorem d_Chn_replaceName_79 : decode k_Chn_replaceName 79 = .ok (.invokevirtual 83, 3) := by decide +kernel
theorem d_Chn_replaceName_82 : decode k_Chn_replaceName 82 = .ok (.aload_n 0, 1) := by decide +kernel
theorem d_Chn_replaceName_83 : decode k_Chn_replaceName 83 = .ok (.dup, 1) := by decide +kernel
theorem d_Chn_replaceName_84 : decode k_Chn_replaceName 84 = .ok (.getfield 38, 3) := by decide +kernel
theorem d_Chn_replaceName_87 : decode k_Chn_replaceName 87 = .ok (.iconst 1, 1) := by decide +kernel
theorem d_Chn_replaceName_88 : decode k_Chn_replaceName 88 = .ok (.iadd, 1) := by decide +kernel
theorem d_Chn_replaceName_89 : decode k_Chn_replaceName 89 = .ok (.putfield 38, 3) := by decide +kernel
theorem d_Chn_replaceName_92 : decode k_Chn_replaceName 92 = .ok (.iconst 1, 1) := by decide +kernel
theorem d_Chn_replaceName_93 : decode k_Chn_replaceName 93 = .ok (.ireturn, 1) := by decide +kernel
set_option maxHeartbeats 4000000 in
set_option maxRecDepth 100000 in
theorem c_Chn_replaceName1 (l : Launch) {B : Nat} {D : va_G} {cI cZ cQ : ClassId} {w : mm_M} {sz : Nat} {a ky sz9 us dl og : Nat} {g : Nat → Nat} {tl th fr to : Int32} {q iss gn nm9 su9 : Nat} {f2 t2 : Int32} (h_0 : w a = some (.inr (4, [.int (nI ky), .ref (a + 1), .int (nI sz9), .ref (a + 2), .ref (a + 4), .int (nI us), .int (nI dl)]))) (h_1 : w (a + 1) = some (.inl (cI, 4, .inl (fun i => nI (g i))))) (h_2 : w (a + 2) = some (.inr (5, [.int (nI og), .ref (a + 3)]))) (h_3 : w (a + 3) = some (.inr (6, [.int tl, .int th]))) (h_4 : w (a + 4) = some (.inr (6, [.int fr, .int to]))) (h_5 : w q = some (.inr (7, [.int (nI iss), .ref (q + 1), .int (nI gn), .int (nI nm9), .int (nI su9)]))) (h_6 : w (q + 1) = some (.inr (6, [.int f2, .int t2]))) (hus : us < 2 ^ 30) (hs4 : sz9 ≤ 4) (hky : ky ≤ 8) (his : iss ≤ 8) (hg0 : g 0 ≤ 8) (hn9 : nm9 ≤ 8) (hsu : su9 < 200) (hA : a + 5 ≤ q) (hok : 0 < us ∧ ¬ sz9 = 0 ∧ ky = iss ∧ g 0 = nm9 ∧ ch_a su9 + (sz9 - 1) ≤ 4) : Met l y_Chn_replaceName ws_Chn_replaceName (kk_rm 3 0 0) (kk_Pc B D cI cZ cQ [.ref a, .ref q] w sz) (kk_Qi B D (fun r w' sz' => r = nI 1 ∧ w' = mm_up (mm_up (mm_up w a (.inr (4, [.int (nI (su9 % 8)), .ref (a + 1), .int (nI (ch_a su9 + (sz9 - 1))), .ref (a + 2), .ref (a + 4), .int (nI (us + 1)), .int (nI dl)]))) (a + 1) (.inl (cI, 4, .inl (fun i => nI ((ch_put g su9 (sz9 - (sz9 - 1)) (sz9 - 1)) i))))) (a + 4) (.inr (6, [.int (if fr < f2 then f2 else fr), .int (if t2 < to then t2 else to)])) ∧ sz' = sz)) 0 0 (fun q => B ≤ q) := by
  refine Met.ofW (cc := k_Chn_replaceName) (maxL := 3) (ret := (some .boolean)) (by decide) rfl ?_
  intro p e s m args below meth c s₁ BB hml hv
  obtain ⟨rfl, hK, hP, hz, hBz⟩ := hv
  have hx := BB.exec
  have hb := BB.bytes
  have hr := BB.returns
  have hts := atoms_spec (ws := ws_Chn_replaceName) BB.pre
  have hown : s.vm.findClass "DelegationClosure$Chain" = some m.cls := findClass_of_methodNamed BB.named
  have hlocks := BB.notSynchronized
  have hS : mm_S B s.heap s.heap [] := va_S.rf
  have hl := lv_entry ([.ref a, .ref q]) (n := 3) (Nat.le_of_ble_eq_true rfl)
  rw [lg_entry_eq]
  generalize (lg_sl ([.ref a, .ref q]) ++ List.replicate (3 - (lg_sl ([.ref a, .ref q])).length) Slot.unset).toArray = ls at hl ⊢
  have hl : lv_has ls 3 [(0, .ref a), (1, .ref q)] := hl
  have hA2 := ch_a_le su9
  refine lv_aload_n hx hb d_Chn_replaceName_0 rfl (lv_at hl 0 rfl) ?_
  refine vp_callSi (va_Run.run (va_runV (As := []) (rest := []) ⟨hx, hb, hml, hown, hts⟩ (c_Chn_isThere l h_0 (by omega)) (cwV 0 hts (gW_in (hd := [_, _, _, _, _]) (kk_5 wd_437 wd_438 wd_439 wd_5 cw_Chn_isThere)) rfl rfl rfl ⟨rfl, ds_Chn_isThere⟩ ⟨Nat.le_of_ble_eq_true rfl, Nat.le_of_ble_eq_true rfl⟩) (kk_preV hK hP hz hBz h_0 rfl) rfl rfl hl.1 rfl (lv_room (Nat.le_of_ble_eq_true rfl)) d_Chn_replaceName_1 ⟨Nat.le_of_ble_eq_true rfl, Nat.le_of_ble_eq_true rfl⟩)) (fun r1 hr1 => ?_)
  subst hr1
  refine lv_if_eq (tgt := 38) hx hb d_Chn_replaceName_4 (by decide) (fun cc2 => ?_) (fun cc2 => ?_)
  · have cc2 := kk_b0 cc2
    exact absurd hok.1 cc2
  · have cc2 := kk_b1 cc2
    refine lv_aload_n hx hb d_Chn_replaceName_7 rfl (lv_at hl 0 rfl) ?_
    refine mm_get (D := D) (C := n_Chn) (T := T_Chn) (N := 7) (v := .int (nI sz9)) hx hb hts lay_Chn hown hK.1 hP h_0 rfl 2 (by decide) (hts _ (List.mem_cons_of_mem _ wd_109)) (fun _ h9 => h9) rfl d_Chn_replaceName_8 ?_
    refine lv_if_eq (tgt := 38) hx hb d_Chn_replaceName_11 (by decide) (fun cc3 => ?_) (fun cc3 => ?_)
    · rw [← nI_0] at cc3
      have cc3 : sz9 = 0 := (nI_eq (by omega) (by omega)).mp cc3
      exact absurd cc3 (by omega)
    · rw [← nI_0] at cc3
      have cc3 : ¬ (sz9 = 0) := fun q => cc3 ((nI_eq (by omega) (by omega)).mpr q)
      refine lv_aload_n hx hb d_Chn_replaceName_14 rfl (lv_at hl 0 rfl) ?_
      refine mm_get (D := D) (C := n_Chn) (T := T_Chn) (N := 7) (v := .int (nI ky)) hx hb hts lay_Chn hown hK.1 hP h_0 rfl 0 (by decide) (hts _ (List.mem_cons_of_mem _ wd_105)) (fun _ h9 => h9) rfl d_Chn_replaceName_15 ?_
      refine lv_aload_n hx hb d_Chn_replaceName_18 rfl (lv_at hl 1 rfl) ?_
      refine mm_get (D := D) (C := n_Nam) (T := T_Nam) (N := 5) (v := .int (nI iss)) hx hb hts lay_Nam hown hK.1 hP h_5 rfl 0 (by decide) (hts _ (List.mem_cons_of_mem _ wd_185)) (fun x9 h9 => u_same (hts _ (List.mem_cons_of_mem _ wd_184)) x9 h9) rfl d_Chn_replaceName_19 ?_
      refine lv_icmp_ne (tgt := 38) hx hb d_Chn_replaceName_22 (by decide) (fun cc4 => ?_) (fun cc4 => ?_)
      · have cc4 : ¬ (ky = iss) := fun q => cc4 ((nI_eq (by omega) (by omega)).mpr q)
        exact absurd cc4 (by omega)
      · have cc4 : ky = iss := (nI_eq (by omega) (by omega)).mp cc4
        refine lv_aload_n hx hb d_Chn_replaceName_25 rfl (lv_at hl 0 rfl) ?_
        refine mm_get (D := D) (C := n_Chn) (T := T_Chn) (N := 7) (v := .ref (a + 1)) hx hb hts lay_Chn hown hK.1 hP h_0 rfl 1 (by decide) (hts _ (List.mem_cons_of_mem _ wd_107)) (fun _ h9 => h9) rfl d_Chn_replaceName_26 ?_
        refine lv_iconst (v := nI 0) hx hb d_Chn_replaceName_29 (by decide) ?_
        refine mm_iald hx hb hK.1 hP 0 h_1 rfl 0 rfl (by omega) (by decide) d_Chn_replaceName_30 ?_
        refine W.eq (g2 := F0 m 31 ls [.int (nI (g 0))]) rfl ?_
        refine lv_aload_n hx hb d_Chn_replaceName_31 rfl (lv_at hl 1 rfl) ?_
        refine mm_get (D := D) (C := n_Nam) (T := T_Nam) (N := 5) (v := .int (nI nm9)) hx hb hts lay_Nam hown hK.1 hP h_5 rfl 3 (by decide) (hts _ (List.mem_cons_of_mem _ wd_178)) (fun _ h9 => h9) rfl d_Chn_replaceName_32 ?_
        refine lv_icmp_eq (tgt := 40) hx hb d_Chn_replaceName_35 (by decide) (fun cc5 => ?_) (fun cc5 => ?_)
        · have cc5 : g 0 = nm9 := (nI_eq (by omega) (by omega)).mp cc5
          refine lv_aload_n hx hb d_Chn_replaceName_40 rfl (lv_at hl 0 rfl) ?_
          refine mm_get (D := D) (C := n_Chn) (T := T_Chn) (N := 7) (v := .int (nI sz9)) hx hb hts lay_Chn hown hK.1 hP h_0 rfl 2 (by decide) (hts _ (List.mem_cons_of_mem _ wd_109)) (fun _ h9 => h9) rfl d_Chn_replaceName_41 ?_
          refine lv_iconst (v := nI 1) hx hb d_Chn_replaceName_44 (by decide) ?_
          refine lv_isub hx hb d_Chn_replaceName_45 ?_
          refine kk_top (pk_sub (by omega)) ?_
          refine lv_istore_n hx hb d_Chn_replaceName_46 rfl hl (by decide) rfl (fun ls hl => ?_)
          have hl : lv_has ls 3 [(2, .int (nI (sz9 - 1))), (0, .ref a), (1, .ref q)] := hl
          refine lv_aload_n hx hb d_Chn_replaceName_47 rfl (lv_at hl 2 rfl) ?_
          refine mm_get (D := D) (C := n_Nam) (T := T_Nam) (N := 5) (v := .int (nI su9)) hx hb hts lay_Nam hown hK.1 hP h_5 rfl 4 (by decide) (hts _ (List.mem_cons_of_mem _ wd_181)) (fun _ h9 => h9) rfl d_Chn_replaceName_48 ?_
          refine vp_callSi (va_Run.run (va_runSN (As := [.int (nI su9)]) (rest := []) ⟨hx, hb, hml, hown, hts⟩ (c_X_namesIn l (by omega)) ⟨va_cnB 1 hts (gW_in (hd := [_]) (kk_1 cw_X_namesIn)) rfl rfl rfl (hK.2.1 _ nw_410 rfl) (hts _ (List.mem_cons_of_mem _ wd_1)) ds_X_namesIn ⟨Nat.le_of_ble_eq_true rfl, Nat.le_of_ble_eq_true rfl⟩, (hts _ (List.mem_cons_of_mem _ wd_411)), trivial⟩ (kk_preS hK hP hz hBz) rfl rfl hl.1 rfl (lv_room (Nat.le_of_ble_eq_true rfl)) d_Chn_replaceName_51 ⟨Nat.le_of_ble_eq_true rfl, Nat.le_of_ble_eq_true rfl⟩)) (fun r6 hr6 => ?_)
          subst hr6
          refine kk_top (y := nI (ch_a su9)) (rfl) ?_
          refine lv_iload_n hx hb d_Chn_replaceName_54 rfl (lv_at hl 0 rfl) ?_
          refine lv_iadd hx hb d_Chn_replaceName_55 ?_
          refine kk_top (nI_add _ _) ?_
          refine lv_iconst (v := nI 4) hx hb d_Chn_replaceName_56 (by decide) ?_
          refine lv_icmp_le (tgt := 62) hx hb d_Chn_replaceName_57 (by decide) (fun cc7 => ?_) (fun cc7 => ?_)
          · have cc7 : (ch_a su9) + (sz9 - 1) ≤ 4 := (nI_leI (by omega) (by omega)).mp cc7
            refine lv_aload_n hx hb d_Chn_replaceName_62 rfl (lv_at hl 1 rfl) ?_
            refine lv_aload_n hx hb d_Chn_replaceName_63 rfl (lv_at hl 2 rfl) ?_
            refine mm_get (D := D) (C := n_Nam) (T := T_Nam) (N := 5) (v := .int (nI su9)) hx hb hts lay_Nam hown hK.1 hP h_5 rfl 4 (by decide) (hts _ (List.mem_cons_of_mem _ wd_181)) (fun _ h9 => h9) rfl d_Chn_replaceName_64 ?_
            refine lv_iload_n hx hb d_Chn_replaceName_67 rfl (lv_at hl 0 rfl) ?_
            refine kk_callv (va_runV (As := [.int (nI su9), .int (nI (sz9 - 1))]) (rest := []) ⟨hx, hb, hml, hown, hts⟩ (c_Chn_putAhead l h_0 h_1 (by omega) (by omega) (by omega) (by omega) (by omega)) (cwV 2 hts (gW_in (hd := [_, _, _, _, _]) (kk_5 wd_406 wd_408 sl_Chn_putAhead wd_5 cw_Chn_putAhead)) rfl rfl rfl ⟨rfl, ds_Chn_putAhead⟩ ⟨Nat.le_of_ble_eq_true rfl, Nat.le_of_ble_eq_true rfl⟩) (kk_preV hK hP hz hBz h_0 rfl) rfl rfl hl.1 rfl (lv_room (Nat.le_of_ble_eq_true rfl)) d_Chn_replaceName_68 ⟨Nat.le_of_ble_eq_true rfl, Nat.le_of_ble_eq_true rfl⟩) hS (fun w8 sz8 H locs hp8 hP hz hS => ?_)
            obtain ⟨he8, hs8⟩ := hp8
            have hz : H.size = sz := hz.trans hs8
            have hw9 : w8 = mm_up (mm_up w a (.inr (4, [.int (nI (su9 % 8)), .ref (a + 1), .int (nI (ch_a su9 + (sz9 - 1))), .ref (a + 2), .ref (a + 4), .int (nI us), .int (nI dl)]))) (a + 1) (.inl (cI, 4, .inl (fun i => nI ((ch_put g su9 (sz9 - (sz9 - 1)) (sz9 - 1)) i)))) := he8
            have fr9 : ∀ j, j ≠ a → j ≠ a + 1 → w8 j = w j := fun j h90 h91 => by rw [hw9]; exact (mm_un h91).trans (mm_un h90)
            have fa9_0 : w8 a = some (.inr (4, [.int (nI (su9 % 8)), .ref (a + 1), .int (nI (ch_a su9 + (sz9 - 1))), .ref (a + 2), .ref (a + 4), .int (nI us), .int (nI dl)])) := by rw [hw9]; exact (mm_un (by omega)).trans (mm_us _ _ _)
            have fa9_1 : w8 (a + 1) = some (.inl (cI, 4, .inl (fun i => nI ((ch_put g su9 (sz9 - (sz9 - 1)) (sz9 - 1)) i)))) := by rw [hw9]; exact mm_us _ _ _
            refine lv_aload_n hx hb d_Chn_replaceName_71 rfl (lv_at hl 1 rfl) ?_
            refine mm_get (D := D) (C := n_Chn) (T := T_Chn) (N := 7) (v := .ref (a + 4)) hx hb hts lay_Chn hown hK.1 hP fa9_0 rfl 4 (by decide) (hts _ (List.mem_cons_of_mem _ wd_112)) (fun _ h9 => h9) rfl d_Chn_replaceName_72 ?_
            refine lv_aload_n hx hb d_Chn_replaceName_75 rfl (lv_at hl 2 rfl) ?_
            have f10 := (fr9 _ (by omega) (by omega)).trans (h_5)
            refine mm_get (D := D) (C := n_Nam) (T := T_Nam) (N := 5) (v := .ref (q + 1)) hx hb hts lay_Nam hown hK.1 hP f10 rfl 1 (by decide) (hts _ (List.mem_cons_of_mem _ wd_196)) (fun x9 h9 => u_same (hts _ (List.mem_cons_of_mem _ wd_195)) x9 h9) rfl d_Chn_replaceName_76 ?_
            have f11 := (fr9 _ (by omega) (by omega)).trans (h_4)
            have f12 := (fr9 _ (by omega) (by omega)).trans (h_6)
            refine kk_callv (va_runV (As := [.ref (q + 1)]) (rest := []) ⟨hx, hb, hml, hown, hts⟩ (c_Spn_narrowTo l f11 f12) (cwV 1 hts (gW_in (hd := [_, _, _, _, _]) (kk_5 wd_441 wd_442 wd_443 wd_7 cw_Spn_narrowTo)) rfl rfl rfl ⟨rfl, ds_Spn_narrowTo⟩ ⟨Nat.le_of_ble_eq_true rfl, Nat.le_of_ble_eq_true rfl⟩) (kk_preV hK hP hz hBz f11 rfl) rfl rfl hl.1 rfl (lv_room (Nat.le_of_ble_eq_true rfl)) d_Chn_replaceName_79 ⟨Nat.le_of_ble_eq_true rfl, Nat.le_of_ble_eq_true rfl⟩) hS (fun w13 sz13 H locs hp13 hP hz hS => ?_)
            obtain ⟨he13, hs13⟩ := hp13
            have hz : H.size = sz := hz.trans hs13
            have hw14 : w13 = mm_up w8 (a + 4) (.inr (6, [.int (if fr < f2 then f2 else fr), .int (if t2 < to then t2 else to)])) := he13
            have fr14 : ∀ j, j ≠ a + 4 → w13 j = w8 j := fun j h90 => by rw [hw14]; exact mm_un h90
            have fa14_0 : w13 (a + 4) = some (.inr (6, [.int (if fr < f2 then f2 else fr), .int (if t2 < to then t2 else to)])) := by rw [hw14]; exact mm_us _ _ _
            refine lv_aload_n hx hb d_Chn_replaceName_82 rfl (lv_at hl 1 rfl) ?_
            refine lv_dup hx hb d_Chn_replaceName_83 rfl ?_
            have f15 := (fr14 _ (by omega)).trans (fa9_0)
            refine mm_get (D := D) (C := n_Chn) (T := T_Chn) (N := 7) (v := .int (nI us)) hx hb hts lay_Chn hown hK.1 hP f15 rfl 5 (by decide) (hts _ (List.mem_cons_of_mem _ wd_113)) (fun _ h9 => h9) rfl d_Chn_replaceName_84 ?_
            refine lv_iconst (v := nI 1) hx hb d_Chn_replaceName_87 (by decide) ?_
            refine lv_iadd hx hb d_Chn_replaceName_88 ?_
            refine kk_top (nI_add _ _) ?_
            refine mm_put (D := D) (C := n_Chn) (T := T_Chn) (N := 7) (v := .int (nI (us + 1))) (ty := .int) hx hb hts lay_Chn t_Chn ty_Chn nm_Chn hown hK.1 hP hS f15 rfl 5 (by decide) (hts _ (List.mem_cons_of_mem _ wd_113)) (fun _ h9 => h9) rfl (by decide +kernel) rfl rfl (Nat.le_of_ble_eq_true rfl) d_Chn_replaceName_89 (fun H locs hP hz1 hS => ?_)
            have hz : H.size = sz := hz1.trans hz
            obtain ⟨w16, hw16⟩ : ∃ z : mm_M, z = mm_up w13 a (.inr (4, [.int (nI (su9 % 8)), .ref (a + 1), .int (nI (ch_a su9 + (sz9 - 1))), .ref (a + 2), .ref (a + 4), .int (nI (us + 1)), .int (nI dl)])) := ⟨_, rfl⟩
            have hP : mm_P B D kc w16 H := by rw [hw16]; exact hP
            have fr16 : ∀ j, j ≠ a → w16 j = w13 j := fun j h9 => by rw [hw16]; exact mm_un h9
            have fa16 : w16 a = some (.inr (4, [.int (nI (su9 % 8)), .ref (a + 1), .int (nI (ch_a su9 + (sz9 - 1))), .ref (a + 2), .ref (a + 4), .int (nI (us + 1)), .int (nI dl)])) := by rw [hw16]; exact mm_us _ _ _
            refine lv_iconst (v := nI 1) hx hb d_Chn_replaceName_92 (by decide) ?_
            exact W.zret hx hb hr rfl (fun t ht hW => ⟨⟨_, (w16, sz), rfl, ⟨rfl, mm_e3 fa16 ((fr16 _ (by omega)).trans ((fr14 _ (by omega)).trans (fa9_1))) ((fr16 _ (by omega)).trans (fa14_0)) (fun j g0 g1 g2 => (fr16 j g0).trans ((fr14 j g2).trans (fr9 j g0 g1))), rfl⟩, by rw [ht]; exact hP, by rw [ht]; exact hz⟩, hS.F ht⟩) hS.2.2 d_Chn_replaceName_93
          · have cc7 : ¬ ((ch_a su9) + (sz9 - 1) ≤ 4) := fun q => cc7 ((nI_leI (by omega) (by omega)).mpr q)
            exact absurd cc7 (by omega)
        · have cc5 : ¬ (g 0 = nm9) := fun q => cc5 ((nI_eq (by omega) (by omega)).mpr q)
          exact absurd cc5 (by omega)
set_option maxHeartbeats 4000000 in
set_option maxRecDepth 100000 in
theorem c_Chn_replaceName0 (l : Launch) {B : Nat} {D : va_G} {cI cZ cQ : ClassId} {w : mm_M} {sz : Nat} {a ky sz9 us dl og : Nat} {g : Nat → Nat} {tl th fr to : Int32} {q iss gn nm9 su9 : Nat} {f2 t2 : Int32} (h_0 : w a = some (.inr (4, [.int (nI ky), .ref (a + 1), .int (nI sz9), .ref (a + 2), .ref (a + 4), .int (nI us), .int (nI dl)]))) (h_1 : w (a + 1) = some (.inl (cI, 4, .inl (fun i => nI (g i))))) (h_2 : w (a + 2) = some (.inr (5, [.int (nI og), .ref (a + 3)]))) (h_3 : w (a + 3) = some (.inr (6, [.int tl, .int th]))) (h_4 : w (a + 4) = some (.inr (6, [.int fr, .int to]))) (h_5 : w q = some (.inr (7, [.int (nI iss), .ref (q + 1), .int (nI gn), .int (nI nm9), .int (nI su9)]))) (h_6 : w (q + 1) = some (.inr (6, [.int f2, .int t2]))) (hus : us < 2 ^ 30) (hs4 : sz9 ≤ 4) (hky : ky ≤ 8) (his : iss ≤ 8) (hg0 : g 0 ≤ 8) (hn9 : nm9 ≤ 8) (hsu : su9 < 200) (hA : a + 5 ≤ q) (hok : ¬ (0 < us ∧ ¬ sz9 = 0 ∧ ky = iss ∧ g 0 = nm9 ∧ ch_a su9 + (sz9 - 1) ≤ 4)) : Met l y_Chn_replaceName ws_Chn_replaceName (kk_rm 3 0 0) (kk_Pc B D cI cZ cQ [.ref a, .ref q] w sz) (vp_Si (fun r => r = nI 0)) 0 0 (fun _ => False) := by
  refine Met.ofW (cc := k_Chn_replaceName) (maxL := 3) (ret := (some .boolean)) (by decide) rfl ?_
  intro p e s m args below meth c s₁ BB hml hv
  obtain ⟨rfl, hK, hP, hz, hBz⟩ := hv
  have hx := BB.exec
  have hb := BB.bytes
  have hr := BB.returns
  have hts := atoms_spec (ws := ws_Chn_replaceName) BB.pre
  have hown : s.vm.findClass "DelegationClosure$Chain" = some m.cls := findClass_of_methodNamed BB.named
  have hlocks := BB.notSynchronized
  have hS : mm_S B s.heap s.heap [] := va_S.rf
  have hl := lv_entry ([.ref a, .ref q]) (n := 3) (Nat.le_of_ble_eq_true rfl)
  rw [lg_entry_eq]
  generalize (lg_sl ([.ref a, .ref q]) ++ List.replicate (3 - (lg_sl ([.ref a, .ref q])).length) Slot.unset).toArray = ls at hl ⊢
  have hl : lv_has ls 3 [(0, .ref a), (1, .ref q)] := hl
  have hA2 := ch_a_le su9
  refine lv_aload_n hx hb d_Chn_replaceName_0 rfl (lv_at hl 0 rfl) ?_
  refine vp_callSi (va_Run.run (va_runV (As := []) (rest := []) ⟨hx, hb, hml, hown, hts⟩ (c_Chn_isThere l h_0 (by omega)) (cwV 0 hts (gW_in (hd := [_, _, _, _, _]) (kk_5 wd_437 wd_438 wd_439 wd_5 cw_Chn_isThere)) rfl rfl rfl ⟨rfl, ds_Chn_isThere⟩ ⟨Nat.le_of_ble_eq_true rfl, Nat.le_of_ble_eq_true rfl⟩) (kk_preV hK hP hz hBz h_0 rfl) rfl rfl hl.1 rfl (lv_room (Nat.le_of_ble_eq_true rfl)) d_Chn_replaceName_1 ⟨Nat.le_of_ble_eq_true rfl, Nat.le_of_ble_eq_true rfl⟩)) (fun r1 hr1 => ?_)
  subst hr1
  refine lv_if_eq (tgt := 38) hx hb d_Chn_replaceName_4 (by decide) (fun cc2 => ?_) (fun cc2 => ?_)
  · have cc2 := kk_b0 cc2
    refine lv_iconst (v := nI 0) hx hb d_Chn_replaceName_38 (by decide) ?_
    exact W.zret hx hb hr rfl (fun t ht hW => ⟨_, rfl, rfl, ht⟩) (fun q hq => by cases hq) d_Chn_replaceName_39
  · have cc2 := kk_b1 cc2
    refine lv_aload_n hx hb d_Chn_replaceName_7 rfl (lv_at hl 0 rfl) ?_
    refine mm_get (D := D) (C := n_Chn) (T := T_Chn) (N := 7) (v := .int (nI sz9)) hx hb hts lay_Chn hown hK.1 hP h_0 rfl 2 (by decide) (hts _ (List.mem_cons_of_mem _ wd_109)) (fun _ h9 => h9) rfl d_Chn_replaceName_8 ?_
    refine lv_if_eq (tgt := 38) hx hb d_Chn_replaceName_11 (by decide) (fun cc3 => ?_) (fun cc3 => ?_)
    · rw [← nI_0] at cc3
      have cc3 : sz9 = 0 := (nI_eq (by omega) (by omega)).mp cc3
      refine lv_iconst (v := nI 0) hx hb d_Chn_replaceName_38 (by decide) ?_
      exact W.zret hx hb hr rfl (fun t ht hW => ⟨_, rfl, rfl, ht⟩) (fun q hq => by cases hq) d_Chn_replaceName_39
    · rw [← nI_0] at cc3
      have cc3 : ¬ (sz9 = 0) := fun q => cc3 ((nI_eq (by omega) (by omega)).mpr q)
      refine lv_aload_n hx hb d_Chn_replaceName_14 rfl (lv_at hl 0 rfl) ?_
      refine mm_get (D := D) (C := n_Chn) (T := T_Chn) (N := 7) (v := .int (nI ky)) hx hb hts lay_Chn hown hK.1 hP h_0 rfl 0 (by decide) (hts _ (List.mem_cons_of_mem _ wd_105)) (fun _ h9 => h9) rfl d_Chn_replaceName_15 ?_
      refine lv_aload_n hx hb d_Chn_replaceName_18 rfl (lv_at hl 1 rfl) ?_
      refine mm_get (D := D) (C := n_Nam) (T := T_Nam) (N := 5) (v := .int (nI iss)) hx hb hts lay_Nam hown hK.1 hP h_5 rfl 0 (by decide) (hts _ (List.mem_cons_of_mem _ wd_185)) (fun x9 h9 => u_same (hts _ (List.mem_cons_of_mem _ wd_184)) x9 h9) rfl d_Chn_replaceName_19 ?_
      refine lv_icmp_ne (tgt := 38) hx hb d_Chn_replaceName_22 (by decide) (fun cc4 => ?_) (fun cc4 => ?_)
      · have cc4 : ¬ (ky = iss) := fun q => cc4 ((nI_eq (by omega) (by omega)).mpr q)
        refine lv_iconst (v := nI 0) hx hb d_Chn_replaceName_38 (by decide) ?_
        exact W.zret hx hb hr rfl (fun t ht hW => ⟨_, rfl, rfl, ht⟩) (fun q hq => by cases hq) d_Chn_replaceName_39
      · have cc4 : ky = iss := (nI_eq (by omega) (by omega)).mp cc4
        refine lv_aload_n hx hb d_Chn_replaceName_25 rfl (lv_at hl 0 rfl) ?_
        refine mm_get (D := D) (C := n_Chn) (T := T_Chn) (N := 7) (v := .ref (a + 1)) hx hb hts lay_Chn hown hK.1 hP h_0 rfl 1 (by decide) (hts _ (List.mem_cons_of_mem _ wd_107)) (fun _ h9 => h9) rfl d_Chn_replaceName_26 ?_
        refine lv_iconst (v := nI 0) hx hb d_Chn_replaceName_29 (by decide) ?_
        refine mm_iald hx hb hK.1 hP 0 h_1 rfl 0 rfl (by omega) (by decide) d_Chn_replaceName_30 ?_
        refine W.eq (g2 := F0 m 31 ls [.int (nI (g 0))]) rfl ?_
        refine lv_aload_n hx hb d_Chn_replaceName_31 rfl (lv_at hl 1 rfl) ?_
        refine mm_get (D := D) (C := n_Nam) (T := T_Nam) (N := 5) (v := .int (nI nm9)) hx hb hts lay_Nam hown hK.1 hP h_5 rfl 3 (by decide) (hts _ (List.mem_cons_of_mem _ wd_178)) (fun _ h9 => h9) rfl d_Chn_replaceName_32 ?_
        refine lv_icmp_eq (tgt := 40) hx hb d_Chn_replaceName_35 (by decide) (fun cc5 => ?_) (fun cc5 => ?_)
        · have cc5 : g 0 = nm9 := (nI_eq (by omega) (by omega)).mp cc5
          refine lv_aload_n hx hb d_Chn_replaceName_40 rfl (lv_at hl 0 rfl) ?_
          refine mm_get (D := D) (C := n_Chn) (T := T_Chn) (N := 7) (v := .int (nI sz9)) hx hb hts lay_Chn hown hK.1 hP h_0 rfl 2 (by decide) (hts _ (List.mem_cons_of_mem _ wd_109)) (fun _ h9 => h9) rfl d_Chn_replaceName_41 ?_
          refine lv_iconst (v := nI 1) hx hb d_Chn_replaceName_44 (by decide) ?_
          refine lv_isub hx hb d_Chn_replaceName_45 ?_
          refine kk_top (pk_sub (by omega)) ?_
          refine lv_istore_n hx hb d_Chn_replaceName_46 rfl hl (by decide) rfl (fun ls hl => ?_)
          have hl : lv_has ls 3 [(2, .int (nI (sz9 - 1))), (0, .ref a), (1, .ref q)] := hl
          refine lv_aload_n hx hb d_Chn_replaceName_47 rfl (lv_at hl 2 rfl) ?_
          refine mm_get (D := D) (C := n_Nam) (T := T_Nam) (N := 5) (v := .int (nI su9)) hx hb hts lay_Nam hown hK.1 hP h_5 rfl 4 (by decide) (hts _ (List.mem_cons_of_mem _ wd_181)) (fun _ h9 => h9) rfl d_Chn_replaceName_48 ?_
          refine vp_callSi (va_Run.run (va_runSN (As := [.int (nI su9)]) (rest := []) ⟨hx, hb, hml, hown, hts⟩ (c_X_namesIn l (by omega)) ⟨va_cnB 1 hts (gW_in (hd := [_]) (kk_1 cw_X_namesIn)) rfl rfl rfl (hK.2.1 _ nw_410 rfl) (hts _ (List.mem_cons_of_mem _ wd_1)) ds_X_namesIn ⟨Nat.le_of_ble_eq_true rfl, Nat.le_of_ble_eq_true rfl⟩, (hts _ (List.mem_cons_of_mem _ wd_411)), trivial⟩ (kk_preS hK hP hz hBz) rfl rfl hl.1 rfl (lv_room (Nat.le_of_ble_eq_true rfl)) d_Chn_replaceName_51 ⟨Nat.le_of_ble_eq_true rfl, Nat.le_of_ble_eq_true rfl⟩)) (fun r6 hr6 => ?_)
          subst hr6
          refine kk_top (y := nI (ch_a su9)) (rfl) ?_
          refine lv_iload_n hx hb d_Chn_replaceName_54 rfl (lv_at hl 0 rfl) ?_
          refine lv_iadd hx hb d_Chn_replaceName_55 ?_
          refine kk_top (nI_add _ _) ?_
          refine lv_iconst (v := nI 4) hx hb d_Chn_replaceName_56 (by decide) ?_
          refine lv_icmp_le (tgt := 62) hx hb d_Chn_replaceName_57 (by decide) (fun cc7 => ?_) (fun cc7 => ?_)
          · have cc7 : (ch_a su9) + (sz9 - 1) ≤ 4 := (nI_leI (by omega) (by omega)).mp cc7
            exact absurd ⟨cc2, cc3, cc4, cc5, cc7⟩ hok
          · have cc7 : ¬ ((ch_a su9) + (sz9 - 1) ≤ 4) := fun q => cc7 ((nI_leI (by omega) (by omega)).mpr q)
            refine lv_iconst (v := nI 0) hx hb d_Chn_replaceName_60 (by decide) ?_
            exact W.zret hx hb hr rfl (fun t ht hW => ⟨_, rfl, rfl, ht⟩) (fun q hq => by cases hq) d_Chn_replaceName_61
        · have cc5 : ¬ (g 0 = nm9) := fun q => cc5 ((nI_eq (by omega) (by omega)).mpr q)
          refine lv_iconst (v := nI 0) hx hb d_Chn_replaceName_38 (by decide) ?_
          exact W.zret hx hb hr rfl (fun t ht hW => ⟨_, rfl, rfl, ht⟩) (fun q hq => by cases hq) d_Chn_replaceName_39
theorem d_Chn_passOn_0 : decode k_Chn_passOn 0 = .ok (.aload_n 0, 1) := by decide +kernel
theorem d_Chn_passOn_1 : decode k_Chn_passOn 1 = .ok (.invokevirtual 63, 3) := by decide +kernel
theorem d_Chn_passOn_4 : decode k_Chn_passOn 4 = .ok (.ifCond .eq 28, 3) := by decide +kernel
theorem d_Chn_passOn_7 : decode k_Chn_passOn 7 = .ok (.aload_n 0, 1) := by decide +kernel
theorem d_Chn_passOn_8 : decode k_Chn_passOn 8 = .ok (.getfield 19, 3) := by decide +kernel
theorem d_Chn_passOn_11 : decode k_Chn_passOn 11 = .ok (.ifCond .ne 21, 3) := by decide +kernel
theorem d_Chn_passOn_14 : decode k_Chn_passOn 14 = .ok (.aload_n 0, 1) := by decide +kernel
theorem d_Chn_passOn_15 : decode k_Chn_passOn 15 = .ok (.getfield 9, 3) := by decide +kernel
theorem d_Chn_passOn_18 : decode k_Chn_passOn 18 = .ok (.aload_n 1, 1) := by decide +kernel
theorem d_Chn_passOn_19 : decode k_Chn_passOn 19 = .ok (.getfield 86, 3) := by decide +kernel
theorem d_Chn_passOn_22 : decode k_Chn_passOn 22 = .ok (.if_icmp .ne 10, 3) := by decide +kernel
theorem d_Chn_passOn_25 : decode k_Chn_passOn 25 = .ok (.aload_n 0, 1) := by decide +kernel
theorem d_Chn_passOn_26 : decode k_Chn_passOn 26 = .ok (.getfield 41, 3) := by decide +kernel
theorem d_Chn_passOn_29 : decode k_Chn_passOn 29 = .ok (.ifCond .ne 5, 3) := by decide +kernel
theorem d_Chn_passOn_32 : decode k_Chn_passOn 32 = .ok (.iconst 0, 1) := by decide +kernel
theorem d_Chn_passOn_33 : decode k_Chn_passOn 33 = .ok (.ireturn, 1) := by decide +kernel
theorem d_Chn_passOn_34 : decode k_Chn_passOn 34 = .ok (.aload_n 1, 1) := by decide +kernel
theorem d_Chn_passOn_35 : decode k_Chn_passOn 35 = .ok (.getfield 87, 3) := by decide +kernel
theorem d_Chn_passOn_38 : decode k_Chn_passOn 38 = .ok (.iconst 1, 1) := by decide +kernel
theorem d_Chn_passOn_39 : decode k_Chn_passOn 39 = .ok (.if_icmp .le 5, 3) := by decide +kernel
theorem d_Chn_passOn_42 : decode k_Chn_passOn 42 = .ok (.iconst 0, 1) := by decide +kernel
theorem d_Chn_passOn_43 : decode k_Chn_passOn 43 = .ok (.ireturn, 1) := by decide +kernel
theorem d_Chn_passOn_44 : decode k_Chn_passOn 44 = .ok (.aload_n 0, 1) := by decide +kernel
theorem d_Chn_passOn_45 : decode k_Chn_passOn 45 = .ok (.aload_n 1, 1) := by decide +kernel
theorem d_Chn_passOn_46 : decode k_Chn_passOn 46 = .ok (.getfield 45, 3) := by decide +kernel
theorem d_Chn_passOn_49 : decode k_Chn_passOn 49 = .ok (.iconst 0, 1) := by decide +kernel
theorem d_Chn_passOn_50 : decode k_Chn_passOn 50 = .ok (.iaload, 1) := by decide +kernel
theorem d_Chn_passOn_51 : decode k_Chn_passOn 51 = .ok (.iconst 0, 1) := by decide +kernel
theorem d_Chn_passOn_52 : decode k_Chn_passOn 52 = .ok (.invokevirtual 50, 3) := by decide +kernel
theorem d_Chn_passOn_55 : decode k_Chn_passOn 55 = .ok (.aload_n 0, 1) := by decide +kernel
theorem d_Chn_passOn_56 : decode k_Chn_passOn 56 = .ok (.getfield 25, 3) := by decide +kernel
theorem d_Chn_passOn_59 : decode k_Chn_passOn 59 = .ok (.aload_n 1, 1) := by decide +kernel
theorem d_Chn_passOn_60 : decode k_Chn_passOn 60 = .ok (.getfield 53, 3) := by decide +kernel
theorem d_Chn_passOn_63 : decode k_Chn_passOn 63 = .ok (.invokevirtual 88, 3) := by decide +kernel
theorem d_Chn_passOn_66 : decode k_Chn_passOn 66 = .ok (.aload_n 0, 1) := by decide +kernel
theorem d_Chn_passOn_67 : decode k_Chn_passOn 67 = .ok (.getfield 34, 3) := by decide +kernel
theorem d_Chn_passOn_70 : decode k_Chn_passOn 70 = .ok (.aload_n 1, 1) := by decide +kernel
theorem d_Chn_passOn_71 : decode k_Chn_passOn 71 = .ok (.getfield 58, 3) := by decide +kernel
theorem d_Chn_passOn_74 : decode k_Chn_passOn 74 = .ok (.invokevirtual 83, 3) := by decide +kernel
theorem d_Chn_passOn_77 : decode k_Chn_passOn 77 = .ok (.aload_n 0, 1) := by decide +kernel
theorem d_Chn_passOn_78 : decode k_Chn_passOn 78 = .ok (.aload_n 1, 1) := by decide +kernel
theorem d_Chn_passOn_79 : decode k_Chn_passOn 79 = .ok (.getfield 62, 3) := by decide +kernel
theorem d_Chn_passOn_82 : decode k_Chn_passOn 82 = .ok (.putfield 41, 3) := by decide +kernel
theorem d_Chn_passOn_85 : decode k_Chn_passOn 85 = .ok (.aload_n 0, 1) := by decide +kernel
theorem d_Chn_passOn_86 : decode k_Chn_passOn 86 = .ok (.dup, 1) := by decide +kernel
theorem d_Chn_passOn_87 : decode k_Chn_passOn 87 = .ok (.getfield 38, 3) := by decide +kernel
theorem d_Chn_passOn_90 : decode k_Chn_passOn 90 = .ok (.iconst 1, 1) := by decide +kernel
theorem d_Chn_passOn_91 : decode k_Chn_passOn 91 = .ok (.iadd, 1) := by decide +kernel
theorem d_Chn_passOn_92 : decode k_Chn_passOn 92 = .ok (.putfield 38, 3) := by decide +kernel
theorem d_Chn_passOn_95 : decode k_Chn_passOn 95 = .ok (.iconst 1, 1) := by decide +kernel
theorem d_Chn_passOn_96 : decode k_Chn_passOn 96 = .ok (.ireturn, 1) := by decide +kernel
set_option maxHeartbeats 4000000 in
set_option maxRecDepth 100000 in
theorem c_Chn_passOn1 (l : Launch) {B : Nat} {D : va_G} {cI cZ cQ : ClassId} {w : mm_M} {sz : Nat} {a ky sz9 us dl og : Nat} {g : Nat → Nat} {tl th fr to : Int32} {q iss gn dq mn nd o2 : Nat} {su : Nat → Nat} {f2 t2 l2 h2 : Int32} (h_0 : w a = some (.inr (4, [.int (nI ky), .ref (a + 1), .int (nI sz9), .ref (a + 2), .ref (a + 4), .int (nI us), .int (nI dl)]))) (h_1 : w (a + 1) = some (.inl (cI, 4, .inl (fun i => nI (g i))))) (h_2 : w (a + 2) = some (.inr (5, [.int (nI og), .ref (a + 3)]))) (h_3 : w (a + 3) = some (.inr (6, [.int tl, .int th]))) (h_4 : w (a + 4) = some (.inr (6, [.int fr, .int to]))) (h_5 : w q = some (.inr (8, [.int (nI iss), .ref (q + 1), .int (nI gn), .ref (q + 2), .ref (q + 3), .int (nI dq), .int (nI mn), .int (nI nd)]))) (h_6 : w (q + 1) = some (.inr (6, [.int f2, .int t2]))) (h_7 : w (q + 2) = some (.inl (cI, 3, .inl (fun i => nI (su i))))) (h_8 : w (q + 3) = some (.inr (5, [.int (nI o2), .ref (q + 4)]))) (h_9 : w (q + 4) = some (.inr (6, [.int l2, .int h2]))) (hus : us < 2 ^ 30) (hs4 : sz9 ≤ 4) (hky : ky ≤ 8) (his : iss ≤ 8) (hdl : dl ≤ 1) (hdq : dq ≤ 1) (hmn : mn ≤ 3) (hs0 : su 0 < 200) (hA : a + 5 ≤ q) (hok : 0 < us ∧ sz9 = 0 ∧ ky = iss ∧ ¬ dl = 0 ∧ mn ≤ 1) : Met l y_Chn_passOn ws_Chn_passOn (kk_rm 3 0 0) (kk_Pc B D cI cZ cQ [.ref a, .ref q] w sz) (kk_Qi B D (fun r w' sz' => r = nI 1 ∧ w' = mm_up (mm_up (mm_up (mm_up (mm_up w a (.inr (4, [.int (nI ((su 0) % 8)), .ref (a + 1), .int (nI (ch_a (su 0) + 0)), .ref (a + 2), .ref (a + 4), .int (nI (us + 1)), .int (nI dq)]))) (a + 1) (.inl (cI, 4, .inl (fun i => nI ((ch_put g (su 0) (sz9 - 0) 0) i))))) (a + 2) (.inr (5, [.int (nI (og &&& o2)), .ref (a + 3)]))) (a + 3) (.inr (6, [.int (if tl < l2 then l2 else tl), .int (if h2 < th then h2 else th)]))) (a + 4) (.inr (6, [.int (if fr < f2 then f2 else fr), .int (if t2 < to then t2 else to)])) ∧ sz' = sz)) 0 0 (fun q => B ≤ q) := by
  refine Met.ofW (cc := k_Chn_passOn) (maxL := 2) (ret := (some .boolean)) (by decide) rfl ?_
  intro p e s m args below meth c s₁ BB hml hv
  obtain ⟨rfl, hK, hP, hz, hBz⟩ := hv
  have hx := BB.exec
  have hb := BB.bytes
  have hr := BB.returns
  have hts := atoms_spec (ws := ws_Chn_passOn) BB.pre
  have hown : s.vm.findClass "DelegationClosure$Chain" = some m.cls := findClass_of_methodNamed BB.named
  have hlocks := BB.notSynchronized
  have hS : mm_S B s.heap s.heap [] := va_S.rf
  have hl := lv_entry ([.ref a, .ref q]) (n := 2) (Nat.le_of_ble_eq_true rfl)
  rw [lg_entry_eq]
  generalize (lg_sl ([.ref a, .ref q]) ++ List.replicate (2 - (lg_sl ([.ref a, .ref q])).length) Slot.unset).toArray = ls at hl ⊢
  have hl : lv_has ls 2 [(0, .ref a), (1, .ref q)] := hl
  have hA2 := ch_a_le (su 0)
  refine lv_aload_n hx hb d_Chn_passOn_0 rfl (lv_at hl 0 rfl) ?_
  refine vp_callSi (va_Run.run (va_runV (As := []) (rest := []) ⟨hx, hb, hml, hown, hts⟩ (c_Chn_isThere l h_0 (by omega)) (cwV 0 hts (gW_in (hd := [_, _, _, _, _]) (kk_5 wd_437 wd_438 wd_439 wd_5 cw_Chn_isThere)) rfl rfl rfl ⟨rfl, ds_Chn_isThere⟩ ⟨Nat.le_of_ble_eq_true rfl, Nat.le_of_ble_eq_true rfl⟩) (kk_preV hK hP hz hBz h_0 rfl) rfl rfl hl.1 rfl (lv_room (Nat.le_of_ble_eq_true rfl)) d_Chn_passOn_1 ⟨Nat.le_of_ble_eq_true rfl, Nat.le_of_ble_eq_true rfl⟩)) (fun r1 hr1 => ?_)
  subst hr1
  refine lv_if_eq (tgt := 32) hx hb d_Chn_passOn_4 (by decide) (fun cc2 => ?_) (fun cc2 => ?_)
  · have cc2 := kk_b0 cc2
    exact absurd hok.1 cc2
  · have cc2 := kk_b1 cc2
    refine lv_aload_n hx hb d_Chn_passOn_7 rfl (lv_at hl 0 rfl) ?_
    refine mm_get (D := D) (C := n_Chn) (T := T_Chn) (N := 7) (v := .int (nI sz9)) hx hb hts lay_Chn hown hK.1 hP h_0 rfl 2 (by decide) (hts _ (List.mem_cons_of_mem _ wd_109)) (fun _ h9 => h9) rfl d_Chn_passOn_8 ?_
    refine lv_if_ne (tgt := 32) hx hb d_Chn_passOn_11 (by decide) (fun cc3 => ?_) (fun cc3 => ?_)
    · rw [← nI_0] at cc3
      have cc3 : ¬ (sz9 = 0) := fun q => cc3 ((nI_eq (by omega) (by omega)).mpr q)
      exact absurd cc3 (by omega)
    · rw [← nI_0] at cc3
      have cc3 : sz9 = 0 := (nI_eq (by omega) (by omega)).mp cc3
      refine lv_aload_n hx hb d_Chn_passOn_14 rfl (lv_at hl 0 rfl) ?_
      refine mm_get (D := D) (C := n_Chn) (T := T_Chn) (N := 7) (v := .int (nI ky)) hx hb hts lay_Chn hown hK.1 hP h_0 rfl 0 (by decide) (hts _ (List.mem_cons_of_mem _ wd_105)) (fun _ h9 => h9) rfl d_Chn_passOn_15 ?_
      refine lv_aload_n hx hb d_Chn_passOn_18 rfl (lv_at hl 1 rfl) ?_
      refine mm_get (D := D) (C := n_Prm) (T := T_Prm) (N := 8) (v := .int (nI iss)) hx hb hts lay_Prm hown hK.1 hP h_5 rfl 0 (by decide) (hts _ (List.mem_cons_of_mem _ wd_188)) (fun x9 h9 => u_same (hts _ (List.mem_cons_of_mem _ wd_187)) x9 h9) rfl d_Chn_passOn_19 ?_
      refine lv_icmp_ne (tgt := 32) hx hb d_Chn_passOn_22 (by decide) (fun cc4 => ?_) (fun cc4 => ?_)
      · have cc4 : ¬ (ky = iss) := fun q => cc4 ((nI_eq (by omega) (by omega)).mpr q)
        exact absurd cc4 (by omega)
      · have cc4 : ky = iss := (nI_eq (by omega) (by omega)).mp cc4
        refine lv_aload_n hx hb d_Chn_passOn_25 rfl (lv_at hl 0 rfl) ?_
        refine mm_get (D := D) (C := n_Chn) (T := T_Chn) (N := 7) (v := .int (nI dl)) hx hb hts lay_Chn hown hK.1 hP h_0 rfl 6 (by decide) (hts _ (List.mem_cons_of_mem _ wd_115)) (fun _ h9 => h9) rfl d_Chn_passOn_26 ?_
        refine lv_if_ne (tgt := 34) hx hb d_Chn_passOn_29 (by decide) (fun cc5 => ?_) (fun cc5 => ?_)
        · rw [← nI_0] at cc5
          have cc5 : ¬ (dl = 0) := fun q => cc5 ((nI_eq (by omega) (by omega)).mpr q)
          refine lv_aload_n hx hb d_Chn_passOn_34 rfl (lv_at hl 1 rfl) ?_
          refine mm_get (D := D) (C := n_Prm) (T := T_Prm) (N := 8) (v := .int (nI mn)) hx hb hts lay_Prm hown hK.1 hP h_5 rfl 6 (by decide) (hts _ (List.mem_cons_of_mem _ wd_241)) (fun _ h9 => h9) rfl d_Chn_passOn_35 ?_
          refine lv_iconst (v := nI 1) hx hb d_Chn_passOn_38 (by decide) ?_
          refine lv_icmp_le (tgt := 44) hx hb d_Chn_passOn_39 (by decide) (fun cc6 => ?_) (fun cc6 => ?_)
          · have cc6 : mn ≤ 1 := (nI_leI (by omega) (by omega)).mp cc6
            refine lv_aload_n hx hb d_Chn_passOn_44 rfl (lv_at hl 0 rfl) ?_
            refine lv_aload_n hx hb d_Chn_passOn_45 rfl (lv_at hl 1 rfl) ?_
            refine mm_get (D := D) (C := n_Prm) (T := T_Prm) (N := 8) (v := .ref (q + 2)) hx hb hts lay_Prm hown hK.1 hP h_5 rfl 3 (by decide) (hts _ (List.mem_cons_of_mem _ wd_229)) (fun _ h9 => h9) rfl d_Chn_passOn_46 ?_
            refine lv_iconst (v := nI 0) hx hb d_Chn_passOn_49 (by decide) ?_
            refine mm_iald hx hb hK.1 hP 0 h_7 rfl 0 rfl (by omega) (by decide) d_Chn_passOn_50 ?_
            refine W.eq (g2 := F0 m 51 ls [.int (nI (su 0)), .ref a]) rfl ?_
            refine lv_iconst (v := nI 0) hx hb d_Chn_passOn_51 (by decide) ?_
            refine kk_callv (va_runV (As := [.int (nI (su 0)), .int (nI 0)]) (rest := []) ⟨hx, hb, hml, hown, hts⟩ (c_Chn_putAhead l h_0 h_1 (by omega) (by omega) (by omega) (by omega) (by omega)) (cwV 2 hts (gW_in (hd := [_, _, _, _, _]) (kk_5 wd_406 wd_408 sl_Chn_putAhead wd_5 cw_Chn_putAhead)) rfl rfl rfl ⟨rfl, ds_Chn_putAhead⟩ ⟨Nat.le_of_ble_eq_true rfl, Nat.le_of_ble_eq_true rfl⟩) (kk_preV hK hP hz hBz h_0 rfl) rfl rfl hl.1 rfl (lv_room (Nat.le_of_ble_eq_true rfl)) d_Chn_passOn_52 ⟨Nat.le_of_ble_eq_true rfl, Nat.le_of_ble_eq_true rfl⟩) hS (fun w7 sz7 H locs hp7 hP hz hS => ?_)
            obtain ⟨he7, hs7⟩ := hp7
            have hz : H.size = sz := hz.trans hs7
            have hw8 : w7 = mm_up (mm_up w a (.inr (4, [.int (nI ((su 0) % 8)), .ref (a + 1), .int (nI (ch_a (su 0) + 0)), .ref (a + 2), .ref (a + 4), .int (nI us), .int (nI dl)]))) (a + 1) (.inl (cI, 4, .inl (fun i => nI ((ch_put g (su 0) (sz9 - 0) 0) i)))) := he7
            have fr8 : ∀ j, j ≠ a → j ≠ a + 1 → w7 j = w j := fun j h90 h91 => by rw [hw8]; exact (mm_un h91).trans (mm_un h90)
            have fa8_0 : w7 a = some (.inr (4, [.int (nI ((su 0) % 8)), .ref (a + 1), .int (nI (ch_a (su 0) + 0)), .ref (a + 2), .ref (a + 4), .int (nI us), .int (nI dl)])) := by rw [hw8]; exact (mm_un (by omega)).trans (mm_us _ _ _)
            have fa8_1 : w7 (a + 1) = some (.inl (cI, 4, .inl (fun i => nI ((ch_put g (su 0) (sz9 - 0) 0) i)))) := by rw [hw8]; exact mm_us _ _ _
            refine lv_aload_n hx hb d_Chn_passOn_55 rfl (lv_at hl 0 rfl) ?_
            refine mm_get (D := D) (C := n_Chn) (T := T_Chn) (N := 7) (v := .ref (a + 2)) hx hb hts lay_Chn hown hK.1 hP fa8_0 rfl 3 (by decide) (hts _ (List.mem_cons_of_mem _ wd_111)) (fun _ h9 => h9) rfl d_Chn_passOn_56 ?_
            refine lv_aload_n hx hb d_Chn_passOn_59 rfl (lv_at hl 1 rfl) ?_
            have f9 := (fr8 _ (by omega) (by omega)).trans (h_5)
            refine mm_get (D := D) (C := n_Prm) (T := T_Prm) (N := 8) (v := .ref (q + 3)) hx hb hts lay_Prm hown hK.1 hP f9 rfl 4 (by decide) (hts _ (List.mem_cons_of_mem _ wd_233)) (fun _ h9 => h9) rfl d_Chn_passOn_60 ?_
            have f10 := (fr8 _ (by omega) (by omega)).trans (h_2)
            have f11 := (fr8 _ (by omega) (by omega)).trans (h_3)
            have f12 := (fr8 _ (by omega) (by omega)).trans (h_8)
            have f13 := (fr8 _ (by omega) (by omega)).trans (h_9)
            refine kk_callv (va_runV (As := [.ref (q + 3)]) (rest := []) ⟨hx, hb, hml, hown, hts⟩ (c_Tag_narrowTo l f10 f11 f12 f13 (by omega) (by omega) (by omega) (by omega) (by omega)) (cwV 1 hts (gW_in (hd := [_, _, _, _, _]) (kk_5 wd_453 wd_454 wd_455 wd_6 cw_Tag_narrowTo)) rfl rfl rfl ⟨rfl, ds_Tag_narrowTo⟩ ⟨Nat.le_of_ble_eq_true rfl, Nat.le_of_ble_eq_true rfl⟩) (kk_preV hK hP hz hBz f10 rfl) rfl rfl hl.1 rfl (lv_room (Nat.le_of_ble_eq_true rfl)) d_Chn_passOn_63 ⟨Nat.le_of_ble_eq_true rfl, Nat.le_of_ble_eq_true rfl⟩) hS (fun w14 sz14 H locs hp14 hP hz hS => ?_)
            obtain ⟨he14, hs14⟩ := hp14
            have hz : H.size = sz := hz.trans hs14
            have hw15 : w14 = mm_up (mm_up w7 (a + 2) (.inr (5, [.int (nI (og &&& o2)), .ref (a + 3)]))) (a + 3) (.inr (6, [.int (if tl < l2 then l2 else tl), .int (if h2 < th then h2 else th)])) := he14
            have fr15 : ∀ j, j ≠ a + 2 → j ≠ a + 3 → w14 j = w7 j := fun j h90 h91 => by rw [hw15]; exact (mm_un h91).trans (mm_un h90)
            have fa15_0 : w14 (a + 2) = some (.inr (5, [.int (nI (og &&& o2)), .ref (a + 3)])) := by rw [hw15]; exact (mm_un (by omega)).trans (mm_us _ _ _)
            have fa15_1 : w14 (a + 3) = some (.inr (6, [.int (if tl < l2 then l2 else tl), .int (if h2 < th then h2 else th)])) := by rw [hw15]; exact mm_us _ _ _
            refine lv_aload_n hx hb d_Chn_passOn_66 rfl (lv_at hl 0 rfl) ?_
            have f16 := (fr15 _ (by omega) (by omega)).trans (fa8_0)
            refine mm_get (D := D) (C := n_Chn) (T := T_Chn) (N := 7) (v := .ref (a + 4)) hx hb hts lay_Chn hown hK.1 hP f16 rfl 4 (by decide) (hts _ (List.mem_cons_of_mem _ wd_112)) (fun _ h9 => h9) rfl d_Chn_passOn_67 ?_
            refine lv_aload_n hx hb d_Chn_passOn_70 rfl (lv_at hl 1 rfl) ?_
            have f17 := (fr15 _ (by omega) (by omega)).trans (f9)
            refine mm_get (D := D) (C := n_Prm) (T := T_Prm) (N := 8) (v := .ref (q + 1)) hx hb hts lay_Prm hown hK.1 hP f17 rfl 1 (by decide) (hts _ (List.mem_cons_of_mem _ wd_193)) (fun x9 h9 => u_same (hts _ (List.mem_cons_of_mem _ wd_192)) x9 h9) rfl d_Chn_passOn_71 ?_
            have f18 := (fr15 _ (by omega) (by omega)).trans ((fr8 _ (by omega) (by omega)).trans (h_4))
            have f19 := (fr15 _ (by omega) (by omega)).trans ((fr8 _ (by omega) (by omega)).trans (h_6))
            refine kk_callv (va_runV (As := [.ref (q + 1)]) (rest := []) ⟨hx, hb, hml, hown, hts⟩ (c_Spn_narrowTo l f18 f19) (cwV 1 hts (gW_in (hd := [_, _, _, _, _]) (kk_5 wd_441 wd_442 wd_443 wd_7 cw_Spn_narrowTo)) rfl rfl rfl ⟨rfl, ds_Spn_narrowTo⟩ ⟨Nat.le_of_ble_eq_true rfl, Nat.le_of_ble_eq_true rfl⟩) (kk_preV hK hP hz hBz f18 rfl) rfl rfl hl.1 rfl (lv_room (Nat.le_of_ble_eq_true rfl)) d_Chn_passOn_74 ⟨Nat.le_of_ble_eq_true rfl, Nat.le_of_ble_eq_true rfl⟩) hS (fun w20 sz20 H locs hp20 hP hz hS => ?_)
            obtain ⟨he20, hs20⟩ := hp20
            have hz : H.size = sz := hz.trans hs20
            have hw21 : w20 = mm_up w14 (a + 4) (.inr (6, [.int (if fr < f2 then f2 else fr), .int (if t2 < to then t2 else to)])) := he20
            have fr21 : ∀ j, j ≠ a + 4 → w20 j = w14 j := fun j h90 => by rw [hw21]; exact mm_un h90
            have fa21_0 : w20 (a + 4) = some (.inr (6, [.int (if fr < f2 then f2 else fr), .int (if t2 < to then t2 else to)])) := by rw [hw21]; exact mm_us _ _ _
            refine lv_aload_n hx hb d_Chn_passOn_77 rfl (lv_at hl 0 rfl) ?_
            refine lv_aload_n hx hb d_Chn_passOn_78 rfl (lv_at hl 1 rfl) ?_
            have f22 := (fr21 _ (by omega)).trans (f17)
            refine mm_get (D := D) (C := n_Prm) (T := T_Prm) (N := 8) (v := .int (nI dq)) hx hb hts lay_Prm hown hK.1 hP f22 rfl 5 (by decide) (hts _ (List.mem_cons_of_mem _ wd_236)) (fun _ h9 => h9) rfl d_Chn_passOn_79 ?_
            have f23 := (fr21 _ (by omega)).trans (f16)
            refine mm_put (D := D) (C := n_Chn) (T := T_Chn) (N := 7) (v := .int (nI dq)) (ty := .boolean) hx hb hts lay_Chn t_Chn ty_Chn nm_Chn hown hK.1 hP hS f23 rfl 6 (by decide) (hts _ (List.mem_cons_of_mem _ wd_115)) (fun _ h9 => h9) rfl (by decide +kernel) (kk_nar1 hdq) (kk_fit1 hdq) (Nat.le_of_ble_eq_true rfl) d_Chn_passOn_82 (fun H locs hP hz1 hS => ?_)
            have hz : H.size = sz := hz1.trans hz
            obtain ⟨w24, hw24⟩ : ∃ z : mm_M, z = mm_up w20 a (.inr (4, [.int (nI ((su 0) % 8)), .ref (a + 1), .int (nI (ch_a (su 0) + 0)), .ref (a + 2), .ref (a + 4), .int (nI us), .int (nI dq)])) := ⟨_, rfl⟩
            have hP : mm_P B D kc w24 H := by rw [hw24]; exact hP
            have fr24 : ∀ j, j ≠ a → w24 j = w20 j := fun j h9 => by rw [hw24]; exact mm_un h9
            have fa24 : w24 a = some (.inr (4, [.int (nI ((su 0) % 8)), .ref (a + 1), .int (nI (ch_a (su 0) + 0)), .ref (a + 2), .ref (a + 4), .int (nI us), .int (nI dq)])) := by rw [hw24]; exact mm_us _ _ _
            refine lv_aload_n hx hb d_Chn_passOn_85 rfl (lv_at hl 0 rfl) ?_
            refine lv_dup hx hb d_Chn_passOn_86 rfl ?_
            refine mm_get (D := D) (C := n_Chn) (T := T_Chn) (N := 7) (v := .int (nI us)) hx hb hts lay_Chn hown hK.1 hP fa24 rfl 5 (by decide) (hts _ (List.mem_cons_of_mem _ wd_113)) (fun _ h9 => h9) rfl d_Chn_passOn_87 ?_
            refine lv_iconst (v := nI 1) hx hb d_Chn_passOn_90 (by decide) ?_
            refine lv_iadd hx hb d_Chn_passOn_91 ?_
            refine kk_top (nI_add _ _) ?_
            refine mm_put (D := D) (C := n_Chn) (T := T_Chn) (N := 7) (v := .int (nI (us + 1))) (ty := .int) hx hb hts lay_Chn t_Chn ty_Chn nm_Chn hown hK.1 hP hS fa24 rfl 5 (by decide) (hts _ (List.mem_cons_of_mem _ wd_113)) (fun _ h9 => h9) rfl (by decide +kernel) rfl rfl (Nat.le_of_ble_eq_true rfl) d_Chn_passOn_92 (fun H locs hP hz1 hS => ?_)
            have hz : H.size = sz := hz1.trans hz
            obtain ⟨w25, hw25⟩ : ∃ z : mm_M, z = mm_up w24 a (.inr (4, [.int (nI ((su 0) % 8)), .ref (a + 1), .int (nI (ch_a (su 0) + 0)), .ref (a + 2), .ref (a + 4), .int (nI (us + 1)), .int (nI dq)])) := ⟨_, rfl⟩
            have hP : mm_P B D kc w25 H := by rw [hw25]; exact hP
            have fr25 : ∀ j, j ≠ a → w25 j = w24 j := fun j h9 => by rw [hw25]; exact mm_un h9
            have fa25 : w25 a = some (.inr (4, [.int (nI ((su 0) % 8)), .ref (a + 1), .int (nI (ch_a (su 0) + 0)), .ref (a + 2), .ref (a + 4), .int (nI (us + 1)), .int (nI dq)])) := by rw [hw25]; exact mm_us _ _ _
            refine lv_iconst (v := nI 1) hx hb d_Chn_passOn_95 (by decide) ?_
            exact W.zret hx hb hr rfl (fun t ht hW => ⟨⟨_, (w25, sz), rfl, ⟨rfl, mm_e5 fa25 ((fr25 _ (by omega)).trans ((fr24 _ (by omega)).trans ((fr21 _ (by omega)).trans ((fr15 _ (by omega) (by omega)).trans (fa8_1))))) ((fr25 _ (by omega)).trans ((fr24 _ (by omega)).trans ((fr21 _ (by omega)).trans (fa15_0)))) ((fr25 _ (by omega)).trans ((fr24 _ (by omega)).trans ((fr21 _ (by omega)).trans (fa15_1)))) ((fr25 _ (by omega)).trans ((fr24 _ (by omega)).trans (fa21_0))) (fun j g0 g1 g2 g3 g4 => (fr25 j g0).trans ((fr24 j g0).trans ((fr21 j g4).trans ((fr15 j g2 g3).trans (fr8 j g0 g1))))), rfl⟩, by rw [ht]; exact hP, by rw [ht]; exact hz⟩, hS.F ht⟩) hS.2.2 d_Chn_passOn_96
          · have cc6 : ¬ (mn ≤ 1) := fun q => cc6 ((nI_leI (by omega) (by omega)).mpr q)
            exact absurd cc6 (by omega)
        · rw [← nI_0] at cc5
          have cc5 : dl = 0 := (nI_eq (by omega) (by omega)).mp cc5
          exact absurd cc5 (by omega)
set_option maxHeartbeats 4000000 in
set_option maxRecDepth 100000 in
theorem c_Chn_passOn0 (l : Launch) {B : Nat} {D : va_G} {cI cZ cQ : ClassId} {w : mm_M} {sz : Nat} {a ky sz9 us dl og : Nat} {g : Nat → Nat} {tl th fr to : Int32} {q iss gn dq mn nd o2 : Nat} {su : Nat → Nat} {f2 t2 l2 h2 : Int32} (h_0 : w a = some (.inr (4, [.int (nI ky), .ref (a + 1), .int (nI sz9), .ref (a + 2), .ref (a + 4), .int (nI us), .int (nI dl)]))) (h_1 : w (a + 1) = some (.inl (cI, 4, .inl (fun i => nI (g i))))) (h_2 : w (a + 2) = some (.inr (5, [.int (nI og), .ref (a + 3)]))) (h_3 : w (a + 3) = some (.inr (6, [.int tl, .int th]))) (h_4 : w (a + 4) = some (.inr (6, [.int fr, .int to]))) (h_5 : w q = some (.inr (8, [.int (nI iss), .ref (q + 1), .int (nI gn), .ref (q + 2), .ref (q + 3), .int (nI dq), .int (nI mn), .int (nI nd)]))) (h_6 : w (q + 1) = some (.inr (6, [.int f2, .int t2]))) (h_7 : w (q + 2) = some (.inl (cI, 3, .inl (fun i => nI (su i))))) (h_8 : w (q + 3) = some (.inr (5, [.int (nI o2), .ref (q + 4)]))) (h_9 : w (q + 4) = some (.inr (6, [.int l2, .int h2]))) (hus : us < 2 ^ 30) (hs4 : sz9 ≤ 4) (hky : ky ≤ 8) (his : iss ≤ 8) (hdl : dl ≤ 1) (hdq : dq ≤ 1) (hmn : mn ≤ 3) (hs0 : su 0 < 200) (hA : a + 5 ≤ q) (hok : ¬ (0 < us ∧ sz9 = 0 ∧ ky = iss ∧ ¬ dl = 0 ∧ mn ≤ 1)) : Met l y_Chn_passOn ws_Chn_passOn (kk_rm 3 0 0) (kk_Pc B D cI cZ cQ [.ref a, .ref q] w sz) (vp_Si (fun r => r = nI 0)) 0 0 (fun _ => False) := by
  refine Met.ofW (cc := k_Chn_passOn) (maxL := 2) (ret := (some .boolean)) (by decide) rfl ?_
  intro p e s m args below meth c s₁ BB hml hv
  obtain ⟨rfl, hK, hP, hz, hBz⟩ := hv
  have hx := BB.exec
  have hb := BB.bytes
  have hr := BB.returns
  have hts := atoms_spec (ws := ws_Chn_passOn) BB.pre
  have hown : s.vm.findClass "DelegationClosure$Chain" = some m.cls := findClass_of_methodNamed BB.named
  have hlocks := BB.notSynchronized
  have hS : mm_S B s.heap s.heap [] := va_S.rf
  have hl := lv_entry ([.ref a, .ref q]) (n := 2) (Nat.le_of_ble_eq_true rfl)
  rw [lg_entry_eq]
  generalize (lg_sl ([.ref a, .ref q]) ++ List.replicate (2 - (lg_sl ([.ref a, .ref q])).length) Slot.unset).toArray = ls at hl ⊢
  have hl : lv_has ls 2 [(0, .ref a), (1, .ref q)] := hl
  have hA2 := ch_a_le (su 0)
  refine lv_aload_n hx hb d_Chn_passOn_0 rfl (lv_at hl 0 rfl) ?_
  refine vp_callSi (va_Run.run (va_runV (As := []) (rest := []) ⟨hx, hb, hml, hown, hts⟩ (c_Chn_isThere l h_0 (by omega)) (cwV 0 hts (gW_in (hd := [_, _, _, _, _]) (kk_5 wd_437 wd_438 wd_439 wd_5 cw_Chn_isThere)) rfl rfl rfl ⟨rfl, ds_Chn_isThere⟩ ⟨Nat.le_of_ble_eq_true rfl, Nat.le_of_ble_eq_true rfl⟩) (kk_preV hK hP hz hBz h_0 rfl) rfl rfl hl.1 rfl (lv_room (Nat.le_of_ble_eq_true rfl)) d_Chn_passOn_1 ⟨Nat.le_of_ble_eq_true rfl, Nat.le_of_ble_eq_true rfl⟩)) (fun r1 hr1 => ?_)
  subst hr1
  refine lv_if_eq (tgt := 32) hx hb d_Chn_passOn_4 (by decide) (fun cc2 => ?_) (fun cc2 => ?_)
  · have cc2 := kk_b0 cc2
    refine lv_iconst (v := nI 0) hx hb d_Chn_passOn_32 (by decide) ?_
    exact W.zret hx hb hr rfl (fun t ht hW => ⟨_, rfl, rfl, ht⟩) (fun q hq => by cases hq) d_Chn_passOn_33
  · have cc2 := kk_b1 cc2
    refine lv_aload_n hx hb d_Chn_passOn_7 rfl (lv_at hl 0 rfl) ?_
    refine mm_get (D := D) (C := n_Chn) (T := T_Chn) (N := 7) (v := .int (nI sz9)) hx hb hts lay_Chn hown hK.1 hP h_0 rfl 2 (by decide) (hts _ (List.mem_cons_of_mem _ wd_109)) (fun _ h9 => h9) rfl d_Chn_passOn_8 ?_
    refine lv_if_ne (tgt := 32) hx hb d_Chn_passOn_11 (by decide) (fun cc3 => ?_) (fun cc3 => ?_)
    · rw [← nI_0] at cc3
      have cc3 : ¬ (sz9 = 0) := fun q => cc3 ((nI_eq (by omega) (by omega)).mpr q)
      refine lv_iconst (v := nI 0) hx hb d_Chn_passOn_32 (by decide) ?_
      exact W.zret hx hb hr rfl (fun t ht hW => ⟨_, rfl, rfl, ht⟩) (fun q hq => by cases hq) d_Chn_passOn_33
    · rw [← nI_0] at cc3
      have cc3 : sz9 = 0 := (nI_eq (by omega) (by omega)).mp cc3
      refine lv_aload_n hx hb d_Chn_passOn_14 rfl (lv_at hl 0 rfl) ?_
      refine mm_get (D := D) (C := n_Chn) (T := T_Chn) (N := 7) (v := .int (nI ky)) hx hb hts lay_Chn hown hK.1 hP h_0 rfl 0 (by decide) (hts _ (List.mem_cons_of_mem _ wd_105)) (fun _ h9 => h9) rfl d_Chn_passOn_15 ?_
      refine lv_aload_n hx hb d_Chn_passOn_18 rfl (lv_at hl 1 rfl) ?_
      refine mm_get (D := D) (C := n_Prm) (T := T_Prm) (N := 8) (v := .int (nI iss)) hx hb hts lay_Prm hown hK.1 hP h_5 rfl 0 (by decide) (hts _ (List.mem_cons_of_mem _ wd_188)) (fun x9 h9 => u_same (hts _ (List.mem_cons_of_mem _ wd_187)) x9 h9) rfl d_Chn_passOn_19 ?_
      refine lv_icmp_ne (tgt := 32) hx hb d_Chn_passOn_22 (by decide) (fun cc4 => ?_) (fun cc4 => ?_)
      · have cc4 : ¬ (ky = iss) := fun q => cc4 ((nI_eq (by omega) (by omega)).mpr q)
        refine lv_iconst (v := nI 0) hx hb d_Chn_passOn_32 (by decide) ?_
        exact W.zret hx hb hr rfl (fun t ht hW => ⟨_, rfl, rfl, ht⟩) (fun q hq => by cases hq) d_Chn_passOn_33
      · have cc4 : ky = iss := (nI_eq (by omega) (by omega)).mp cc4
        refine lv_aload_n hx hb d_Chn_passOn_25 rfl (lv_at hl 0 rfl) ?_
        refine mm_get (D := D) (C := n_Chn) (T := T_Chn) (N := 7) (v := .int (nI dl)) hx hb hts lay_Chn hown hK.1 hP h_0 rfl 6 (by decide) (hts _ (List.mem_cons_of_mem _ wd_115)) (fun _ h9 => h9) rfl d_Chn_passOn_26 ?_
        refine lv_if_ne (tgt := 34) hx hb d_Chn_passOn_29 (by decide) (fun cc5 => ?_) (fun cc5 => ?_)
        · rw [← nI_0] at cc5
          have cc5 : ¬ (dl = 0) := fun q => cc5 ((nI_eq (by omega) (by omega)).mpr q)
          refine lv_aload_n hx hb d_Chn_passOn_34 rfl (lv_at hl 1 rfl) ?_
          refine mm_get (D := D) (C := n_Prm) (T := T_Prm) (N := 8) (v := .int (nI mn)) hx hb hts lay_Prm hown hK.1 hP h_5 rfl 6 (by decide) (hts _ (List.mem_cons_of_mem _ wd_241)) (fun _ h9 => h9) rfl d_Chn_passOn_35 ?_
          refine lv_iconst (v := nI 1) hx hb d_Chn_passOn_38 (by decide) ?_
          refine lv_icmp_le (tgt := 44) hx hb d_Chn_passOn_39 (by decide) (fun cc6 => ?_) (fun cc6 => ?_)
          · have cc6 : mn ≤ 1 := (nI_leI (by omega) (by omega)).mp cc6
            exact absurd ⟨cc2, cc3, cc4, cc5, cc6⟩ hok
          · have cc6 : ¬ (mn ≤ 1) := fun q => cc6 ((nI_leI (by omega) (by omega)).mpr q)
            refine lv_iconst (v := nI 0) hx hb d_Chn_passOn_42 (by decide) ?_
            exact W.zret hx hb hr rfl (fun t ht hW => ⟨_, rfl, rfl, ht⟩) (fun q hq => by cases hq) d_Chn_passOn_43
        · rw [← nI_0] at cc5
          have cc5 : dl = 0 := (nI_eq (by omega) (by omega)).mp cc5
          refine lv_iconst (v := nI 0) hx hb d_Chn_passOn_32 (by decide) ?_
          exact W.zret hx hb hr rfl (fun t ht hW => ⟨_, rfl, rfl, ht⟩) (fun q hq => by cases hq) d_Chn_passOn_33
theorem d_Chn_allows_0 : decode k_Chn_allows 0 = .ok (.aload_n 0, 1) := by decide +kernel
theorem d_Chn_allows_1 : decode k_Chn_allows 1 = .ok (.invokevirtual 63, 3) := by decide +kernel
theorem d_Chn_allows_4 : decode k_Chn_allows 4 = .ok (.ifCond .eq 37, 3) := by decide +kernel
theorem d_Chn_allows_7 : decode k_Chn_allows 7 = .ok (.aload_n 0, 1) := by decide +kernel
theorem d_Chn_allows_8 : decode k_Chn_allows 8 = .ok (.getfield 19, 3) := by decide +kernel
theorem d_Chn_allows_11 : decode k_Chn_allows 11 = .ok (.ifCond .ne 30, 3) := by decide +kernel
theorem d_Chn_allows_14 : decode k_Chn_allows 14 = .ok (.aload_n 0, 1) := by decide +kernel
theorem d_Chn_allows_15 : decode k_Chn_allows 15 = .ok (.getfield 25, 3) := by decide +kernel
theorem d_Chn_allows_18 : decode k_Chn_allows 18 = .ok (.iload_n 1, 1) := by decide +kernel
theorem d_Chn_allows_19 : decode k_Chn_allows 19 = .ok (.iload_n 2, 1) := by decide +kernel
theorem d_Chn_allows_20 : decode k_Chn_allows 20 = .ok (.invokevirtual 90, 3) := by decide +kernel
theorem d_Chn_allows_23 : decode k_Chn_allows 23 = .ok (.ifCond .eq 18, 3) := by decide +kernel
theorem d_Chn_allows_26 : decode k_Chn_allows 26 = .ok (.aload_n 0, 1) := by decide +kernel
theorem d_Chn_allows_27 : decode k_Chn_allows 27 = .ok (.getfield 34, 3) := by decide +kernel
theorem d_Chn_allows_30 : decode k_Chn_allows 30 = .ok (.iload_n 3, 1) := by decide +kernel
theorem d_Chn_allows_31 : decode k_Chn_allows 31 = .ok (.invokevirtual 94, 3) := by decide +kernel
theorem d_Chn_allows_34 : decode k_Chn_allows 34 = .ok (.ifCond .eq 7, 3) := by decide +kernel
theorem d_Chn_allows_37 : decode k_Chn_allows 37 = .ok (.iconst 1, 1) := by decide +kernel
theorem d_Chn_allows_38 : decode k_Chn_allows 38 = .ok (.goto 4, 3) := by decide +kernel
theorem d_Chn_allows_41 : decode k_Chn_allows 41 = .ok (.iconst 0, 1) := by decide +kernel
theorem d_Chn_allows_42 : decode k_Chn_allows 42 = .ok (.ireturn, 1) := by decide +kernel
set_option maxHeartbeats 4000000 in
set_option maxRecDepth 100000 in
theorem c_Chn_allows (l : Launch) {B : Nat} {D : va_G} {cI cZ cQ : ClassId} {w : mm_M} {sz : Nat} {a ky sz9 us dl og : Nat} {g : Nat → Nat} {tl th fr to : Int32} {k : Nat} {z9 t9 : Int32} (h_0 : w a = some (.inr (4, [.int (nI ky), .ref (a + 1), .int (nI sz9), .ref (a + 2), .ref (a + 4), .int (nI us), .int (nI dl)]))) (h_1 : w (a + 1) = some (.inl (cI, 4, .inl (fun i => nI (g i))))) (h_2 : w (a + 2) = some (.inr (5, [.int (nI og), .ref (a + 3)]))) (h_3 : w (a + 3) = some (.inr (6, [.int tl, .int th]))) (h_4 : w (a + 4) = some (.inr (6, [.int fr, .int to]))) (hus : us < 2 ^ 30) (hs4 : sz9 ≤ 4) (hk : k < 8) (ho : og < 256) : Met l y_Chn_allows ws_Chn_allows (kk_rm 2 0 0) (kk_Pc B D cI cZ cQ [.ref a, .int (nI k), .int z9, .int t9] w sz) (vp_Si (fun r => r = nI (if (0 < us ∧ sz9 = 0) ∧ (og / 2 ^ k % 2 = 1 ∧ ¬ z9 < tl ∧ ¬ th < z9) ∧ ¬ t9 < fr ∧ ¬ to < t9 then 1 else 0))) 0 0 (fun _ => False) := by
  refine Met.ofW (cc := k_Chn_allows) (maxL := 4) (ret := (some .boolean)) (by decide) rfl ?_
  intro p e s m args below meth c s₁ BB hml hv
  obtain ⟨rfl, hK, hP, hz, hBz⟩ := hv
  have hx := BB.exec
  have hb := BB.bytes
  have hr := BB.returns
  have hts := atoms_spec (ws := ws_Chn_allows) BB.pre
  have hown : s.vm.findClass "DelegationClosure$Chain" = some m.cls := findClass_of_methodNamed BB.named
  have hlocks := BB.notSynchronized
  have hS : mm_S B s.heap s.heap [] := va_S.rf
  have hl := lv_entry ([.ref a, .int (nI k), .int z9, .int t9]) (n := 4) (Nat.le_of_ble_eq_true rfl)
  rw [lg_entry_eq]
  generalize (lg_sl ([.ref a, .int (nI k), .int z9, .int t9]) ++ List.replicate (4 - (lg_sl ([.ref a, .int (nI k), .int z9, .int t9])).length) Slot.unset).toArray = ls at hl ⊢
  have hl : lv_has ls 4 [(0, .ref a), (1, .int (nI k)), (2, .int z9), (3, .int t9)] := hl
  refine lv_aload_n hx hb d_Chn_allows_0 rfl (lv_at hl 0 rfl) ?_
  refine vp_callSi (va_Run.run (va_runV (As := []) (rest := []) ⟨hx, hb, hml, hown, hts⟩ (c_Chn_isThere l h_0 (by omega)) (cwV 0 hts (gW_in (hd := [_, _, _, _, _]) (kk_5 wd_437 wd_438 wd_439 wd_5 cw_Chn_isThere)) rfl rfl rfl ⟨rfl, ds_Chn_isThere⟩ ⟨Nat.le_of_ble_eq_true rfl, Nat.le_of_ble_eq_true rfl⟩) (kk_preV hK hP hz hBz h_0 rfl) rfl rfl hl.1 rfl (lv_room (Nat.le_of_ble_eq_true rfl)) d_Chn_allows_1 ⟨Nat.le_of_ble_eq_true rfl, Nat.le_of_ble_eq_true rfl⟩)) (fun r1 hr1 => ?_)
  subst hr1
  refine lv_if_eq (tgt := 41) hx hb d_Chn_allows_4 (by decide) (fun cc2 => ?_) (fun cc2 => ?_)
  · have cc2 := kk_b0 cc2
    refine lv_iconst (v := nI 0) hx hb d_Chn_allows_41 (by decide) ?_
    exact W.zret hx hb hr rfl (fun t ht hW => ⟨_, rfl, kk_iff (fun q9 => cc2 q9.1.1), ht⟩) (fun q hq => by cases hq) d_Chn_allows_42
  · have cc2 := kk_b1 cc2
    refine lv_aload_n hx hb d_Chn_allows_7 rfl (lv_at hl 0 rfl) ?_
    refine mm_get (D := D) (C := n_Chn) (T := T_Chn) (N := 7) (v := .int (nI sz9)) hx hb hts lay_Chn hown hK.1 hP h_0 rfl 2 (by decide) (hts _ (List.mem_cons_of_mem _ wd_109)) (fun _ h9 => h9) rfl d_Chn_allows_8 ?_
    refine lv_if_ne (tgt := 41) hx hb d_Chn_allows_11 (by decide) (fun cc3 => ?_) (fun cc3 => ?_)
    · rw [← nI_0] at cc3
      have cc3 : ¬ (sz9 = 0) := fun q => cc3 ((nI_eq (by omega) (by omega)).mpr q)
      refine lv_iconst (v := nI 0) hx hb d_Chn_allows_41 (by decide) ?_
      exact W.zret hx hb hr rfl (fun t ht hW => ⟨_, rfl, kk_iff (fun q9 => cc3 q9.1.2), ht⟩) (fun q hq => by cases hq) d_Chn_allows_42
    · rw [← nI_0] at cc3
      have cc3 : sz9 = 0 := (nI_eq (by omega) (by omega)).mp cc3
      refine lv_aload_n hx hb d_Chn_allows_14 rfl (lv_at hl 0 rfl) ?_
      refine mm_get (D := D) (C := n_Chn) (T := T_Chn) (N := 7) (v := .ref (a + 2)) hx hb hts lay_Chn hown hK.1 hP h_0 rfl 3 (by decide) (hts _ (List.mem_cons_of_mem _ wd_111)) (fun _ h9 => h9) rfl d_Chn_allows_15 ?_
      refine lv_iload_n hx hb d_Chn_allows_18 rfl (lv_at hl 1 rfl) ?_
      refine lv_iload_n hx hb d_Chn_allows_19 rfl (lv_at hl 2 rfl) ?_
      refine vp_callSi (va_Run.run (va_runV (As := [.int (nI k), .int z9]) (rest := []) ⟨hx, hb, hml, hown, hts⟩ (c_Tag_contains l h_2 h_3 (by omega) (by omega)) (cwV 2 hts (gW_in (hd := [_, _, _, _, _]) (kk_5 wd_475 wd_366 wd_367 wd_6 cw_Tag_contains)) rfl rfl rfl ⟨rfl, ds_Tag_contains⟩ ⟨Nat.le_of_ble_eq_true rfl, Nat.le_of_ble_eq_true rfl⟩) (kk_preV hK hP hz hBz h_2 rfl) rfl rfl hl.1 rfl (lv_room (Nat.le_of_ble_eq_true rfl)) d_Chn_allows_20 ⟨Nat.le_of_ble_eq_true rfl, Nat.le_of_ble_eq_true rfl⟩)) (fun r4 hr4 => ?_)
      subst hr4
      refine lv_if_eq (tgt := 41) hx hb d_Chn_allows_23 (by decide) (fun cc5 => ?_) (fun cc5 => ?_)
      · have cc5 := kk_b0 cc5
        refine lv_iconst (v := nI 0) hx hb d_Chn_allows_41 (by decide) ?_
        exact W.zret hx hb hr rfl (fun t ht hW => ⟨_, rfl, kk_iff (fun q9 => cc5 q9.2.1), ht⟩) (fun q hq => by cases hq) d_Chn_allows_42
      · have cc5 := kk_b1 cc5
        refine lv_aload_n hx hb d_Chn_allows_26 rfl (lv_at hl 0 rfl) ?_
        refine mm_get (D := D) (C := n_Chn) (T := T_Chn) (N := 7) (v := .ref (a + 4)) hx hb hts lay_Chn hown hK.1 hP h_0 rfl 4 (by decide) (hts _ (List.mem_cons_of_mem _ wd_112)) (fun _ h9 => h9) rfl d_Chn_allows_27 ?_
        refine lv_iload_n hx hb d_Chn_allows_30 rfl (lv_at hl 3 rfl) ?_
        refine vp_callSi (va_Run.run (va_runV (As := [.int t9]) (rest := []) ⟨hx, hb, hml, hown, hts⟩ (c_Spn_contains l h_4) (cwV 1 hts (gW_in (hd := [_, _, _, _, _]) (kk_5 wd_476 wd_319 wd_320 wd_7 cw_Spn_contains)) rfl rfl rfl ⟨rfl, ds_Spn_contains⟩ ⟨Nat.le_of_ble_eq_true rfl, Nat.le_of_ble_eq_true rfl⟩) (kk_preV hK hP hz hBz h_4 rfl) rfl rfl hl.1 rfl (lv_room (Nat.le_of_ble_eq_true rfl)) d_Chn_allows_31 ⟨Nat.le_of_ble_eq_true rfl, Nat.le_of_ble_eq_true rfl⟩)) (fun r6 hr6 => ?_)
        subst hr6
        refine lv_if_eq (tgt := 41) hx hb d_Chn_allows_34 (by decide) (fun cc7 => ?_) (fun cc7 => ?_)
        · have cc7 := kk_b0 cc7
          refine lv_iconst (v := nI 0) hx hb d_Chn_allows_41 (by decide) ?_
          exact W.zret hx hb hr rfl (fun t ht hW => ⟨_, rfl, kk_iff (fun q9 => cc7 q9.2.2), ht⟩) (fun q hq => by cases hq) d_Chn_allows_42
        · have cc7 := kk_b1 cc7
          refine lv_iconst (v := nI 1) hx hb d_Chn_allows_37 (by decide) ?_
          refine lv_goto (tgt := 42) hx hb d_Chn_allows_38 (by decide) ?_
          exact W.zret hx hb hr rfl (fun t ht hW => ⟨_, rfl, kk_ift ⟨⟨cc2, cc3⟩, cc5, cc7⟩, ht⟩) (fun q hq => by cases hq) d_Chn_allows_42
