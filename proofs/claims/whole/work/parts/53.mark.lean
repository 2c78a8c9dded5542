theorem d_Led_mark_0 : decode k_Led_mark 0 = .ok (.iconst 0, 1) := by decide +kernel
theorem d_Led_mark_1 : decode k_Led_mark 1 = .ok (.istore 5, 2) := by decide +kernel
theorem d_Led_mark_3 : decode k_Led_mark 3 = .ok (.iload 5, 2) := by decide +kernel
theorem d_Led_mark_5 : decode k_Led_mark 5 = .ok (.aload_n 1, 1) := by decide +kernel
theorem d_Led_mark_6 : decode k_Led_mark 6 = .ok (.getfield 22, 3) := by decide +kernel
theorem d_Led_mark_9 : decode k_Led_mark 9 = .ok (.if_icmp .ge 60, 3) := by decide +kernel
theorem d_Led_mark_12 : decode k_Led_mark 12 = .ok (.aload_n 1, 1) := by decide +kernel
theorem d_Led_mark_13 : decode k_Led_mark 13 = .ok (.iload 5, 2) := by decide +kernel
theorem d_Led_mark_15 : decode k_Led_mark 15 = .ok (.invokevirtual 28, 3) := by decide +kernel
theorem d_Led_mark_18 : decode k_Led_mark 18 = .ok (.astore 6, 2) := by decide +kernel
theorem d_Led_mark_20 : decode k_Led_mark 20 = .ok (.aload_n 0, 1) := by decide +kernel
theorem d_Led_mark_21 : decode k_Led_mark 21 = .ok (.getfield 9, 3) := by decide +kernel
theorem d_Led_mark_24 : decode k_Led_mark 24 = .ok (.iload 5, 2) := by decide +kernel
theorem d_Led_mark_26 : decode k_Led_mark 26 = .ok (.aload 6, 2) := by decide +kernel
theorem d_Led_mark_28 : decode k_Led_mark 28 = .ok (.ifnull 33, 3) := by decide +kernel
theorem d_Led_mark_31 : decode k_Led_mark 31 = .ok (.aload 6, 2) := by decide +kernel
theorem d_Led_mark_33 : decode k_Led_mark 33 = .ok (.getfield 32, 3) := by decide +kernel
theorem d_Led_mark_36 : decode k_Led_mark 36 = .ok (.iload 4, 2) := by decide +kernel
theorem d_Led_mark_38 : decode k_Led_mark 38 = .ok (.invokevirtual 38, 3) := by decide +kernel
theorem d_Led_mark_41 : decode k_Led_mark 41 = .ok (.ifCond .eq 20, 3) := by decide +kernel
theorem d_Led_mark_44 : decode k_Led_mark 44 = .ok (.aload 6, 2) := by decide +kernel
theorem d_Led_mark_46 : decode k_Led_mark 46 = .ok (.getfield 44, 3) := by decide +kernel
theorem d_Led_mark_49 : decode k_Led_mark 49 = .ok (.iload_n 2, 1) := by decide +kernel
theorem d_Led_mark_50 : decode k_Led_mark 50 = .ok (.iload_n 3, 1) := by decide +kernel
theorem d_Led_mark_51 : decode k_Led_mark 51 = .ok (.invokevirtual 48, 3) := by decide +kernel
theorem d_Led_mark_54 : decode k_Led_mark 54 = .ok (.ifCond .eq 7, 3) := by decide +kernel
theorem d_Led_mark_57 : decode k_Led_mark 57 = .ok (.iconst 1, 1) := by decide +kernel
theorem d_Led_mark_58 : decode k_Led_mark 58 = .ok (.goto 4, 3) := by decide +kernel
theorem d_Led_mark_61 : decode k_Led_mark 61 = .ok (.iconst 0, 1) := by decide +kernel
theorem d_Led_mark_62 : decode k_Led_mark 62 = .ok (.bastore, 1) := by decide +kernel
theorem d_Led_mark_63 : decode k_Led_mark 63 = .ok (.iinc 5 1, 3) := by decide +kernel
theorem d_Led_mark_66 : decode k_Led_mark 66 = .ok (.goto (-63), 3) := by decide +kernel
theorem d_Led_mark_69 : decode k_Led_mark 69 = .ok (.return_, 1) := by decide +kernel
set_option maxHeartbeats 4000000 in
set_option maxRecDepth 100000 in
theorem c_Led_mark (l : Launch) {B : Nat} {D : va_G} {cI cZ cQ : ClassId} {w : mm_M} {sz : Nat} {a q o9 : Nat} {z9 t9 : Int32} {cn : Nat → Nat} {N : Nat → Nat → Nat} {S : Nat → Nat → Int32} {ad : Nat → Nat} (h_0 : w a = some (.inr (3, [.ref (a + 1), .ref (a + 2), .ref (a + 3)]))) (h_1 : w (a + 1) = some (.inl (cZ, 24, .inl (fun i => nI (cn i))))) (hRe : re_I q cI cQ N S ad w) (hR : rg_I N) (ho : o9 < 8) (hq : q + 2 ≤ a) (had : ∀ j, j < N 0 0 → a + 3 < ad j) : Met l y_Led_mark ws_Led_mark (kk_rm 2 0 0) (kk_Pc B D cI cZ cQ [.ref a, .ref q, .int (nI o9), .int z9, .int t9] w sz) (kk_Qv B D (fun w' sz' => w' = mm_up w (a + 1) (.inl (cZ, 24, .inl (fun i => nI ((ld_cn N S o9 z9 t9 cn (N 0 0)) i)))) ∧ sz' = sz)) 0 0 (fun q => B ≤ q) := by
  refine Met.ofW (cc := k_Led_mark) (maxL := 7) (ret := none) (by decide) rfl ?_
  intro p e s m args below meth c s₁ BB hml hv
  obtain ⟨rfl, hK, hP, hz, hBz⟩ := hv
  have hx := BB.exec
  have hb := BB.bytes
  have hr := BB.returns
  have hts := atoms_spec (ws := ws_Led_mark) BB.pre
  have hown : s.vm.findClass "DelegationClosure$Leads" = some m.cls := findClass_of_methodNamed BB.named
  have hlocks := BB.notSynchronized
  have hS : mm_S B s.heap s.heap [] := va_S.rf
  have hl := lv_entry ([.ref a, .ref q, .int (nI o9), .int z9, .int t9]) (n := 7) (Nat.le_of_ble_eq_true rfl)
  rw [lg_entry_eq]
  generalize (lg_sl ([.ref a, .ref q, .int (nI o9), .int z9, .int t9]) ++ List.replicate (7 - (lg_sl ([.ref a, .ref q, .int (nI o9), .int z9, .int t9])).length) Slot.unset).toArray = ls at hl ⊢
  have hl : lv_has ls 7 [(0, .ref a), (1, .ref q), (2, .int (nI o9)), (3, .int z9), (4, .int t9)] := hl
  have hn := hRe.2.2.1
  refine lv_iconst (v := nI 0) hx hb d_Led_mark_0 (by decide) ?_
  refine lv_istore hx hb d_Led_mark_1 hl (by decide) rfl (fun ls hl => ?_)
  have hl : lv_has ls 7 [(5, .int (nI 0)), (0, .ref a), (1, .ref q), (2, .int (nI o9)), (3, .int z9), (4, .int t9)] := hl
  have lp1 : ∀ (d : Nat) (k : Nat) (w2 : mm_M) (H : Heap) (locs : List Loc) (ls : Array Slot), d = N 0 0 - k → (mm_P B D kc w2 H) → (H.size = sz) → (mm_S B s.heap H locs) → (∀ j, j ≠ a + 1 → w2 j = w j) → (w2 (a + 1) = some (.inl (cZ, 24, .inl (fun i => nI ((ld_cn N S o9 z9 t9 cn k) i))))) → (k ≤ N 0 0) → lv_has ls 7 [(5, .int (nI k)), (0, .ref a), (1, .ref q), (2, .int (nI o9)), (3, .int z9), (4, .int t9)] → W p l e (headSpec ws_Led_mark (kk_rm 2 0 0)).room s m ([.ref a, .ref q, .int (nI o9), .int z9, .int t9]).toArray below meth c H locs 0 0 (MQ below (kk_Qv B D (fun w' sz' => w' = mm_up w (a + 1) (.inl (cZ, 24, .inl (fun i => nI ((ld_cn N S o9 z9 t9 cn (N 0 0)) i)))) ∧ sz' = sz)) ([.ref a, .ref q, .int (nI o9), .int z9, .int t9]).toArray s 0 0 (fun q => B ≤ q)) (F0 m 3 ls []) := by
    intro d
    induction d using Nat.strongRecOn with
    | ind d ih =>
      intro k w2 H locs ls hd hP hz hS frw2 fw2_0 hk hl
      refine lv_iload hx hb d_Led_mark_3 (lv_at hl 0 rfl) ?_
      refine lv_aload_n hx hb d_Led_mark_5 rfl (lv_at hl 2 rfl) ?_
      have f3 := (frw2 _ (by omega)).trans (hRe.1)
      refine mm_getN (D := D) (C := n_Reg) (T := T_Reg) (N := 2) (v := .int (nI (N 0 0))) hx hb hts lay_Reg hown hK.1 hP f3 rfl 1 (by decide) (hK.2.1 _ nw_33 rfl) (fun _ h9 => h9) rfl d_Led_mark_6 ?_
      refine lv_icmp_ge (tgt := 69) hx hb d_Led_mark_9 (by decide) (fun cc4 => ?_) (fun cc4 => ?_)
      · have cc4 : N 0 0 ≤ k := (nI_leI (by omega) (by omega)).mp cc4
        obtain rfl : k = N 0 0 := by omega
        exact W.vret hx hb hr (fun t ht hW => ⟨⟨(w2, sz), rfl, ⟨mm_e1 fw2_0 (fun j g0 => frw2 j g0), rfl⟩, by rw [ht]; exact hP, by rw [ht]; exact hz⟩, hS.F ht⟩) hS.2.2 d_Led_mark_69
      · have cc4 : ¬ (N 0 0 ≤ k) := fun q => cc4 ((nI_leI (by omega) (by omega)).mpr q)
        have hk2 : k < N 0 0 := by omega
        have hRk := hRe.keep (fun i9 hi9 => frw2 i9 (by rcases hi9 with h | h | ⟨c9, h, h8, h7⟩ <;> (try have := had c9 h) <;> omega))
        have hRj := hR k hk2
        have hdk := had k hk2
        rcases hRk.2.2.2 k hk2 with ⟨h2, hn1, hn2⟩ | ⟨h2, hp1, hp2, hp3, hp4, hp5⟩
        · by_cases hgn : N 1 k = 0
          · refine lv_aload_n hx hb d_Led_mark_12 rfl (lv_at hl 2 rfl) ?_
            refine lv_iload hx hb d_Led_mark_13 (lv_at hl 0 rfl) ?_
            refine va_csq (va_Run.run (va_runV (As := [.int (nI k)]) (rest := []) ⟨hx, hb, hml, hown, hts⟩ (c_Reg_permission l (N := N) (S := S) (ad := ad) hRk hR) (cwV 1 hts (gW_in (hd := [_, _, _, _, _]) (kk_5 wd_363 wd_264 wd_265 wd_2 cw_Reg_permission)) rfl rfl rfl ⟨rfl, ds_Reg_permission⟩ ⟨Nat.le_of_ble_eq_true rfl, Nat.le_of_ble_eq_true rfl⟩) (kk_preV hK hP hz hBz f3 rfl) rfl rfl hl.1 rfl (lv_room (Nat.le_of_ble_eq_true rfl)) d_Led_mark_15 ⟨Nat.le_of_ble_eq_true rfl, Nat.le_of_ble_eq_true rfl⟩)) (fun r5 hr5 => ?_)
            subst hr5
            refine kk_topv (y := .null) (by rw [re_pm_no hk2 hn (fun q => by have := q.2; omega)]; rfl) ?_
            refine lv_astoreN hx hb d_Led_mark_18 hl (by decide) rfl (fun ls hl => ?_)
            have hl : lv_has ls 7 [(6, .null), (5, .int (nI k)), (0, .ref a), (1, .ref q), (2, .int (nI o9)), (3, .int z9), (4, .int t9)] := hl
            refine lv_aload_n hx hb d_Led_mark_20 rfl (lv_at hl 2 rfl) ?_
            have f6 := (frw2 _ (by omega)).trans (h_0)
            refine mm_get (D := D) (C := n_Led) (T := T_Led) (N := 3) (v := .ref (a + 1)) hx hb hts lay_Led hown hK.1 hP f6 rfl 0 (by decide) (hts _ (List.mem_cons_of_mem _ wd_58)) (fun _ h9 => h9) rfl d_Led_mark_21 ?_
            refine lv_iload hx hb d_Led_mark_24 (lv_at hl 1 rfl) ?_
            refine lv_aloadN hx hb d_Led_mark_26 (lv_at hl 0 rfl) ?_
            refine lv_ifnullN (tgt := 61) hx hb d_Led_mark_28 (by decide) ?_
            refine lv_iconst (v := nI 0) hx hb d_Led_mark_61 (by decide) ?_
            refine kk_top (y := nI (if ld_ok N S o9 z9 t9 k then 1 else 0)) (kk_iff (fun q9 => by have := q9.2.1; omega)) ?_
            refine mm_zast hx hb hK.1 hP hS 1 fw2_0 rfl k rfl (by omega) (by decide) (kk_nar _) d_Led_mark_62 (fun H locs hP hz1 hS => ?_)
            rw [show upd (fun i => nI ((ld_cn N S o9 z9 t9 cn k) i)) k (nI (if ld_ok N S o9 z9 t9 k then 1 else 0)) = fun i => nI ((va_up (ld_cn N S o9 z9 t9 cn k) k (if ld_ok N S o9 z9 t9 k then 1 else 0)) i) from kk_upn _ _ _] at hP
            have hz : H.size = sz := hz1.trans hz
            obtain ⟨w7, hw7⟩ : ∃ z : mm_M, z = mm_up w2 (a + 1) (.inl (cZ, 24, .inl (fun i => nI ((va_up (ld_cn N S o9 z9 t9 cn k) k (if ld_ok N S o9 z9 t9 k then 1 else 0)) i)))) := ⟨_, rfl⟩
            have hP : mm_P B D kc w7 H := by rw [hw7]; exact hP
            have fr7 : ∀ j, j ≠ a + 1 → w7 j = w2 j := fun j h9 => by rw [hw7]; exact mm_un h9
            have fa7 : w7 (a + 1) = some (.inl (cZ, 24, .inl (fun i => nI ((va_up (ld_cn N S o9 z9 t9 cn k) k (if ld_ok N S o9 z9 t9 k then 1 else 0)) i)))) := by rw [hw7]; exact mm_us _ _ _
            refine lv_iinc (k := 1) (v := nI (k + 1)) hx hb d_Led_mark_63 hl rfl (kk_inc _) (by decide) rfl (fun ls hl => ?_)
            have hl : lv_has ls 7 [(5, .int (nI (k + 1))), (6, .null), (0, .ref a), (1, .ref q), (2, .int (nI o9)), (3, .int z9), (4, .int t9)] := hl
            refine lv_goto (tgt := 3) hx hb d_Led_mark_66 (by decide) ?_
            exact ih _ (by omega) (k + 1) w7 _ _ ls rfl hP hz hS (fun j g0 => (fr7 j g0).trans (frw2 j g0)) (by rw [← ld_cn_step]; exact fa7) (by omega) (lv_sub hl [0, 2, 3, 4, 5, 6] rfl)
          · refine lv_aload_n hx hb d_Led_mark_12 rfl (lv_at hl 2 rfl) ?_
            refine lv_iload hx hb d_Led_mark_13 (lv_at hl 0 rfl) ?_
            refine va_csq (va_Run.run (va_runV (As := [.int (nI k)]) (rest := []) ⟨hx, hb, hml, hown, hts⟩ (c_Reg_permission l (N := N) (S := S) (ad := ad) hRk hR) (cwV 1 hts (gW_in (hd := [_, _, _, _, _]) (kk_5 wd_363 wd_264 wd_265 wd_2 cw_Reg_permission)) rfl rfl rfl ⟨rfl, ds_Reg_permission⟩ ⟨Nat.le_of_ble_eq_true rfl, Nat.le_of_ble_eq_true rfl⟩) (kk_preV hK hP hz hBz f3 rfl) rfl rfl hl.1 rfl (lv_room (Nat.le_of_ble_eq_true rfl)) d_Led_mark_15 ⟨Nat.le_of_ble_eq_true rfl, Nat.le_of_ble_eq_true rfl⟩)) (fun r8 hr8 => ?_)
            subst hr8
            refine kk_topv (y := .null) (by rw [re_pm_no hk2 hn (fun q => by have := q.2; omega)]; rfl) ?_
            refine lv_astoreN hx hb d_Led_mark_18 hl (by decide) rfl (fun ls hl => ?_)
            have hl : lv_has ls 7 [(6, .null), (5, .int (nI k)), (0, .ref a), (1, .ref q), (2, .int (nI o9)), (3, .int z9), (4, .int t9)] := hl
            refine lv_aload_n hx hb d_Led_mark_20 rfl (lv_at hl 2 rfl) ?_
            have f9 := (frw2 _ (by omega)).trans (h_0)
            refine mm_get (D := D) (C := n_Led) (T := T_Led) (N := 3) (v := .ref (a + 1)) hx hb hts lay_Led hown hK.1 hP f9 rfl 0 (by decide) (hts _ (List.mem_cons_of_mem _ wd_58)) (fun _ h9 => h9) rfl d_Led_mark_21 ?_
            refine lv_iload hx hb d_Led_mark_24 (lv_at hl 1 rfl) ?_
            refine lv_aloadN hx hb d_Led_mark_26 (lv_at hl 0 rfl) ?_
            refine lv_ifnullN (tgt := 61) hx hb d_Led_mark_28 (by decide) ?_
            refine lv_iconst (v := nI 0) hx hb d_Led_mark_61 (by decide) ?_
            refine kk_top (y := nI (if ld_ok N S o9 z9 t9 k then 1 else 0)) (kk_iff (fun q9 => by have := q9.2.1; omega)) ?_
            refine mm_zast hx hb hK.1 hP hS 1 fw2_0 rfl k rfl (by omega) (by decide) (kk_nar _) d_Led_mark_62 (fun H locs hP hz1 hS => ?_)
            rw [show upd (fun i => nI ((ld_cn N S o9 z9 t9 cn k) i)) k (nI (if ld_ok N S o9 z9 t9 k then 1 else 0)) = fun i => nI ((va_up (ld_cn N S o9 z9 t9 cn k) k (if ld_ok N S o9 z9 t9 k then 1 else 0)) i) from kk_upn _ _ _] at hP
            have hz : H.size = sz := hz1.trans hz
            obtain ⟨w10, hw10⟩ : ∃ z : mm_M, z = mm_up w2 (a + 1) (.inl (cZ, 24, .inl (fun i => nI ((va_up (ld_cn N S o9 z9 t9 cn k) k (if ld_ok N S o9 z9 t9 k then 1 else 0)) i)))) := ⟨_, rfl⟩
            have hP : mm_P B D kc w10 H := by rw [hw10]; exact hP
            have fr10 : ∀ j, j ≠ a + 1 → w10 j = w2 j := fun j h9 => by rw [hw10]; exact mm_un h9
            have fa10 : w10 (a + 1) = some (.inl (cZ, 24, .inl (fun i => nI ((va_up (ld_cn N S o9 z9 t9 cn k) k (if ld_ok N S o9 z9 t9 k then 1 else 0)) i)))) := by rw [hw10]; exact mm_us _ _ _
            refine lv_iinc (k := 1) (v := nI (k + 1)) hx hb d_Led_mark_63 hl rfl (kk_inc _) (by decide) rfl (fun ls hl => ?_)
            have hl : lv_has ls 7 [(5, .int (nI (k + 1))), (6, .null), (0, .ref a), (1, .ref q), (2, .int (nI o9)), (3, .int z9), (4, .int t9)] := hl
            refine lv_goto (tgt := 3) hx hb d_Led_mark_66 (by decide) ?_
            exact ih _ (by omega) (k + 1) w10 _ _ ls rfl hP hz hS (fun j g0 => (fr10 j g0).trans (frw2 j g0)) (by rw [← ld_cn_step]; exact fa10) (by omega) (lv_sub hl [0, 2, 3, 4, 5, 6] rfl)
        · by_cases hgn : N 1 k = 0
          · refine lv_aload_n hx hb d_Led_mark_12 rfl (lv_at hl 2 rfl) ?_
            refine lv_iload hx hb d_Led_mark_13 (lv_at hl 0 rfl) ?_
            refine va_csq (va_Run.run (va_runV (As := [.int (nI k)]) (rest := []) ⟨hx, hb, hml, hown, hts⟩ (c_Reg_permission l (N := N) (S := S) (ad := ad) hRk hR) (cwV 1 hts (gW_in (hd := [_, _, _, _, _]) (kk_5 wd_363 wd_264 wd_265 wd_2 cw_Reg_permission)) rfl rfl rfl ⟨rfl, ds_Reg_permission⟩ ⟨Nat.le_of_ble_eq_true rfl, Nat.le_of_ble_eq_true rfl⟩) (kk_preV hK hP hz hBz f3 rfl) rfl rfl hl.1 rfl (lv_room (Nat.le_of_ble_eq_true rfl)) d_Led_mark_15 ⟨Nat.le_of_ble_eq_true rfl, Nat.le_of_ble_eq_true rfl⟩)) (fun r11 hr11 => ?_)
            subst hr11
            refine kk_topv (y := .ref (ad k)) (by rw [re_pm_in hk2 hn hgn h2]; rfl) ?_
            refine lv_astore hx hb d_Led_mark_18 hl (by decide) rfl (fun ls hl => ?_)
            have hl : lv_has ls 7 [(6, .ref (ad k)), (5, .int (nI k)), (0, .ref a), (1, .ref q), (2, .int (nI o9)), (3, .int z9), (4, .int t9)] := hl
            refine lv_aload_n hx hb d_Led_mark_20 rfl (lv_at hl 2 rfl) ?_
            have f12 := (frw2 _ (by omega)).trans (h_0)
            refine mm_get (D := D) (C := n_Led) (T := T_Led) (N := 3) (v := .ref (a + 1)) hx hb hts lay_Led hown hK.1 hP f12 rfl 0 (by decide) (hts _ (List.mem_cons_of_mem _ wd_58)) (fun _ h9 => h9) rfl d_Led_mark_21 ?_
            refine lv_iload hx hb d_Led_mark_24 (lv_at hl 1 rfl) ?_
            refine lv_aload hx hb d_Led_mark_26 (lv_at hl 0 rfl) ?_
            refine lv_ifnull hx hb d_Led_mark_28 ?_
            refine lv_aload hx hb d_Led_mark_31 (lv_at hl 0 rfl) ?_
            refine mm_get (D := D) (C := n_Prm) (T := T_Prm) (N := 8) (v := .ref (ad k + 1)) hx hb hts lay_Prm hown hK.1 hP hp1 rfl 1 (by decide) (hts _ (List.mem_cons_of_mem _ wd_191)) (fun x9 h9 => u_same (hts _ (List.mem_cons_of_mem _ wd_192)) x9 h9) rfl d_Led_mark_33 ?_
            refine lv_iload hx hb d_Led_mark_36 (lv_at hl 6 rfl) ?_
            refine vp_callSi (va_Run.run (va_runV (As := [.int t9]) (rest := [.int (nI k), .ref (a + 1)]) ⟨hx, hb, hml, hown, hts⟩ (c_Spn_contains l hp2) (cwV 1 hts (gW_in (hd := [_, _, _, _, _]) (kk_5 wd_364 wd_319 wd_320 wd_7 cw_Spn_contains)) rfl rfl rfl ⟨rfl, ds_Spn_contains⟩ ⟨Nat.le_of_ble_eq_true rfl, Nat.le_of_ble_eq_true rfl⟩) (kk_preV hK hP hz hBz hp2 rfl) rfl rfl hl.1 rfl (lv_room (Nat.le_of_ble_eq_true rfl)) d_Led_mark_38 ⟨Nat.le_of_ble_eq_true rfl, Nat.le_of_ble_eq_true rfl⟩)) (fun r13 hr13 => ?_)
            subst hr13
            refine lv_if_eq (tgt := 61) hx hb d_Led_mark_41 (by decide) (fun cc14 => ?_) (fun cc14 => ?_)
            · have cc14 := kk_b0 cc14
              refine lv_iconst (v := nI 0) hx hb d_Led_mark_61 (by decide) ?_
              refine kk_top (y := nI (if ld_ok N S o9 z9 t9 k then 1 else 0)) (kk_iff (fun q9 => cc14 q9.2.2.1)) ?_
              refine mm_zast hx hb hK.1 hP hS 1 fw2_0 rfl k rfl (by omega) (by decide) (kk_nar _) d_Led_mark_62 (fun H locs hP hz1 hS => ?_)
              rw [show upd (fun i => nI ((ld_cn N S o9 z9 t9 cn k) i)) k (nI (if ld_ok N S o9 z9 t9 k then 1 else 0)) = fun i => nI ((va_up (ld_cn N S o9 z9 t9 cn k) k (if ld_ok N S o9 z9 t9 k then 1 else 0)) i) from kk_upn _ _ _] at hP
              have hz : H.size = sz := hz1.trans hz
              obtain ⟨w15, hw15⟩ : ∃ z : mm_M, z = mm_up w2 (a + 1) (.inl (cZ, 24, .inl (fun i => nI ((va_up (ld_cn N S o9 z9 t9 cn k) k (if ld_ok N S o9 z9 t9 k then 1 else 0)) i)))) := ⟨_, rfl⟩
              have hP : mm_P B D kc w15 H := by rw [hw15]; exact hP
              have fr15 : ∀ j, j ≠ a + 1 → w15 j = w2 j := fun j h9 => by rw [hw15]; exact mm_un h9
              have fa15 : w15 (a + 1) = some (.inl (cZ, 24, .inl (fun i => nI ((va_up (ld_cn N S o9 z9 t9 cn k) k (if ld_ok N S o9 z9 t9 k then 1 else 0)) i)))) := by rw [hw15]; exact mm_us _ _ _
              refine lv_iinc (k := 1) (v := nI (k + 1)) hx hb d_Led_mark_63 hl rfl (kk_inc _) (by decide) rfl (fun ls hl => ?_)
              have hl : lv_has ls 7 [(5, .int (nI (k + 1))), (6, .ref (ad k)), (0, .ref a), (1, .ref q), (2, .int (nI o9)), (3, .int z9), (4, .int t9)] := hl
              refine lv_goto (tgt := 3) hx hb d_Led_mark_66 (by decide) ?_
              exact ih _ (by omega) (k + 1) w15 _ _ ls rfl hP hz hS (fun j g0 => (fr15 j g0).trans (frw2 j g0)) (by rw [← ld_cn_step]; exact fa15) (by omega) (lv_sub hl [0, 2, 3, 4, 5, 6] rfl)
            · have cc14 := kk_b1 cc14
              refine lv_aload hx hb d_Led_mark_44 (lv_at hl 0 rfl) ?_
              refine mm_get (D := D) (C := n_Prm) (T := T_Prm) (N := 8) (v := .ref (ad k + 3)) hx hb hts lay_Prm hown hK.1 hP hp1 rfl 4 (by decide) (hts _ (List.mem_cons_of_mem _ wd_232)) (fun _ h9 => h9) rfl d_Led_mark_46 ?_
              refine lv_iload_n hx hb d_Led_mark_49 rfl (lv_at hl 4 rfl) ?_
              refine lv_iload_n hx hb d_Led_mark_50 rfl (lv_at hl 5 rfl) ?_
              refine vp_callSi (va_Run.run (va_runV (As := [.int (nI o9), .int z9]) (rest := [.int (nI k), .ref (a + 1)]) ⟨hx, hb, hml, hown, hts⟩ (c_Tag_contains l hp4 hp5 (by omega) (by omega)) (cwV 2 hts (gW_in (hd := [_, _, _, _, _]) (kk_5 wd_365 wd_366 wd_367 wd_6 cw_Tag_contains)) rfl rfl rfl ⟨rfl, ds_Tag_contains⟩ ⟨Nat.le_of_ble_eq_true rfl, Nat.le_of_ble_eq_true rfl⟩) (kk_preV hK hP hz hBz hp4 rfl) rfl rfl hl.1 rfl (lv_room (Nat.le_of_ble_eq_true rfl)) d_Led_mark_51 ⟨Nat.le_of_ble_eq_true rfl, Nat.le_of_ble_eq_true rfl⟩)) (fun r16 hr16 => ?_)
              subst hr16
              refine lv_if_eq (tgt := 61) hx hb d_Led_mark_54 (by decide) (fun cc17 => ?_) (fun cc17 => ?_)
              · have cc17 := kk_b0 cc17
                refine lv_iconst (v := nI 0) hx hb d_Led_mark_61 (by decide) ?_
                refine kk_top (y := nI (if ld_ok N S o9 z9 t9 k then 1 else 0)) (kk_iff (fun q9 => cc17 q9.2.2.2)) ?_
                refine mm_zast hx hb hK.1 hP hS 1 fw2_0 rfl k rfl (by omega) (by decide) (kk_nar _) d_Led_mark_62 (fun H locs hP hz1 hS => ?_)
                rw [show upd (fun i => nI ((ld_cn N S o9 z9 t9 cn k) i)) k (nI (if ld_ok N S o9 z9 t9 k then 1 else 0)) = fun i => nI ((va_up (ld_cn N S o9 z9 t9 cn k) k (if ld_ok N S o9 z9 t9 k then 1 else 0)) i) from kk_upn _ _ _] at hP
                have hz : H.size = sz := hz1.trans hz
                obtain ⟨w18, hw18⟩ : ∃ z : mm_M, z = mm_up w2 (a + 1) (.inl (cZ, 24, .inl (fun i => nI ((va_up (ld_cn N S o9 z9 t9 cn k) k (if ld_ok N S o9 z9 t9 k then 1 else 0)) i)))) := ⟨_, rfl⟩
                have hP : mm_P B D kc w18 H := by rw [hw18]; exact hP
                have fr18 : ∀ j, j ≠ a + 1 → w18 j = w2 j := fun j h9 => by rw [hw18]; exact mm_un h9
                have fa18 : w18 (a + 1) = some (.inl (cZ, 24, .inl (fun i => nI ((va_up (ld_cn N S o9 z9 t9 cn k) k (if ld_ok N S o9 z9 t9 k then 1 else 0)) i)))) := by rw [hw18]; exact mm_us _ _ _
                refine lv_iinc (k := 1) (v := nI (k + 1)) hx hb d_Led_mark_63 hl rfl (kk_inc _) (by decide) rfl (fun ls hl => ?_)
                have hl : lv_has ls 7 [(5, .int (nI (k + 1))), (6, .ref (ad k)), (0, .ref a), (1, .ref q), (2, .int (nI o9)), (3, .int z9), (4, .int t9)] := hl
                refine lv_goto (tgt := 3) hx hb d_Led_mark_66 (by decide) ?_
                exact ih _ (by omega) (k + 1) w18 _ _ ls rfl hP hz hS (fun j g0 => (fr18 j g0).trans (frw2 j g0)) (by rw [← ld_cn_step]; exact fa18) (by omega) (lv_sub hl [0, 2, 3, 4, 5, 6] rfl)
              · have cc17 := kk_b1 cc17
                refine lv_iconst (v := nI 1) hx hb d_Led_mark_57 (by decide) ?_
                refine lv_goto (tgt := 62) hx hb d_Led_mark_58 (by decide) ?_
                refine kk_top (y := nI (if ld_ok N S o9 z9 t9 k then 1 else 0)) (kk_ift ⟨hgn, h2, cc14, cc17⟩) ?_
                refine mm_zast hx hb hK.1 hP hS 1 fw2_0 rfl k rfl (by omega) (by decide) (kk_nar _) d_Led_mark_62 (fun H locs hP hz1 hS => ?_)
                rw [show upd (fun i => nI ((ld_cn N S o9 z9 t9 cn k) i)) k (nI (if ld_ok N S o9 z9 t9 k then 1 else 0)) = fun i => nI ((va_up (ld_cn N S o9 z9 t9 cn k) k (if ld_ok N S o9 z9 t9 k then 1 else 0)) i) from kk_upn _ _ _] at hP
                have hz : H.size = sz := hz1.trans hz
                obtain ⟨w19, hw19⟩ : ∃ z : mm_M, z = mm_up w2 (a + 1) (.inl (cZ, 24, .inl (fun i => nI ((va_up (ld_cn N S o9 z9 t9 cn k) k (if ld_ok N S o9 z9 t9 k then 1 else 0)) i)))) := ⟨_, rfl⟩
                have hP : mm_P B D kc w19 H := by rw [hw19]; exact hP
                have fr19 : ∀ j, j ≠ a + 1 → w19 j = w2 j := fun j h9 => by rw [hw19]; exact mm_un h9
                have fa19 : w19 (a + 1) = some (.inl (cZ, 24, .inl (fun i => nI ((va_up (ld_cn N S o9 z9 t9 cn k) k (if ld_ok N S o9 z9 t9 k then 1 else 0)) i)))) := by rw [hw19]; exact mm_us _ _ _
                refine lv_iinc (k := 1) (v := nI (k + 1)) hx hb d_Led_mark_63 hl rfl (kk_inc _) (by decide) rfl (fun ls hl => ?_)
                have hl : lv_has ls 7 [(5, .int (nI (k + 1))), (6, .ref (ad k)), (0, .ref a), (1, .ref q), (2, .int (nI o9)), (3, .int z9), (4, .int t9)] := hl
                refine lv_goto (tgt := 3) hx hb d_Led_mark_66 (by decide) ?_
                exact ih _ (by omega) (k + 1) w19 _ _ ls rfl hP hz hS (fun j g0 => (fr19 j g0).trans (frw2 j g0)) (by rw [← ld_cn_step]; exact fa19) (by omega) (lv_sub hl [0, 2, 3, 4, 5, 6] rfl)
          · refine lv_aload_n hx hb d_Led_mark_12 rfl (lv_at hl 2 rfl) ?_
            refine lv_iload hx hb d_Led_mark_13 (lv_at hl 0 rfl) ?_
            refine va_csq (va_Run.run (va_runV (As := [.int (nI k)]) (rest := []) ⟨hx, hb, hml, hown, hts⟩ (c_Reg_permission l (N := N) (S := S) (ad := ad) hRk hR) (cwV 1 hts (gW_in (hd := [_, _, _, _, _]) (kk_5 wd_363 wd_264 wd_265 wd_2 cw_Reg_permission)) rfl rfl rfl ⟨rfl, ds_Reg_permission⟩ ⟨Nat.le_of_ble_eq_true rfl, Nat.le_of_ble_eq_true rfl⟩) (kk_preV hK hP hz hBz f3 rfl) rfl rfl hl.1 rfl (lv_room (Nat.le_of_ble_eq_true rfl)) d_Led_mark_15 ⟨Nat.le_of_ble_eq_true rfl, Nat.le_of_ble_eq_true rfl⟩)) (fun r20 hr20 => ?_)
            subst hr20
            refine kk_topv (y := .null) (by rw [re_pm_no hk2 hn (fun q => hgn q.1)]; rfl) ?_
            refine lv_astoreN hx hb d_Led_mark_18 hl (by decide) rfl (fun ls hl => ?_)
            have hl : lv_has ls 7 [(6, .null), (5, .int (nI k)), (0, .ref a), (1, .ref q), (2, .int (nI o9)), (3, .int z9), (4, .int t9)] := hl
            refine lv_aload_n hx hb d_Led_mark_20 rfl (lv_at hl 2 rfl) ?_
            have f21 := (frw2 _ (by omega)).trans (h_0)
            refine mm_get (D := D) (C := n_Led) (T := T_Led) (N := 3) (v := .ref (a + 1)) hx hb hts lay_Led hown hK.1 hP f21 rfl 0 (by decide) (hts _ (List.mem_cons_of_mem _ wd_58)) (fun _ h9 => h9) rfl d_Led_mark_21 ?_
            refine lv_iload hx hb d_Led_mark_24 (lv_at hl 1 rfl) ?_
            refine lv_aloadN hx hb d_Led_mark_26 (lv_at hl 0 rfl) ?_
            refine lv_ifnullN (tgt := 61) hx hb d_Led_mark_28 (by decide) ?_
            refine lv_iconst (v := nI 0) hx hb d_Led_mark_61 (by decide) ?_
            refine kk_top (y := nI (if ld_ok N S o9 z9 t9 k then 1 else 0)) (kk_iff (fun q9 => hgn q9.1)) ?_
            refine mm_zast hx hb hK.1 hP hS 1 fw2_0 rfl k rfl (by omega) (by decide) (kk_nar _) d_Led_mark_62 (fun H locs hP hz1 hS => ?_)
            rw [show upd (fun i => nI ((ld_cn N S o9 z9 t9 cn k) i)) k (nI (if ld_ok N S o9 z9 t9 k then 1 else 0)) = fun i => nI ((va_up (ld_cn N S o9 z9 t9 cn k) k (if ld_ok N S o9 z9 t9 k then 1 else 0)) i) from kk_upn _ _ _] at hP
            have hz : H.size = sz := hz1.trans hz
            obtain ⟨w22, hw22⟩ : ∃ z : mm_M, z = mm_up w2 (a + 1) (.inl (cZ, 24, .inl (fun i => nI ((va_up (ld_cn N S o9 z9 t9 cn k) k (if ld_ok N S o9 z9 t9 k then 1 else 0)) i)))) := ⟨_, rfl⟩
            have hP : mm_P B D kc w22 H := by rw [hw22]; exact hP
            have fr22 : ∀ j, j ≠ a + 1 → w22 j = w2 j := fun j h9 => by rw [hw22]; exact mm_un h9
            have fa22 : w22 (a + 1) = some (.inl (cZ, 24, .inl (fun i => nI ((va_up (ld_cn N S o9 z9 t9 cn k) k (if ld_ok N S o9 z9 t9 k then 1 else 0)) i)))) := by rw [hw22]; exact mm_us _ _ _
            refine lv_iinc (k := 1) (v := nI (k + 1)) hx hb d_Led_mark_63 hl rfl (kk_inc _) (by decide) rfl (fun ls hl => ?_)
            have hl : lv_has ls 7 [(5, .int (nI (k + 1))), (6, .null), (0, .ref a), (1, .ref q), (2, .int (nI o9)), (3, .int z9), (4, .int t9)] := hl
            refine lv_goto (tgt := 3) hx hb d_Led_mark_66 (by decide) ?_
            exact ih _ (by omega) (k + 1) w22 _ _ ls rfl hP hz hS (fun j g0 => (fr22 j g0).trans (frw2 j g0)) (by rw [← ld_cn_step]; exact fa22) (by omega) (lv_sub hl [0, 2, 3, 4, 5, 6] rfl)
  exact lp1 _ 0 w _ _ _ rfl hP hz hS (fun _ _ => rfl) (by rw [ld_cn_0]; exact h_1) (by omega) (lv_sub hl [0, 1, 2, 3, 4, 5] rfl)
