theorem d_X_begin_0 : decode k_X_begin 0 = .ok (.aload_n 0, 1) := by decide +kernel
theorem d_X_begin_1 : decode k_X_begin 1 = .ok (.getfield 12, 3) := by decide +kernel
theorem d_X_begin_4 : decode k_X_begin 4 = .ok (.iload_n 1, 1) := by decide +kernel
theorem d_X_begin_5 : decode k_X_begin 5 = .ok (.invokevirtual 62, 3) := by decide +kernel
theorem d_X_begin_8 : decode k_X_begin 8 = .ok (.astore_n 2, 1) := by decide +kernel
theorem d_X_begin_9 : decode k_X_begin 9 = .ok (.aload_n 2, 1) := by decide +kernel
theorem d_X_begin_10 : decode k_X_begin 10 = .ok (.ifnull 20, 3) := by decide +kernel
theorem d_X_begin_13 : decode k_X_begin 13 = .ok (.aload_n 2, 1) := by decide +kernel
theorem d_X_begin_14 : decode k_X_begin 14 = .ok (.getfield 121, 3) := by decide +kernel
theorem d_X_begin_17 : decode k_X_begin 17 = .ok (.bipush 8, 2) := by decide +kernel
theorem d_X_begin_19 : decode k_X_begin 19 = .ok (.if_icmp .ne 11, 3) := by decide +kernel
theorem d_X_begin_22 : decode k_X_begin 22 = .ok (.aload_n 2, 1) := by decide +kernel
theorem d_X_begin_23 : decode k_X_begin 23 = .ok (.getfield 76, 3) := by decide +kernel
theorem d_X_begin_26 : decode k_X_begin 26 = .ok (.iconst 1, 1) := by decide +kernel
theorem d_X_begin_27 : decode k_X_begin 27 = .ok (.if_icmp .le 5, 3) := by decide +kernel
theorem d_X_begin_30 : decode k_X_begin 30 = .ok (.iconst 0, 1) := by decide +kernel
theorem d_X_begin_31 : decode k_X_begin 31 = .ok (.ireturn, 1) := by decide +kernel
theorem d_X_begin_32 : decode k_X_begin 32 = .ok (.aload_n 0, 1) := by decide +kernel
theorem d_X_begin_33 : decode k_X_begin 33 = .ok (.getfield 33, 3) := by decide +kernel
theorem d_X_begin_36 : decode k_X_begin 36 = .ok (.aload_n 2, 1) := by decide +kernel
theorem d_X_begin_37 : decode k_X_begin 37 = .ok (.invokevirtual 124, 3) := by decide +kernel
theorem d_X_begin_40 : decode k_X_begin 40 = .ok (.iconst 1, 1) := by decide +kernel
theorem d_X_begin_41 : decode k_X_begin 41 = .ok (.ireturn, 1) := by decide +kernel
set_option maxHeartbeats 4000000 in
set_option maxRecDepth 100000 in
theorem c_X_begin (l : Launch) {B : Nat} {D : va_G} {cI cZ cQ : ClassId} {w : mm_M} {sz : Nat} {b : Nat} {N : Nat → Nat → Nat} {S : Nat → Nat → Int32} {nr : Int32} (hXI : xs_I b cI cZ cQ sz N S w) (hR : rg_I N) (hC : ch_I N)  : Met l y_X_begin ws_X_begin (kk_rm 4 0 0) (kk_Pc B D cI cZ cQ [.ref b, .int nr] w sz) (kk_Qi B D (fun r w' sz' => r = nI (if be_ok N nr then 1 else 0) ∧ xs_I b cI cZ cQ sz' (be_N N nr) (be_S N S nr) w' ∧ (∀ j, b + 14 ≤ j → j < b + 31 → w' j = w j) ∧ sz' = sz)) 0 0 (fun q => B ≤ q) := by
  refine Met.ofW (cc := k_X_begin) (maxL := 3) (ret := (some .boolean)) (by decide) rfl ?_
  intro p e s m args below meth c s₁ BB hml hv
  obtain ⟨rfl, hK, hP, hz, hBz⟩ := hv
  have hx := BB.exec
  have hb := BB.bytes
  have hr := BB.returns
  have hts := atoms_spec (ws := ws_X_begin) BB.pre
  have hown : s.vm.findClass "DelegationClosure" = some m.cls := findClass_of_methodNamed BB.named
  have hlocks := BB.notSynchronized
  have hS : mm_S B s.heap s.heap [] := va_S.rf
  have hl := lv_entry ([.ref b, .int nr]) (n := 3) (Nat.le_of_ble_eq_true rfl)
  rw [lg_entry_eq]
  generalize (lg_sl ([.ref b, .int nr]) ++ List.replicate (3 - (lg_sl ([.ref b, .int nr])).length) Slot.unset).toArray = ls at hl ⊢
  have hl : lv_has ls 3 [(0, .ref b), (1, .int nr)] := hl
  obtain ⟨T, U, ad, ⟨hRe, x0, x3, x4, x5, x6, x7, x8, x9, x10, x11, x12, x13⟩, hXr, hLa⟩ := hXI
  have hn := hRe.2.2.1
  have hC1 := hC.1
  have hC2 := hC.2.1
  have hC3 := hC.2.2.1
  have hC4 := hC.2.2.2.1
  have hC5 := hC.2.2.2.2.1
  have hC6 := hC.2.2.2.2.2.1
  rcases re_split hn nr with hc | ⟨jj, hj, rfl⟩
  · refine lv_aload_n hx hb d_X_begin_0 rfl (lv_at hl 0 rfl) ?_
    refine mm_get (D := D) (C := n_X) (T := T_X) (N := 4) (v := .ref (b + 1)) hx hb hts lay_X hown hK.1 hP x0 rfl 0 (by decide) (hts _ (List.mem_cons_of_mem _ wd_132)) (fun _ h9 => h9) rfl d_X_begin_1 ?_
    refine lv_iload_n hx hb d_X_begin_4 rfl (lv_at hl 1 rfl) ?_
    refine va_csq (va_Run.run (va_runV (As := [.int nr]) (rest := []) ⟨hx, hb, hml, hown, hts⟩ (c_Reg_permission l (N := N) (S := S) (ad := ad) hRe hR) (cwV 1 hts (gW_in (hd := [_, _, _, _, _]) (kk_5 wd_263 wd_264 wd_265 wd_2 cw_Reg_permission)) rfl rfl rfl ⟨rfl, ds_Reg_permission⟩ ⟨Nat.le_of_ble_eq_true rfl, Nat.le_of_ble_eq_true rfl⟩) (kk_preV hK hP hz hBz hRe.1 rfl) rfl rfl hl.1 rfl (lv_room (Nat.le_of_ble_eq_true rfl)) d_X_begin_5 ⟨Nat.le_of_ble_eq_true rfl, Nat.le_of_ble_eq_true rfl⟩)) (fun r1 hr1 => ?_)
    subst hr1
    refine kk_topv (y := .null) (by rw [re_pm_out hc]; rfl) ?_
    refine lv_astore_nN hx hb d_X_begin_8 rfl hl (by decide) rfl (fun ls hl => ?_)
    have hl : lv_has ls 3 [(2, .null), (0, .ref b), (1, .int nr)] := hl
    refine lv_aload_nN hx hb d_X_begin_9 rfl (lv_at hl 0 rfl) ?_
    refine lv_ifnullN (tgt := 30) hx hb d_X_begin_10 (by decide) ?_
    refine lv_iconst (v := nI 0) hx hb d_X_begin_30 (by decide) ?_
    exact W.zret hx hb hr rfl (fun t ht hW => ⟨⟨_, (w, sz), rfl, ⟨kk_iff (fun q => (re_tp_out hc) q.1), (by rw [show be_N N _ = N from if_neg (fun q => (re_tp_out hc) q.1), show be_S N S _ = S from if_neg (fun q => (re_tp_out hc) q.1)]; exact ⟨T, U, ad, ⟨hRe, x0, x3, x4, x5, x6, x7, x8, x9, x10, x11, x12, x13⟩, hXr, hLa⟩), (fun j9 hj1 hj2 => rfl), rfl⟩, by rw [ht]; exact hP, by rw [ht]; exact hz⟩, hS.F ht⟩) hS.2.2 d_X_begin_31
  · have hRj := hR jj hj
    have hLj := (hLa jj hj).1
    rcases hRe.2.2.2 jj hj with ⟨h2, hn1, hn2⟩ | ⟨h2, hp1, hp2, hp3, hp4, hp5⟩
    · have hwj : (if N 2 jj = 1 then 2 else 5) = 2 := if_pos h2
      by_cases hgn : N 1 jj = 0
      · refine lv_aload_n hx hb d_X_begin_0 rfl (lv_at hl 0 rfl) ?_
        refine mm_get (D := D) (C := n_X) (T := T_X) (N := 4) (v := .ref (b + 1)) hx hb hts lay_X hown hK.1 hP x0 rfl 0 (by decide) (hts _ (List.mem_cons_of_mem _ wd_132)) (fun _ h9 => h9) rfl d_X_begin_1 ?_
        refine lv_iload_n hx hb d_X_begin_4 rfl (lv_at hl 1 rfl) ?_
        refine va_csq (va_Run.run (va_runV (As := [.int (nI jj)]) (rest := []) ⟨hx, hb, hml, hown, hts⟩ (c_Reg_permission l (N := N) (S := S) (ad := ad) hRe hR) (cwV 1 hts (gW_in (hd := [_, _, _, _, _]) (kk_5 wd_263 wd_264 wd_265 wd_2 cw_Reg_permission)) rfl rfl rfl ⟨rfl, ds_Reg_permission⟩ ⟨Nat.le_of_ble_eq_true rfl, Nat.le_of_ble_eq_true rfl⟩) (kk_preV hK hP hz hBz hRe.1 rfl) rfl rfl hl.1 rfl (lv_room (Nat.le_of_ble_eq_true rfl)) d_X_begin_5 ⟨Nat.le_of_ble_eq_true rfl, Nat.le_of_ble_eq_true rfl⟩)) (fun r2 hr2 => ?_)
        subst hr2
        refine kk_topv (y := .null) (by rw [re_pm_no hj hn (fun q => by have := q.2; omega)]; rfl) ?_
        refine lv_astore_nN hx hb d_X_begin_8 rfl hl (by decide) rfl (fun ls hl => ?_)
        have hl : lv_has ls 3 [(2, .null), (0, .ref b), (1, .int (nI jj))] := hl
        refine lv_aload_nN hx hb d_X_begin_9 rfl (lv_at hl 0 rfl) ?_
        refine lv_ifnullN (tgt := 30) hx hb d_X_begin_10 (by decide) ?_
        refine lv_iconst (v := nI 0) hx hb d_X_begin_30 (by decide) ?_
        exact W.zret hx hb hr rfl (fun t ht hW => ⟨⟨_, (w, sz), rfl, ⟨kk_iff (fun q => (fun q => by have := ((re_tp_in hj hn).mp q).2; omega) q.1), (by rw [show be_N N _ = N from if_neg (fun q => (fun q => by have := ((re_tp_in hj hn).mp q).2; omega) q.1), show be_S N S _ = S from if_neg (fun q => (fun q => by have := ((re_tp_in hj hn).mp q).2; omega) q.1)]; exact ⟨T, U, ad, ⟨hRe, x0, x3, x4, x5, x6, x7, x8, x9, x10, x11, x12, x13⟩, hXr, hLa⟩), (fun j9 hj1 hj2 => rfl), rfl⟩, by rw [ht]; exact hP, by rw [ht]; exact hz⟩, hS.F ht⟩) hS.2.2 d_X_begin_31
      · refine lv_aload_n hx hb d_X_begin_0 rfl (lv_at hl 0 rfl) ?_
        refine mm_get (D := D) (C := n_X) (T := T_X) (N := 4) (v := .ref (b + 1)) hx hb hts lay_X hown hK.1 hP x0 rfl 0 (by decide) (hts _ (List.mem_cons_of_mem _ wd_132)) (fun _ h9 => h9) rfl d_X_begin_1 ?_
        refine lv_iload_n hx hb d_X_begin_4 rfl (lv_at hl 1 rfl) ?_
        refine va_csq (va_Run.run (va_runV (As := [.int (nI jj)]) (rest := []) ⟨hx, hb, hml, hown, hts⟩ (c_Reg_permission l (N := N) (S := S) (ad := ad) hRe hR) (cwV 1 hts (gW_in (hd := [_, _, _, _, _]) (kk_5 wd_263 wd_264 wd_265 wd_2 cw_Reg_permission)) rfl rfl rfl ⟨rfl, ds_Reg_permission⟩ ⟨Nat.le_of_ble_eq_true rfl, Nat.le_of_ble_eq_true rfl⟩) (kk_preV hK hP hz hBz hRe.1 rfl) rfl rfl hl.1 rfl (lv_room (Nat.le_of_ble_eq_true rfl)) d_X_begin_5 ⟨Nat.le_of_ble_eq_true rfl, Nat.le_of_ble_eq_true rfl⟩)) (fun r3 hr3 => ?_)
        subst hr3
        refine kk_topv (y := .null) (by rw [re_pm_no hj hn (fun q => by have := q.2; omega)]; rfl) ?_
        refine lv_astore_nN hx hb d_X_begin_8 rfl hl (by decide) rfl (fun ls hl => ?_)
        have hl : lv_has ls 3 [(2, .null), (0, .ref b), (1, .int (nI jj))] := hl
        refine lv_aload_nN hx hb d_X_begin_9 rfl (lv_at hl 0 rfl) ?_
        refine lv_ifnullN (tgt := 30) hx hb d_X_begin_10 (by decide) ?_
        refine lv_iconst (v := nI 0) hx hb d_X_begin_30 (by decide) ?_
        exact W.zret hx hb hr rfl (fun t ht hW => ⟨⟨_, (w, sz), rfl, ⟨kk_iff (fun q => (fun q => by have := ((re_tp_in hj hn).mp q).2; omega) q.1), (by rw [show be_N N _ = N from if_neg (fun q => (fun q => by have := ((re_tp_in hj hn).mp q).2; omega) q.1), show be_S N S _ = S from if_neg (fun q => (fun q => by have := ((re_tp_in hj hn).mp q).2; omega) q.1)]; exact ⟨T, U, ad, ⟨hRe, x0, x3, x4, x5, x6, x7, x8, x9, x10, x11, x12, x13⟩, hXr, hLa⟩), (fun j9 hj1 hj2 => rfl), rfl⟩, by rw [ht]; exact hP, by rw [ht]; exact hz⟩, hS.F ht⟩) hS.2.2 d_X_begin_31
    · have hwj : (if N 2 jj = 1 then 2 else 5) = 5 := if_neg (by omega)
      by_cases hgn : N 1 jj = 0
      · have htp : re_tp N (nI jj) := (re_tp_in hj hn).mpr ⟨hgn, h2⟩
        by_cases hok : be_ok N (nI jj)
        · have hs0 : wf_subn (N 7 (3 * jj)) := hRj.2.2.2.2.2.1 0 (by omega)
          have hs00 : ce_sub N jj 0 < 200 := hs0.1
          have hA2 := ch_a_le (N 7 (3 * jj))
          have hT4 := hXr.2.2.2.2.1
          have hg1 : N 3 jj = 8 := by have h9 := hok.2.1; rw [nI_clamp (by omega)] at h9; exact h9
          have hg2 : N 8 jj = 1 := by have h9 := hok.2.2; rw [nI_clamp (by omega)] at h9; exact h9
          refine lv_aload_n hx hb d_X_begin_0 rfl (lv_at hl 0 rfl) ?_
          refine mm_get (D := D) (C := n_X) (T := T_X) (N := 4) (v := .ref (b + 1)) hx hb hts lay_X hown hK.1 hP x0 rfl 0 (by decide) (hts _ (List.mem_cons_of_mem _ wd_132)) (fun _ h9 => h9) rfl d_X_begin_1 ?_
          refine lv_iload_n hx hb d_X_begin_4 rfl (lv_at hl 1 rfl) ?_
          refine va_csq (va_Run.run (va_runV (As := [.int (nI jj)]) (rest := []) ⟨hx, hb, hml, hown, hts⟩ (c_Reg_permission l (N := N) (S := S) (ad := ad) hRe hR) (cwV 1 hts (gW_in (hd := [_, _, _, _, _]) (kk_5 wd_263 wd_264 wd_265 wd_2 cw_Reg_permission)) rfl rfl rfl ⟨rfl, ds_Reg_permission⟩ ⟨Nat.le_of_ble_eq_true rfl, Nat.le_of_ble_eq_true rfl⟩) (kk_preV hK hP hz hBz hRe.1 rfl) rfl rfl hl.1 rfl (lv_room (Nat.le_of_ble_eq_true rfl)) d_X_begin_5 ⟨Nat.le_of_ble_eq_true rfl, Nat.le_of_ble_eq_true rfl⟩)) (fun r4 hr4 => ?_)
          subst hr4
          refine kk_topv (y := .ref (ad jj)) (by rw [re_pm_in hj hn hgn h2]; rfl) ?_
          refine lv_astore_n hx hb d_X_begin_8 rfl hl (by decide) rfl (fun ls hl => ?_)
          have hl : lv_has ls 3 [(2, .ref (ad jj)), (0, .ref b), (1, .int (nI jj))] := hl
          refine lv_aload_n hx hb d_X_begin_9 rfl (lv_at hl 0 rfl) ?_
          refine lv_ifnull hx hb d_X_begin_10 ?_
          refine lv_aload_n hx hb d_X_begin_13 rfl (lv_at hl 0 rfl) ?_
          refine mm_get (D := D) (C := n_Prm) (T := T_Prm) (N := 8) (v := .int (nI (N 3 jj))) hx hb hts lay_Prm hown hK.1 hP hp1 rfl 0 (by decide) (hts _ (List.mem_cons_of_mem _ wd_189)) (fun x9 h9 => u_same (hts _ (List.mem_cons_of_mem _ wd_187)) x9 h9) rfl d_X_begin_14 ?_
          refine lv_bipush (v := nI 8) hx hb d_X_begin_17 (by decide) ?_
          refine lv_icmp_ne (tgt := 30) hx hb d_X_begin_19 (by decide) (fun cc5 => ?_) (fun cc5 => ?_)
          · have cc5 : ¬ (N 3 jj = 8) := fun q => cc5 ((nI_eq (by omega) (by omega)).mpr q)
            exact absurd cc5 (by omega)
          · have cc5 : N 3 jj = 8 := (nI_eq (by omega) (by omega)).mp cc5
            refine lv_aload_n hx hb d_X_begin_22 rfl (lv_at hl 0 rfl) ?_
            refine mm_get (D := D) (C := n_Prm) (T := T_Prm) (N := 8) (v := .int (nI (N 8 jj))) hx hb hts lay_Prm hown hK.1 hP hp1 rfl 6 (by decide) (hts _ (List.mem_cons_of_mem _ wd_240)) (fun _ h9 => h9) rfl d_X_begin_23 ?_
            refine lv_iconst (v := nI 1) hx hb d_X_begin_26 (by decide) ?_
            refine lv_icmp_le (tgt := 32) hx hb d_X_begin_27 (by decide) (fun cc6 => ?_) (fun cc6 => ?_)
            · have cc6 : N 8 jj ≤ 1 := (nI_leI (by omega) (by omega)).mp cc6
              refine lv_aload_n hx hb d_X_begin_32 rfl (lv_at hl 1 rfl) ?_
              refine mm_get (D := D) (C := n_X) (T := T_X) (N := 4) (v := .ref (b + 9)) hx hb hts lay_X hown hK.1 hP x0 rfl 3 (by decide) (hts _ (List.mem_cons_of_mem _ wd_135)) (fun _ h9 => h9) rfl d_X_begin_33 ?_
              refine lv_aload_n hx hb d_X_begin_36 rfl (lv_at hl 0 rfl) ?_
              refine kk_callv (va_runV (As := [.ref (ad jj)]) (rest := []) ⟨hx, hb, hml, hown, hts⟩ (c_Chn_start l x9 x10 x11 x12 x13 hp1 hp2 hp3 hp4 hp5 (by omega) (by omega) (by omega) (by omega)) (cwV 1 hts (gW_in (hd := [_, _, _, _, _]) (kk_5 wd_402 wd_403 wd_404 wd_5 cw_Chn_start)) rfl rfl rfl ⟨rfl, ds_Chn_start⟩ ⟨Nat.le_of_ble_eq_true rfl, Nat.le_of_ble_eq_true rfl⟩) (kk_preV hK hP hz hBz x9 rfl) rfl rfl hl.1 rfl (lv_room (Nat.le_of_ble_eq_true rfl)) d_X_begin_37 ⟨Nat.le_of_ble_eq_true rfl, Nat.le_of_ble_eq_true rfl⟩) hS (fun w7 sz7 H locs hp7 hP hz hS => ?_)
              obtain ⟨he7, hs7⟩ := hp7
              have hz : H.size = sz := hz.trans hs7
              have hw8 : w7 = mm_up (mm_up (mm_up (mm_up (mm_up w (b + 9) (.inr (4, [.int (nI (((ce_sub N jj) 0) % 8)), .ref (b + 10), .int (nI (ch_a ((ce_sub N jj) 0) + 0)), .ref (b + 11), .ref (b + 13), .int (nI 1), .int (nI (N 13 jj))]))) (b + 10) (.inl (cI, 4, .inl (fun i => nI ((ch_put (T 4) ((ce_sub N jj) 0) ((N 18 0) - 0) 0) i))))) (b + 11) (.inr (5, [.int (nI (N 10 jj)), .ref (b + 12)]))) (b + 12) (.inr (6, [.int (S 11 jj), .int (S 12 jj)]))) (b + 13) (.inr (6, [.int (S 5 jj), .int (S 6 jj)])) := he7
              have fr8 : ∀ j, j ≠ b + 9 → j ≠ b + 10 → j ≠ b + 11 → j ≠ b + 12 → j ≠ b + 13 → w7 j = w j := fun j h90 h91 h92 h93 h94 => by rw [hw8]; exact (mm_un h94).trans ((mm_un h93).trans ((mm_un h92).trans ((mm_un h91).trans (mm_un h90))))
              have fa8_0 : w7 (b + 9) = some (.inr (4, [.int (nI (((ce_sub N jj) 0) % 8)), .ref (b + 10), .int (nI (ch_a ((ce_sub N jj) 0) + 0)), .ref (b + 11), .ref (b + 13), .int (nI 1), .int (nI (N 13 jj))])) := by rw [hw8]; exact (mm_un (by omega)).trans ((mm_un (by omega)).trans ((mm_un (by omega)).trans ((mm_un (by omega)).trans (mm_us _ _ _))))
              have fa8_1 : w7 (b + 10) = some (.inl (cI, 4, .inl (fun i => nI ((ch_put (T 4) ((ce_sub N jj) 0) ((N 18 0) - 0) 0) i)))) := by rw [hw8]; exact (mm_un (by omega)).trans ((mm_un (by omega)).trans ((mm_un (by omega)).trans (mm_us _ _ _)))
              have fa8_2 : w7 (b + 11) = some (.inr (5, [.int (nI (N 10 jj)), .ref (b + 12)])) := by rw [hw8]; exact (mm_un (by omega)).trans ((mm_un (by omega)).trans (mm_us _ _ _))
              have fa8_3 : w7 (b + 12) = some (.inr (6, [.int (S 11 jj), .int (S 12 jj)])) := by rw [hw8]; exact (mm_un (by omega)).trans (mm_us _ _ _)
              have fa8_4 : w7 (b + 13) = some (.inr (6, [.int (S 5 jj), .int (S 6 jj)])) := by rw [hw8]; exact mm_us _ _ _
              refine lv_iconst (v := nI 1) hx hb d_X_begin_40 (by decide) ?_
              exact W.zret hx hb hr rfl (fun t ht hW => ⟨⟨_, (w7, sz), rfl, ⟨kk_ift hok, (by rw [be_N_pos (by omega) hok, be_S_pos (by omega) hok]; exact ⟨(va_up (va_up T 4 (ch_put (T 4) (ce_sub N jj 0) (N 18 0 - 0) 0)) 5 (fun _ => N 10 jj)), (fun k => if k = 0 then S 11 jj else S 12 jj), ad, ⟨hRe.keep (fun i9 hi9 => fr8 i9 (by rcases hi9 with h | h | ⟨c9, h, h8, h7⟩ <;> (try have := (hLa c9 h).1) <;> omega) (by rcases hi9 with h | h | ⟨c9, h, h8, h7⟩ <;> (try have := (hLa c9 h).1) <;> omega) (by rcases hi9 with h | h | ⟨c9, h, h8, h7⟩ <;> (try have := (hLa c9 h).1) <;> omega) (by rcases hi9 with h | h | ⟨c9, h, h8, h7⟩ <;> (try have := (hLa c9 h).1) <;> omega) (by rcases hi9 with h | h | ⟨c9, h, h8, h7⟩ <;> (try have := (hLa c9 h).1) <;> omega)), ((fr8 _ (by omega) (by omega) (by omega) (by omega) (by omega)).trans (x0)), ((fr8 _ (by omega) (by omega) (by omega) (by omega) (by omega)).trans (x3)), ((fr8 _ (by omega) (by omega) (by omega) (by omega) (by omega)).trans (x4)), ((fr8 _ (by omega) (by omega) (by omega) (by omega) (by omega)).trans (x5)), ((fr8 _ (by omega) (by omega) (by omega) (by omega) (by omega)).trans (x6)), ((fr8 _ (by omega) (by omega) (by omega) (by omega) (by omega)).trans (x7)), ((fr8 _ (by omega) (by omega) (by omega) (by omega) (by omega)).trans (x8)), (by rw [show b1_N N (pl_N (b0_N N) (N 7 (3 * jj))) jj 18 0 = ch_a (ce_sub N jj 0) + 0 from Nat.zero_add _]; exact fa8_0), fa8_1, fa8_2, fa8_3, fa8_4⟩, ⟨⟨fun _ => Nat.one_pos, fun _ => rfl⟩, fun _ => ⟨rfl, rfl, rfl⟩, (show N 10 jj < 256 by omega), (fun j9 hj9 => by have hj9 : j9 < 0 + ch_a (N 7 (3 * jj)) := hj9; exact (ch_put_lt (n := N 7 (3 * jj)) (by omega)).trans (ch_put_lt (n := N 7 (3 * jj)) (by omega)).symm), ch_put3 hT4 hs0.1 _ _, hXr.2.2.2.2.2.1, hXr.2.2.2.2.2.2⟩, hLa⟩), (fun j9 hj1 hj2 => fr8 j9 (by omega) (by omega) (by omega) (by omega) (by omega)), rfl⟩, by rw [ht]; exact hP, by rw [ht]; exact hz⟩, hS.F ht⟩) hS.2.2 d_X_begin_41
            · have cc6 : ¬ (N 8 jj ≤ 1) := fun q => cc6 ((nI_leI (by omega) (by omega)).mpr q)
              exact absurd cc6 (by omega)
        · refine lv_aload_n hx hb d_X_begin_0 rfl (lv_at hl 0 rfl) ?_
          refine mm_get (D := D) (C := n_X) (T := T_X) (N := 4) (v := .ref (b + 1)) hx hb hts lay_X hown hK.1 hP x0 rfl 0 (by decide) (hts _ (List.mem_cons_of_mem _ wd_132)) (fun _ h9 => h9) rfl d_X_begin_1 ?_
          refine lv_iload_n hx hb d_X_begin_4 rfl (lv_at hl 1 rfl) ?_
          refine va_csq (va_Run.run (va_runV (As := [.int (nI jj)]) (rest := []) ⟨hx, hb, hml, hown, hts⟩ (c_Reg_permission l (N := N) (S := S) (ad := ad) hRe hR) (cwV 1 hts (gW_in (hd := [_, _, _, _, _]) (kk_5 wd_263 wd_264 wd_265 wd_2 cw_Reg_permission)) rfl rfl rfl ⟨rfl, ds_Reg_permission⟩ ⟨Nat.le_of_ble_eq_true rfl, Nat.le_of_ble_eq_true rfl⟩) (kk_preV hK hP hz hBz hRe.1 rfl) rfl rfl hl.1 rfl (lv_room (Nat.le_of_ble_eq_true rfl)) d_X_begin_5 ⟨Nat.le_of_ble_eq_true rfl, Nat.le_of_ble_eq_true rfl⟩)) (fun r9 hr9 => ?_)
          subst hr9
          refine kk_topv (y := .ref (ad jj)) (by rw [re_pm_in hj hn hgn h2]; rfl) ?_
          refine lv_astore_n hx hb d_X_begin_8 rfl hl (by decide) rfl (fun ls hl => ?_)
          have hl : lv_has ls 3 [(2, .ref (ad jj)), (0, .ref b), (1, .int (nI jj))] := hl
          refine lv_aload_n hx hb d_X_begin_9 rfl (lv_at hl 0 rfl) ?_
          refine lv_ifnull hx hb d_X_begin_10 ?_
          refine lv_aload_n hx hb d_X_begin_13 rfl (lv_at hl 0 rfl) ?_
          refine mm_get (D := D) (C := n_Prm) (T := T_Prm) (N := 8) (v := .int (nI (N 3 jj))) hx hb hts lay_Prm hown hK.1 hP hp1 rfl 0 (by decide) (hts _ (List.mem_cons_of_mem _ wd_189)) (fun x9 h9 => u_same (hts _ (List.mem_cons_of_mem _ wd_187)) x9 h9) rfl d_X_begin_14 ?_
          refine lv_bipush (v := nI 8) hx hb d_X_begin_17 (by decide) ?_
          refine lv_icmp_ne (tgt := 30) hx hb d_X_begin_19 (by decide) (fun cc10 => ?_) (fun cc10 => ?_)
          · have cc10 : ¬ (N 3 jj = 8) := fun q => cc10 ((nI_eq (by omega) (by omega)).mpr q)
            refine lv_iconst (v := nI 0) hx hb d_X_begin_30 (by decide) ?_
            exact W.zret hx hb hr rfl (fun t ht hW => ⟨⟨_, (w, sz), rfl, ⟨kk_iff hok, (by rw [show be_N N _ = N from if_neg hok, show be_S N S _ = S from if_neg hok]; exact ⟨T, U, ad, ⟨hRe, x0, x3, x4, x5, x6, x7, x8, x9, x10, x11, x12, x13⟩, hXr, hLa⟩), (fun j9 hj1 hj2 => rfl), rfl⟩, by rw [ht]; exact hP, by rw [ht]; exact hz⟩, hS.F ht⟩) hS.2.2 d_X_begin_31
          · have cc10 : N 3 jj = 8 := (nI_eq (by omega) (by omega)).mp cc10
            refine lv_aload_n hx hb d_X_begin_22 rfl (lv_at hl 0 rfl) ?_
            refine mm_get (D := D) (C := n_Prm) (T := T_Prm) (N := 8) (v := .int (nI (N 8 jj))) hx hb hts lay_Prm hown hK.1 hP hp1 rfl 6 (by decide) (hts _ (List.mem_cons_of_mem _ wd_240)) (fun _ h9 => h9) rfl d_X_begin_23 ?_
            refine lv_iconst (v := nI 1) hx hb d_X_begin_26 (by decide) ?_
            refine lv_icmp_le (tgt := 32) hx hb d_X_begin_27 (by decide) (fun cc11 => ?_) (fun cc11 => ?_)
            · have cc11 : N 8 jj ≤ 1 := (nI_leI (by omega) (by omega)).mp cc11
              exact absurd ⟨htp, by rw [nI_clamp (by omega)]; exact cc10, by rw [nI_clamp (by omega)]; omega⟩ hok
            · have cc11 : ¬ (N 8 jj ≤ 1) := fun q => cc11 ((nI_leI (by omega) (by omega)).mpr q)
              refine lv_iconst (v := nI 0) hx hb d_X_begin_30 (by decide) ?_
              exact W.zret hx hb hr rfl (fun t ht hW => ⟨⟨_, (w, sz), rfl, ⟨kk_iff hok, (by rw [show be_N N _ = N from if_neg hok, show be_S N S _ = S from if_neg hok]; exact ⟨T, U, ad, ⟨hRe, x0, x3, x4, x5, x6, x7, x8, x9, x10, x11, x12, x13⟩, hXr, hLa⟩), (fun j9 hj1 hj2 => rfl), rfl⟩, by rw [ht]; exact hP, by rw [ht]; exact hz⟩, hS.F ht⟩) hS.2.2 d_X_begin_31
      · refine lv_aload_n hx hb d_X_begin_0 rfl (lv_at hl 0 rfl) ?_
        refine mm_get (D := D) (C := n_X) (T := T_X) (N := 4) (v := .ref (b + 1)) hx hb hts lay_X hown hK.1 hP x0 rfl 0 (by decide) (hts _ (List.mem_cons_of_mem _ wd_132)) (fun _ h9 => h9) rfl d_X_begin_1 ?_
        refine lv_iload_n hx hb d_X_begin_4 rfl (lv_at hl 1 rfl) ?_
        refine va_csq (va_Run.run (va_runV (As := [.int (nI jj)]) (rest := []) ⟨hx, hb, hml, hown, hts⟩ (c_Reg_permission l (N := N) (S := S) (ad := ad) hRe hR) (cwV 1 hts (gW_in (hd := [_, _, _, _, _]) (kk_5 wd_263 wd_264 wd_265 wd_2 cw_Reg_permission)) rfl rfl rfl ⟨rfl, ds_Reg_permission⟩ ⟨Nat.le_of_ble_eq_true rfl, Nat.le_of_ble_eq_true rfl⟩) (kk_preV hK hP hz hBz hRe.1 rfl) rfl rfl hl.1 rfl (lv_room (Nat.le_of_ble_eq_true rfl)) d_X_begin_5 ⟨Nat.le_of_ble_eq_true rfl, Nat.le_of_ble_eq_true rfl⟩)) (fun r12 hr12 => ?_)
        subst hr12
        refine kk_topv (y := .null) (by rw [re_pm_no hj hn (fun q => hgn q.1)]; rfl) ?_
        refine lv_astore_nN hx hb d_X_begin_8 rfl hl (by decide) rfl (fun ls hl => ?_)
        have hl : lv_has ls 3 [(2, .null), (0, .ref b), (1, .int (nI jj))] := hl
        refine lv_aload_nN hx hb d_X_begin_9 rfl (lv_at hl 0 rfl) ?_
        refine lv_ifnullN (tgt := 30) hx hb d_X_begin_10 (by decide) ?_
        refine lv_iconst (v := nI 0) hx hb d_X_begin_30 (by decide) ?_
        exact W.zret hx hb hr rfl (fun t ht hW => ⟨⟨_, (w, sz), rfl, ⟨kk_iff (fun q => (fun q => hgn ((re_tp_in hj hn).mp q).1) q.1), (by rw [show be_N N _ = N from if_neg (fun q => (fun q => hgn ((re_tp_in hj hn).mp q).1) q.1), show be_S N S _ = S from if_neg (fun q => (fun q => hgn ((re_tp_in hj hn).mp q).1) q.1)]; exact ⟨T, U, ad, ⟨hRe, x0, x3, x4, x5, x6, x7, x8, x9, x10, x11, x12, x13⟩, hXr, hLa⟩), (fun j9 hj1 hj2 => rfl), rfl⟩, by rw [ht]; exact hP, by rw [ht]; exact hz⟩, hS.F ht⟩) hS.2.2 d_X_begin_31
theorem d_X_follow_0 : decode k_X_follow 0 = .ok (.aload_n 0, 1) := by decide +kernel
theorem d_X_follow_1 : decode k_X_follow 1 = .ok (.getfield 12, 3) := by decide +kernel
theorem d_X_follow_4 : decode k_X_follow 4 = .ok (.iload_n 1, 1) := by decide +kernel
theorem d_X_follow_5 : decode k_X_follow 5 = .ok (.invokevirtual 87, 3) := by decide +kernel
theorem d_X_follow_8 : decode k_X_follow 8 = .ok (.astore_n 2, 1) := by decide +kernel
theorem d_X_follow_9 : decode k_X_follow 9 = .ok (.aload_n 2, 1) := by decide +kernel
theorem d_X_follow_10 : decode k_X_follow 10 = .ok (.instanceof 48, 3) := by decide +kernel
theorem d_X_follow_13 : decode k_X_follow 13 = .ok (.ifCond .eq 17, 3) := by decide +kernel
theorem d_X_follow_16 : decode k_X_follow 16 = .ok (.aload_n 2, 1) := by decide +kernel
theorem d_X_follow_17 : decode k_X_follow 17 = .ok (.checkcast 48, 3) := by decide +kernel
theorem d_X_follow_20 : decode k_X_follow 20 = .ok (.astore_n 3, 1) := by decide +kernel
theorem d_X_follow_21 : decode k_X_follow 21 = .ok (.aload_n 0, 1) := by decide +kernel
theorem d_X_follow_22 : decode k_X_follow 22 = .ok (.getfield 33, 3) := by decide +kernel
theorem d_X_follow_25 : decode k_X_follow 25 = .ok (.aload_n 3, 1) := by decide +kernel
theorem d_X_follow_26 : decode k_X_follow 26 = .ok (.invokevirtual 128, 3) := by decide +kernel
theorem d_X_follow_29 : decode k_X_follow 29 = .ok (.ireturn, 1) := by decide +kernel
theorem d_X_follow_30 : decode k_X_follow 30 = .ok (.aload_n 2, 1) := by decide +kernel
theorem d_X_follow_31 : decode k_X_follow 31 = .ok (.instanceof 57, 3) := by decide +kernel
theorem d_X_follow_34 : decode k_X_follow 34 = .ok (.ifCond .eq 17, 3) := by decide +kernel
theorem d_X_follow_37 : decode k_X_follow 37 = .ok (.aload_n 2, 1) := by decide +kernel
theorem d_X_follow_38 : decode k_X_follow 38 = .ok (.checkcast 57, 3) := by decide +kernel
theorem d_X_follow_41 : decode k_X_follow 41 = .ok (.astore_n 3, 1) := by decide +kernel
theorem d_X_follow_42 : decode k_X_follow 42 = .ok (.aload_n 0, 1) := by decide +kernel
theorem d_X_follow_43 : decode k_X_follow 43 = .ok (.getfield 33, 3) := by decide +kernel
theorem d_X_follow_46 : decode k_X_follow 46 = .ok (.aload_n 3, 1) := by decide +kernel
theorem d_X_follow_47 : decode k_X_follow 47 = .ok (.invokevirtual 132, 3) := by decide +kernel
theorem d_X_follow_50 : decode k_X_follow 50 = .ok (.ireturn, 1) := by decide +kernel
theorem d_X_follow_51 : decode k_X_follow 51 = .ok (.iconst 0, 1) := by decide +kernel
theorem d_X_follow_52 : decode k_X_follow 52 = .ok (.ireturn, 1) := by decide +kernel
set_option maxHeartbeats 4000000 in
set_option maxRecDepth 100000 in
theorem c_X_follow (l : Launch) {B : Nat} {D : va_G} {cI cZ cQ : ClassId} {w : mm_M} {sz : Nat} {b : Nat} {N : Nat → Nat → Nat} {S : Nat → Nat → Int32} {nr : Int32} (hXI : xs_I b cI cZ cQ sz N S w) (hR : rg_I N) (hC : ch_I N)  : Met l y_X_follow ws_X_follow (kk_rm 4 0 0) (kk_Pc B D cI cZ cQ [.ref b, .int nr] w sz) (kk_Qi B D (fun r w' sz' => r = nI (if fo_ok N nr then 1 else 0) ∧ xs_I b cI cZ cQ sz' (fo_N N nr) (fo_S N S nr) w' ∧ (∀ j, b + 14 ≤ j → j < b + 31 → w' j = w j) ∧ sz' = sz)) 0 0 (fun q => B ≤ q) := by
  refine Met.ofW (cc := k_X_follow) (maxL := 4) (ret := (some .boolean)) (by decide) rfl ?_
  intro p e s m args below meth c s₁ BB hml hv
  obtain ⟨rfl, hK, hP, hz, hBz⟩ := hv
  have hx := BB.exec
  have hb := BB.bytes
  have hr := BB.returns
  have hts := atoms_spec (ws := ws_X_follow) BB.pre
  have hown : s.vm.findClass "DelegationClosure" = some m.cls := findClass_of_methodNamed BB.named
  have hlocks := BB.notSynchronized
  have hS : mm_S B s.heap s.heap [] := va_S.rf
  have hl := lv_entry ([.ref b, .int nr]) (n := 4) (Nat.le_of_ble_eq_true rfl)
  rw [lg_entry_eq]
  generalize (lg_sl ([.ref b, .int nr]) ++ List.replicate (4 - (lg_sl ([.ref b, .int nr])).length) Slot.unset).toArray = ls at hl ⊢
  have hl : lv_has ls 4 [(0, .ref b), (1, .int nr)] := hl
  obtain ⟨T, U, ad, ⟨hRe, x0, x3, x4, x5, x6, x7, x8, x9, x10, x11, x12, x13⟩, hXr, hLa⟩ := hXI
  have hn := hRe.2.2.1
  have hC1 := hC.1
  have hC2 := hC.2.1
  have hC3 := hC.2.2.1
  have hC4 := hC.2.2.2.1
  have hC5 := hC.2.2.2.2.1
  have hC6 := hC.2.2.2.2.2.1
  have hx1 := hXr.1
  rcases re_split hn nr with hc | ⟨jj, hj, rfl⟩
  · refine lv_aload_n hx hb d_X_follow_0 rfl (lv_at hl 0 rfl) ?_
    refine mm_get (D := D) (C := n_X) (T := T_X) (N := 4) (v := .ref (b + 1)) hx hb hts lay_X hown hK.1 hP x0 rfl 0 (by decide) (hts _ (List.mem_cons_of_mem _ wd_132)) (fun _ h9 => h9) rfl d_X_follow_1 ?_
    refine lv_iload_n hx hb d_X_follow_4 rfl (lv_at hl 1 rfl) ?_
    refine va_csq (va_Run.run (va_runV (As := [.int nr]) (rest := []) ⟨hx, hb, hml, hown, hts⟩ (c_Reg_standing l (N := N) (S := S) (ad := ad) hRe hR) (cwV 1 hts (gW_in (hd := [_, _, _, _, _]) (kk_5 wd_296 wd_268 wd_269 wd_2 cw_Reg_standing)) rfl rfl rfl ⟨rfl, ds_Reg_standing⟩ ⟨Nat.le_of_ble_eq_true rfl, Nat.le_of_ble_eq_true rfl⟩) (kk_preV hK hP hz hBz hRe.1 rfl) rfl rfl hl.1 rfl (lv_room (Nat.le_of_ble_eq_true rfl)) d_X_follow_5 ⟨Nat.le_of_ble_eq_true rfl, Nat.le_of_ble_eq_true rfl⟩)) (fun r1 hr1 => ?_)
    subst hr1
    refine kk_topv (y := .null) (by rw [re_st_out hc]; rfl) ?_
    refine lv_astore_nN hx hb d_X_follow_8 rfl hl (by decide) rfl (fun ls hl => ?_)
    have hl : lv_has ls 4 [(2, .null), (0, .ref b), (1, .int nr)] := hl
    refine lv_aload_nN hx hb d_X_follow_9 rfl (lv_at hl 0 rfl) ?_
    refine lv_instN hx hb d_X_follow_10 ?_
    refine lv_if_eq (tgt := 30) hx hb d_X_follow_13 (by decide) (fun cc2 => ?_) (fun cc2 => ?_)
    · refine lv_aload_nN hx hb d_X_follow_30 rfl (lv_at hl 0 rfl) ?_
      refine lv_instN hx hb d_X_follow_31 ?_
      refine lv_if_eq (tgt := 51) hx hb d_X_follow_34 (by decide) (fun cc3 => ?_) (fun cc3 => ?_)
      · refine lv_iconst (v := nI 0) hx hb d_X_follow_51 (by decide) ?_
        exact W.zret hx hb hr rfl (fun t ht hW => ⟨⟨_, (w, sz), rfl, ⟨kk_iff (fun q => re_th_out hc q.2.1), (by rw [show fo_N N _ = N from if_neg (fun q => re_th_out hc q.2.1), show fo_S N S _ = S from if_neg (fun q => re_th_out hc q.2.1)]; exact ⟨T, U, ad, ⟨hRe, x0, x3, x4, x5, x6, x7, x8, x9, x10, x11, x12, x13⟩, hXr, hLa⟩), (fun j9 hj1 hj2 => rfl), rfl⟩, by rw [ht]; exact hP, by rw [ht]; exact hz⟩, hS.F ht⟩) hS.2.2 d_X_follow_52
      · exact absurd cc3 (by decide)
    · exact absurd cc2 (by decide)
  · have hRj := hR jj hj
    have hLj := (hLa jj hj).1
    rcases hRe.2.2.2 jj hj with ⟨h2, hn1, hn2⟩ | ⟨h2, hp1, hp2, hp3, hp4, hp5⟩
    · have hwj : (if N 2 jj = 1 then 2 else 5) = 2 := if_pos h2
      by_cases hgn : N 1 jj = 0
      · by_cases hok : fo_ok N (nI jj)
        · have hs0 : wf_subn (N 7 (3 * jj)) := hRj.2.2.2.2.2.1 0 (by omega)
          have hs00 : ce_sub N jj 0 < 200 := hs0.1
          have hA2 := ch_a_le (N 7 (3 * jj))
          have hT4 := hXr.2.2.2.2.1
          have hu1 : 0 < N 25 0 := hx1.mp hok.1
          have hft : ft_ok N jj := by have h9 := hok.2.2; rw [nI_clamp (by omega)] at h9; exact h9
          obtain ⟨e1, e2, e3⟩ := hXr.2.1 hok.1
          have ht0 : T 4 0 = N 19 0 := hXr.2.2.2.1 0 (by omega)
          refine lv_aload_n hx hb d_X_follow_0 rfl (lv_at hl 0 rfl) ?_
          refine mm_get (D := D) (C := n_X) (T := T_X) (N := 4) (v := .ref (b + 1)) hx hb hts lay_X hown hK.1 hP x0 rfl 0 (by decide) (hts _ (List.mem_cons_of_mem _ wd_132)) (fun _ h9 => h9) rfl d_X_follow_1 ?_
          refine lv_iload_n hx hb d_X_follow_4 rfl (lv_at hl 1 rfl) ?_
          refine va_csq (va_Run.run (va_runV (As := [.int (nI jj)]) (rest := []) ⟨hx, hb, hml, hown, hts⟩ (c_Reg_standing l (N := N) (S := S) (ad := ad) hRe hR) (cwV 1 hts (gW_in (hd := [_, _, _, _, _]) (kk_5 wd_296 wd_268 wd_269 wd_2 cw_Reg_standing)) rfl rfl rfl ⟨rfl, ds_Reg_standing⟩ ⟨Nat.le_of_ble_eq_true rfl, Nat.le_of_ble_eq_true rfl⟩) (kk_preV hK hP hz hBz hRe.1 rfl) rfl rfl hl.1 rfl (lv_room (Nat.le_of_ble_eq_true rfl)) d_X_follow_5 ⟨Nat.le_of_ble_eq_true rfl, Nat.le_of_ble_eq_true rfl⟩)) (fun r4 hr4 => ?_)
          subst hr4
          refine kk_topv (y := .ref (ad jj)) (by rw [re_st_in hj hn hgn]; rfl) ?_
          refine lv_astore_n hx hb d_X_follow_8 rfl hl (by decide) rfl (fun ls hl => ?_)
          have hl : lv_has ls 4 [(2, .ref (ad jj)), (0, .ref b), (1, .int (nI jj))] := hl
          refine lv_aload_n hx hb d_X_follow_9 rfl (lv_at hl 0 rfl) ?_
          refine va_instS hx hb hown (hts _ (List.mem_cons_of_mem _ wd_165)) (hK.1.1 7 _ rfl).2 (mm_recv hK.1 hP hn1 rfl) d_X_follow_10 ?_
          refine lv_if_eq (tgt := 30) hx hb d_X_follow_13 (by decide) (fun cc5 => ?_) (fun cc5 => ?_)
          · exact absurd cc5 (by decide)
          · refine lv_aload_n hx hb d_X_follow_16 rfl (lv_at hl 0 rfl) ?_
            refine va_castS hx hb hown (hts _ (List.mem_cons_of_mem _ wd_165)) (hK.1.1 7 _ rfl).2 (mm_recv hK.1 hP hn1 rfl) d_X_follow_17 ?_
            refine lv_astore_n hx hb d_X_follow_20 rfl hl (by decide) rfl (fun ls hl => ?_)
            have hl : lv_has ls 4 [(3, .ref (ad jj)), (2, .ref (ad jj)), (0, .ref b), (1, .int (nI jj))] := hl
            refine lv_aload_n hx hb d_X_follow_21 rfl (lv_at hl 2 rfl) ?_
            refine mm_get (D := D) (C := n_X) (T := T_X) (N := 4) (v := .ref (b + 9)) hx hb hts lay_X hown hK.1 hP x0 rfl 3 (by decide) (hts _ (List.mem_cons_of_mem _ wd_135)) (fun _ h9 => h9) rfl d_X_follow_22 ?_
            refine lv_aload_n hx hb d_X_follow_25 rfl (lv_at hl 0 rfl) ?_
            refine kk_calli (va_runV (As := [.ref (ad jj)]) (rest := []) ⟨hx, hb, hml, hown, hts⟩ (c_Chn_replaceName1 l x9 x10 x11 x12 x13 hn1 hn2 (by omega) (by omega) (by omega) (by omega) (Nat.le_trans (hXr.2.2.2.2.1 0) (by decide)) (by omega) (by omega) (by omega) (by omega)) (cwV 1 hts (gW_in (hd := [_, _, _, _, _]) (kk_5 wd_433 wd_434 wd_435 wd_5 cw_Chn_replaceName)) rfl rfl rfl ⟨rfl, ds_Chn_replaceName⟩ ⟨Nat.le_of_ble_eq_true rfl, Nat.le_of_ble_eq_true rfl⟩) (kk_preV hK hP hz hBz x9 rfl) rfl rfl hl.1 rfl (lv_room (Nat.le_of_ble_eq_true rfl)) d_X_follow_26 ⟨Nat.le_of_ble_eq_true rfl, Nat.le_of_ble_eq_true rfl⟩) hS (fun r6 w6 sz6 H locs hp6 hP hz hS => ?_)
            obtain ⟨hr6, he6, hs6⟩ := hp6
            subst hr6
            have hz : H.size = sz := hz.trans hs6
            have hw7 : w6 = mm_up (mm_up (mm_up w (b + 9) (.inr (4, [.int (nI ((N 7 (3 * jj)) % 8)), .ref (b + 10), .int (nI (ch_a (N 7 (3 * jj)) + (N 18 0 - 1))), .ref (b + 11), .ref (b + 13), .int (nI (N 25 0 + 1)), .int (nI (N 26 0))]))) (b + 10) (.inl (cI, 4, .inl (fun i => nI ((ch_put (T 4) (N 7 (3 * jj)) ((N 18 0) - (N 18 0 - 1)) (N 18 0 - 1)) i))))) (b + 13) (.inr (6, [.int (if S 23 0 < S 5 jj then S 5 jj else S 23 0), .int (if S 6 jj < S 24 0 then S 6 jj else S 24 0)])) := he6
            have fr7 : ∀ j, j ≠ b + 9 → j ≠ b + 10 → j ≠ b + 13 → w6 j = w j := fun j h90 h91 h92 => by rw [hw7]; exact (mm_un h92).trans ((mm_un h91).trans (mm_un h90))
            have fa7_0 : w6 (b + 9) = some (.inr (4, [.int (nI ((N 7 (3 * jj)) % 8)), .ref (b + 10), .int (nI (ch_a (N 7 (3 * jj)) + (N 18 0 - 1))), .ref (b + 11), .ref (b + 13), .int (nI (N 25 0 + 1)), .int (nI (N 26 0))])) := by rw [hw7]; exact (mm_un (by omega)).trans ((mm_un (by omega)).trans (mm_us _ _ _))
            have fa7_1 : w6 (b + 10) = some (.inl (cI, 4, .inl (fun i => nI ((ch_put (T 4) (N 7 (3 * jj)) ((N 18 0) - (N 18 0 - 1)) (N 18 0 - 1)) i)))) := by rw [hw7]; exact (mm_un (by omega)).trans (mm_us _ _ _)
            have fa7_2 : w6 (b + 13) = some (.inr (6, [.int (if S 23 0 < S 5 jj then S 5 jj else S 23 0), .int (if S 6 jj < S 24 0 then S 6 jj else S 24 0)])) := by rw [hw7]; exact mm_us _ _ _
            exact W.zret hx hb hr rfl (fun t ht hW => ⟨⟨_, (w6, sz), rfl, ⟨kk_ift hok, (by rw [fo_N_nam (by omega) hok (by omega), fo_S_nam (by omega) hok (by omega)]; exact ⟨(va_up T 4 (ch_put (T 4) (N 7 (3 * jj)) (N 18 0 - (N 18 0 - 1)) (N 18 0 - 1))), U, ad, ⟨hRe.keep (fun i9 hi9 => fr7 i9 (by rcases hi9 with h | h | ⟨c9, h, h8, h7⟩ <;> (try have := (hLa c9 h).1) <;> omega) (by rcases hi9 with h | h | ⟨c9, h, h8, h7⟩ <;> (try have := (hLa c9 h).1) <;> omega) (by rcases hi9 with h | h | ⟨c9, h, h8, h7⟩ <;> (try have := (hLa c9 h).1) <;> omega)), ((fr7 _ (by omega) (by omega) (by omega)).trans (x0)), ((fr7 _ (by omega) (by omega) (by omega)).trans (x3)), ((fr7 _ (by omega) (by omega) (by omega)).trans (x4)), ((fr7 _ (by omega) (by omega) (by omega)).trans (x5)), ((fr7 _ (by omega) (by omega) (by omega)).trans (x6)), ((fr7 _ (by omega) (by omega) (by omega)).trans (x7)), ((fr7 _ (by omega) (by omega) (by omega)).trans (x8)), (by rw [show f1_N (pl_N (dr_N N) (N 7 (3 * jj))) 18 0 = ch_a (N 7 (3 * jj)) + (N 18 0 - 1) from Nat.add_comm _ _]; exact fa7_0), fa7_1, ((fr7 _ (by omega) (by omega) (by omega)).trans (x11)), ((fr7 _ (by omega) (by omega) (by omega)).trans (x12)), fa7_2⟩, ⟨⟨fun _ => Nat.succ_pos _, fun _ => hok.1⟩, fun _ => ⟨e1, e2, e3⟩, hXr.2.2.1, (fun j9 hj9 => by have hj9 : j9 < N 18 0 - 1 + ch_a (N 7 (3 * jj)) := hj9; exact ch_nam hXr.2.2.2.1 (by omega) hj9), ch_put3 hT4 hs0.1 _ _, hXr.2.2.2.2.2.1, hXr.2.2.2.2.2.2⟩, hLa⟩), (fun j9 hj1 hj2 => fr7 j9 (by omega) (by omega) (by omega)), rfl⟩, by rw [ht]; exact hP, by rw [ht]; exact hz⟩, hS.F ht⟩) hS.2.2 d_X_follow_29
        · refine lv_aload_n hx hb d_X_follow_0 rfl (lv_at hl 0 rfl) ?_
          refine mm_get (D := D) (C := n_X) (T := T_X) (N := 4) (v := .ref (b + 1)) hx hb hts lay_X hown hK.1 hP x0 rfl 0 (by decide) (hts _ (List.mem_cons_of_mem _ wd_132)) (fun _ h9 => h9) rfl d_X_follow_1 ?_
          refine lv_iload_n hx hb d_X_follow_4 rfl (lv_at hl 1 rfl) ?_
          refine va_csq (va_Run.run (va_runV (As := [.int (nI jj)]) (rest := []) ⟨hx, hb, hml, hown, hts⟩ (c_Reg_standing l (N := N) (S := S) (ad := ad) hRe hR) (cwV 1 hts (gW_in (hd := [_, _, _, _, _]) (kk_5 wd_296 wd_268 wd_269 wd_2 cw_Reg_standing)) rfl rfl rfl ⟨rfl, ds_Reg_standing⟩ ⟨Nat.le_of_ble_eq_true rfl, Nat.le_of_ble_eq_true rfl⟩) (kk_preV hK hP hz hBz hRe.1 rfl) rfl rfl hl.1 rfl (lv_room (Nat.le_of_ble_eq_true rfl)) d_X_follow_5 ⟨Nat.le_of_ble_eq_true rfl, Nat.le_of_ble_eq_true rfl⟩)) (fun r8 hr8 => ?_)
          subst hr8
          refine kk_topv (y := .ref (ad jj)) (by rw [re_st_in hj hn hgn]; rfl) ?_
          refine lv_astore_n hx hb d_X_follow_8 rfl hl (by decide) rfl (fun ls hl => ?_)
          have hl : lv_has ls 4 [(2, .ref (ad jj)), (0, .ref b), (1, .int (nI jj))] := hl
          refine lv_aload_n hx hb d_X_follow_9 rfl (lv_at hl 0 rfl) ?_
          refine va_instS hx hb hown (hts _ (List.mem_cons_of_mem _ wd_165)) (hK.1.1 7 _ rfl).2 (mm_recv hK.1 hP hn1 rfl) d_X_follow_10 ?_
          refine lv_if_eq (tgt := 30) hx hb d_X_follow_13 (by decide) (fun cc9 => ?_) (fun cc9 => ?_)
          · exact absurd cc9 (by decide)
          · refine lv_aload_n hx hb d_X_follow_16 rfl (lv_at hl 0 rfl) ?_
            refine va_castS hx hb hown (hts _ (List.mem_cons_of_mem _ wd_165)) (hK.1.1 7 _ rfl).2 (mm_recv hK.1 hP hn1 rfl) d_X_follow_17 ?_
            refine lv_astore_n hx hb d_X_follow_20 rfl hl (by decide) rfl (fun ls hl => ?_)
            have hl : lv_has ls 4 [(3, .ref (ad jj)), (2, .ref (ad jj)), (0, .ref b), (1, .int (nI jj))] := hl
            refine lv_aload_n hx hb d_X_follow_21 rfl (lv_at hl 2 rfl) ?_
            refine mm_get (D := D) (C := n_X) (T := T_X) (N := 4) (v := .ref (b + 9)) hx hb hts lay_X hown hK.1 hP x0 rfl 3 (by decide) (hts _ (List.mem_cons_of_mem _ wd_135)) (fun _ h9 => h9) rfl d_X_follow_22 ?_
            refine lv_aload_n hx hb d_X_follow_25 rfl (lv_at hl 0 rfl) ?_
            have hs0 : wf_subn (N 7 (3 * jj)) := hRj.2.2.2.2.2.1 0 (by omega)
            have hs00 : ce_sub N jj 0 < 200 := hs0.1
            have hA2 := ch_a_le (N 7 (3 * jj))
            have hT4 := hXr.2.2.2.2.1
            have hno : ¬ (0 < N 25 0 ∧ ¬ N 18 0 = 0 ∧ N 17 0 = N 3 jj ∧ T 4 0 = N 4 jj ∧ ch_a (N 7 (3 * jj)) + (N 18 0 - 1) ≤ 4) := fun q => hok ⟨hx1.mpr q.1, (re_th_in hj hn).mpr hgn, by rw [nI_clamp (by omega)]; have ht0 : T 4 0 = N 19 0 := hXr.2.2.2.1 0 (by omega); omega⟩
            refine vp_callSi (va_Run.run (va_runV (As := [.ref (ad jj)]) (rest := []) ⟨hx, hb, hml, hown, hts⟩ (c_Chn_replaceName0 l x9 x10 x11 x12 x13 hn1 hn2 (by omega) (by omega) (by omega) (by omega) (Nat.le_trans (hXr.2.2.2.2.1 0) (by decide)) (by omega) (by omega) (by omega) hno) (cwV 1 hts (gW_in (hd := [_, _, _, _, _]) (kk_5 wd_433 wd_434 wd_435 wd_5 cw_Chn_replaceName)) rfl rfl rfl ⟨rfl, ds_Chn_replaceName⟩ ⟨Nat.le_of_ble_eq_true rfl, Nat.le_of_ble_eq_true rfl⟩) (kk_preV hK hP hz hBz x9 rfl) rfl rfl hl.1 rfl (lv_room (Nat.le_of_ble_eq_true rfl)) d_X_follow_26 ⟨Nat.le_of_ble_eq_true rfl, Nat.le_of_ble_eq_true rfl⟩)) (fun r10 hr10 => ?_)
            subst hr10
            exact W.zret hx hb hr rfl (fun t ht hW => ⟨⟨_, (w, sz), rfl, ⟨kk_iff hok, (by rw [show fo_N N _ = N from if_neg hok, show fo_S N S _ = S from if_neg hok]; exact ⟨T, U, ad, ⟨hRe, x0, x3, x4, x5, x6, x7, x8, x9, x10, x11, x12, x13⟩, hXr, hLa⟩), (fun j9 hj1 hj2 => rfl), rfl⟩, by rw [ht]; exact hP, by rw [ht]; exact hz⟩, hS.F ht⟩) hS.2.2 d_X_follow_29
      · refine lv_aload_n hx hb d_X_follow_0 rfl (lv_at hl 0 rfl) ?_
        refine mm_get (D := D) (C := n_X) (T := T_X) (N := 4) (v := .ref (b + 1)) hx hb hts lay_X hown hK.1 hP x0 rfl 0 (by decide) (hts _ (List.mem_cons_of_mem _ wd_132)) (fun _ h9 => h9) rfl d_X_follow_1 ?_
        refine lv_iload_n hx hb d_X_follow_4 rfl (lv_at hl 1 rfl) ?_
        refine va_csq (va_Run.run (va_runV (As := [.int (nI jj)]) (rest := []) ⟨hx, hb, hml, hown, hts⟩ (c_Reg_standing l (N := N) (S := S) (ad := ad) hRe hR) (cwV 1 hts (gW_in (hd := [_, _, _, _, _]) (kk_5 wd_296 wd_268 wd_269 wd_2 cw_Reg_standing)) rfl rfl rfl ⟨rfl, ds_Reg_standing⟩ ⟨Nat.le_of_ble_eq_true rfl, Nat.le_of_ble_eq_true rfl⟩) (kk_preV hK hP hz hBz hRe.1 rfl) rfl rfl hl.1 rfl (lv_room (Nat.le_of_ble_eq_true rfl)) d_X_follow_5 ⟨Nat.le_of_ble_eq_true rfl, Nat.le_of_ble_eq_true rfl⟩)) (fun r11 hr11 => ?_)
        subst hr11
        refine kk_topv (y := .null) (by rw [re_st_no hj hn hgn]; rfl) ?_
        refine lv_astore_nN hx hb d_X_follow_8 rfl hl (by decide) rfl (fun ls hl => ?_)
        have hl : lv_has ls 4 [(2, .null), (0, .ref b), (1, .int (nI jj))] := hl
        refine lv_aload_nN hx hb d_X_follow_9 rfl (lv_at hl 0 rfl) ?_
        refine lv_instN hx hb d_X_follow_10 ?_
        refine lv_if_eq (tgt := 30) hx hb d_X_follow_13 (by decide) (fun cc12 => ?_) (fun cc12 => ?_)
        · refine lv_aload_nN hx hb d_X_follow_30 rfl (lv_at hl 0 rfl) ?_
          refine lv_instN hx hb d_X_follow_31 ?_
          refine lv_if_eq (tgt := 51) hx hb d_X_follow_34 (by decide) (fun cc13 => ?_) (fun cc13 => ?_)
          · refine lv_iconst (v := nI 0) hx hb d_X_follow_51 (by decide) ?_
            exact W.zret hx hb hr rfl (fun t ht hW => ⟨⟨_, (w, sz), rfl, ⟨kk_iff (fun q => hgn ((re_th_in hj hn).mp q.2.1)), (by rw [show fo_N N _ = N from if_neg (fun q => hgn ((re_th_in hj hn).mp q.2.1)), show fo_S N S _ = S from if_neg (fun q => hgn ((re_th_in hj hn).mp q.2.1))]; exact ⟨T, U, ad, ⟨hRe, x0, x3, x4, x5, x6, x7, x8, x9, x10, x11, x12, x13⟩, hXr, hLa⟩), (fun j9 hj1 hj2 => rfl), rfl⟩, by rw [ht]; exact hP, by rw [ht]; exact hz⟩, hS.F ht⟩) hS.2.2 d_X_follow_52
          · exact absurd cc13 (by decide)
        · exact absurd cc12 (by decide)
    · have hwj : (if N 2 jj = 1 then 2 else 5) = 5 := if_neg (by omega)
      by_cases hgn : N 1 jj = 0
      · have htp : re_tp N (nI jj) := (re_tp_in hj hn).mpr ⟨hgn, h2⟩
        by_cases hok : fo_ok N (nI jj)
        · have hs0 : wf_subn (N 7 (3 * jj)) := hRj.2.2.2.2.2.1 0 (by omega)
          have hs00 : ce_sub N jj 0 < 200 := hs0.1
          have hA2 := ch_a_le (N 7 (3 * jj))
          have hT4 := hXr.2.2.2.2.1
          have hu1 : 0 < N 25 0 := hx1.mp hok.1
          have hft : ft_ok N jj := by have h9 := hok.2.2; rw [nI_clamp (by omega)] at h9; exact h9
          obtain ⟨e1, e2, e3⟩ := hXr.2.1 hok.1
          refine lv_aload_n hx hb d_X_follow_0 rfl (lv_at hl 0 rfl) ?_
          refine mm_get (D := D) (C := n_X) (T := T_X) (N := 4) (v := .ref (b + 1)) hx hb hts lay_X hown hK.1 hP x0 rfl 0 (by decide) (hts _ (List.mem_cons_of_mem _ wd_132)) (fun _ h9 => h9) rfl d_X_follow_1 ?_
          refine lv_iload_n hx hb d_X_follow_4 rfl (lv_at hl 1 rfl) ?_
          refine va_csq (va_Run.run (va_runV (As := [.int (nI jj)]) (rest := []) ⟨hx, hb, hml, hown, hts⟩ (c_Reg_standing l (N := N) (S := S) (ad := ad) hRe hR) (cwV 1 hts (gW_in (hd := [_, _, _, _, _]) (kk_5 wd_296 wd_268 wd_269 wd_2 cw_Reg_standing)) rfl rfl rfl ⟨rfl, ds_Reg_standing⟩ ⟨Nat.le_of_ble_eq_true rfl, Nat.le_of_ble_eq_true rfl⟩) (kk_preV hK hP hz hBz hRe.1 rfl) rfl rfl hl.1 rfl (lv_room (Nat.le_of_ble_eq_true rfl)) d_X_follow_5 ⟨Nat.le_of_ble_eq_true rfl, Nat.le_of_ble_eq_true rfl⟩)) (fun r14 hr14 => ?_)
          subst hr14
          refine kk_topv (y := .ref (ad jj)) (by rw [re_st_in hj hn hgn]; rfl) ?_
          refine lv_astore_n hx hb d_X_follow_8 rfl hl (by decide) rfl (fun ls hl => ?_)
          have hl : lv_has ls 4 [(2, .ref (ad jj)), (0, .ref b), (1, .int (nI jj))] := hl
          refine lv_aload_n hx hb d_X_follow_9 rfl (lv_at hl 0 rfl) ?_
          refine va_instNo hx hb hown (hts _ (List.mem_cons_of_mem _ wd_165)) hK.2.2.2.2 (mm_recv hK.1 hP hp1 rfl) d_X_follow_10 ?_
          refine lv_if_eq (tgt := 30) hx hb d_X_follow_13 (by decide) (fun cc15 => ?_) (fun cc15 => ?_)
          · refine lv_aload_n hx hb d_X_follow_30 rfl (lv_at hl 0 rfl) ?_
            refine va_instS hx hb hown (hts _ (List.mem_cons_of_mem _ wd_220)) (hK.1.1 8 _ rfl).2 (mm_recv hK.1 hP hp1 rfl) d_X_follow_31 ?_
            refine lv_if_eq (tgt := 51) hx hb d_X_follow_34 (by decide) (fun cc16 => ?_) (fun cc16 => ?_)
            · exact absurd cc16 (by decide)
            · refine lv_aload_n hx hb d_X_follow_37 rfl (lv_at hl 0 rfl) ?_
              refine va_castS hx hb hown (hts _ (List.mem_cons_of_mem _ wd_220)) (hK.1.1 8 _ rfl).2 (mm_recv hK.1 hP hp1 rfl) d_X_follow_38 ?_
              refine lv_astore_n hx hb d_X_follow_41 rfl hl (by decide) rfl (fun ls hl => ?_)
              have hl : lv_has ls 4 [(3, .ref (ad jj)), (2, .ref (ad jj)), (0, .ref b), (1, .int (nI jj))] := hl
              refine lv_aload_n hx hb d_X_follow_42 rfl (lv_at hl 2 rfl) ?_
              refine mm_get (D := D) (C := n_X) (T := T_X) (N := 4) (v := .ref (b + 9)) hx hb hts lay_X hown hK.1 hP x0 rfl 3 (by decide) (hts _ (List.mem_cons_of_mem _ wd_135)) (fun _ h9 => h9) rfl d_X_follow_43 ?_
              refine lv_aload_n hx hb d_X_follow_46 rfl (lv_at hl 0 rfl) ?_
              refine kk_calli (va_runV (As := [.ref (ad jj)]) (rest := []) ⟨hx, hb, hml, hown, hts⟩ (c_Chn_passOn1 l x9 x10 x11 x12 x13 hp1 hp2 hp3 hp4 hp5 (by omega) (by omega) (by omega) (by omega) (by omega) (by omega) (by omega) (by omega) (by omega) (by omega)) (cwV 1 hts (gW_in (hd := [_, _, _, _, _]) (kk_5 wd_449 wd_450 wd_451 wd_5 cw_Chn_passOn)) rfl rfl rfl ⟨rfl, ds_Chn_passOn⟩ ⟨Nat.le_of_ble_eq_true rfl, Nat.le_of_ble_eq_true rfl⟩) (kk_preV hK hP hz hBz x9 rfl) rfl rfl hl.1 rfl (lv_room (Nat.le_of_ble_eq_true rfl)) d_X_follow_47 ⟨Nat.le_of_ble_eq_true rfl, Nat.le_of_ble_eq_true rfl⟩) hS (fun r17 w17 sz17 H locs hp17 hP hz hS => ?_)
              obtain ⟨hr17, he17, hs17⟩ := hp17
              subst hr17
              have hz : H.size = sz := hz.trans hs17
              have hw18 : w17 = mm_up (mm_up (mm_up (mm_up (mm_up w (b + 9) (.inr (4, [.int (nI (((ce_sub N jj) 0) % 8)), .ref (b + 10), .int (nI (ch_a ((ce_sub N jj) 0) + 0)), .ref (b + 11), .ref (b + 13), .int (nI (N 25 0 + 1)), .int (nI (N 13 jj))]))) (b + 10) (.inl (cI, 4, .inl (fun i => nI ((ch_put (T 4) ((ce_sub N jj) 0) ((N 18 0) - 0) 0) i))))) (b + 11) (.inr (5, [.int (nI ((T 5 0) &&& (N 10 jj))), .ref (b + 12)]))) (b + 12) (.inr (6, [.int (if U 0 < S 11 jj then S 11 jj else U 0), .int (if S 12 jj < U 1 then S 12 jj else U 1)]))) (b + 13) (.inr (6, [.int (if S 23 0 < S 5 jj then S 5 jj else S 23 0), .int (if S 6 jj < S 24 0 then S 6 jj else S 24 0)])) := he17
              have fr18 : ∀ j, j ≠ b + 9 → j ≠ b + 10 → j ≠ b + 11 → j ≠ b + 12 → j ≠ b + 13 → w17 j = w j := fun j h90 h91 h92 h93 h94 => by rw [hw18]; exact (mm_un h94).trans ((mm_un h93).trans ((mm_un h92).trans ((mm_un h91).trans (mm_un h90))))
              have fa18_0 : w17 (b + 9) = some (.inr (4, [.int (nI (((ce_sub N jj) 0) % 8)), .ref (b + 10), .int (nI (ch_a ((ce_sub N jj) 0) + 0)), .ref (b + 11), .ref (b + 13), .int (nI (N 25 0 + 1)), .int (nI (N 13 jj))])) := by rw [hw18]; exact (mm_un (by omega)).trans ((mm_un (by omega)).trans ((mm_un (by omega)).trans ((mm_un (by omega)).trans (mm_us _ _ _))))
              have fa18_1 : w17 (b + 10) = some (.inl (cI, 4, .inl (fun i => nI ((ch_put (T 4) ((ce_sub N jj) 0) ((N 18 0) - 0) 0) i)))) := by rw [hw18]; exact (mm_un (by omega)).trans ((mm_un (by omega)).trans ((mm_un (by omega)).trans (mm_us _ _ _)))
              have fa18_2 : w17 (b + 11) = some (.inr (5, [.int (nI ((T 5 0) &&& (N 10 jj))), .ref (b + 12)])) := by rw [hw18]; exact (mm_un (by omega)).trans ((mm_un (by omega)).trans (mm_us _ _ _))
              have fa18_3 : w17 (b + 12) = some (.inr (6, [.int (if U 0 < S 11 jj then S 11 jj else U 0), .int (if S 12 jj < U 1 then S 12 jj else U 1)])) := by rw [hw18]; exact (mm_un (by omega)).trans (mm_us _ _ _)
              have fa18_4 : w17 (b + 13) = some (.inr (6, [.int (if S 23 0 < S 5 jj then S 5 jj else S 23 0), .int (if S 6 jj < S 24 0 then S 6 jj else S 24 0)])) := by rw [hw18]; exact mm_us _ _ _
              exact W.zret hx hb hr rfl (fun t ht hW => ⟨⟨_, (w17, sz), rfl, ⟨kk_ift hok, (by rw [fo_N_prm (by omega) hok h2, fo_S_prm (by omega) hok h2]; exact ⟨(va_up (va_up T 4 (ch_put (T 4) (ce_sub N jj 0) (N 18 0 - 0) 0)) 5 (fun _ => T 5 0 &&& N 10 jj)), (fun k => if k = 0 then (if U 0 < S 11 jj then S 11 jj else U 0) else (if S 12 jj < U 1 then S 12 jj else U 1)), ad, ⟨hRe.keep (fun i9 hi9 => fr18 i9 (by rcases hi9 with h | h | ⟨c9, h, h8, h7⟩ <;> (try have := (hLa c9 h).1) <;> omega) (by rcases hi9 with h | h | ⟨c9, h, h8, h7⟩ <;> (try have := (hLa c9 h).1) <;> omega) (by rcases hi9 with h | h | ⟨c9, h, h8, h7⟩ <;> (try have := (hLa c9 h).1) <;> omega) (by rcases hi9 with h | h | ⟨c9, h, h8, h7⟩ <;> (try have := (hLa c9 h).1) <;> omega) (by rcases hi9 with h | h | ⟨c9, h, h8, h7⟩ <;> (try have := (hLa c9 h).1) <;> omega)), ((fr18 _ (by omega) (by omega) (by omega) (by omega) (by omega)).trans (x0)), ((fr18 _ (by omega) (by omega) (by omega) (by omega) (by omega)).trans (x3)), ((fr18 _ (by omega) (by omega) (by omega) (by omega) (by omega)).trans (x4)), ((fr18 _ (by omega) (by omega) (by omega) (by omega) (by omega)).trans (x5)), ((fr18 _ (by omega) (by omega) (by omega) (by omega) (by omega)).trans (x6)), ((fr18 _ (by omega) (by omega) (by omega) (by omega) (by omega)).trans (x7)), ((fr18 _ (by omega) (by omega) (by omega) (by omega) (by omega)).trans (x8)), (by rw [show f1_N (pl_N (f0_N N jj) (N 7 (3 * jj))) 18 0 = ch_a (ce_sub N jj 0) + 0 from (show N 18 0 + ch_a (N 7 (3 * jj)) = ch_a (N 7 (3 * jj)) by omega)]; exact fa18_0), fa18_1, fa18_2, fa18_3, fa18_4⟩, ⟨⟨fun _ => Nat.succ_pos _, fun _ => hok.1⟩, fun _ => ⟨(show T 5 0 &&& N 10 jj = N 20 0 &&& N 10 jj by rw [e1]), (show (if U 0 < S 11 jj then S 11 jj else U 0) = (if S 21 0 < S 11 jj then S 11 jj else S 21 0) by rw [e2]), (show (if S 12 jj < U 1 then S 12 jj else U 1) = (if S 12 jj < S 22 0 then S 12 jj else S 22 0) by rw [e3])⟩, (show T 5 0 &&& N 10 jj < 256 from bt_land_lt (by omega)), (fun j9 hj9 => by have hj9 : j9 < N 18 0 + ch_a (N 7 (3 * jj)) := hj9; exact (ch_put_lt (n := N 7 (3 * jj)) (by omega)).trans (ch_put_lt (n := N 7 (3 * jj)) (by omega)).symm), ch_put3 hT4 hs0.1 _ _, hXr.2.2.2.2.2.1, hXr.2.2.2.2.2.2⟩, hLa⟩), (fun j9 hj1 hj2 => fr18 j9 (by omega) (by omega) (by omega) (by omega) (by omega)), rfl⟩, by rw [ht]; exact hP, by rw [ht]; exact hz⟩, hS.F ht⟩) hS.2.2 d_X_follow_50
          · exact absurd cc15 (by decide)
        · refine lv_aload_n hx hb d_X_follow_0 rfl (lv_at hl 0 rfl) ?_
          refine mm_get (D := D) (C := n_X) (T := T_X) (N := 4) (v := .ref (b + 1)) hx hb hts lay_X hown hK.1 hP x0 rfl 0 (by decide) (hts _ (List.mem_cons_of_mem _ wd_132)) (fun _ h9 => h9) rfl d_X_follow_1 ?_
          refine lv_iload_n hx hb d_X_follow_4 rfl (lv_at hl 1 rfl) ?_
          refine va_csq (va_Run.run (va_runV (As := [.int (nI jj)]) (rest := []) ⟨hx, hb, hml, hown, hts⟩ (c_Reg_standing l (N := N) (S := S) (ad := ad) hRe hR) (cwV 1 hts (gW_in (hd := [_, _, _, _, _]) (kk_5 wd_296 wd_268 wd_269 wd_2 cw_Reg_standing)) rfl rfl rfl ⟨rfl, ds_Reg_standing⟩ ⟨Nat.le_of_ble_eq_true rfl, Nat.le_of_ble_eq_true rfl⟩) (kk_preV hK hP hz hBz hRe.1 rfl) rfl rfl hl.1 rfl (lv_room (Nat.le_of_ble_eq_true rfl)) d_X_follow_5 ⟨Nat.le_of_ble_eq_true rfl, Nat.le_of_ble_eq_true rfl⟩)) (fun r19 hr19 => ?_)
          subst hr19
          refine kk_topv (y := .ref (ad jj)) (by rw [re_st_in hj hn hgn]; rfl) ?_
          refine lv_astore_n hx hb d_X_follow_8 rfl hl (by decide) rfl (fun ls hl => ?_)
          have hl : lv_has ls 4 [(2, .ref (ad jj)), (0, .ref b), (1, .int (nI jj))] := hl
          refine lv_aload_n hx hb d_X_follow_9 rfl (lv_at hl 0 rfl) ?_
          refine va_instNo hx hb hown (hts _ (List.mem_cons_of_mem _ wd_165)) hK.2.2.2.2 (mm_recv hK.1 hP hp1 rfl) d_X_follow_10 ?_
          refine lv_if_eq (tgt := 30) hx hb d_X_follow_13 (by decide) (fun cc20 => ?_) (fun cc20 => ?_)
          · refine lv_aload_n hx hb d_X_follow_30 rfl (lv_at hl 0 rfl) ?_
            refine va_instS hx hb hown (hts _ (List.mem_cons_of_mem _ wd_220)) (hK.1.1 8 _ rfl).2 (mm_recv hK.1 hP hp1 rfl) d_X_follow_31 ?_
            refine lv_if_eq (tgt := 51) hx hb d_X_follow_34 (by decide) (fun cc21 => ?_) (fun cc21 => ?_)
            · exact absurd cc21 (by decide)
            · refine lv_aload_n hx hb d_X_follow_37 rfl (lv_at hl 0 rfl) ?_
              refine va_castS hx hb hown (hts _ (List.mem_cons_of_mem _ wd_220)) (hK.1.1 8 _ rfl).2 (mm_recv hK.1 hP hp1 rfl) d_X_follow_38 ?_
              refine lv_astore_n hx hb d_X_follow_41 rfl hl (by decide) rfl (fun ls hl => ?_)
              have hl : lv_has ls 4 [(3, .ref (ad jj)), (2, .ref (ad jj)), (0, .ref b), (1, .int (nI jj))] := hl
              refine lv_aload_n hx hb d_X_follow_42 rfl (lv_at hl 2 rfl) ?_
              refine mm_get (D := D) (C := n_X) (T := T_X) (N := 4) (v := .ref (b + 9)) hx hb hts lay_X hown hK.1 hP x0 rfl 3 (by decide) (hts _ (List.mem_cons_of_mem _ wd_135)) (fun _ h9 => h9) rfl d_X_follow_43 ?_
              refine lv_aload_n hx hb d_X_follow_46 rfl (lv_at hl 0 rfl) ?_
              have hs0 : wf_subn (N 7 (3 * jj)) := hRj.2.2.2.2.2.1 0 (by omega)
              have hs00 : ce_sub N jj 0 < 200 := hs0.1
              have hA2 := ch_a_le (N 7 (3 * jj))
              have hT4 := hXr.2.2.2.2.1
              have hno : ¬ (0 < N 25 0 ∧ N 18 0 = 0 ∧ N 17 0 = N 3 jj ∧ ¬ N 26 0 = 0 ∧ N 8 jj ≤ 1) := fun q => hok ⟨hx1.mpr q.1, (re_th_in hj hn).mpr hgn, by rw [nI_clamp (by omega)]; omega⟩
              refine vp_callSi (va_Run.run (va_runV (As := [.ref (ad jj)]) (rest := []) ⟨hx, hb, hml, hown, hts⟩ (c_Chn_passOn0 l x9 x10 x11 x12 x13 hp1 hp2 hp3 hp4 hp5 (by omega) (by omega) (by omega) (by omega) (by omega) (by omega) (by omega) (by omega) (by omega) hno) (cwV 1 hts (gW_in (hd := [_, _, _, _, _]) (kk_5 wd_449 wd_450 wd_451 wd_5 cw_Chn_passOn)) rfl rfl rfl ⟨rfl, ds_Chn_passOn⟩ ⟨Nat.le_of_ble_eq_true rfl, Nat.le_of_ble_eq_true rfl⟩) (kk_preV hK hP hz hBz x9 rfl) rfl rfl hl.1 rfl (lv_room (Nat.le_of_ble_eq_true rfl)) d_X_follow_47 ⟨Nat.le_of_ble_eq_true rfl, Nat.le_of_ble_eq_true rfl⟩)) (fun r22 hr22 => ?_)
              subst hr22
              exact W.zret hx hb hr rfl (fun t ht hW => ⟨⟨_, (w, sz), rfl, ⟨kk_iff hok, (by rw [show fo_N N _ = N from if_neg hok, show fo_S N S _ = S from if_neg hok]; exact ⟨T, U, ad, ⟨hRe, x0, x3, x4, x5, x6, x7, x8, x9, x10, x11, x12, x13⟩, hXr, hLa⟩), (fun j9 hj1 hj2 => rfl), rfl⟩, by rw [ht]; exact hP, by rw [ht]; exact hz⟩, hS.F ht⟩) hS.2.2 d_X_follow_50
          · exact absurd cc20 (by decide)
      · refine lv_aload_n hx hb d_X_follow_0 rfl (lv_at hl 0 rfl) ?_
        refine mm_get (D := D) (C := n_X) (T := T_X) (N := 4) (v := .ref (b + 1)) hx hb hts lay_X hown hK.1 hP x0 rfl 0 (by decide) (hts _ (List.mem_cons_of_mem _ wd_132)) (fun _ h9 => h9) rfl d_X_follow_1 ?_
        refine lv_iload_n hx hb d_X_follow_4 rfl (lv_at hl 1 rfl) ?_
        refine va_csq (va_Run.run (va_runV (As := [.int (nI jj)]) (rest := []) ⟨hx, hb, hml, hown, hts⟩ (c_Reg_standing l (N := N) (S := S) (ad := ad) hRe hR) (cwV 1 hts (gW_in (hd := [_, _, _, _, _]) (kk_5 wd_296 wd_268 wd_269 wd_2 cw_Reg_standing)) rfl rfl rfl ⟨rfl, ds_Reg_standing⟩ ⟨Nat.le_of_ble_eq_true rfl, Nat.le_of_ble_eq_true rfl⟩) (kk_preV hK hP hz hBz hRe.1 rfl) rfl rfl hl.1 rfl (lv_room (Nat.le_of_ble_eq_true rfl)) d_X_follow_5 ⟨Nat.le_of_ble_eq_true rfl, Nat.le_of_ble_eq_true rfl⟩)) (fun r23 hr23 => ?_)
        subst hr23
        refine kk_topv (y := .null) (by rw [re_st_no hj hn hgn]; rfl) ?_
        refine lv_astore_nN hx hb d_X_follow_8 rfl hl (by decide) rfl (fun ls hl => ?_)
        have hl : lv_has ls 4 [(2, .null), (0, .ref b), (1, .int (nI jj))] := hl
        refine lv_aload_nN hx hb d_X_follow_9 rfl (lv_at hl 0 rfl) ?_
        refine lv_instN hx hb d_X_follow_10 ?_
        refine lv_if_eq (tgt := 30) hx hb d_X_follow_13 (by decide) (fun cc24 => ?_) (fun cc24 => ?_)
        · refine lv_aload_nN hx hb d_X_follow_30 rfl (lv_at hl 0 rfl) ?_
          refine lv_instN hx hb d_X_follow_31 ?_
          refine lv_if_eq (tgt := 51) hx hb d_X_follow_34 (by decide) (fun cc25 => ?_) (fun cc25 => ?_)
          · refine lv_iconst (v := nI 0) hx hb d_X_follow_51 (by decide) ?_
            exact W.zret hx hb hr rfl (fun t ht hW => ⟨⟨_, (w, sz), rfl, ⟨kk_iff (fun q => hgn ((re_th_in hj hn).mp q.2.1)), (by rw [show fo_N N _ = N from if_neg (fun q => hgn ((re_th_in hj hn).mp q.2.1)), show fo_S N S _ = S from if_neg (fun q => hgn ((re_th_in hj hn).mp q.2.1))]; exact ⟨T, U, ad, ⟨hRe, x0, x3, x4, x5, x6, x7, x8, x9, x10, x11, x12, x13⟩, hXr, hLa⟩), (fun j9 hj1 hj2 => rfl), rfl⟩, by rw [ht]; exact hP, by rw [ht]; exact hz⟩, hS.F ht⟩) hS.2.2 d_X_follow_52
          · exact absurd cc25 (by decide)
        · exact absurd cc24 (by decide)
