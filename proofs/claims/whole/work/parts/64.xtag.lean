theorem d_X_tag_0 : decode k_X_tag 0 = .ok (.aload_n 0, 1) := by decide +kernel
theorem d_X_tag_1 : decode k_X_tag 1 = .ok (.getfield 12, 3) := by decide +kernel
theorem d_X_tag_4 : decode k_X_tag 4 = .ok (.iload_n 1, 1) := by decide +kernel
theorem d_X_tag_5 : decode k_X_tag 5 = .ok (.invokevirtual 62, 3) := by decide +kernel
theorem d_X_tag_8 : decode k_X_tag 8 = .ok (.astore 5, 2) := by decide +kernel
theorem d_X_tag_10 : decode k_X_tag 10 = .ok (.aload 5, 2) := by decide +kernel
theorem d_X_tag_12 : decode k_X_tag 12 = .ok (.ifnull 20, 3) := by decide +kernel
theorem d_X_tag_15 : decode k_X_tag 15 = .ok (.iload_n 2, 1) := by decide +kernel
theorem d_X_tag_16 : decode k_X_tag 16 = .ok (.ifCond .lt 16, 3) := by decide +kernel
theorem d_X_tag_19 : decode k_X_tag 19 = .ok (.iload_n 2, 1) := by decide +kernel
theorem d_X_tag_20 : decode k_X_tag 20 = .ok (.sipush 255, 3) := by decide +kernel
theorem d_X_tag_23 : decode k_X_tag 23 = .ok (.if_icmp .gt 9, 3) := by decide +kernel
theorem d_X_tag_26 : decode k_X_tag 26 = .ok (.iload_n 3, 1) := by decide +kernel
theorem d_X_tag_27 : decode k_X_tag 27 = .ok (.iload 4, 2) := by decide +kernel
theorem d_X_tag_29 : decode k_X_tag 29 = .ok (.if_icmp .le 5, 3) := by decide +kernel
theorem d_X_tag_32 : decode k_X_tag 32 = .ok (.iconst 0, 1) := by decide +kernel
theorem d_X_tag_33 : decode k_X_tag 33 = .ok (.ireturn, 1) := by decide +kernel
theorem d_X_tag_34 : decode k_X_tag 34 = .ok (.aload 5, 2) := by decide +kernel
theorem d_X_tag_36 : decode k_X_tag 36 = .ok (.getfield 66, 3) := by decide +kernel
theorem d_X_tag_39 : decode k_X_tag 39 = .ok (.iload_n 2, 1) := by decide +kernel
theorem d_X_tag_40 : decode k_X_tag 40 = .ok (.iload_n 3, 1) := by decide +kernel
theorem d_X_tag_41 : decode k_X_tag 41 = .ok (.iload 4, 2) := by decide +kernel
theorem d_X_tag_43 : decode k_X_tag 43 = .ok (.invokevirtual 70, 3) := by decide +kernel
theorem d_X_tag_46 : decode k_X_tag 46 = .ok (.iconst 1, 1) := by decide +kernel
theorem d_X_tag_47 : decode k_X_tag 47 = .ok (.ireturn, 1) := by decide +kernel
set_option maxHeartbeats 4000000 in
set_option maxRecDepth 100000 in
theorem c_X_tag (l : Launch) {B : Nat} {D : va_G} {cI cZ cQ : ClassId} {w : mm_M} {sz : Nat} {b : Nat} {N : Nat → Nat → Nat} {S : Nat → Nat → Int32} {nr oo lo hi : Int32} (hXI : xs_I b cI cZ cQ sz N S w) (hR : rg_I N) (hC : ch_I N)  : Met l y_X_tag ws_X_tag (kk_rm 2 0 0) (kk_Pc B D cI cZ cQ [.ref b, .int nr, .int oo, .int lo, .int hi] w sz) (kk_Qi B D (fun r w' sz' => r = nI (if tg_ok N nr oo lo hi then 1 else 0) ∧ xs_I b cI cZ cQ sz' (tg_N N nr oo lo hi) (tg_S N S nr oo lo hi) w' ∧ (∀ j, b + 14 ≤ j → j < b + 31 → w' j = w j) ∧ sz' = sz)) 0 0 (fun q => B ≤ q) := by
  refine Met.ofW (cc := k_X_tag) (maxL := 6) (ret := (some .boolean)) (by decide) rfl ?_
  intro p e s m args below meth c s₁ BB hml hv
  obtain ⟨rfl, hK, hP, hz, hBz⟩ := hv
  have hx := BB.exec
  have hb := BB.bytes
  have hr := BB.returns
  have hts := atoms_spec (ws := ws_X_tag) BB.pre
  have hown : s.vm.findClass "DelegationClosure" = some m.cls := findClass_of_methodNamed BB.named
  have hlocks := BB.notSynchronized
  have hS : mm_S B s.heap s.heap [] := va_S.rf
  have hl := lv_entry ([.ref b, .int nr, .int oo, .int lo, .int hi]) (n := 6) (Nat.le_of_ble_eq_true rfl)
  rw [lg_entry_eq]
  generalize (lg_sl ([.ref b, .int nr, .int oo, .int lo, .int hi]) ++ List.replicate (6 - (lg_sl ([.ref b, .int nr, .int oo, .int lo, .int hi])).length) Slot.unset).toArray = ls at hl ⊢
  have hl : lv_has ls 6 [(0, .ref b), (1, .int nr), (2, .int oo), (3, .int lo), (4, .int hi)] := hl
  obtain ⟨T, U, ad, ⟨hRe, x0, x3, x4, x5, x6, x7, x8, x9, x10, x11, x12, x13⟩, hXr, hLa⟩ := hXI
  have hn := hRe.2.2.1
  have hC1 := hC.1
  have hC2 := hC.2.1
  have hC3 := hC.2.2.1
  have hC4 := hC.2.2.2.1
  have hC5 := hC.2.2.2.2.1
  have hC6 := hC.2.2.2.2.2.1
  rcases re_split hn nr with hc | ⟨jj, hj, rfl⟩
  · refine lv_aload_n hx hb d_X_tag_0 rfl (lv_at hl 0 rfl) ?_
    refine mm_get (D := D) (C := n_X) (T := T_X) (N := 4) (v := .ref (b + 1)) hx hb hts lay_X hown hK.1 hP x0 rfl 0 (by decide) (hts _ (List.mem_cons_of_mem _ wd_132)) (fun _ h9 => h9) rfl d_X_tag_1 ?_
    refine lv_iload_n hx hb d_X_tag_4 rfl (lv_at hl 1 rfl) ?_
    refine va_csq (va_Run.run (va_runV (As := [.int nr]) (rest := []) ⟨hx, hb, hml, hown, hts⟩ (c_Reg_permission l (N := N) (S := S) (ad := ad) hRe hR) (cwV 1 hts (gW_in (hd := [_, _, _, _, _]) (kk_5 wd_263 wd_264 wd_265 wd_2 cw_Reg_permission)) rfl rfl rfl ⟨rfl, ds_Reg_permission⟩ ⟨Nat.le_of_ble_eq_true rfl, Nat.le_of_ble_eq_true rfl⟩) (kk_preV hK hP hz hBz hRe.1 rfl) rfl rfl hl.1 rfl (lv_room (Nat.le_of_ble_eq_true rfl)) d_X_tag_5 ⟨Nat.le_of_ble_eq_true rfl, Nat.le_of_ble_eq_true rfl⟩)) (fun r1 hr1 => ?_)
    subst hr1
    refine kk_topv (y := .null) (by rw [re_pm_out hc]; rfl) ?_
    refine lv_astoreN hx hb d_X_tag_8 hl (by decide) rfl (fun ls hl => ?_)
    have hl : lv_has ls 6 [(5, .null), (0, .ref b), (1, .int nr), (2, .int oo), (3, .int lo), (4, .int hi)] := hl
    refine lv_aloadN hx hb d_X_tag_10 (lv_at hl 0 rfl) ?_
    refine lv_ifnullN (tgt := 32) hx hb d_X_tag_12 (by decide) ?_
    refine lv_iconst (v := nI 0) hx hb d_X_tag_32 (by decide) ?_
    exact W.zret hx hb hr rfl (fun t ht hW => ⟨⟨_, (w, sz), rfl, ⟨kk_iff (fun q => (re_tp_out hc) q.1), (by rw [show tg_N N _ _ _ _ = N from if_neg (fun q => (re_tp_out hc) q.1), show tg_S N S _ _ _ _ = S from if_neg (fun q => (re_tp_out hc) q.1)]; exact ⟨T, U, ad, ⟨hRe, x0, x3, x4, x5, x6, x7, x8, x9, x10, x11, x12, x13⟩, hXr, hLa⟩), (fun j9 hj1 hj2 => rfl), rfl⟩, by rw [ht]; exact hP, by rw [ht]; exact hz⟩, hS.F ht⟩) hS.2.2 d_X_tag_33
  · have hRj := hR jj hj
    have hLj := (hLa jj hj).1
    rcases hRe.2.2.2 jj hj with ⟨h2, hn1, hn2⟩ | ⟨h2, hp1, hp2, hp3, hp4, hp5⟩
    · have hwj : (if N 2 jj = 1 then 2 else 5) = 2 := if_pos h2
      by_cases hgn : N 1 jj = 0
      · refine lv_aload_n hx hb d_X_tag_0 rfl (lv_at hl 0 rfl) ?_
        refine mm_get (D := D) (C := n_X) (T := T_X) (N := 4) (v := .ref (b + 1)) hx hb hts lay_X hown hK.1 hP x0 rfl 0 (by decide) (hts _ (List.mem_cons_of_mem _ wd_132)) (fun _ h9 => h9) rfl d_X_tag_1 ?_
        refine lv_iload_n hx hb d_X_tag_4 rfl (lv_at hl 1 rfl) ?_
        refine va_csq (va_Run.run (va_runV (As := [.int (nI jj)]) (rest := []) ⟨hx, hb, hml, hown, hts⟩ (c_Reg_permission l (N := N) (S := S) (ad := ad) hRe hR) (cwV 1 hts (gW_in (hd := [_, _, _, _, _]) (kk_5 wd_263 wd_264 wd_265 wd_2 cw_Reg_permission)) rfl rfl rfl ⟨rfl, ds_Reg_permission⟩ ⟨Nat.le_of_ble_eq_true rfl, Nat.le_of_ble_eq_true rfl⟩) (kk_preV hK hP hz hBz hRe.1 rfl) rfl rfl hl.1 rfl (lv_room (Nat.le_of_ble_eq_true rfl)) d_X_tag_5 ⟨Nat.le_of_ble_eq_true rfl, Nat.le_of_ble_eq_true rfl⟩)) (fun r2 hr2 => ?_)
        subst hr2
        refine kk_topv (y := .null) (by rw [re_pm_no hj hn (fun q => by have := q.2; omega)]; rfl) ?_
        refine lv_astoreN hx hb d_X_tag_8 hl (by decide) rfl (fun ls hl => ?_)
        have hl : lv_has ls 6 [(5, .null), (0, .ref b), (1, .int (nI jj)), (2, .int oo), (3, .int lo), (4, .int hi)] := hl
        refine lv_aloadN hx hb d_X_tag_10 (lv_at hl 0 rfl) ?_
        refine lv_ifnullN (tgt := 32) hx hb d_X_tag_12 (by decide) ?_
        refine lv_iconst (v := nI 0) hx hb d_X_tag_32 (by decide) ?_
        exact W.zret hx hb hr rfl (fun t ht hW => ⟨⟨_, (w, sz), rfl, ⟨kk_iff (fun q => (fun q => by have := ((re_tp_in hj hn).mp q).2; omega) q.1), (by rw [show tg_N N _ _ _ _ = N from if_neg (fun q => (fun q => by have := ((re_tp_in hj hn).mp q).2; omega) q.1), show tg_S N S _ _ _ _ = S from if_neg (fun q => (fun q => by have := ((re_tp_in hj hn).mp q).2; omega) q.1)]; exact ⟨T, U, ad, ⟨hRe, x0, x3, x4, x5, x6, x7, x8, x9, x10, x11, x12, x13⟩, hXr, hLa⟩), (fun j9 hj1 hj2 => rfl), rfl⟩, by rw [ht]; exact hP, by rw [ht]; exact hz⟩, hS.F ht⟩) hS.2.2 d_X_tag_33
      · refine lv_aload_n hx hb d_X_tag_0 rfl (lv_at hl 0 rfl) ?_
        refine mm_get (D := D) (C := n_X) (T := T_X) (N := 4) (v := .ref (b + 1)) hx hb hts lay_X hown hK.1 hP x0 rfl 0 (by decide) (hts _ (List.mem_cons_of_mem _ wd_132)) (fun _ h9 => h9) rfl d_X_tag_1 ?_
        refine lv_iload_n hx hb d_X_tag_4 rfl (lv_at hl 1 rfl) ?_
        refine va_csq (va_Run.run (va_runV (As := [.int (nI jj)]) (rest := []) ⟨hx, hb, hml, hown, hts⟩ (c_Reg_permission l (N := N) (S := S) (ad := ad) hRe hR) (cwV 1 hts (gW_in (hd := [_, _, _, _, _]) (kk_5 wd_263 wd_264 wd_265 wd_2 cw_Reg_permission)) rfl rfl rfl ⟨rfl, ds_Reg_permission⟩ ⟨Nat.le_of_ble_eq_true rfl, Nat.le_of_ble_eq_true rfl⟩) (kk_preV hK hP hz hBz hRe.1 rfl) rfl rfl hl.1 rfl (lv_room (Nat.le_of_ble_eq_true rfl)) d_X_tag_5 ⟨Nat.le_of_ble_eq_true rfl, Nat.le_of_ble_eq_true rfl⟩)) (fun r3 hr3 => ?_)
        subst hr3
        refine kk_topv (y := .null) (by rw [re_pm_no hj hn (fun q => by have := q.2; omega)]; rfl) ?_
        refine lv_astoreN hx hb d_X_tag_8 hl (by decide) rfl (fun ls hl => ?_)
        have hl : lv_has ls 6 [(5, .null), (0, .ref b), (1, .int (nI jj)), (2, .int oo), (3, .int lo), (4, .int hi)] := hl
        refine lv_aloadN hx hb d_X_tag_10 (lv_at hl 0 rfl) ?_
        refine lv_ifnullN (tgt := 32) hx hb d_X_tag_12 (by decide) ?_
        refine lv_iconst (v := nI 0) hx hb d_X_tag_32 (by decide) ?_
        exact W.zret hx hb hr rfl (fun t ht hW => ⟨⟨_, (w, sz), rfl, ⟨kk_iff (fun q => (fun q => by have := ((re_tp_in hj hn).mp q).2; omega) q.1), (by rw [show tg_N N _ _ _ _ = N from if_neg (fun q => (fun q => by have := ((re_tp_in hj hn).mp q).2; omega) q.1), show tg_S N S _ _ _ _ = S from if_neg (fun q => (fun q => by have := ((re_tp_in hj hn).mp q).2; omega) q.1)]; exact ⟨T, U, ad, ⟨hRe, x0, x3, x4, x5, x6, x7, x8, x9, x10, x11, x12, x13⟩, hXr, hLa⟩), (fun j9 hj1 hj2 => rfl), rfl⟩, by rw [ht]; exact hP, by rw [ht]; exact hz⟩, hS.F ht⟩) hS.2.2 d_X_tag_33
    · have hwj : (if N 2 jj = 1 then 2 else 5) = 5 := if_neg (by omega)
      by_cases hgn : N 1 jj = 0
      · have htp : re_tp N (nI jj) := (re_tp_in hj hn).mpr ⟨hgn, h2⟩
        by_cases hok : tg_ok N (nI jj) oo lo hi
        · obtain ⟨o9, ho9, rfl⟩ := kk_lim_of hok.2.1 (by omega)
          refine lv_aload_n hx hb d_X_tag_0 rfl (lv_at hl 0 rfl) ?_
          refine mm_get (D := D) (C := n_X) (T := T_X) (N := 4) (v := .ref (b + 1)) hx hb hts lay_X hown hK.1 hP x0 rfl 0 (by decide) (hts _ (List.mem_cons_of_mem _ wd_132)) (fun _ h9 => h9) rfl d_X_tag_1 ?_
          refine lv_iload_n hx hb d_X_tag_4 rfl (lv_at hl 1 rfl) ?_
          refine va_csq (va_Run.run (va_runV (As := [.int (nI jj)]) (rest := []) ⟨hx, hb, hml, hown, hts⟩ (c_Reg_permission l (N := N) (S := S) (ad := ad) hRe hR) (cwV 1 hts (gW_in (hd := [_, _, _, _, _]) (kk_5 wd_263 wd_264 wd_265 wd_2 cw_Reg_permission)) rfl rfl rfl ⟨rfl, ds_Reg_permission⟩ ⟨Nat.le_of_ble_eq_true rfl, Nat.le_of_ble_eq_true rfl⟩) (kk_preV hK hP hz hBz hRe.1 rfl) rfl rfl hl.1 rfl (lv_room (Nat.le_of_ble_eq_true rfl)) d_X_tag_5 ⟨Nat.le_of_ble_eq_true rfl, Nat.le_of_ble_eq_true rfl⟩)) (fun r4 hr4 => ?_)
          subst hr4
          refine kk_topv (y := .ref (ad jj)) (by rw [re_pm_in hj hn hgn h2]; rfl) ?_
          refine lv_astore hx hb d_X_tag_8 hl (by decide) rfl (fun ls hl => ?_)
          have hl : lv_has ls 6 [(5, .ref (ad jj)), (0, .ref b), (1, .int (nI jj)), (2, .int (nI o9)), (3, .int lo), (4, .int hi)] := hl
          refine lv_aload hx hb d_X_tag_10 (lv_at hl 0 rfl) ?_
          refine lv_ifnull hx hb d_X_tag_12 ?_
          refine lv_iload_n hx hb d_X_tag_15 rfl (lv_at hl 3 rfl) ?_
          refine lv_if_lt (tgt := 32) hx hb d_X_tag_16 (by decide) (fun cc5 => ?_) (fun cc5 => ?_)
          · rw [← nI_0] at cc5
            have cc5 : o9 < 0 := (nI_ltI (by omega) (by omega)).mp cc5
            exact absurd cc5 (by omega)
          · rw [← nI_0] at cc5
            have cc5 : ¬ (o9 < 0) := fun q => cc5 ((nI_ltI (by omega) (by omega)).mpr q)
            refine lv_iload_n hx hb d_X_tag_19 rfl (lv_at hl 3 rfl) ?_
            refine lv_sipush (v := nI 255) hx hb d_X_tag_20 (by decide) ?_
            refine lv_icmp_gt (tgt := 32) hx hb d_X_tag_23 (by decide) (fun cc6 => ?_) (fun cc6 => ?_)
            · have cc6 : 255 < o9 := (nI_ltI (by omega) (by omega)).mp cc6
              exact absurd cc6 (by omega)
            · have cc6 : ¬ (255 < o9) := fun q => cc6 ((nI_ltI (by omega) (by omega)).mpr q)
              refine lv_iload_n hx hb d_X_tag_26 rfl (lv_at hl 4 rfl) ?_
              refine lv_iload hx hb d_X_tag_27 (lv_at hl 5 rfl) ?_
              refine lv_icmp_le (tgt := 34) hx hb d_X_tag_29 (by decide) (fun cc7 => ?_) (fun cc7 => ?_)
              · refine lv_aload hx hb d_X_tag_34 (lv_at hl 0 rfl) ?_
                refine mm_get (D := D) (C := n_Prm) (T := T_Prm) (N := 8) (v := .ref (ad jj + 3)) hx hb hts lay_Prm hown hK.1 hP hp1 rfl 4 (by decide) (hts _ (List.mem_cons_of_mem _ wd_234)) (fun _ h9 => h9) rfl d_X_tag_36 ?_
                refine lv_iload_n hx hb d_X_tag_39 rfl (lv_at hl 3 rfl) ?_
                refine lv_iload_n hx hb d_X_tag_40 rfl (lv_at hl 4 rfl) ?_
                refine lv_iload hx hb d_X_tag_41 (lv_at hl 5 rfl) ?_
                refine kk_callv (va_runV (As := [.int (nI o9), .int lo, .int hi]) (rest := []) ⟨hx, hb, hml, hown, hts⟩ (c_Tag_set l hp4 hp5 (by omega)) (cwV 3 hts (gW_in (hd := [_, _, _, _, _]) (kk_5 wd_272 wd_273 wd_274 wd_6 cw_Tag_set)) rfl rfl rfl ⟨rfl, ds_Tag_set⟩ ⟨Nat.le_of_ble_eq_true rfl, Nat.le_of_ble_eq_true rfl⟩) (kk_preV hK hP hz hBz hp4 rfl) rfl rfl hl.1 rfl (lv_room (Nat.le_of_ble_eq_true rfl)) d_X_tag_43 ⟨Nat.le_of_ble_eq_true rfl, Nat.le_of_ble_eq_true rfl⟩) hS (fun w8 sz8 H locs hp8 hP hz hS => ?_)
                obtain ⟨he8, hs8⟩ := hp8
                have hz : H.size = sz := hz.trans hs8
                have hw9 : w8 = mm_up (mm_up w (ad jj + 3) (.inr (5, [.int (nI o9), .ref (ad jj + 4)]))) (ad jj + 4) (.inr (6, [.int lo, .int hi])) := he8
                have fr9 : ∀ j, j ≠ ad jj + 3 → j ≠ ad jj + 4 → w8 j = w j := fun j h90 h91 => by rw [hw9]; exact (mm_un h91).trans (mm_un h90)
                have fa9_0 : w8 (ad jj + 3) = some (.inr (5, [.int (nI o9), .ref (ad jj + 4)])) := by rw [hw9]; exact (mm_un (by omega)).trans (mm_us _ _ _)
                have fa9_1 : w8 (ad jj + 4) = some (.inr (6, [.int lo, .int hi])) := by rw [hw9]; exact mm_us _ _ _
                refine lv_iconst (v := nI 1) hx hb d_X_tag_46 (by decide) ?_
                exact W.zret hx hb hr rfl (fun t ht hW => ⟨⟨_, (w8, sz), rfl, ⟨kk_ift hok, (by rw [tg_N_pos (by omega) (by omega) hok, tg_S_pos (by omega) hok]; exact ⟨T, U, ad, ⟨hRe.set (j := jj) rfl (fun c _ e => ⟨rfl, rfl, rfl, rfl, rfl, rfl, if_neg e, rfl, fun _ _ => rfl, rfl, rfl, if_neg e, if_neg e⟩) (fun x9 hx9 => fr9 x9 (by rcases hx9 with h | h | ⟨c9, h, h8, h7, h6⟩ <;> (try have q2 := la_apart hLa hj h h8) <;> omega) (by rcases hx9 with h | h | ⟨c9, h, h8, h7, h6⟩ <;> (try have q2 := la_apart hLa hj h h8) <;> omega)) (Or.inr ⟨h2, ((fr9 _ (by omega) (by omega)).trans (hp1)), ((fr9 _ (by omega) (by omega)).trans (hp2)), ((fr9 _ (by omega) (by omega)).trans (hp3)), (by rw [show va_up N 10 (va_up (N 10) jj o9) 10 jj = o9 from if_pos rfl]; exact fa9_0), (by rw [show sp_S S jj lo hi 11 jj = lo from if_pos rfl, show sp_S S jj lo hi 12 jj = hi from if_pos rfl]; exact fa9_1)⟩), ((fr9 _ (by omega) (by omega)).trans (x0)), ((fr9 _ (by omega) (by omega)).trans (x3)), ((fr9 _ (by omega) (by omega)).trans (x4)), ((fr9 _ (by omega) (by omega)).trans (x5)), ((fr9 _ (by omega) (by omega)).trans (x6)), ((fr9 _ (by omega) (by omega)).trans (x7)), ((fr9 _ (by omega) (by omega)).trans (x8)), ((fr9 _ (by omega) (by omega)).trans (x9)), ((fr9 _ (by omega) (by omega)).trans (x10)), ((fr9 _ (by omega) (by omega)).trans (x11)), ((fr9 _ (by omega) (by omega)).trans (x12)), ((fr9 _ (by omega) (by omega)).trans (x13))⟩, hXr, hLa⟩), (fun j9 hj1 hj2 => fr9 j9 (by omega) (by omega)), rfl⟩, by rw [ht]; exact hP, by rw [ht]; exact hz⟩, hS.F ht⟩) hS.2.2 d_X_tag_47
              · exact absurd (Int32.not_lt.mp hok.2.2) cc7
        · refine lv_aload_n hx hb d_X_tag_0 rfl (lv_at hl 0 rfl) ?_
          refine mm_get (D := D) (C := n_X) (T := T_X) (N := 4) (v := .ref (b + 1)) hx hb hts lay_X hown hK.1 hP x0 rfl 0 (by decide) (hts _ (List.mem_cons_of_mem _ wd_132)) (fun _ h9 => h9) rfl d_X_tag_1 ?_
          refine lv_iload_n hx hb d_X_tag_4 rfl (lv_at hl 1 rfl) ?_
          refine va_csq (va_Run.run (va_runV (As := [.int (nI jj)]) (rest := []) ⟨hx, hb, hml, hown, hts⟩ (c_Reg_permission l (N := N) (S := S) (ad := ad) hRe hR) (cwV 1 hts (gW_in (hd := [_, _, _, _, _]) (kk_5 wd_263 wd_264 wd_265 wd_2 cw_Reg_permission)) rfl rfl rfl ⟨rfl, ds_Reg_permission⟩ ⟨Nat.le_of_ble_eq_true rfl, Nat.le_of_ble_eq_true rfl⟩) (kk_preV hK hP hz hBz hRe.1 rfl) rfl rfl hl.1 rfl (lv_room (Nat.le_of_ble_eq_true rfl)) d_X_tag_5 ⟨Nat.le_of_ble_eq_true rfl, Nat.le_of_ble_eq_true rfl⟩)) (fun r10 hr10 => ?_)
          subst hr10
          refine kk_topv (y := .ref (ad jj)) (by rw [re_pm_in hj hn hgn h2]; rfl) ?_
          refine lv_astore hx hb d_X_tag_8 hl (by decide) rfl (fun ls hl => ?_)
          have hl : lv_has ls 6 [(5, .ref (ad jj)), (0, .ref b), (1, .int (nI jj)), (2, .int oo), (3, .int lo), (4, .int hi)] := hl
          refine lv_aload hx hb d_X_tag_10 (lv_at hl 0 rfl) ?_
          refine lv_ifnull hx hb d_X_tag_12 ?_
          refine lv_iload_n hx hb d_X_tag_15 rfl (lv_at hl 3 rfl) ?_
          refine lv_if_lt (tgt := 32) hx hb d_X_tag_16 (by decide) (fun cc11 => ?_) (fun cc11 => ?_)
          · refine lv_iconst (v := nI 0) hx hb d_X_tag_32 (by decide) ?_
            exact W.zret hx hb hr rfl (fun t ht hW => ⟨⟨_, (w, sz), rfl, ⟨kk_iff hok, (by rw [show tg_N N _ _ _ _ = N from if_neg hok, show tg_S N S _ _ _ _ = S from if_neg hok]; exact ⟨T, U, ad, ⟨hRe, x0, x3, x4, x5, x6, x7, x8, x9, x10, x11, x12, x13⟩, hXr, hLa⟩), (fun j9 hj1 hj2 => rfl), rfl⟩, by rw [ht]; exact hP, by rw [ht]; exact hz⟩, hS.F ht⟩) hS.2.2 d_X_tag_33
          · refine lv_iload_n hx hb d_X_tag_19 rfl (lv_at hl 3 rfl) ?_
            refine lv_sipush (v := nI 255) hx hb d_X_tag_20 (by decide) ?_
            refine lv_icmp_gt (tgt := 32) hx hb d_X_tag_23 (by decide) (fun cc12 => ?_) (fun cc12 => ?_)
            · refine lv_iconst (v := nI 0) hx hb d_X_tag_32 (by decide) ?_
              exact W.zret hx hb hr rfl (fun t ht hW => ⟨⟨_, (w, sz), rfl, ⟨kk_iff hok, (by rw [show tg_N N _ _ _ _ = N from if_neg hok, show tg_S N S _ _ _ _ = S from if_neg hok]; exact ⟨T, U, ad, ⟨hRe, x0, x3, x4, x5, x6, x7, x8, x9, x10, x11, x12, x13⟩, hXr, hLa⟩), (fun j9 hj1 hj2 => rfl), rfl⟩, by rw [ht]; exact hP, by rw [ht]; exact hz⟩, hS.F ht⟩) hS.2.2 d_X_tag_33
            · refine lv_iload_n hx hb d_X_tag_26 rfl (lv_at hl 4 rfl) ?_
              refine lv_iload hx hb d_X_tag_27 (lv_at hl 5 rfl) ?_
              refine lv_icmp_le (tgt := 34) hx hb d_X_tag_29 (by decide) (fun cc13 => ?_) (fun cc13 => ?_)
              · exact absurd ⟨htp, ⟨cc11, fun q => cc12 ((kk_gtm 255 256 rfl (by decide)).mpr q)⟩, Int32.not_lt.mpr cc13⟩ hok
              · refine lv_iconst (v := nI 0) hx hb d_X_tag_32 (by decide) ?_
                exact W.zret hx hb hr rfl (fun t ht hW => ⟨⟨_, (w, sz), rfl, ⟨kk_iff hok, (by rw [show tg_N N _ _ _ _ = N from if_neg hok, show tg_S N S _ _ _ _ = S from if_neg hok]; exact ⟨T, U, ad, ⟨hRe, x0, x3, x4, x5, x6, x7, x8, x9, x10, x11, x12, x13⟩, hXr, hLa⟩), (fun j9 hj1 hj2 => rfl), rfl⟩, by rw [ht]; exact hP, by rw [ht]; exact hz⟩, hS.F ht⟩) hS.2.2 d_X_tag_33
      · refine lv_aload_n hx hb d_X_tag_0 rfl (lv_at hl 0 rfl) ?_
        refine mm_get (D := D) (C := n_X) (T := T_X) (N := 4) (v := .ref (b + 1)) hx hb hts lay_X hown hK.1 hP x0 rfl 0 (by decide) (hts _ (List.mem_cons_of_mem _ wd_132)) (fun _ h9 => h9) rfl d_X_tag_1 ?_
        refine lv_iload_n hx hb d_X_tag_4 rfl (lv_at hl 1 rfl) ?_
        refine va_csq (va_Run.run (va_runV (As := [.int (nI jj)]) (rest := []) ⟨hx, hb, hml, hown, hts⟩ (c_Reg_permission l (N := N) (S := S) (ad := ad) hRe hR) (cwV 1 hts (gW_in (hd := [_, _, _, _, _]) (kk_5 wd_263 wd_264 wd_265 wd_2 cw_Reg_permission)) rfl rfl rfl ⟨rfl, ds_Reg_permission⟩ ⟨Nat.le_of_ble_eq_true rfl, Nat.le_of_ble_eq_true rfl⟩) (kk_preV hK hP hz hBz hRe.1 rfl) rfl rfl hl.1 rfl (lv_room (Nat.le_of_ble_eq_true rfl)) d_X_tag_5 ⟨Nat.le_of_ble_eq_true rfl, Nat.le_of_ble_eq_true rfl⟩)) (fun r14 hr14 => ?_)
        subst hr14
        refine kk_topv (y := .null) (by rw [re_pm_no hj hn (fun q => hgn q.1)]; rfl) ?_
        refine lv_astoreN hx hb d_X_tag_8 hl (by decide) rfl (fun ls hl => ?_)
        have hl : lv_has ls 6 [(5, .null), (0, .ref b), (1, .int (nI jj)), (2, .int oo), (3, .int lo), (4, .int hi)] := hl
        refine lv_aloadN hx hb d_X_tag_10 (lv_at hl 0 rfl) ?_
        refine lv_ifnullN (tgt := 32) hx hb d_X_tag_12 (by decide) ?_
        refine lv_iconst (v := nI 0) hx hb d_X_tag_32 (by decide) ?_
        exact W.zret hx hb hr rfl (fun t ht hW => ⟨⟨_, (w, sz), rfl, ⟨kk_iff (fun q => (fun q => hgn ((re_tp_in hj hn).mp q).1) q.1), (by rw [show tg_N N _ _ _ _ = N from if_neg (fun q => (fun q => hgn ((re_tp_in hj hn).mp q).1) q.1), show tg_S N S _ _ _ _ = S from if_neg (fun q => (fun q => hgn ((re_tp_in hj hn).mp q).1) q.1)]; exact ⟨T, U, ad, ⟨hRe, x0, x3, x4, x5, x6, x7, x8, x9, x10, x11, x12, x13⟩, hXr, hLa⟩), (fun j9 hj1 hj2 => rfl), rfl⟩, by rw [ht]; exact hP, by rw [ht]; exact hz⟩, hS.F ht⟩) hS.2.2 d_X_tag_33
theorem d_X_quorum_0 : decode k_X_quorum 0 = .ok (.aload_n 0, 1) := by decide +kernel
theorem d_X_quorum_1 : decode k_X_quorum 1 = .ok (.getfield 12, 3) := by decide +kernel
theorem d_X_quorum_4 : decode k_X_quorum 4 = .ok (.iload_n 1, 1) := by decide +kernel
theorem d_X_quorum_5 : decode k_X_quorum 5 = .ok (.invokevirtual 62, 3) := by decide +kernel
theorem d_X_quorum_8 : decode k_X_quorum 8 = .ok (.astore_n 3, 1) := by decide +kernel
theorem d_X_quorum_9 : decode k_X_quorum 9 = .ok (.aload_n 3, 1) := by decide +kernel
theorem d_X_quorum_10 : decode k_X_quorum 10 = .ok (.ifnull 16, 3) := by decide +kernel
theorem d_X_quorum_13 : decode k_X_quorum 13 = .ok (.iload_n 2, 1) := by decide +kernel
theorem d_X_quorum_14 : decode k_X_quorum 14 = .ok (.iconst 1, 1) := by decide +kernel
theorem d_X_quorum_15 : decode k_X_quorum 15 = .ok (.if_icmp .lt 11, 3) := by decide +kernel
theorem d_X_quorum_18 : decode k_X_quorum 18 = .ok (.iload_n 2, 1) := by decide +kernel
theorem d_X_quorum_19 : decode k_X_quorum 19 = .ok (.aload_n 3, 1) := by decide +kernel
theorem d_X_quorum_20 : decode k_X_quorum 20 = .ok (.getfield 76, 3) := by decide +kernel
theorem d_X_quorum_23 : decode k_X_quorum 23 = .ok (.if_icmp .le 5, 3) := by decide +kernel
theorem d_X_quorum_26 : decode k_X_quorum 26 = .ok (.iconst 0, 1) := by decide +kernel
theorem d_X_quorum_27 : decode k_X_quorum 27 = .ok (.ireturn, 1) := by decide +kernel
theorem d_X_quorum_28 : decode k_X_quorum 28 = .ok (.aload_n 3, 1) := by decide +kernel
theorem d_X_quorum_29 : decode k_X_quorum 29 = .ok (.iload_n 2, 1) := by decide +kernel
theorem d_X_quorum_30 : decode k_X_quorum 30 = .ok (.putfield 84, 3) := by decide +kernel
theorem d_X_quorum_33 : decode k_X_quorum 33 = .ok (.iconst 1, 1) := by decide +kernel
theorem d_X_quorum_34 : decode k_X_quorum 34 = .ok (.ireturn, 1) := by decide +kernel
set_option maxHeartbeats 4000000 in
set_option maxRecDepth 100000 in
theorem c_X_quorum (l : Launch) {B : Nat} {D : va_G} {cI cZ cQ : ClassId} {w : mm_M} {sz : Nat} {b : Nat} {N : Nat → Nat → Nat} {S : Nat → Nat → Int32} {nr kr : Int32} (hXI : xs_I b cI cZ cQ sz N S w) (hR : rg_I N) (hC : ch_I N)  : Met l y_X_quorum ws_X_quorum (kk_rm 2 0 0) (kk_Pc B D cI cZ cQ [.ref b, .int nr, .int kr] w sz) (kk_Qi B D (fun r w' sz' => r = nI (if qu_ok N nr kr then 1 else 0) ∧ xs_I b cI cZ cQ sz' (qu_N N nr kr) S w' ∧ (∀ j, b + 14 ≤ j → j < b + 31 → w' j = w j) ∧ sz' = sz)) 0 0 (fun q => B ≤ q) := by
  refine Met.ofW (cc := k_X_quorum) (maxL := 4) (ret := (some .boolean)) (by decide) rfl ?_
  intro p e s m args below meth c s₁ BB hml hv
  obtain ⟨rfl, hK, hP, hz, hBz⟩ := hv
  have hx := BB.exec
  have hb := BB.bytes
  have hr := BB.returns
  have hts := atoms_spec (ws := ws_X_quorum) BB.pre
  have hown : s.vm.findClass "DelegationClosure" = some m.cls := findClass_of_methodNamed BB.named
  have hlocks := BB.notSynchronized
  have hS : mm_S B s.heap s.heap [] := va_S.rf
  have hl := lv_entry ([.ref b, .int nr, .int kr]) (n := 4) (Nat.le_of_ble_eq_true rfl)
  rw [lg_entry_eq]
  generalize (lg_sl ([.ref b, .int nr, .int kr]) ++ List.replicate (4 - (lg_sl ([.ref b, .int nr, .int kr])).length) Slot.unset).toArray = ls at hl ⊢
  have hl : lv_has ls 4 [(0, .ref b), (1, .int nr), (2, .int kr)] := hl
  obtain ⟨T, U, ad, ⟨hRe, x0, x3, x4, x5, x6, x7, x8, x9, x10, x11, x12, x13⟩, hXr, hLa⟩ := hXI
  have hn := hRe.2.2.1
  have hC1 := hC.1
  have hC2 := hC.2.1
  have hC3 := hC.2.2.1
  have hC4 := hC.2.2.2.1
  have hC5 := hC.2.2.2.2.1
  have hC6 := hC.2.2.2.2.2.1
  rcases re_split hn nr with hc | ⟨jj, hj, rfl⟩
  · refine lv_aload_n hx hb d_X_quorum_0 rfl (lv_at hl 0 rfl) ?_
    refine mm_get (D := D) (C := n_X) (T := T_X) (N := 4) (v := .ref (b + 1)) hx hb hts lay_X hown hK.1 hP x0 rfl 0 (by decide) (hts _ (List.mem_cons_of_mem _ wd_132)) (fun _ h9 => h9) rfl d_X_quorum_1 ?_
    refine lv_iload_n hx hb d_X_quorum_4 rfl (lv_at hl 1 rfl) ?_
    refine va_csq (va_Run.run (va_runV (As := [.int nr]) (rest := []) ⟨hx, hb, hml, hown, hts⟩ (c_Reg_permission l (N := N) (S := S) (ad := ad) hRe hR) (cwV 1 hts (gW_in (hd := [_, _, _, _, _]) (kk_5 wd_263 wd_264 wd_265 wd_2 cw_Reg_permission)) rfl rfl rfl ⟨rfl, ds_Reg_permission⟩ ⟨Nat.le_of_ble_eq_true rfl, Nat.le_of_ble_eq_true rfl⟩) (kk_preV hK hP hz hBz hRe.1 rfl) rfl rfl hl.1 rfl (lv_room (Nat.le_of_ble_eq_true rfl)) d_X_quorum_5 ⟨Nat.le_of_ble_eq_true rfl, Nat.le_of_ble_eq_true rfl⟩)) (fun r1 hr1 => ?_)
    subst hr1
    refine kk_topv (y := .null) (by rw [re_pm_out hc]; rfl) ?_
    refine lv_astore_nN hx hb d_X_quorum_8 rfl hl (by decide) rfl (fun ls hl => ?_)
    have hl : lv_has ls 4 [(3, .null), (0, .ref b), (1, .int nr), (2, .int kr)] := hl
    refine lv_aload_nN hx hb d_X_quorum_9 rfl (lv_at hl 0 rfl) ?_
    refine lv_ifnullN (tgt := 26) hx hb d_X_quorum_10 (by decide) ?_
    refine lv_iconst (v := nI 0) hx hb d_X_quorum_26 (by decide) ?_
    exact W.zret hx hb hr rfl (fun t ht hW => ⟨⟨_, (w, sz), rfl, ⟨kk_iff (fun q => (re_tp_out hc) q.1), (by rw [show qu_N N _ _ = N from if_neg (fun q => (re_tp_out hc) q.1)]; exact ⟨T, U, ad, ⟨hRe, x0, x3, x4, x5, x6, x7, x8, x9, x10, x11, x12, x13⟩, hXr, hLa⟩), (fun j9 hj1 hj2 => rfl), rfl⟩, by rw [ht]; exact hP, by rw [ht]; exact hz⟩, hS.F ht⟩) hS.2.2 d_X_quorum_27
  · have hRj := hR jj hj
    have hLj := (hLa jj hj).1
    rcases hRe.2.2.2 jj hj with ⟨h2, hn1, hn2⟩ | ⟨h2, hp1, hp2, hp3, hp4, hp5⟩
    · have hwj : (if N 2 jj = 1 then 2 else 5) = 2 := if_pos h2
      by_cases hgn : N 1 jj = 0
      · refine lv_aload_n hx hb d_X_quorum_0 rfl (lv_at hl 0 rfl) ?_
        refine mm_get (D := D) (C := n_X) (T := T_X) (N := 4) (v := .ref (b + 1)) hx hb hts lay_X hown hK.1 hP x0 rfl 0 (by decide) (hts _ (List.mem_cons_of_mem _ wd_132)) (fun _ h9 => h9) rfl d_X_quorum_1 ?_
        refine lv_iload_n hx hb d_X_quorum_4 rfl (lv_at hl 1 rfl) ?_
        refine va_csq (va_Run.run (va_runV (As := [.int (nI jj)]) (rest := []) ⟨hx, hb, hml, hown, hts⟩ (c_Reg_permission l (N := N) (S := S) (ad := ad) hRe hR) (cwV 1 hts (gW_in (hd := [_, _, _, _, _]) (kk_5 wd_263 wd_264 wd_265 wd_2 cw_Reg_permission)) rfl rfl rfl ⟨rfl, ds_Reg_permission⟩ ⟨Nat.le_of_ble_eq_true rfl, Nat.le_of_ble_eq_true rfl⟩) (kk_preV hK hP hz hBz hRe.1 rfl) rfl rfl hl.1 rfl (lv_room (Nat.le_of_ble_eq_true rfl)) d_X_quorum_5 ⟨Nat.le_of_ble_eq_true rfl, Nat.le_of_ble_eq_true rfl⟩)) (fun r2 hr2 => ?_)
        subst hr2
        refine kk_topv (y := .null) (by rw [re_pm_no hj hn (fun q => by have := q.2; omega)]; rfl) ?_
        refine lv_astore_nN hx hb d_X_quorum_8 rfl hl (by decide) rfl (fun ls hl => ?_)
        have hl : lv_has ls 4 [(3, .null), (0, .ref b), (1, .int (nI jj)), (2, .int kr)] := hl
        refine lv_aload_nN hx hb d_X_quorum_9 rfl (lv_at hl 0 rfl) ?_
        refine lv_ifnullN (tgt := 26) hx hb d_X_quorum_10 (by decide) ?_
        refine lv_iconst (v := nI 0) hx hb d_X_quorum_26 (by decide) ?_
        exact W.zret hx hb hr rfl (fun t ht hW => ⟨⟨_, (w, sz), rfl, ⟨kk_iff (fun q => (fun q => by have := ((re_tp_in hj hn).mp q).2; omega) q.1), (by rw [show qu_N N _ _ = N from if_neg (fun q => (fun q => by have := ((re_tp_in hj hn).mp q).2; omega) q.1)]; exact ⟨T, U, ad, ⟨hRe, x0, x3, x4, x5, x6, x7, x8, x9, x10, x11, x12, x13⟩, hXr, hLa⟩), (fun j9 hj1 hj2 => rfl), rfl⟩, by rw [ht]; exact hP, by rw [ht]; exact hz⟩, hS.F ht⟩) hS.2.2 d_X_quorum_27
      · refine lv_aload_n hx hb d_X_quorum_0 rfl (lv_at hl 0 rfl) ?_
        refine mm_get (D := D) (C := n_X) (T := T_X) (N := 4) (v := .ref (b + 1)) hx hb hts lay_X hown hK.1 hP x0 rfl 0 (by decide) (hts _ (List.mem_cons_of_mem _ wd_132)) (fun _ h9 => h9) rfl d_X_quorum_1 ?_
        refine lv_iload_n hx hb d_X_quorum_4 rfl (lv_at hl 1 rfl) ?_
        refine va_csq (va_Run.run (va_runV (As := [.int (nI jj)]) (rest := []) ⟨hx, hb, hml, hown, hts⟩ (c_Reg_permission l (N := N) (S := S) (ad := ad) hRe hR) (cwV 1 hts (gW_in (hd := [_, _, _, _, _]) (kk_5 wd_263 wd_264 wd_265 wd_2 cw_Reg_permission)) rfl rfl rfl ⟨rfl, ds_Reg_permission⟩ ⟨Nat.le_of_ble_eq_true rfl, Nat.le_of_ble_eq_true rfl⟩) (kk_preV hK hP hz hBz hRe.1 rfl) rfl rfl hl.1 rfl (lv_room (Nat.le_of_ble_eq_true rfl)) d_X_quorum_5 ⟨Nat.le_of_ble_eq_true rfl, Nat.le_of_ble_eq_true rfl⟩)) (fun r3 hr3 => ?_)
        subst hr3
        refine kk_topv (y := .null) (by rw [re_pm_no hj hn (fun q => by have := q.2; omega)]; rfl) ?_
        refine lv_astore_nN hx hb d_X_quorum_8 rfl hl (by decide) rfl (fun ls hl => ?_)
        have hl : lv_has ls 4 [(3, .null), (0, .ref b), (1, .int (nI jj)), (2, .int kr)] := hl
        refine lv_aload_nN hx hb d_X_quorum_9 rfl (lv_at hl 0 rfl) ?_
        refine lv_ifnullN (tgt := 26) hx hb d_X_quorum_10 (by decide) ?_
        refine lv_iconst (v := nI 0) hx hb d_X_quorum_26 (by decide) ?_
        exact W.zret hx hb hr rfl (fun t ht hW => ⟨⟨_, (w, sz), rfl, ⟨kk_iff (fun q => (fun q => by have := ((re_tp_in hj hn).mp q).2; omega) q.1), (by rw [show qu_N N _ _ = N from if_neg (fun q => (fun q => by have := ((re_tp_in hj hn).mp q).2; omega) q.1)]; exact ⟨T, U, ad, ⟨hRe, x0, x3, x4, x5, x6, x7, x8, x9, x10, x11, x12, x13⟩, hXr, hLa⟩), (fun j9 hj1 hj2 => rfl), rfl⟩, by rw [ht]; exact hP, by rw [ht]; exact hz⟩, hS.F ht⟩) hS.2.2 d_X_quorum_27
    · have hwj : (if N 2 jj = 1 then 2 else 5) = 5 := if_neg (by omega)
      by_cases hgn : N 1 jj = 0
      · have htp : re_tp N (nI jj) := (re_tp_in hj hn).mpr ⟨hgn, h2⟩
        by_cases hok : qu_ok N (nI jj) kr
        · refine lv_aload_n hx hb d_X_quorum_0 rfl (lv_at hl 0 rfl) ?_
          refine mm_get (D := D) (C := n_X) (T := T_X) (N := 4) (v := .ref (b + 1)) hx hb hts lay_X hown hK.1 hP x0 rfl 0 (by decide) (hts _ (List.mem_cons_of_mem _ wd_132)) (fun _ h9 => h9) rfl d_X_quorum_1 ?_
          refine lv_iload_n hx hb d_X_quorum_4 rfl (lv_at hl 1 rfl) ?_
          refine va_csq (va_Run.run (va_runV (As := [.int (nI jj)]) (rest := []) ⟨hx, hb, hml, hown, hts⟩ (c_Reg_permission l (N := N) (S := S) (ad := ad) hRe hR) (cwV 1 hts (gW_in (hd := [_, _, _, _, _]) (kk_5 wd_263 wd_264 wd_265 wd_2 cw_Reg_permission)) rfl rfl rfl ⟨rfl, ds_Reg_permission⟩ ⟨Nat.le_of_ble_eq_true rfl, Nat.le_of_ble_eq_true rfl⟩) (kk_preV hK hP hz hBz hRe.1 rfl) rfl rfl hl.1 rfl (lv_room (Nat.le_of_ble_eq_true rfl)) d_X_quorum_5 ⟨Nat.le_of_ble_eq_true rfl, Nat.le_of_ble_eq_true rfl⟩)) (fun r4 hr4 => ?_)
          subst hr4
          refine kk_topv (y := .ref (ad jj)) (by rw [re_pm_in hj hn hgn h2]; rfl) ?_
          refine lv_astore_n hx hb d_X_quorum_8 rfl hl (by decide) rfl (fun ls hl => ?_)
          have hl : lv_has ls 4 [(3, .ref (ad jj)), (0, .ref b), (1, .int (nI jj)), (2, .int kr)] := hl
          refine lv_aload_n hx hb d_X_quorum_9 rfl (lv_at hl 0 rfl) ?_
          refine lv_ifnull hx hb d_X_quorum_10 ?_
          refine lv_iload_n hx hb d_X_quorum_13 rfl (lv_at hl 3 rfl) ?_
          refine lv_iconst (v := nI 1) hx hb d_X_quorum_14 (by decide) ?_
          refine lv_icmp_lt (tgt := 26) hx hb d_X_quorum_15 (by decide) (fun cc5 => ?_) (fun cc5 => ?_)
          · exact absurd cc5 hok.2.1
          · refine lv_iload_n hx hb d_X_quorum_18 rfl (lv_at hl 3 rfl) ?_
            refine lv_aload_n hx hb d_X_quorum_19 rfl (lv_at hl 0 rfl) ?_
            refine mm_get (D := D) (C := n_Prm) (T := T_Prm) (N := 8) (v := .int (nI (N 8 jj))) hx hb hts lay_Prm hown hK.1 hP hp1 rfl 6 (by decide) (hts _ (List.mem_cons_of_mem _ wd_240)) (fun _ h9 => h9) rfl d_X_quorum_20 ?_
            refine lv_icmp_le (tgt := 28) hx hb d_X_quorum_23 (by decide) (fun cc6 => ?_) (fun cc6 => ?_)
            · obtain ⟨q9, hq1, hq2, rfl⟩ := kk_rng cc5 cc6 (by omega) (by omega)
              refine lv_aload_n hx hb d_X_quorum_28 rfl (lv_at hl 0 rfl) ?_
              refine lv_iload_n hx hb d_X_quorum_29 rfl (lv_at hl 3 rfl) ?_
              refine mm_put (D := D) (C := n_Prm) (T := T_Prm) (N := 8) (v := .int (nI q9)) (ty := .int) hx hb hts lay_Prm t_Prm ty_Prm nm_Prm hown hK.1 hP hS hp1 rfl 7 (by decide) (hts _ (List.mem_cons_of_mem _ wd_244)) (fun _ h9 => h9) rfl (by decide +kernel) rfl rfl (Nat.le_of_ble_eq_true rfl) d_X_quorum_30 (fun H locs hP hz1 hS => ?_)
              have hz : H.size = sz := hz1.trans hz
              obtain ⟨w7, hw7⟩ : ∃ z : mm_M, z = mm_up w (ad jj) (.inr (8, [.int (nI (N 3 jj)), .ref (ad jj + 1), .int (nI (N 1 jj)), .ref (ad jj + 2), .ref (ad jj + 3), .int (nI (N 13 jj)), .int (nI (N 8 jj)), .int (nI q9)])) := ⟨_, rfl⟩
              have hP : mm_P B D kc w7 H := by rw [hw7]; exact hP
              have fr7 : ∀ j, j ≠ ad jj → w7 j = w j := fun j h9 => by rw [hw7]; exact mm_un h9
              have fa7 : w7 (ad jj) = some (.inr (8, [.int (nI (N 3 jj)), .ref (ad jj + 1), .int (nI (N 1 jj)), .ref (ad jj + 2), .ref (ad jj + 3), .int (nI (N 13 jj)), .int (nI (N 8 jj)), .int (nI q9)])) := by rw [hw7]; exact mm_us _ _ _
              refine lv_iconst (v := nI 1) hx hb d_X_quorum_33 (by decide) ?_
              exact W.zret hx hb hr rfl (fun t ht hW => ⟨⟨_, (w7, sz), rfl, ⟨kk_ift hok, (by rw [qu_N_pos (by omega) (by omega) hok]; exact ⟨T, U, ad, ⟨hRe.set (j := jj) rfl (fun c _ e => ⟨rfl, rfl, rfl, rfl, rfl, if_neg e, rfl, rfl, fun _ _ => rfl, rfl, rfl, rfl, rfl⟩) (fun x9 hx9 => fr7 x9 (by rcases hx9 with h | h | ⟨c9, h, h8, h7, h6⟩ <;> (try have q2 := la_apart hLa hj h h8) <;> omega)) (Or.inr ⟨h2, (by rw [show va_up N 9 (va_up (N 9) jj q9) 9 jj = q9 from if_pos rfl]; exact fa7), ((fr7 _ (by omega)).trans (hp2)), ((fr7 _ (by omega)).trans (hp3)), ((fr7 _ (by omega)).trans (hp4)), ((fr7 _ (by omega)).trans (hp5))⟩), ((fr7 _ (by omega)).trans (x0)), ((fr7 _ (by omega)).trans (x3)), ((fr7 _ (by omega)).trans (x4)), ((fr7 _ (by omega)).trans (x5)), ((fr7 _ (by omega)).trans (x6)), ((fr7 _ (by omega)).trans (x7)), ((fr7 _ (by omega)).trans (x8)), ((fr7 _ (by omega)).trans (x9)), ((fr7 _ (by omega)).trans (x10)), ((fr7 _ (by omega)).trans (x11)), ((fr7 _ (by omega)).trans (x12)), ((fr7 _ (by omega)).trans (x13))⟩, hXr, hLa⟩), (fun j9 hj1 hj2 => fr7 j9 (by omega)), rfl⟩, by rw [ht]; exact hP, by rw [ht]; exact hz⟩, hS.F ht⟩) hS.2.2 d_X_quorum_34
            · exact absurd (by have h9 := hok.2.2; rw [nI_clamp (by omega)] at h9; exact Int32.not_lt.mp h9) cc6
        · refine lv_aload_n hx hb d_X_quorum_0 rfl (lv_at hl 0 rfl) ?_
          refine mm_get (D := D) (C := n_X) (T := T_X) (N := 4) (v := .ref (b + 1)) hx hb hts lay_X hown hK.1 hP x0 rfl 0 (by decide) (hts _ (List.mem_cons_of_mem _ wd_132)) (fun _ h9 => h9) rfl d_X_quorum_1 ?_
          refine lv_iload_n hx hb d_X_quorum_4 rfl (lv_at hl 1 rfl) ?_
          refine va_csq (va_Run.run (va_runV (As := [.int (nI jj)]) (rest := []) ⟨hx, hb, hml, hown, hts⟩ (c_Reg_permission l (N := N) (S := S) (ad := ad) hRe hR) (cwV 1 hts (gW_in (hd := [_, _, _, _, _]) (kk_5 wd_263 wd_264 wd_265 wd_2 cw_Reg_permission)) rfl rfl rfl ⟨rfl, ds_Reg_permission⟩ ⟨Nat.le_of_ble_eq_true rfl, Nat.le_of_ble_eq_true rfl⟩) (kk_preV hK hP hz hBz hRe.1 rfl) rfl rfl hl.1 rfl (lv_room (Nat.le_of_ble_eq_true rfl)) d_X_quorum_5 ⟨Nat.le_of_ble_eq_true rfl, Nat.le_of_ble_eq_true rfl⟩)) (fun r8 hr8 => ?_)
          subst hr8
          refine kk_topv (y := .ref (ad jj)) (by rw [re_pm_in hj hn hgn h2]; rfl) ?_
          refine lv_astore_n hx hb d_X_quorum_8 rfl hl (by decide) rfl (fun ls hl => ?_)
          have hl : lv_has ls 4 [(3, .ref (ad jj)), (0, .ref b), (1, .int (nI jj)), (2, .int kr)] := hl
          refine lv_aload_n hx hb d_X_quorum_9 rfl (lv_at hl 0 rfl) ?_
          refine lv_ifnull hx hb d_X_quorum_10 ?_
          refine lv_iload_n hx hb d_X_quorum_13 rfl (lv_at hl 3 rfl) ?_
          refine lv_iconst (v := nI 1) hx hb d_X_quorum_14 (by decide) ?_
          refine lv_icmp_lt (tgt := 26) hx hb d_X_quorum_15 (by decide) (fun cc9 => ?_) (fun cc9 => ?_)
          · refine lv_iconst (v := nI 0) hx hb d_X_quorum_26 (by decide) ?_
            exact W.zret hx hb hr rfl (fun t ht hW => ⟨⟨_, (w, sz), rfl, ⟨kk_iff hok, (by rw [show qu_N N _ _ = N from if_neg hok]; exact ⟨T, U, ad, ⟨hRe, x0, x3, x4, x5, x6, x7, x8, x9, x10, x11, x12, x13⟩, hXr, hLa⟩), (fun j9 hj1 hj2 => rfl), rfl⟩, by rw [ht]; exact hP, by rw [ht]; exact hz⟩, hS.F ht⟩) hS.2.2 d_X_quorum_27
          · refine lv_iload_n hx hb d_X_quorum_18 rfl (lv_at hl 3 rfl) ?_
            refine lv_aload_n hx hb d_X_quorum_19 rfl (lv_at hl 0 rfl) ?_
            refine mm_get (D := D) (C := n_Prm) (T := T_Prm) (N := 8) (v := .int (nI (N 8 jj))) hx hb hts lay_Prm hown hK.1 hP hp1 rfl 6 (by decide) (hts _ (List.mem_cons_of_mem _ wd_240)) (fun _ h9 => h9) rfl d_X_quorum_20 ?_
            refine lv_icmp_le (tgt := 28) hx hb d_X_quorum_23 (by decide) (fun cc10 => ?_) (fun cc10 => ?_)
            · exact absurd ⟨htp, cc9, by rw [nI_clamp (by omega)]; exact Int32.not_lt.mpr cc10⟩ hok
            · refine lv_iconst (v := nI 0) hx hb d_X_quorum_26 (by decide) ?_
              exact W.zret hx hb hr rfl (fun t ht hW => ⟨⟨_, (w, sz), rfl, ⟨kk_iff hok, (by rw [show qu_N N _ _ = N from if_neg hok]; exact ⟨T, U, ad, ⟨hRe, x0, x3, x4, x5, x6, x7, x8, x9, x10, x11, x12, x13⟩, hXr, hLa⟩), (fun j9 hj1 hj2 => rfl), rfl⟩, by rw [ht]; exact hP, by rw [ht]; exact hz⟩, hS.F ht⟩) hS.2.2 d_X_quorum_27
      · refine lv_aload_n hx hb d_X_quorum_0 rfl (lv_at hl 0 rfl) ?_
        refine mm_get (D := D) (C := n_X) (T := T_X) (N := 4) (v := .ref (b + 1)) hx hb hts lay_X hown hK.1 hP x0 rfl 0 (by decide) (hts _ (List.mem_cons_of_mem _ wd_132)) (fun _ h9 => h9) rfl d_X_quorum_1 ?_
        refine lv_iload_n hx hb d_X_quorum_4 rfl (lv_at hl 1 rfl) ?_
        refine va_csq (va_Run.run (va_runV (As := [.int (nI jj)]) (rest := []) ⟨hx, hb, hml, hown, hts⟩ (c_Reg_permission l (N := N) (S := S) (ad := ad) hRe hR) (cwV 1 hts (gW_in (hd := [_, _, _, _, _]) (kk_5 wd_263 wd_264 wd_265 wd_2 cw_Reg_permission)) rfl rfl rfl ⟨rfl, ds_Reg_permission⟩ ⟨Nat.le_of_ble_eq_true rfl, Nat.le_of_ble_eq_true rfl⟩) (kk_preV hK hP hz hBz hRe.1 rfl) rfl rfl hl.1 rfl (lv_room (Nat.le_of_ble_eq_true rfl)) d_X_quorum_5 ⟨Nat.le_of_ble_eq_true rfl, Nat.le_of_ble_eq_true rfl⟩)) (fun r11 hr11 => ?_)
        subst hr11
        refine kk_topv (y := .null) (by rw [re_pm_no hj hn (fun q => hgn q.1)]; rfl) ?_
        refine lv_astore_nN hx hb d_X_quorum_8 rfl hl (by decide) rfl (fun ls hl => ?_)
        have hl : lv_has ls 4 [(3, .null), (0, .ref b), (1, .int (nI jj)), (2, .int kr)] := hl
        refine lv_aload_nN hx hb d_X_quorum_9 rfl (lv_at hl 0 rfl) ?_
        refine lv_ifnullN (tgt := 26) hx hb d_X_quorum_10 (by decide) ?_
        refine lv_iconst (v := nI 0) hx hb d_X_quorum_26 (by decide) ?_
        exact W.zret hx hb hr rfl (fun t ht hW => ⟨⟨_, (w, sz), rfl, ⟨kk_iff (fun q => (fun q => hgn ((re_tp_in hj hn).mp q).1) q.1), (by rw [show qu_N N _ _ = N from if_neg (fun q => (fun q => hgn ((re_tp_in hj hn).mp q).1) q.1)]; exact ⟨T, U, ad, ⟨hRe, x0, x3, x4, x5, x6, x7, x8, x9, x10, x11, x12, x13⟩, hXr, hLa⟩), (fun j9 hj1 hj2 => rfl), rfl⟩, by rw [ht]; exact hP, by rw [ht]; exact hz⟩, hS.F ht⟩) hS.2.2 d_X_quorum_27
theorem d_X_revoke_0 : decode k_X_revoke 0 = .ok (.aload_n 0, 1) := by decide +kernel
theorem d_X_revoke_1 : decode k_X_revoke 1 = .ok (.getfield 12, 3) := by decide +kernel
theorem d_X_revoke_4 : decode k_X_revoke 4 = .ok (.iload_n 1, 1) := by decide +kernel
theorem d_X_revoke_5 : decode k_X_revoke 5 = .ok (.invokevirtual 87, 3) := by decide +kernel
theorem d_X_revoke_8 : decode k_X_revoke 8 = .ok (.astore_n 2, 1) := by decide +kernel
theorem d_X_revoke_9 : decode k_X_revoke 9 = .ok (.aload_n 2, 1) := by decide +kernel
theorem d_X_revoke_10 : decode k_X_revoke 10 = .ok (.ifnonnull 5, 3) := by decide +kernel
theorem d_X_revoke_13 : decode k_X_revoke 13 = .ok (.iconst 0, 1) := by decide +kernel
theorem d_X_revoke_14 : decode k_X_revoke 14 = .ok (.ireturn, 1) := by decide +kernel
theorem d_X_revoke_15 : decode k_X_revoke 15 = .ok (.aload_n 2, 1) := by decide +kernel
theorem d_X_revoke_16 : decode k_X_revoke 16 = .ok (.iconst 1, 1) := by decide +kernel
theorem d_X_revoke_17 : decode k_X_revoke 17 = .ok (.putfield 91, 3) := by decide +kernel
theorem d_X_revoke_20 : decode k_X_revoke 20 = .ok (.iconst 1, 1) := by decide +kernel
theorem d_X_revoke_21 : decode k_X_revoke 21 = .ok (.ireturn, 1) := by decide +kernel
set_option maxHeartbeats 4000000 in
set_option maxRecDepth 100000 in
theorem c_X_revoke (l : Launch) {B : Nat} {D : va_G} {cI cZ cQ : ClassId} {w : mm_M} {sz : Nat} {b : Nat} {N : Nat → Nat → Nat} {S : Nat → Nat → Int32} {nr : Int32} (hXI : xs_I b cI cZ cQ sz N S w) (hR : rg_I N) (hC : ch_I N)  : Met l y_X_revoke ws_X_revoke (kk_rm 1 0 0) (kk_Pc B D cI cZ cQ [.ref b, .int nr] w sz) (kk_Qi B D (fun r w' sz' => r = nI (if re_th N nr then 1 else 0) ∧ xs_I b cI cZ cQ sz' (rv_N N nr) S w' ∧ (∀ j, b + 14 ≤ j → j < b + 31 → w' j = w j) ∧ sz' = sz)) 0 0 (fun q => B ≤ q) := by
  refine Met.ofW (cc := k_X_revoke) (maxL := 3) (ret := (some .boolean)) (by decide) rfl ?_
  intro p e s m args below meth c s₁ BB hml hv
  obtain ⟨rfl, hK, hP, hz, hBz⟩ := hv
  have hx := BB.exec
  have hb := BB.bytes
  have hr := BB.returns
  have hts := atoms_spec (ws := ws_X_revoke) BB.pre
  have hown : s.vm.findClass "DelegationClosure" = some m.cls := findClass_of_methodNamed BB.named
  have hlocks := BB.notSynchronized
  have hS : mm_S B s.heap s.heap [] := va_S.rf
  have hl := lv_entry ([.ref b, .int nr]) (n := 3) (Nat.le_of_ble_eq_true rfl)
  rw [lg_entry_eq]
  generalize (lg_sl ([.ref b, .int nr]) ++ List.replicate (3 - (lg_sl ([.ref b, .int nr])).length) Slot.unset).toArray = ls at hl ⊢
  have hl : lv_has ls 3 [(0, .ref b), (1, .int nr)] := hl
  obtain ⟨T, U, ad, ⟨hRe, x0, x3, x4, x5, x6, x7, x8, x9, x10, x11, x12, x13⟩, hXr, hLa⟩ := hXI
  have hn := hRe.2.2.1
  have hC1 := hC.1
  have hC2 := hC.2.1
  have hC3 := hC.2.2.1
  have hC4 := hC.2.2.2.1
  have hC5 := hC.2.2.2.2.1
  have hC6 := hC.2.2.2.2.2.1
  rcases re_split hn nr with hc | ⟨jj, hj, rfl⟩
  · refine lv_aload_n hx hb d_X_revoke_0 rfl (lv_at hl 0 rfl) ?_
    refine mm_get (D := D) (C := n_X) (T := T_X) (N := 4) (v := .ref (b + 1)) hx hb hts lay_X hown hK.1 hP x0 rfl 0 (by decide) (hts _ (List.mem_cons_of_mem _ wd_132)) (fun _ h9 => h9) rfl d_X_revoke_1 ?_
    refine lv_iload_n hx hb d_X_revoke_4 rfl (lv_at hl 1 rfl) ?_
    refine va_csq (va_Run.run (va_runV (As := [.int nr]) (rest := []) ⟨hx, hb, hml, hown, hts⟩ (c_Reg_standing l (N := N) (S := S) (ad := ad) hRe hR) (cwV 1 hts (gW_in (hd := [_, _, _, _, _]) (kk_5 wd_296 wd_268 wd_269 wd_2 cw_Reg_standing)) rfl rfl rfl ⟨rfl, ds_Reg_standing⟩ ⟨Nat.le_of_ble_eq_true rfl, Nat.le_of_ble_eq_true rfl⟩) (kk_preV hK hP hz hBz hRe.1 rfl) rfl rfl hl.1 rfl (lv_room (Nat.le_of_ble_eq_true rfl)) d_X_revoke_5 ⟨Nat.le_of_ble_eq_true rfl, Nat.le_of_ble_eq_true rfl⟩)) (fun r1 hr1 => ?_)
    subst hr1
    refine kk_topv (y := .null) (by rw [re_st_out hc]; rfl) ?_
    refine lv_astore_nN hx hb d_X_revoke_8 rfl hl (by decide) rfl (fun ls hl => ?_)
    have hl : lv_has ls 3 [(2, .null), (0, .ref b), (1, .int nr)] := hl
    refine lv_aload_nN hx hb d_X_revoke_9 rfl (lv_at hl 0 rfl) ?_
    refine lv_ifnonnullN hx hb d_X_revoke_10 ?_
    refine lv_iconst (v := nI 0) hx hb d_X_revoke_13 (by decide) ?_
    exact W.zret hx hb hr rfl (fun t ht hW => ⟨⟨_, (w, sz), rfl, ⟨kk_iff (re_th_out hc), (by rw [show rv_N N _ = N from if_neg (re_th_out hc)]; exact ⟨T, U, ad, ⟨hRe, x0, x3, x4, x5, x6, x7, x8, x9, x10, x11, x12, x13⟩, hXr, hLa⟩), (fun j9 hj1 hj2 => rfl), rfl⟩, by rw [ht]; exact hP, by rw [ht]; exact hz⟩, hS.F ht⟩) hS.2.2 d_X_revoke_14
  · have hRj := hR jj hj
    have hLj := (hLa jj hj).1
    rcases hRe.2.2.2 jj hj with ⟨h2, hn1, hn2⟩ | ⟨h2, hp1, hp2, hp3, hp4, hp5⟩
    · have hwj : (if N 2 jj = 1 then 2 else 5) = 2 := if_pos h2
      by_cases hgn : N 1 jj = 0
      · refine lv_aload_n hx hb d_X_revoke_0 rfl (lv_at hl 0 rfl) ?_
        refine mm_get (D := D) (C := n_X) (T := T_X) (N := 4) (v := .ref (b + 1)) hx hb hts lay_X hown hK.1 hP x0 rfl 0 (by decide) (hts _ (List.mem_cons_of_mem _ wd_132)) (fun _ h9 => h9) rfl d_X_revoke_1 ?_
        refine lv_iload_n hx hb d_X_revoke_4 rfl (lv_at hl 1 rfl) ?_
        refine va_csq (va_Run.run (va_runV (As := [.int (nI jj)]) (rest := []) ⟨hx, hb, hml, hown, hts⟩ (c_Reg_standing l (N := N) (S := S) (ad := ad) hRe hR) (cwV 1 hts (gW_in (hd := [_, _, _, _, _]) (kk_5 wd_296 wd_268 wd_269 wd_2 cw_Reg_standing)) rfl rfl rfl ⟨rfl, ds_Reg_standing⟩ ⟨Nat.le_of_ble_eq_true rfl, Nat.le_of_ble_eq_true rfl⟩) (kk_preV hK hP hz hBz hRe.1 rfl) rfl rfl hl.1 rfl (lv_room (Nat.le_of_ble_eq_true rfl)) d_X_revoke_5 ⟨Nat.le_of_ble_eq_true rfl, Nat.le_of_ble_eq_true rfl⟩)) (fun r2 hr2 => ?_)
        subst hr2
        refine kk_topv (y := .ref (ad jj)) (by rw [re_st_in hj hn hgn]; rfl) ?_
        refine lv_astore_n hx hb d_X_revoke_8 rfl hl (by decide) rfl (fun ls hl => ?_)
        have hl : lv_has ls 3 [(2, .ref (ad jj)), (0, .ref b), (1, .int (nI jj))] := hl
        refine lv_aload_n hx hb d_X_revoke_9 rfl (lv_at hl 0 rfl) ?_
        refine lv_ifnonnull (tgt := 15) hx hb d_X_revoke_10 (by decide) ?_
        refine lv_aload_n hx hb d_X_revoke_15 rfl (lv_at hl 0 rfl) ?_
        refine lv_iconst (v := nI 1) hx hb d_X_revoke_16 (by decide) ?_
        refine mm_put (D := D) (C := n_Nam) (T := T_Nam) (N := 5) (v := .int (nI 1)) (ty := .boolean) hx hb hts lay_Nam t_Nam ty_Nam nm_Nam hown hK.1 hP hS hn1 rfl 2 (by decide) (hts _ (List.mem_cons_of_mem _ wd_199)) (fun _ h9 => h9) rfl (by decide +kernel) rfl rfl (Nat.le_of_ble_eq_true rfl) d_X_revoke_17 (fun H locs hP hz1 hS => ?_)
        have hz : H.size = sz := hz1.trans hz
        obtain ⟨w3, hw3⟩ : ∃ z : mm_M, z = mm_up w (ad jj) (.inr (7, [.int (nI (N 3 jj)), .ref (ad jj + 1), .int (nI 1), .int (nI (N 4 jj)), .int (nI (N 7 (3 * jj)))])) := ⟨_, rfl⟩
        have hP : mm_P B D kc w3 H := by rw [hw3]; exact hP
        have fr3 : ∀ j, j ≠ ad jj → w3 j = w j := fun j h9 => by rw [hw3]; exact mm_un h9
        have fa3 : w3 (ad jj) = some (.inr (7, [.int (nI (N 3 jj)), .ref (ad jj + 1), .int (nI 1), .int (nI (N 4 jj)), .int (nI (N 7 (3 * jj)))])) := by rw [hw3]; exact mm_us _ _ _
        refine lv_iconst (v := nI 1) hx hb d_X_revoke_20 (by decide) ?_
        exact W.zret hx hb hr rfl (fun t ht hW => ⟨⟨_, (w3, sz), rfl, ⟨kk_ift ((re_th_in hj hn).mpr hgn), (by rw [rv_N_pos (by omega) ((re_th_in hj hn).mpr hgn)]; exact ⟨T, U, ad, ⟨hRe.set (j := jj) rfl (fun c _ e => ⟨if_neg e, rfl, rfl, rfl, rfl, rfl, rfl, rfl, fun _ _ => rfl, rfl, rfl, rfl, rfl⟩) (fun x9 hx9 => fr3 x9 (by rcases hx9 with h | h | ⟨c9, h, h8, h7, h6⟩ <;> (try have q2 := la_apart hLa hj h h8) <;> omega)) (Or.inl ⟨h2, (by rw [show va_up N 1 (va_up (N 1) jj 1) 1 jj = 1 from if_pos rfl]; exact fa3), ((fr3 _ (by omega)).trans (hn2))⟩), ((fr3 _ (by omega)).trans (x0)), ((fr3 _ (by omega)).trans (x3)), ((fr3 _ (by omega)).trans (x4)), ((fr3 _ (by omega)).trans (x5)), ((fr3 _ (by omega)).trans (x6)), ((fr3 _ (by omega)).trans (x7)), ((fr3 _ (by omega)).trans (x8)), ((fr3 _ (by omega)).trans (x9)), ((fr3 _ (by omega)).trans (x10)), ((fr3 _ (by omega)).trans (x11)), ((fr3 _ (by omega)).trans (x12)), ((fr3 _ (by omega)).trans (x13))⟩, hXr, hLa⟩), (fun j9 hj1 hj2 => fr3 j9 (by omega)), rfl⟩, by rw [ht]; exact hP, by rw [ht]; exact hz⟩, hS.F ht⟩) hS.2.2 d_X_revoke_21
      · refine lv_aload_n hx hb d_X_revoke_0 rfl (lv_at hl 0 rfl) ?_
        refine mm_get (D := D) (C := n_X) (T := T_X) (N := 4) (v := .ref (b + 1)) hx hb hts lay_X hown hK.1 hP x0 rfl 0 (by decide) (hts _ (List.mem_cons_of_mem _ wd_132)) (fun _ h9 => h9) rfl d_X_revoke_1 ?_
        refine lv_iload_n hx hb d_X_revoke_4 rfl (lv_at hl 1 rfl) ?_
        refine va_csq (va_Run.run (va_runV (As := [.int (nI jj)]) (rest := []) ⟨hx, hb, hml, hown, hts⟩ (c_Reg_standing l (N := N) (S := S) (ad := ad) hRe hR) (cwV 1 hts (gW_in (hd := [_, _, _, _, _]) (kk_5 wd_296 wd_268 wd_269 wd_2 cw_Reg_standing)) rfl rfl rfl ⟨rfl, ds_Reg_standing⟩ ⟨Nat.le_of_ble_eq_true rfl, Nat.le_of_ble_eq_true rfl⟩) (kk_preV hK hP hz hBz hRe.1 rfl) rfl rfl hl.1 rfl (lv_room (Nat.le_of_ble_eq_true rfl)) d_X_revoke_5 ⟨Nat.le_of_ble_eq_true rfl, Nat.le_of_ble_eq_true rfl⟩)) (fun r4 hr4 => ?_)
        subst hr4
        refine kk_topv (y := .null) (by rw [re_st_no hj hn hgn]; rfl) ?_
        refine lv_astore_nN hx hb d_X_revoke_8 rfl hl (by decide) rfl (fun ls hl => ?_)
        have hl : lv_has ls 3 [(2, .null), (0, .ref b), (1, .int (nI jj))] := hl
        refine lv_aload_nN hx hb d_X_revoke_9 rfl (lv_at hl 0 rfl) ?_
        refine lv_ifnonnullN hx hb d_X_revoke_10 ?_
        refine lv_iconst (v := nI 0) hx hb d_X_revoke_13 (by decide) ?_
        exact W.zret hx hb hr rfl (fun t ht hW => ⟨⟨_, (w, sz), rfl, ⟨kk_iff (fun q => hgn ((re_th_in hj hn).mp q)), (by rw [show rv_N N _ = N from if_neg (fun q => hgn ((re_th_in hj hn).mp q))]; exact ⟨T, U, ad, ⟨hRe, x0, x3, x4, x5, x6, x7, x8, x9, x10, x11, x12, x13⟩, hXr, hLa⟩), (fun j9 hj1 hj2 => rfl), rfl⟩, by rw [ht]; exact hP, by rw [ht]; exact hz⟩, hS.F ht⟩) hS.2.2 d_X_revoke_14
    · have hwj : (if N 2 jj = 1 then 2 else 5) = 5 := if_neg (by omega)
      by_cases hgn : N 1 jj = 0
      · refine lv_aload_n hx hb d_X_revoke_0 rfl (lv_at hl 0 rfl) ?_
        refine mm_get (D := D) (C := n_X) (T := T_X) (N := 4) (v := .ref (b + 1)) hx hb hts lay_X hown hK.1 hP x0 rfl 0 (by decide) (hts _ (List.mem_cons_of_mem _ wd_132)) (fun _ h9 => h9) rfl d_X_revoke_1 ?_
        refine lv_iload_n hx hb d_X_revoke_4 rfl (lv_at hl 1 rfl) ?_
        refine va_csq (va_Run.run (va_runV (As := [.int (nI jj)]) (rest := []) ⟨hx, hb, hml, hown, hts⟩ (c_Reg_standing l (N := N) (S := S) (ad := ad) hRe hR) (cwV 1 hts (gW_in (hd := [_, _, _, _, _]) (kk_5 wd_296 wd_268 wd_269 wd_2 cw_Reg_standing)) rfl rfl rfl ⟨rfl, ds_Reg_standing⟩ ⟨Nat.le_of_ble_eq_true rfl, Nat.le_of_ble_eq_true rfl⟩) (kk_preV hK hP hz hBz hRe.1 rfl) rfl rfl hl.1 rfl (lv_room (Nat.le_of_ble_eq_true rfl)) d_X_revoke_5 ⟨Nat.le_of_ble_eq_true rfl, Nat.le_of_ble_eq_true rfl⟩)) (fun r5 hr5 => ?_)
        subst hr5
        refine kk_topv (y := .ref (ad jj)) (by rw [re_st_in hj hn hgn]; rfl) ?_
        refine lv_astore_n hx hb d_X_revoke_8 rfl hl (by decide) rfl (fun ls hl => ?_)
        have hl : lv_has ls 3 [(2, .ref (ad jj)), (0, .ref b), (1, .int (nI jj))] := hl
        refine lv_aload_n hx hb d_X_revoke_9 rfl (lv_at hl 0 rfl) ?_
        refine lv_ifnonnull (tgt := 15) hx hb d_X_revoke_10 (by decide) ?_
        refine lv_aload_n hx hb d_X_revoke_15 rfl (lv_at hl 0 rfl) ?_
        refine lv_iconst (v := nI 1) hx hb d_X_revoke_16 (by decide) ?_
        refine mm_put (D := D) (C := n_Prm) (T := T_Prm) (N := 8) (v := .int (nI 1)) (ty := .boolean) hx hb hts lay_Prm t_Prm ty_Prm nm_Prm hown hK.1 hP hS hp1 rfl 2 (by decide) (hts _ (List.mem_cons_of_mem _ wd_199)) (fun _ h9 => h9) rfl (by decide +kernel) rfl rfl (Nat.le_of_ble_eq_true rfl) d_X_revoke_17 (fun H locs hP hz1 hS => ?_)
        have hz : H.size = sz := hz1.trans hz
        obtain ⟨w6, hw6⟩ : ∃ z : mm_M, z = mm_up w (ad jj) (.inr (8, [.int (nI (N 3 jj)), .ref (ad jj + 1), .int (nI 1), .ref (ad jj + 2), .ref (ad jj + 3), .int (nI (N 13 jj)), .int (nI (N 8 jj)), .int (nI (N 9 jj))])) := ⟨_, rfl⟩
        have hP : mm_P B D kc w6 H := by rw [hw6]; exact hP
        have fr6 : ∀ j, j ≠ ad jj → w6 j = w j := fun j h9 => by rw [hw6]; exact mm_un h9
        have fa6 : w6 (ad jj) = some (.inr (8, [.int (nI (N 3 jj)), .ref (ad jj + 1), .int (nI 1), .ref (ad jj + 2), .ref (ad jj + 3), .int (nI (N 13 jj)), .int (nI (N 8 jj)), .int (nI (N 9 jj))])) := by rw [hw6]; exact mm_us _ _ _
        refine lv_iconst (v := nI 1) hx hb d_X_revoke_20 (by decide) ?_
        exact W.zret hx hb hr rfl (fun t ht hW => ⟨⟨_, (w6, sz), rfl, ⟨kk_ift ((re_th_in hj hn).mpr hgn), (by rw [rv_N_pos (by omega) ((re_th_in hj hn).mpr hgn)]; exact ⟨T, U, ad, ⟨hRe.set (j := jj) rfl (fun c _ e => ⟨if_neg e, rfl, rfl, rfl, rfl, rfl, rfl, rfl, fun _ _ => rfl, rfl, rfl, rfl, rfl⟩) (fun x9 hx9 => fr6 x9 (by rcases hx9 with h | h | ⟨c9, h, h8, h7, h6⟩ <;> (try have q2 := la_apart hLa hj h h8) <;> omega)) (Or.inr ⟨h2, (by rw [show va_up N 1 (va_up (N 1) jj 1) 1 jj = 1 from if_pos rfl]; exact fa6), ((fr6 _ (by omega)).trans (hp2)), ((fr6 _ (by omega)).trans (hp3)), ((fr6 _ (by omega)).trans (hp4)), ((fr6 _ (by omega)).trans (hp5))⟩), ((fr6 _ (by omega)).trans (x0)), ((fr6 _ (by omega)).trans (x3)), ((fr6 _ (by omega)).trans (x4)), ((fr6 _ (by omega)).trans (x5)), ((fr6 _ (by omega)).trans (x6)), ((fr6 _ (by omega)).trans (x7)), ((fr6 _ (by omega)).trans (x8)), ((fr6 _ (by omega)).trans (x9)), ((fr6 _ (by omega)).trans (x10)), ((fr6 _ (by omega)).trans (x11)), ((fr6 _ (by omega)).trans (x12)), ((fr6 _ (by omega)).trans (x13))⟩, hXr, hLa⟩), (fun j9 hj1 hj2 => fr6 j9 (by omega)), rfl⟩, by rw [ht]; exact hP, by rw [ht]; exact hz⟩, hS.F ht⟩) hS.2.2 d_X_revoke_21
      · refine lv_aload_n hx hb d_X_revoke_0 rfl (lv_at hl 0 rfl) ?_
        refine mm_get (D := D) (C := n_X) (T := T_X) (N := 4) (v := .ref (b + 1)) hx hb hts lay_X hown hK.1 hP x0 rfl 0 (by decide) (hts _ (List.mem_cons_of_mem _ wd_132)) (fun _ h9 => h9) rfl d_X_revoke_1 ?_
        refine lv_iload_n hx hb d_X_revoke_4 rfl (lv_at hl 1 rfl) ?_
        refine va_csq (va_Run.run (va_runV (As := [.int (nI jj)]) (rest := []) ⟨hx, hb, hml, hown, hts⟩ (c_Reg_standing l (N := N) (S := S) (ad := ad) hRe hR) (cwV 1 hts (gW_in (hd := [_, _, _, _, _]) (kk_5 wd_296 wd_268 wd_269 wd_2 cw_Reg_standing)) rfl rfl rfl ⟨rfl, ds_Reg_standing⟩ ⟨Nat.le_of_ble_eq_true rfl, Nat.le_of_ble_eq_true rfl⟩) (kk_preV hK hP hz hBz hRe.1 rfl) rfl rfl hl.1 rfl (lv_room (Nat.le_of_ble_eq_true rfl)) d_X_revoke_5 ⟨Nat.le_of_ble_eq_true rfl, Nat.le_of_ble_eq_true rfl⟩)) (fun r7 hr7 => ?_)
        subst hr7
        refine kk_topv (y := .null) (by rw [re_st_no hj hn hgn]; rfl) ?_
        refine lv_astore_nN hx hb d_X_revoke_8 rfl hl (by decide) rfl (fun ls hl => ?_)
        have hl : lv_has ls 3 [(2, .null), (0, .ref b), (1, .int (nI jj))] := hl
        refine lv_aload_nN hx hb d_X_revoke_9 rfl (lv_at hl 0 rfl) ?_
        refine lv_ifnonnullN hx hb d_X_revoke_10 ?_
        refine lv_iconst (v := nI 0) hx hb d_X_revoke_13 (by decide) ?_
        exact W.zret hx hb hr rfl (fun t ht hW => ⟨⟨_, (w, sz), rfl, ⟨kk_iff (fun q => hgn ((re_th_in hj hn).mp q)), (by rw [show rv_N N _ = N from if_neg (fun q => hgn ((re_th_in hj hn).mp q))]; exact ⟨T, U, ad, ⟨hRe, x0, x3, x4, x5, x6, x7, x8, x9, x10, x11, x12, x13⟩, hXr, hLa⟩), (fun j9 hj1 hj2 => rfl), rfl⟩, by rw [ht]; exact hP, by rw [ht]; exact hz⟩, hS.F ht⟩) hS.2.2 d_X_revoke_14
theorem d_X_also_0 : decode k_X_also 0 = .ok (.aload_n 0, 1) := by decide +kernel
theorem d_X_also_1 : decode k_X_also 1 = .ok (.getfield 12, 3) := by decide +kernel
theorem d_X_also_4 : decode k_X_also 4 = .ok (.iload_n 1, 1) := by decide +kernel
theorem d_X_also_5 : decode k_X_also 5 = .ok (.invokevirtual 62, 3) := by decide +kernel
theorem d_X_also_8 : decode k_X_also 8 = .ok (.astore_n 3, 1) := by decide +kernel
theorem d_X_also_9 : decode k_X_also 9 = .ok (.aload_n 3, 1) := by decide +kernel
theorem d_X_also_10 : decode k_X_also 10 = .ok (.ifnull 18, 3) := by decide +kernel
theorem d_X_also_13 : decode k_X_also 13 = .ok (.iload_n 2, 1) := by decide +kernel
theorem d_X_also_14 : decode k_X_also 14 = .ok (.invokestatic 41, 3) := by decide +kernel
theorem d_X_also_17 : decode k_X_also 17 = .ok (.ifCond .eq 11, 3) := by decide +kernel
theorem d_X_also_20 : decode k_X_also 20 = .ok (.aload_n 3, 1) := by decide +kernel
theorem d_X_also_21 : decode k_X_also 21 = .ok (.getfield 76, 3) := by decide +kernel
theorem d_X_also_24 : decode k_X_also 24 = .ok (.iconst 3, 1) := by decide +kernel
theorem d_X_also_25 : decode k_X_also 25 = .ok (.if_icmp .lt 5, 3) := by decide +kernel
theorem d_X_also_28 : decode k_X_also 28 = .ok (.iconst (-1), 1) := by decide +kernel
theorem d_X_also_29 : decode k_X_also 29 = .ok (.ireturn, 1) := by decide +kernel
theorem d_X_also_30 : decode k_X_also 30 = .ok (.aload_n 3, 1) := by decide +kernel
theorem d_X_also_31 : decode k_X_also 31 = .ok (.iload_n 2, 1) := by decide +kernel
theorem d_X_also_32 : decode k_X_also 32 = .ok (.invokevirtual 80, 3) := by decide +kernel
theorem d_X_also_35 : decode k_X_also 35 = .ok (.aload_n 3, 1) := by decide +kernel
theorem d_X_also_36 : decode k_X_also 36 = .ok (.getfield 76, 3) := by decide +kernel
theorem d_X_also_39 : decode k_X_also 39 = .ok (.ireturn, 1) := by decide +kernel
set_option maxHeartbeats 4000000 in
set_option maxRecDepth 100000 in
theorem c_X_also (l : Launch) {B : Nat} {D : va_G} {cI cZ cQ : ClassId} {w : mm_M} {sz : Nat} {b : Nat} {N : Nat → Nat → Nat} {S : Nat → Nat → Int32} {nr sr : Int32} (hXI : xs_I b cI cZ cQ sz N S w) (hR : rg_I N) (hC : ch_I N)  : Met l y_X_also ws_X_also (kk_rm 2 0 0) (kk_Pc B D cI cZ cQ [.ref b, .int nr, .int sr] w sz) (kk_Qi B D (fun r w' sz' => r = (if al_ok N nr sr then nI (N 8 nr.toNatClampNeg + 1) else -1) ∧ xs_I b cI cZ cQ sz' (al_N N nr sr) S w' ∧ (∀ j, b + 14 ≤ j → j < b + 31 → w' j = w j) ∧ sz' = sz)) 0 0 (fun q => B ≤ q) := by
  refine Met.ofW (cc := k_X_also) (maxL := 4) (ret := (some .int)) (by decide) rfl ?_
  intro p e s m args below meth c s₁ BB hml hv
  obtain ⟨rfl, hK, hP, hz, hBz⟩ := hv
  have hx := BB.exec
  have hb := BB.bytes
  have hr := BB.returns
  have hts := atoms_spec (ws := ws_X_also) BB.pre
  have hown : s.vm.findClass "DelegationClosure" = some m.cls := findClass_of_methodNamed BB.named
  have hlocks := BB.notSynchronized
  have hS : mm_S B s.heap s.heap [] := va_S.rf
  have hl := lv_entry ([.ref b, .int nr, .int sr]) (n := 4) (Nat.le_of_ble_eq_true rfl)
  rw [lg_entry_eq]
  generalize (lg_sl ([.ref b, .int nr, .int sr]) ++ List.replicate (4 - (lg_sl ([.ref b, .int nr, .int sr])).length) Slot.unset).toArray = ls at hl ⊢
  have hl : lv_has ls 4 [(0, .ref b), (1, .int nr), (2, .int sr)] := hl
  obtain ⟨T, U, ad, ⟨hRe, x0, x3, x4, x5, x6, x7, x8, x9, x10, x11, x12, x13⟩, hXr, hLa⟩ := hXI
  have hn := hRe.2.2.1
  have hC1 := hC.1
  have hC2 := hC.2.1
  have hC3 := hC.2.2.1
  have hC4 := hC.2.2.2.1
  have hC5 := hC.2.2.2.2.1
  have hC6 := hC.2.2.2.2.2.1
  rcases re_split hn nr with hc | ⟨jj, hj, rfl⟩
  · refine lv_aload_n hx hb d_X_also_0 rfl (lv_at hl 0 rfl) ?_
    refine mm_get (D := D) (C := n_X) (T := T_X) (N := 4) (v := .ref (b + 1)) hx hb hts lay_X hown hK.1 hP x0 rfl 0 (by decide) (hts _ (List.mem_cons_of_mem _ wd_132)) (fun _ h9 => h9) rfl d_X_also_1 ?_
    refine lv_iload_n hx hb d_X_also_4 rfl (lv_at hl 1 rfl) ?_
    refine va_csq (va_Run.run (va_runV (As := [.int nr]) (rest := []) ⟨hx, hb, hml, hown, hts⟩ (c_Reg_permission l (N := N) (S := S) (ad := ad) hRe hR) (cwV 1 hts (gW_in (hd := [_, _, _, _, _]) (kk_5 wd_263 wd_264 wd_265 wd_2 cw_Reg_permission)) rfl rfl rfl ⟨rfl, ds_Reg_permission⟩ ⟨Nat.le_of_ble_eq_true rfl, Nat.le_of_ble_eq_true rfl⟩) (kk_preV hK hP hz hBz hRe.1 rfl) rfl rfl hl.1 rfl (lv_room (Nat.le_of_ble_eq_true rfl)) d_X_also_5 ⟨Nat.le_of_ble_eq_true rfl, Nat.le_of_ble_eq_true rfl⟩)) (fun r1 hr1 => ?_)
    subst hr1
    refine kk_topv (y := .null) (by rw [re_pm_out hc]; rfl) ?_
    refine lv_astore_nN hx hb d_X_also_8 rfl hl (by decide) rfl (fun ls hl => ?_)
    have hl : lv_has ls 4 [(3, .null), (0, .ref b), (1, .int nr), (2, .int sr)] := hl
    refine lv_aload_nN hx hb d_X_also_9 rfl (lv_at hl 0 rfl) ?_
    refine lv_ifnullN (tgt := 28) hx hb d_X_also_10 (by decide) ?_
    refine lv_iconst (v := (-1)) hx hb d_X_also_28 (by decide) ?_
    exact W.iret hx hb hr (fun t ht hW => ⟨⟨_, (w, sz), rfl, ⟨(if_neg (fun q => (re_tp_out hc) q.1)).symm, (by rw [show al_N N _ _ = N from if_neg (fun q => (re_tp_out hc) q.1)]; exact ⟨T, U, ad, ⟨hRe, x0, x3, x4, x5, x6, x7, x8, x9, x10, x11, x12, x13⟩, hXr, hLa⟩), (fun j9 hj1 hj2 => rfl), rfl⟩, by rw [ht]; exact hP, by rw [ht]; exact hz⟩, hS.F ht⟩) hS.2.2 d_X_also_29
  · have hRj := hR jj hj
    have hLj := (hLa jj hj).1
    rcases hRe.2.2.2 jj hj with ⟨h2, hn1, hn2⟩ | ⟨h2, hp1, hp2, hp3, hp4, hp5⟩
    · have hwj : (if N 2 jj = 1 then 2 else 5) = 2 := if_pos h2
      by_cases hgn : N 1 jj = 0
      · refine lv_aload_n hx hb d_X_also_0 rfl (lv_at hl 0 rfl) ?_
        refine mm_get (D := D) (C := n_X) (T := T_X) (N := 4) (v := .ref (b + 1)) hx hb hts lay_X hown hK.1 hP x0 rfl 0 (by decide) (hts _ (List.mem_cons_of_mem _ wd_132)) (fun _ h9 => h9) rfl d_X_also_1 ?_
        refine lv_iload_n hx hb d_X_also_4 rfl (lv_at hl 1 rfl) ?_
        refine va_csq (va_Run.run (va_runV (As := [.int (nI jj)]) (rest := []) ⟨hx, hb, hml, hown, hts⟩ (c_Reg_permission l (N := N) (S := S) (ad := ad) hRe hR) (cwV 1 hts (gW_in (hd := [_, _, _, _, _]) (kk_5 wd_263 wd_264 wd_265 wd_2 cw_Reg_permission)) rfl rfl rfl ⟨rfl, ds_Reg_permission⟩ ⟨Nat.le_of_ble_eq_true rfl, Nat.le_of_ble_eq_true rfl⟩) (kk_preV hK hP hz hBz hRe.1 rfl) rfl rfl hl.1 rfl (lv_room (Nat.le_of_ble_eq_true rfl)) d_X_also_5 ⟨Nat.le_of_ble_eq_true rfl, Nat.le_of_ble_eq_true rfl⟩)) (fun r2 hr2 => ?_)
        subst hr2
        refine kk_topv (y := .null) (by rw [re_pm_no hj hn (fun q => by have := q.2; omega)]; rfl) ?_
        refine lv_astore_nN hx hb d_X_also_8 rfl hl (by decide) rfl (fun ls hl => ?_)
        have hl : lv_has ls 4 [(3, .null), (0, .ref b), (1, .int (nI jj)), (2, .int sr)] := hl
        refine lv_aload_nN hx hb d_X_also_9 rfl (lv_at hl 0 rfl) ?_
        refine lv_ifnullN (tgt := 28) hx hb d_X_also_10 (by decide) ?_
        refine lv_iconst (v := (-1)) hx hb d_X_also_28 (by decide) ?_
        exact W.iret hx hb hr (fun t ht hW => ⟨⟨_, (w, sz), rfl, ⟨(if_neg (fun q => (fun q => by have := ((re_tp_in hj hn).mp q).2; omega) q.1)).symm, (by rw [show al_N N _ _ = N from if_neg (fun q => (fun q => by have := ((re_tp_in hj hn).mp q).2; omega) q.1)]; exact ⟨T, U, ad, ⟨hRe, x0, x3, x4, x5, x6, x7, x8, x9, x10, x11, x12, x13⟩, hXr, hLa⟩), (fun j9 hj1 hj2 => rfl), rfl⟩, by rw [ht]; exact hP, by rw [ht]; exact hz⟩, hS.F ht⟩) hS.2.2 d_X_also_29
      · refine lv_aload_n hx hb d_X_also_0 rfl (lv_at hl 0 rfl) ?_
        refine mm_get (D := D) (C := n_X) (T := T_X) (N := 4) (v := .ref (b + 1)) hx hb hts lay_X hown hK.1 hP x0 rfl 0 (by decide) (hts _ (List.mem_cons_of_mem _ wd_132)) (fun _ h9 => h9) rfl d_X_also_1 ?_
        refine lv_iload_n hx hb d_X_also_4 rfl (lv_at hl 1 rfl) ?_
        refine va_csq (va_Run.run (va_runV (As := [.int (nI jj)]) (rest := []) ⟨hx, hb, hml, hown, hts⟩ (c_Reg_permission l (N := N) (S := S) (ad := ad) hRe hR) (cwV 1 hts (gW_in (hd := [_, _, _, _, _]) (kk_5 wd_263 wd_264 wd_265 wd_2 cw_Reg_permission)) rfl rfl rfl ⟨rfl, ds_Reg_permission⟩ ⟨Nat.le_of_ble_eq_true rfl, Nat.le_of_ble_eq_true rfl⟩) (kk_preV hK hP hz hBz hRe.1 rfl) rfl rfl hl.1 rfl (lv_room (Nat.le_of_ble_eq_true rfl)) d_X_also_5 ⟨Nat.le_of_ble_eq_true rfl, Nat.le_of_ble_eq_true rfl⟩)) (fun r3 hr3 => ?_)
        subst hr3
        refine kk_topv (y := .null) (by rw [re_pm_no hj hn (fun q => by have := q.2; omega)]; rfl) ?_
        refine lv_astore_nN hx hb d_X_also_8 rfl hl (by decide) rfl (fun ls hl => ?_)
        have hl : lv_has ls 4 [(3, .null), (0, .ref b), (1, .int (nI jj)), (2, .int sr)] := hl
        refine lv_aload_nN hx hb d_X_also_9 rfl (lv_at hl 0 rfl) ?_
        refine lv_ifnullN (tgt := 28) hx hb d_X_also_10 (by decide) ?_
        refine lv_iconst (v := (-1)) hx hb d_X_also_28 (by decide) ?_
        exact W.iret hx hb hr (fun t ht hW => ⟨⟨_, (w, sz), rfl, ⟨(if_neg (fun q => (fun q => by have := ((re_tp_in hj hn).mp q).2; omega) q.1)).symm, (by rw [show al_N N _ _ = N from if_neg (fun q => (fun q => by have := ((re_tp_in hj hn).mp q).2; omega) q.1)]; exact ⟨T, U, ad, ⟨hRe, x0, x3, x4, x5, x6, x7, x8, x9, x10, x11, x12, x13⟩, hXr, hLa⟩), (fun j9 hj1 hj2 => rfl), rfl⟩, by rw [ht]; exact hP, by rw [ht]; exact hz⟩, hS.F ht⟩) hS.2.2 d_X_also_29
    · have hwj : (if N 2 jj = 1 then 2 else 5) = 5 := if_neg (by omega)
      by_cases hgn : N 1 jj = 0
      · have htp : re_tp N (nI jj) := (re_tp_in hj hn).mpr ⟨hgn, h2⟩
        by_cases hok : al_ok N (nI jj) sr
        · obtain ⟨s9, rfl, hs9⟩ := wf_sub_of hok.2.1
          have hk3 : N 8 jj < 3 := by have h9 := hok.2.2; rw [nI_clamp (by omega)] at h9; exact h9
          refine lv_aload_n hx hb d_X_also_0 rfl (lv_at hl 0 rfl) ?_
          refine mm_get (D := D) (C := n_X) (T := T_X) (N := 4) (v := .ref (b + 1)) hx hb hts lay_X hown hK.1 hP x0 rfl 0 (by decide) (hts _ (List.mem_cons_of_mem _ wd_132)) (fun _ h9 => h9) rfl d_X_also_1 ?_
          refine lv_iload_n hx hb d_X_also_4 rfl (lv_at hl 1 rfl) ?_
          refine va_csq (va_Run.run (va_runV (As := [.int (nI jj)]) (rest := []) ⟨hx, hb, hml, hown, hts⟩ (c_Reg_permission l (N := N) (S := S) (ad := ad) hRe hR) (cwV 1 hts (gW_in (hd := [_, _, _, _, _]) (kk_5 wd_263 wd_264 wd_265 wd_2 cw_Reg_permission)) rfl rfl rfl ⟨rfl, ds_Reg_permission⟩ ⟨Nat.le_of_ble_eq_true rfl, Nat.le_of_ble_eq_true rfl⟩) (kk_preV hK hP hz hBz hRe.1 rfl) rfl rfl hl.1 rfl (lv_room (Nat.le_of_ble_eq_true rfl)) d_X_also_5 ⟨Nat.le_of_ble_eq_true rfl, Nat.le_of_ble_eq_true rfl⟩)) (fun r4 hr4 => ?_)
          subst hr4
          refine kk_topv (y := .ref (ad jj)) (by rw [re_pm_in hj hn hgn h2]; rfl) ?_
          refine lv_astore_n hx hb d_X_also_8 rfl hl (by decide) rfl (fun ls hl => ?_)
          have hl : lv_has ls 4 [(3, .ref (ad jj)), (0, .ref b), (1, .int (nI jj)), (2, .int (nI s9))] := hl
          refine lv_aload_n hx hb d_X_also_9 rfl (lv_at hl 0 rfl) ?_
          refine lv_ifnull hx hb d_X_also_10 ?_
          refine lv_iload_n hx hb d_X_also_13 rfl (lv_at hl 3 rfl) ?_
          refine vp_callSi (va_Run.run (va_runS (As := [.int (nI s9)]) (rest := []) ⟨hx, hb, hml, hown, hts⟩ (c_X_isSubject l ) (va_cwS 1 hts (gW_in (hd := [_, _, _, _]) (kk_4 wd_152 wd_153 wd_1 cw_X_isSubject)) rfl rfl rfl ds_X_isSubject ⟨Nat.le_of_ble_eq_true rfl, Nat.le_of_ble_eq_true rfl⟩) (kk_preS hK hP hz hBz) rfl rfl hl.1 rfl (lv_room (Nat.le_of_ble_eq_true rfl)) d_X_also_14 ⟨Nat.le_of_ble_eq_true rfl, Nat.le_of_ble_eq_true rfl⟩)) (fun r5 hr5 => ?_)
          subst hr5
          refine lv_if_eq (tgt := 28) hx hb d_X_also_17 (by decide) (fun cc6 => ?_) (fun cc6 => ?_)
          · have cc6 := kk_b0 cc6
            exact absurd hok.2.1 cc6
          · have cc6 := kk_b1 cc6
            refine lv_aload_n hx hb d_X_also_20 rfl (lv_at hl 0 rfl) ?_
            refine mm_get (D := D) (C := n_Prm) (T := T_Prm) (N := 8) (v := .int (nI (N 8 jj))) hx hb hts lay_Prm hown hK.1 hP hp1 rfl 6 (by decide) (hts _ (List.mem_cons_of_mem _ wd_240)) (fun _ h9 => h9) rfl d_X_also_21 ?_
            refine lv_iconst (v := nI 3) hx hb d_X_also_24 (by decide) ?_
            refine lv_icmp_lt (tgt := 30) hx hb d_X_also_25 (by decide) (fun cc7 => ?_) (fun cc7 => ?_)
            · have cc7 : N 8 jj < 3 := (nI_ltI (by omega) (by omega)).mp cc7
              refine lv_aload_n hx hb d_X_also_30 rfl (lv_at hl 0 rfl) ?_
              refine lv_iload_n hx hb d_X_also_31 rfl (lv_at hl 3 rfl) ?_
              refine kk_callv (va_runV (As := [.int (nI s9)]) (rest := []) ⟨hx, hb, hml, hown, hts⟩ (c_Prm_addSubject l hp1 hp3 (by omega) (by omega)) (cwV 1 hts (gW_in (hd := [_, _, _, _, _]) (kk_5 wd_284 wd_285 wd_286 wd_11 cw_Prm_addSubject)) rfl rfl rfl ⟨rfl, ds_Prm_addSubject⟩ ⟨Nat.le_of_ble_eq_true rfl, Nat.le_of_ble_eq_true rfl⟩) (kk_preV hK hP hz hBz hp1 rfl) rfl rfl hl.1 rfl (lv_room (Nat.le_of_ble_eq_true rfl)) d_X_also_32 ⟨Nat.le_of_ble_eq_true rfl, Nat.le_of_ble_eq_true rfl⟩) hS (fun w8 sz8 H locs hp8 hP hz hS => ?_)
              obtain ⟨he8, hs8⟩ := hp8
              have hz : H.size = sz := hz.trans hs8
              have hw9 : w8 = mm_up (mm_up w (ad jj) (.inr (8, [.int (nI (N 3 jj)), .ref (ad jj + 1), .int (nI (N 1 jj)), .ref (ad jj + 2), .ref (ad jj + 3), .int (nI (N 13 jj)), .int (nI (N 8 jj + 1)), .int (nI (N 9 jj))]))) (ad jj + 2) (.inl (cI, 3, .inl (fun i => nI ((va_up (ce_sub N jj) (N 8 jj) s9) i)))) := he8
              have fr9 : ∀ j, j ≠ ad jj → j ≠ ad jj + 2 → w8 j = w j := fun j h90 h91 => by rw [hw9]; exact (mm_un h91).trans (mm_un h90)
              have fa9_0 : w8 (ad jj) = some (.inr (8, [.int (nI (N 3 jj)), .ref (ad jj + 1), .int (nI (N 1 jj)), .ref (ad jj + 2), .ref (ad jj + 3), .int (nI (N 13 jj)), .int (nI (N 8 jj + 1)), .int (nI (N 9 jj))])) := by rw [hw9]; exact (mm_un (by omega)).trans (mm_us _ _ _)
              have fa9_1 : w8 (ad jj + 2) = some (.inl (cI, 3, .inl (fun i => nI ((va_up (ce_sub N jj) (N 8 jj) s9) i)))) := by rw [hw9]; exact mm_us _ _ _
              refine lv_aload_n hx hb d_X_also_35 rfl (lv_at hl 0 rfl) ?_
              refine mm_get (D := D) (C := n_Prm) (T := T_Prm) (N := 8) (v := .int (nI (N 8 jj + 1))) hx hb hts lay_Prm hown hK.1 hP fa9_0 rfl 6 (by decide) (hts _ (List.mem_cons_of_mem _ wd_240)) (fun _ h9 => h9) rfl d_X_also_36 ?_
              exact W.iret hx hb hr (fun t ht hW => ⟨⟨_, (w8, sz), rfl, ⟨(by rw [if_pos hok, nI_clamp (by omega)]), (by rw [al_N_pos (by omega) (by omega) hok]; exact ⟨T, U, ad, ⟨hRe.set (j := jj) rfl (fun c _ e => ⟨rfl, rfl, rfl, rfl, if_neg e, rfl, rfl, rfl, fun i hi => if_neg (by omega), rfl, rfl, rfl, rfl⟩) (fun x9 hx9 => fr9 x9 (by rcases hx9 with h | h | ⟨c9, h, h8, h7, h6⟩ <;> (try have q2 := la_apart hLa hj h h8) <;> omega) (by rcases hx9 with h | h | ⟨c9, h, h8, h7, h6⟩ <;> (try have q2 := la_apart hLa hj h h8) <;> omega)) (Or.inr ⟨h2, (by rw [show va_up (va_up N 7 (va_up (N 7) (3 * jj + N 8 jj) s9)) 8 (va_up (N 8) jj (N 8 jj + 1)) 8 jj = N 8 jj + 1 from if_pos rfl]; exact fa9_0), ((fr9 _ (by omega) (by omega)).trans (hp2)), (by rw [ce_sub_up hk3]; exact fa9_1), ((fr9 _ (by omega) (by omega)).trans (hp4)), ((fr9 _ (by omega) (by omega)).trans (hp5))⟩), ((fr9 _ (by omega) (by omega)).trans (x0)), ((fr9 _ (by omega) (by omega)).trans (x3)), ((fr9 _ (by omega) (by omega)).trans (x4)), ((fr9 _ (by omega) (by omega)).trans (x5)), ((fr9 _ (by omega) (by omega)).trans (x6)), ((fr9 _ (by omega) (by omega)).trans (x7)), ((fr9 _ (by omega) (by omega)).trans (x8)), ((fr9 _ (by omega) (by omega)).trans (x9)), ((fr9 _ (by omega) (by omega)).trans (x10)), ((fr9 _ (by omega) (by omega)).trans (x11)), ((fr9 _ (by omega) (by omega)).trans (x12)), ((fr9 _ (by omega) (by omega)).trans (x13))⟩, hXr, hLa⟩), (fun j9 hj1 hj2 => fr9 j9 (by omega) (by omega)), rfl⟩, by rw [ht]; exact hP, by rw [ht]; exact hz⟩, hS.F ht⟩) hS.2.2 d_X_also_39
            · have cc7 : ¬ (N 8 jj < 3) := fun q => cc7 ((nI_ltI (by omega) (by omega)).mpr q)
              exact absurd cc7 (by omega)
        · refine lv_aload_n hx hb d_X_also_0 rfl (lv_at hl 0 rfl) ?_
          refine mm_get (D := D) (C := n_X) (T := T_X) (N := 4) (v := .ref (b + 1)) hx hb hts lay_X hown hK.1 hP x0 rfl 0 (by decide) (hts _ (List.mem_cons_of_mem _ wd_132)) (fun _ h9 => h9) rfl d_X_also_1 ?_
          refine lv_iload_n hx hb d_X_also_4 rfl (lv_at hl 1 rfl) ?_
          refine va_csq (va_Run.run (va_runV (As := [.int (nI jj)]) (rest := []) ⟨hx, hb, hml, hown, hts⟩ (c_Reg_permission l (N := N) (S := S) (ad := ad) hRe hR) (cwV 1 hts (gW_in (hd := [_, _, _, _, _]) (kk_5 wd_263 wd_264 wd_265 wd_2 cw_Reg_permission)) rfl rfl rfl ⟨rfl, ds_Reg_permission⟩ ⟨Nat.le_of_ble_eq_true rfl, Nat.le_of_ble_eq_true rfl⟩) (kk_preV hK hP hz hBz hRe.1 rfl) rfl rfl hl.1 rfl (lv_room (Nat.le_of_ble_eq_true rfl)) d_X_also_5 ⟨Nat.le_of_ble_eq_true rfl, Nat.le_of_ble_eq_true rfl⟩)) (fun r10 hr10 => ?_)
          subst hr10
          refine kk_topv (y := .ref (ad jj)) (by rw [re_pm_in hj hn hgn h2]; rfl) ?_
          refine lv_astore_n hx hb d_X_also_8 rfl hl (by decide) rfl (fun ls hl => ?_)
          have hl : lv_has ls 4 [(3, .ref (ad jj)), (0, .ref b), (1, .int (nI jj)), (2, .int sr)] := hl
          refine lv_aload_n hx hb d_X_also_9 rfl (lv_at hl 0 rfl) ?_
          refine lv_ifnull hx hb d_X_also_10 ?_
          refine lv_iload_n hx hb d_X_also_13 rfl (lv_at hl 3 rfl) ?_
          refine vp_callSi (va_Run.run (va_runS (As := [.int sr]) (rest := []) ⟨hx, hb, hml, hown, hts⟩ (c_X_isSubject l ) (va_cwS 1 hts (gW_in (hd := [_, _, _, _]) (kk_4 wd_152 wd_153 wd_1 cw_X_isSubject)) rfl rfl rfl ds_X_isSubject ⟨Nat.le_of_ble_eq_true rfl, Nat.le_of_ble_eq_true rfl⟩) (kk_preS hK hP hz hBz) rfl rfl hl.1 rfl (lv_room (Nat.le_of_ble_eq_true rfl)) d_X_also_14 ⟨Nat.le_of_ble_eq_true rfl, Nat.le_of_ble_eq_true rfl⟩)) (fun r11 hr11 => ?_)
          subst hr11
          refine lv_if_eq (tgt := 28) hx hb d_X_also_17 (by decide) (fun cc12 => ?_) (fun cc12 => ?_)
          · have cc12 := kk_b0 cc12
            refine lv_iconst (v := (-1)) hx hb d_X_also_28 (by decide) ?_
            exact W.iret hx hb hr (fun t ht hW => ⟨⟨_, (w, sz), rfl, ⟨(if_neg hok).symm, (by rw [show al_N N _ _ = N from if_neg hok]; exact ⟨T, U, ad, ⟨hRe, x0, x3, x4, x5, x6, x7, x8, x9, x10, x11, x12, x13⟩, hXr, hLa⟩), (fun j9 hj1 hj2 => rfl), rfl⟩, by rw [ht]; exact hP, by rw [ht]; exact hz⟩, hS.F ht⟩) hS.2.2 d_X_also_29
          · have cc12 := kk_b1 cc12
            refine lv_aload_n hx hb d_X_also_20 rfl (lv_at hl 0 rfl) ?_
            refine mm_get (D := D) (C := n_Prm) (T := T_Prm) (N := 8) (v := .int (nI (N 8 jj))) hx hb hts lay_Prm hown hK.1 hP hp1 rfl 6 (by decide) (hts _ (List.mem_cons_of_mem _ wd_240)) (fun _ h9 => h9) rfl d_X_also_21 ?_
            refine lv_iconst (v := nI 3) hx hb d_X_also_24 (by decide) ?_
            refine lv_icmp_lt (tgt := 30) hx hb d_X_also_25 (by decide) (fun cc13 => ?_) (fun cc13 => ?_)
            · have cc13 : N 8 jj < 3 := (nI_ltI (by omega) (by omega)).mp cc13
              exact absurd ⟨htp, cc12, by rw [nI_clamp (by omega)]; exact cc13⟩ hok
            · have cc13 : ¬ (N 8 jj < 3) := fun q => cc13 ((nI_ltI (by omega) (by omega)).mpr q)
              refine lv_iconst (v := (-1)) hx hb d_X_also_28 (by decide) ?_
              exact W.iret hx hb hr (fun t ht hW => ⟨⟨_, (w, sz), rfl, ⟨(if_neg hok).symm, (by rw [show al_N N _ _ = N from if_neg hok]; exact ⟨T, U, ad, ⟨hRe, x0, x3, x4, x5, x6, x7, x8, x9, x10, x11, x12, x13⟩, hXr, hLa⟩), (fun j9 hj1 hj2 => rfl), rfl⟩, by rw [ht]; exact hP, by rw [ht]; exact hz⟩, hS.F ht⟩) hS.2.2 d_X_also_29
      · refine lv_aload_n hx hb d_X_also_0 rfl (lv_at hl 0 rfl) ?_
        refine mm_get (D := D) (C := n_X) (T := T_X) (N := 4) (v := .ref (b + 1)) hx hb hts lay_X hown hK.1 hP x0 rfl 0 (by decide) (hts _ (List.mem_cons_of_mem _ wd_132)) (fun _ h9 => h9) rfl d_X_also_1 ?_
        refine lv_iload_n hx hb d_X_also_4 rfl (lv_at hl 1 rfl) ?_
        refine va_csq (va_Run.run (va_runV (As := [.int (nI jj)]) (rest := []) ⟨hx, hb, hml, hown, hts⟩ (c_Reg_permission l (N := N) (S := S) (ad := ad) hRe hR) (cwV 1 hts (gW_in (hd := [_, _, _, _, _]) (kk_5 wd_263 wd_264 wd_265 wd_2 cw_Reg_permission)) rfl rfl rfl ⟨rfl, ds_Reg_permission⟩ ⟨Nat.le_of_ble_eq_true rfl, Nat.le_of_ble_eq_true rfl⟩) (kk_preV hK hP hz hBz hRe.1 rfl) rfl rfl hl.1 rfl (lv_room (Nat.le_of_ble_eq_true rfl)) d_X_also_5 ⟨Nat.le_of_ble_eq_true rfl, Nat.le_of_ble_eq_true rfl⟩)) (fun r14 hr14 => ?_)
        subst hr14
        refine kk_topv (y := .null) (by rw [re_pm_no hj hn (fun q => hgn q.1)]; rfl) ?_
        refine lv_astore_nN hx hb d_X_also_8 rfl hl (by decide) rfl (fun ls hl => ?_)
        have hl : lv_has ls 4 [(3, .null), (0, .ref b), (1, .int (nI jj)), (2, .int sr)] := hl
        refine lv_aload_nN hx hb d_X_also_9 rfl (lv_at hl 0 rfl) ?_
        refine lv_ifnullN (tgt := 28) hx hb d_X_also_10 (by decide) ?_
        refine lv_iconst (v := (-1)) hx hb d_X_also_28 (by decide) ?_
        exact W.iret hx hb hr (fun t ht hW => ⟨⟨_, (w, sz), rfl, ⟨(if_neg (fun q => (fun q => hgn ((re_tp_in hj hn).mp q).1) q.1)).symm, (by rw [show al_N N _ _ = N from if_neg (fun q => (fun q => hgn ((re_tp_in hj hn).mp q).1) q.1)]; exact ⟨T, U, ad, ⟨hRe, x0, x3, x4, x5, x6, x7, x8, x9, x10, x11, x12, x13⟩, hXr, hLa⟩), (fun j9 hj1 hj2 => rfl), rfl⟩, by rw [ht]; exact hP, by rw [ht]; exact hz⟩, hS.F ht⟩) hS.2.2 d_X_also_29
