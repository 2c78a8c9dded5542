theorem d_Reg_permission_0 : decode k_Reg_permission 0 = .ok (.aload_n 0, 1) := by decide +kernel
theorem d_Reg_permission_1 : decode k_Reg_permission 1 = .ok (.iload_n 1, 1) := by decide +kernel
theorem d_Reg_permission_2 : decode k_Reg_permission 2 = .ok (.invokevirtual 29, 3) := by decide +kernel
theorem d_Reg_permission_5 : decode k_Reg_permission 5 = .ok (.astore_n 3, 1) := by decide +kernel
theorem d_Reg_permission_6 : decode k_Reg_permission 6 = .ok (.aload_n 3, 1) := by decide +kernel
theorem d_Reg_permission_7 : decode k_Reg_permission 7 = .ok (.instanceof 33, 3) := by decide +kernel
theorem d_Reg_permission_10 : decode k_Reg_permission 10 = .ok (.ifCond .eq 12, 3) := by decide +kernel
theorem d_Reg_permission_13 : decode k_Reg_permission 13 = .ok (.aload_n 3, 1) := by decide +kernel
theorem d_Reg_permission_14 : decode k_Reg_permission 14 = .ok (.checkcast 33, 3) := by decide +kernel
theorem d_Reg_permission_17 : decode k_Reg_permission 17 = .ok (.astore_n 2, 1) := by decide +kernel
theorem d_Reg_permission_18 : decode k_Reg_permission 18 = .ok (.aload_n 2, 1) := by decide +kernel
theorem d_Reg_permission_19 : decode k_Reg_permission 19 = .ok (.goto 4, 3) := by decide +kernel
theorem d_Reg_permission_22 : decode k_Reg_permission 22 = .ok (.aconst_null, 1) := by decide +kernel
theorem d_Reg_permission_23 : decode k_Reg_permission 23 = .ok (.areturn, 1) := by decide +kernel
set_option maxHeartbeats 4000000 in
set_option maxRecDepth 100000 in
theorem c_Reg_permission (l : Launch) {B : Nat} {D : va_G} {cI cZ cQ : ClassId} {w : mm_M} {sz : Nat} {a : Nat} {nr : Int32} {N : Nat → Nat → Nat} {S : Nat → Nat → Int32} {ad : Nat → Nat} (hRe : re_I a cI cQ N S ad w) (hR : rg_I N) : Met l y_Reg_permission ws_Reg_permission (kk_rm 1 0 0) (kk_Pc B D cI cZ cQ [.ref a, .int nr] w sz) (va_Sq (fun r => r = re_pm N ad nr)) 0 0 (fun _ => False) := by
  refine Met.ofW (cc := k_Reg_permission) (maxL := 4) (ret := (some (.object "DelegationClosure$Permission"))) (by decide) rfl ?_
  intro p e s m args below meth c s₁ BB hml hv
  obtain ⟨rfl, hK, hP, hz, hBz⟩ := hv
  have hx := BB.exec
  have hb := BB.bytes
  have hr := BB.returns
  have hts := atoms_spec (ws := ws_Reg_permission) BB.pre
  have hown : s.vm.findClass "DelegationClosure$Register" = some m.cls := findClass_of_methodNamed BB.named
  have hlocks := BB.notSynchronized
  have hS : mm_S B s.heap s.heap [] := va_S.rf
  have hl := lv_entry ([.ref a, .int nr]) (n := 4) (Nat.le_of_ble_eq_true rfl)
  rw [lg_entry_eq]
  generalize (lg_sl ([.ref a, .int nr]) ++ List.replicate (4 - (lg_sl ([.ref a, .int nr])).length) Slot.unset).toArray = ls at hl ⊢
  have hl : lv_has ls 4 [(0, .ref a), (1, .int nr)] := hl
  rcases re_split hRe.2.2.1 nr with hc | ⟨j, hj, hcj⟩
  · refine lv_aload_n hx hb d_Reg_permission_0 rfl (lv_at hl 0 rfl) ?_
    refine lv_iload_n hx hb d_Reg_permission_1 rfl (lv_at hl 1 rfl) ?_
    refine va_csq (va_Run.run (va_runV (As := [.int nr]) (rest := []) ⟨hx, hb, hml, hown, hts⟩ (c_Reg_standing l (N := N) (S := S) (ad := ad) hRe hR) (cwV 1 hts (gW_in (hd := [_, _, _, _, _]) (kk_5 wd_267 wd_268 wd_269 wd_2 cw_Reg_standing)) rfl rfl rfl ⟨rfl, ds_Reg_standing⟩ ⟨Nat.le_of_ble_eq_true rfl, Nat.le_of_ble_eq_true rfl⟩) (kk_preV hK hP hz hBz hRe.1 rfl) rfl rfl hl.1 rfl (lv_room (Nat.le_of_ble_eq_true rfl)) d_Reg_permission_2 ⟨Nat.le_of_ble_eq_true rfl, Nat.le_of_ble_eq_true rfl⟩)) (fun r1 hr1 => ?_)
    subst hr1
    refine kk_topv (y := .null) (by rw [re_st_out hc]; rfl) ?_
    refine lv_astore_nN hx hb d_Reg_permission_5 rfl hl (by decide) rfl (fun ls hl => ?_)
    have hl : lv_has ls 4 [(3, .null), (0, .ref a), (1, .int nr)] := hl
    refine lv_aload_nN hx hb d_Reg_permission_6 rfl (lv_at hl 0 rfl) ?_
    refine lv_instN hx hb d_Reg_permission_7 ?_
    refine lv_if_eq (tgt := 22) hx hb d_Reg_permission_10 (by decide) (fun cc2 => ?_) (fun cc2 => ?_)
    · refine lv_null hx hb d_Reg_permission_22 ?_
      exact W.aret hx hb hr (Or.inl ⟨_, rfl⟩) (va_rf_or none) (fun t ht hW => ⟨none, rfl, (re_pm_out hc).symm, ht⟩) (fun q hq => by cases hq) d_Reg_permission_23
    · exact absurd cc2 (by decide)
  · have hRj := hR j hj
    have hn := hRe.2.2.1
    rcases hRe.2.2.2 j hj with ⟨h2, hn1, hn2⟩ | ⟨h2, hp1, hp2, hp3, hp4, hp5⟩
    · by_cases hgn : N 1 j = 0
      · refine lv_aload_n hx hb d_Reg_permission_0 rfl (lv_at hl 0 rfl) ?_
        refine lv_iload_n hx hb d_Reg_permission_1 rfl (lv_at hl 1 rfl) ?_
        refine kk_top (hcj) ?_
        refine va_csq (va_Run.run (va_runV (As := [.int (nI j)]) (rest := []) ⟨hx, hb, hml, hown, hts⟩ (c_Reg_standing l (N := N) (S := S) (ad := ad) hRe hR) (cwV 1 hts (gW_in (hd := [_, _, _, _, _]) (kk_5 wd_267 wd_268 wd_269 wd_2 cw_Reg_standing)) rfl rfl rfl ⟨rfl, ds_Reg_standing⟩ ⟨Nat.le_of_ble_eq_true rfl, Nat.le_of_ble_eq_true rfl⟩) (kk_preV hK hP hz hBz hRe.1 rfl) rfl rfl hl.1 rfl (lv_room (Nat.le_of_ble_eq_true rfl)) d_Reg_permission_2 ⟨Nat.le_of_ble_eq_true rfl, Nat.le_of_ble_eq_true rfl⟩)) (fun r3 hr3 => ?_)
        subst hr3
        refine kk_topv (y := .ref (ad j)) (by rw [re_st_in hj hn hgn]; rfl) ?_
        refine lv_astore_n hx hb d_Reg_permission_5 rfl hl (by decide) rfl (fun ls hl => ?_)
        have hl : lv_has ls 4 [(3, .ref (ad j)), (0, .ref a), (1, .int nr)] := hl
        refine lv_aload_n hx hb d_Reg_permission_6 rfl (lv_at hl 0 rfl) ?_
        refine va_instNo hx hb hown (hts _ (List.mem_cons_of_mem _ wd_271)) hK.2.2.2.1 (mm_recv hK.1 hP hn1 rfl) d_Reg_permission_7 ?_
        refine lv_if_eq (tgt := 22) hx hb d_Reg_permission_10 (by decide) (fun cc4 => ?_) (fun cc4 => ?_)
        · refine lv_null hx hb d_Reg_permission_22 ?_
          exact W.aret hx hb hr (Or.inl ⟨_, rfl⟩) (va_rf_or none) (fun t ht hW => ⟨none, rfl, (by rw [hcj]; exact (re_pm_no hj hn (fun q => by have := q.2; omega)).symm), ht⟩) (fun q hq => by cases hq) d_Reg_permission_23
        · exact absurd cc4 (by decide)
      · refine lv_aload_n hx hb d_Reg_permission_0 rfl (lv_at hl 0 rfl) ?_
        refine lv_iload_n hx hb d_Reg_permission_1 rfl (lv_at hl 1 rfl) ?_
        refine kk_top (hcj) ?_
        refine va_csq (va_Run.run (va_runV (As := [.int (nI j)]) (rest := []) ⟨hx, hb, hml, hown, hts⟩ (c_Reg_standing l (N := N) (S := S) (ad := ad) hRe hR) (cwV 1 hts (gW_in (hd := [_, _, _, _, _]) (kk_5 wd_267 wd_268 wd_269 wd_2 cw_Reg_standing)) rfl rfl rfl ⟨rfl, ds_Reg_standing⟩ ⟨Nat.le_of_ble_eq_true rfl, Nat.le_of_ble_eq_true rfl⟩) (kk_preV hK hP hz hBz hRe.1 rfl) rfl rfl hl.1 rfl (lv_room (Nat.le_of_ble_eq_true rfl)) d_Reg_permission_2 ⟨Nat.le_of_ble_eq_true rfl, Nat.le_of_ble_eq_true rfl⟩)) (fun r5 hr5 => ?_)
        subst hr5
        refine kk_topv (y := .null) (by rw [re_st_no hj hn hgn]; rfl) ?_
        refine lv_astore_nN hx hb d_Reg_permission_5 rfl hl (by decide) rfl (fun ls hl => ?_)
        have hl : lv_has ls 4 [(3, .null), (0, .ref a), (1, .int nr)] := hl
        refine lv_aload_nN hx hb d_Reg_permission_6 rfl (lv_at hl 0 rfl) ?_
        refine lv_instN hx hb d_Reg_permission_7 ?_
        refine lv_if_eq (tgt := 22) hx hb d_Reg_permission_10 (by decide) (fun cc6 => ?_) (fun cc6 => ?_)
        · refine lv_null hx hb d_Reg_permission_22 ?_
          exact W.aret hx hb hr (Or.inl ⟨_, rfl⟩) (va_rf_or none) (fun t ht hW => ⟨none, rfl, (by rw [hcj]; exact (re_pm_no hj hn (fun q => by have := q.2; omega)).symm), ht⟩) (fun q hq => by cases hq) d_Reg_permission_23
        · exact absurd cc6 (by decide)
    · by_cases hgn : N 1 j = 0
      · refine lv_aload_n hx hb d_Reg_permission_0 rfl (lv_at hl 0 rfl) ?_
        refine lv_iload_n hx hb d_Reg_permission_1 rfl (lv_at hl 1 rfl) ?_
        refine kk_top (hcj) ?_
        refine va_csq (va_Run.run (va_runV (As := [.int (nI j)]) (rest := []) ⟨hx, hb, hml, hown, hts⟩ (c_Reg_standing l (N := N) (S := S) (ad := ad) hRe hR) (cwV 1 hts (gW_in (hd := [_, _, _, _, _]) (kk_5 wd_267 wd_268 wd_269 wd_2 cw_Reg_standing)) rfl rfl rfl ⟨rfl, ds_Reg_standing⟩ ⟨Nat.le_of_ble_eq_true rfl, Nat.le_of_ble_eq_true rfl⟩) (kk_preV hK hP hz hBz hRe.1 rfl) rfl rfl hl.1 rfl (lv_room (Nat.le_of_ble_eq_true rfl)) d_Reg_permission_2 ⟨Nat.le_of_ble_eq_true rfl, Nat.le_of_ble_eq_true rfl⟩)) (fun r7 hr7 => ?_)
        subst hr7
        refine kk_topv (y := .ref (ad j)) (by rw [re_st_in hj hn hgn]; rfl) ?_
        refine lv_astore_n hx hb d_Reg_permission_5 rfl hl (by decide) rfl (fun ls hl => ?_)
        have hl : lv_has ls 4 [(3, .ref (ad j)), (0, .ref a), (1, .int nr)] := hl
        refine lv_aload_n hx hb d_Reg_permission_6 rfl (lv_at hl 0 rfl) ?_
        refine va_instS hx hb hown (hts _ (List.mem_cons_of_mem _ wd_271)) (hK.1.1 8 _ rfl).2 (mm_recv hK.1 hP hp1 rfl) d_Reg_permission_7 ?_
        refine lv_if_eq (tgt := 22) hx hb d_Reg_permission_10 (by decide) (fun cc8 => ?_) (fun cc8 => ?_)
        · exact absurd cc8 (by decide)
        · refine lv_aload_n hx hb d_Reg_permission_13 rfl (lv_at hl 0 rfl) ?_
          refine va_castS hx hb hown (hts _ (List.mem_cons_of_mem _ wd_271)) (hK.1.1 8 _ rfl).2 (mm_recv hK.1 hP hp1 rfl) d_Reg_permission_14 ?_
          refine lv_astore_n hx hb d_Reg_permission_17 rfl hl (by decide) rfl (fun ls hl => ?_)
          have hl : lv_has ls 4 [(2, .ref (ad j)), (3, .ref (ad j)), (0, .ref a), (1, .int nr)] := hl
          refine lv_aload_n hx hb d_Reg_permission_18 rfl (lv_at hl 0 rfl) ?_
          refine lv_goto (tgt := 23) hx hb d_Reg_permission_19 (by decide) ?_
          exact W.aret hx hb hr (Or.inl ⟨_, rfl⟩) (va_rf_or (some (ad j))) (fun t ht hW => ⟨(some (ad j)), rfl, (by rw [hcj]; exact (re_pm_in hj hn hgn h2).symm), ht⟩) (fun q hq => by cases hq) d_Reg_permission_23
      · refine lv_aload_n hx hb d_Reg_permission_0 rfl (lv_at hl 0 rfl) ?_
        refine lv_iload_n hx hb d_Reg_permission_1 rfl (lv_at hl 1 rfl) ?_
        refine kk_top (hcj) ?_
        refine va_csq (va_Run.run (va_runV (As := [.int (nI j)]) (rest := []) ⟨hx, hb, hml, hown, hts⟩ (c_Reg_standing l (N := N) (S := S) (ad := ad) hRe hR) (cwV 1 hts (gW_in (hd := [_, _, _, _, _]) (kk_5 wd_267 wd_268 wd_269 wd_2 cw_Reg_standing)) rfl rfl rfl ⟨rfl, ds_Reg_standing⟩ ⟨Nat.le_of_ble_eq_true rfl, Nat.le_of_ble_eq_true rfl⟩) (kk_preV hK hP hz hBz hRe.1 rfl) rfl rfl hl.1 rfl (lv_room (Nat.le_of_ble_eq_true rfl)) d_Reg_permission_2 ⟨Nat.le_of_ble_eq_true rfl, Nat.le_of_ble_eq_true rfl⟩)) (fun r9 hr9 => ?_)
        subst hr9
        refine kk_topv (y := .null) (by rw [re_st_no hj hn hgn]; rfl) ?_
        refine lv_astore_nN hx hb d_Reg_permission_5 rfl hl (by decide) rfl (fun ls hl => ?_)
        have hl : lv_has ls 4 [(3, .null), (0, .ref a), (1, .int nr)] := hl
        refine lv_aload_nN hx hb d_Reg_permission_6 rfl (lv_at hl 0 rfl) ?_
        refine lv_instN hx hb d_Reg_permission_7 ?_
        refine lv_if_eq (tgt := 22) hx hb d_Reg_permission_10 (by decide) (fun cc10 => ?_) (fun cc10 => ?_)
        · refine lv_null hx hb d_Reg_permission_22 ?_
          exact W.aret hx hb hr (Or.inl ⟨_, rfl⟩) (va_rf_or none) (fun t ht hW => ⟨none, rfl, (by rw [hcj]; exact (re_pm_no hj hn (fun q => hgn q.1)).symm), ht⟩) (fun q hq => by cases hq) d_Reg_permission_23
        · exact absurd cc10 (by decide)
