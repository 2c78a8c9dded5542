theorem d_Reg_standing_0 : decode k_Reg_standing 0 = .ok (.iload_n 1, 1) := by decide +kernel
theorem d_Reg_standing_1 : decode k_Reg_standing 1 = .ok (.ifCond .lt 11, 3) := by decide +kernel
theorem d_Reg_standing_4 : decode k_Reg_standing 4 = .ok (.iload_n 1, 1) := by decide +kernel
theorem d_Reg_standing_5 : decode k_Reg_standing 5 = .ok (.aload_n 0, 1) := by decide +kernel
theorem d_Reg_standing_6 : decode k_Reg_standing 6 = .ok (.getfield 17, 3) := by decide +kernel
theorem d_Reg_standing_9 : decode k_Reg_standing 9 = .ok (.if_icmp .lt 5, 3) := by decide +kernel
theorem d_Reg_standing_12 : decode k_Reg_standing 12 = .ok (.aconst_null, 1) := by decide +kernel
theorem d_Reg_standing_13 : decode k_Reg_standing 13 = .ok (.areturn, 1) := by decide +kernel
theorem d_Reg_standing_14 : decode k_Reg_standing 14 = .ok (.aload_n 0, 1) := by decide +kernel
theorem d_Reg_standing_15 : decode k_Reg_standing 15 = .ok (.getfield 11, 3) := by decide +kernel
theorem d_Reg_standing_18 : decode k_Reg_standing 18 = .ok (.iload_n 1, 1) := by decide +kernel
theorem d_Reg_standing_19 : decode k_Reg_standing 19 = .ok (.aaload, 1) := by decide +kernel
theorem d_Reg_standing_20 : decode k_Reg_standing 20 = .ok (.astore_n 2, 1) := by decide +kernel
theorem d_Reg_standing_21 : decode k_Reg_standing 21 = .ok (.aload_n 2, 1) := by decide +kernel
theorem d_Reg_standing_22 : decode k_Reg_standing 22 = .ok (.ifnull 10, 3) := by decide +kernel
theorem d_Reg_standing_25 : decode k_Reg_standing 25 = .ok (.aload_n 2, 1) := by decide +kernel
theorem d_Reg_standing_26 : decode k_Reg_standing 26 = .ok (.getfield 25, 3) := by decide +kernel
theorem d_Reg_standing_29 : decode k_Reg_standing 29 = .ok (.ifCond .eq 7, 3) := by decide +kernel
theorem d_Reg_standing_32 : decode k_Reg_standing 32 = .ok (.aconst_null, 1) := by decide +kernel
theorem d_Reg_standing_33 : decode k_Reg_standing 33 = .ok (.goto 4, 3) := by decide +kernel
theorem d_Reg_standing_36 : decode k_Reg_standing 36 = .ok (.aload_n 2, 1) := by decide +kernel
theorem d_Reg_standing_37 : decode k_Reg_standing 37 = .ok (.areturn, 1) := by decide +kernel
set_option maxHeartbeats 4000000 in
set_option maxRecDepth 100000 in
theorem c_Reg_standing (l : Launch) {B : Nat} {D : va_G} {cI cZ cQ : ClassId} {w : mm_M} {sz : Nat} {a : Nat} {nr : Int32} {N : Nat → Nat → Nat} {S : Nat → Nat → Int32} {ad : Nat → Nat} (hRe : re_I a cI cQ N S ad w) (hR : rg_I N) : Met l y_Reg_standing ws_Reg_standing (kk_rm 0 0 0) (kk_Pc B D cI cZ cQ [.ref a, .int nr] w sz) (va_Sq (fun r => r = re_st N ad nr)) 0 0 (fun _ => False) := by
  refine Met.ofW (cc := k_Reg_standing) (maxL := 3) (ret := (some (.object "DelegationClosure$Certificate"))) (by decide) rfl ?_
  intro p e s m args below meth c s₁ BB hml hv
  obtain ⟨rfl, hK, hP, hz, hBz⟩ := hv
  have hx := BB.exec
  have hb := BB.bytes
  have hr := BB.returns
  have hts := atoms_spec (ws := ws_Reg_standing) BB.pre
  have hown : s.vm.findClass "DelegationClosure$Register" = some m.cls := findClass_of_methodNamed BB.named
  have hlocks := BB.notSynchronized
  have hS : mm_S B s.heap s.heap [] := va_S.rf
  have hl := lv_entry ([.ref a, .int nr]) (n := 3) (Nat.le_of_ble_eq_true rfl)
  rw [lg_entry_eq]
  generalize (lg_sl ([.ref a, .int nr]) ++ List.replicate (3 - (lg_sl ([.ref a, .int nr])).length) Slot.unset).toArray = ls at hl ⊢
  have hl : lv_has ls 3 [(0, .ref a), (1, .int nr)] := hl
  rcases re_split hRe.2.2.1 nr with hc | ⟨j, hj, hcj⟩
  · refine lv_iload_n hx hb d_Reg_standing_0 rfl (lv_at hl 1 rfl) ?_
    refine lv_if_lt (tgt := 12) hx hb d_Reg_standing_1 (by decide) (fun cc1 => ?_) (fun cc1 => ?_)
    · refine lv_null hx hb d_Reg_standing_12 ?_
      exact W.aret hx hb hr (Or.inl ⟨_, rfl⟩) (va_rf_or none) (fun t ht hW => ⟨none, rfl, (re_st_out hc).symm, ht⟩) (fun q hq => by cases hq) d_Reg_standing_13
    · refine lv_iload_n hx hb d_Reg_standing_4 rfl (lv_at hl 1 rfl) ?_
      refine lv_aload_n hx hb d_Reg_standing_5 rfl (lv_at hl 0 rfl) ?_
      refine mm_get (D := D) (C := n_Reg) (T := T_Reg) (N := 2) (v := .int (nI (N 0 0))) hx hb hts lay_Reg hown hK.1 hP hRe.1 rfl 1 (by decide) (hts _ (List.mem_cons_of_mem _ wd_32)) (fun _ h9 => h9) rfl d_Reg_standing_6 ?_
      refine lv_icmp_lt (tgt := 14) hx hb d_Reg_standing_9 (by decide) (fun cc2 => ?_) (fun cc2 => ?_)
      · exact (hc.elim cc1 (Int32.not_le.mpr cc2)).elim
      · refine lv_null hx hb d_Reg_standing_12 ?_
        exact W.aret hx hb hr (Or.inl ⟨_, rfl⟩) (va_rf_or none) (fun t ht hW => ⟨none, rfl, (re_st_out hc).symm, ht⟩) (fun q hq => by cases hq) d_Reg_standing_13
  · have hRj := hR j hj
    have hn := hRe.2.2.1
    rcases hRe.2.2.2 j hj with ⟨h2, hn1, hn2⟩ | ⟨h2, hp1, hp2, hp3, hp4, hp5⟩
    · refine lv_iload_n hx hb d_Reg_standing_0 rfl (lv_at hl 1 rfl) ?_
      refine kk_top (hcj) ?_
      refine lv_if_lt (tgt := 12) hx hb d_Reg_standing_1 (by decide) (fun cc3 => ?_) (fun cc3 => ?_)
      · rw [← nI_0] at cc3
        have cc3 : j < 0 := (nI_ltI (by omega) (by omega)).mp cc3
        exact absurd cc3 (by omega)
      · rw [← nI_0] at cc3
        have cc3 : ¬ (j < 0) := fun q => cc3 ((nI_ltI (by omega) (by omega)).mpr q)
        refine lv_iload_n hx hb d_Reg_standing_4 rfl (lv_at hl 1 rfl) ?_
        refine kk_top (hcj) ?_
        refine lv_aload_n hx hb d_Reg_standing_5 rfl (lv_at hl 0 rfl) ?_
        refine mm_get (D := D) (C := n_Reg) (T := T_Reg) (N := 2) (v := .int (nI (N 0 0))) hx hb hts lay_Reg hown hK.1 hP hRe.1 rfl 1 (by decide) (hts _ (List.mem_cons_of_mem _ wd_32)) (fun _ h9 => h9) rfl d_Reg_standing_6 ?_
        refine lv_icmp_lt (tgt := 14) hx hb d_Reg_standing_9 (by decide) (fun cc4 => ?_) (fun cc4 => ?_)
        · have cc4 : j < N 0 0 := (nI_ltI (by omega) (by omega)).mp cc4
          refine lv_aload_n hx hb d_Reg_standing_14 rfl (lv_at hl 0 rfl) ?_
          refine mm_get (D := D) (C := n_Reg) (T := T_Reg) (N := 2) (v := .ref (a + 1)) hx hb hts lay_Reg hown hK.1 hP hRe.1 rfl 0 (by decide) (hts _ (List.mem_cons_of_mem _ wd_31)) (fun _ h9 => h9) rfl d_Reg_standing_15 ?_
          refine lv_iload_n hx hb d_Reg_standing_18 rfl (lv_at hl 1 rfl) ?_
          refine kk_top (hcj) ?_
          refine mm_aald hx hb hK.1 hP 2 hRe.2.1 rfl j rfl (by omega) (by decide) d_Reg_standing_19 ?_
          refine kk_topv (y := .ref (ad j)) (show va_rf (if j < N 0 0 then some (ad j) else none) = _ by rw [if_pos hj]; rfl) ?_
          refine lv_astore_n hx hb d_Reg_standing_20 rfl hl (by decide) rfl (fun ls hl => ?_)
          have hl : lv_has ls 3 [(2, .ref (ad j)), (0, .ref a), (1, .int nr)] := hl
          refine lv_aload_n hx hb d_Reg_standing_21 rfl (lv_at hl 0 rfl) ?_
          refine lv_ifnull hx hb d_Reg_standing_22 ?_
          refine lv_aload_n hx hb d_Reg_standing_25 rfl (lv_at hl 0 rfl) ?_
          refine mm_get (D := D) (C := n_Nam) (T := T_Nam) (N := 5) (v := .int (nI (N 1 j))) hx hb hts lay_Nam hown hK.1 hP hn1 rfl 2 (by decide) (hts _ (List.mem_cons_of_mem _ wd_198)) (fun _ h9 => h9) rfl d_Reg_standing_26 ?_
          refine lv_if_eq (tgt := 36) hx hb d_Reg_standing_29 (by decide) (fun cc5 => ?_) (fun cc5 => ?_)
          · rw [← nI_0] at cc5
            have cc5 : N 1 j = 0 := (nI_eq (by omega) (by omega)).mp cc5
            refine lv_aload_n hx hb d_Reg_standing_36 rfl (lv_at hl 0 rfl) ?_
            exact W.aret hx hb hr (Or.inl ⟨_, rfl⟩) (va_rf_or (some (ad j))) (fun t ht hW => ⟨(some (ad j)), rfl, (by rw [hcj]; exact (re_st_in hj hn cc5).symm), ht⟩) (fun q hq => by cases hq) d_Reg_standing_37
          · rw [← nI_0] at cc5
            have cc5 : ¬ (N 1 j = 0) := fun q => cc5 ((nI_eq (by omega) (by omega)).mpr q)
            refine lv_null hx hb d_Reg_standing_32 ?_
            refine lv_goto (tgt := 37) hx hb d_Reg_standing_33 (by decide) ?_
            exact W.aret hx hb hr (Or.inl ⟨_, rfl⟩) (va_rf_or none) (fun t ht hW => ⟨none, rfl, (by rw [hcj]; exact (re_st_no hj hn cc5).symm), ht⟩) (fun q hq => by cases hq) d_Reg_standing_37
        · have cc4 : ¬ (j < N 0 0) := fun q => cc4 ((nI_ltI (by omega) (by omega)).mpr q)
          exact absurd cc4 (by omega)
    · refine lv_iload_n hx hb d_Reg_standing_0 rfl (lv_at hl 1 rfl) ?_
      refine kk_top (hcj) ?_
      refine lv_if_lt (tgt := 12) hx hb d_Reg_standing_1 (by decide) (fun cc6 => ?_) (fun cc6 => ?_)
      · rw [← nI_0] at cc6
        have cc6 : j < 0 := (nI_ltI (by omega) (by omega)).mp cc6
        exact absurd cc6 (by omega)
      · rw [← nI_0] at cc6
        have cc6 : ¬ (j < 0) := fun q => cc6 ((nI_ltI (by omega) (by omega)).mpr q)
        refine lv_iload_n hx hb d_Reg_standing_4 rfl (lv_at hl 1 rfl) ?_
        refine kk_top (hcj) ?_
        refine lv_aload_n hx hb d_Reg_standing_5 rfl (lv_at hl 0 rfl) ?_
        refine mm_get (D := D) (C := n_Reg) (T := T_Reg) (N := 2) (v := .int (nI (N 0 0))) hx hb hts lay_Reg hown hK.1 hP hRe.1 rfl 1 (by decide) (hts _ (List.mem_cons_of_mem _ wd_32)) (fun _ h9 => h9) rfl d_Reg_standing_6 ?_
        refine lv_icmp_lt (tgt := 14) hx hb d_Reg_standing_9 (by decide) (fun cc7 => ?_) (fun cc7 => ?_)
        · have cc7 : j < N 0 0 := (nI_ltI (by omega) (by omega)).mp cc7
          refine lv_aload_n hx hb d_Reg_standing_14 rfl (lv_at hl 0 rfl) ?_
          refine mm_get (D := D) (C := n_Reg) (T := T_Reg) (N := 2) (v := .ref (a + 1)) hx hb hts lay_Reg hown hK.1 hP hRe.1 rfl 0 (by decide) (hts _ (List.mem_cons_of_mem _ wd_31)) (fun _ h9 => h9) rfl d_Reg_standing_15 ?_
          refine lv_iload_n hx hb d_Reg_standing_18 rfl (lv_at hl 1 rfl) ?_
          refine kk_top (hcj) ?_
          refine mm_aald hx hb hK.1 hP 2 hRe.2.1 rfl j rfl (by omega) (by decide) d_Reg_standing_19 ?_
          refine kk_topv (y := .ref (ad j)) (show va_rf (if j < N 0 0 then some (ad j) else none) = _ by rw [if_pos hj]; rfl) ?_
          refine lv_astore_n hx hb d_Reg_standing_20 rfl hl (by decide) rfl (fun ls hl => ?_)
          have hl : lv_has ls 3 [(2, .ref (ad j)), (0, .ref a), (1, .int nr)] := hl
          refine lv_aload_n hx hb d_Reg_standing_21 rfl (lv_at hl 0 rfl) ?_
          refine lv_ifnull hx hb d_Reg_standing_22 ?_
          refine lv_aload_n hx hb d_Reg_standing_25 rfl (lv_at hl 0 rfl) ?_
          refine mm_get (D := D) (C := n_Prm) (T := T_Prm) (N := 8) (v := .int (nI (N 1 j))) hx hb hts lay_Prm hown hK.1 hP hp1 rfl 2 (by decide) (hts _ (List.mem_cons_of_mem _ wd_198)) (fun _ h9 => h9) rfl d_Reg_standing_26 ?_
          refine lv_if_eq (tgt := 36) hx hb d_Reg_standing_29 (by decide) (fun cc8 => ?_) (fun cc8 => ?_)
          · rw [← nI_0] at cc8
            have cc8 : N 1 j = 0 := (nI_eq (by omega) (by omega)).mp cc8
            refine lv_aload_n hx hb d_Reg_standing_36 rfl (lv_at hl 0 rfl) ?_
            exact W.aret hx hb hr (Or.inl ⟨_, rfl⟩) (va_rf_or (some (ad j))) (fun t ht hW => ⟨(some (ad j)), rfl, (by rw [hcj]; exact (re_st_in hj hn cc8).symm), ht⟩) (fun q hq => by cases hq) d_Reg_standing_37
          · rw [← nI_0] at cc8
            have cc8 : ¬ (N 1 j = 0) := fun q => cc8 ((nI_eq (by omega) (by omega)).mpr q)
            refine lv_null hx hb d_Reg_standing_32 ?_
            refine lv_goto (tgt := 37) hx hb d_Reg_standing_33 (by decide) ?_
            exact W.aret hx hb hr (Or.inl ⟨_, rfl⟩) (va_rf_or none) (fun t ht hW => ⟨none, rfl, (by rw [hcj]; exact (re_st_no hj hn cc8).symm), ht⟩) (fun q hq => by cases hq) d_Reg_standing_37
        · have cc7 : ¬ (j < N 0 0) := fun q => cc7 ((nI_ltI (by omega) (by omega)).mpr q)
          exact absurd cc7 (by omega)
