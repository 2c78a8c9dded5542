theorem d_Mod_keyOf_0 : decode k_Mod_keyOf 0 = .ok (.iload_n 0, 1) := by decide +kernel
theorem d_Mod_keyOf_1 : decode k_Mod_keyOf 1 = .ok (.bipush 8, 2) := by decide +kernel
theorem d_Mod_keyOf_3 : decode k_Mod_keyOf 3 = .ok (.irem, 1) := by decide +kernel
theorem d_Mod_keyOf_4 : decode k_Mod_keyOf 4 = .ok (.ireturn, 1) := by decide +kernel
set_option maxHeartbeats 4000000 in
set_option maxRecDepth 100000 in
theorem c_Mod_keyOf (l : Launch) {B : Nat} {D : va_G} {cI cZ cQ : ClassId} {w : mm_M} {sz : Nat} {n : Nat} (hn : n < 2 ^ 30) : Met l y_Mod_keyOf ws_Mod_keyOf (kk_rm 0 0 0) (kk_Pc B D cI cZ cQ [.int (nI n)] w sz) (vp_Si (fun r => r = nI (n % 8))) 0 0 (fun _ => False) := by
  refine Met.ofW (cc := k_Mod_keyOf) (maxL := 1) (ret := (some .int)) (by decide) rfl ?_
  intro p e s m args below meth c s₁ BB hml hv
  obtain ⟨rfl, hK, hP, hz, hBz⟩ := hv
  have hx := BB.exec
  have hb := BB.bytes
  have hr := BB.returns
  have hts := atoms_spec (ws := ws_Mod_keyOf) BB.pre
  have hown : s.vm.findClass "DelegationClosureModel" = some m.cls := findClass_of_methodNamed BB.named
  have hlocks := BB.notSynchronized
  have hS : mm_S B s.heap s.heap [] := va_S.rf
  have hl := lv_entry ([.int (nI n)]) (n := 1) (Nat.le_of_ble_eq_true rfl)
  rw [lg_entry_eq]
  generalize (lg_sl ([.int (nI n)]) ++ List.replicate (1 - (lg_sl ([.int (nI n)])).length) Slot.unset).toArray = ls at hl ⊢
  have hl : lv_has ls 1 [(0, .int (nI n))] := hl
  refine lv_iload_n hx hb d_Mod_keyOf_0 rfl (lv_at hl 0 rfl) ?_
  refine lv_bipush (v := nI 8) hx hb d_Mod_keyOf_1 (by decide) ?_
  refine lv_irem hx hb d_Mod_keyOf_3 (by decide) ?_
  refine kk_top (pk_rem (by omega) (by omega) (by omega)) ?_
  exact W.iret hx hb hr (fun t ht hW => ⟨_, rfl, rfl, ht⟩) (fun q hq => by cases hq) d_Mod_keyOf_4
theorem d_Mod_nameOf_0 : decode k_Mod_nameOf 0 = .ok (.iload_n 0, 1) := by decide +kernel
theorem d_Mod_nameOf_1 : decode k_Mod_nameOf 1 = .ok (.bipush 8, 2) := by decide +kernel
theorem d_Mod_nameOf_3 : decode k_Mod_nameOf 3 = .ok (.idiv, 1) := by decide +kernel
theorem d_Mod_nameOf_4 : decode k_Mod_nameOf 4 = .ok (.istore_n 2, 1) := by decide +kernel
theorem d_Mod_nameOf_5 : decode k_Mod_nameOf 5 = .ok (.iload_n 1, 1) := by decide +kernel
theorem d_Mod_nameOf_6 : decode k_Mod_nameOf 6 = .ok (.ifCond .eq 11, 3) := by decide +kernel
theorem d_Mod_nameOf_9 : decode k_Mod_nameOf 9 = .ok (.iload_n 2, 1) := by decide +kernel
theorem d_Mod_nameOf_10 : decode k_Mod_nameOf 10 = .ok (.iconst 5, 1) := by decide +kernel
theorem d_Mod_nameOf_11 : decode k_Mod_nameOf 11 = .ok (.idiv, 1) := by decide +kernel
theorem d_Mod_nameOf_12 : decode k_Mod_nameOf 12 = .ok (.iconst 1, 1) := by decide +kernel
theorem d_Mod_nameOf_13 : decode k_Mod_nameOf 13 = .ok (.isub, 1) := by decide +kernel
theorem d_Mod_nameOf_14 : decode k_Mod_nameOf 14 = .ok (.goto 8, 3) := by decide +kernel
theorem d_Mod_nameOf_17 : decode k_Mod_nameOf 17 = .ok (.iload_n 2, 1) := by decide +kernel
theorem d_Mod_nameOf_18 : decode k_Mod_nameOf 18 = .ok (.iconst 5, 1) := by decide +kernel
theorem d_Mod_nameOf_19 : decode k_Mod_nameOf 19 = .ok (.irem, 1) := by decide +kernel
theorem d_Mod_nameOf_20 : decode k_Mod_nameOf 20 = .ok (.iconst 1, 1) := by decide +kernel
theorem d_Mod_nameOf_21 : decode k_Mod_nameOf 21 = .ok (.isub, 1) := by decide +kernel
theorem d_Mod_nameOf_22 : decode k_Mod_nameOf 22 = .ok (.ireturn, 1) := by decide +kernel
set_option maxHeartbeats 4000000 in
set_option maxRecDepth 100000 in
theorem c_Mod_nameOf0 (l : Launch) {B : Nat} {D : va_G} {cI cZ cQ : ClassId} {w : mm_M} {sz : Nat} {n : Nat} (hn : n < 2 ^ 30) : Met l y_Mod_nameOf ws_Mod_nameOf (kk_rm 0 0 0) (kk_Pc B D cI cZ cQ [.int (nI n), .int (nI 0)] w sz) (vp_Si (fun r => r = nI (n / 8 % 5) - nI 1)) 0 0 (fun _ => False) := by
  refine Met.ofW (cc := k_Mod_nameOf) (maxL := 3) (ret := (some .int)) (by decide) rfl ?_
  intro p e s m args below meth c s₁ BB hml hv
  obtain ⟨rfl, hK, hP, hz, hBz⟩ := hv
  have hx := BB.exec
  have hb := BB.bytes
  have hr := BB.returns
  have hts := atoms_spec (ws := ws_Mod_nameOf) BB.pre
  have hown : s.vm.findClass "DelegationClosureModel" = some m.cls := findClass_of_methodNamed BB.named
  have hlocks := BB.notSynchronized
  have hS : mm_S B s.heap s.heap [] := va_S.rf
  have hl := lv_entry ([.int (nI n), .int (nI 0)]) (n := 3) (Nat.le_of_ble_eq_true rfl)
  rw [lg_entry_eq]
  generalize (lg_sl ([.int (nI n), .int (nI 0)]) ++ List.replicate (3 - (lg_sl ([.int (nI n), .int (nI 0)])).length) Slot.unset).toArray = ls at hl ⊢
  have hl : lv_has ls 3 [(0, .int (nI n)), (1, .int (nI 0))] := hl
  refine lv_iload_n hx hb d_Mod_nameOf_0 rfl (lv_at hl 0 rfl) ?_
  refine lv_bipush (v := nI 8) hx hb d_Mod_nameOf_1 (by decide) ?_
  refine lv_idiv hx hb d_Mod_nameOf_3 (by decide) ?_
  refine kk_top (pk_div (by omega) (by omega) (by omega)) ?_
  refine lv_istore_n hx hb d_Mod_nameOf_4 rfl hl (by decide) rfl (fun ls hl => ?_)
  have hl : lv_has ls 3 [(2, .int (nI (n / 8))), (0, .int (nI n)), (1, .int (nI 0))] := hl
  refine lv_iload_n hx hb d_Mod_nameOf_5 rfl (lv_at hl 2 rfl) ?_
  refine lv_if_eq (tgt := 17) hx hb d_Mod_nameOf_6 (by decide) (fun cc1 => ?_) (fun cc1 => ?_)
  · rw [← nI_0] at cc1
    have cc1 : 0 = 0 := (nI_eq (by omega) (by omega)).mp cc1
    refine lv_iload_n hx hb d_Mod_nameOf_17 rfl (lv_at hl 0 rfl) ?_
    refine lv_iconst (v := nI 5) hx hb d_Mod_nameOf_18 (by decide) ?_
    refine lv_irem hx hb d_Mod_nameOf_19 (by decide) ?_
    refine kk_top (pk_rem (by omega) (by omega) (by omega)) ?_
    refine lv_iconst (v := nI 1) hx hb d_Mod_nameOf_20 (by decide) ?_
    refine lv_isub hx hb d_Mod_nameOf_21 ?_
    exact W.iret hx hb hr (fun t ht hW => ⟨_, rfl, rfl, ht⟩) (fun q hq => by cases hq) d_Mod_nameOf_22
  · rw [← nI_0] at cc1
    have cc1 : ¬ (0 = 0) := fun q => cc1 ((nI_eq (by omega) (by omega)).mpr q)
    exact absurd cc1 (by omega)
set_option maxHeartbeats 4000000 in
set_option maxRecDepth 100000 in
theorem c_Mod_nameOf1 (l : Launch) {B : Nat} {D : va_G} {cI cZ cQ : ClassId} {w : mm_M} {sz : Nat} {n : Nat} (hn : n < 2 ^ 30) : Met l y_Mod_nameOf ws_Mod_nameOf (kk_rm 0 0 0) (kk_Pc B D cI cZ cQ [.int (nI n), .int (nI 1)] w sz) (vp_Si (fun r => r = nI (n / 40) - nI 1)) 0 0 (fun _ => False) := by
  refine Met.ofW (cc := k_Mod_nameOf) (maxL := 3) (ret := (some .int)) (by decide) rfl ?_
  intro p e s m args below meth c s₁ BB hml hv
  obtain ⟨rfl, hK, hP, hz, hBz⟩ := hv
  have hx := BB.exec
  have hb := BB.bytes
  have hr := BB.returns
  have hts := atoms_spec (ws := ws_Mod_nameOf) BB.pre
  have hown : s.vm.findClass "DelegationClosureModel" = some m.cls := findClass_of_methodNamed BB.named
  have hlocks := BB.notSynchronized
  have hS : mm_S B s.heap s.heap [] := va_S.rf
  have hl := lv_entry ([.int (nI n), .int (nI 1)]) (n := 3) (Nat.le_of_ble_eq_true rfl)
  rw [lg_entry_eq]
  generalize (lg_sl ([.int (nI n), .int (nI 1)]) ++ List.replicate (3 - (lg_sl ([.int (nI n), .int (nI 1)])).length) Slot.unset).toArray = ls at hl ⊢
  have hl : lv_has ls 3 [(0, .int (nI n)), (1, .int (nI 1))] := hl
  refine lv_iload_n hx hb d_Mod_nameOf_0 rfl (lv_at hl 0 rfl) ?_
  refine lv_bipush (v := nI 8) hx hb d_Mod_nameOf_1 (by decide) ?_
  refine lv_idiv hx hb d_Mod_nameOf_3 (by decide) ?_
  refine kk_top (pk_div (by omega) (by omega) (by omega)) ?_
  refine lv_istore_n hx hb d_Mod_nameOf_4 rfl hl (by decide) rfl (fun ls hl => ?_)
  have hl : lv_has ls 3 [(2, .int (nI (n / 8))), (0, .int (nI n)), (1, .int (nI 1))] := hl
  refine lv_iload_n hx hb d_Mod_nameOf_5 rfl (lv_at hl 2 rfl) ?_
  refine lv_if_eq (tgt := 17) hx hb d_Mod_nameOf_6 (by decide) (fun cc1 => ?_) (fun cc1 => ?_)
  · rw [← nI_0] at cc1
    have cc1 : 1 = 0 := (nI_eq (by omega) (by omega)).mp cc1
    exact absurd cc1 (by omega)
  · rw [← nI_0] at cc1
    have cc1 : ¬ (1 = 0) := fun q => cc1 ((nI_eq (by omega) (by omega)).mpr q)
    refine lv_iload_n hx hb d_Mod_nameOf_9 rfl (lv_at hl 0 rfl) ?_
    refine lv_iconst (v := nI 5) hx hb d_Mod_nameOf_10 (by decide) ?_
    refine lv_idiv hx hb d_Mod_nameOf_11 (by decide) ?_
    refine kk_top (pk_div (by omega) (by omega) (by omega)) ?_
    refine lv_iconst (v := nI 1) hx hb d_Mod_nameOf_12 (by decide) ?_
    refine lv_isub hx hb d_Mod_nameOf_13 ?_
    refine lv_goto (tgt := 22) hx hb d_Mod_nameOf_14 (by decide) ?_
    exact W.iret hx hb hr (fun t ht hW => ⟨_, rfl, congrArg (fun q => nI q - nI 1) (by omega), ht⟩) (fun q hq => by cases hq) d_Mod_nameOf_22
theorem d_Mod_isSubject_0 : decode k_Mod_isSubject 0 = .ok (.iload_n 0, 1) := by decide +kernel
theorem d_Mod_isSubject_1 : decode k_Mod_isSubject 1 = .ok (.ifCond .lt 30, 3) := by decide +kernel
theorem d_Mod_isSubject_4 : decode k_Mod_isSubject 4 = .ok (.iload_n 0, 1) := by decide +kernel
theorem d_Mod_isSubject_5 : decode k_Mod_isSubject 5 = .ok (.sipush 200, 3) := by decide +kernel
theorem d_Mod_isSubject_8 : decode k_Mod_isSubject 8 = .ok (.if_icmp .ge 23, 3) := by decide +kernel
theorem d_Mod_isSubject_11 : decode k_Mod_isSubject 11 = .ok (.iload_n 0, 1) := by decide +kernel
theorem d_Mod_isSubject_12 : decode k_Mod_isSubject 12 = .ok (.iconst 0, 1) := by decide +kernel
theorem d_Mod_isSubject_13 : decode k_Mod_isSubject 13 = .ok (.invokestatic 59, 3) := by decide +kernel
theorem d_Mod_isSubject_16 : decode k_Mod_isSubject 16 = .ok (.ifCond .ge 11, 3) := by decide +kernel
theorem d_Mod_isSubject_19 : decode k_Mod_isSubject 19 = .ok (.iload_n 0, 1) := by decide +kernel
theorem d_Mod_isSubject_20 : decode k_Mod_isSubject 20 = .ok (.iconst 1, 1) := by decide +kernel
theorem d_Mod_isSubject_21 : decode k_Mod_isSubject 21 = .ok (.invokestatic 59, 3) := by decide +kernel
theorem d_Mod_isSubject_24 : decode k_Mod_isSubject 24 = .ok (.ifCond .ge 7, 3) := by decide +kernel
theorem d_Mod_isSubject_27 : decode k_Mod_isSubject 27 = .ok (.iconst 1, 1) := by decide +kernel
theorem d_Mod_isSubject_28 : decode k_Mod_isSubject 28 = .ok (.goto 4, 3) := by decide +kernel
theorem d_Mod_isSubject_31 : decode k_Mod_isSubject 31 = .ok (.iconst 0, 1) := by decide +kernel
theorem d_Mod_isSubject_32 : decode k_Mod_isSubject 32 = .ok (.ireturn, 1) := by decide +kernel
set_option maxHeartbeats 4000000 in
set_option maxRecDepth 100000 in
theorem c_Mod_isSubject (l : Launch) {B : Nat} {D : va_G} {cI cZ cQ : ClassId} {w : mm_M} {sz : Nat} {x : Int32} : Met l y_Mod_isSubject ws_Mod_isSubject (kk_rm 1 0 0) (kk_Pc B D cI cZ cQ [.int x] w sz) (vp_Si (fun r => r = nI (if wf_sub x then 1 else 0))) 0 0 (fun _ => False) := by
  refine Met.ofW (cc := k_Mod_isSubject) (maxL := 1) (ret := (some .boolean)) (by decide) rfl ?_
  intro p e s m args below meth c s₁ BB hml hv
  obtain ⟨rfl, hK, hP, hz, hBz⟩ := hv
  have hx := BB.exec
  have hb := BB.bytes
  have hr := BB.returns
  have hts := atoms_spec (ws := ws_Mod_isSubject) BB.pre
  have hown : s.vm.findClass "DelegationClosureModel" = some m.cls := findClass_of_methodNamed BB.named
  have hlocks := BB.notSynchronized
  have hS : mm_S B s.heap s.heap [] := va_S.rf
  have hl := lv_entry ([.int x]) (n := 1) (Nat.le_of_ble_eq_true rfl)
  rw [lg_entry_eq]
  generalize (lg_sl ([.int x]) ++ List.replicate (1 - (lg_sl ([.int x])).length) Slot.unset).toArray = ls at hl ⊢
  have hl : lv_has ls 1 [(0, .int x)] := hl
  refine lv_iload_n hx hb d_Mod_isSubject_0 rfl (lv_at hl 0 rfl) ?_
  refine lv_if_lt (tgt := 31) hx hb d_Mod_isSubject_1 (by decide) (fun cc1 => ?_) (fun cc1 => ?_)
  · refine lv_iconst (v := nI 0) hx hb d_Mod_isSubject_31 (by decide) ?_
    exact W.zret hx hb hr rfl (fun t ht hW => ⟨_, rfl, kk_iff (fun q => q.1 cc1), ht⟩) (fun q hq => by cases hq) d_Mod_isSubject_32
  · refine lv_iload_n hx hb d_Mod_isSubject_4 rfl (lv_at hl 0 rfl) ?_
    refine lv_sipush (v := nI 200) hx hb d_Mod_isSubject_5 (by decide) ?_
    refine lv_icmp_ge (tgt := 31) hx hb d_Mod_isSubject_8 (by decide) (fun cc2 => ?_) (fun cc2 => ?_)
    · refine lv_iconst (v := nI 0) hx hb d_Mod_isSubject_31 (by decide) ?_
      exact W.zret hx hb hr rfl (fun t ht hW => ⟨_, rfl, kk_iff (fun q => q.2.1 cc2), ht⟩) (fun q hq => by cases hq) d_Mod_isSubject_32
    · obtain ⟨n, hn, hxn⟩ := kk_ofn cc1 cc2 (by omega)
      refine lv_iload_n hx hb d_Mod_isSubject_11 rfl (lv_at hl 0 rfl) ?_
      refine kk_top (hxn) ?_
      refine lv_iconst (v := nI 0) hx hb d_Mod_isSubject_12 (by decide) ?_
      refine vp_callSi (va_Run.run (va_runS (As := [.int (nI n), .int (nI 0)]) (rest := []) ⟨hx, hb, hml, hown, hts⟩ (c_Mod_nameOf0 l (by omega)) (va_cwS 2 hts (gW_in (hd := [_, _, _, _]) (kk_4 wd_580 wd_581 wd_8 cw_Mod_nameOf)) rfl rfl rfl ds_Mod_nameOf ⟨Nat.le_of_ble_eq_true rfl, Nat.le_of_ble_eq_true rfl⟩) (kk_preS hK hP hz hBz) rfl rfl hl.1 rfl (lv_room (Nat.le_of_ble_eq_true rfl)) d_Mod_isSubject_13 ⟨Nat.le_of_ble_eq_true rfl, Nat.le_of_ble_eq_true rfl⟩)) (fun r3 hr3 => ?_)
      subst hr3
      refine lv_if_ge (tgt := 27) hx hb d_Mod_isSubject_16 (by decide) (fun cc4 => ?_) (fun cc4 => ?_)
      · have cc4 := Int32.not_lt.mpr cc4
        have cc4 : ¬ n / 8 % 5 = 0 := fun q => cc4 ((kk_nmlt (by omega)).mpr q)
        refine lv_iconst (v := nI 1) hx hb d_Mod_isSubject_27 (by decide) ?_
        refine lv_goto (tgt := 32) hx hb d_Mod_isSubject_28 (by decide) ?_
        exact W.zret hx hb hr rfl (fun t ht hW => ⟨_, rfl, kk_ift (by rw [hxn, wf_sub_n (by omega)]; omega), ht⟩) (fun q hq => by cases hq) d_Mod_isSubject_32
      · have cc4 := Int32.not_le.mp cc4
        have cc4 : n / 8 % 5 = 0 := (kk_nmlt (by omega)).mp cc4
        refine lv_iload_n hx hb d_Mod_isSubject_19 rfl (lv_at hl 0 rfl) ?_
        refine kk_top (hxn) ?_
        refine lv_iconst (v := nI 1) hx hb d_Mod_isSubject_20 (by decide) ?_
        refine vp_callSi (va_Run.run (va_runS (As := [.int (nI n), .int (nI 1)]) (rest := []) ⟨hx, hb, hml, hown, hts⟩ (c_Mod_nameOf1 l (by omega)) (va_cwS 2 hts (gW_in (hd := [_, _, _, _]) (kk_4 wd_580 wd_581 wd_8 cw_Mod_nameOf)) rfl rfl rfl ds_Mod_nameOf ⟨Nat.le_of_ble_eq_true rfl, Nat.le_of_ble_eq_true rfl⟩) (kk_preS hK hP hz hBz) rfl rfl hl.1 rfl (lv_room (Nat.le_of_ble_eq_true rfl)) d_Mod_isSubject_21 ⟨Nat.le_of_ble_eq_true rfl, Nat.le_of_ble_eq_true rfl⟩)) (fun r5 hr5 => ?_)
        subst hr5
        refine lv_if_ge (tgt := 31) hx hb d_Mod_isSubject_24 (by decide) (fun cc6 => ?_) (fun cc6 => ?_)
        · have cc6 := Int32.not_lt.mpr cc6
          have cc6 : ¬ n / 40 = 0 := fun q => cc6 ((kk_nmlt (by omega)).mpr q)
          refine lv_iconst (v := nI 0) hx hb d_Mod_isSubject_31 (by decide) ?_
          exact W.zret hx hb hr rfl (fun t ht hW => ⟨_, rfl, kk_iff (fun q => by rw [hxn, wf_sub_n (by omega)] at q; omega), ht⟩) (fun q hq => by cases hq) d_Mod_isSubject_32
        · have cc6 := Int32.not_le.mp cc6
          have cc6 : n / 40 = 0 := (kk_nmlt (by omega)).mp cc6
          refine lv_iconst (v := nI 1) hx hb d_Mod_isSubject_27 (by decide) ?_
          refine lv_goto (tgt := 32) hx hb d_Mod_isSubject_28 (by decide) ?_
          exact W.zret hx hb hr rfl (fun t ht hW => ⟨_, rfl, kk_ift (by rw [hxn, wf_sub_n (by omega)]; omega), ht⟩) (fun q hq => by cases hq) d_Mod_isSubject_32
theorem d_Mod_sum_0 : decode k_Mod_sum 0 = .ok (.iload_n 0, 1) := by decide +kernel
theorem d_Mod_sum_1 : decode k_Mod_sum 1 = .ok (.sipush 5000, 3) := by decide +kernel
theorem d_Mod_sum_4 : decode k_Mod_sum 4 = .ok (.if_icmp .eq 10, 3) := by decide +kernel
theorem d_Mod_sum_7 : decode k_Mod_sum 7 = .ok (.iload_n 1, 1) := by decide +kernel
theorem d_Mod_sum_8 : decode k_Mod_sum 8 = .ok (.sipush 5000, 3) := by decide +kernel
theorem d_Mod_sum_11 : decode k_Mod_sum 11 = .ok (.if_icmp .ne 7, 3) := by decide +kernel
theorem d_Mod_sum_14 : decode k_Mod_sum 14 = .ok (.sipush 5000, 3) := by decide +kernel
theorem d_Mod_sum_17 : decode k_Mod_sum 17 = .ok (.ireturn, 1) := by decide +kernel
theorem d_Mod_sum_18 : decode k_Mod_sum 18 = .ok (.iload_n 0, 1) := by decide +kernel
theorem d_Mod_sum_19 : decode k_Mod_sum 19 = .ok (.iload_n 1, 1) := by decide +kernel
theorem d_Mod_sum_20 : decode k_Mod_sum 20 = .ok (.iadd, 1) := by decide +kernel
theorem d_Mod_sum_21 : decode k_Mod_sum 21 = .ok (.sipush 999, 3) := by decide +kernel
theorem d_Mod_sum_24 : decode k_Mod_sum 24 = .ok (.if_icmp .le 9, 3) := by decide +kernel
theorem d_Mod_sum_27 : decode k_Mod_sum 27 = .ok (.sipush 999, 3) := by decide +kernel
theorem d_Mod_sum_30 : decode k_Mod_sum 30 = .ok (.goto 6, 3) := by decide +kernel
theorem d_Mod_sum_33 : decode k_Mod_sum 33 = .ok (.iload_n 0, 1) := by decide +kernel
theorem d_Mod_sum_34 : decode k_Mod_sum 34 = .ok (.iload_n 1, 1) := by decide +kernel
theorem d_Mod_sum_35 : decode k_Mod_sum 35 = .ok (.iadd, 1) := by decide +kernel
theorem d_Mod_sum_36 : decode k_Mod_sum 36 = .ok (.ireturn, 1) := by decide +kernel
set_option maxHeartbeats 4000000 in
set_option maxRecDepth 100000 in
theorem c_Mod_sum (l : Launch) {B : Nat} {D : va_G} {cI cZ cQ : ClassId} {w : mm_M} {sz : Nat} {a b : Nat} (ha1 : a ≤ 1000) (hb1 : b ≤ 1000) : Met l y_Mod_sum ws_Mod_sum (kk_rm 0 0 0) (kk_Pc B D cI cZ cQ [.int (nI (dm_ph a)), .int (nI (dm_ph b))] w sz) (vp_Si (fun r => r = nI (dm_ph (dm_s a b)))) 0 0 (fun _ => False) := by
  refine Met.ofW (cc := k_Mod_sum) (maxL := 2) (ret := (some .int)) (by decide) rfl ?_
  intro p e s m args below meth c s₁ BB hml hv
  obtain ⟨rfl, hK, hP, hz, hBz⟩ := hv
  have hx := BB.exec
  have hb := BB.bytes
  have hr := BB.returns
  have hts := atoms_spec (ws := ws_Mod_sum) BB.pre
  have hown : s.vm.findClass "DelegationClosureModel" = some m.cls := findClass_of_methodNamed BB.named
  have hlocks := BB.notSynchronized
  have hS : mm_S B s.heap s.heap [] := va_S.rf
  have hl := lv_entry ([.int (nI (dm_ph a)), .int (nI (dm_ph b))]) (n := 2) (Nat.le_of_ble_eq_true rfl)
  rw [lg_entry_eq]
  generalize (lg_sl ([.int (nI (dm_ph a)), .int (nI (dm_ph b))]) ++ List.replicate (2 - (lg_sl ([.int (nI (dm_ph a)), .int (nI (dm_ph b))])).length) Slot.unset).toArray = ls at hl ⊢
  have hl : lv_has ls 2 [(0, .int (nI (dm_ph a))), (1, .int (nI (dm_ph b)))] := hl
  have ha5 := dm_ph_le a
  have hb5 := dm_ph_le b
  refine lv_iload_n hx hb d_Mod_sum_0 rfl (lv_at hl 0 rfl) ?_
  refine lv_sipush (v := nI 5000) hx hb d_Mod_sum_1 (by decide) ?_
  refine lv_icmp_eq (tgt := 14) hx hb d_Mod_sum_4 (by decide) (fun cc1 => ?_) (fun cc1 => ?_)
  · have cc1 : dm_ph a = 5000 := (nI_eq (by omega) (by omega)).mp cc1
    refine lv_sipush (v := nI 5000) hx hb d_Mod_sum_14 (by decide) ?_
    exact W.iret hx hb hr (fun t ht hW => ⟨_, rfl, congrArg nI (by rw [dm_ph_s ha1 hb1]; (repeat' split) <;> omega), ht⟩) (fun q hq => by cases hq) d_Mod_sum_17
  · have cc1 : ¬ (dm_ph a = 5000) := fun q => cc1 ((nI_eq (by omega) (by omega)).mpr q)
    refine lv_iload_n hx hb d_Mod_sum_7 rfl (lv_at hl 1 rfl) ?_
    refine lv_sipush (v := nI 5000) hx hb d_Mod_sum_8 (by decide) ?_
    refine lv_icmp_ne (tgt := 18) hx hb d_Mod_sum_11 (by decide) (fun cc2 => ?_) (fun cc2 => ?_)
    · have cc2 : ¬ (dm_ph b = 5000) := fun q => cc2 ((nI_eq (by omega) (by omega)).mpr q)
      refine lv_iload_n hx hb d_Mod_sum_18 rfl (lv_at hl 0 rfl) ?_
      refine lv_iload_n hx hb d_Mod_sum_19 rfl (lv_at hl 1 rfl) ?_
      refine lv_iadd hx hb d_Mod_sum_20 ?_
      refine kk_top (nI_add _ _) ?_
      refine lv_sipush (v := nI 999) hx hb d_Mod_sum_21 (by decide) ?_
      refine lv_icmp_le (tgt := 33) hx hb d_Mod_sum_24 (by decide) (fun cc3 => ?_) (fun cc3 => ?_)
      · have cc3 : (dm_ph a) + (dm_ph b) ≤ 999 := (nI_leI (by omega) (by omega)).mp cc3
        refine lv_iload_n hx hb d_Mod_sum_33 rfl (lv_at hl 0 rfl) ?_
        refine lv_iload_n hx hb d_Mod_sum_34 rfl (lv_at hl 1 rfl) ?_
        refine lv_iadd hx hb d_Mod_sum_35 ?_
        refine kk_top (nI_add _ _) ?_
        exact W.iret hx hb hr (fun t ht hW => ⟨_, rfl, congrArg nI (by rw [dm_ph_s ha1 hb1]; (repeat' split) <;> omega), ht⟩) (fun q hq => by cases hq) d_Mod_sum_36
      · have cc3 : ¬ ((dm_ph a) + (dm_ph b) ≤ 999) := fun q => cc3 ((nI_leI (by omega) (by omega)).mpr q)
        refine lv_sipush (v := nI 999) hx hb d_Mod_sum_27 (by decide) ?_
        refine lv_goto (tgt := 36) hx hb d_Mod_sum_30 (by decide) ?_
        exact W.iret hx hb hr (fun t ht hW => ⟨_, rfl, congrArg nI (by rw [dm_ph_s ha1 hb1]; (repeat' split) <;> omega), ht⟩) (fun q hq => by cases hq) d_Mod_sum_36
    · have cc2 : dm_ph b = 5000 := (nI_eq (by omega) (by omega)).mp cc2
      refine lv_sipush (v := nI 5000) hx hb d_Mod_sum_14 (by decide) ?_
      exact W.iret hx hb hr (fun t ht hW => ⟨_, rfl, congrArg nI (by rw [dm_ph_s ha1 hb1]; (repeat' split) <;> omega), ht⟩) (fun q hq => by cases hq) d_Mod_sum_17
theorem d_Mod_namesOf_0 : decode k_Mod_namesOf 0 = .ok (.iload_n 0, 1) := by decide +kernel
theorem d_Mod_namesOf_1 : decode k_Mod_namesOf 1 = .ok (.iconst 0, 1) := by decide +kernel
theorem d_Mod_namesOf_2 : decode k_Mod_namesOf 2 = .ok (.invokestatic 59, 3) := by decide +kernel
theorem d_Mod_namesOf_5 : decode k_Mod_namesOf 5 = .ok (.ifCond .ge 7, 3) := by decide +kernel
theorem d_Mod_namesOf_8 : decode k_Mod_namesOf 8 = .ok (.iconst 0, 1) := by decide +kernel
theorem d_Mod_namesOf_9 : decode k_Mod_namesOf 9 = .ok (.goto 16, 3) := by decide +kernel
theorem d_Mod_namesOf_12 : decode k_Mod_namesOf 12 = .ok (.iload_n 0, 1) := by decide +kernel
theorem d_Mod_namesOf_13 : decode k_Mod_namesOf 13 = .ok (.iconst 1, 1) := by decide +kernel
theorem d_Mod_namesOf_14 : decode k_Mod_namesOf 14 = .ok (.invokestatic 59, 3) := by decide +kernel
theorem d_Mod_namesOf_17 : decode k_Mod_namesOf 17 = .ok (.ifCond .ge 7, 3) := by decide +kernel
theorem d_Mod_namesOf_20 : decode k_Mod_namesOf 20 = .ok (.iconst 1, 1) := by decide +kernel
theorem d_Mod_namesOf_21 : decode k_Mod_namesOf 21 = .ok (.goto 4, 3) := by decide +kernel
theorem d_Mod_namesOf_24 : decode k_Mod_namesOf 24 = .ok (.iconst 2, 1) := by decide +kernel
theorem d_Mod_namesOf_25 : decode k_Mod_namesOf 25 = .ok (.ireturn, 1) := by decide +kernel
set_option maxHeartbeats 4000000 in
set_option maxRecDepth 100000 in
theorem c_Mod_namesOf (l : Launch) {B : Nat} {D : va_G} {cI cZ cQ : ClassId} {w : mm_M} {sz : Nat} {n : Nat} (hn : n < 2 ^ 30) : Met l y_Mod_namesOf ws_Mod_namesOf (kk_rm 1 0 0) (kk_Pc B D cI cZ cQ [.int (nI n)] w sz) (vp_Si (fun r => r = nI (if n / 8 % 5 = 0 then 0 else if n / 40 = 0 then 1 else 2))) 0 0 (fun _ => False) := by
  refine Met.ofW (cc := k_Mod_namesOf) (maxL := 1) (ret := (some .int)) (by decide) rfl ?_
  intro p e s m args below meth c s₁ BB hml hv
  obtain ⟨rfl, hK, hP, hz, hBz⟩ := hv
  have hx := BB.exec
  have hb := BB.bytes
  have hr := BB.returns
  have hts := atoms_spec (ws := ws_Mod_namesOf) BB.pre
  have hown : s.vm.findClass "DelegationClosureModel" = some m.cls := findClass_of_methodNamed BB.named
  have hlocks := BB.notSynchronized
  have hS : mm_S B s.heap s.heap [] := va_S.rf
  have hl := lv_entry ([.int (nI n)]) (n := 1) (Nat.le_of_ble_eq_true rfl)
  rw [lg_entry_eq]
  generalize (lg_sl ([.int (nI n)]) ++ List.replicate (1 - (lg_sl ([.int (nI n)])).length) Slot.unset).toArray = ls at hl ⊢
  have hl : lv_has ls 1 [(0, .int (nI n))] := hl
  refine lv_iload_n hx hb d_Mod_namesOf_0 rfl (lv_at hl 0 rfl) ?_
  refine lv_iconst (v := nI 0) hx hb d_Mod_namesOf_1 (by decide) ?_
  refine vp_callSi (va_Run.run (va_runS (As := [.int (nI n), .int (nI 0)]) (rest := []) ⟨hx, hb, hml, hown, hts⟩ (c_Mod_nameOf0 l (by omega)) (va_cwS 2 hts (gW_in (hd := [_, _, _, _]) (kk_4 wd_580 wd_581 wd_8 cw_Mod_nameOf)) rfl rfl rfl ds_Mod_nameOf ⟨Nat.le_of_ble_eq_true rfl, Nat.le_of_ble_eq_true rfl⟩) (kk_preS hK hP hz hBz) rfl rfl hl.1 rfl (lv_room (Nat.le_of_ble_eq_true rfl)) d_Mod_namesOf_2 ⟨Nat.le_of_ble_eq_true rfl, Nat.le_of_ble_eq_true rfl⟩)) (fun r1 hr1 => ?_)
  subst hr1
  refine lv_if_ge (tgt := 12) hx hb d_Mod_namesOf_5 (by decide) (fun cc2 => ?_) (fun cc2 => ?_)
  · have cc2 := Int32.not_lt.mpr cc2
    have cc2 : ¬ n / 8 % 5 = 0 := fun q => cc2 ((kk_nmlt (by omega)).mpr q)
    refine lv_iload_n hx hb d_Mod_namesOf_12 rfl (lv_at hl 0 rfl) ?_
    refine lv_iconst (v := nI 1) hx hb d_Mod_namesOf_13 (by decide) ?_
    refine vp_callSi (va_Run.run (va_runS (As := [.int (nI n), .int (nI 1)]) (rest := []) ⟨hx, hb, hml, hown, hts⟩ (c_Mod_nameOf1 l (by omega)) (va_cwS 2 hts (gW_in (hd := [_, _, _, _]) (kk_4 wd_580 wd_581 wd_8 cw_Mod_nameOf)) rfl rfl rfl ds_Mod_nameOf ⟨Nat.le_of_ble_eq_true rfl, Nat.le_of_ble_eq_true rfl⟩) (kk_preS hK hP hz hBz) rfl rfl hl.1 rfl (lv_room (Nat.le_of_ble_eq_true rfl)) d_Mod_namesOf_14 ⟨Nat.le_of_ble_eq_true rfl, Nat.le_of_ble_eq_true rfl⟩)) (fun r3 hr3 => ?_)
    subst hr3
    refine lv_if_ge (tgt := 24) hx hb d_Mod_namesOf_17 (by decide) (fun cc4 => ?_) (fun cc4 => ?_)
    · have cc4 := Int32.not_lt.mpr cc4
      have cc4 : ¬ n / 40 = 0 := fun q => cc4 ((kk_nmlt (by omega)).mpr q)
      refine lv_iconst (v := nI 2) hx hb d_Mod_namesOf_24 (by decide) ?_
      exact W.iret hx hb hr (fun t ht hW => ⟨_, rfl, congrArg nI (by (repeat' split) <;> omega), ht⟩) (fun q hq => by cases hq) d_Mod_namesOf_25
    · have cc4 := Int32.not_le.mp cc4
      have cc4 : n / 40 = 0 := (kk_nmlt (by omega)).mp cc4
      refine lv_iconst (v := nI 1) hx hb d_Mod_namesOf_20 (by decide) ?_
      refine lv_goto (tgt := 25) hx hb d_Mod_namesOf_21 (by decide) ?_
      exact W.iret hx hb hr (fun t ht hW => ⟨_, rfl, congrArg nI (by (repeat' split) <;> omega), ht⟩) (fun q hq => by cases hq) d_Mod_namesOf_25
  · have cc2 := Int32.not_le.mp cc2
    have cc2 : n / 8 % 5 = 0 := (kk_nmlt (by omega)).mp cc2
    refine lv_iconst (v := nI 0) hx hb d_Mod_namesOf_8 (by decide) ?_
    refine lv_goto (tgt := 25) hx hb d_Mod_namesOf_9 (by decide) ?_
    exact W.iret hx hb hr (fun t ht hW => ⟨_, rfl, congrArg nI (by (repeat' split) <;> omega), ht⟩) (fun q hq => by cases hq) d_Mod_namesOf_25
