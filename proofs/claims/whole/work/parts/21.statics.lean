theorem d_X_isKey_0 : decode k_X_isKey 0 = .ok (.iload_n 0, 1) := by decide +kernel
theorem d_X_isKey_1 : decode k_X_isKey 1 = .ok (.ifCond .lt 13, 3) := by decide +kernel
theorem d_X_isKey_4 : decode k_X_isKey 4 = .ok (.iload_n 0, 1) := by decide +kernel
theorem d_X_isKey_5 : decode k_X_isKey 5 = .ok (.bipush 8, 2) := by decide +kernel
theorem d_X_isKey_7 : decode k_X_isKey 7 = .ok (.if_icmp .ge 7, 3) := by decide +kernel
theorem d_X_isKey_10 : decode k_X_isKey 10 = .ok (.iconst 1, 1) := by decide +kernel
theorem d_X_isKey_11 : decode k_X_isKey 11 = .ok (.goto 4, 3) := by decide +kernel
theorem d_X_isKey_14 : decode k_X_isKey 14 = .ok (.iconst 0, 1) := by decide +kernel
theorem d_X_isKey_15 : decode k_X_isKey 15 = .ok (.ireturn, 1) := by decide +kernel
set_option maxHeartbeats 4000000 in
set_option maxRecDepth 100000 in
theorem c_X_isKey (l : Launch) {B : Nat} {D : va_G} {cI cZ cQ : ClassId} {w : mm_M} {sz : Nat} {x : Int32} : Met l y_X_isKey ws_X_isKey (kk_rm 0 0 0) (kk_Pc B D cI cZ cQ [.int x] w sz) (vp_Si (fun r => r = nI (if ¬ x < 0 ∧ ¬ nI 8 ≤ x then 1 else 0))) 0 0 (fun _ => False) := by
  refine Met.ofW (cc := k_X_isKey) (maxL := 1) (ret := (some .boolean)) (by decide) rfl ?_
  intro p e s m args below meth c s₁ BB hml hv
  obtain ⟨rfl, hK, hP, hz, hBz⟩ := hv
  have hx := BB.exec
  have hb := BB.bytes
  have hr := BB.returns
  have hts := atoms_spec (ws := ws_X_isKey) BB.pre
  have hown : s.vm.findClass "DelegationClosure" = some m.cls := findClass_of_methodNamed BB.named
  have hlocks := BB.notSynchronized
  have hS : mm_S B s.heap s.heap [] := va_S.rf
  have hl := lv_entry ([.int x]) (n := 1) (Nat.le_of_ble_eq_true rfl)
  rw [lg_entry_eq]
  generalize (lg_sl ([.int x]) ++ List.replicate (1 - (lg_sl ([.int x])).length) Slot.unset).toArray = ls at hl ⊢
  have hl : lv_has ls 1 [(0, .int x)] := hl
  refine lv_iload_n hx hb d_X_isKey_0 rfl (lv_at hl 0 rfl) ?_
  refine lv_if_lt (tgt := 14) hx hb d_X_isKey_1 (by decide) (fun cc1 => ?_) (fun cc1 => ?_)
  · refine lv_iconst (v := nI 0) hx hb d_X_isKey_14 (by decide) ?_
    exact W.zret hx hb hr rfl (fun t ht hW => ⟨_, rfl, by simp only [cc1, not_true_eq_false, not_false_eq_true, and_true, true_and, and_false, false_and, or_true, true_or, or_false, false_or, and_self, or_self, if_true, if_false, ite_true, ite_false, ↓reduceIte], ht⟩) (fun q hq => by cases hq) d_X_isKey_15
  · refine lv_iload_n hx hb d_X_isKey_4 rfl (lv_at hl 0 rfl) ?_
    refine lv_bipush (v := nI 8) hx hb d_X_isKey_5 (by decide) ?_
    refine lv_icmp_ge (tgt := 14) hx hb d_X_isKey_7 (by decide) (fun cc2 => ?_) (fun cc2 => ?_)
    · refine lv_iconst (v := nI 0) hx hb d_X_isKey_14 (by decide) ?_
      exact W.zret hx hb hr rfl (fun t ht hW => ⟨_, rfl, by simp only [cc1, cc2, not_true_eq_false, not_false_eq_true, and_true, true_and, and_false, false_and, or_true, true_or, or_false, false_or, and_self, or_self, if_true, if_false, ite_true, ite_false, ↓reduceIte], ht⟩) (fun q hq => by cases hq) d_X_isKey_15
    · refine lv_iconst (v := nI 1) hx hb d_X_isKey_10 (by decide) ?_
      refine lv_goto (tgt := 15) hx hb d_X_isKey_11 (by decide) ?_
      exact W.zret hx hb hr rfl (fun t ht hW => ⟨_, rfl, by simp only [cc1, cc2, not_true_eq_false, not_false_eq_true, and_true, true_and, and_false, false_and, or_true, true_or, or_false, false_or, and_self, or_self, if_true, if_false, ite_true, ite_false, ↓reduceIte], ht⟩) (fun q hq => by cases hq) d_X_isKey_15
theorem d_X_isOperation_0 : decode k_X_isOperation 0 = .ok (.iload_n 0, 1) := by decide +kernel
theorem d_X_isOperation_1 : decode k_X_isOperation 1 = .ok (.ifCond .lt 13, 3) := by decide +kernel
theorem d_X_isOperation_4 : decode k_X_isOperation 4 = .ok (.iload_n 0, 1) := by decide +kernel
theorem d_X_isOperation_5 : decode k_X_isOperation 5 = .ok (.bipush 8, 2) := by decide +kernel
theorem d_X_isOperation_7 : decode k_X_isOperation 7 = .ok (.if_icmp .ge 7, 3) := by decide +kernel
theorem d_X_isOperation_10 : decode k_X_isOperation 10 = .ok (.iconst 1, 1) := by decide +kernel
theorem d_X_isOperation_11 : decode k_X_isOperation 11 = .ok (.goto 4, 3) := by decide +kernel
theorem d_X_isOperation_14 : decode k_X_isOperation 14 = .ok (.iconst 0, 1) := by decide +kernel
theorem d_X_isOperation_15 : decode k_X_isOperation 15 = .ok (.ireturn, 1) := by decide +kernel
set_option maxHeartbeats 4000000 in
set_option maxRecDepth 100000 in
theorem c_X_isOperation (l : Launch) {B : Nat} {D : va_G} {cI cZ cQ : ClassId} {w : mm_M} {sz : Nat} {x : Int32} : Met l y_X_isOperation ws_X_isOperation (kk_rm 0 0 0) (kk_Pc B D cI cZ cQ [.int x] w sz) (vp_Si (fun r => r = nI (if ¬ x < 0 ∧ ¬ nI 8 ≤ x then 1 else 0))) 0 0 (fun _ => False) := by
  refine Met.ofW (cc := k_X_isOperation) (maxL := 1) (ret := (some .boolean)) (by decide) rfl ?_
  intro p e s m args below meth c s₁ BB hml hv
  obtain ⟨rfl, hK, hP, hz, hBz⟩ := hv
  have hx := BB.exec
  have hb := BB.bytes
  have hr := BB.returns
  have hts := atoms_spec (ws := ws_X_isOperation) BB.pre
  have hown : s.vm.findClass "DelegationClosure" = some m.cls := findClass_of_methodNamed BB.named
  have hlocks := BB.notSynchronized
  have hS : mm_S B s.heap s.heap [] := va_S.rf
  have hl := lv_entry ([.int x]) (n := 1) (Nat.le_of_ble_eq_true rfl)
  rw [lg_entry_eq]
  generalize (lg_sl ([.int x]) ++ List.replicate (1 - (lg_sl ([.int x])).length) Slot.unset).toArray = ls at hl ⊢
  have hl : lv_has ls 1 [(0, .int x)] := hl
  refine lv_iload_n hx hb d_X_isOperation_0 rfl (lv_at hl 0 rfl) ?_
  refine lv_if_lt (tgt := 14) hx hb d_X_isOperation_1 (by decide) (fun cc1 => ?_) (fun cc1 => ?_)
  · refine lv_iconst (v := nI 0) hx hb d_X_isOperation_14 (by decide) ?_
    exact W.zret hx hb hr rfl (fun t ht hW => ⟨_, rfl, by simp only [cc1, not_true_eq_false, not_false_eq_true, and_true, true_and, and_false, false_and, or_true, true_or, or_false, false_or, and_self, or_self, if_true, if_false, ite_true, ite_false, ↓reduceIte], ht⟩) (fun q hq => by cases hq) d_X_isOperation_15
  · refine lv_iload_n hx hb d_X_isOperation_4 rfl (lv_at hl 0 rfl) ?_
    refine lv_bipush (v := nI 8) hx hb d_X_isOperation_5 (by decide) ?_
    refine lv_icmp_ge (tgt := 14) hx hb d_X_isOperation_7 (by decide) (fun cc2 => ?_) (fun cc2 => ?_)
    · refine lv_iconst (v := nI 0) hx hb d_X_isOperation_14 (by decide) ?_
      exact W.zret hx hb hr rfl (fun t ht hW => ⟨_, rfl, by simp only [cc1, cc2, not_true_eq_false, not_false_eq_true, and_true, true_and, and_false, false_and, or_true, true_or, or_false, false_or, and_self, or_self, if_true, if_false, ite_true, ite_false, ↓reduceIte], ht⟩) (fun q hq => by cases hq) d_X_isOperation_15
    · refine lv_iconst (v := nI 1) hx hb d_X_isOperation_10 (by decide) ?_
      refine lv_goto (tgt := 15) hx hb d_X_isOperation_11 (by decide) ?_
      exact W.zret hx hb hr rfl (fun t ht hW => ⟨_, rfl, by simp only [cc1, cc2, not_true_eq_false, not_false_eq_true, and_true, true_and, and_false, false_and, or_true, true_or, or_false, false_or, and_self, or_self, if_true, if_false, ite_true, ite_false, ↓reduceIte], ht⟩) (fun q hq => by cases hq) d_X_isOperation_15
theorem d_X_keyOf_0 : decode k_X_keyOf 0 = .ok (.iload_n 0, 1) := by decide +kernel
theorem d_X_keyOf_1 : decode k_X_keyOf 1 = .ok (.bipush 8, 2) := by decide +kernel
theorem d_X_keyOf_3 : decode k_X_keyOf 3 = .ok (.irem, 1) := by decide +kernel
theorem d_X_keyOf_4 : decode k_X_keyOf 4 = .ok (.ireturn, 1) := by decide +kernel
set_option maxHeartbeats 4000000 in
set_option maxRecDepth 100000 in
theorem c_X_keyOf (l : Launch) {B : Nat} {D : va_G} {cI cZ cQ : ClassId} {w : mm_M} {sz : Nat} {n : Nat} (hn : n < 2 ^ 30) : Met l y_X_keyOf ws_X_keyOf (kk_rm 0 0 0) (kk_Pc B D cI cZ cQ [.int (nI n)] w sz) (vp_Si (fun r => r = nI (n % 8))) 0 0 (fun _ => False) := by
  refine Met.ofW (cc := k_X_keyOf) (maxL := 1) (ret := (some .int)) (by decide) rfl ?_
  intro p e s m args below meth c s₁ BB hml hv
  obtain ⟨rfl, hK, hP, hz, hBz⟩ := hv
  have hx := BB.exec
  have hb := BB.bytes
  have hr := BB.returns
  have hts := atoms_spec (ws := ws_X_keyOf) BB.pre
  have hown : s.vm.findClass "DelegationClosure" = some m.cls := findClass_of_methodNamed BB.named
  have hlocks := BB.notSynchronized
  have hS : mm_S B s.heap s.heap [] := va_S.rf
  have hl := lv_entry ([.int (nI n)]) (n := 1) (Nat.le_of_ble_eq_true rfl)
  rw [lg_entry_eq]
  generalize (lg_sl ([.int (nI n)]) ++ List.replicate (1 - (lg_sl ([.int (nI n)])).length) Slot.unset).toArray = ls at hl ⊢
  have hl : lv_has ls 1 [(0, .int (nI n))] := hl
  refine lv_iload_n hx hb d_X_keyOf_0 rfl (lv_at hl 0 rfl) ?_
  refine lv_bipush (v := nI 8) hx hb d_X_keyOf_1 (by decide) ?_
  refine lv_irem hx hb d_X_keyOf_3 (by decide) ?_
  refine kk_top (pk_rem (by omega) (by omega) (by omega)) ?_
  exact W.iret hx hb hr (fun t ht hW => ⟨_, rfl, rfl, ht⟩) (fun q hq => by cases hq) d_X_keyOf_4
theorem d_X_firstNameOf_0 : decode k_X_firstNameOf 0 = .ok (.iload_n 0, 1) := by decide +kernel
theorem d_X_firstNameOf_1 : decode k_X_firstNameOf 1 = .ok (.bipush 8, 2) := by decide +kernel
theorem d_X_firstNameOf_3 : decode k_X_firstNameOf 3 = .ok (.idiv, 1) := by decide +kernel
theorem d_X_firstNameOf_4 : decode k_X_firstNameOf 4 = .ok (.iconst 5, 1) := by decide +kernel
theorem d_X_firstNameOf_5 : decode k_X_firstNameOf 5 = .ok (.irem, 1) := by decide +kernel
theorem d_X_firstNameOf_6 : decode k_X_firstNameOf 6 = .ok (.iconst 1, 1) := by decide +kernel
theorem d_X_firstNameOf_7 : decode k_X_firstNameOf 7 = .ok (.isub, 1) := by decide +kernel
theorem d_X_firstNameOf_8 : decode k_X_firstNameOf 8 = .ok (.ireturn, 1) := by decide +kernel
set_option maxHeartbeats 4000000 in
set_option maxRecDepth 100000 in
theorem c_X_firstNameOf (l : Launch) {B : Nat} {D : va_G} {cI cZ cQ : ClassId} {w : mm_M} {sz : Nat} {n : Nat} (hn : n < 2 ^ 30) : Met l y_X_firstNameOf ws_X_firstNameOf (kk_rm 0 0 0) (kk_Pc B D cI cZ cQ [.int (nI n)] w sz) (vp_Si (fun r => r = nI (n / 8 % 5) - nI 1)) 0 0 (fun _ => False) := by
  refine Met.ofW (cc := k_X_firstNameOf) (maxL := 1) (ret := (some .int)) (by decide) rfl ?_
  intro p e s m args below meth c s₁ BB hml hv
  obtain ⟨rfl, hK, hP, hz, hBz⟩ := hv
  have hx := BB.exec
  have hb := BB.bytes
  have hr := BB.returns
  have hts := atoms_spec (ws := ws_X_firstNameOf) BB.pre
  have hown : s.vm.findClass "DelegationClosure" = some m.cls := findClass_of_methodNamed BB.named
  have hlocks := BB.notSynchronized
  have hS : mm_S B s.heap s.heap [] := va_S.rf
  have hl := lv_entry ([.int (nI n)]) (n := 1) (Nat.le_of_ble_eq_true rfl)
  rw [lg_entry_eq]
  generalize (lg_sl ([.int (nI n)]) ++ List.replicate (1 - (lg_sl ([.int (nI n)])).length) Slot.unset).toArray = ls at hl ⊢
  have hl : lv_has ls 1 [(0, .int (nI n))] := hl
  refine lv_iload_n hx hb d_X_firstNameOf_0 rfl (lv_at hl 0 rfl) ?_
  refine lv_bipush (v := nI 8) hx hb d_X_firstNameOf_1 (by decide) ?_
  refine lv_idiv hx hb d_X_firstNameOf_3 (by decide) ?_
  refine kk_top (pk_div (by omega) (by omega) (by omega)) ?_
  refine lv_iconst (v := nI 5) hx hb d_X_firstNameOf_4 (by decide) ?_
  refine lv_irem hx hb d_X_firstNameOf_5 (by decide) ?_
  refine kk_top (pk_rem (by omega) (by omega) (by omega)) ?_
  refine lv_iconst (v := nI 1) hx hb d_X_firstNameOf_6 (by decide) ?_
  refine lv_isub hx hb d_X_firstNameOf_7 ?_
  exact W.iret hx hb hr (fun t ht hW => ⟨_, rfl, rfl, ht⟩) (fun q hq => by cases hq) d_X_firstNameOf_8
theorem d_X_secondNameOf_0 : decode k_X_secondNameOf 0 = .ok (.iload_n 0, 1) := by decide +kernel
theorem d_X_secondNameOf_1 : decode k_X_secondNameOf 1 = .ok (.bipush 40, 2) := by decide +kernel
theorem d_X_secondNameOf_3 : decode k_X_secondNameOf 3 = .ok (.idiv, 1) := by decide +kernel
theorem d_X_secondNameOf_4 : decode k_X_secondNameOf 4 = .ok (.iconst 1, 1) := by decide +kernel
theorem d_X_secondNameOf_5 : decode k_X_secondNameOf 5 = .ok (.isub, 1) := by decide +kernel
theorem d_X_secondNameOf_6 : decode k_X_secondNameOf 6 = .ok (.ireturn, 1) := by decide +kernel
set_option maxHeartbeats 4000000 in
set_option maxRecDepth 100000 in
theorem c_X_secondNameOf (l : Launch) {B : Nat} {D : va_G} {cI cZ cQ : ClassId} {w : mm_M} {sz : Nat} {n : Nat} (hn : n < 2 ^ 30) : Met l y_X_secondNameOf ws_X_secondNameOf (kk_rm 0 0 0) (kk_Pc B D cI cZ cQ [.int (nI n)] w sz) (vp_Si (fun r => r = nI (n / 40) - nI 1)) 0 0 (fun _ => False) := by
  refine Met.ofW (cc := k_X_secondNameOf) (maxL := 1) (ret := (some .int)) (by decide) rfl ?_
  intro p e s m args below meth c s₁ BB hml hv
  obtain ⟨rfl, hK, hP, hz, hBz⟩ := hv
  have hx := BB.exec
  have hb := BB.bytes
  have hr := BB.returns
  have hts := atoms_spec (ws := ws_X_secondNameOf) BB.pre
  have hown : s.vm.findClass "DelegationClosure" = some m.cls := findClass_of_methodNamed BB.named
  have hlocks := BB.notSynchronized
  have hS : mm_S B s.heap s.heap [] := va_S.rf
  have hl := lv_entry ([.int (nI n)]) (n := 1) (Nat.le_of_ble_eq_true rfl)
  rw [lg_entry_eq]
  generalize (lg_sl ([.int (nI n)]) ++ List.replicate (1 - (lg_sl ([.int (nI n)])).length) Slot.unset).toArray = ls at hl ⊢
  have hl : lv_has ls 1 [(0, .int (nI n))] := hl
  refine lv_iload_n hx hb d_X_secondNameOf_0 rfl (lv_at hl 0 rfl) ?_
  refine lv_bipush (v := nI 40) hx hb d_X_secondNameOf_1 (by decide) ?_
  refine lv_idiv hx hb d_X_secondNameOf_3 (by decide) ?_
  refine kk_top (pk_div (by omega) (by omega) (by omega)) ?_
  refine lv_iconst (v := nI 1) hx hb d_X_secondNameOf_4 (by decide) ?_
  refine lv_isub hx hb d_X_secondNameOf_5 ?_
  exact W.iret hx hb hr (fun t ht hW => ⟨_, rfl, rfl, ht⟩) (fun q hq => by cases hq) d_X_secondNameOf_6
theorem d_X_namesIn_0 : decode k_X_namesIn 0 = .ok (.iload_n 0, 1) := by decide +kernel
theorem d_X_namesIn_1 : decode k_X_namesIn 1 = .ok (.invokestatic 157, 3) := by decide +kernel
theorem d_X_namesIn_4 : decode k_X_namesIn 4 = .ok (.iconst (-1), 1) := by decide +kernel
theorem d_X_namesIn_5 : decode k_X_namesIn 5 = .ok (.if_icmp .ne 5, 3) := by decide +kernel
theorem d_X_namesIn_8 : decode k_X_namesIn 8 = .ok (.iconst 0, 1) := by decide +kernel
theorem d_X_namesIn_9 : decode k_X_namesIn 9 = .ok (.ireturn, 1) := by decide +kernel
theorem d_X_namesIn_10 : decode k_X_namesIn 10 = .ok (.iload_n 0, 1) := by decide +kernel
theorem d_X_namesIn_11 : decode k_X_namesIn 11 = .ok (.invokestatic 160, 3) := by decide +kernel
theorem d_X_namesIn_14 : decode k_X_namesIn 14 = .ok (.iconst (-1), 1) := by decide +kernel
theorem d_X_namesIn_15 : decode k_X_namesIn 15 = .ok (.if_icmp .ne 7, 3) := by decide +kernel
theorem d_X_namesIn_18 : decode k_X_namesIn 18 = .ok (.iconst 1, 1) := by decide +kernel
theorem d_X_namesIn_19 : decode k_X_namesIn 19 = .ok (.goto 4, 3) := by decide +kernel
theorem d_X_namesIn_22 : decode k_X_namesIn 22 = .ok (.iconst 2, 1) := by decide +kernel
theorem d_X_namesIn_23 : decode k_X_namesIn 23 = .ok (.ireturn, 1) := by decide +kernel
set_option maxHeartbeats 4000000 in
set_option maxRecDepth 100000 in
theorem c_X_namesIn (l : Launch) {B : Nat} {D : va_G} {cI cZ cQ : ClassId} {w : mm_M} {sz : Nat} {n : Nat} (hn : n < 2 ^ 30) : Met l y_X_namesIn ws_X_namesIn (kk_rm 1 0 0) (kk_Pc B D cI cZ cQ [.int (nI n)] w sz) (vp_Si (fun r => r = nI (if n / 8 % 5 = 0 then 0 else if n / 40 = 0 then 1 else 2))) 0 0 (fun _ => False) := by
  refine Met.ofW (cc := k_X_namesIn) (maxL := 1) (ret := (some .int)) (by decide) rfl ?_
  intro p e s m args below meth c s₁ BB hml hv
  obtain ⟨rfl, hK, hP, hz, hBz⟩ := hv
  have hx := BB.exec
  have hb := BB.bytes
  have hr := BB.returns
  have hts := atoms_spec (ws := ws_X_namesIn) BB.pre
  have hown : s.vm.findClass "DelegationClosure" = some m.cls := findClass_of_methodNamed BB.named
  have hlocks := BB.notSynchronized
  have hS : mm_S B s.heap s.heap [] := va_S.rf
  have hl := lv_entry ([.int (nI n)]) (n := 1) (Nat.le_of_ble_eq_true rfl)
  rw [lg_entry_eq]
  generalize (lg_sl ([.int (nI n)]) ++ List.replicate (1 - (lg_sl ([.int (nI n)])).length) Slot.unset).toArray = ls at hl ⊢
  have hl : lv_has ls 1 [(0, .int (nI n))] := hl
  refine lv_iload_n hx hb d_X_namesIn_0 rfl (lv_at hl 0 rfl) ?_
  refine vp_callSi (va_Run.run (va_runS (As := [.int (nI n)]) (rest := []) ⟨hx, hb, hml, hown, hts⟩ (c_X_firstNameOf l (by omega)) (va_cwS 1 hts (gW_in (hd := [_, _, _, _]) (kk_4 wd_155 wd_156 wd_1 cw_X_firstNameOf)) rfl rfl rfl ds_X_firstNameOf ⟨Nat.le_of_ble_eq_true rfl, Nat.le_of_ble_eq_true rfl⟩) (kk_preS hK hP hz hBz) rfl rfl hl.1 rfl (lv_room (Nat.le_of_ble_eq_true rfl)) d_X_namesIn_1 ⟨Nat.le_of_ble_eq_true rfl, Nat.le_of_ble_eq_true rfl⟩)) (fun r1 hr1 => ?_)
  subst hr1
  refine lv_iconst (v := (-1)) hx hb d_X_namesIn_4 (by decide) ?_
  refine lv_icmp_ne (tgt := 10) hx hb d_X_namesIn_5 (by decide) (fun cc2 => ?_) (fun cc2 => ?_)
  · have cc2 : ¬ n / 8 % 5 = 0 := fun q => cc2 ((kk_nm (by omega)).mpr q)
    refine lv_iload_n hx hb d_X_namesIn_10 rfl (lv_at hl 0 rfl) ?_
    refine vp_callSi (va_Run.run (va_runS (As := [.int (nI n)]) (rest := []) ⟨hx, hb, hml, hown, hts⟩ (c_X_secondNameOf l (by omega)) (va_cwS 1 hts (gW_in (hd := [_, _, _, _]) (kk_4 wd_158 wd_159 wd_1 cw_X_secondNameOf)) rfl rfl rfl ds_X_secondNameOf ⟨Nat.le_of_ble_eq_true rfl, Nat.le_of_ble_eq_true rfl⟩) (kk_preS hK hP hz hBz) rfl rfl hl.1 rfl (lv_room (Nat.le_of_ble_eq_true rfl)) d_X_namesIn_11 ⟨Nat.le_of_ble_eq_true rfl, Nat.le_of_ble_eq_true rfl⟩)) (fun r3 hr3 => ?_)
    subst hr3
    refine lv_iconst (v := (-1)) hx hb d_X_namesIn_14 (by decide) ?_
    refine lv_icmp_ne (tgt := 22) hx hb d_X_namesIn_15 (by decide) (fun cc4 => ?_) (fun cc4 => ?_)
    · have cc4 : ¬ n / 40 = 0 := fun q => cc4 ((kk_nm (by omega)).mpr q)
      refine lv_iconst (v := nI 2) hx hb d_X_namesIn_22 (by decide) ?_
      exact W.iret hx hb hr (fun t ht hW => ⟨_, rfl, congrArg nI (by (repeat' split) <;> omega), ht⟩) (fun q hq => by cases hq) d_X_namesIn_23
    · have cc4 : n / 40 = 0 := (kk_nm (by omega)).mp cc4
      refine lv_iconst (v := nI 1) hx hb d_X_namesIn_18 (by decide) ?_
      refine lv_goto (tgt := 23) hx hb d_X_namesIn_19 (by decide) ?_
      exact W.iret hx hb hr (fun t ht hW => ⟨_, rfl, congrArg nI (by (repeat' split) <;> omega), ht⟩) (fun q hq => by cases hq) d_X_namesIn_23
  · have cc2 : n / 8 % 5 = 0 := (kk_nm (by omega)).mp cc2
    refine lv_iconst (v := nI 0) hx hb d_X_namesIn_8 (by decide) ?_
    exact W.iret hx hb hr (fun t ht hW => ⟨_, rfl, congrArg nI (by (repeat' split) <;> omega), ht⟩) (fun q hq => by cases hq) d_X_namesIn_9
theorem d_X_sumOf_0 : decode k_X_sumOf 0 = .ok (.iload_n 0, 1) := by decide +kernel
theorem d_X_sumOf_1 : decode k_X_sumOf 1 = .ok (.sipush 1000, 3) := by decide +kernel
theorem d_X_sumOf_4 : decode k_X_sumOf 4 = .ok (.if_icmp .eq 10, 3) := by decide +kernel
theorem d_X_sumOf_7 : decode k_X_sumOf 7 = .ok (.iload_n 1, 1) := by decide +kernel
theorem d_X_sumOf_8 : decode k_X_sumOf 8 = .ok (.sipush 1000, 3) := by decide +kernel
theorem d_X_sumOf_11 : decode k_X_sumOf 11 = .ok (.if_icmp .ne 7, 3) := by decide +kernel
theorem d_X_sumOf_14 : decode k_X_sumOf 14 = .ok (.sipush 1000, 3) := by decide +kernel
theorem d_X_sumOf_17 : decode k_X_sumOf 17 = .ok (.ireturn, 1) := by decide +kernel
theorem d_X_sumOf_18 : decode k_X_sumOf 18 = .ok (.iload_n 0, 1) := by decide +kernel
theorem d_X_sumOf_19 : decode k_X_sumOf 19 = .ok (.iload_n 1, 1) := by decide +kernel
theorem d_X_sumOf_20 : decode k_X_sumOf 20 = .ok (.iadd, 1) := by decide +kernel
theorem d_X_sumOf_21 : decode k_X_sumOf 21 = .ok (.istore_n 2, 1) := by decide +kernel
theorem d_X_sumOf_22 : decode k_X_sumOf 22 = .ok (.iload_n 2, 1) := by decide +kernel
theorem d_X_sumOf_23 : decode k_X_sumOf 23 = .ok (.sipush 999, 3) := by decide +kernel
theorem d_X_sumOf_26 : decode k_X_sumOf 26 = .ok (.if_icmp .le 9, 3) := by decide +kernel
theorem d_X_sumOf_29 : decode k_X_sumOf 29 = .ok (.sipush 999, 3) := by decide +kernel
theorem d_X_sumOf_32 : decode k_X_sumOf 32 = .ok (.goto 4, 3) := by decide +kernel
theorem d_X_sumOf_35 : decode k_X_sumOf 35 = .ok (.iload_n 2, 1) := by decide +kernel
theorem d_X_sumOf_36 : decode k_X_sumOf 36 = .ok (.ireturn, 1) := by decide +kernel
set_option maxHeartbeats 4000000 in
set_option maxRecDepth 100000 in
theorem c_X_sumOf (l : Launch) {B : Nat} {D : va_G} {cI cZ cQ : ClassId} {w : mm_M} {sz : Nat} {a b : Nat} (ha : a ≤ 1000) (hb : b ≤ 1000) : Met l y_X_sumOf ws_X_sumOf (kk_rm 0 0 0) (kk_Pc B D cI cZ cQ [.int (nI a), .int (nI b)] w sz) (vp_Si (fun r => r = nI (dm_s a b))) 0 0 (fun _ => False) := by
  refine Met.ofW (cc := k_X_sumOf) (maxL := 3) (ret := (some .int)) (by decide) rfl ?_
  intro p e s m args below meth c s₁ BB hml hv
  obtain ⟨rfl, hK, hP, hz, hBz⟩ := hv
  have hx := BB.exec
  have hb := BB.bytes
  have hr := BB.returns
  have hts := atoms_spec (ws := ws_X_sumOf) BB.pre
  have hown : s.vm.findClass "DelegationClosure" = some m.cls := findClass_of_methodNamed BB.named
  have hlocks := BB.notSynchronized
  have hS : mm_S B s.heap s.heap [] := va_S.rf
  have hl := lv_entry ([.int (nI a), .int (nI b)]) (n := 3) (Nat.le_of_ble_eq_true rfl)
  rw [lg_entry_eq]
  generalize (lg_sl ([.int (nI a), .int (nI b)]) ++ List.replicate (3 - (lg_sl ([.int (nI a), .int (nI b)])).length) Slot.unset).toArray = ls at hl ⊢
  have hl : lv_has ls 3 [(0, .int (nI a)), (1, .int (nI b))] := hl
  refine lv_iload_n hx hb d_X_sumOf_0 rfl (lv_at hl 0 rfl) ?_
  refine lv_sipush (v := nI 1000) hx hb d_X_sumOf_1 (by decide) ?_
  refine lv_icmp_eq (tgt := 14) hx hb d_X_sumOf_4 (by decide) (fun cc1 => ?_) (fun cc1 => ?_)
  · have cc1 : a = 1000 := (nI_eq (by omega) (by omega)).mp cc1
    refine lv_sipush (v := nI 1000) hx hb d_X_sumOf_14 (by decide) ?_
    exact W.iret hx hb hr (fun t ht hW => ⟨_, rfl, congrArg nI (by unfold dm_s; (repeat' split) <;> omega), ht⟩) (fun q hq => by cases hq) d_X_sumOf_17
  · have cc1 : ¬ (a = 1000) := fun q => cc1 ((nI_eq (by omega) (by omega)).mpr q)
    refine lv_iload_n hx hb d_X_sumOf_7 rfl (lv_at hl 1 rfl) ?_
    refine lv_sipush (v := nI 1000) hx hb d_X_sumOf_8 (by decide) ?_
    refine lv_icmp_ne (tgt := 18) hx hb d_X_sumOf_11 (by decide) (fun cc2 => ?_) (fun cc2 => ?_)
    · have cc2 : ¬ (b = 1000) := fun q => cc2 ((nI_eq (by omega) (by omega)).mpr q)
      refine lv_iload_n hx hb d_X_sumOf_18 rfl (lv_at hl 0 rfl) ?_
      refine lv_iload_n hx hb d_X_sumOf_19 rfl (lv_at hl 1 rfl) ?_
      refine lv_iadd hx hb d_X_sumOf_20 ?_
      refine kk_top (nI_add _ _) ?_
      refine lv_istore_n hx hb d_X_sumOf_21 rfl hl (by decide) rfl (fun ls hl => ?_)
      have hl : lv_has ls 3 [(2, .int (nI (a + b))), (0, .int (nI a)), (1, .int (nI b))] := hl
      refine lv_iload_n hx hb d_X_sumOf_22 rfl (lv_at hl 0 rfl) ?_
      refine lv_sipush (v := nI 999) hx hb d_X_sumOf_23 (by decide) ?_
      refine lv_icmp_le (tgt := 35) hx hb d_X_sumOf_26 (by decide) (fun cc3 => ?_) (fun cc3 => ?_)
      · have cc3 : a + b ≤ 999 := (nI_leI (by omega) (by omega)).mp cc3
        refine lv_iload_n hx hb d_X_sumOf_35 rfl (lv_at hl 0 rfl) ?_
        exact W.iret hx hb hr (fun t ht hW => ⟨_, rfl, congrArg nI (by unfold dm_s; (repeat' split) <;> omega), ht⟩) (fun q hq => by cases hq) d_X_sumOf_36
      · have cc3 : ¬ (a + b ≤ 999) := fun q => cc3 ((nI_leI (by omega) (by omega)).mpr q)
        refine lv_sipush (v := nI 999) hx hb d_X_sumOf_29 (by decide) ?_
        refine lv_goto (tgt := 36) hx hb d_X_sumOf_32 (by decide) ?_
        exact W.iret hx hb hr (fun t ht hW => ⟨_, rfl, congrArg nI (by unfold dm_s; (repeat' split) <;> omega), ht⟩) (fun q hq => by cases hq) d_X_sumOf_36
    · have cc2 : b = 1000 := (nI_eq (by omega) (by omega)).mp cc2
      refine lv_sipush (v := nI 1000) hx hb d_X_sumOf_14 (by decide) ?_
      exact W.iret hx hb hr (fun t ht hW => ⟨_, rfl, congrArg nI (by unfold dm_s; (repeat' split) <;> omega), ht⟩) (fun q hq => by cases hq) d_X_sumOf_17
theorem d_X_costOrNone_0 : decode k_X_costOrNone 0 = .ok (.iload_n 0, 1) := by decide +kernel
theorem d_X_costOrNone_1 : decode k_X_costOrNone 1 = .ok (.sipush 1000, 3) := by decide +kernel
theorem d_X_costOrNone_4 : decode k_X_costOrNone 4 = .ok (.if_icmp .ne 7, 3) := by decide +kernel
theorem d_X_costOrNone_7 : decode k_X_costOrNone 7 = .ok (.iconst (-1), 1) := by decide +kernel
theorem d_X_costOrNone_8 : decode k_X_costOrNone 8 = .ok (.goto 4, 3) := by decide +kernel
theorem d_X_costOrNone_11 : decode k_X_costOrNone 11 = .ok (.iload_n 0, 1) := by decide +kernel
theorem d_X_costOrNone_12 : decode k_X_costOrNone 12 = .ok (.ireturn, 1) := by decide +kernel
set_option maxHeartbeats 4000000 in
set_option maxRecDepth 100000 in
theorem c_X_costOrNone (l : Launch) {B : Nat} {D : va_G} {cI cZ cQ : ClassId} {w : mm_M} {sz : Nat} {a : Nat} (ha : a ≤ 1000) : Met l y_X_costOrNone ws_X_costOrNone (kk_rm 0 0 0) (kk_Pc B D cI cZ cQ [.int (nI a)] w sz) (vp_Si (fun r => r = if a = 1000 then -1 else nI a)) 0 0 (fun _ => False) := by
  refine Met.ofW (cc := k_X_costOrNone) (maxL := 1) (ret := (some .int)) (by decide) rfl ?_
  intro p e s m args below meth c s₁ BB hml hv
  obtain ⟨rfl, hK, hP, hz, hBz⟩ := hv
  have hx := BB.exec
  have hb := BB.bytes
  have hr := BB.returns
  have hts := atoms_spec (ws := ws_X_costOrNone) BB.pre
  have hown : s.vm.findClass "DelegationClosure" = some m.cls := findClass_of_methodNamed BB.named
  have hlocks := BB.notSynchronized
  have hS : mm_S B s.heap s.heap [] := va_S.rf
  have hl := lv_entry ([.int (nI a)]) (n := 1) (Nat.le_of_ble_eq_true rfl)
  rw [lg_entry_eq]
  generalize (lg_sl ([.int (nI a)]) ++ List.replicate (1 - (lg_sl ([.int (nI a)])).length) Slot.unset).toArray = ls at hl ⊢
  have hl : lv_has ls 1 [(0, .int (nI a))] := hl
  refine lv_iload_n hx hb d_X_costOrNone_0 rfl (lv_at hl 0 rfl) ?_
  refine lv_sipush (v := nI 1000) hx hb d_X_costOrNone_1 (by decide) ?_
  refine lv_icmp_ne (tgt := 11) hx hb d_X_costOrNone_4 (by decide) (fun cc1 => ?_) (fun cc1 => ?_)
  · have cc1 : ¬ (a = 1000) := fun q => cc1 ((nI_eq (by omega) (by omega)).mpr q)
    refine lv_iload_n hx hb d_X_costOrNone_11 rfl (lv_at hl 0 rfl) ?_
    exact W.iret hx hb hr (fun t ht hW => ⟨_, rfl, (if_neg cc1).symm, ht⟩) (fun q hq => by cases hq) d_X_costOrNone_12
  · have cc1 : a = 1000 := (nI_eq (by omega) (by omega)).mp cc1
    refine lv_iconst (v := (-1)) hx hb d_X_costOrNone_7 (by decide) ?_
    refine lv_goto (tgt := 12) hx hb d_X_costOrNone_8 (by decide) ?_
    exact W.iret hx hb hr (fun t ht hW => ⟨_, rfl, (if_pos cc1).symm, ht⟩) (fun q hq => by cases hq) d_X_costOrNone_12
theorem d_X_isSubject_0 : decode k_X_isSubject 0 = .ok (.iload_n 0, 1) := by decide +kernel
theorem d_X_isSubject_1 : decode k_X_isSubject 1 = .ok (.ifCond .lt 10, 3) := by decide +kernel
theorem d_X_isSubject_4 : decode k_X_isSubject 4 = .ok (.iload_n 0, 1) := by decide +kernel
theorem d_X_isSubject_5 : decode k_X_isSubject 5 = .ok (.sipush 200, 3) := by decide +kernel
theorem d_X_isSubject_8 : decode k_X_isSubject 8 = .ok (.if_icmp .lt 5, 3) := by decide +kernel
theorem d_X_isSubject_11 : decode k_X_isSubject 11 = .ok (.iconst 0, 1) := by decide +kernel
theorem d_X_isSubject_12 : decode k_X_isSubject 12 = .ok (.ireturn, 1) := by decide +kernel
theorem d_X_isSubject_13 : decode k_X_isSubject 13 = .ok (.iload_n 0, 1) := by decide +kernel
theorem d_X_isSubject_14 : decode k_X_isSubject 14 = .ok (.invokestatic 157, 3) := by decide +kernel
theorem d_X_isSubject_17 : decode k_X_isSubject 17 = .ok (.iconst (-1), 1) := by decide +kernel
theorem d_X_isSubject_18 : decode k_X_isSubject 18 = .ok (.if_icmp .ne 11, 3) := by decide +kernel
theorem d_X_isSubject_21 : decode k_X_isSubject 21 = .ok (.iload_n 0, 1) := by decide +kernel
theorem d_X_isSubject_22 : decode k_X_isSubject 22 = .ok (.invokestatic 160, 3) := by decide +kernel
theorem d_X_isSubject_25 : decode k_X_isSubject 25 = .ok (.iconst (-1), 1) := by decide +kernel
theorem d_X_isSubject_26 : decode k_X_isSubject 26 = .ok (.if_icmp .ne 7, 3) := by decide +kernel
theorem d_X_isSubject_29 : decode k_X_isSubject 29 = .ok (.iconst 1, 1) := by decide +kernel
theorem d_X_isSubject_30 : decode k_X_isSubject 30 = .ok (.goto 4, 3) := by decide +kernel
theorem d_X_isSubject_33 : decode k_X_isSubject 33 = .ok (.iconst 0, 1) := by decide +kernel
theorem d_X_isSubject_34 : decode k_X_isSubject 34 = .ok (.ireturn, 1) := by decide +kernel
set_option maxHeartbeats 4000000 in
set_option maxRecDepth 100000 in
theorem c_X_isSubject (l : Launch) {B : Nat} {D : va_G} {cI cZ cQ : ClassId} {w : mm_M} {sz : Nat} {x : Int32} : Met l y_X_isSubject ws_X_isSubject (kk_rm 1 0 0) (kk_Pc B D cI cZ cQ [.int x] w sz) (vp_Si (fun r => r = nI (if wf_sub x then 1 else 0))) 0 0 (fun _ => False) := by
  refine Met.ofW (cc := k_X_isSubject) (maxL := 1) (ret := (some .boolean)) (by decide) rfl ?_
  intro p e s m args below meth c s₁ BB hml hv
  obtain ⟨rfl, hK, hP, hz, hBz⟩ := hv
  have hx := BB.exec
  have hb := BB.bytes
  have hr := BB.returns
  have hts := atoms_spec (ws := ws_X_isSubject) BB.pre
  have hown : s.vm.findClass "DelegationClosure" = some m.cls := findClass_of_methodNamed BB.named
  have hlocks := BB.notSynchronized
  have hS : mm_S B s.heap s.heap [] := va_S.rf
  have hl := lv_entry ([.int x]) (n := 1) (Nat.le_of_ble_eq_true rfl)
  rw [lg_entry_eq]
  generalize (lg_sl ([.int x]) ++ List.replicate (1 - (lg_sl ([.int x])).length) Slot.unset).toArray = ls at hl ⊢
  have hl : lv_has ls 1 [(0, .int x)] := hl
  refine lv_iload_n hx hb d_X_isSubject_0 rfl (lv_at hl 0 rfl) ?_
  refine lv_if_lt (tgt := 11) hx hb d_X_isSubject_1 (by decide) (fun cc1 => ?_) (fun cc1 => ?_)
  · refine lv_iconst (v := nI 0) hx hb d_X_isSubject_11 (by decide) ?_
    exact W.zret hx hb hr rfl (fun t ht hW => ⟨_, rfl, kk_iff (fun q => q.1 cc1), ht⟩) (fun q hq => by cases hq) d_X_isSubject_12
  · refine lv_iload_n hx hb d_X_isSubject_4 rfl (lv_at hl 0 rfl) ?_
    refine lv_sipush (v := nI 200) hx hb d_X_isSubject_5 (by decide) ?_
    refine lv_icmp_lt (tgt := 13) hx hb d_X_isSubject_8 (by decide) (fun cc2 => ?_) (fun cc2 => ?_)
    · obtain ⟨n, hn, hxn⟩ := kk_ofn cc1 (Int32.not_le.mpr cc2) (by omega)
      refine lv_iload_n hx hb d_X_isSubject_13 rfl (lv_at hl 0 rfl) ?_
      refine kk_top (hxn) ?_
      refine vp_callSi (va_Run.run (va_runS (As := [.int (nI n)]) (rest := []) ⟨hx, hb, hml, hown, hts⟩ (c_X_firstNameOf l (by omega)) (va_cwS 1 hts (gW_in (hd := [_, _, _, _]) (kk_4 wd_155 wd_156 wd_1 cw_X_firstNameOf)) rfl rfl rfl ds_X_firstNameOf ⟨Nat.le_of_ble_eq_true rfl, Nat.le_of_ble_eq_true rfl⟩) (kk_preS hK hP hz hBz) rfl rfl hl.1 rfl (lv_room (Nat.le_of_ble_eq_true rfl)) d_X_isSubject_14 ⟨Nat.le_of_ble_eq_true rfl, Nat.le_of_ble_eq_true rfl⟩)) (fun r3 hr3 => ?_)
      subst hr3
      refine lv_iconst (v := (-1)) hx hb d_X_isSubject_17 (by decide) ?_
      refine lv_icmp_ne (tgt := 29) hx hb d_X_isSubject_18 (by decide) (fun cc4 => ?_) (fun cc4 => ?_)
      · have cc4 : ¬ n / 8 % 5 = 0 := fun q => cc4 ((kk_nm (by omega)).mpr q)
        refine lv_iconst (v := nI 1) hx hb d_X_isSubject_29 (by decide) ?_
        refine lv_goto (tgt := 34) hx hb d_X_isSubject_30 (by decide) ?_
        exact W.zret hx hb hr rfl (fun t ht hW => ⟨_, rfl, kk_ift (by rw [hxn, wf_sub_n (by omega)]; omega), ht⟩) (fun q hq => by cases hq) d_X_isSubject_34
      · have cc4 : n / 8 % 5 = 0 := (kk_nm (by omega)).mp cc4
        refine lv_iload_n hx hb d_X_isSubject_21 rfl (lv_at hl 0 rfl) ?_
        refine kk_top (hxn) ?_
        refine vp_callSi (va_Run.run (va_runS (As := [.int (nI n)]) (rest := []) ⟨hx, hb, hml, hown, hts⟩ (c_X_secondNameOf l (by omega)) (va_cwS 1 hts (gW_in (hd := [_, _, _, _]) (kk_4 wd_158 wd_159 wd_1 cw_X_secondNameOf)) rfl rfl rfl ds_X_secondNameOf ⟨Nat.le_of_ble_eq_true rfl, Nat.le_of_ble_eq_true rfl⟩) (kk_preS hK hP hz hBz) rfl rfl hl.1 rfl (lv_room (Nat.le_of_ble_eq_true rfl)) d_X_isSubject_22 ⟨Nat.le_of_ble_eq_true rfl, Nat.le_of_ble_eq_true rfl⟩)) (fun r5 hr5 => ?_)
        subst hr5
        refine lv_iconst (v := (-1)) hx hb d_X_isSubject_25 (by decide) ?_
        refine lv_icmp_ne (tgt := 33) hx hb d_X_isSubject_26 (by decide) (fun cc6 => ?_) (fun cc6 => ?_)
        · have cc6 : ¬ n / 40 = 0 := fun q => cc6 ((kk_nm (by omega)).mpr q)
          refine lv_iconst (v := nI 0) hx hb d_X_isSubject_33 (by decide) ?_
          exact W.zret hx hb hr rfl (fun t ht hW => ⟨_, rfl, kk_iff (fun q => by rw [hxn, wf_sub_n (by omega)] at q; omega), ht⟩) (fun q hq => by cases hq) d_X_isSubject_34
        · have cc6 : n / 40 = 0 := (kk_nm (by omega)).mp cc6
          refine lv_iconst (v := nI 1) hx hb d_X_isSubject_29 (by decide) ?_
          refine lv_goto (tgt := 34) hx hb d_X_isSubject_30 (by decide) ?_
          exact W.zret hx hb hr rfl (fun t ht hW => ⟨_, rfl, kk_ift (by rw [hxn, wf_sub_n (by omega)]; omega), ht⟩) (fun q hq => by cases hq) d_X_isSubject_34
    · refine lv_iconst (v := nI 0) hx hb d_X_isSubject_11 (by decide) ?_
      exact W.zret hx hb hr rfl (fun t ht hW => ⟨_, rfl, kk_iff (fun q => q.2.1 (Int32.not_lt.mp cc2)), ht⟩) (fun q hq => by cases hq) d_X_isSubject_12
