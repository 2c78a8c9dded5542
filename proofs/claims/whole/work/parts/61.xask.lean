theorem d_X_certificates_0 : decode k_X_certificates 0 = .ok (.aload_n 0, 1) := by decide +kernel
theorem d_X_certificates_1 : decode k_X_certificates 1 = .ok (.getfield 12, 3) := by decide +kernel
theorem d_X_certificates_4 : decode k_X_certificates 4 = .ok (.getfield 97, 3) := by decide +kernel
theorem d_X_certificates_7 : decode k_X_certificates 7 = .ok (.ireturn, 1) := by decide +kernel
set_option maxHeartbeats 4000000 in
set_option maxRecDepth 100000 in
theorem c_X_certificates (l : Launch) {B : Nat} {D : va_G} {cI cZ cQ : ClassId} {w : mm_M} {sz : Nat} {b : Nat} {N : Nat → Nat → Nat} {S : Nat → Nat → Int32}  (hXI : xs_I b cI cZ cQ sz N S w) (hR : rg_I N) (hC : ch_I N)  : Met l y_X_certificates ws_X_certificates (kk_rm 0 0 0) (kk_Pc B D cI cZ cQ [.ref b] w sz) (vp_Si (fun r => r = nI (N 0 0))) 0 0 (fun _ => False) := by
  refine Met.ofW (cc := k_X_certificates) (maxL := 1) (ret := (some .int)) (by decide) rfl ?_
  intro p e s m args below meth c s₁ BB hml hv
  obtain ⟨rfl, hK, hP, hz, hBz⟩ := hv
  have hx := BB.exec
  have hb := BB.bytes
  have hr := BB.returns
  have hts := atoms_spec (ws := ws_X_certificates) BB.pre
  have hown : s.vm.findClass "DelegationClosure" = some m.cls := findClass_of_methodNamed BB.named
  have hlocks := BB.notSynchronized
  have hS : mm_S B s.heap s.heap [] := va_S.rf
  have hl := lv_entry ([.ref b]) (n := 1) (Nat.le_of_ble_eq_true rfl)
  rw [lg_entry_eq]
  generalize (lg_sl ([.ref b]) ++ List.replicate (1 - (lg_sl ([.ref b])).length) Slot.unset).toArray = ls at hl ⊢
  have hl : lv_has ls 1 [(0, .ref b)] := hl
  obtain ⟨T, U, ad, ⟨hRe, x0, x3, x4, x5, x6, x7, x8, x9, x10, x11, x12, x13⟩, hXr, hLa⟩ := hXI
  have hn := hRe.2.2.1
  have hC1 := hC.1
  have hC2 := hC.2.1
  have hC3 := hC.2.2.1
  have hC4 := hC.2.2.2.1
  have hC5 := hC.2.2.2.2.1
  have hC6 := hC.2.2.2.2.2.1
  refine lv_aload_n hx hb d_X_certificates_0 rfl (lv_at hl 0 rfl) ?_
  refine mm_get (D := D) (C := n_X) (T := T_X) (N := 4) (v := .ref (b + 1)) hx hb hts lay_X hown hK.1 hP x0 rfl 0 (by decide) (hts _ (List.mem_cons_of_mem _ wd_132)) (fun _ h9 => h9) rfl d_X_certificates_1 ?_
  refine mm_getN (D := D) (C := n_Reg) (T := T_Reg) (N := 2) (v := .int (nI (N 0 0))) hx hb hts lay_Reg hown hK.1 hP hRe.1 rfl 1 (by decide) (hK.2.1 _ nw_35 rfl) (fun _ h9 => h9) rfl d_X_certificates_4 ?_
  exact W.iret hx hb hr (fun t ht hW => ⟨_, rfl, rfl, ht⟩) (fun q hq => by cases hq) d_X_certificates_7
theorem d_X_used_0 : decode k_X_used 0 = .ok (.aload_n 0, 1) := by decide +kernel
theorem d_X_used_1 : decode k_X_used 1 = .ok (.getfield 33, 3) := by decide +kernel
theorem d_X_used_4 : decode k_X_used 4 = .ok (.getfield 151, 3) := by decide +kernel
theorem d_X_used_7 : decode k_X_used 7 = .ok (.ireturn, 1) := by decide +kernel
set_option maxHeartbeats 4000000 in
set_option maxRecDepth 100000 in
theorem c_X_used (l : Launch) {B : Nat} {D : va_G} {cI cZ cQ : ClassId} {w : mm_M} {sz : Nat} {b : Nat} {N : Nat → Nat → Nat} {S : Nat → Nat → Int32}  (hXI : xs_I b cI cZ cQ sz N S w) (hR : rg_I N) (hC : ch_I N)  : Met l y_X_used ws_X_used (kk_rm 0 0 0) (kk_Pc B D cI cZ cQ [.ref b] w sz) (vp_Si (fun r => r = nI (N 25 0))) 0 0 (fun _ => False) := by
  refine Met.ofW (cc := k_X_used) (maxL := 1) (ret := (some .int)) (by decide) rfl ?_
  intro p e s m args below meth c s₁ BB hml hv
  obtain ⟨rfl, hK, hP, hz, hBz⟩ := hv
  have hx := BB.exec
  have hb := BB.bytes
  have hr := BB.returns
  have hts := atoms_spec (ws := ws_X_used) BB.pre
  have hown : s.vm.findClass "DelegationClosure" = some m.cls := findClass_of_methodNamed BB.named
  have hlocks := BB.notSynchronized
  have hS : mm_S B s.heap s.heap [] := va_S.rf
  have hl := lv_entry ([.ref b]) (n := 1) (Nat.le_of_ble_eq_true rfl)
  rw [lg_entry_eq]
  generalize (lg_sl ([.ref b]) ++ List.replicate (1 - (lg_sl ([.ref b])).length) Slot.unset).toArray = ls at hl ⊢
  have hl : lv_has ls 1 [(0, .ref b)] := hl
  obtain ⟨T, U, ad, ⟨hRe, x0, x3, x4, x5, x6, x7, x8, x9, x10, x11, x12, x13⟩, hXr, hLa⟩ := hXI
  have hn := hRe.2.2.1
  have hC1 := hC.1
  have hC2 := hC.2.1
  have hC3 := hC.2.2.1
  have hC4 := hC.2.2.2.1
  have hC5 := hC.2.2.2.2.1
  have hC6 := hC.2.2.2.2.2.1
  refine lv_aload_n hx hb d_X_used_0 rfl (lv_at hl 0 rfl) ?_
  refine mm_get (D := D) (C := n_X) (T := T_X) (N := 4) (v := .ref (b + 9)) hx hb hts lay_X hown hK.1 hP x0 rfl 3 (by decide) (hts _ (List.mem_cons_of_mem _ wd_135)) (fun _ h9 => h9) rfl d_X_used_1 ?_
  refine mm_getN (D := D) (C := n_Chn) (T := T_Chn) (N := 7) (v := .int (nI (N 25 0))) hx hb hts lay_Chn hown hK.1 hP x9 rfl 5 (by decide) (hK.2.1 _ nw_114 rfl) (fun _ h9 => h9) rfl d_X_used_4 ?_
  exact W.iret hx hb hr (fun t ht hW => ⟨_, rfl, rfl, ht⟩) (fun q hq => by cases hq) d_X_used_7
theorem d_X_head_0 : decode k_X_head 0 = .ok (.aload_n 0, 1) := by decide +kernel
theorem d_X_head_1 : decode k_X_head 1 = .ok (.getfield 33, 3) := by decide +kernel
theorem d_X_head_4 : decode k_X_head 4 = .ok (.invokevirtual 136, 3) := by decide +kernel
theorem d_X_head_7 : decode k_X_head 7 = .ok (.ifCond .eq 13, 3) := by decide +kernel
theorem d_X_head_10 : decode k_X_head 10 = .ok (.aload_n 0, 1) := by decide +kernel
theorem d_X_head_11 : decode k_X_head 11 = .ok (.getfield 33, 3) := by decide +kernel
theorem d_X_head_14 : decode k_X_head 14 = .ok (.getfield 139, 3) := by decide +kernel
theorem d_X_head_17 : decode k_X_head 17 = .ok (.goto 4, 3) := by decide +kernel
theorem d_X_head_20 : decode k_X_head 20 = .ok (.iconst (-1), 1) := by decide +kernel
theorem d_X_head_21 : decode k_X_head 21 = .ok (.ireturn, 1) := by decide +kernel
set_option maxHeartbeats 4000000 in
set_option maxRecDepth 100000 in
theorem c_X_head (l : Launch) {B : Nat} {D : va_G} {cI cZ cQ : ClassId} {w : mm_M} {sz : Nat} {b : Nat} {N : Nat → Nat → Nat} {S : Nat → Nat → Int32}  (hXI : xs_I b cI cZ cQ sz N S w) (hR : rg_I N) (hC : ch_I N)  : Met l y_X_head ws_X_head (kk_rm 1 0 0) (kk_Pc B D cI cZ cQ [.ref b] w sz) (vp_Si (fun r => r = if N 16 0 = 1 then nI (N 17 0) else -1)) 0 0 (fun _ => False) := by
  refine Met.ofW (cc := k_X_head) (maxL := 1) (ret := (some .int)) (by decide) rfl ?_
  intro p e s m args below meth c s₁ BB hml hv
  obtain ⟨rfl, hK, hP, hz, hBz⟩ := hv
  have hx := BB.exec
  have hb := BB.bytes
  have hr := BB.returns
  have hts := atoms_spec (ws := ws_X_head) BB.pre
  have hown : s.vm.findClass "DelegationClosure" = some m.cls := findClass_of_methodNamed BB.named
  have hlocks := BB.notSynchronized
  have hS : mm_S B s.heap s.heap [] := va_S.rf
  have hl := lv_entry ([.ref b]) (n := 1) (Nat.le_of_ble_eq_true rfl)
  rw [lg_entry_eq]
  generalize (lg_sl ([.ref b]) ++ List.replicate (1 - (lg_sl ([.ref b])).length) Slot.unset).toArray = ls at hl ⊢
  have hl : lv_has ls 1 [(0, .ref b)] := hl
  obtain ⟨T, U, ad, ⟨hRe, x0, x3, x4, x5, x6, x7, x8, x9, x10, x11, x12, x13⟩, hXr, hLa⟩ := hXI
  have hn := hRe.2.2.1
  have hC1 := hC.1
  have hC2 := hC.2.1
  have hC3 := hC.2.2.1
  have hC4 := hC.2.2.2.1
  have hC5 := hC.2.2.2.2.1
  have hC6 := hC.2.2.2.2.2.1
  have hx1 := hXr.1
  refine lv_aload_n hx hb d_X_head_0 rfl (lv_at hl 0 rfl) ?_
  refine mm_get (D := D) (C := n_X) (T := T_X) (N := 4) (v := .ref (b + 9)) hx hb hts lay_X hown hK.1 hP x0 rfl 3 (by decide) (hts _ (List.mem_cons_of_mem _ wd_135)) (fun _ h9 => h9) rfl d_X_head_1 ?_
  refine vp_callSi (va_Run.run (va_runV (As := []) (rest := []) ⟨hx, hb, hml, hown, hts⟩ (c_Chn_isThere l x9 (by omega)) (cwV 0 hts (gW_in (hd := [_, _, _, _, _]) (kk_5 wd_462 wd_438 wd_439 wd_5 cw_Chn_isThere)) rfl rfl rfl ⟨rfl, ds_Chn_isThere⟩ ⟨Nat.le_of_ble_eq_true rfl, Nat.le_of_ble_eq_true rfl⟩) (kk_preV hK hP hz hBz x9 rfl) rfl rfl hl.1 rfl (lv_room (Nat.le_of_ble_eq_true rfl)) d_X_head_4 ⟨Nat.le_of_ble_eq_true rfl, Nat.le_of_ble_eq_true rfl⟩)) (fun r1 hr1 => ?_)
  subst hr1
  refine lv_if_eq (tgt := 20) hx hb d_X_head_7 (by decide) (fun cc2 => ?_) (fun cc2 => ?_)
  · have cc2 := kk_b0 cc2
    refine lv_iconst (v := (-1)) hx hb d_X_head_20 (by decide) ?_
    exact W.iret hx hb hr (fun t ht hW => ⟨_, rfl, (if_neg (fun q => cc2 (hx1.mp q))).symm, ht⟩) (fun q hq => by cases hq) d_X_head_21
  · have cc2 := kk_b1 cc2
    refine lv_aload_n hx hb d_X_head_10 rfl (lv_at hl 0 rfl) ?_
    refine mm_get (D := D) (C := n_X) (T := T_X) (N := 4) (v := .ref (b + 9)) hx hb hts lay_X hown hK.1 hP x0 rfl 3 (by decide) (hts _ (List.mem_cons_of_mem _ wd_135)) (fun _ h9 => h9) rfl d_X_head_11 ?_
    refine mm_getN (D := D) (C := n_Chn) (T := T_Chn) (N := 7) (v := .int (nI (N 17 0))) hx hb hts lay_Chn hown hK.1 hP x9 rfl 0 (by decide) (hK.2.1 _ nw_106 rfl) (fun _ h9 => h9) rfl d_X_head_14 ?_
    refine lv_goto (tgt := 21) hx hb d_X_head_17 (by decide) ?_
    exact W.iret hx hb hr (fun t ht hW => ⟨_, rfl, (if_pos (hx1.mpr cc2)).symm, ht⟩) (fun q hq => by cases hq) d_X_head_21
theorem d_X_delegates_0 : decode k_X_delegates 0 = .ok (.aload_n 0, 1) := by decide +kernel
theorem d_X_delegates_1 : decode k_X_delegates 1 = .ok (.getfield 33, 3) := by decide +kernel
theorem d_X_delegates_4 : decode k_X_delegates 4 = .ok (.invokevirtual 136, 3) := by decide +kernel
theorem d_X_delegates_7 : decode k_X_delegates 7 = .ok (.ifCond .eq 17, 3) := by decide +kernel
theorem d_X_delegates_10 : decode k_X_delegates 10 = .ok (.aload_n 0, 1) := by decide +kernel
theorem d_X_delegates_11 : decode k_X_delegates 11 = .ok (.getfield 33, 3) := by decide +kernel
theorem d_X_delegates_14 : decode k_X_delegates 14 = .ok (.getfield 154, 3) := by decide +kernel
theorem d_X_delegates_17 : decode k_X_delegates 17 = .ok (.ifCond .eq 7, 3) := by decide +kernel
theorem d_X_delegates_20 : decode k_X_delegates 20 = .ok (.iconst 1, 1) := by decide +kernel
theorem d_X_delegates_21 : decode k_X_delegates 21 = .ok (.goto 4, 3) := by decide +kernel
theorem d_X_delegates_24 : decode k_X_delegates 24 = .ok (.iconst 0, 1) := by decide +kernel
theorem d_X_delegates_25 : decode k_X_delegates 25 = .ok (.ireturn, 1) := by decide +kernel
set_option maxHeartbeats 4000000 in
set_option maxRecDepth 100000 in
theorem c_X_delegates (l : Launch) {B : Nat} {D : va_G} {cI cZ cQ : ClassId} {w : mm_M} {sz : Nat} {b : Nat} {N : Nat → Nat → Nat} {S : Nat → Nat → Int32}  (hXI : xs_I b cI cZ cQ sz N S w) (hR : rg_I N) (hC : ch_I N)  : Met l y_X_delegates ws_X_delegates (kk_rm 1 0 0) (kk_Pc B D cI cZ cQ [.ref b] w sz) (vp_Si (fun r => r = nI (if N 16 0 = 1 ∧ N 26 0 = 1 then 1 else 0))) 0 0 (fun _ => False) := by
  refine Met.ofW (cc := k_X_delegates) (maxL := 1) (ret := (some .boolean)) (by decide) rfl ?_
  intro p e s m args below meth c s₁ BB hml hv
  obtain ⟨rfl, hK, hP, hz, hBz⟩ := hv
  have hx := BB.exec
  have hb := BB.bytes
  have hr := BB.returns
  have hts := atoms_spec (ws := ws_X_delegates) BB.pre
  have hown : s.vm.findClass "DelegationClosure" = some m.cls := findClass_of_methodNamed BB.named
  have hlocks := BB.notSynchronized
  have hS : mm_S B s.heap s.heap [] := va_S.rf
  have hl := lv_entry ([.ref b]) (n := 1) (Nat.le_of_ble_eq_true rfl)
  rw [lg_entry_eq]
  generalize (lg_sl ([.ref b]) ++ List.replicate (1 - (lg_sl ([.ref b])).length) Slot.unset).toArray = ls at hl ⊢
  have hl : lv_has ls 1 [(0, .ref b)] := hl
  obtain ⟨T, U, ad, ⟨hRe, x0, x3, x4, x5, x6, x7, x8, x9, x10, x11, x12, x13⟩, hXr, hLa⟩ := hXI
  have hn := hRe.2.2.1
  have hC1 := hC.1
  have hC2 := hC.2.1
  have hC3 := hC.2.2.1
  have hC4 := hC.2.2.2.1
  have hC5 := hC.2.2.2.2.1
  have hC6 := hC.2.2.2.2.2.1
  have hx1 := hXr.1
  refine lv_aload_n hx hb d_X_delegates_0 rfl (lv_at hl 0 rfl) ?_
  refine mm_get (D := D) (C := n_X) (T := T_X) (N := 4) (v := .ref (b + 9)) hx hb hts lay_X hown hK.1 hP x0 rfl 3 (by decide) (hts _ (List.mem_cons_of_mem _ wd_135)) (fun _ h9 => h9) rfl d_X_delegates_1 ?_
  refine vp_callSi (va_Run.run (va_runV (As := []) (rest := []) ⟨hx, hb, hml, hown, hts⟩ (c_Chn_isThere l x9 (by omega)) (cwV 0 hts (gW_in (hd := [_, _, _, _, _]) (kk_5 wd_462 wd_438 wd_439 wd_5 cw_Chn_isThere)) rfl rfl rfl ⟨rfl, ds_Chn_isThere⟩ ⟨Nat.le_of_ble_eq_true rfl, Nat.le_of_ble_eq_true rfl⟩) (kk_preV hK hP hz hBz x9 rfl) rfl rfl hl.1 rfl (lv_room (Nat.le_of_ble_eq_true rfl)) d_X_delegates_4 ⟨Nat.le_of_ble_eq_true rfl, Nat.le_of_ble_eq_true rfl⟩)) (fun r1 hr1 => ?_)
  subst hr1
  refine lv_if_eq (tgt := 24) hx hb d_X_delegates_7 (by decide) (fun cc2 => ?_) (fun cc2 => ?_)
  · have cc2 := kk_b0 cc2
    refine lv_iconst (v := nI 0) hx hb d_X_delegates_24 (by decide) ?_
    exact W.zret hx hb hr rfl (fun t ht hW => ⟨_, rfl, kk_iff (fun q => cc2 (hx1.mp q.1)), ht⟩) (fun q hq => by cases hq) d_X_delegates_25
  · have cc2 := kk_b1 cc2
    refine lv_aload_n hx hb d_X_delegates_10 rfl (lv_at hl 0 rfl) ?_
    refine mm_get (D := D) (C := n_X) (T := T_X) (N := 4) (v := .ref (b + 9)) hx hb hts lay_X hown hK.1 hP x0 rfl 3 (by decide) (hts _ (List.mem_cons_of_mem _ wd_135)) (fun _ h9 => h9) rfl d_X_delegates_11 ?_
    refine mm_getN (D := D) (C := n_Chn) (T := T_Chn) (N := 7) (v := .int (nI (N 26 0))) hx hb hts lay_Chn hown hK.1 hP x9 rfl 6 (by decide) (hK.2.1 _ nw_116 rfl) (fun _ h9 => h9) rfl d_X_delegates_14 ?_
    refine lv_if_eq (tgt := 24) hx hb d_X_delegates_17 (by decide) (fun cc3 => ?_) (fun cc3 => ?_)
    · rw [← nI_0] at cc3
      have cc3 : N 26 0 = 0 := (nI_eq (by omega) (by omega)).mp cc3
      refine lv_iconst (v := nI 0) hx hb d_X_delegates_24 (by decide) ?_
      exact W.zret hx hb hr rfl (fun t ht hW => ⟨_, rfl, kk_iff (fun q => by have := q.2; omega), ht⟩) (fun q hq => by cases hq) d_X_delegates_25
    · rw [← nI_0] at cc3
      have cc3 : ¬ (N 26 0 = 0) := fun q => cc3 ((nI_eq (by omega) (by omega)).mpr q)
      refine lv_iconst (v := nI 1) hx hb d_X_delegates_20 (by decide) ?_
      refine lv_goto (tgt := 25) hx hb d_X_delegates_21 (by decide) ?_
      exact W.zret hx hb hr rfl (fun t ht hW => ⟨_, rfl, kk_ift ⟨hx1.mpr cc2, by omega⟩, ht⟩) (fun q hq => by cases hq) d_X_delegates_25
theorem d_X_behind_0 : decode k_X_behind 0 = .ok (.aload_n 0, 1) := by decide +kernel
theorem d_X_behind_1 : decode k_X_behind 1 = .ok (.getfield 33, 3) := by decide +kernel
theorem d_X_behind_4 : decode k_X_behind 4 = .ok (.invokevirtual 136, 3) := by decide +kernel
theorem d_X_behind_7 : decode k_X_behind 7 = .ok (.ifCond .eq 18, 3) := by decide +kernel
theorem d_X_behind_10 : decode k_X_behind 10 = .ok (.iload_n 1, 1) := by decide +kernel
theorem d_X_behind_11 : decode k_X_behind 11 = .ok (.ifCond .lt 14, 3) := by decide +kernel
theorem d_X_behind_14 : decode k_X_behind 14 = .ok (.iload_n 1, 1) := by decide +kernel
theorem d_X_behind_15 : decode k_X_behind 15 = .ok (.aload_n 0, 1) := by decide +kernel
theorem d_X_behind_16 : decode k_X_behind 16 = .ok (.getfield 33, 3) := by decide +kernel
theorem d_X_behind_19 : decode k_X_behind 19 = .ok (.getfield 142, 3) := by decide +kernel
theorem d_X_behind_22 : decode k_X_behind 22 = .ok (.if_icmp .lt 5, 3) := by decide +kernel
theorem d_X_behind_25 : decode k_X_behind 25 = .ok (.iconst (-1), 1) := by decide +kernel
theorem d_X_behind_26 : decode k_X_behind 26 = .ok (.ireturn, 1) := by decide +kernel
theorem d_X_behind_27 : decode k_X_behind 27 = .ok (.aload_n 0, 1) := by decide +kernel
theorem d_X_behind_28 : decode k_X_behind 28 = .ok (.getfield 33, 3) := by decide +kernel
theorem d_X_behind_31 : decode k_X_behind 31 = .ok (.getfield 143, 3) := by decide +kernel
theorem d_X_behind_34 : decode k_X_behind 34 = .ok (.iload_n 1, 1) := by decide +kernel
theorem d_X_behind_35 : decode k_X_behind 35 = .ok (.iaload, 1) := by decide +kernel
theorem d_X_behind_36 : decode k_X_behind 36 = .ok (.ireturn, 1) := by decide +kernel
set_option maxHeartbeats 4000000 in
set_option maxRecDepth 100000 in
theorem c_X_behind (l : Launch) {B : Nat} {D : va_G} {cI cZ cQ : ClassId} {w : mm_M} {sz : Nat} {b : Nat} {N : Nat → Nat → Nat} {S : Nat → Nat → Int32} {ir : Int32} (hXI : xs_I b cI cZ cQ sz N S w) (hR : rg_I N) (hC : ch_I N)  : Met l y_X_behind ws_X_behind (kk_rm 1 0 0) (kk_Pc B D cI cZ cQ [.ref b, .int ir] w sz) (vp_Si (fun r => r = if bh_ok N ir then nI (N 19 ir.toNatClampNeg) else -1)) 0 0 (fun _ => False) := by
  refine Met.ofW (cc := k_X_behind) (maxL := 2) (ret := (some .int)) (by decide) rfl ?_
  intro p e s m args below meth c s₁ BB hml hv
  obtain ⟨rfl, hK, hP, hz, hBz⟩ := hv
  have hx := BB.exec
  have hb := BB.bytes
  have hr := BB.returns
  have hts := atoms_spec (ws := ws_X_behind) BB.pre
  have hown : s.vm.findClass "DelegationClosure" = some m.cls := findClass_of_methodNamed BB.named
  have hlocks := BB.notSynchronized
  have hS : mm_S B s.heap s.heap [] := va_S.rf
  have hl := lv_entry ([.ref b, .int ir]) (n := 2) (Nat.le_of_ble_eq_true rfl)
  rw [lg_entry_eq]
  generalize (lg_sl ([.ref b, .int ir]) ++ List.replicate (2 - (lg_sl ([.ref b, .int ir])).length) Slot.unset).toArray = ls at hl ⊢
  have hl : lv_has ls 2 [(0, .ref b), (1, .int ir)] := hl
  obtain ⟨T, U, ad, ⟨hRe, x0, x3, x4, x5, x6, x7, x8, x9, x10, x11, x12, x13⟩, hXr, hLa⟩ := hXI
  have hn := hRe.2.2.1
  have hC1 := hC.1
  have hC2 := hC.2.1
  have hC3 := hC.2.2.1
  have hC4 := hC.2.2.2.1
  have hC5 := hC.2.2.2.2.1
  have hC6 := hC.2.2.2.2.2.1
  have hx1 := hXr.1
  refine lv_aload_n hx hb d_X_behind_0 rfl (lv_at hl 0 rfl) ?_
  refine mm_get (D := D) (C := n_X) (T := T_X) (N := 4) (v := .ref (b + 9)) hx hb hts lay_X hown hK.1 hP x0 rfl 3 (by decide) (hts _ (List.mem_cons_of_mem _ wd_135)) (fun _ h9 => h9) rfl d_X_behind_1 ?_
  refine vp_callSi (va_Run.run (va_runV (As := []) (rest := []) ⟨hx, hb, hml, hown, hts⟩ (c_Chn_isThere l x9 (by omega)) (cwV 0 hts (gW_in (hd := [_, _, _, _, _]) (kk_5 wd_462 wd_438 wd_439 wd_5 cw_Chn_isThere)) rfl rfl rfl ⟨rfl, ds_Chn_isThere⟩ ⟨Nat.le_of_ble_eq_true rfl, Nat.le_of_ble_eq_true rfl⟩) (kk_preV hK hP hz hBz x9 rfl) rfl rfl hl.1 rfl (lv_room (Nat.le_of_ble_eq_true rfl)) d_X_behind_4 ⟨Nat.le_of_ble_eq_true rfl, Nat.le_of_ble_eq_true rfl⟩)) (fun r1 hr1 => ?_)
  subst hr1
  refine lv_if_eq (tgt := 25) hx hb d_X_behind_7 (by decide) (fun cc2 => ?_) (fun cc2 => ?_)
  · have cc2 := kk_b0 cc2
    refine lv_iconst (v := (-1)) hx hb d_X_behind_25 (by decide) ?_
    exact W.iret hx hb hr (fun t ht hW => ⟨_, rfl, (if_neg (fun q => cc2 (hx1.mp q.1))).symm, ht⟩) (fun q hq => by cases hq) d_X_behind_26
  · have cc2 := kk_b1 cc2
    refine lv_iload_n hx hb d_X_behind_10 rfl (lv_at hl 1 rfl) ?_
    refine lv_if_lt (tgt := 25) hx hb d_X_behind_11 (by decide) (fun cc3 => ?_) (fun cc3 => ?_)
    · refine lv_iconst (v := (-1)) hx hb d_X_behind_25 (by decide) ?_
      exact W.iret hx hb hr (fun t ht hW => ⟨_, rfl, (if_neg (fun q => q.2.1 cc3)).symm, ht⟩) (fun q hq => by cases hq) d_X_behind_26
    · refine lv_iload_n hx hb d_X_behind_14 rfl (lv_at hl 1 rfl) ?_
      refine lv_aload_n hx hb d_X_behind_15 rfl (lv_at hl 0 rfl) ?_
      refine mm_get (D := D) (C := n_X) (T := T_X) (N := 4) (v := .ref (b + 9)) hx hb hts lay_X hown hK.1 hP x0 rfl 3 (by decide) (hts _ (List.mem_cons_of_mem _ wd_135)) (fun _ h9 => h9) rfl d_X_behind_16 ?_
      refine mm_getN (D := D) (C := n_Chn) (T := T_Chn) (N := 7) (v := .int (nI (N 18 0))) hx hb hts lay_Chn hown hK.1 hP x9 rfl 2 (by decide) (hK.2.1 _ nw_110 rfl) (fun _ h9 => h9) rfl d_X_behind_19 ?_
      refine lv_icmp_lt (tgt := 27) hx hb d_X_behind_22 (by decide) (fun cc4 => ?_) (fun cc4 => ?_)
      · obtain ⟨q9, hq9, rfl⟩ := kk_ofn cc3 (Int32.not_le.mpr cc4) (by omega)
        refine lv_aload_n hx hb d_X_behind_27 rfl (lv_at hl 0 rfl) ?_
        refine mm_get (D := D) (C := n_X) (T := T_X) (N := 4) (v := .ref (b + 9)) hx hb hts lay_X hown hK.1 hP x0 rfl 3 (by decide) (hts _ (List.mem_cons_of_mem _ wd_135)) (fun _ h9 => h9) rfl d_X_behind_28 ?_
        refine mm_getN (D := D) (C := n_Chn) (T := T_Chn) (N := 7) (v := .ref (b + 10)) hx hb hts lay_Chn hown hK.1 hP x9 rfl 1 (by decide) (hK.2.1 _ nw_108 rfl) (fun _ h9 => h9) rfl d_X_behind_31 ?_
        refine lv_iload_n hx hb d_X_behind_34 rfl (lv_at hl 1 rfl) ?_
        refine mm_iald hx hb hK.1 hP 0 x10 rfl q9 rfl (by omega) (by decide) d_X_behind_35 ?_
        refine W.eq (g2 := F0 m 36 ls [.int (nI ((T 4) q9))]) rfl ?_
        exact W.iret hx hb hr (fun t ht hW => ⟨_, rfl, (by rw [if_pos ⟨hx1.mpr cc2, nI_pos (by omega), fun q => by have := (nI_leI (by omega) (by omega)).mp q; omega⟩, nI_clamp (by omega), hXr.2.2.2.1 q9 hq9]), ht⟩) (fun q hq => by cases hq) d_X_behind_36
      · refine lv_iconst (v := (-1)) hx hb d_X_behind_25 (by decide) ?_
        exact W.iret hx hb hr (fun t ht hW => ⟨_, rfl, (if_neg (fun q => q.2.2 (Int32.not_lt.mp cc4))).symm, ht⟩) (fun q hq => by cases hq) d_X_behind_26
theorem d_X_grants_0 : decode k_X_grants 0 = .ok (.iload_n 1, 1) := by decide +kernel
theorem d_X_grants_1 : decode k_X_grants 1 = .ok (.invokestatic 110, 3) := by decide +kernel
theorem d_X_grants_4 : decode k_X_grants 4 = .ok (.ifCond .eq 20, 3) := by decide +kernel
theorem d_X_grants_7 : decode k_X_grants 7 = .ok (.aload_n 0, 1) := by decide +kernel
theorem d_X_grants_8 : decode k_X_grants 8 = .ok (.getfield 33, 3) := by decide +kernel
theorem d_X_grants_11 : decode k_X_grants 11 = .ok (.iload_n 1, 1) := by decide +kernel
theorem d_X_grants_12 : decode k_X_grants 12 = .ok (.iload_n 2, 1) := by decide +kernel
theorem d_X_grants_13 : decode k_X_grants 13 = .ok (.iload_n 3, 1) := by decide +kernel
theorem d_X_grants_14 : decode k_X_grants 14 = .ok (.invokevirtual 147, 3) := by decide +kernel
theorem d_X_grants_17 : decode k_X_grants 17 = .ok (.ifCond .eq 7, 3) := by decide +kernel
theorem d_X_grants_20 : decode k_X_grants 20 = .ok (.iconst 1, 1) := by decide +kernel
theorem d_X_grants_21 : decode k_X_grants 21 = .ok (.goto 4, 3) := by decide +kernel
theorem d_X_grants_24 : decode k_X_grants 24 = .ok (.iconst 0, 1) := by decide +kernel
theorem d_X_grants_25 : decode k_X_grants 25 = .ok (.ireturn, 1) := by decide +kernel
set_option maxHeartbeats 4000000 in
set_option maxRecDepth 100000 in
theorem c_X_grants (l : Launch) {B : Nat} {D : va_G} {cI cZ cQ : ClassId} {w : mm_M} {sz : Nat} {b : Nat} {N : Nat → Nat → Nat} {S : Nat → Nat → Int32} {pr z9 t9 : Int32} (hXI : xs_I b cI cZ cQ sz N S w) (hR : rg_I N) (hC : ch_I N)  : Met l y_X_grants ws_X_grants (kk_rm 3 0 0) (kk_Pc B D cI cZ cQ [.ref b, .int pr, .int z9, .int t9] w sz) (vp_Si (fun r => r = nI (if gt_ok N S pr z9 t9 then 1 else 0))) 0 0 (fun _ => False) := by
  refine Met.ofW (cc := k_X_grants) (maxL := 4) (ret := (some .boolean)) (by decide) rfl ?_
  intro p e s m args below meth c s₁ BB hml hv
  obtain ⟨rfl, hK, hP, hz, hBz⟩ := hv
  have hx := BB.exec
  have hb := BB.bytes
  have hr := BB.returns
  have hts := atoms_spec (ws := ws_X_grants) BB.pre
  have hown : s.vm.findClass "DelegationClosure" = some m.cls := findClass_of_methodNamed BB.named
  have hlocks := BB.notSynchronized
  have hS : mm_S B s.heap s.heap [] := va_S.rf
  have hl := lv_entry ([.ref b, .int pr, .int z9, .int t9]) (n := 4) (Nat.le_of_ble_eq_true rfl)
  rw [lg_entry_eq]
  generalize (lg_sl ([.ref b, .int pr, .int z9, .int t9]) ++ List.replicate (4 - (lg_sl ([.ref b, .int pr, .int z9, .int t9])).length) Slot.unset).toArray = ls at hl ⊢
  have hl : lv_has ls 4 [(0, .ref b), (1, .int pr), (2, .int z9), (3, .int t9)] := hl
  obtain ⟨T, U, ad, ⟨hRe, x0, x3, x4, x5, x6, x7, x8, x9, x10, x11, x12, x13⟩, hXr, hLa⟩ := hXI
  have hn := hRe.2.2.1
  have hC1 := hC.1
  have hC2 := hC.2.1
  have hC3 := hC.2.2.1
  have hC4 := hC.2.2.2.1
  have hC5 := hC.2.2.2.2.1
  have hC6 := hC.2.2.2.2.2.1
  have hx1 := hXr.1
  have hx3 := hXr.2.2.1
  refine lv_iload_n hx hb d_X_grants_0 rfl (lv_at hl 1 rfl) ?_
  refine vp_callSi (va_Run.run (va_runS (As := [.int pr]) (rest := []) ⟨hx, hb, hml, hown, hts⟩ (c_X_isOperation l ) (va_cwS 1 hts (gW_in (hd := [_, _, _, _]) (kk_4 wd_356 wd_357 wd_1 cw_X_isOperation)) rfl rfl rfl ds_X_isOperation ⟨Nat.le_of_ble_eq_true rfl, Nat.le_of_ble_eq_true rfl⟩) (kk_preS hK hP hz hBz) rfl rfl hl.1 rfl (lv_room (Nat.le_of_ble_eq_true rfl)) d_X_grants_1 ⟨Nat.le_of_ble_eq_true rfl, Nat.le_of_ble_eq_true rfl⟩)) (fun r1 hr1 => ?_)
  subst hr1
  refine lv_if_eq (tgt := 24) hx hb d_X_grants_4 (by decide) (fun cc2 => ?_) (fun cc2 => ?_)
  · have cc2 := kk_b0 cc2
    refine lv_iconst (v := nI 0) hx hb d_X_grants_24 (by decide) ?_
    exact W.zret hx hb hr rfl (fun t ht hW => ⟨_, rfl, kk_iff (fun q => cc2 q.2.2.1), ht⟩) (fun q hq => by cases hq) d_X_grants_25
  · have cc2 := kk_b1 cc2
    have hok := cc2
    obtain ⟨o9, ho9, rfl⟩ := kk_lim_of hok (by omega)
    refine lv_aload_n hx hb d_X_grants_7 rfl (lv_at hl 0 rfl) ?_
    refine mm_get (D := D) (C := n_X) (T := T_X) (N := 4) (v := .ref (b + 9)) hx hb hts lay_X hown hK.1 hP x0 rfl 3 (by decide) (hts _ (List.mem_cons_of_mem _ wd_135)) (fun _ h9 => h9) rfl d_X_grants_8 ?_
    refine lv_iload_n hx hb d_X_grants_11 rfl (lv_at hl 1 rfl) ?_
    refine lv_iload_n hx hb d_X_grants_12 rfl (lv_at hl 2 rfl) ?_
    refine lv_iload_n hx hb d_X_grants_13 rfl (lv_at hl 3 rfl) ?_
    refine vp_callSi (va_Run.run (va_runV (As := [.int (nI o9), .int z9, .int t9]) (rest := []) ⟨hx, hb, hml, hown, hts⟩ (c_Chn_allows l x9 x10 x11 x12 x13 (by omega) (by omega) (by omega) (by omega)) (cwV 3 hts (gW_in (hd := [_, _, _, _, _]) (kk_5 wd_471 wd_472 wd_473 wd_5 cw_Chn_allows)) rfl rfl rfl ⟨rfl, ds_Chn_allows⟩ ⟨Nat.le_of_ble_eq_true rfl, Nat.le_of_ble_eq_true rfl⟩) (kk_preV hK hP hz hBz x9 rfl) rfl rfl hl.1 rfl (lv_room (Nat.le_of_ble_eq_true rfl)) d_X_grants_14 ⟨Nat.le_of_ble_eq_true rfl, Nat.le_of_ble_eq_true rfl⟩)) (fun r3 hr3 => ?_)
    subst hr3
    refine lv_if_eq (tgt := 24) hx hb d_X_grants_17 (by decide) (fun cc4 => ?_) (fun cc4 => ?_)
    · have cc4 := kk_b0 cc4
      refine lv_iconst (v := nI 0) hx hb d_X_grants_24 (by decide) ?_
      exact W.zret hx hb hr rfl (fun t ht hW => ⟨_, rfl, kk_iff (fun q => cc4 (by obtain ⟨g1, g2, g3, g4, g5, g6, g7, g8⟩ := q; obtain ⟨e1, e2, e3⟩ := hXr.2.1 g1; rw [nI_clamp (by omega)] at g4; rw [← e1] at g4; rw [← e2] at g5; rw [← e3] at g6; exact ⟨⟨hx1.mp g1, g2⟩, ⟨g4, g5, g6⟩, g7, g8⟩)), ht⟩) (fun q hq => by cases hq) d_X_grants_25
    · have cc4 := kk_b1 cc4
      refine lv_iconst (v := nI 1) hx hb d_X_grants_20 (by decide) ?_
      refine lv_goto (tgt := 25) hx hb d_X_grants_21 (by decide) ?_
      exact W.zret hx hb hr rfl (fun t ht hW => ⟨_, rfl, kk_ift (by obtain ⟨⟨g1, g2⟩, ⟨g3, g4, g5⟩, g6, g7⟩ := cc4; have h1 := hx1.mpr g1; obtain ⟨e1, e2, e3⟩ := hXr.2.1 h1; rw [e1] at g3; rw [e2] at g4; rw [e3] at g5; exact ⟨h1, g2, hok, by rw [nI_clamp (by omega)]; exact g3, g4, g5, g6, g7⟩), ht⟩) (fun q hq => by cases hq) d_X_grants_25
