theorem d_Mod_leastOf_0 : decode k_Mod_leastOf 0 = .ok (.iload_n 0, 1) := by decide +kernel
theorem d_Mod_leastOf_1 : decode k_Mod_leastOf 1 = .ok (.iload_n 1, 1) := by decide +kernel
theorem d_Mod_leastOf_2 : decode k_Mod_leastOf 2 = .ok (.if_icmp .ge 7, 3) := by decide +kernel
theorem d_Mod_leastOf_5 : decode k_Mod_leastOf 5 = .ok (.iload_n 0, 1) := by decide +kernel
theorem d_Mod_leastOf_6 : decode k_Mod_leastOf 6 = .ok (.goto 4, 3) := by decide +kernel
theorem d_Mod_leastOf_9 : decode k_Mod_leastOf 9 = .ok (.iload_n 1, 1) := by decide +kernel
theorem d_Mod_leastOf_10 : decode k_Mod_leastOf 10 = .ok (.istore 4, 2) := by decide +kernel
theorem d_Mod_leastOf_12 : decode k_Mod_leastOf 12 = .ok (.iload_n 2, 1) := by decide +kernel
theorem d_Mod_leastOf_13 : decode k_Mod_leastOf 13 = .ok (.iload 4, 2) := by decide +kernel
theorem d_Mod_leastOf_15 : decode k_Mod_leastOf 15 = .ok (.if_icmp .ge 7, 3) := by decide +kernel
theorem d_Mod_leastOf_18 : decode k_Mod_leastOf 18 = .ok (.iload_n 2, 1) := by decide +kernel
theorem d_Mod_leastOf_19 : decode k_Mod_leastOf 19 = .ok (.goto 5, 3) := by decide +kernel
theorem d_Mod_leastOf_22 : decode k_Mod_leastOf 22 = .ok (.iload 4, 2) := by decide +kernel
theorem d_Mod_leastOf_24 : decode k_Mod_leastOf 24 = .ok (.istore 4, 2) := by decide +kernel
theorem d_Mod_leastOf_26 : decode k_Mod_leastOf 26 = .ok (.iload_n 3, 1) := by decide +kernel
theorem d_Mod_leastOf_27 : decode k_Mod_leastOf 27 = .ok (.iconst 1, 1) := by decide +kernel
theorem d_Mod_leastOf_28 : decode k_Mod_leastOf 28 = .ok (.if_icmp .ne 6, 3) := by decide +kernel
theorem d_Mod_leastOf_31 : decode k_Mod_leastOf 31 = .ok (.iload 4, 2) := by decide +kernel
theorem d_Mod_leastOf_33 : decode k_Mod_leastOf 33 = .ok (.ireturn, 1) := by decide +kernel
theorem d_Mod_leastOf_34 : decode k_Mod_leastOf 34 = .ok (.iload_n 0, 1) := by decide +kernel
theorem d_Mod_leastOf_35 : decode k_Mod_leastOf 35 = .ok (.iload_n 1, 1) := by decide +kernel
theorem d_Mod_leastOf_36 : decode k_Mod_leastOf 36 = .ok (.invokestatic 87, 3) := by decide +kernel
theorem d_Mod_leastOf_39 : decode k_Mod_leastOf 39 = .ok (.iload_n 2, 1) := by decide +kernel
theorem d_Mod_leastOf_40 : decode k_Mod_leastOf 40 = .ok (.invokestatic 87, 3) := by decide +kernel
theorem d_Mod_leastOf_43 : decode k_Mod_leastOf 43 = .ok (.istore 5, 2) := by decide +kernel
theorem d_Mod_leastOf_45 : decode k_Mod_leastOf 45 = .ok (.iload_n 3, 1) := by decide +kernel
theorem d_Mod_leastOf_46 : decode k_Mod_leastOf 46 = .ok (.iconst 3, 1) := by decide +kernel
theorem d_Mod_leastOf_47 : decode k_Mod_leastOf 47 = .ok (.if_icmp .ne 6, 3) := by decide +kernel
theorem d_Mod_leastOf_50 : decode k_Mod_leastOf 50 = .ok (.iload 5, 2) := by decide +kernel
theorem d_Mod_leastOf_52 : decode k_Mod_leastOf 52 = .ok (.ireturn, 1) := by decide +kernel
theorem d_Mod_leastOf_53 : decode k_Mod_leastOf 53 = .ok (.iload_n 0, 1) := by decide +kernel
theorem d_Mod_leastOf_54 : decode k_Mod_leastOf 54 = .ok (.iload_n 1, 1) := by decide +kernel
theorem d_Mod_leastOf_55 : decode k_Mod_leastOf 55 = .ok (.invokestatic 87, 3) := by decide +kernel
theorem d_Mod_leastOf_58 : decode k_Mod_leastOf 58 = .ok (.istore 6, 2) := by decide +kernel
theorem d_Mod_leastOf_60 : decode k_Mod_leastOf 60 = .ok (.iload_n 0, 1) := by decide +kernel
theorem d_Mod_leastOf_61 : decode k_Mod_leastOf 61 = .ok (.iload_n 2, 1) := by decide +kernel
theorem d_Mod_leastOf_62 : decode k_Mod_leastOf 62 = .ok (.invokestatic 87, 3) := by decide +kernel
theorem d_Mod_leastOf_65 : decode k_Mod_leastOf 65 = .ok (.istore 7, 2) := by decide +kernel
theorem d_Mod_leastOf_67 : decode k_Mod_leastOf 67 = .ok (.iload_n 1, 1) := by decide +kernel
theorem d_Mod_leastOf_68 : decode k_Mod_leastOf 68 = .ok (.iload_n 2, 1) := by decide +kernel
theorem d_Mod_leastOf_69 : decode k_Mod_leastOf 69 = .ok (.invokestatic 87, 3) := by decide +kernel
theorem d_Mod_leastOf_72 : decode k_Mod_leastOf 72 = .ok (.istore 8, 2) := by decide +kernel
theorem d_Mod_leastOf_74 : decode k_Mod_leastOf 74 = .ok (.iload 6, 2) := by decide +kernel
theorem d_Mod_leastOf_76 : decode k_Mod_leastOf 76 = .ok (.iload 7, 2) := by decide +kernel
theorem d_Mod_leastOf_78 : decode k_Mod_leastOf 78 = .ok (.if_icmp .ge 8, 3) := by decide +kernel
theorem d_Mod_leastOf_81 : decode k_Mod_leastOf 81 = .ok (.iload 6, 2) := by decide +kernel
theorem d_Mod_leastOf_83 : decode k_Mod_leastOf 83 = .ok (.goto 5, 3) := by decide +kernel
theorem d_Mod_leastOf_86 : decode k_Mod_leastOf 86 = .ok (.iload 7, 2) := by decide +kernel
theorem d_Mod_leastOf_88 : decode k_Mod_leastOf 88 = .ok (.istore 9, 2) := by decide +kernel
theorem d_Mod_leastOf_90 : decode k_Mod_leastOf 90 = .ok (.iload 8, 2) := by decide +kernel
theorem d_Mod_leastOf_92 : decode k_Mod_leastOf 92 = .ok (.iload 9, 2) := by decide +kernel
theorem d_Mod_leastOf_94 : decode k_Mod_leastOf 94 = .ok (.if_icmp .ge 8, 3) := by decide +kernel
theorem d_Mod_leastOf_97 : decode k_Mod_leastOf 97 = .ok (.iload 8, 2) := by decide +kernel
theorem d_Mod_leastOf_99 : decode k_Mod_leastOf 99 = .ok (.goto 5, 3) := by decide +kernel
theorem d_Mod_leastOf_102 : decode k_Mod_leastOf 102 = .ok (.iload 9, 2) := by decide +kernel
theorem d_Mod_leastOf_104 : decode k_Mod_leastOf 104 = .ok (.ireturn, 1) := by decide +kernel
set_option maxHeartbeats 4000000 in
set_option maxRecDepth 100000 in
theorem c_Mod_leastOf (l : Launch) {B : Nat} {D : va_G} {cI cZ cQ : ClassId} {w : mm_M} {sz : Nat} {a b c9 n : Nat} (ha1 : a ≤ 1000) (hb1 : b ≤ 1000) (hc1 : c9 ≤ 1000) (hn1 : 1 ≤ n) (hn3 : n ≤ 3) : Met l y_Mod_leastOf ws_Mod_leastOf (kk_rm 1 0 0) (kk_Pc B D cI cZ cQ [.int (nI (dm_ph a)), .int (nI (dm_ph b)), .int (nI (dm_ph c9)), .int (nI n)] w sz) (vp_Si (fun r => r = nI (dm_ph (dm_q a b c9 n)))) 0 0 (fun _ => False) := by
  refine Met.ofW (cc := k_Mod_leastOf) (maxL := 10) (ret := (some .int)) (by decide) rfl ?_
  intro p e s m args below meth c s₁ BB hml hv
  obtain ⟨rfl, hK, hP, hz, hBz⟩ := hv
  have hx := BB.exec
  have hb := BB.bytes
  have hr := BB.returns
  have hts := atoms_spec (ws := ws_Mod_leastOf) BB.pre
  have hown : s.vm.findClass "DelegationClosureModel" = some m.cls := findClass_of_methodNamed BB.named
  have hlocks := BB.notSynchronized
  have hS : mm_S B s.heap s.heap [] := va_S.rf
  have hl := lv_entry ([.int (nI (dm_ph a)), .int (nI (dm_ph b)), .int (nI (dm_ph c9)), .int (nI n)]) (n := 10) (Nat.le_of_ble_eq_true rfl)
  rw [lg_entry_eq]
  generalize (lg_sl ([.int (nI (dm_ph a)), .int (nI (dm_ph b)), .int (nI (dm_ph c9)), .int (nI n)]) ++ List.replicate (10 - (lg_sl ([.int (nI (dm_ph a)), .int (nI (dm_ph b)), .int (nI (dm_ph c9)), .int (nI n)])).length) Slot.unset).toArray = ls at hl ⊢
  have hl : lv_has ls 10 [(0, .int (nI (dm_ph a))), (1, .int (nI (dm_ph b))), (2, .int (nI (dm_ph c9))), (3, .int (nI n))] := hl
  have ha5 := dm_ph_le a
  have hb5 := dm_ph_le b
  have hc5 := dm_ph_le c9
  have hm5 := dm_ph_le (min a b)
  have hab := dm_s_le a b
  have hac := dm_s_le a c9
  have hbc := dm_s_le b c9
  have hab5 := dm_ph_le (dm_s a b)
  have hac5 := dm_ph_le (dm_s a c9)
  have hbc5 := dm_ph_le (dm_s b c9)
  have hp5 := dm_ph_le (min (dm_s a b) (dm_s a c9))
  have hz1 : min (dm_s a b) (dm_s a c9) ≤ 1000 := by omega
  have hz2 := hbc
  refine lv_iload_n hx hb d_Mod_leastOf_0 rfl (lv_at hl 0 rfl) ?_
  refine lv_iload_n hx hb d_Mod_leastOf_1 rfl (lv_at hl 1 rfl) ?_
  refine lv_icmp_ge (tgt := 9) hx hb d_Mod_leastOf_2 (by decide) (fun cc1 => ?_) (fun cc1 => ?_)
  · have cc1 : dm_ph b ≤ dm_ph a := (nI_leI (by omega) (by omega)).mp cc1
    refine lv_iload_n hx hb d_Mod_leastOf_9 rfl (lv_at hl 1 rfl) ?_
    refine kk_top (y := nI (dm_ph (min a b))) ((congrArg nI (dm_ph_m1 hb1 ha1 cc1)).trans (dm_ph_eq (Nat.min_comm _ _))) ?_
    refine lv_istore hx hb d_Mod_leastOf_10 hl (by decide) rfl (fun ls hl => ?_)
    have hl : lv_has ls 10 [(4, .int (nI (dm_ph (min a b)))), (0, .int (nI (dm_ph a))), (1, .int (nI (dm_ph b))), (2, .int (nI (dm_ph c9))), (3, .int (nI n))] := hl
    refine lv_iload_n hx hb d_Mod_leastOf_12 rfl (lv_at hl 3 rfl) ?_
    refine lv_iload hx hb d_Mod_leastOf_13 (lv_at hl 0 rfl) ?_
    refine lv_icmp_ge (tgt := 22) hx hb d_Mod_leastOf_15 (by decide) (fun cc2 => ?_) (fun cc2 => ?_)
    · have cc2 : dm_ph (min a b) ≤ dm_ph c9 := (nI_leI (by omega) (by omega)).mp cc2
      refine lv_iload hx hb d_Mod_leastOf_22 (lv_at hl 0 rfl) ?_
      refine kk_top (y := nI (dm_ph (min (min a b) c9))) (congrArg nI (dm_ph_m1 (by omega) hc1 cc2)) ?_
      refine lv_istore hx hb d_Mod_leastOf_24 hl (by decide) rfl (fun ls hl => ?_)
      have hl : lv_has ls 10 [(4, .int (nI (dm_ph (min (min a b) c9)))), (0, .int (nI (dm_ph a))), (1, .int (nI (dm_ph b))), (2, .int (nI (dm_ph c9))), (3, .int (nI n))] := hl
      refine lv_iload_n hx hb d_Mod_leastOf_26 rfl (lv_at hl 4 rfl) ?_
      refine lv_iconst (v := nI 1) hx hb d_Mod_leastOf_27 (by decide) ?_
      refine lv_icmp_ne (tgt := 34) hx hb d_Mod_leastOf_28 (by decide) (fun cc3 => ?_) (fun cc3 => ?_)
      · have cc3 : ¬ (n = 1) := fun q => cc3 ((nI_eq (by omega) (by omega)).mpr q)
        refine lv_iload_n hx hb d_Mod_leastOf_34 rfl (lv_at hl 1 rfl) ?_
        refine lv_iload_n hx hb d_Mod_leastOf_35 rfl (lv_at hl 2 rfl) ?_
        refine vp_callSi (va_Run.run (va_runS (As := [.int (nI (dm_ph a)), .int (nI (dm_ph b))]) (rest := []) ⟨hx, hb, hml, hown, hts⟩ (c_Mod_sum l (a := a) (b := b) (by omega) (by omega)) (va_cwS 2 hts (gW_in (hd := [_, _, _, _]) (kk_4 wd_644 wd_645 wd_8 cw_Mod_sum)) rfl rfl rfl ds_Mod_sum ⟨Nat.le_of_ble_eq_true rfl, Nat.le_of_ble_eq_true rfl⟩) (kk_preS hK hP hz hBz) rfl rfl hl.1 rfl (lv_room (Nat.le_of_ble_eq_true rfl)) d_Mod_leastOf_36 ⟨Nat.le_of_ble_eq_true rfl, Nat.le_of_ble_eq_true rfl⟩)) (fun r4 hr4 => ?_)
        subst hr4
        refine lv_iload_n hx hb d_Mod_leastOf_39 rfl (lv_at hl 3 rfl) ?_
        refine vp_callSi (va_Run.run (va_runS (As := [.int (nI (dm_ph (dm_s a b))), .int (nI (dm_ph c9))]) (rest := []) ⟨hx, hb, hml, hown, hts⟩ (c_Mod_sum l (a := (dm_s a b)) (b := c9) (by omega) (by omega)) (va_cwS 2 hts (gW_in (hd := [_, _, _, _]) (kk_4 wd_644 wd_645 wd_8 cw_Mod_sum)) rfl rfl rfl ds_Mod_sum ⟨Nat.le_of_ble_eq_true rfl, Nat.le_of_ble_eq_true rfl⟩) (kk_preS hK hP hz hBz) rfl rfl hl.1 rfl (lv_room (Nat.le_of_ble_eq_true rfl)) d_Mod_leastOf_40 ⟨Nat.le_of_ble_eq_true rfl, Nat.le_of_ble_eq_true rfl⟩)) (fun r5 hr5 => ?_)
        subst hr5
        refine lv_istore hx hb d_Mod_leastOf_43 hl (by decide) rfl (fun ls hl => ?_)
        have hl : lv_has ls 10 [(5, .int (nI (dm_ph (dm_s (dm_s a b) c9)))), (4, .int (nI (dm_ph (min (min a b) c9)))), (0, .int (nI (dm_ph a))), (1, .int (nI (dm_ph b))), (2, .int (nI (dm_ph c9))), (3, .int (nI n))] := hl
        refine lv_iload_n hx hb d_Mod_leastOf_45 rfl (lv_at hl 5 rfl) ?_
        refine lv_iconst (v := nI 3) hx hb d_Mod_leastOf_46 (by decide) ?_
        refine lv_icmp_ne (tgt := 53) hx hb d_Mod_leastOf_47 (by decide) (fun cc6 => ?_) (fun cc6 => ?_)
        · have cc6 : ¬ (n = 3) := fun q => cc6 ((nI_eq (by omega) (by omega)).mpr q)
          refine lv_iload_n hx hb d_Mod_leastOf_53 rfl (lv_at hl 2 rfl) ?_
          refine lv_iload_n hx hb d_Mod_leastOf_54 rfl (lv_at hl 3 rfl) ?_
          refine vp_callSi (va_Run.run (va_runS (As := [.int (nI (dm_ph a)), .int (nI (dm_ph b))]) (rest := []) ⟨hx, hb, hml, hown, hts⟩ (c_Mod_sum l (a := a) (b := b) (by omega) (by omega)) (va_cwS 2 hts (gW_in (hd := [_, _, _, _]) (kk_4 wd_644 wd_645 wd_8 cw_Mod_sum)) rfl rfl rfl ds_Mod_sum ⟨Nat.le_of_ble_eq_true rfl, Nat.le_of_ble_eq_true rfl⟩) (kk_preS hK hP hz hBz) rfl rfl hl.1 rfl (lv_room (Nat.le_of_ble_eq_true rfl)) d_Mod_leastOf_55 ⟨Nat.le_of_ble_eq_true rfl, Nat.le_of_ble_eq_true rfl⟩)) (fun r7 hr7 => ?_)
          subst hr7
          refine lv_istore hx hb d_Mod_leastOf_58 hl (by decide) rfl (fun ls hl => ?_)
          have hl : lv_has ls 10 [(6, .int (nI (dm_ph (dm_s a b)))), (5, .int (nI (dm_ph (dm_s (dm_s a b) c9)))), (4, .int (nI (dm_ph (min (min a b) c9)))), (0, .int (nI (dm_ph a))), (1, .int (nI (dm_ph b))), (2, .int (nI (dm_ph c9))), (3, .int (nI n))] := hl
          refine lv_iload_n hx hb d_Mod_leastOf_60 rfl (lv_at hl 3 rfl) ?_
          refine lv_iload_n hx hb d_Mod_leastOf_61 rfl (lv_at hl 5 rfl) ?_
          refine vp_callSi (va_Run.run (va_runS (As := [.int (nI (dm_ph a)), .int (nI (dm_ph c9))]) (rest := []) ⟨hx, hb, hml, hown, hts⟩ (c_Mod_sum l (a := a) (b := c9) (by omega) (by omega)) (va_cwS 2 hts (gW_in (hd := [_, _, _, _]) (kk_4 wd_644 wd_645 wd_8 cw_Mod_sum)) rfl rfl rfl ds_Mod_sum ⟨Nat.le_of_ble_eq_true rfl, Nat.le_of_ble_eq_true rfl⟩) (kk_preS hK hP hz hBz) rfl rfl hl.1 rfl (lv_room (Nat.le_of_ble_eq_true rfl)) d_Mod_leastOf_62 ⟨Nat.le_of_ble_eq_true rfl, Nat.le_of_ble_eq_true rfl⟩)) (fun r8 hr8 => ?_)
          subst hr8
          refine lv_istore hx hb d_Mod_leastOf_65 hl (by decide) rfl (fun ls hl => ?_)
          have hl : lv_has ls 10 [(7, .int (nI (dm_ph (dm_s a c9)))), (6, .int (nI (dm_ph (dm_s a b)))), (5, .int (nI (dm_ph (dm_s (dm_s a b) c9)))), (4, .int (nI (dm_ph (min (min a b) c9)))), (0, .int (nI (dm_ph a))), (1, .int (nI (dm_ph b))), (2, .int (nI (dm_ph c9))), (3, .int (nI n))] := hl
          refine lv_iload_n hx hb d_Mod_leastOf_67 rfl (lv_at hl 5 rfl) ?_
          refine lv_iload_n hx hb d_Mod_leastOf_68 rfl (lv_at hl 6 rfl) ?_
          refine vp_callSi (va_Run.run (va_runS (As := [.int (nI (dm_ph b)), .int (nI (dm_ph c9))]) (rest := []) ⟨hx, hb, hml, hown, hts⟩ (c_Mod_sum l (a := b) (b := c9) (by omega) (by omega)) (va_cwS 2 hts (gW_in (hd := [_, _, _, _]) (kk_4 wd_644 wd_645 wd_8 cw_Mod_sum)) rfl rfl rfl ds_Mod_sum ⟨Nat.le_of_ble_eq_true rfl, Nat.le_of_ble_eq_true rfl⟩) (kk_preS hK hP hz hBz) rfl rfl hl.1 rfl (lv_room (Nat.le_of_ble_eq_true rfl)) d_Mod_leastOf_69 ⟨Nat.le_of_ble_eq_true rfl, Nat.le_of_ble_eq_true rfl⟩)) (fun r9 hr9 => ?_)
          subst hr9
          refine lv_istore hx hb d_Mod_leastOf_72 hl (by decide) rfl (fun ls hl => ?_)
          have hl : lv_has ls 10 [(8, .int (nI (dm_ph (dm_s b c9)))), (7, .int (nI (dm_ph (dm_s a c9)))), (6, .int (nI (dm_ph (dm_s a b)))), (5, .int (nI (dm_ph (dm_s (dm_s a b) c9)))), (4, .int (nI (dm_ph (min (min a b) c9)))), (0, .int (nI (dm_ph a))), (1, .int (nI (dm_ph b))), (2, .int (nI (dm_ph c9))), (3, .int (nI n))] := hl
          refine lv_iload hx hb d_Mod_leastOf_74 (lv_at hl 2 rfl) ?_
          refine lv_iload hx hb d_Mod_leastOf_76 (lv_at hl 1 rfl) ?_
          refine lv_icmp_ge (tgt := 86) hx hb d_Mod_leastOf_78 (by decide) (fun cc10 => ?_) (fun cc10 => ?_)
          · have cc10 : dm_ph (dm_s a c9) ≤ dm_ph (dm_s a b) := (nI_leI (by omega) (by omega)).mp cc10
            refine lv_iload hx hb d_Mod_leastOf_86 (lv_at hl 1 rfl) ?_
            refine kk_top (y := nI (dm_ph (min (dm_s a b) (dm_s a c9)))) ((congrArg nI (dm_ph_m1 hac hab cc10)).trans (dm_ph_eq (Nat.min_comm _ _))) ?_
            refine lv_istore hx hb d_Mod_leastOf_88 hl (by decide) rfl (fun ls hl => ?_)
            have hl : lv_has ls 10 [(9, .int (nI (dm_ph (min (dm_s a b) (dm_s a c9))))), (8, .int (nI (dm_ph (dm_s b c9)))), (7, .int (nI (dm_ph (dm_s a c9)))), (6, .int (nI (dm_ph (dm_s a b)))), (5, .int (nI (dm_ph (dm_s (dm_s a b) c9)))), (4, .int (nI (dm_ph (min (min a b) c9)))), (0, .int (nI (dm_ph a))), (1, .int (nI (dm_ph b))), (2, .int (nI (dm_ph c9))), (3, .int (nI n))] := hl
            refine lv_iload hx hb d_Mod_leastOf_90 (lv_at hl 1 rfl) ?_
            refine lv_iload hx hb d_Mod_leastOf_92 (lv_at hl 0 rfl) ?_
            refine lv_icmp_ge (tgt := 102) hx hb d_Mod_leastOf_94 (by decide) (fun cc11 => ?_) (fun cc11 => ?_)
            · have cc11 : dm_ph (min (dm_s a b) (dm_s a c9)) ≤ dm_ph (dm_s b c9) := (nI_leI (by omega) (by omega)).mp cc11
              refine lv_iload hx hb d_Mod_leastOf_102 (lv_at hl 0 rfl) ?_
              exact W.iret hx hb hr (fun t ht hW => ⟨_, rfl, (congrArg nI (dm_ph_m1 hz1 hz2 cc11)).trans (dm_ph_eq (by unfold dm_q; rw [if_neg cc3, if_neg cc6])), ht⟩) (fun q hq => by cases hq) d_Mod_leastOf_104
            · have cc11 : ¬ (dm_ph (min (dm_s a b) (dm_s a c9)) ≤ dm_ph (dm_s b c9)) := fun q => cc11 ((nI_leI (by omega) (by omega)).mpr q)
              refine lv_iload hx hb d_Mod_leastOf_97 (lv_at hl 1 rfl) ?_
              refine lv_goto (tgt := 104) hx hb d_Mod_leastOf_99 (by decide) ?_
              exact W.iret hx hb hr (fun t ht hW => ⟨_, rfl, (congrArg nI (dm_ph_m2 hz1 hz2 cc11)).trans (dm_ph_eq (by unfold dm_q; rw [if_neg cc3, if_neg cc6])), ht⟩) (fun q hq => by cases hq) d_Mod_leastOf_104
          · have cc10 : ¬ (dm_ph (dm_s a c9) ≤ dm_ph (dm_s a b)) := fun q => cc10 ((nI_leI (by omega) (by omega)).mpr q)
            refine lv_iload hx hb d_Mod_leastOf_81 (lv_at hl 2 rfl) ?_
            refine lv_goto (tgt := 88) hx hb d_Mod_leastOf_83 (by decide) ?_
            refine kk_top (y := nI (dm_ph (min (dm_s a b) (dm_s a c9)))) ((congrArg nI (dm_ph_m2 hac hab cc10)).trans (dm_ph_eq (Nat.min_comm _ _))) ?_
            refine lv_istore hx hb d_Mod_leastOf_88 hl (by decide) rfl (fun ls hl => ?_)
            have hl : lv_has ls 10 [(9, .int (nI (dm_ph (min (dm_s a b) (dm_s a c9))))), (8, .int (nI (dm_ph (dm_s b c9)))), (7, .int (nI (dm_ph (dm_s a c9)))), (6, .int (nI (dm_ph (dm_s a b)))), (5, .int (nI (dm_ph (dm_s (dm_s a b) c9)))), (4, .int (nI (dm_ph (min (min a b) c9)))), (0, .int (nI (dm_ph a))), (1, .int (nI (dm_ph b))), (2, .int (nI (dm_ph c9))), (3, .int (nI n))] := hl
            refine lv_iload hx hb d_Mod_leastOf_90 (lv_at hl 1 rfl) ?_
            refine lv_iload hx hb d_Mod_leastOf_92 (lv_at hl 0 rfl) ?_
            refine lv_icmp_ge (tgt := 102) hx hb d_Mod_leastOf_94 (by decide) (fun cc12 => ?_) (fun cc12 => ?_)
            · have cc12 : dm_ph (min (dm_s a b) (dm_s a c9)) ≤ dm_ph (dm_s b c9) := (nI_leI (by omega) (by omega)).mp cc12
              refine lv_iload hx hb d_Mod_leastOf_102 (lv_at hl 0 rfl) ?_
              exact W.iret hx hb hr (fun t ht hW => ⟨_, rfl, (congrArg nI (dm_ph_m1 hz1 hz2 cc12)).trans (dm_ph_eq (by unfold dm_q; rw [if_neg cc3, if_neg cc6])), ht⟩) (fun q hq => by cases hq) d_Mod_leastOf_104
            · have cc12 : ¬ (dm_ph (min (dm_s a b) (dm_s a c9)) ≤ dm_ph (dm_s b c9)) := fun q => cc12 ((nI_leI (by omega) (by omega)).mpr q)
              refine lv_iload hx hb d_Mod_leastOf_97 (lv_at hl 1 rfl) ?_
              refine lv_goto (tgt := 104) hx hb d_Mod_leastOf_99 (by decide) ?_
              exact W.iret hx hb hr (fun t ht hW => ⟨_, rfl, (congrArg nI (dm_ph_m2 hz1 hz2 cc12)).trans (dm_ph_eq (by unfold dm_q; rw [if_neg cc3, if_neg cc6])), ht⟩) (fun q hq => by cases hq) d_Mod_leastOf_104
        · have cc6 : n = 3 := (nI_eq (by omega) (by omega)).mp cc6
          refine lv_iload hx hb d_Mod_leastOf_50 (lv_at hl 0 rfl) ?_
          exact W.iret hx hb hr (fun t ht hW => ⟨_, rfl, dm_ph_eq (by unfold dm_q; rw [if_neg cc3, if_pos cc6]), ht⟩) (fun q hq => by cases hq) d_Mod_leastOf_52
      · have cc3 : n = 1 := (nI_eq (by omega) (by omega)).mp cc3
        refine lv_iload hx hb d_Mod_leastOf_31 (lv_at hl 0 rfl) ?_
        exact W.iret hx hb hr (fun t ht hW => ⟨_, rfl, dm_ph_eq (if_pos cc3).symm, ht⟩) (fun q hq => by cases hq) d_Mod_leastOf_33
    · have cc2 : ¬ (dm_ph (min a b) ≤ dm_ph c9) := fun q => cc2 ((nI_leI (by omega) (by omega)).mpr q)
      refine lv_iload_n hx hb d_Mod_leastOf_18 rfl (lv_at hl 3 rfl) ?_
      refine lv_goto (tgt := 24) hx hb d_Mod_leastOf_19 (by decide) ?_
      refine kk_top (y := nI (dm_ph (min (min a b) c9))) (congrArg nI (dm_ph_m2 (by omega) hc1 cc2)) ?_
      refine lv_istore hx hb d_Mod_leastOf_24 hl (by decide) rfl (fun ls hl => ?_)
      have hl : lv_has ls 10 [(4, .int (nI (dm_ph (min (min a b) c9)))), (0, .int (nI (dm_ph a))), (1, .int (nI (dm_ph b))), (2, .int (nI (dm_ph c9))), (3, .int (nI n))] := hl
      refine lv_iload_n hx hb d_Mod_leastOf_26 rfl (lv_at hl 4 rfl) ?_
      refine lv_iconst (v := nI 1) hx hb d_Mod_leastOf_27 (by decide) ?_
      refine lv_icmp_ne (tgt := 34) hx hb d_Mod_leastOf_28 (by decide) (fun cc13 => ?_) (fun cc13 => ?_)
      · have cc13 : ¬ (n = 1) := fun q => cc13 ((nI_eq (by omega) (by omega)).mpr q)
        refine lv_iload_n hx hb d_Mod_leastOf_34 rfl (lv_at hl 1 rfl) ?_
        refine lv_iload_n hx hb d_Mod_leastOf_35 rfl (lv_at hl 2 rfl) ?_
        refine vp_callSi (va_Run.run (va_runS (As := [.int (nI (dm_ph a)), .int (nI (dm_ph b))]) (rest := []) ⟨hx, hb, hml, hown, hts⟩ (c_Mod_sum l (a := a) (b := b) (by omega) (by omega)) (va_cwS 2 hts (gW_in (hd := [_, _, _, _]) (kk_4 wd_644 wd_645 wd_8 cw_Mod_sum)) rfl rfl rfl ds_Mod_sum ⟨Nat.le_of_ble_eq_true rfl, Nat.le_of_ble_eq_true rfl⟩) (kk_preS hK hP hz hBz) rfl rfl hl.1 rfl (lv_room (Nat.le_of_ble_eq_true rfl)) d_Mod_leastOf_36 ⟨Nat.le_of_ble_eq_true rfl, Nat.le_of_ble_eq_true rfl⟩)) (fun r14 hr14 => ?_)
        subst hr14
        refine lv_iload_n hx hb d_Mod_leastOf_39 rfl (lv_at hl 3 rfl) ?_
        refine vp_callSi (va_Run.run (va_runS (As := [.int (nI (dm_ph (dm_s a b))), .int (nI (dm_ph c9))]) (rest := []) ⟨hx, hb, hml, hown, hts⟩ (c_Mod_sum l (a := (dm_s a b)) (b := c9) (by omega) (by omega)) (va_cwS 2 hts (gW_in (hd := [_, _, _, _]) (kk_4 wd_644 wd_645 wd_8 cw_Mod_sum)) rfl rfl rfl ds_Mod_sum ⟨Nat.le_of_ble_eq_true rfl, Nat.le_of_ble_eq_true rfl⟩) (kk_preS hK hP hz hBz) rfl rfl hl.1 rfl (lv_room (Nat.le_of_ble_eq_true rfl)) d_Mod_leastOf_40 ⟨Nat.le_of_ble_eq_true rfl, Nat.le_of_ble_eq_true rfl⟩)) (fun r15 hr15 => ?_)
        subst hr15
        refine lv_istore hx hb d_Mod_leastOf_43 hl (by decide) rfl (fun ls hl => ?_)
        have hl : lv_has ls 10 [(5, .int (nI (dm_ph (dm_s (dm_s a b) c9)))), (4, .int (nI (dm_ph (min (min a b) c9)))), (0, .int (nI (dm_ph a))), (1, .int (nI (dm_ph b))), (2, .int (nI (dm_ph c9))), (3, .int (nI n))] := hl
        refine lv_iload_n hx hb d_Mod_leastOf_45 rfl (lv_at hl 5 rfl) ?_
        refine lv_iconst (v := nI 3) hx hb d_Mod_leastOf_46 (by decide) ?_
        refine lv_icmp_ne (tgt := 53) hx hb d_Mod_leastOf_47 (by decide) (fun cc16 => ?_) (fun cc16 => ?_)
        · have cc16 : ¬ (n = 3) := fun q => cc16 ((nI_eq (by omega) (by omega)).mpr q)
          refine lv_iload_n hx hb d_Mod_leastOf_53 rfl (lv_at hl 2 rfl) ?_
          refine lv_iload_n hx hb d_Mod_leastOf_54 rfl (lv_at hl 3 rfl) ?_
          refine vp_callSi (va_Run.run (va_runS (As := [.int (nI (dm_ph a)), .int (nI (dm_ph b))]) (rest := []) ⟨hx, hb, hml, hown, hts⟩ (c_Mod_sum l (a := a) (b := b) (by omega) (by omega)) (va_cwS 2 hts (gW_in (hd := [_, _, _, _]) (kk_4 wd_644 wd_645 wd_8 cw_Mod_sum)) rfl rfl rfl ds_Mod_sum ⟨Nat.le_of_ble_eq_true rfl, Nat.le_of_ble_eq_true rfl⟩) (kk_preS hK hP hz hBz) rfl rfl hl.1 rfl (lv_room (Nat.le_of_ble_eq_true rfl)) d_Mod_leastOf_55 ⟨Nat.le_of_ble_eq_true rfl, Nat.le_of_ble_eq_true rfl⟩)) (fun r17 hr17 => ?_)
          subst hr17
          refine lv_istore hx hb d_Mod_leastOf_58 hl (by decide) rfl (fun ls hl => ?_)
          have hl : lv_has ls 10 [(6, .int (nI (dm_ph (dm_s a b)))), (5, .int (nI (dm_ph (dm_s (dm_s a b) c9)))), (4, .int (nI (dm_ph (min (min a b) c9)))), (0, .int (nI (dm_ph a))), (1, .int (nI (dm_ph b))), (2, .int (nI (dm_ph c9))), (3, .int (nI n))] := hl
          refine lv_iload_n hx hb d_Mod_leastOf_60 rfl (lv_at hl 3 rfl) ?_
          refine lv_iload_n hx hb d_Mod_leastOf_61 rfl (lv_at hl 5 rfl) ?_
          refine vp_callSi (va_Run.run (va_runS (As := [.int (nI (dm_ph a)), .int (nI (dm_ph c9))]) (rest := []) ⟨hx, hb, hml, hown, hts⟩ (c_Mod_sum l (a := a) (b := c9) (by omega) (by omega)) (va_cwS 2 hts (gW_in (hd := [_, _, _, _]) (kk_4 wd_644 wd_645 wd_8 cw_Mod_sum)) rfl rfl rfl ds_Mod_sum ⟨Nat.le_of_ble_eq_true rfl, Nat.le_of_ble_eq_true rfl⟩) (kk_preS hK hP hz hBz) rfl rfl hl.1 rfl (lv_room (Nat.le_of_ble_eq_true rfl)) d_Mod_leastOf_62 ⟨Nat.le_of_ble_eq_true rfl, Nat.le_of_ble_eq_true rfl⟩)) (fun r18 hr18 => ?_)
          subst hr18
          refine lv_istore hx hb d_Mod_leastOf_65 hl (by decide) rfl (fun ls hl => ?_)
          have hl : lv_has ls 10 [(7, .int (nI (dm_ph (dm_s a c9)))), (6, .int (nI (dm_ph (dm_s a b)))), (5, .int (nI (dm_ph (dm_s (dm_s a b) c9)))), (4, .int (nI (dm_ph (min (min a b) c9)))), (0, .int (nI (dm_ph a))), (1, .int (nI (dm_ph b))), (2, .int (nI (dm_ph c9))), (3, .int (nI n))] := hl
          refine lv_iload_n hx hb d_Mod_leastOf_67 rfl (lv_at hl 5 rfl) ?_
          refine lv_iload_n hx hb d_Mod_leastOf_68 rfl (lv_at hl 6 rfl) ?_
          refine vp_callSi (va_Run.run (va_runS (As := [.int (nI (dm_ph b)), .int (nI (dm_ph c9))]) (rest := []) ⟨hx, hb, hml, hown, hts⟩ (c_Mod_sum l (a := b) (b := c9) (by omega) (by omega)) (va_cwS 2 hts (gW_in (hd := [_, _, _, _]) (kk_4 wd_644 wd_645 wd_8 cw_Mod_sum)) rfl rfl rfl ds_Mod_sum ⟨Nat.le_of_ble_eq_true rfl, Nat.le_of_ble_eq_true rfl⟩) (kk_preS hK hP hz hBz) rfl rfl hl.1 rfl (lv_room (Nat.le_of_ble_eq_true rfl)) d_Mod_leastOf_69 ⟨Nat.le_of_ble_eq_true rfl, Nat.le_of_ble_eq_true rfl⟩)) (fun r19 hr19 => ?_)
          subst hr19
          refine lv_istore hx hb d_Mod_leastOf_72 hl (by decide) rfl (fun ls hl => ?_)
          have hl : lv_has ls 10 [(8, .int (nI (dm_ph (dm_s b c9)))), (7, .int (nI (dm_ph (dm_s a c9)))), (6, .int (nI (dm_ph (dm_s a b)))), (5, .int (nI (dm_ph (dm_s (dm_s a b) c9)))), (4, .int (nI (dm_ph (min (min a b) c9)))), (0, .int (nI (dm_ph a))), (1, .int (nI (dm_ph b))), (2, .int (nI (dm_ph c9))), (3, .int (nI n))] := hl
          refine lv_iload hx hb d_Mod_leastOf_74 (lv_at hl 2 rfl) ?_
          refine lv_iload hx hb d_Mod_leastOf_76 (lv_at hl 1 rfl) ?_
          refine lv_icmp_ge (tgt := 86) hx hb d_Mod_leastOf_78 (by decide) (fun cc20 => ?_) (fun cc20 => ?_)
          · have cc20 : dm_ph (dm_s a c9) ≤ dm_ph (dm_s a b) := (nI_leI (by omega) (by omega)).mp cc20
            refine lv_iload hx hb d_Mod_leastOf_86 (lv_at hl 1 rfl) ?_
            refine kk_top (y := nI (dm_ph (min (dm_s a b) (dm_s a c9)))) ((congrArg nI (dm_ph_m1 hac hab cc20)).trans (dm_ph_eq (Nat.min_comm _ _))) ?_
            refine lv_istore hx hb d_Mod_leastOf_88 hl (by decide) rfl (fun ls hl => ?_)
            have hl : lv_has ls 10 [(9, .int (nI (dm_ph (min (dm_s a b) (dm_s a c9))))), (8, .int (nI (dm_ph (dm_s b c9)))), (7, .int (nI (dm_ph (dm_s a c9)))), (6, .int (nI (dm_ph (dm_s a b)))), (5, .int (nI (dm_ph (dm_s (dm_s a b) c9)))), (4, .int (nI (dm_ph (min (min a b) c9)))), (0, .int (nI (dm_ph a))), (1, .int (nI (dm_ph b))), (2, .int (nI (dm_ph c9))), (3, .int (nI n))] := hl
            refine lv_iload hx hb d_Mod_leastOf_90 (lv_at hl 1 rfl) ?_
            refine lv_iload hx hb d_Mod_leastOf_92 (lv_at hl 0 rfl) ?_
            refine lv_icmp_ge (tgt := 102) hx hb d_Mod_leastOf_94 (by decide) (fun cc21 => ?_) (fun cc21 => ?_)
            · have cc21 : dm_ph (min (dm_s a b) (dm_s a c9)) ≤ dm_ph (dm_s b c9) := (nI_leI (by omega) (by omega)).mp cc21
              refine lv_iload hx hb d_Mod_leastOf_102 (lv_at hl 0 rfl) ?_
              exact W.iret hx hb hr (fun t ht hW => ⟨_, rfl, (congrArg nI (dm_ph_m1 hz1 hz2 cc21)).trans (dm_ph_eq (by unfold dm_q; rw [if_neg cc13, if_neg cc16])), ht⟩) (fun q hq => by cases hq) d_Mod_leastOf_104
            · have cc21 : ¬ (dm_ph (min (dm_s a b) (dm_s a c9)) ≤ dm_ph (dm_s b c9)) := fun q => cc21 ((nI_leI (by omega) (by omega)).mpr q)
              refine lv_iload hx hb d_Mod_leastOf_97 (lv_at hl 1 rfl) ?_
              refine lv_goto (tgt := 104) hx hb d_Mod_leastOf_99 (by decide) ?_
              exact W.iret hx hb hr (fun t ht hW => ⟨_, rfl, (congrArg nI (dm_ph_m2 hz1 hz2 cc21)).trans (dm_ph_eq (by unfold dm_q; rw [if_neg cc13, if_neg cc16])), ht⟩) (fun q hq => by cases hq) d_Mod_leastOf_104
          · have cc20 : ¬ (dm_ph (dm_s a c9) ≤ dm_ph (dm_s a b)) := fun q => cc20 ((nI_leI (by omega) (by omega)).mpr q)
            refine lv_iload hx hb d_Mod_leastOf_81 (lv_at hl 2 rfl) ?_
            refine lv_goto (tgt := 88) hx hb d_Mod_leastOf_83 (by decide) ?_
            refine kk_top (y := nI (dm_ph (min (dm_s a b) (dm_s a c9)))) ((congrArg nI (dm_ph_m2 hac hab cc20)).trans (dm_ph_eq (Nat.min_comm _ _))) ?_
            refine lv_istore hx hb d_Mod_leastOf_88 hl (by decide) rfl (fun ls hl => ?_)
            have hl : lv_has ls 10 [(9, .int (nI (dm_ph (min (dm_s a b) (dm_s a c9))))), (8, .int (nI (dm_ph (dm_s b c9)))), (7, .int (nI (dm_ph (dm_s a c9)))), (6, .int (nI (dm_ph (dm_s a b)))), (5, .int (nI (dm_ph (dm_s (dm_s a b) c9)))), (4, .int (nI (dm_ph (min (min a b) c9)))), (0, .int (nI (dm_ph a))), (1, .int (nI (dm_ph b))), (2, .int (nI (dm_ph c9))), (3, .int (nI n))] := hl
            refine lv_iload hx hb d_Mod_leastOf_90 (lv_at hl 1 rfl) ?_
            refine lv_iload hx hb d_Mod_leastOf_92 (lv_at hl 0 rfl) ?_
            refine lv_icmp_ge (tgt := 102) hx hb d_Mod_leastOf_94 (by decide) (fun cc22 => ?_) (fun cc22 => ?_)
            · have cc22 : dm_ph (min (dm_s a b) (dm_s a c9)) ≤ dm_ph (dm_s b c9) := (nI_leI (by omega) (by omega)).mp cc22
              refine lv_iload hx hb d_Mod_leastOf_102 (lv_at hl 0 rfl) ?_
              exact W.iret hx hb hr (fun t ht hW => ⟨_, rfl, (congrArg nI (dm_ph_m1 hz1 hz2 cc22)).trans (dm_ph_eq (by unfold dm_q; rw [if_neg cc13, if_neg cc16])), ht⟩) (fun q hq => by cases hq) d_Mod_leastOf_104
            · have cc22 : ¬ (dm_ph (min (dm_s a b) (dm_s a c9)) ≤ dm_ph (dm_s b c9)) := fun q => cc22 ((nI_leI (by omega) (by omega)).mpr q)
              refine lv_iload hx hb d_Mod_leastOf_97 (lv_at hl 1 rfl) ?_
              refine lv_goto (tgt := 104) hx hb d_Mod_leastOf_99 (by decide) ?_
              exact W.iret hx hb hr (fun t ht hW => ⟨_, rfl, (congrArg nI (dm_ph_m2 hz1 hz2 cc22)).trans (dm_ph_eq (by unfold dm_q; rw [if_neg cc13, if_neg cc16])), ht⟩) (fun q hq => by cases hq) d_Mod_leastOf_104
        · have cc16 : n = 3 := (nI_eq (by omega) (by omega)).mp cc16
          refine lv_iload hx hb d_Mod_leastOf_50 (lv_at hl 0 rfl) ?_
          exact W.iret hx hb hr (fun t ht hW => ⟨_, rfl, dm_ph_eq (by unfold dm_q; rw [if_neg cc13, if_pos cc16]), ht⟩) (fun q hq => by cases hq) d_Mod_leastOf_52
      · have cc13 : n = 1 := (nI_eq (by omega) (by omega)).mp cc13
        refine lv_iload hx hb d_Mod_leastOf_31 (lv_at hl 0 rfl) ?_
        exact W.iret hx hb hr (fun t ht hW => ⟨_, rfl, dm_ph_eq (if_pos cc13).symm, ht⟩) (fun q hq => by cases hq) d_Mod_leastOf_33
  · have cc1 : ¬ (dm_ph b ≤ dm_ph a) := fun q => cc1 ((nI_leI (by omega) (by omega)).mpr q)
    refine lv_iload_n hx hb d_Mod_leastOf_5 rfl (lv_at hl 0 rfl) ?_
    refine lv_goto (tgt := 10) hx hb d_Mod_leastOf_6 (by decide) ?_
    refine kk_top (y := nI (dm_ph (min a b))) ((congrArg nI (dm_ph_m2 hb1 ha1 cc1)).trans (dm_ph_eq (Nat.min_comm _ _))) ?_
    refine lv_istore hx hb d_Mod_leastOf_10 hl (by decide) rfl (fun ls hl => ?_)
    have hl : lv_has ls 10 [(4, .int (nI (dm_ph (min a b)))), (0, .int (nI (dm_ph a))), (1, .int (nI (dm_ph b))), (2, .int (nI (dm_ph c9))), (3, .int (nI n))] := hl
    refine lv_iload_n hx hb d_Mod_leastOf_12 rfl (lv_at hl 3 rfl) ?_
    refine lv_iload hx hb d_Mod_leastOf_13 (lv_at hl 0 rfl) ?_
    refine lv_icmp_ge (tgt := 22) hx hb d_Mod_leastOf_15 (by decide) (fun cc23 => ?_) (fun cc23 => ?_)
    · have cc23 : dm_ph (min a b) ≤ dm_ph c9 := (nI_leI (by omega) (by omega)).mp cc23
      refine lv_iload hx hb d_Mod_leastOf_22 (lv_at hl 0 rfl) ?_
      refine kk_top (y := nI (dm_ph (min (min a b) c9))) (congrArg nI (dm_ph_m1 (by omega) hc1 cc23)) ?_
      refine lv_istore hx hb d_Mod_leastOf_24 hl (by decide) rfl (fun ls hl => ?_)
      have hl : lv_has ls 10 [(4, .int (nI (dm_ph (min (min a b) c9)))), (0, .int (nI (dm_ph a))), (1, .int (nI (dm_ph b))), (2, .int (nI (dm_ph c9))), (3, .int (nI n))] := hl
      refine lv_iload_n hx hb d_Mod_leastOf_26 rfl (lv_at hl 4 rfl) ?_
      refine lv_iconst (v := nI 1) hx hb d_Mod_leastOf_27 (by decide) ?_
      refine lv_icmp_ne (tgt := 34) hx hb d_Mod_leastOf_28 (by decide) (fun cc24 => ?_) (fun cc24 => ?_)
      · have cc24 : ¬ (n = 1) := fun q => cc24 ((nI_eq (by omega) (by omega)).mpr q)
        refine lv_iload_n hx hb d_Mod_leastOf_34 rfl (lv_at hl 1 rfl) ?_
        refine lv_iload_n hx hb d_Mod_leastOf_35 rfl (lv_at hl 2 rfl) ?_
        refine vp_callSi (va_Run.run (va_runS (As := [.int (nI (dm_ph a)), .int (nI (dm_ph b))]) (rest := []) ⟨hx, hb, hml, hown, hts⟩ (c_Mod_sum l (a := a) (b := b) (by omega) (by omega)) (va_cwS 2 hts (gW_in (hd := [_, _, _, _]) (kk_4 wd_644 wd_645 wd_8 cw_Mod_sum)) rfl rfl rfl ds_Mod_sum ⟨Nat.le_of_ble_eq_true rfl, Nat.le_of_ble_eq_true rfl⟩) (kk_preS hK hP hz hBz) rfl rfl hl.1 rfl (lv_room (Nat.le_of_ble_eq_true rfl)) d_Mod_leastOf_36 ⟨Nat.le_of_ble_eq_true rfl, Nat.le_of_ble_eq_true rfl⟩)) (fun r25 hr25 => ?_)
        subst hr25
        refine lv_iload_n hx hb d_Mod_leastOf_39 rfl (lv_at hl 3 rfl) ?_
        refine vp_callSi (va_Run.run (va_runS (As := [.int (nI (dm_ph (dm_s a b))), .int (nI (dm_ph c9))]) (rest := []) ⟨hx, hb, hml, hown, hts⟩ (c_Mod_sum l (a := (dm_s a b)) (b := c9) (by omega) (by omega)) (va_cwS 2 hts (gW_in (hd := [_, _, _, _]) (kk_4 wd_644 wd_645 wd_8 cw_Mod_sum)) rfl rfl rfl ds_Mod_sum ⟨Nat.le_of_ble_eq_true rfl, Nat.le_of_ble_eq_true rfl⟩) (kk_preS hK hP hz hBz) rfl rfl hl.1 rfl (lv_room (Nat.le_of_ble_eq_true rfl)) d_Mod_leastOf_40 ⟨Nat.le_of_ble_eq_true rfl, Nat.le_of_ble_eq_true rfl⟩)) (fun r26 hr26 => ?_)
        subst hr26
        refine lv_istore hx hb d_Mod_leastOf_43 hl (by decide) rfl (fun ls hl => ?_)
        have hl : lv_has ls 10 [(5, .int (nI (dm_ph (dm_s (dm_s a b) c9)))), (4, .int (nI (dm_ph (min (min a b) c9)))), (0, .int (nI (dm_ph a))), (1, .int (nI (dm_ph b))), (2, .int (nI (dm_ph c9))), (3, .int (nI n))] := hl
        refine lv_iload_n hx hb d_Mod_leastOf_45 rfl (lv_at hl 5 rfl) ?_
        refine lv_iconst (v := nI 3) hx hb d_Mod_leastOf_46 (by decide) ?_
        refine lv_icmp_ne (tgt := 53) hx hb d_Mod_leastOf_47 (by decide) (fun cc27 => ?_) (fun cc27 => ?_)
        · have cc27 : ¬ (n = 3) := fun q => cc27 ((nI_eq (by omega) (by omega)).mpr q)
          refine lv_iload_n hx hb d_Mod_leastOf_53 rfl (lv_at hl 2 rfl) ?_
          refine lv_iload_n hx hb d_Mod_leastOf_54 rfl (lv_at hl 3 rfl) ?_
          refine vp_callSi (va_Run.run (va_runS (As := [.int (nI (dm_ph a)), .int (nI (dm_ph b))]) (rest := []) ⟨hx, hb, hml, hown, hts⟩ (c_Mod_sum l (a := a) (b := b) (by omega) (by omega)) (va_cwS 2 hts (gW_in (hd := [_, _, _, _]) (kk_4 wd_644 wd_645 wd_8 cw_Mod_sum)) rfl rfl rfl ds_Mod_sum ⟨Nat.le_of_ble_eq_true rfl, Nat.le_of_ble_eq_true rfl⟩) (kk_preS hK hP hz hBz) rfl rfl hl.1 rfl (lv_room (Nat.le_of_ble_eq_true rfl)) d_Mod_leastOf_55 ⟨Nat.le_of_ble_eq_true rfl, Nat.le_of_ble_eq_true rfl⟩)) (fun r28 hr28 => ?_)
          subst hr28
          refine lv_istore hx hb d_Mod_leastOf_58 hl (by decide) rfl (fun ls hl => ?_)
          have hl : lv_has ls 10 [(6, .int (nI (dm_ph (dm_s a b)))), (5, .int (nI (dm_ph (dm_s (dm_s a b) c9)))), (4, .int (nI (dm_ph (min (min a b) c9)))), (0, .int (nI (dm_ph a))), (1, .int (nI (dm_ph b))), (2, .int (nI (dm_ph c9))), (3, .int (nI n))] := hl
          refine lv_iload_n hx hb d_Mod_leastOf_60 rfl (lv_at hl 3 rfl) ?_
          refine lv_iload_n hx hb d_Mod_leastOf_61 rfl (lv_at hl 5 rfl) ?_
          refine vp_callSi (va_Run.run (va_runS (As := [.int (nI (dm_ph a)), .int (nI (dm_ph c9))]) (rest := []) ⟨hx, hb, hml, hown, hts⟩ (c_Mod_sum l (a := a) (b := c9) (by omega) (by omega)) (va_cwS 2 hts (gW_in (hd := [_, _, _, _]) (kk_4 wd_644 wd_645 wd_8 cw_Mod_sum)) rfl rfl rfl ds_Mod_sum ⟨Nat.le_of_ble_eq_true rfl, Nat.le_of_ble_eq_true rfl⟩) (kk_preS hK hP hz hBz) rfl rfl hl.1 rfl (lv_room (Nat.le_of_ble_eq_true rfl)) d_Mod_leastOf_62 ⟨Nat.le_of_ble_eq_true rfl, Nat.le_of_ble_eq_true rfl⟩)) (fun r29 hr29 => ?_)
          subst hr29
          refine lv_istore hx hb d_Mod_leastOf_65 hl (by decide) rfl (fun ls hl => ?_)
          have hl : lv_has ls 10 [(7, .int (nI (dm_ph (dm_s a c9)))), (6, .int (nI (dm_ph (dm_s a b)))), (5, .int (nI (dm_ph (dm_s (dm_s a b) c9)))), (4, .int (nI (dm_ph (min (min a b) c9)))), (0, .int (nI (dm_ph a))), (1, .int (nI (dm_ph b))), (2, .int (nI (dm_ph c9))), (3, .int (nI n))] := hl
          refine lv_iload_n hx hb d_Mod_leastOf_67 rfl (lv_at hl 5 rfl) ?_
          refine lv_iload_n hx hb d_Mod_leastOf_68 rfl (lv_at hl 6 rfl) ?_
          refine vp_callSi (va_Run.run (va_runS (As := [.int (nI (dm_ph b)), .int (nI (dm_ph c9))]) (rest := []) ⟨hx, hb, hml, hown, hts⟩ (c_Mod_sum l (a := b) (b := c9) (by omega) (by omega)) (va_cwS 2 hts (gW_in (hd := [_, _, _, _]) (kk_4 wd_644 wd_645 wd_8 cw_Mod_sum)) rfl rfl rfl ds_Mod_sum ⟨Nat.le_of_ble_eq_true rfl, Nat.le_of_ble_eq_true rfl⟩) (kk_preS hK hP hz hBz) rfl rfl hl.1 rfl (lv_room (Nat.le_of_ble_eq_true rfl)) d_Mod_leastOf_69 ⟨Nat.le_of_ble_eq_true rfl, Nat.le_of_ble_eq_true rfl⟩)) (fun r30 hr30 => ?_)
          subst hr30
          refine lv_istore hx hb d_Mod_leastOf_72 hl (by decide) rfl (fun ls hl => ?_)
          have hl : lv_has ls 10 [(8, .int (nI (dm_ph (dm_s b c9)))), (7, .int (nI (dm_ph (dm_s a c9)))), (6, .int (nI (dm_ph (dm_s a b)))), (5, .int (nI (dm_ph (dm_s (dm_s a b) c9)))), (4, .int (nI (dm_ph (min (min a b) c9)))), (0, .int (nI (dm_ph a))), (1, .int (nI (dm_ph b))), (2, .int (nI (dm_ph c9))), (3, .int (nI n))] := hl
          refine lv_iload hx hb d_Mod_leastOf_74 (lv_at hl 2 rfl) ?_
          refine lv_iload hx hb d_Mod_leastOf_76 (lv_at hl 1 rfl) ?_
          refine lv_icmp_ge (tgt := 86) hx hb d_Mod_leastOf_78 (by decide) (fun cc31 => ?_) (fun cc31 => ?_)
          · have cc31 : dm_ph (dm_s a c9) ≤ dm_ph (dm_s a b) := (nI_leI (by omega) (by omega)).mp cc31
            refine lv_iload hx hb d_Mod_leastOf_86 (lv_at hl 1 rfl) ?_
            refine kk_top (y := nI (dm_ph (min (dm_s a b) (dm_s a c9)))) ((congrArg nI (dm_ph_m1 hac hab cc31)).trans (dm_ph_eq (Nat.min_comm _ _))) ?_
            refine lv_istore hx hb d_Mod_leastOf_88 hl (by decide) rfl (fun ls hl => ?_)
            have hl : lv_has ls 10 [(9, .int (nI (dm_ph (min (dm_s a b) (dm_s a c9))))), (8, .int (nI (dm_ph (dm_s b c9)))), (7, .int (nI (dm_ph (dm_s a c9)))), (6, .int (nI (dm_ph (dm_s a b)))), (5, .int (nI (dm_ph (dm_s (dm_s a b) c9)))), (4, .int (nI (dm_ph (min (min a b) c9)))), (0, .int (nI (dm_ph a))), (1, .int (nI (dm_ph b))), (2, .int (nI (dm_ph c9))), (3, .int (nI n))] := hl
            refine lv_iload hx hb d_Mod_leastOf_90 (lv_at hl 1 rfl) ?_
            refine lv_iload hx hb d_Mod_leastOf_92 (lv_at hl 0 rfl) ?_
            refine lv_icmp_ge (tgt := 102) hx hb d_Mod_leastOf_94 (by decide) (fun cc32 => ?_) (fun cc32 => ?_)
            · have cc32 : dm_ph (min (dm_s a b) (dm_s a c9)) ≤ dm_ph (dm_s b c9) := (nI_leI (by omega) (by omega)).mp cc32
              refine lv_iload hx hb d_Mod_leastOf_102 (lv_at hl 0 rfl) ?_
              exact W.iret hx hb hr (fun t ht hW => ⟨_, rfl, (congrArg nI (dm_ph_m1 hz1 hz2 cc32)).trans (dm_ph_eq (by unfold dm_q; rw [if_neg cc24, if_neg cc27])), ht⟩) (fun q hq => by cases hq) d_Mod_leastOf_104
            · have cc32 : ¬ (dm_ph (min (dm_s a b) (dm_s a c9)) ≤ dm_ph (dm_s b c9)) := fun q => cc32 ((nI_leI (by omega) (by omega)).mpr q)
              refine lv_iload hx hb d_Mod_leastOf_97 (lv_at hl 1 rfl) ?_
              refine lv_goto (tgt := 104) hx hb d_Mod_leastOf_99 (by decide) ?_
              exact W.iret hx hb hr (fun t ht hW => ⟨_, rfl, (congrArg nI (dm_ph_m2 hz1 hz2 cc32)).trans (dm_ph_eq (by unfold dm_q; rw [if_neg cc24, if_neg cc27])), ht⟩) (fun q hq => by cases hq) d_Mod_leastOf_104
          · have cc31 : ¬ (dm_ph (dm_s a c9) ≤ dm_ph (dm_s a b)) := fun q => cc31 ((nI_leI (by omega) (by omega)).mpr q)
            refine lv_iload hx hb d_Mod_leastOf_81 (lv_at hl 2 rfl) ?_
            refine lv_goto (tgt := 88) hx hb d_Mod_leastOf_83 (by decide) ?_
            refine kk_top (y := nI (dm_ph (min (dm_s a b) (dm_s a c9)))) ((congrArg nI (dm_ph_m2 hac hab cc31)).trans (dm_ph_eq (Nat.min_comm _ _))) ?_
            refine lv_istore hx hb d_Mod_leastOf_88 hl (by decide) rfl (fun ls hl => ?_)
            have hl : lv_has ls 10 [(9, .int (nI (dm_ph (min (dm_s a b) (dm_s a c9))))), (8, .int (nI (dm_ph (dm_s b c9)))), (7, .int (nI (dm_ph (dm_s a c9)))), (6, .int (nI (dm_ph (dm_s a b)))), (5, .int (nI (dm_ph (dm_s (dm_s a b) c9)))), (4, .int (nI (dm_ph (min (min a b) c9)))), (0, .int (nI (dm_ph a))), (1, .int (nI (dm_ph b))), (2, .int (nI (dm_ph c9))), (3, .int (nI n))] := hl
            refine lv_iload hx hb d_Mod_leastOf_90 (lv_at hl 1 rfl) ?_
            refine lv_iload hx hb d_Mod_leastOf_92 (lv_at hl 0 rfl) ?_
            refine lv_icmp_ge (tgt := 102) hx hb d_Mod_leastOf_94 (by decide) (fun cc33 => ?_) (fun cc33 => ?_)
            · have cc33 : dm_ph (min (dm_s a b) (dm_s a c9)) ≤ dm_ph (dm_s b c9) := (nI_leI (by omega) (by omega)).mp cc33
              refine lv_iload hx hb d_Mod_leastOf_102 (lv_at hl 0 rfl) ?_
              exact W.iret hx hb hr (fun t ht hW => ⟨_, rfl, (congrArg nI (dm_ph_m1 hz1 hz2 cc33)).trans (dm_ph_eq (by unfold dm_q; rw [if_neg cc24, if_neg cc27])), ht⟩) (fun q hq => by cases hq) d_Mod_leastOf_104
            · have cc33 : ¬ (dm_ph (min (dm_s a b) (dm_s a c9)) ≤ dm_ph (dm_s b c9)) := fun q => cc33 ((nI_leI (by omega) (by omega)).mpr q)
              refine lv_iload hx hb d_Mod_leastOf_97 (lv_at hl 1 rfl) ?_
              refine lv_goto (tgt := 104) hx hb d_Mod_leastOf_99 (by decide) ?_
              exact W.iret hx hb hr (fun t ht hW => ⟨_, rfl, (congrArg nI (dm_ph_m2 hz1 hz2 cc33)).trans (dm_ph_eq (by unfold dm_q; rw [if_neg cc24, if_neg cc27])), ht⟩) (fun q hq => by cases hq) d_Mod_leastOf_104
        · have cc27 : n = 3 := (nI_eq (by omega) (by omega)).mp cc27
          refine lv_iload hx hb d_Mod_leastOf_50 (lv_at hl 0 rfl) ?_
          exact W.iret hx hb hr (fun t ht hW => ⟨_, rfl, dm_ph_eq (by unfold dm_q; rw [if_neg cc24, if_pos cc27]), ht⟩) (fun q hq => by cases hq) d_Mod_leastOf_52
      · have cc24 : n = 1 := (nI_eq (by omega) (by omega)).mp cc24
        refine lv_iload hx hb d_Mod_leastOf_31 (lv_at hl 0 rfl) ?_
        exact W.iret hx hb hr (fun t ht hW => ⟨_, rfl, dm_ph_eq (if_pos cc24).symm, ht⟩) (fun q hq => by cases hq) d_Mod_leastOf_33
    · have cc23 : ¬ (dm_ph (min a b) ≤ dm_ph c9) := fun q => cc23 ((nI_leI (by omega) (by omega)).mpr q)
      refine lv_iload_n hx hb d_Mod_leastOf_18 rfl (lv_at hl 3 rfl) ?_
      refine lv_goto (tgt := 24) hx hb d_Mod_leastOf_19 (by decide) ?_
      refine kk_top (y := nI (dm_ph (min (min a b) c9))) (congrArg nI (dm_ph_m2 (by omega) hc1 cc23)) ?_
      refine lv_istore hx hb d_Mod_leastOf_24 hl (by decide) rfl (fun ls hl => ?_)
      have hl : lv_has ls 10 [(4, .int (nI (dm_ph (min (min a b) c9)))), (0, .int (nI (dm_ph a))), (1, .int (nI (dm_ph b))), (2, .int (nI (dm_ph c9))), (3, .int (nI n))] := hl
      refine lv_iload_n hx hb d_Mod_leastOf_26 rfl (lv_at hl 4 rfl) ?_
      refine lv_iconst (v := nI 1) hx hb d_Mod_leastOf_27 (by decide) ?_
      refine lv_icmp_ne (tgt := 34) hx hb d_Mod_leastOf_28 (by decide) (fun cc34 => ?_) (fun cc34 => ?_)
      · have cc34 : ¬ (n = 1) := fun q => cc34 ((nI_eq (by omega) (by omega)).mpr q)
        refine lv_iload_n hx hb d_Mod_leastOf_34 rfl (lv_at hl 1 rfl) ?_
        refine lv_iload_n hx hb d_Mod_leastOf_35 rfl (lv_at hl 2 rfl) ?_
        refine vp_callSi (va_Run.run (va_runS (As := [.int (nI (dm_ph a)), .int (nI (dm_ph b))]) (rest := []) ⟨hx, hb, hml, hown, hts⟩ (c_Mod_sum l (a := a) (b := b) (by omega) (by omega)) (va_cwS 2 hts (gW_in (hd := [_, _, _, _]) (kk_4 wd_644 wd_645 wd_8 cw_Mod_sum)) rfl rfl rfl ds_Mod_sum ⟨Nat.le_of_ble_eq_true rfl, Nat.le_of_ble_eq_true rfl⟩) (kk_preS hK hP hz hBz) rfl rfl hl.1 rfl (lv_room (Nat.le_of_ble_eq_true rfl)) d_Mod_leastOf_36 ⟨Nat.le_of_ble_eq_true rfl, Nat.le_of_ble_eq_true rfl⟩)) (fun r35 hr35 => ?_)
        subst hr35
        refine lv_iload_n hx hb d_Mod_leastOf_39 rfl (lv_at hl 3 rfl) ?_
        refine vp_callSi (va_Run.run (va_runS (As := [.int (nI (dm_ph (dm_s a b))), .int (nI (dm_ph c9))]) (rest := []) ⟨hx, hb, hml, hown, hts⟩ (c_Mod_sum l (a := (dm_s a b)) (b := c9) (by omega) (by omega)) (va_cwS 2 hts (gW_in (hd := [_, _, _, _]) (kk_4 wd_644 wd_645 wd_8 cw_Mod_sum)) rfl rfl rfl ds_Mod_sum ⟨Nat.le_of_ble_eq_true rfl, Nat.le_of_ble_eq_true rfl⟩) (kk_preS hK hP hz hBz) rfl rfl hl.1 rfl (lv_room (Nat.le_of_ble_eq_true rfl)) d_Mod_leastOf_40 ⟨Nat.le_of_ble_eq_true rfl, Nat.le_of_ble_eq_true rfl⟩)) (fun r36 hr36 => ?_)
        subst hr36
        refine lv_istore hx hb d_Mod_leastOf_43 hl (by decide) rfl (fun ls hl => ?_)
        have hl : lv_has ls 10 [(5, .int (nI (dm_ph (dm_s (dm_s a b) c9)))), (4, .int (nI (dm_ph (min (min a b) c9)))), (0, .int (nI (dm_ph a))), (1, .int (nI (dm_ph b))), (2, .int (nI (dm_ph c9))), (3, .int (nI n))] := hl
        refine lv_iload_n hx hb d_Mod_leastOf_45 rfl (lv_at hl 5 rfl) ?_
        refine lv_iconst (v := nI 3) hx hb d_Mod_leastOf_46 (by decide) ?_
        refine lv_icmp_ne (tgt := 53) hx hb d_Mod_leastOf_47 (by decide) (fun cc37 => ?_) (fun cc37 => ?_)
        · have cc37 : ¬ (n = 3) := fun q => cc37 ((nI_eq (by omega) (by omega)).mpr q)
          refine lv_iload_n hx hb d_Mod_leastOf_53 rfl (lv_at hl 2 rfl) ?_
          refine lv_iload_n hx hb d_Mod_leastOf_54 rfl (lv_at hl 3 rfl) ?_
          refine vp_callSi (va_Run.run (va_runS (As := [.int (nI (dm_ph a)), .int (nI (dm_ph b))]) (rest := []) ⟨hx, hb, hml, hown, hts⟩ (c_Mod_sum l (a := a) (b := b) (by omega) (by omega)) (va_cwS 2 hts (gW_in (hd := [_, _, _, _]) (kk_4 wd_644 wd_645 wd_8 cw_Mod_sum)) rfl rfl rfl ds_Mod_sum ⟨Nat.le_of_ble_eq_true rfl, Nat.le_of_ble_eq_true rfl⟩) (kk_preS hK hP hz hBz) rfl rfl hl.1 rfl (lv_room (Nat.le_of_ble_eq_true rfl)) d_Mod_leastOf_55 ⟨Nat.le_of_ble_eq_true rfl, Nat.le_of_ble_eq_true rfl⟩)) (fun r38 hr38 => ?_)
          subst hr38
          refine lv_istore hx hb d_Mod_leastOf_58 hl (by decide) rfl (fun ls hl => ?_)
          have hl : lv_has ls 10 [(6, .int (nI (dm_ph (dm_s a b)))), (5, .int (nI (dm_ph (dm_s (dm_s a b) c9)))), (4, .int (nI (dm_ph (min (min a b) c9)))), (0, .int (nI (dm_ph a))), (1, .int (nI (dm_ph b))), (2, .int (nI (dm_ph c9))), (3, .int (nI n))] := hl
          refine lv_iload_n hx hb d_Mod_leastOf_60 rfl (lv_at hl 3 rfl) ?_
          refine lv_iload_n hx hb d_Mod_leastOf_61 rfl (lv_at hl 5 rfl) ?_
          refine vp_callSi (va_Run.run (va_runS (As := [.int (nI (dm_ph a)), .int (nI (dm_ph c9))]) (rest := []) ⟨hx, hb, hml, hown, hts⟩ (c_Mod_sum l (a := a) (b := c9) (by omega) (by omega)) (va_cwS 2 hts (gW_in (hd := [_, _, _, _]) (kk_4 wd_644 wd_645 wd_8 cw_Mod_sum)) rfl rfl rfl ds_Mod_sum ⟨Nat.le_of_ble_eq_true rfl, Nat.le_of_ble_eq_true rfl⟩) (kk_preS hK hP hz hBz) rfl rfl hl.1 rfl (lv_room (Nat.le_of_ble_eq_true rfl)) d_Mod_leastOf_62 ⟨Nat.le_of_ble_eq_true rfl, Nat.le_of_ble_eq_true rfl⟩)) (fun r39 hr39 => ?_)
          subst hr39
          refine lv_istore hx hb d_Mod_leastOf_65 hl (by decide) rfl (fun ls hl => ?_)
          have hl : lv_has ls 10 [(7, .int (nI (dm_ph (dm_s a c9)))), (6, .int (nI (dm_ph (dm_s a b)))), (5, .int (nI (dm_ph (dm_s (dm_s a b) c9)))), (4, .int (nI (dm_ph (min (min a b) c9)))), (0, .int (nI (dm_ph a))), (1, .int (nI (dm_ph b))), (2, .int (nI (dm_ph c9))), (3, .int (nI n))] := hl
          refine lv_iload_n hx hb d_Mod_leastOf_67 rfl (lv_at hl 5 rfl) ?_
          refine lv_iload_n hx hb d_Mod_leastOf_68 rfl (lv_at hl 6 rfl) ?_
          refine vp_callSi (va_Run.run (va_runS (As := [.int (nI (dm_ph b)), .int (nI (dm_ph c9))]) (rest := []) ⟨hx, hb, hml, hown, hts⟩ (c_Mod_sum l (a := b) (b := c9) (by omega) (by omega)) (va_cwS 2 hts (gW_in (hd := [_, _, _, _]) (kk_4 wd_644 wd_645 wd_8 cw_Mod_sum)) rfl rfl rfl ds_Mod_sum ⟨Nat.le_of_ble_eq_true rfl, Nat.le_of_ble_eq_true rfl⟩) (kk_preS hK hP hz hBz) rfl rfl hl.1 rfl (lv_room (Nat.le_of_ble_eq_true rfl)) d_Mod_leastOf_69 ⟨Nat.le_of_ble_eq_true rfl, Nat.le_of_ble_eq_true rfl⟩)) (fun r40 hr40 => ?_)
          subst hr40
          refine lv_istore hx hb d_Mod_leastOf_72 hl (by decide) rfl (fun ls hl => ?_)
          have hl : lv_has ls 10 [(8, .int (nI (dm_ph (dm_s b c9)))), (7, .int (nI (dm_ph (dm_s a c9)))), (6, .int (nI (dm_ph (dm_s a b)))), (5, .int (nI (dm_ph (dm_s (dm_s a b) c9)))), (4, .int (nI (dm_ph (min (min a b) c9)))), (0, .int (nI (dm_ph a))), (1, .int (nI (dm_ph b))), (2, .int (nI (dm_ph c9))), (3, .int (nI n))] := hl
          refine lv_iload hx hb d_Mod_leastOf_74 (lv_at hl 2 rfl) ?_
          refine lv_iload hx hb d_Mod_leastOf_76 (lv_at hl 1 rfl) ?_
          refine lv_icmp_ge (tgt := 86) hx hb d_Mod_leastOf_78 (by decide) (fun cc41 => ?_) (fun cc41 => ?_)
          · have cc41 : dm_ph (dm_s a c9) ≤ dm_ph (dm_s a b) := (nI_leI (by omega) (by omega)).mp cc41
            refine lv_iload hx hb d_Mod_leastOf_86 (lv_at hl 1 rfl) ?_
            refine kk_top (y := nI (dm_ph (min (dm_s a b) (dm_s a c9)))) ((congrArg nI (dm_ph_m1 hac hab cc41)).trans (dm_ph_eq (Nat.min_comm _ _))) ?_
            refine lv_istore hx hb d_Mod_leastOf_88 hl (by decide) rfl (fun ls hl => ?_)
            have hl : lv_has ls 10 [(9, .int (nI (dm_ph (min (dm_s a b) (dm_s a c9))))), (8, .int (nI (dm_ph (dm_s b c9)))), (7, .int (nI (dm_ph (dm_s a c9)))), (6, .int (nI (dm_ph (dm_s a b)))), (5, .int (nI (dm_ph (dm_s (dm_s a b) c9)))), (4, .int (nI (dm_ph (min (min a b) c9)))), (0, .int (nI (dm_ph a))), (1, .int (nI (dm_ph b))), (2, .int (nI (dm_ph c9))), (3, .int (nI n))] := hl
            refine lv_iload hx hb d_Mod_leastOf_90 (lv_at hl 1 rfl) ?_
            refine lv_iload hx hb d_Mod_leastOf_92 (lv_at hl 0 rfl) ?_
            refine lv_icmp_ge (tgt := 102) hx hb d_Mod_leastOf_94 (by decide) (fun cc42 => ?_) (fun cc42 => ?_)
            · have cc42 : dm_ph (min (dm_s a b) (dm_s a c9)) ≤ dm_ph (dm_s b c9) := (nI_leI (by omega) (by omega)).mp cc42
              refine lv_iload hx hb d_Mod_leastOf_102 (lv_at hl 0 rfl) ?_
              exact W.iret hx hb hr (fun t ht hW => ⟨_, rfl, (congrArg nI (dm_ph_m1 hz1 hz2 cc42)).trans (dm_ph_eq (by unfold dm_q; rw [if_neg cc34, if_neg cc37])), ht⟩) (fun q hq => by cases hq) d_Mod_leastOf_104
            · have cc42 : ¬ (dm_ph (min (dm_s a b) (dm_s a c9)) ≤ dm_ph (dm_s b c9)) := fun q => cc42 ((nI_leI (by omega) (by omega)).mpr q)
              refine lv_iload hx hb d_Mod_leastOf_97 (lv_at hl 1 rfl) ?_
              refine lv_goto (tgt := 104) hx hb d_Mod_leastOf_99 (by decide) ?_
              exact W.iret hx hb hr (fun t ht hW => ⟨_, rfl, (congrArg nI (dm_ph_m2 hz1 hz2 cc42)).trans (dm_ph_eq (by unfold dm_q; rw [if_neg cc34, if_neg cc37])), ht⟩) (fun q hq => by cases hq) d_Mod_leastOf_104
          · have cc41 : ¬ (dm_ph (dm_s a c9) ≤ dm_ph (dm_s a b)) := fun q => cc41 ((nI_leI (by omega) (by omega)).mpr q)
            refine lv_iload hx hb d_Mod_leastOf_81 (lv_at hl 2 rfl) ?_
            refine lv_goto (tgt := 88) hx hb d_Mod_leastOf_83 (by decide) ?_
            refine kk_top (y := nI (dm_ph (min (dm_s a b) (dm_s a c9)))) ((congrArg nI (dm_ph_m2 hac hab cc41)).trans (dm_ph_eq (Nat.min_comm _ _))) ?_
            refine lv_istore hx hb d_Mod_leastOf_88 hl (by decide) rfl (fun ls hl => ?_)
            have hl : lv_has ls 10 [(9, .int (nI (dm_ph (min (dm_s a b) (dm_s a c9))))), (8, .int (nI (dm_ph (dm_s b c9)))), (7, .int (nI (dm_ph (dm_s a c9)))), (6, .int (nI (dm_ph (dm_s a b)))), (5, .int (nI (dm_ph (dm_s (dm_s a b) c9)))), (4, .int (nI (dm_ph (min (min a b) c9)))), (0, .int (nI (dm_ph a))), (1, .int (nI (dm_ph b))), (2, .int (nI (dm_ph c9))), (3, .int (nI n))] := hl
            refine lv_iload hx hb d_Mod_leastOf_90 (lv_at hl 1 rfl) ?_
            refine lv_iload hx hb d_Mod_leastOf_92 (lv_at hl 0 rfl) ?_
            refine lv_icmp_ge (tgt := 102) hx hb d_Mod_leastOf_94 (by decide) (fun cc43 => ?_) (fun cc43 => ?_)
            · have cc43 : dm_ph (min (dm_s a b) (dm_s a c9)) ≤ dm_ph (dm_s b c9) := (nI_leI (by omega) (by omega)).mp cc43
              refine lv_iload hx hb d_Mod_leastOf_102 (lv_at hl 0 rfl) ?_
              exact W.iret hx hb hr (fun t ht hW => ⟨_, rfl, (congrArg nI (dm_ph_m1 hz1 hz2 cc43)).trans (dm_ph_eq (by unfold dm_q; rw [if_neg cc34, if_neg cc37])), ht⟩) (fun q hq => by cases hq) d_Mod_leastOf_104
            · have cc43 : ¬ (dm_ph (min (dm_s a b) (dm_s a c9)) ≤ dm_ph (dm_s b c9)) := fun q => cc43 ((nI_leI (by omega) (by omega)).mpr q)
              refine lv_iload hx hb d_Mod_leastOf_97 (lv_at hl 1 rfl) ?_
              refine lv_goto (tgt := 104) hx hb d_Mod_leastOf_99 (by decide) ?_
              exact W.iret hx hb hr (fun t ht hW => ⟨_, rfl, (congrArg nI (dm_ph_m2 hz1 hz2 cc43)).trans (dm_ph_eq (by unfold dm_q; rw [if_neg cc34, if_neg cc37])), ht⟩) (fun q hq => by cases hq) d_Mod_leastOf_104
        · have cc37 : n = 3 := (nI_eq (by omega) (by omega)).mp cc37
          refine lv_iload hx hb d_Mod_leastOf_50 (lv_at hl 0 rfl) ?_
          exact W.iret hx hb hr (fun t ht hW => ⟨_, rfl, dm_ph_eq (by unfold dm_q; rw [if_neg cc34, if_pos cc37]), ht⟩) (fun q hq => by cases hq) d_Mod_leastOf_52
      · have cc34 : n = 1 := (nI_eq (by omega) (by omega)).mp cc34
        refine lv_iload hx hb d_Mod_leastOf_31 (lv_at hl 0 rfl) ?_
        exact W.iret hx hb hr (fun t ht hW => ⟨_, rfl, dm_ph_eq (if_pos cc34).symm, ht⟩) (fun q hq => by cases hq) d_Mod_leastOf_33
theorem d_Mod_byCertificate_0 : decode k_Mod_byCertificate 0 = .ok (.aload_n 0, 1) := by decide +kernel
theorem d_Mod_byCertificate_1 : decode k_Mod_byCertificate 1 = .ok (.iload_n 1, 1) := by decide +kernel
theorem d_Mod_byCertificate_2 : decode k_Mod_byCertificate 2 = .ok (.aload_n 0, 1) := by decide +kernel
theorem d_Mod_byCertificate_3 : decode k_Mod_byCertificate 3 = .ok (.getfield 29, 3) := by decide +kernel
theorem d_Mod_byCertificate_6 : decode k_Mod_byCertificate 6 = .ok (.iconst 3, 1) := by decide +kernel
theorem d_Mod_byCertificate_7 : decode k_Mod_byCertificate 7 = .ok (.iload_n 1, 1) := by decide +kernel
theorem d_Mod_byCertificate_8 : decode k_Mod_byCertificate 8 = .ok (.imul, 1) := by decide +kernel
theorem d_Mod_byCertificate_9 : decode k_Mod_byCertificate 9 = .ok (.iaload, 1) := by decide +kernel
theorem d_Mod_byCertificate_10 : decode k_Mod_byCertificate 10 = .ok (.iload_n 2, 1) := by decide +kernel
theorem d_Mod_byCertificate_11 : decode k_Mod_byCertificate 11 = .ok (.invokevirtual 108, 3) := by decide +kernel
theorem d_Mod_byCertificate_14 : decode k_Mod_byCertificate 14 = .ok (.istore_n 3, 1) := by decide +kernel
theorem d_Mod_byCertificate_15 : decode k_Mod_byCertificate 15 = .ok (.aload_n 0, 1) := by decide +kernel
theorem d_Mod_byCertificate_16 : decode k_Mod_byCertificate 16 = .ok (.getfield 32, 3) := by decide +kernel
theorem d_Mod_byCertificate_19 : decode k_Mod_byCertificate 19 = .ok (.iload_n 1, 1) := by decide +kernel
theorem d_Mod_byCertificate_20 : decode k_Mod_byCertificate 20 = .ok (.iaload, 1) := by decide +kernel
theorem d_Mod_byCertificate_21 : decode k_Mod_byCertificate 21 = .ok (.iconst 1, 1) := by decide +kernel
theorem d_Mod_byCertificate_22 : decode k_Mod_byCertificate 22 = .ok (.if_icmp .le 22, 3) := by decide +kernel
theorem d_Mod_byCertificate_25 : decode k_Mod_byCertificate 25 = .ok (.aload_n 0, 1) := by decide +kernel
theorem d_Mod_byCertificate_26 : decode k_Mod_byCertificate 26 = .ok (.iload_n 1, 1) := by decide +kernel
theorem d_Mod_byCertificate_27 : decode k_Mod_byCertificate 27 = .ok (.aload_n 0, 1) := by decide +kernel
theorem d_Mod_byCertificate_28 : decode k_Mod_byCertificate 28 = .ok (.getfield 29, 3) := by decide +kernel
theorem d_Mod_byCertificate_31 : decode k_Mod_byCertificate 31 = .ok (.iconst 3, 1) := by decide +kernel
theorem d_Mod_byCertificate_32 : decode k_Mod_byCertificate 32 = .ok (.iload_n 1, 1) := by decide +kernel
theorem d_Mod_byCertificate_33 : decode k_Mod_byCertificate 33 = .ok (.imul, 1) := by decide +kernel
theorem d_Mod_byCertificate_34 : decode k_Mod_byCertificate 34 = .ok (.iconst 1, 1) := by decide +kernel
theorem d_Mod_byCertificate_35 : decode k_Mod_byCertificate 35 = .ok (.iadd, 1) := by decide +kernel
theorem d_Mod_byCertificate_36 : decode k_Mod_byCertificate 36 = .ok (.iaload, 1) := by decide +kernel
theorem d_Mod_byCertificate_37 : decode k_Mod_byCertificate 37 = .ok (.iload_n 2, 1) := by decide +kernel
theorem d_Mod_byCertificate_38 : decode k_Mod_byCertificate 38 = .ok (.invokevirtual 108, 3) := by decide +kernel
theorem d_Mod_byCertificate_41 : decode k_Mod_byCertificate 41 = .ok (.goto 6, 3) := by decide +kernel
theorem d_Mod_byCertificate_44 : decode k_Mod_byCertificate 44 = .ok (.sipush 5000, 3) := by decide +kernel
theorem d_Mod_byCertificate_47 : decode k_Mod_byCertificate 47 = .ok (.istore 4, 2) := by decide +kernel
theorem d_Mod_byCertificate_49 : decode k_Mod_byCertificate 49 = .ok (.aload_n 0, 1) := by decide +kernel
theorem d_Mod_byCertificate_50 : decode k_Mod_byCertificate 50 = .ok (.getfield 32, 3) := by decide +kernel
theorem d_Mod_byCertificate_53 : decode k_Mod_byCertificate 53 = .ok (.iload_n 1, 1) := by decide +kernel
theorem d_Mod_byCertificate_54 : decode k_Mod_byCertificate 54 = .ok (.iaload, 1) := by decide +kernel
theorem d_Mod_byCertificate_55 : decode k_Mod_byCertificate 55 = .ok (.iconst 2, 1) := by decide +kernel
theorem d_Mod_byCertificate_56 : decode k_Mod_byCertificate 56 = .ok (.if_icmp .le 22, 3) := by decide +kernel
theorem d_Mod_byCertificate_59 : decode k_Mod_byCertificate 59 = .ok (.aload_n 0, 1) := by decide +kernel
theorem d_Mod_byCertificate_60 : decode k_Mod_byCertificate 60 = .ok (.iload_n 1, 1) := by decide +kernel
theorem d_Mod_byCertificate_61 : decode k_Mod_byCertificate 61 = .ok (.aload_n 0, 1) := by decide +kernel
theorem d_Mod_byCertificate_62 : decode k_Mod_byCertificate 62 = .ok (.getfield 29, 3) := by decide +kernel
theorem d_Mod_byCertificate_65 : decode k_Mod_byCertificate 65 = .ok (.iconst 3, 1) := by decide +kernel
theorem d_Mod_byCertificate_66 : decode k_Mod_byCertificate 66 = .ok (.iload_n 1, 1) := by decide +kernel
theorem d_Mod_byCertificate_67 : decode k_Mod_byCertificate 67 = .ok (.imul, 1) := by decide +kernel
theorem d_Mod_byCertificate_68 : decode k_Mod_byCertificate 68 = .ok (.iconst 2, 1) := by decide +kernel
theorem d_Mod_byCertificate_69 : decode k_Mod_byCertificate 69 = .ok (.iadd, 1) := by decide +kernel
theorem d_Mod_byCertificate_70 : decode k_Mod_byCertificate 70 = .ok (.iaload, 1) := by decide +kernel
theorem d_Mod_byCertificate_71 : decode k_Mod_byCertificate 71 = .ok (.iload_n 2, 1) := by decide +kernel
theorem d_Mod_byCertificate_72 : decode k_Mod_byCertificate 72 = .ok (.invokevirtual 108, 3) := by decide +kernel
theorem d_Mod_byCertificate_75 : decode k_Mod_byCertificate 75 = .ok (.goto 6, 3) := by decide +kernel
theorem d_Mod_byCertificate_78 : decode k_Mod_byCertificate 78 = .ok (.sipush 5000, 3) := by decide +kernel
theorem d_Mod_byCertificate_81 : decode k_Mod_byCertificate 81 = .ok (.istore 5, 2) := by decide +kernel
theorem d_Mod_byCertificate_83 : decode k_Mod_byCertificate 83 = .ok (.iload_n 3, 1) := by decide +kernel
theorem d_Mod_byCertificate_84 : decode k_Mod_byCertificate 84 = .ok (.iload 4, 2) := by decide +kernel
theorem d_Mod_byCertificate_86 : decode k_Mod_byCertificate 86 = .ok (.iload 5, 2) := by decide +kernel
theorem d_Mod_byCertificate_88 : decode k_Mod_byCertificate 88 = .ok (.aload_n 0, 1) := by decide +kernel
theorem d_Mod_byCertificate_89 : decode k_Mod_byCertificate 89 = .ok (.getfield 35, 3) := by decide +kernel
theorem d_Mod_byCertificate_92 : decode k_Mod_byCertificate 92 = .ok (.iload_n 1, 1) := by decide +kernel
theorem d_Mod_byCertificate_93 : decode k_Mod_byCertificate 93 = .ok (.iaload, 1) := by decide +kernel
theorem d_Mod_byCertificate_94 : decode k_Mod_byCertificate 94 = .ok (.invokestatic 112, 3) := by decide +kernel
theorem d_Mod_byCertificate_97 : decode k_Mod_byCertificate 97 = .ok (.istore 6, 2) := by decide +kernel
theorem d_Mod_byCertificate_99 : decode k_Mod_byCertificate 99 = .ok (.iload 6, 2) := by decide +kernel
theorem d_Mod_byCertificate_101 : decode k_Mod_byCertificate 101 = .ok (.iconst 1, 1) := by decide +kernel
theorem d_Mod_byCertificate_102 : decode k_Mod_byCertificate 102 = .ok (.invokestatic 87, 3) := by decide +kernel
theorem d_Mod_byCertificate_105 : decode k_Mod_byCertificate 105 = .ok (.ireturn, 1) := by decide +kernel
set_option maxHeartbeats 4000000 in
set_option maxRecDepth 100000 in
theorem c_Mod_byCertificate (l : Launch) {B : Nat} {D : va_G} {cI cZ cQ : ClassId} {w : mm_M} {sz : Nat} {b : Nat} {N : Nat → Nat → Nat} {S : Nat → Nat → Int32} {j x9 : Nat} {v9 u9 : Nat → Nat} (hM : mo_I b cI cZ N S w) (hn : N 0 0 ≤ 24) (hR : rg_I N) (hj : j < N 0 0) (hx9 : x9 < 8) (h14 : N 14 = fun j => dm_ph (v9 j)) (hv : ∀ j, v9 j ≤ 1000) (h15 : N 15 = fun j => dm_ph (u9 j)) (hu : ∀ j, u9 j ≤ 1000) : Met l y_Mod_byCertificate ws_Mod_byCertificate (kk_rm 4 0 0) (kk_Pc B D cI cZ cQ [.ref (b + 14), .int (nI j), .int (nI x9)] w sz) (vp_Si (fun r => r = nI (dm_ph (ld_v N v9 x9 j (dm_L (N 3) u9 (N 0 0)))))) 0 0 (fun _ => False) := by
  refine Met.ofW (cc := k_Mod_byCertificate) (maxL := 7) (ret := (some .int)) (by decide) rfl ?_
  intro p e s m args below meth c s₁ BB hml hv
  obtain ⟨rfl, hK, hP, hz, hBz⟩ := hv
  have hx := BB.exec
  have hb := BB.bytes
  have hr := BB.returns
  have hts := atoms_spec (ws := ws_Mod_byCertificate) BB.pre
  have hown : s.vm.findClass "DelegationClosureModel" = some m.cls := findClass_of_methodNamed BB.named
  have hlocks := BB.notSynchronized
  have hS : mm_S B s.heap s.heap [] := va_S.rf
  have hl := lv_entry ([.ref (b + 14), .int (nI j), .int (nI x9)]) (n := 7) (Nat.le_of_ble_eq_true rfl)
  rw [lg_entry_eq]
  generalize (lg_sl ([.ref (b + 14), .int (nI j), .int (nI x9)]) ++ List.replicate (7 - (lg_sl ([.ref (b + 14), .int (nI j), .int (nI x9)])).length) Slot.unset).toArray = ls at hl ⊢
  have hl : lv_has ls 7 [(0, .ref (b + 14)), (1, .int (nI j)), (2, .int (nI x9))] := hl
  have m0 : w (b + 14) = some (.inr (9, [.int (nI (N 0 0)), .ref (b + 15), .ref (b + 16), .ref (b + 17), .ref (b + 18), .ref (b + 19), .ref (b + 20), .ref (b + 21), .ref (b + 22), .ref (b + 23), .ref (b + 24), .ref (b + 25), .ref (b + 26), .ref (b + 27), .ref (b + 28), .ref (b + 29), .int (nI (N 16 0)), .int (nI (N 17 0)), .int (nI (N 18 0)), .ref (b + 30), .int (nI (N 20 0)), .int (S 21 0), .int (S 22 0), .int (S 23 0), .int (S 24 0), .int (nI (N 25 0)), .int (nI (N 26 0))])) := hM.1
  have m1 : w (b + 15) = some (.inl (cZ, 24, .inl (fun i => nI ((N 1) i)))) := hM.2 1 (by decide) (by decide)
  have m2 : w (b + 16) = some (.inl (cZ, 24, .inl (fun i => nI ((N 2) i)))) := hM.2 2 (by decide) (by decide)
  have m3 : w (b + 17) = some (.inl (cI, 24, .inl (fun i => nI ((N 3) i)))) := hM.2 3 (by decide) (by decide)
  have m4 : w (b + 18) = some (.inl (cI, 24, .inl (fun i => nI ((N 4) i)))) := hM.2 4 (by decide) (by decide)
  have m5 : w (b + 19) = some (.inl (cI, 24, .inl (S 5))) := hM.2 5 (by decide) (by decide)
  have m6 : w (b + 20) = some (.inl (cI, 24, .inl (S 6))) := hM.2 6 (by decide) (by decide)
  have m7 : w (b + 21) = some (.inl (cI, 72, .inl (fun i => nI ((N 7) i)))) := hM.2 7 (by decide) (by decide)
  have m8 : w (b + 22) = some (.inl (cI, 24, .inl (fun i => nI ((N 8) i)))) := hM.2 8 (by decide) (by decide)
  have m9 : w (b + 23) = some (.inl (cI, 24, .inl (fun i => nI ((N 9) i)))) := hM.2 9 (by decide) (by decide)
  have m10 : w (b + 24) = some (.inl (cI, 24, .inl (fun i => nI ((N 10) i)))) := hM.2 10 (by decide) (by decide)
  have m11 : w (b + 25) = some (.inl (cI, 24, .inl (S 11))) := hM.2 11 (by decide) (by decide)
  have m12 : w (b + 26) = some (.inl (cI, 24, .inl (S 12))) := hM.2 12 (by decide) (by decide)
  have m13 : w (b + 27) = some (.inl (cZ, 24, .inl (fun i => nI ((N 13) i)))) := hM.2 13 (by decide) (by decide)
  have m14 : w (b + 28) = some (.inl (cI, 256, .inl (fun i => nI ((N 14) i)))) := hM.2 14 (by decide) (by decide)
  have m15 : w (b + 29) = some (.inl (cI, 24, .inl (fun i => nI ((N 15) i)))) := hM.2 15 (by decide) (by decide)
  have m16 : w (b + 30) = some (.inl (cI, 5, .inl (fun i => nI ((N 19) i)))) := hM.2 16 (by decide) (by decide)
  have hRj := hR j hj
  have hs0 : wf_subn (N 7 (3 * j)) := hRj.2.2.2.2.2.1 0 (by omega)
  have hs1 : wf_subn (N 7 (3 * j + 1)) := hRj.2.2.2.2.2.1 1 (by omega)
  have hs2 : wf_subn (N 7 (3 * j + 2)) := hRj.2.2.2.2.2.1 2 (by omega)
  have hc0 := ld_c_le (N := N) hv x9 j (dm_L (N 3) u9 (N 0 0)) 0
  have hc1 := ld_c_le (N := N) hv x9 j (dm_L (N 3) u9 (N 0 0)) 1
  have hc2 := ld_c_le (N := N) hv x9 j (dm_L (N 3) u9 (N 0 0)) 2
  refine lv_aload_n hx hb d_Mod_byCertificate_0 rfl (lv_at hl 0 rfl) ?_
  refine lv_iload_n hx hb d_Mod_byCertificate_1 rfl (lv_at hl 1 rfl) ?_
  refine lv_aload_n hx hb d_Mod_byCertificate_2 rfl (lv_at hl 0 rfl) ?_
  refine mm_get (D := D) (C := n_Mod) (T := T_Mod) (N := 27) (v := .ref (b + 21)) hx hb hts lay_Mod hown hK.1 hP m0 rfl 7 (by decide) (hts _ (List.mem_cons_of_mem _ wd_498)) (fun _ h9 => h9) rfl d_Mod_byCertificate_3 ?_
  refine lv_iconst (v := nI 3) hx hb d_Mod_byCertificate_6 (by decide) ?_
  refine lv_iload_n hx hb d_Mod_byCertificate_7 rfl (lv_at hl 1 rfl) ?_
  refine lv_imul hx hb d_Mod_byCertificate_8 ?_
  refine kk_top (pk_mul _ _) ?_
  refine mm_iald hx hb hK.1 hP 0 m7 rfl (3 * j) rfl (by omega) (by decide) d_Mod_byCertificate_9 ?_
  refine W.eq (g2 := F0 m 10 ls [.int (nI ((N 7) (3 * j))), .int (nI j), .ref (b + 14)]) rfl ?_
  refine lv_iload_n hx hb d_Mod_byCertificate_10 rfl (lv_at hl 2 rfl) ?_
  refine vp_callSi (va_Run.run (va_runV (As := [.int (nI j), .int (nI ((N 7) (3 * j))), .int (nI x9)]) (rest := []) ⟨hx, hb, hml, hown, hts⟩ (c_Mod_bySubject l (b := b) (N := N) (S := S) (v9 := v9) (u9 := u9) hM hn hR hj (by omega) (by omega) h14 hv h15 hu) (cwV 3 hts (gW_in (hd := [_, _, _, _, _]) (kk_5 wd_667 wd_669 sl_Mod_bySubject wd_8 cw_Mod_bySubject)) rfl rfl rfl ⟨rfl, ds_Mod_bySubject⟩ ⟨Nat.le_of_ble_eq_true rfl, Nat.le_of_ble_eq_true rfl⟩) (kk_preV hK hP hz hBz m0 rfl) rfl rfl hl.1 rfl (lv_room (Nat.le_of_ble_eq_true rfl)) d_Mod_byCertificate_11 ⟨Nat.le_of_ble_eq_true rfl, Nat.le_of_ble_eq_true rfl⟩)) (fun r1 hr1 => ?_)
  subst hr1
  refine kk_top (y := nI (dm_ph (ld_c N v9 x9 j (dm_L (N 3) u9 (N 0 0)) 0))) rfl ?_
  refine lv_istore_n hx hb d_Mod_byCertificate_14 rfl hl (by decide) rfl (fun ls hl => ?_)
  have hl : lv_has ls 7 [(3, .int (nI (dm_ph (ld_c N v9 x9 j (dm_L (N 3) u9 (N 0 0)) 0)))), (0, .ref (b + 14)), (1, .int (nI j)), (2, .int (nI x9))] := hl
  refine lv_aload_n hx hb d_Mod_byCertificate_15 rfl (lv_at hl 1 rfl) ?_
  refine mm_get (D := D) (C := n_Mod) (T := T_Mod) (N := 27) (v := .ref (b + 22)) hx hb hts lay_Mod hown hK.1 hP m0 rfl 8 (by decide) (hts _ (List.mem_cons_of_mem _ wd_499)) (fun _ h9 => h9) rfl d_Mod_byCertificate_16 ?_
  refine lv_iload_n hx hb d_Mod_byCertificate_19 rfl (lv_at hl 2 rfl) ?_
  refine mm_iald hx hb hK.1 hP 0 m8 rfl j rfl (by omega) (by decide) d_Mod_byCertificate_20 ?_
  refine W.eq (g2 := F0 m 21 ls [.int (nI ((N 8) j))]) rfl ?_
  refine lv_iconst (v := nI 1) hx hb d_Mod_byCertificate_21 (by decide) ?_
  refine lv_icmp_le (tgt := 44) hx hb d_Mod_byCertificate_22 (by decide) (fun cc2 => ?_) (fun cc2 => ?_)
  · have cc2 : (N 8) j ≤ 1 := (nI_leI (by omega) (by omega)).mp cc2
    refine lv_sipush (v := nI 5000) hx hb d_Mod_byCertificate_44 (by decide) ?_
    refine kk_top (y := nI (dm_ph (if 1 < N 8 j then ld_c N v9 x9 j (dm_L (N 3) u9 (N 0 0)) 1 else 1000))) (congrArg nI (by rw [if_neg (by omega)]; rfl)) ?_
    refine lv_istore hx hb d_Mod_byCertificate_47 hl (by decide) rfl (fun ls hl => ?_)
    have hl : lv_has ls 7 [(4, .int (nI (dm_ph (if 1 < N 8 j then ld_c N v9 x9 j (dm_L (N 3) u9 (N 0 0)) 1 else 1000)))), (3, .int (nI (dm_ph (ld_c N v9 x9 j (dm_L (N 3) u9 (N 0 0)) 0)))), (0, .ref (b + 14)), (1, .int (nI j)), (2, .int (nI x9))] := hl
    refine lv_aload_n hx hb d_Mod_byCertificate_49 rfl (lv_at hl 2 rfl) ?_
    refine mm_get (D := D) (C := n_Mod) (T := T_Mod) (N := 27) (v := .ref (b + 22)) hx hb hts lay_Mod hown hK.1 hP m0 rfl 8 (by decide) (hts _ (List.mem_cons_of_mem _ wd_499)) (fun _ h9 => h9) rfl d_Mod_byCertificate_50 ?_
    refine lv_iload_n hx hb d_Mod_byCertificate_53 rfl (lv_at hl 3 rfl) ?_
    refine mm_iald hx hb hK.1 hP 0 m8 rfl j rfl (by omega) (by decide) d_Mod_byCertificate_54 ?_
    refine W.eq (g2 := F0 m 55 ls [.int (nI ((N 8) j))]) rfl ?_
    refine lv_iconst (v := nI 2) hx hb d_Mod_byCertificate_55 (by decide) ?_
    refine lv_icmp_le (tgt := 78) hx hb d_Mod_byCertificate_56 (by decide) (fun cc3 => ?_) (fun cc3 => ?_)
    · have cc3 : (N 8) j ≤ 2 := (nI_leI (by omega) (by omega)).mp cc3
      refine lv_sipush (v := nI 5000) hx hb d_Mod_byCertificate_78 (by decide) ?_
      refine kk_top (y := nI (dm_ph (if 2 < N 8 j then ld_c N v9 x9 j (dm_L (N 3) u9 (N 0 0)) 2 else 1000))) (congrArg nI (by rw [if_neg (by omega)]; rfl)) ?_
      refine lv_istore hx hb d_Mod_byCertificate_81 hl (by decide) rfl (fun ls hl => ?_)
      have hl : lv_has ls 7 [(5, .int (nI (dm_ph (if 2 < N 8 j then ld_c N v9 x9 j (dm_L (N 3) u9 (N 0 0)) 2 else 1000)))), (4, .int (nI (dm_ph (if 1 < N 8 j then ld_c N v9 x9 j (dm_L (N 3) u9 (N 0 0)) 1 else 1000)))), (3, .int (nI (dm_ph (ld_c N v9 x9 j (dm_L (N 3) u9 (N 0 0)) 0)))), (0, .ref (b + 14)), (1, .int (nI j)), (2, .int (nI x9))] := hl
      refine lv_iload_n hx hb d_Mod_byCertificate_83 rfl (lv_at hl 2 rfl) ?_
      refine lv_iload hx hb d_Mod_byCertificate_84 (lv_at hl 1 rfl) ?_
      refine lv_iload hx hb d_Mod_byCertificate_86 (lv_at hl 0 rfl) ?_
      refine lv_aload_n hx hb d_Mod_byCertificate_88 rfl (lv_at hl 3 rfl) ?_
      refine mm_get (D := D) (C := n_Mod) (T := T_Mod) (N := 27) (v := .ref (b + 23)) hx hb hts lay_Mod hown hK.1 hP m0 rfl 9 (by decide) (hts _ (List.mem_cons_of_mem _ wd_500)) (fun _ h9 => h9) rfl d_Mod_byCertificate_89 ?_
      refine lv_iload_n hx hb d_Mod_byCertificate_92 rfl (lv_at hl 4 rfl) ?_
      refine mm_iald hx hb hK.1 hP 0 m9 rfl j rfl (by omega) (by decide) d_Mod_byCertificate_93 ?_
      refine W.eq (g2 := F0 m 94 ls [.int (nI ((N 9) j)), .int (nI (dm_ph (if 2 < N 8 j then ld_c N v9 x9 j (dm_L (N 3) u9 (N 0 0)) 2 else 1000))), .int (nI (dm_ph (if 1 < N 8 j then ld_c N v9 x9 j (dm_L (N 3) u9 (N 0 0)) 1 else 1000))), .int (nI (dm_ph (ld_c N v9 x9 j (dm_L (N 3) u9 (N 0 0)) 0)))]) rfl ?_
      have hd1 : (if 1 < N 8 j then ld_c N v9 x9 j (dm_L (N 3) u9 (N 0 0)) 1 else 1000) ≤ 1000 := by split <;> omega
      have hd2 : (if 2 < N 8 j then ld_c N v9 x9 j (dm_L (N 3) u9 (N 0 0)) 2 else 1000) ≤ 1000 := by split <;> omega
      refine vp_callSi (va_Run.run (va_runS (As := [.int (nI (dm_ph (ld_c N v9 x9 j (dm_L (N 3) u9 (N 0 0)) 0))), .int (nI (dm_ph (if 1 < N 8 j then ld_c N v9 x9 j (dm_L (N 3) u9 (N 0 0)) 1 else 1000))), .int (nI (dm_ph (if 2 < N 8 j then ld_c N v9 x9 j (dm_L (N 3) u9 (N 0 0)) 2 else 1000))), .int (nI ((N 9) j))]) (rest := []) ⟨hx, hb, hml, hown, hts⟩ (c_Mod_leastOf l (a := (ld_c N v9 x9 j (dm_L (N 3) u9 (N 0 0)) 0)) (b := (if 1 < N 8 j then ld_c N v9 x9 j (dm_L (N 3) u9 (N 0 0)) 1 else 1000)) (c9 := (if 2 < N 8 j then ld_c N v9 x9 j (dm_L (N 3) u9 (N 0 0)) 2 else 1000)) (n := (N 9) j) (by omega) (by omega) (by omega) (by omega) (by omega)) (va_cwS 4 hts (gW_in (hd := [_, _, _, _]) (kk_4 wd_675 wd_676 wd_8 cw_Mod_leastOf)) rfl rfl rfl ds_Mod_leastOf ⟨Nat.le_of_ble_eq_true rfl, Nat.le_of_ble_eq_true rfl⟩) (kk_preS hK hP hz hBz) rfl rfl hl.1 rfl (lv_room (Nat.le_of_ble_eq_true rfl)) d_Mod_byCertificate_94 ⟨Nat.le_of_ble_eq_true rfl, Nat.le_of_ble_eq_true rfl⟩)) (fun r4 hr4 => ?_)
      subst hr4
      refine lv_istore hx hb d_Mod_byCertificate_97 hl (by decide) rfl (fun ls hl => ?_)
      have hl : lv_has ls 7 [(6, .int (nI (dm_ph (dm_q (ld_c N v9 x9 j (dm_L (N 3) u9 (N 0 0)) 0) (if 1 < N 8 j then ld_c N v9 x9 j (dm_L (N 3) u9 (N 0 0)) 1 else 1000) (if 2 < N 8 j then ld_c N v9 x9 j (dm_L (N 3) u9 (N 0 0)) 2 else 1000) ((N 9) j))))), (5, .int (nI (dm_ph (if 2 < N 8 j then ld_c N v9 x9 j (dm_L (N 3) u9 (N 0 0)) 2 else 1000)))), (4, .int (nI (dm_ph (if 1 < N 8 j then ld_c N v9 x9 j (dm_L (N 3) u9 (N 0 0)) 1 else 1000)))), (3, .int (nI (dm_ph (ld_c N v9 x9 j (dm_L (N 3) u9 (N 0 0)) 0)))), (0, .ref (b + 14)), (1, .int (nI j)), (2, .int (nI x9))] := hl
      refine lv_iload hx hb d_Mod_byCertificate_99 (lv_at hl 0 rfl) ?_
      refine lv_iconst (v := nI 1) hx hb d_Mod_byCertificate_101 (by decide) ?_
      have hq := dm_q_le (b := (if 1 < N 8 j then ld_c N v9 x9 j (dm_L (N 3) u9 (N 0 0)) 1 else 1000)) (c := (if 2 < N 8 j then ld_c N v9 x9 j (dm_L (N 3) u9 (N 0 0)) 2 else 1000)) hc0 (N 9 j)
      refine vp_callSi (va_Run.run (va_runS (As := [.int (nI (dm_ph (dm_q (ld_c N v9 x9 j (dm_L (N 3) u9 (N 0 0)) 0) (if 1 < N 8 j then ld_c N v9 x9 j (dm_L (N 3) u9 (N 0 0)) 1 else 1000) (if 2 < N 8 j then ld_c N v9 x9 j (dm_L (N 3) u9 (N 0 0)) 2 else 1000) ((N 9) j)))), .int (nI 1)]) (rest := []) ⟨hx, hb, hml, hown, hts⟩ (c_Mod_sum l (a := (dm_q (ld_c N v9 x9 j (dm_L (N 3) u9 (N 0 0)) 0) (if 1 < N 8 j then ld_c N v9 x9 j (dm_L (N 3) u9 (N 0 0)) 1 else 1000) (if 2 < N 8 j then ld_c N v9 x9 j (dm_L (N 3) u9 (N 0 0)) 2 else 1000) ((N 9) j))) (b := 1) (by omega) (by omega)) (va_cwS 2 hts (gW_in (hd := [_, _, _, _]) (kk_4 wd_644 wd_645 wd_8 cw_Mod_sum)) rfl rfl rfl ds_Mod_sum ⟨Nat.le_of_ble_eq_true rfl, Nat.le_of_ble_eq_true rfl⟩) (kk_preS hK hP hz hBz) rfl rfl hl.1 rfl (lv_room (Nat.le_of_ble_eq_true rfl)) d_Mod_byCertificate_102 ⟨Nat.le_of_ble_eq_true rfl, Nat.le_of_ble_eq_true rfl⟩)) (fun r5 hr5 => ?_)
      subst hr5
      exact W.iret hx hb hr (fun t ht hW => ⟨_, rfl, rfl, ht⟩) (fun q hq => by cases hq) d_Mod_byCertificate_105
    · have cc3 : ¬ ((N 8) j ≤ 2) := fun q => cc3 ((nI_leI (by omega) (by omega)).mpr q)
      refine lv_aload_n hx hb d_Mod_byCertificate_59 rfl (lv_at hl 2 rfl) ?_
      refine lv_iload_n hx hb d_Mod_byCertificate_60 rfl (lv_at hl 3 rfl) ?_
      refine lv_aload_n hx hb d_Mod_byCertificate_61 rfl (lv_at hl 2 rfl) ?_
      refine mm_get (D := D) (C := n_Mod) (T := T_Mod) (N := 27) (v := .ref (b + 21)) hx hb hts lay_Mod hown hK.1 hP m0 rfl 7 (by decide) (hts _ (List.mem_cons_of_mem _ wd_498)) (fun _ h9 => h9) rfl d_Mod_byCertificate_62 ?_
      refine lv_iconst (v := nI 3) hx hb d_Mod_byCertificate_65 (by decide) ?_
      refine lv_iload_n hx hb d_Mod_byCertificate_66 rfl (lv_at hl 3 rfl) ?_
      refine lv_imul hx hb d_Mod_byCertificate_67 ?_
      refine kk_top (pk_mul _ _) ?_
      refine lv_iconst (v := nI 2) hx hb d_Mod_byCertificate_68 (by decide) ?_
      refine lv_iadd hx hb d_Mod_byCertificate_69 ?_
      refine kk_top (nI_add _ _) ?_
      refine mm_iald hx hb hK.1 hP 0 m7 rfl ((3 * j) + 2) rfl (by omega) (by decide) d_Mod_byCertificate_70 ?_
      refine W.eq (g2 := F0 m 71 ls [.int (nI ((N 7) ((3 * j) + 2))), .int (nI j), .ref (b + 14)]) rfl ?_
      refine lv_iload_n hx hb d_Mod_byCertificate_71 rfl (lv_at hl 4 rfl) ?_
      refine vp_callSi (va_Run.run (va_runV (As := [.int (nI j), .int (nI ((N 7) ((3 * j) + 2))), .int (nI x9)]) (rest := []) ⟨hx, hb, hml, hown, hts⟩ (c_Mod_bySubject l (b := b) (N := N) (S := S) (v9 := v9) (u9 := u9) hM hn hR hj (by omega) (by omega) h14 hv h15 hu) (cwV 3 hts (gW_in (hd := [_, _, _, _, _]) (kk_5 wd_667 wd_669 sl_Mod_bySubject wd_8 cw_Mod_bySubject)) rfl rfl rfl ⟨rfl, ds_Mod_bySubject⟩ ⟨Nat.le_of_ble_eq_true rfl, Nat.le_of_ble_eq_true rfl⟩) (kk_preV hK hP hz hBz m0 rfl) rfl rfl hl.1 rfl (lv_room (Nat.le_of_ble_eq_true rfl)) d_Mod_byCertificate_72 ⟨Nat.le_of_ble_eq_true rfl, Nat.le_of_ble_eq_true rfl⟩)) (fun r6 hr6 => ?_)
      subst hr6
      refine lv_goto (tgt := 81) hx hb d_Mod_byCertificate_75 (by decide) ?_
      refine kk_top (y := nI (dm_ph (if 2 < N 8 j then ld_c N v9 x9 j (dm_L (N 3) u9 (N 0 0)) 2 else 1000))) (congrArg nI (by rw [if_pos (by omega)]; rfl)) ?_
      refine lv_istore hx hb d_Mod_byCertificate_81 hl (by decide) rfl (fun ls hl => ?_)
      have hl : lv_has ls 7 [(5, .int (nI (dm_ph (if 2 < N 8 j then ld_c N v9 x9 j (dm_L (N 3) u9 (N 0 0)) 2 else 1000)))), (4, .int (nI (dm_ph (if 1 < N 8 j then ld_c N v9 x9 j (dm_L (N 3) u9 (N 0 0)) 1 else 1000)))), (3, .int (nI (dm_ph (ld_c N v9 x9 j (dm_L (N 3) u9 (N 0 0)) 0)))), (0, .ref (b + 14)), (1, .int (nI j)), (2, .int (nI x9))] := hl
      refine lv_iload_n hx hb d_Mod_byCertificate_83 rfl (lv_at hl 2 rfl) ?_
      refine lv_iload hx hb d_Mod_byCertificate_84 (lv_at hl 1 rfl) ?_
      refine lv_iload hx hb d_Mod_byCertificate_86 (lv_at hl 0 rfl) ?_
      refine lv_aload_n hx hb d_Mod_byCertificate_88 rfl (lv_at hl 3 rfl) ?_
      refine mm_get (D := D) (C := n_Mod) (T := T_Mod) (N := 27) (v := .ref (b + 23)) hx hb hts lay_Mod hown hK.1 hP m0 rfl 9 (by decide) (hts _ (List.mem_cons_of_mem _ wd_500)) (fun _ h9 => h9) rfl d_Mod_byCertificate_89 ?_
      refine lv_iload_n hx hb d_Mod_byCertificate_92 rfl (lv_at hl 4 rfl) ?_
      refine mm_iald hx hb hK.1 hP 0 m9 rfl j rfl (by omega) (by decide) d_Mod_byCertificate_93 ?_
      refine W.eq (g2 := F0 m 94 ls [.int (nI ((N 9) j)), .int (nI (dm_ph (if 2 < N 8 j then ld_c N v9 x9 j (dm_L (N 3) u9 (N 0 0)) 2 else 1000))), .int (nI (dm_ph (if 1 < N 8 j then ld_c N v9 x9 j (dm_L (N 3) u9 (N 0 0)) 1 else 1000))), .int (nI (dm_ph (ld_c N v9 x9 j (dm_L (N 3) u9 (N 0 0)) 0)))]) rfl ?_
      have hd1 : (if 1 < N 8 j then ld_c N v9 x9 j (dm_L (N 3) u9 (N 0 0)) 1 else 1000) ≤ 1000 := by split <;> omega
      have hd2 : (if 2 < N 8 j then ld_c N v9 x9 j (dm_L (N 3) u9 (N 0 0)) 2 else 1000) ≤ 1000 := by split <;> omega
      refine vp_callSi (va_Run.run (va_runS (As := [.int (nI (dm_ph (ld_c N v9 x9 j (dm_L (N 3) u9 (N 0 0)) 0))), .int (nI (dm_ph (if 1 < N 8 j then ld_c N v9 x9 j (dm_L (N 3) u9 (N 0 0)) 1 else 1000))), .int (nI (dm_ph (if 2 < N 8 j then ld_c N v9 x9 j (dm_L (N 3) u9 (N 0 0)) 2 else 1000))), .int (nI ((N 9) j))]) (rest := []) ⟨hx, hb, hml, hown, hts⟩ (c_Mod_leastOf l (a := (ld_c N v9 x9 j (dm_L (N 3) u9 (N 0 0)) 0)) (b := (if 1 < N 8 j then ld_c N v9 x9 j (dm_L (N 3) u9 (N 0 0)) 1 else 1000)) (c9 := (if 2 < N 8 j then ld_c N v9 x9 j (dm_L (N 3) u9 (N 0 0)) 2 else 1000)) (n := (N 9) j) (by omega) (by omega) (by omega) (by omega) (by omega)) (va_cwS 4 hts (gW_in (hd := [_, _, _, _]) (kk_4 wd_675 wd_676 wd_8 cw_Mod_leastOf)) rfl rfl rfl ds_Mod_leastOf ⟨Nat.le_of_ble_eq_true rfl, Nat.le_of_ble_eq_true rfl⟩) (kk_preS hK hP hz hBz) rfl rfl hl.1 rfl (lv_room (Nat.le_of_ble_eq_true rfl)) d_Mod_byCertificate_94 ⟨Nat.le_of_ble_eq_true rfl, Nat.le_of_ble_eq_true rfl⟩)) (fun r7 hr7 => ?_)
      subst hr7
      refine lv_istore hx hb d_Mod_byCertificate_97 hl (by decide) rfl (fun ls hl => ?_)
      have hl : lv_has ls 7 [(6, .int (nI (dm_ph (dm_q (ld_c N v9 x9 j (dm_L (N 3) u9 (N 0 0)) 0) (if 1 < N 8 j then ld_c N v9 x9 j (dm_L (N 3) u9 (N 0 0)) 1 else 1000) (if 2 < N 8 j then ld_c N v9 x9 j (dm_L (N 3) u9 (N 0 0)) 2 else 1000) ((N 9) j))))), (5, .int (nI (dm_ph (if 2 < N 8 j then ld_c N v9 x9 j (dm_L (N 3) u9 (N 0 0)) 2 else 1000)))), (4, .int (nI (dm_ph (if 1 < N 8 j then ld_c N v9 x9 j (dm_L (N 3) u9 (N 0 0)) 1 else 1000)))), (3, .int (nI (dm_ph (ld_c N v9 x9 j (dm_L (N 3) u9 (N 0 0)) 0)))), (0, .ref (b + 14)), (1, .int (nI j)), (2, .int (nI x9))] := hl
      refine lv_iload hx hb d_Mod_byCertificate_99 (lv_at hl 0 rfl) ?_
      refine lv_iconst (v := nI 1) hx hb d_Mod_byCertificate_101 (by decide) ?_
      have hq := dm_q_le (b := (if 1 < N 8 j then ld_c N v9 x9 j (dm_L (N 3) u9 (N 0 0)) 1 else 1000)) (c := (if 2 < N 8 j then ld_c N v9 x9 j (dm_L (N 3) u9 (N 0 0)) 2 else 1000)) hc0 (N 9 j)
      refine vp_callSi (va_Run.run (va_runS (As := [.int (nI (dm_ph (dm_q (ld_c N v9 x9 j (dm_L (N 3) u9 (N 0 0)) 0) (if 1 < N 8 j then ld_c N v9 x9 j (dm_L (N 3) u9 (N 0 0)) 1 else 1000) (if 2 < N 8 j then ld_c N v9 x9 j (dm_L (N 3) u9 (N 0 0)) 2 else 1000) ((N 9) j)))), .int (nI 1)]) (rest := []) ⟨hx, hb, hml, hown, hts⟩ (c_Mod_sum l (a := (dm_q (ld_c N v9 x9 j (dm_L (N 3) u9 (N 0 0)) 0) (if 1 < N 8 j then ld_c N v9 x9 j (dm_L (N 3) u9 (N 0 0)) 1 else 1000) (if 2 < N 8 j then ld_c N v9 x9 j (dm_L (N 3) u9 (N 0 0)) 2 else 1000) ((N 9) j))) (b := 1) (by omega) (by omega)) (va_cwS 2 hts (gW_in (hd := [_, _, _, _]) (kk_4 wd_644 wd_645 wd_8 cw_Mod_sum)) rfl rfl rfl ds_Mod_sum ⟨Nat.le_of_ble_eq_true rfl, Nat.le_of_ble_eq_true rfl⟩) (kk_preS hK hP hz hBz) rfl rfl hl.1 rfl (lv_room (Nat.le_of_ble_eq_true rfl)) d_Mod_byCertificate_102 ⟨Nat.le_of_ble_eq_true rfl, Nat.le_of_ble_eq_true rfl⟩)) (fun r8 hr8 => ?_)
      subst hr8
      exact W.iret hx hb hr (fun t ht hW => ⟨_, rfl, rfl, ht⟩) (fun q hq => by cases hq) d_Mod_byCertificate_105
  · have cc2 : ¬ ((N 8) j ≤ 1) := fun q => cc2 ((nI_leI (by omega) (by omega)).mpr q)
    refine lv_aload_n hx hb d_Mod_byCertificate_25 rfl (lv_at hl 1 rfl) ?_
    refine lv_iload_n hx hb d_Mod_byCertificate_26 rfl (lv_at hl 2 rfl) ?_
    refine lv_aload_n hx hb d_Mod_byCertificate_27 rfl (lv_at hl 1 rfl) ?_
    refine mm_get (D := D) (C := n_Mod) (T := T_Mod) (N := 27) (v := .ref (b + 21)) hx hb hts lay_Mod hown hK.1 hP m0 rfl 7 (by decide) (hts _ (List.mem_cons_of_mem _ wd_498)) (fun _ h9 => h9) rfl d_Mod_byCertificate_28 ?_
    refine lv_iconst (v := nI 3) hx hb d_Mod_byCertificate_31 (by decide) ?_
    refine lv_iload_n hx hb d_Mod_byCertificate_32 rfl (lv_at hl 2 rfl) ?_
    refine lv_imul hx hb d_Mod_byCertificate_33 ?_
    refine kk_top (pk_mul _ _) ?_
    refine lv_iconst (v := nI 1) hx hb d_Mod_byCertificate_34 (by decide) ?_
    refine lv_iadd hx hb d_Mod_byCertificate_35 ?_
    refine kk_top (nI_add _ _) ?_
    refine mm_iald hx hb hK.1 hP 0 m7 rfl ((3 * j) + 1) rfl (by omega) (by decide) d_Mod_byCertificate_36 ?_
    refine W.eq (g2 := F0 m 37 ls [.int (nI ((N 7) ((3 * j) + 1))), .int (nI j), .ref (b + 14)]) rfl ?_
    refine lv_iload_n hx hb d_Mod_byCertificate_37 rfl (lv_at hl 3 rfl) ?_
    refine vp_callSi (va_Run.run (va_runV (As := [.int (nI j), .int (nI ((N 7) ((3 * j) + 1))), .int (nI x9)]) (rest := []) ⟨hx, hb, hml, hown, hts⟩ (c_Mod_bySubject l (b := b) (N := N) (S := S) (v9 := v9) (u9 := u9) hM hn hR hj (by omega) (by omega) h14 hv h15 hu) (cwV 3 hts (gW_in (hd := [_, _, _, _, _]) (kk_5 wd_667 wd_669 sl_Mod_bySubject wd_8 cw_Mod_bySubject)) rfl rfl rfl ⟨rfl, ds_Mod_bySubject⟩ ⟨Nat.le_of_ble_eq_true rfl, Nat.le_of_ble_eq_true rfl⟩) (kk_preV hK hP hz hBz m0 rfl) rfl rfl hl.1 rfl (lv_room (Nat.le_of_ble_eq_true rfl)) d_Mod_byCertificate_38 ⟨Nat.le_of_ble_eq_true rfl, Nat.le_of_ble_eq_true rfl⟩)) (fun r9 hr9 => ?_)
    subst hr9
    refine lv_goto (tgt := 47) hx hb d_Mod_byCertificate_41 (by decide) ?_
    refine kk_top (y := nI (dm_ph (if 1 < N 8 j then ld_c N v9 x9 j (dm_L (N 3) u9 (N 0 0)) 1 else 1000))) (congrArg nI (by rw [if_pos (by omega)]; rfl)) ?_
    refine lv_istore hx hb d_Mod_byCertificate_47 hl (by decide) rfl (fun ls hl => ?_)
    have hl : lv_has ls 7 [(4, .int (nI (dm_ph (if 1 < N 8 j then ld_c N v9 x9 j (dm_L (N 3) u9 (N 0 0)) 1 else 1000)))), (3, .int (nI (dm_ph (ld_c N v9 x9 j (dm_L (N 3) u9 (N 0 0)) 0)))), (0, .ref (b + 14)), (1, .int (nI j)), (2, .int (nI x9))] := hl
    refine lv_aload_n hx hb d_Mod_byCertificate_49 rfl (lv_at hl 2 rfl) ?_
    refine mm_get (D := D) (C := n_Mod) (T := T_Mod) (N := 27) (v := .ref (b + 22)) hx hb hts lay_Mod hown hK.1 hP m0 rfl 8 (by decide) (hts _ (List.mem_cons_of_mem _ wd_499)) (fun _ h9 => h9) rfl d_Mod_byCertificate_50 ?_
    refine lv_iload_n hx hb d_Mod_byCertificate_53 rfl (lv_at hl 3 rfl) ?_
    refine mm_iald hx hb hK.1 hP 0 m8 rfl j rfl (by omega) (by decide) d_Mod_byCertificate_54 ?_
    refine W.eq (g2 := F0 m 55 ls [.int (nI ((N 8) j))]) rfl ?_
    refine lv_iconst (v := nI 2) hx hb d_Mod_byCertificate_55 (by decide) ?_
    refine lv_icmp_le (tgt := 78) hx hb d_Mod_byCertificate_56 (by decide) (fun cc10 => ?_) (fun cc10 => ?_)
    · have cc10 : (N 8) j ≤ 2 := (nI_leI (by omega) (by omega)).mp cc10
      refine lv_sipush (v := nI 5000) hx hb d_Mod_byCertificate_78 (by decide) ?_
      refine kk_top (y := nI (dm_ph (if 2 < N 8 j then ld_c N v9 x9 j (dm_L (N 3) u9 (N 0 0)) 2 else 1000))) (congrArg nI (by rw [if_neg (by omega)]; rfl)) ?_
      refine lv_istore hx hb d_Mod_byCertificate_81 hl (by decide) rfl (fun ls hl => ?_)
      have hl : lv_has ls 7 [(5, .int (nI (dm_ph (if 2 < N 8 j then ld_c N v9 x9 j (dm_L (N 3) u9 (N 0 0)) 2 else 1000)))), (4, .int (nI (dm_ph (if 1 < N 8 j then ld_c N v9 x9 j (dm_L (N 3) u9 (N 0 0)) 1 else 1000)))), (3, .int (nI (dm_ph (ld_c N v9 x9 j (dm_L (N 3) u9 (N 0 0)) 0)))), (0, .ref (b + 14)), (1, .int (nI j)), (2, .int (nI x9))] := hl
      refine lv_iload_n hx hb d_Mod_byCertificate_83 rfl (lv_at hl 2 rfl) ?_
      refine lv_iload hx hb d_Mod_byCertificate_84 (lv_at hl 1 rfl) ?_
      refine lv_iload hx hb d_Mod_byCertificate_86 (lv_at hl 0 rfl) ?_
      refine lv_aload_n hx hb d_Mod_byCertificate_88 rfl (lv_at hl 3 rfl) ?_
      refine mm_get (D := D) (C := n_Mod) (T := T_Mod) (N := 27) (v := .ref (b + 23)) hx hb hts lay_Mod hown hK.1 hP m0 rfl 9 (by decide) (hts _ (List.mem_cons_of_mem _ wd_500)) (fun _ h9 => h9) rfl d_Mod_byCertificate_89 ?_
      refine lv_iload_n hx hb d_Mod_byCertificate_92 rfl (lv_at hl 4 rfl) ?_
      refine mm_iald hx hb hK.1 hP 0 m9 rfl j rfl (by omega) (by decide) d_Mod_byCertificate_93 ?_
      refine W.eq (g2 := F0 m 94 ls [.int (nI ((N 9) j)), .int (nI (dm_ph (if 2 < N 8 j then ld_c N v9 x9 j (dm_L (N 3) u9 (N 0 0)) 2 else 1000))), .int (nI (dm_ph (if 1 < N 8 j then ld_c N v9 x9 j (dm_L (N 3) u9 (N 0 0)) 1 else 1000))), .int (nI (dm_ph (ld_c N v9 x9 j (dm_L (N 3) u9 (N 0 0)) 0)))]) rfl ?_
      have hd1 : (if 1 < N 8 j then ld_c N v9 x9 j (dm_L (N 3) u9 (N 0 0)) 1 else 1000) ≤ 1000 := by split <;> omega
      have hd2 : (if 2 < N 8 j then ld_c N v9 x9 j (dm_L (N 3) u9 (N 0 0)) 2 else 1000) ≤ 1000 := by split <;> omega
      refine vp_callSi (va_Run.run (va_runS (As := [.int (nI (dm_ph (ld_c N v9 x9 j (dm_L (N 3) u9 (N 0 0)) 0))), .int (nI (dm_ph (if 1 < N 8 j then ld_c N v9 x9 j (dm_L (N 3) u9 (N 0 0)) 1 else 1000))), .int (nI (dm_ph (if 2 < N 8 j then ld_c N v9 x9 j (dm_L (N 3) u9 (N 0 0)) 2 else 1000))), .int (nI ((N 9) j))]) (rest := []) ⟨hx, hb, hml, hown, hts⟩ (c_Mod_leastOf l (a := (ld_c N v9 x9 j (dm_L (N 3) u9 (N 0 0)) 0)) (b := (if 1 < N 8 j then ld_c N v9 x9 j (dm_L (N 3) u9 (N 0 0)) 1 else 1000)) (c9 := (if 2 < N 8 j then ld_c N v9 x9 j (dm_L (N 3) u9 (N 0 0)) 2 else 1000)) (n := (N 9) j) (by omega) (by omega) (by omega) (by omega) (by omega)) (va_cwS 4 hts (gW_in (hd := [_, _, _, _]) (kk_4 wd_675 wd_676 wd_8 cw_Mod_leastOf)) rfl rfl rfl ds_Mod_leastOf ⟨Nat.le_of_ble_eq_true rfl, Nat.le_of_ble_eq_true rfl⟩) (kk_preS hK hP hz hBz) rfl rfl hl.1 rfl (lv_room (Nat.le_of_ble_eq_true rfl)) d_Mod_byCertificate_94 ⟨Nat.le_of_ble_eq_true rfl, Nat.le_of_ble_eq_true rfl⟩)) (fun r11 hr11 => ?_)
      subst hr11
      refine lv_istore hx hb d_Mod_byCertificate_97 hl (by decide) rfl (fun ls hl => ?_)
      have hl : lv_has ls 7 [(6, .int (nI (dm_ph (dm_q (ld_c N v9 x9 j (dm_L (N 3) u9 (N 0 0)) 0) (if 1 < N 8 j then ld_c N v9 x9 j (dm_L (N 3) u9 (N 0 0)) 1 else 1000) (if 2 < N 8 j then ld_c N v9 x9 j (dm_L (N 3) u9 (N 0 0)) 2 else 1000) ((N 9) j))))), (5, .int (nI (dm_ph (if 2 < N 8 j then ld_c N v9 x9 j (dm_L (N 3) u9 (N 0 0)) 2 else 1000)))), (4, .int (nI (dm_ph (if 1 < N 8 j then ld_c N v9 x9 j (dm_L (N 3) u9 (N 0 0)) 1 else 1000)))), (3, .int (nI (dm_ph (ld_c N v9 x9 j (dm_L (N 3) u9 (N 0 0)) 0)))), (0, .ref (b + 14)), (1, .int (nI j)), (2, .int (nI x9))] := hl
      refine lv_iload hx hb d_Mod_byCertificate_99 (lv_at hl 0 rfl) ?_
      refine lv_iconst (v := nI 1) hx hb d_Mod_byCertificate_101 (by decide) ?_
      have hq := dm_q_le (b := (if 1 < N 8 j then ld_c N v9 x9 j (dm_L (N 3) u9 (N 0 0)) 1 else 1000)) (c := (if 2 < N 8 j then ld_c N v9 x9 j (dm_L (N 3) u9 (N 0 0)) 2 else 1000)) hc0 (N 9 j)
      refine vp_callSi (va_Run.run (va_runS (As := [.int (nI (dm_ph (dm_q (ld_c N v9 x9 j (dm_L (N 3) u9 (N 0 0)) 0) (if 1 < N 8 j then ld_c N v9 x9 j (dm_L (N 3) u9 (N 0 0)) 1 else 1000) (if 2 < N 8 j then ld_c N v9 x9 j (dm_L (N 3) u9 (N 0 0)) 2 else 1000) ((N 9) j)))), .int (nI 1)]) (rest := []) ⟨hx, hb, hml, hown, hts⟩ (c_Mod_sum l (a := (dm_q (ld_c N v9 x9 j (dm_L (N 3) u9 (N 0 0)) 0) (if 1 < N 8 j then ld_c N v9 x9 j (dm_L (N 3) u9 (N 0 0)) 1 else 1000) (if 2 < N 8 j then ld_c N v9 x9 j (dm_L (N 3) u9 (N 0 0)) 2 else 1000) ((N 9) j))) (b := 1) (by omega) (by omega)) (va_cwS 2 hts (gW_in (hd := [_, _, _, _]) (kk_4 wd_644 wd_645 wd_8 cw_Mod_sum)) rfl rfl rfl ds_Mod_sum ⟨Nat.le_of_ble_eq_true rfl, Nat.le_of_ble_eq_true rfl⟩) (kk_preS hK hP hz hBz) rfl rfl hl.1 rfl (lv_room (Nat.le_of_ble_eq_true rfl)) d_Mod_byCertificate_102 ⟨Nat.le_of_ble_eq_true rfl, Nat.le_of_ble_eq_true rfl⟩)) (fun r12 hr12 => ?_)
      subst hr12
      exact W.iret hx hb hr (fun t ht hW => ⟨_, rfl, rfl, ht⟩) (fun q hq => by cases hq) d_Mod_byCertificate_105
    · have cc10 : ¬ ((N 8) j ≤ 2) := fun q => cc10 ((nI_leI (by omega) (by omega)).mpr q)
      refine lv_aload_n hx hb d_Mod_byCertificate_59 rfl (lv_at hl 2 rfl) ?_
      refine lv_iload_n hx hb d_Mod_byCertificate_60 rfl (lv_at hl 3 rfl) ?_
      refine lv_aload_n hx hb d_Mod_byCertificate_61 rfl (lv_at hl 2 rfl) ?_
      refine mm_get (D := D) (C := n_Mod) (T := T_Mod) (N := 27) (v := .ref (b + 21)) hx hb hts lay_Mod hown hK.1 hP m0 rfl 7 (by decide) (hts _ (List.mem_cons_of_mem _ wd_498)) (fun _ h9 => h9) rfl d_Mod_byCertificate_62 ?_
      refine lv_iconst (v := nI 3) hx hb d_Mod_byCertificate_65 (by decide) ?_
      refine lv_iload_n hx hb d_Mod_byCertificate_66 rfl (lv_at hl 3 rfl) ?_
      refine lv_imul hx hb d_Mod_byCertificate_67 ?_
      refine kk_top (pk_mul _ _) ?_
      refine lv_iconst (v := nI 2) hx hb d_Mod_byCertificate_68 (by decide) ?_
      refine lv_iadd hx hb d_Mod_byCertificate_69 ?_
      refine kk_top (nI_add _ _) ?_
      refine mm_iald hx hb hK.1 hP 0 m7 rfl ((3 * j) + 2) rfl (by omega) (by decide) d_Mod_byCertificate_70 ?_
      refine W.eq (g2 := F0 m 71 ls [.int (nI ((N 7) ((3 * j) + 2))), .int (nI j), .ref (b + 14)]) rfl ?_
      refine lv_iload_n hx hb d_Mod_byCertificate_71 rfl (lv_at hl 4 rfl) ?_
      refine vp_callSi (va_Run.run (va_runV (As := [.int (nI j), .int (nI ((N 7) ((3 * j) + 2))), .int (nI x9)]) (rest := []) ⟨hx, hb, hml, hown, hts⟩ (c_Mod_bySubject l (b := b) (N := N) (S := S) (v9 := v9) (u9 := u9) hM hn hR hj (by omega) (by omega) h14 hv h15 hu) (cwV 3 hts (gW_in (hd := [_, _, _, _, _]) (kk_5 wd_667 wd_669 sl_Mod_bySubject wd_8 cw_Mod_bySubject)) rfl rfl rfl ⟨rfl, ds_Mod_bySubject⟩ ⟨Nat.le_of_ble_eq_true rfl, Nat.le_of_ble_eq_true rfl⟩) (kk_preV hK hP hz hBz m0 rfl) rfl rfl hl.1 rfl (lv_room (Nat.le_of_ble_eq_true rfl)) d_Mod_byCertificate_72 ⟨Nat.le_of_ble_eq_true rfl, Nat.le_of_ble_eq_true rfl⟩)) (fun r13 hr13 => ?_)
      subst hr13
      refine lv_goto (tgt := 81) hx hb d_Mod_byCertificate_75 (by decide) ?_
      refine kk_top (y := nI (dm_ph (if 2 < N 8 j then ld_c N v9 x9 j (dm_L (N 3) u9 (N 0 0)) 2 else 1000))) (congrArg nI (by rw [if_pos (by omega)]; rfl)) ?_
      refine lv_istore hx hb d_Mod_byCertificate_81 hl (by decide) rfl (fun ls hl => ?_)
      have hl : lv_has ls 7 [(5, .int (nI (dm_ph (if 2 < N 8 j then ld_c N v9 x9 j (dm_L (N 3) u9 (N 0 0)) 2 else 1000)))), (4, .int (nI (dm_ph (if 1 < N 8 j then ld_c N v9 x9 j (dm_L (N 3) u9 (N 0 0)) 1 else 1000)))), (3, .int (nI (dm_ph (ld_c N v9 x9 j (dm_L (N 3) u9 (N 0 0)) 0)))), (0, .ref (b + 14)), (1, .int (nI j)), (2, .int (nI x9))] := hl
      refine lv_iload_n hx hb d_Mod_byCertificate_83 rfl (lv_at hl 2 rfl) ?_
      refine lv_iload hx hb d_Mod_byCertificate_84 (lv_at hl 1 rfl) ?_
      refine lv_iload hx hb d_Mod_byCertificate_86 (lv_at hl 0 rfl) ?_
      refine lv_aload_n hx hb d_Mod_byCertificate_88 rfl (lv_at hl 3 rfl) ?_
      refine mm_get (D := D) (C := n_Mod) (T := T_Mod) (N := 27) (v := .ref (b + 23)) hx hb hts lay_Mod hown hK.1 hP m0 rfl 9 (by decide) (hts _ (List.mem_cons_of_mem _ wd_500)) (fun _ h9 => h9) rfl d_Mod_byCertificate_89 ?_
      refine lv_iload_n hx hb d_Mod_byCertificate_92 rfl (lv_at hl 4 rfl) ?_
      refine mm_iald hx hb hK.1 hP 0 m9 rfl j rfl (by omega) (by decide) d_Mod_byCertificate_93 ?_
      refine W.eq (g2 := F0 m 94 ls [.int (nI ((N 9) j)), .int (nI (dm_ph (if 2 < N 8 j then ld_c N v9 x9 j (dm_L (N 3) u9 (N 0 0)) 2 else 1000))), .int (nI (dm_ph (if 1 < N 8 j then ld_c N v9 x9 j (dm_L (N 3) u9 (N 0 0)) 1 else 1000))), .int (nI (dm_ph (ld_c N v9 x9 j (dm_L (N 3) u9 (N 0 0)) 0)))]) rfl ?_
      have hd1 : (if 1 < N 8 j then ld_c N v9 x9 j (dm_L (N 3) u9 (N 0 0)) 1 else 1000) ≤ 1000 := by split <;> omega
      have hd2 : (if 2 < N 8 j then ld_c N v9 x9 j (dm_L (N 3) u9 (N 0 0)) 2 else 1000) ≤ 1000 := by split <;> omega
      refine vp_callSi (va_Run.run (va_runS (As := [.int (nI (dm_ph (ld_c N v9 x9 j (dm_L (N 3) u9 (N 0 0)) 0))), .int (nI (dm_ph (if 1 < N 8 j then ld_c N v9 x9 j (dm_L (N 3) u9 (N 0 0)) 1 else 1000))), .int (nI (dm_ph (if 2 < N 8 j then ld_c N v9 x9 j (dm_L (N 3) u9 (N 0 0)) 2 else 1000))), .int (nI ((N 9) j))]) (rest := []) ⟨hx, hb, hml, hown, hts⟩ (c_Mod_leastOf l (a := (ld_c N v9 x9 j (dm_L (N 3) u9 (N 0 0)) 0)) (b := (if 1 < N 8 j then ld_c N v9 x9 j (dm_L (N 3) u9 (N 0 0)) 1 else 1000)) (c9 := (if 2 < N 8 j then ld_c N v9 x9 j (dm_L (N 3) u9 (N 0 0)) 2 else 1000)) (n := (N 9) j) (by omega) (by omega) (by omega) (by omega) (by omega)) (va_cwS 4 hts (gW_in (hd := [_, _, _, _]) (kk_4 wd_675 wd_676 wd_8 cw_Mod_leastOf)) rfl rfl rfl ds_Mod_leastOf ⟨Nat.le_of_ble_eq_true rfl, Nat.le_of_ble_eq_true rfl⟩) (kk_preS hK hP hz hBz) rfl rfl hl.1 rfl (lv_room (Nat.le_of_ble_eq_true rfl)) d_Mod_byCertificate_94 ⟨Nat.le_of_ble_eq_true rfl, Nat.le_of_ble_eq_true rfl⟩)) (fun r14 hr14 => ?_)
      subst hr14
      refine lv_istore hx hb d_Mod_byCertificate_97 hl (by decide) rfl (fun ls hl => ?_)
      have hl : lv_has ls 7 [(6, .int (nI (dm_ph (dm_q (ld_c N v9 x9 j (dm_L (N 3) u9 (N 0 0)) 0) (if 1 < N 8 j then ld_c N v9 x9 j (dm_L (N 3) u9 (N 0 0)) 1 else 1000) (if 2 < N 8 j then ld_c N v9 x9 j (dm_L (N 3) u9 (N 0 0)) 2 else 1000) ((N 9) j))))), (5, .int (nI (dm_ph (if 2 < N 8 j then ld_c N v9 x9 j (dm_L (N 3) u9 (N 0 0)) 2 else 1000)))), (4, .int (nI (dm_ph (if 1 < N 8 j then ld_c N v9 x9 j (dm_L (N 3) u9 (N 0 0)) 1 else 1000)))), (3, .int (nI (dm_ph (ld_c N v9 x9 j (dm_L (N 3) u9 (N 0 0)) 0)))), (0, .ref (b + 14)), (1, .int (nI j)), (2, .int (nI x9))] := hl
      refine lv_iload hx hb d_Mod_byCertificate_99 (lv_at hl 0 rfl) ?_
      refine lv_iconst (v := nI 1) hx hb d_Mod_byCertificate_101 (by decide) ?_
      have hq := dm_q_le (b := (if 1 < N 8 j then ld_c N v9 x9 j (dm_L (N 3) u9 (N 0 0)) 1 else 1000)) (c := (if 2 < N 8 j then ld_c N v9 x9 j (dm_L (N 3) u9 (N 0 0)) 2 else 1000)) hc0 (N 9 j)
      refine vp_callSi (va_Run.run (va_runS (As := [.int (nI (dm_ph (dm_q (ld_c N v9 x9 j (dm_L (N 3) u9 (N 0 0)) 0) (if 1 < N 8 j then ld_c N v9 x9 j (dm_L (N 3) u9 (N 0 0)) 1 else 1000) (if 2 < N 8 j then ld_c N v9 x9 j (dm_L (N 3) u9 (N 0 0)) 2 else 1000) ((N 9) j)))), .int (nI 1)]) (rest := []) ⟨hx, hb, hml, hown, hts⟩ (c_Mod_sum l (a := (dm_q (ld_c N v9 x9 j (dm_L (N 3) u9 (N 0 0)) 0) (if 1 < N 8 j then ld_c N v9 x9 j (dm_L (N 3) u9 (N 0 0)) 1 else 1000) (if 2 < N 8 j then ld_c N v9 x9 j (dm_L (N 3) u9 (N 0 0)) 2 else 1000) ((N 9) j))) (b := 1) (by omega) (by omega)) (va_cwS 2 hts (gW_in (hd := [_, _, _, _]) (kk_4 wd_644 wd_645 wd_8 cw_Mod_sum)) rfl rfl rfl ds_Mod_sum ⟨Nat.le_of_ble_eq_true rfl, Nat.le_of_ble_eq_true rfl⟩) (kk_preS hK hP hz hBz) rfl rfl hl.1 rfl (lv_room (Nat.le_of_ble_eq_true rfl)) d_Mod_byCertificate_102 ⟨Nat.le_of_ble_eq_true rfl, Nat.le_of_ble_eq_true rfl⟩)) (fun r15 hr15 => ?_)
      subst hr15
      exact W.iret hx hb hr (fun t ht hW => ⟨_, rfl, rfl, ht⟩) (fun q hq => by cases hq) d_Mod_byCertificate_105
