theorem d_Mea_placeOf_0 : decode k_Mea_placeOf 0 = .ok (.iload_n 0, 1) := by decide +kernel
theorem d_Mea_placeOf_1 : decode k_Mea_placeOf 1 = .ok (.iconst 4, 1) := by decide +kernel
theorem d_Mea_placeOf_2 : decode k_Mea_placeOf 2 = .ok (.imul, 1) := by decide +kernel
theorem d_Mea_placeOf_3 : decode k_Mea_placeOf 3 = .ok (.iload_n 1, 1) := by decide +kernel
theorem d_Mea_placeOf_4 : decode k_Mea_placeOf 4 = .ok (.iadd, 1) := by decide +kernel
theorem d_Mea_placeOf_5 : decode k_Mea_placeOf 5 = .ok (.bipush 8, 2) := by decide +kernel
theorem d_Mea_placeOf_7 : decode k_Mea_placeOf 7 = .ok (.imul, 1) := by decide +kernel
theorem d_Mea_placeOf_8 : decode k_Mea_placeOf 8 = .ok (.iload_n 2, 1) := by decide +kernel
theorem d_Mea_placeOf_9 : decode k_Mea_placeOf 9 = .ok (.iadd, 1) := by decide +kernel
theorem d_Mea_placeOf_10 : decode k_Mea_placeOf 10 = .ok (.ireturn, 1) := by decide +kernel
set_option maxHeartbeats 4000000 in
set_option maxRecDepth 100000 in
theorem c_Mea_placeOf (l : Launch) {B : Nat} {D : va_G} {cI cZ cQ : ClassId} {w : mm_M} {sz : Nat} {s9 m9 y : Nat} (hs : s9 ≤ 8) (hm : m9 ≤ 8) (hy : y ≤ 8) : Met l y_Mea_placeOf ws_Mea_placeOf (kk_rm 0 0 0) (kk_Pc B D cI cZ cQ [.int (nI s9), .int (nI m9), .int (nI y)] w sz) (vp_Si (fun r => r = nI (32 * s9 + 8 * m9 + y))) 0 0 (fun _ => False) := by
  refine Met.ofW (cc := k_Mea_placeOf) (maxL := 3) (ret := (some .int)) (by decide) rfl ?_
  intro p e s m args below meth c s₁ BB hml hv
  obtain ⟨rfl, hK, hP, hz, hBz⟩ := hv
  have hx := BB.exec
  have hb := BB.bytes
  have hr := BB.returns
  have hts := atoms_spec (ws := ws_Mea_placeOf) BB.pre
  have hown : s.vm.findClass "DelegationClosure$Meanings" = some m.cls := findClass_of_methodNamed BB.named
  have hlocks := BB.notSynchronized
  have hS : mm_S B s.heap s.heap [] := va_S.rf
  have hl := lv_entry ([.int (nI s9), .int (nI m9), .int (nI y)]) (n := 3) (Nat.le_of_ble_eq_true rfl)
  rw [lg_entry_eq]
  generalize (lg_sl ([.int (nI s9), .int (nI m9), .int (nI y)]) ++ List.replicate (3 - (lg_sl ([.int (nI s9), .int (nI m9), .int (nI y)])).length) Slot.unset).toArray = ls at hl ⊢
  have hl : lv_has ls 3 [(0, .int (nI s9)), (1, .int (nI m9)), (2, .int (nI y))] := hl
  refine lv_iload_n hx hb d_Mea_placeOf_0 rfl (lv_at hl 0 rfl) ?_
  refine lv_iconst (v := nI 4) hx hb d_Mea_placeOf_1 (by decide) ?_
  refine lv_imul hx hb d_Mea_placeOf_2 ?_
  refine kk_top (pk_mul _ _) ?_
  refine lv_iload_n hx hb d_Mea_placeOf_3 rfl (lv_at hl 1 rfl) ?_
  refine lv_iadd hx hb d_Mea_placeOf_4 ?_
  refine kk_top (nI_add _ _) ?_
  refine lv_bipush (v := nI 8) hx hb d_Mea_placeOf_5 (by decide) ?_
  refine lv_imul hx hb d_Mea_placeOf_7 ?_
  refine kk_top (pk_mul _ _) ?_
  refine lv_iload_n hx hb d_Mea_placeOf_8 rfl (lv_at hl 2 rfl) ?_
  refine lv_iadd hx hb d_Mea_placeOf_9 ?_
  refine kk_top (nI_add _ _) ?_
  exact W.iret hx hb hr (fun t ht hW => ⟨_, rfl, congrArg nI (by omega), ht⟩) (fun q hq => by cases hq) d_Mea_placeOf_10
theorem d_Mea_ofSubject_0 : decode k_Mea_ofSubject 0 = .ok (.iload_n 1, 1) := by decide +kernel
theorem d_Mea_ofSubject_1 : decode k_Mea_ofSubject 1 = .ok (.invokestatic 71, 3) := by decide +kernel
theorem d_Mea_ofSubject_4 : decode k_Mea_ofSubject 4 = .ok (.istore_n 3, 1) := by decide +kernel
theorem d_Mea_ofSubject_5 : decode k_Mea_ofSubject 5 = .ok (.iload_n 1, 1) := by decide +kernel
theorem d_Mea_ofSubject_6 : decode k_Mea_ofSubject 6 = .ok (.invokestatic 75, 3) := by decide +kernel
theorem d_Mea_ofSubject_9 : decode k_Mea_ofSubject 9 = .ok (.istore 4, 2) := by decide +kernel
theorem d_Mea_ofSubject_11 : decode k_Mea_ofSubject 11 = .ok (.iload_n 1, 1) := by decide +kernel
theorem d_Mea_ofSubject_12 : decode k_Mea_ofSubject 12 = .ok (.invokestatic 78, 3) := by decide +kernel
theorem d_Mea_ofSubject_15 : decode k_Mea_ofSubject 15 = .ok (.istore 5, 2) := by decide +kernel
theorem d_Mea_ofSubject_17 : decode k_Mea_ofSubject 17 = .ok (.iload 4, 2) := by decide +kernel
theorem d_Mea_ofSubject_19 : decode k_Mea_ofSubject 19 = .ok (.iconst (-1), 1) := by decide +kernel
theorem d_Mea_ofSubject_20 : decode k_Mea_ofSubject 20 = .ok (.if_icmp .ne 16, 3) := by decide +kernel
theorem d_Mea_ofSubject_23 : decode k_Mea_ofSubject 23 = .ok (.iload_n 3, 1) := by decide +kernel
theorem d_Mea_ofSubject_24 : decode k_Mea_ofSubject 24 = .ok (.iload_n 2, 1) := by decide +kernel
theorem d_Mea_ofSubject_25 : decode k_Mea_ofSubject 25 = .ok (.if_icmp .ne 7, 3) := by decide +kernel
theorem d_Mea_ofSubject_28 : decode k_Mea_ofSubject 28 = .ok (.iconst 0, 1) := by decide +kernel
theorem d_Mea_ofSubject_29 : decode k_Mea_ofSubject 29 = .ok (.goto 6, 3) := by decide +kernel
theorem d_Mea_ofSubject_32 : decode k_Mea_ofSubject 32 = .ok (.sipush 1000, 3) := by decide +kernel
theorem d_Mea_ofSubject_35 : decode k_Mea_ofSubject 35 = .ok (.ireturn, 1) := by decide +kernel
theorem d_Mea_ofSubject_36 : decode k_Mea_ofSubject 36 = .ok (.iload 5, 2) := by decide +kernel
theorem d_Mea_ofSubject_38 : decode k_Mea_ofSubject 38 = .ok (.iconst (-1), 1) := by decide +kernel
theorem d_Mea_ofSubject_39 : decode k_Mea_ofSubject 39 = .ok (.if_icmp .ne 16, 3) := by decide +kernel
theorem d_Mea_ofSubject_42 : decode k_Mea_ofSubject 42 = .ok (.aload_n 0, 1) := by decide +kernel
theorem d_Mea_ofSubject_43 : decode k_Mea_ofSubject 43 = .ok (.getfield 9, 3) := by decide +kernel
theorem d_Mea_ofSubject_46 : decode k_Mea_ofSubject 46 = .ok (.iload_n 3, 1) := by decide +kernel
theorem d_Mea_ofSubject_47 : decode k_Mea_ofSubject 47 = .ok (.iload 4, 2) := by decide +kernel
theorem d_Mea_ofSubject_49 : decode k_Mea_ofSubject 49 = .ok (.iload_n 2, 1) := by decide +kernel
theorem d_Mea_ofSubject_50 : decode k_Mea_ofSubject 50 = .ok (.invokestatic 57, 3) := by decide +kernel
theorem d_Mea_ofSubject_53 : decode k_Mea_ofSubject 53 = .ok (.iaload, 1) := by decide +kernel
theorem d_Mea_ofSubject_54 : decode k_Mea_ofSubject 54 = .ok (.ireturn, 1) := by decide +kernel
theorem d_Mea_ofSubject_55 : decode k_Mea_ofSubject 55 = .ok (.sipush 1000, 3) := by decide +kernel
theorem d_Mea_ofSubject_58 : decode k_Mea_ofSubject 58 = .ok (.istore 6, 2) := by decide +kernel
theorem d_Mea_ofSubject_60 : decode k_Mea_ofSubject 60 = .ok (.iconst 0, 1) := by decide +kernel
theorem d_Mea_ofSubject_61 : decode k_Mea_ofSubject 61 = .ok (.istore 7, 2) := by decide +kernel
theorem d_Mea_ofSubject_63 : decode k_Mea_ofSubject 63 = .ok (.iload 7, 2) := by decide +kernel
theorem d_Mea_ofSubject_65 : decode k_Mea_ofSubject 65 = .ok (.bipush 8, 2) := by decide +kernel
theorem d_Mea_ofSubject_67 : decode k_Mea_ofSubject 67 = .ok (.if_icmp .ge 53, 3) := by decide +kernel
theorem d_Mea_ofSubject_70 : decode k_Mea_ofSubject 70 = .ok (.aload_n 0, 1) := by decide +kernel
theorem d_Mea_ofSubject_71 : decode k_Mea_ofSubject 71 = .ok (.getfield 9, 3) := by decide +kernel
theorem d_Mea_ofSubject_74 : decode k_Mea_ofSubject 74 = .ok (.iload_n 3, 1) := by decide +kernel
theorem d_Mea_ofSubject_75 : decode k_Mea_ofSubject 75 = .ok (.iload 4, 2) := by decide +kernel
theorem d_Mea_ofSubject_77 : decode k_Mea_ofSubject 77 = .ok (.iload 7, 2) := by decide +kernel
theorem d_Mea_ofSubject_79 : decode k_Mea_ofSubject 79 = .ok (.invokestatic 57, 3) := by decide +kernel
theorem d_Mea_ofSubject_82 : decode k_Mea_ofSubject 82 = .ok (.iaload, 1) := by decide +kernel
theorem d_Mea_ofSubject_83 : decode k_Mea_ofSubject 83 = .ok (.istore 8, 2) := by decide +kernel
theorem d_Mea_ofSubject_85 : decode k_Mea_ofSubject 85 = .ok (.aload_n 0, 1) := by decide +kernel
theorem d_Mea_ofSubject_86 : decode k_Mea_ofSubject 86 = .ok (.getfield 9, 3) := by decide +kernel
theorem d_Mea_ofSubject_89 : decode k_Mea_ofSubject 89 = .ok (.iload 7, 2) := by decide +kernel
theorem d_Mea_ofSubject_91 : decode k_Mea_ofSubject 91 = .ok (.iload 5, 2) := by decide +kernel
theorem d_Mea_ofSubject_93 : decode k_Mea_ofSubject 93 = .ok (.iload_n 2, 1) := by decide +kernel
theorem d_Mea_ofSubject_94 : decode k_Mea_ofSubject 94 = .ok (.invokestatic 57, 3) := by decide +kernel
theorem d_Mea_ofSubject_97 : decode k_Mea_ofSubject 97 = .ok (.iaload, 1) := by decide +kernel
theorem d_Mea_ofSubject_98 : decode k_Mea_ofSubject 98 = .ok (.istore 9, 2) := by decide +kernel
theorem d_Mea_ofSubject_100 : decode k_Mea_ofSubject 100 = .ok (.iload 6, 2) := by decide +kernel
theorem d_Mea_ofSubject_102 : decode k_Mea_ofSubject 102 = .ok (.iload 8, 2) := by decide +kernel
theorem d_Mea_ofSubject_104 : decode k_Mea_ofSubject 104 = .ok (.iload 9, 2) := by decide +kernel
theorem d_Mea_ofSubject_106 : decode k_Mea_ofSubject 106 = .ok (.invokestatic 68, 3) := by decide +kernel
theorem d_Mea_ofSubject_109 : decode k_Mea_ofSubject 109 = .ok (.invokestatic 81, 3) := by decide +kernel
theorem d_Mea_ofSubject_112 : decode k_Mea_ofSubject 112 = .ok (.istore 6, 2) := by decide +kernel
theorem d_Mea_ofSubject_114 : decode k_Mea_ofSubject 114 = .ok (.iinc 7 1, 3) := by decide +kernel
theorem d_Mea_ofSubject_117 : decode k_Mea_ofSubject 117 = .ok (.goto (-54), 3) := by decide +kernel
theorem d_Mea_ofSubject_120 : decode k_Mea_ofSubject 120 = .ok (.iload 6, 2) := by decide +kernel
theorem d_Mea_ofSubject_122 : decode k_Mea_ofSubject 122 = .ok (.ireturn, 1) := by decide +kernel
set_option maxHeartbeats 4000000 in
set_option maxRecDepth 100000 in
theorem c_Mea_ofSubject (l : Launch) {B : Nat} {D : va_G} {cI cZ cQ : ClassId} {w : mm_M} {sz : Nat} {a ar n y : Nat} {g : Nat → Nat} (h_0 : w a = some (.inr (2, [.ref ar]))) (h_1 : w ar = some (.inl (cI, 256, .inl (fun i => nI (g i))))) (hn : n < 200) (hy : y < 8) (hg : ∀ j, g j ≤ 1000) : Met l y_Mea_ofSubject ws_Mea_ofSubject (kk_rm 1 0 0) (kk_Pc B D cI cZ cQ [.ref a, .int (nI n), .int (nI y)] w sz) (vp_Si (fun r => r = nI (dm_ofs g n y))) 0 0 (fun _ => False) := by
  refine Met.ofW (cc := k_Mea_ofSubject) (maxL := 10) (ret := (some .int)) (by decide) rfl ?_
  intro p e s m args below meth c s₁ BB hml hv
  obtain ⟨rfl, hK, hP, hz, hBz⟩ := hv
  have hx := BB.exec
  have hb := BB.bytes
  have hr := BB.returns
  have hts := atoms_spec (ws := ws_Mea_ofSubject) BB.pre
  have hown : s.vm.findClass "DelegationClosure$Meanings" = some m.cls := findClass_of_methodNamed BB.named
  have hlocks := BB.notSynchronized
  have hS : mm_S B s.heap s.heap [] := va_S.rf
  have hl := lv_entry ([.ref a, .int (nI n), .int (nI y)]) (n := 10) (Nat.le_of_ble_eq_true rfl)
  rw [lg_entry_eq]
  generalize (lg_sl ([.ref a, .int (nI n), .int (nI y)]) ++ List.replicate (10 - (lg_sl ([.ref a, .int (nI n), .int (nI y)])).length) Slot.unset).toArray = ls at hl ⊢
  have hl : lv_has ls 10 [(0, .ref a), (1, .int (nI n)), (2, .int (nI y))] := hl
  refine lv_iload_n hx hb d_Mea_ofSubject_0 rfl (lv_at hl 1 rfl) ?_
  refine vp_callSi (va_Run.run (va_runSN (As := [.int (nI n)]) (rest := []) ⟨hx, hb, hml, hown, hts⟩ (c_X_keyOf l (by omega)) ⟨va_cnB 1 hts (gW_in (hd := [_]) (kk_1 cw_X_keyOf)) rfl rfl rfl (hK.2.1 _ nw_333 rfl) (hts _ (List.mem_cons_of_mem _ wd_1)) ds_X_keyOf ⟨Nat.le_of_ble_eq_true rfl, Nat.le_of_ble_eq_true rfl⟩, (hts _ (List.mem_cons_of_mem _ wd_334)), trivial⟩ (kk_preS hK hP hz hBz) rfl rfl hl.1 rfl (lv_room (Nat.le_of_ble_eq_true rfl)) d_Mea_ofSubject_1 ⟨Nat.le_of_ble_eq_true rfl, Nat.le_of_ble_eq_true rfl⟩)) (fun r1 hr1 => ?_)
  subst hr1
  refine lv_istore_n hx hb d_Mea_ofSubject_4 rfl hl (by decide) rfl (fun ls hl => ?_)
  have hl : lv_has ls 10 [(3, .int (nI (n % 8))), (0, .ref a), (1, .int (nI n)), (2, .int (nI y))] := hl
  refine lv_iload_n hx hb d_Mea_ofSubject_5 rfl (lv_at hl 2 rfl) ?_
  refine vp_callSi (va_Run.run (va_runSN (As := [.int (nI n)]) (rest := []) ⟨hx, hb, hml, hown, hts⟩ (c_X_firstNameOf l (by omega)) ⟨va_cnB 1 hts (gW_in (hd := [_]) (kk_1 cw_X_firstNameOf)) rfl rfl rfl (hK.2.1 _ nw_336 rfl) (hts _ (List.mem_cons_of_mem _ wd_1)) ds_X_firstNameOf ⟨Nat.le_of_ble_eq_true rfl, Nat.le_of_ble_eq_true rfl⟩, (hts _ (List.mem_cons_of_mem _ wd_156)), trivial⟩ (kk_preS hK hP hz hBz) rfl rfl hl.1 rfl (lv_room (Nat.le_of_ble_eq_true rfl)) d_Mea_ofSubject_6 ⟨Nat.le_of_ble_eq_true rfl, Nat.le_of_ble_eq_true rfl⟩)) (fun r2 hr2 => ?_)
  subst hr2
  refine lv_istore hx hb d_Mea_ofSubject_9 hl (by decide) rfl (fun ls hl => ?_)
  have hl : lv_has ls 10 [(4, .int (nI (n / 8 % 5) - nI 1)), (3, .int (nI (n % 8))), (0, .ref a), (1, .int (nI n)), (2, .int (nI y))] := hl
  refine lv_iload_n hx hb d_Mea_ofSubject_11 rfl (lv_at hl 3 rfl) ?_
  refine vp_callSi (va_Run.run (va_runSN (As := [.int (nI n)]) (rest := []) ⟨hx, hb, hml, hown, hts⟩ (c_X_secondNameOf l (by omega)) ⟨va_cnB 1 hts (gW_in (hd := [_]) (kk_1 cw_X_secondNameOf)) rfl rfl rfl (hK.2.1 _ nw_337 rfl) (hts _ (List.mem_cons_of_mem _ wd_1)) ds_X_secondNameOf ⟨Nat.le_of_ble_eq_true rfl, Nat.le_of_ble_eq_true rfl⟩, (hts _ (List.mem_cons_of_mem _ wd_159)), trivial⟩ (kk_preS hK hP hz hBz) rfl rfl hl.1 rfl (lv_room (Nat.le_of_ble_eq_true rfl)) d_Mea_ofSubject_12 ⟨Nat.le_of_ble_eq_true rfl, Nat.le_of_ble_eq_true rfl⟩)) (fun r3 hr3 => ?_)
  subst hr3
  refine lv_istore hx hb d_Mea_ofSubject_15 hl (by decide) rfl (fun ls hl => ?_)
  have hl : lv_has ls 10 [(5, .int (nI (n / 40) - nI 1)), (4, .int (nI (n / 8 % 5) - nI 1)), (3, .int (nI (n % 8))), (0, .ref a), (1, .int (nI n)), (2, .int (nI y))] := hl
  refine lv_iload hx hb d_Mea_ofSubject_17 (lv_at hl 1 rfl) ?_
  refine lv_iconst (v := (-1)) hx hb d_Mea_ofSubject_19 (by decide) ?_
  refine lv_icmp_ne (tgt := 36) hx hb d_Mea_ofSubject_20 (by decide) (fun cc4 => ?_) (fun cc4 => ?_)
  · have cc4 : ¬ n / 8 % 5 = 0 := fun q => cc4 ((kk_nm (by omega)).mpr q)
    refine lv_iload hx hb d_Mea_ofSubject_36 (lv_at hl 0 rfl) ?_
    refine lv_iconst (v := (-1)) hx hb d_Mea_ofSubject_38 (by decide) ?_
    refine lv_icmp_ne (tgt := 55) hx hb d_Mea_ofSubject_39 (by decide) (fun cc5 => ?_) (fun cc5 => ?_)
    · have cc5 : ¬ n / 40 = 0 := fun q => cc5 ((kk_nm (by omega)).mpr q)
      refine lv_sipush (v := nI 1000) hx hb d_Mea_ofSubject_55 (by decide) ?_
      refine lv_istore hx hb d_Mea_ofSubject_58 hl (by decide) rfl (fun ls hl => ?_)
      have hl : lv_has ls 10 [(6, .int (nI 1000)), (5, .int (nI (n / 40) - nI 1)), (4, .int (nI (n / 8 % 5) - nI 1)), (3, .int (nI (n % 8))), (0, .ref a), (1, .int (nI n)), (2, .int (nI y))] := hl
      refine lv_iconst (v := nI 0) hx hb d_Mea_ofSubject_60 (by decide) ?_
      refine lv_istore hx hb d_Mea_ofSubject_61 hl (by decide) rfl (fun ls hl => ?_)
      have hl : lv_has ls 10 [(7, .int (nI 0)), (6, .int (nI 1000)), (5, .int (nI (n / 40) - nI 1)), (4, .int (nI (n / 8 % 5) - nI 1)), (3, .int (nI (n % 8))), (0, .ref a), (1, .int (nI n)), (2, .int (nI y))] := hl
      have lp6 : ∀ (d : Nat) (k : Nat) (ls : Array Slot), d = 8 - k → (k ≤ 8) → lv_has ls 10 [(7, .int (nI k)), (6, .int (nI (dm_mins (fun z => dm_s (g (32 * (n % 8) + 8 * (n / 8 % 5 - 1) + z)) (g (32 * z + 8 * (n / 40 - 1) + y))) k))), (5, .int (nI (n / 40) - nI 1)), (4, .int (nI (n / 8 % 5) - nI 1)), (3, .int (nI (n % 8))), (0, .ref a), (1, .int (nI n)), (2, .int (nI y))] → W p l e (headSpec ws_Mea_ofSubject (kk_rm 1 0 0)).room s m ([.ref a, .int (nI n), .int (nI y)]).toArray below meth c s.heap [] 0 0 (MQ below (vp_Si (fun r => r = nI (dm_ofs g n y))) ([.ref a, .int (nI n), .int (nI y)]).toArray s 0 0 (fun _ => False)) (F0 m 63 ls []) := by
        intro d
        induction d using Nat.strongRecOn with
        | ind d ih =>
          intro k ls hd hk hl
          refine lv_iload hx hb d_Mea_ofSubject_63 (lv_at hl 0 rfl) ?_
          refine lv_bipush (v := nI 8) hx hb d_Mea_ofSubject_65 (by decide) ?_
          refine lv_icmp_ge (tgt := 120) hx hb d_Mea_ofSubject_67 (by decide) (fun cc7 => ?_) (fun cc7 => ?_)
          · have cc7 : 8 ≤ k := (nI_leI (by omega) (by omega)).mp cc7
            refine lv_iload hx hb d_Mea_ofSubject_120 (lv_at hl 1 rfl) ?_
            exact W.iret hx hb hr (fun t ht hW => ⟨_, rfl, congrArg nI (by obtain rfl : k = 8 := (by omega); unfold dm_ofs; rw [if_neg cc4, if_neg cc5]), ht⟩) (fun q hq => by cases hq) d_Mea_ofSubject_122
          · have cc7 : ¬ (8 ≤ k) := fun q => cc7 ((nI_leI (by omega) (by omega)).mpr q)
            refine lv_aload_n hx hb d_Mea_ofSubject_70 rfl (lv_at hl 5 rfl) ?_
            refine mm_get (D := D) (C := n_Mea) (T := T_Mea) (N := 1) (v := .ref ar) hx hb hts lay_Mea hown hK.1 hP h_0 rfl 0 (by decide) (hts _ (List.mem_cons_of_mem _ wd_47)) (fun _ h9 => h9) rfl d_Mea_ofSubject_71 ?_
            refine lv_iload_n hx hb d_Mea_ofSubject_74 rfl (lv_at hl 4 rfl) ?_
            refine lv_iload hx hb d_Mea_ofSubject_75 (lv_at hl 3 rfl) ?_
            refine kk_top (pk_sub (by omega)) ?_
            refine lv_iload hx hb d_Mea_ofSubject_77 (lv_at hl 0 rfl) ?_
            refine vp_callSi (va_Run.run (va_runS (As := [.int (nI (n % 8)), .int (nI (n / 8 % 5 - 1)), .int (nI k)]) (rest := [.ref ar]) ⟨hx, hb, hml, hown, hts⟩ (c_Mea_placeOf l (by omega) (by omega) (by omega)) (va_cwS 3 hts (gW_in (hd := [_, _, _, _]) (kk_4 wd_326 wd_327 wd_3 cw_Mea_placeOf)) rfl rfl rfl ds_Mea_placeOf ⟨Nat.le_of_ble_eq_true rfl, Nat.le_of_ble_eq_true rfl⟩) (kk_preS hK hP hz hBz) rfl rfl hl.1 rfl (lv_room (Nat.le_of_ble_eq_true rfl)) d_Mea_ofSubject_79 ⟨Nat.le_of_ble_eq_true rfl, Nat.le_of_ble_eq_true rfl⟩)) (fun r8 hr8 => ?_)
            subst hr8
            refine mm_iald hx hb hK.1 hP 0 h_1 rfl (32 * (n % 8) + 8 * (n / 8 % 5 - 1) + k) rfl (by omega) (by decide) d_Mea_ofSubject_82 ?_
            refine W.eq (g2 := F0 m 83 ls [.int (nI (g (32 * (n % 8) + 8 * (n / 8 % 5 - 1) + k)))]) rfl ?_
            refine lv_istore hx hb d_Mea_ofSubject_83 hl (by decide) rfl (fun ls hl => ?_)
            have hl : lv_has ls 10 [(8, .int (nI (g (32 * (n % 8) + 8 * (n / 8 % 5 - 1) + k)))), (7, .int (nI k)), (6, .int (nI (dm_mins (fun z => dm_s (g (32 * (n % 8) + 8 * (n / 8 % 5 - 1) + z)) (g (32 * z + 8 * (n / 40 - 1) + y))) k))), (5, .int (nI (n / 40) - nI 1)), (4, .int (nI (n / 8 % 5) - nI 1)), (3, .int (nI (n % 8))), (0, .ref a), (1, .int (nI n)), (2, .int (nI y))] := hl
            refine lv_aload_n hx hb d_Mea_ofSubject_85 rfl (lv_at hl 6 rfl) ?_
            refine mm_get (D := D) (C := n_Mea) (T := T_Mea) (N := 1) (v := .ref ar) hx hb hts lay_Mea hown hK.1 hP h_0 rfl 0 (by decide) (hts _ (List.mem_cons_of_mem _ wd_47)) (fun _ h9 => h9) rfl d_Mea_ofSubject_86 ?_
            refine lv_iload hx hb d_Mea_ofSubject_89 (lv_at hl 1 rfl) ?_
            refine lv_iload hx hb d_Mea_ofSubject_91 (lv_at hl 3 rfl) ?_
            refine kk_top (pk_sub (by omega)) ?_
            refine lv_iload_n hx hb d_Mea_ofSubject_93 rfl (lv_at hl 8 rfl) ?_
            refine vp_callSi (va_Run.run (va_runS (As := [.int (nI k), .int (nI (n / 40 - 1)), .int (nI y)]) (rest := [.ref ar]) ⟨hx, hb, hml, hown, hts⟩ (c_Mea_placeOf l (by omega) (by omega) (by omega)) (va_cwS 3 hts (gW_in (hd := [_, _, _, _]) (kk_4 wd_326 wd_327 wd_3 cw_Mea_placeOf)) rfl rfl rfl ds_Mea_placeOf ⟨Nat.le_of_ble_eq_true rfl, Nat.le_of_ble_eq_true rfl⟩) (kk_preS hK hP hz hBz) rfl rfl hl.1 rfl (lv_room (Nat.le_of_ble_eq_true rfl)) d_Mea_ofSubject_94 ⟨Nat.le_of_ble_eq_true rfl, Nat.le_of_ble_eq_true rfl⟩)) (fun r9 hr9 => ?_)
            subst hr9
            refine mm_iald hx hb hK.1 hP 0 h_1 rfl (32 * k + 8 * (n / 40 - 1) + y) rfl (by omega) (by decide) d_Mea_ofSubject_97 ?_
            refine W.eq (g2 := F0 m 98 ls [.int (nI (g (32 * k + 8 * (n / 40 - 1) + y)))]) rfl ?_
            refine lv_istore hx hb d_Mea_ofSubject_98 hl (by decide) rfl (fun ls hl => ?_)
            have hl : lv_has ls 10 [(9, .int (nI (g (32 * k + 8 * (n / 40 - 1) + y)))), (8, .int (nI (g (32 * (n % 8) + 8 * (n / 8 % 5 - 1) + k)))), (7, .int (nI k)), (6, .int (nI (dm_mins (fun z => dm_s (g (32 * (n % 8) + 8 * (n / 8 % 5 - 1) + z)) (g (32 * z + 8 * (n / 40 - 1) + y))) k))), (5, .int (nI (n / 40) - nI 1)), (4, .int (nI (n / 8 % 5) - nI 1)), (3, .int (nI (n % 8))), (0, .ref a), (1, .int (nI n)), (2, .int (nI y))] := hl
            refine lv_iload hx hb d_Mea_ofSubject_100 (lv_at hl 3 rfl) ?_
            refine lv_iload hx hb d_Mea_ofSubject_102 (lv_at hl 1 rfl) ?_
            refine lv_iload hx hb d_Mea_ofSubject_104 (lv_at hl 0 rfl) ?_
            have hq1 := hg (32 * (n % 8) + 8 * (n / 8 % 5 - 1) + k)
            have hq2 := hg (32 * k + 8 * (n / 40 - 1) + y)
            refine vp_callSi (va_Run.run (va_runSN (As := [.int (nI (g (32 * (n % 8) + 8 * (n / 8 % 5 - 1) + k))), .int (nI (g (32 * k + 8 * (n / 40 - 1) + y)))]) (rest := [.int (nI (dm_mins (fun z => dm_s (g (32 * (n % 8) + 8 * (n / 8 % 5 - 1) + z)) (g (32 * z + 8 * (n / 40 - 1) + y))) k))]) ⟨hx, hb, hml, hown, hts⟩ (c_X_sumOf l (by omega) (by omega)) ⟨va_cnB 2 hts (gW_in (hd := [_]) (kk_1 cw_X_sumOf)) rfl rfl rfl (hK.2.1 _ nw_338 rfl) (hts _ (List.mem_cons_of_mem _ wd_1)) ds_X_sumOf ⟨Nat.le_of_ble_eq_true rfl, Nat.le_of_ble_eq_true rfl⟩, (hts _ (List.mem_cons_of_mem _ wd_339)), trivial⟩ (kk_preS hK hP hz hBz) rfl rfl hl.1 rfl (lv_room (Nat.le_of_ble_eq_true rfl)) d_Mea_ofSubject_106 ⟨Nat.le_of_ble_eq_true rfl, Nat.le_of_ble_eq_true rfl⟩)) (fun r10 hr10 => ?_)
            subst hr10
            refine va_mmin hx hb (by rw [hml]; exact hl.1.symm) hown (hts _ (List.mem_cons_of_mem _ wd_341)) (hts _ (List.mem_cons_of_mem _ wd_342)) (hts _ (List.mem_cons_of_mem _ wd_13)) (hts _ (List.mem_cons_of_mem _ wd_math_min)) (Nat.le_of_ble_eq_true rfl) (Nat.le_of_ble_eq_true rfl) (Nat.zero_le _) (Nat.zero_le _) d_Mea_ofSubject_109 ?_
            refine kk_top (kk_min (Nat.lt_of_le_of_lt (dm_mins_le _ _) (by decide)) (Nat.lt_of_le_of_lt (dm_s_le _ _) (by decide))) ?_
            refine lv_istore hx hb d_Mea_ofSubject_112 hl (by decide) rfl (fun ls hl => ?_)
            have hl : lv_has ls 10 [(6, .int (nI (dm_mins (fun z => dm_s (g (32 * (n % 8) + 8 * (n / 8 % 5 - 1) + z)) (g (32 * z + 8 * (n / 40 - 1) + y))) (k + 1)))), (9, .int (nI (g (32 * k + 8 * (n / 40 - 1) + y)))), (8, .int (nI (g (32 * (n % 8) + 8 * (n / 8 % 5 - 1) + k)))), (7, .int (nI k)), (5, .int (nI (n / 40) - nI 1)), (4, .int (nI (n / 8 % 5) - nI 1)), (3, .int (nI (n % 8))), (0, .ref a), (1, .int (nI n)), (2, .int (nI y))] := hl
            refine lv_iinc (k := 3) (v := nI (k + 1)) hx hb d_Mea_ofSubject_114 hl rfl (kk_inc _) (by decide) rfl (fun ls hl => ?_)
            have hl : lv_has ls 10 [(7, .int (nI (k + 1))), (6, .int (nI (dm_mins (fun z => dm_s (g (32 * (n % 8) + 8 * (n / 8 % 5 - 1) + z)) (g (32 * z + 8 * (n / 40 - 1) + y))) (k + 1)))), (9, .int (nI (g (32 * k + 8 * (n / 40 - 1) + y)))), (8, .int (nI (g (32 * (n % 8) + 8 * (n / 8 % 5 - 1) + k)))), (5, .int (nI (n / 40) - nI 1)), (4, .int (nI (n / 8 % 5) - nI 1)), (3, .int (nI (n % 8))), (0, .ref a), (1, .int (nI n)), (2, .int (nI y))] := hl
            refine lv_goto (tgt := 63) hx hb d_Mea_ofSubject_117 (by decide) ?_
            exact ih _ (by omega) (k + 1) ls rfl (by omega) (lv_sub hl [0, 1, 4, 5, 6, 7, 8, 9] rfl)
      exact lp6 _ 0 _ rfl (by omega) (lv_sub hl [0, 1, 2, 3, 4, 5, 6, 7] rfl)
    · have cc5 : n / 40 = 0 := (kk_nm (by omega)).mp cc5
      refine lv_aload_n hx hb d_Mea_ofSubject_42 rfl (lv_at hl 3 rfl) ?_
      refine mm_get (D := D) (C := n_Mea) (T := T_Mea) (N := 1) (v := .ref ar) hx hb hts lay_Mea hown hK.1 hP h_0 rfl 0 (by decide) (hts _ (List.mem_cons_of_mem _ wd_47)) (fun _ h9 => h9) rfl d_Mea_ofSubject_43 ?_
      refine lv_iload_n hx hb d_Mea_ofSubject_46 rfl (lv_at hl 2 rfl) ?_
      refine lv_iload hx hb d_Mea_ofSubject_47 (lv_at hl 1 rfl) ?_
      refine kk_top (pk_sub (by omega)) ?_
      refine lv_iload_n hx hb d_Mea_ofSubject_49 rfl (lv_at hl 5 rfl) ?_
      refine vp_callSi (va_Run.run (va_runS (As := [.int (nI (n % 8)), .int (nI (n / 8 % 5 - 1)), .int (nI y)]) (rest := [.ref ar]) ⟨hx, hb, hml, hown, hts⟩ (c_Mea_placeOf l (by omega) (by omega) (by omega)) (va_cwS 3 hts (gW_in (hd := [_, _, _, _]) (kk_4 wd_326 wd_327 wd_3 cw_Mea_placeOf)) rfl rfl rfl ds_Mea_placeOf ⟨Nat.le_of_ble_eq_true rfl, Nat.le_of_ble_eq_true rfl⟩) (kk_preS hK hP hz hBz) rfl rfl hl.1 rfl (lv_room (Nat.le_of_ble_eq_true rfl)) d_Mea_ofSubject_50 ⟨Nat.le_of_ble_eq_true rfl, Nat.le_of_ble_eq_true rfl⟩)) (fun r11 hr11 => ?_)
      subst hr11
      refine mm_iald hx hb hK.1 hP 0 h_1 rfl (32 * (n % 8) + 8 * (n / 8 % 5 - 1) + y) rfl (by omega) (by decide) d_Mea_ofSubject_53 ?_
      refine W.eq (g2 := F0 m 54 ls [.int (nI (g (32 * (n % 8) + 8 * (n / 8 % 5 - 1) + y)))]) rfl ?_
      exact W.iret hx hb hr (fun t ht hW => ⟨_, rfl, congrArg nI (by unfold dm_ofs; rw [if_neg cc4, if_pos cc5]), ht⟩) (fun q hq => by cases hq) d_Mea_ofSubject_54
  · have cc4 : n / 8 % 5 = 0 := (kk_nm (by omega)).mp cc4
    refine lv_iload_n hx hb d_Mea_ofSubject_23 rfl (lv_at hl 2 rfl) ?_
    refine lv_iload_n hx hb d_Mea_ofSubject_24 rfl (lv_at hl 5 rfl) ?_
    refine lv_icmp_ne (tgt := 32) hx hb d_Mea_ofSubject_25 (by decide) (fun cc12 => ?_) (fun cc12 => ?_)
    · have cc12 : ¬ (n % 8 = y) := fun q => cc12 ((nI_eq (by omega) (by omega)).mpr q)
      refine lv_sipush (v := nI 1000) hx hb d_Mea_ofSubject_32 (by decide) ?_
      exact W.iret hx hb hr (fun t ht hW => ⟨_, rfl, congrArg nI (by unfold dm_ofs; rw [if_pos cc4, if_neg cc12]), ht⟩) (fun q hq => by cases hq) d_Mea_ofSubject_35
    · have cc12 : n % 8 = y := (nI_eq (by omega) (by omega)).mp cc12
      refine lv_iconst (v := nI 0) hx hb d_Mea_ofSubject_28 (by decide) ?_
      refine lv_goto (tgt := 35) hx hb d_Mea_ofSubject_29 (by decide) ?_
      exact W.iret hx hb hr (fun t ht hW => ⟨_, rfl, congrArg nI (by unfold dm_ofs; rw [if_pos cc4, if_pos cc12]), ht⟩) (fun q hq => by cases hq) d_Mea_ofSubject_35
theorem d_Arr_fill_0 : decode k_Arr_fill 0 = .ok (.iconst 0, 1) := by decide +kernel
theorem d_Arr_fill_1 : decode k_Arr_fill 1 = .ok (.istore_n 2, 1) := by decide +kernel
theorem d_Arr_fill_2 : decode k_Arr_fill 2 = .ok (.aload_n 0, 1) := by decide +kernel
theorem d_Arr_fill_3 : decode k_Arr_fill 3 = .ok (.arraylength, 1) := by decide +kernel
theorem d_Arr_fill_4 : decode k_Arr_fill 4 = .ok (.istore_n 3, 1) := by decide +kernel
theorem d_Arr_fill_5 : decode k_Arr_fill 5 = .ok (.iload_n 2, 1) := by decide +kernel
theorem d_Arr_fill_6 : decode k_Arr_fill 6 = .ok (.iload_n 3, 1) := by decide +kernel
theorem d_Arr_fill_7 : decode k_Arr_fill 7 = .ok (.if_icmp .ge 13, 3) := by decide +kernel
theorem d_Arr_fill_10 : decode k_Arr_fill 10 = .ok (.aload_n 0, 1) := by decide +kernel
theorem d_Arr_fill_11 : decode k_Arr_fill 11 = .ok (.iload_n 2, 1) := by decide +kernel
theorem d_Arr_fill_12 : decode k_Arr_fill 12 = .ok (.iload_n 1, 1) := by decide +kernel
theorem d_Arr_fill_13 : decode k_Arr_fill 13 = .ok (.iastore, 1) := by decide +kernel
theorem d_Arr_fill_14 : decode k_Arr_fill 14 = .ok (.iinc 2 1, 3) := by decide +kernel
theorem d_Arr_fill_17 : decode k_Arr_fill 17 = .ok (.goto (-12), 3) := by decide +kernel
theorem d_Arr_fill_20 : decode k_Arr_fill 20 = .ok (.return_, 1) := by decide +kernel
set_option maxHeartbeats 4000000 in
set_option maxRecDepth 100000 in
theorem c_Arr_fill (l : Launch) {B : Nat} {D : va_G} {cI cZ cQ : ClassId} {w : mm_M} {sz : Nat} {a n x : Nat} {g : Nat → Nat} (h_0 : w a = some (.inl (cI, n, .inl (fun i => nI (g i))))) (hn : n < 2 ^ 30) : Met l y_Arr_fill ws_Arr_fill (kk_rm 0 0 0) (kk_Pc B D cI cZ cQ [.ref a, .int (nI x)] w sz) (kk_Qv B D (fun w' sz' => w' = mm_up w a (.inl (cI, n, .inl (fun i => nI ((fun _ => x) i)))) ∧ sz' = sz)) 0 0 (fun q => B ≤ q) := by
  refine Met.ofW (cc := k_Arr_fill) (maxL := 4) (ret := none) (by decide) rfl ?_
  intro p e s m args below meth c s₁ BB hml hv
  obtain ⟨rfl, hK, hP, hz, hBz⟩ := hv
  have hx := BB.exec
  have hb := BB.bytes
  have hr := BB.returns
  have hts := atoms_spec (ws := ws_Arr_fill) BB.pre
  have hown : s.vm.findClass "java/util/Arrays" = some m.cls := findClass_of_methodNamed BB.named
  have hlocks := BB.notSynchronized
  have hS : mm_S B s.heap s.heap [] := va_S.rf
  have hl := lv_entry ([.ref a, .int (nI x)]) (n := 4) (Nat.le_of_ble_eq_true rfl)
  rw [lg_entry_eq]
  generalize (lg_sl ([.ref a, .int (nI x)]) ++ List.replicate (4 - (lg_sl ([.ref a, .int (nI x)])).length) Slot.unset).toArray = ls at hl ⊢
  have hl : lv_has ls 4 [(0, .ref a), (1, .int (nI x))] := hl
  refine lv_iconst (v := nI 0) hx hb d_Arr_fill_0 (by decide) ?_
  refine lv_istore_n hx hb d_Arr_fill_1 rfl hl (by decide) rfl (fun ls hl => ?_)
  have hl : lv_has ls 4 [(2, .int (nI 0)), (0, .ref a), (1, .int (nI x))] := hl
  refine lv_aload_n hx hb d_Arr_fill_2 rfl (lv_at hl 1 rfl) ?_
  refine mm_alen hx hb hK.1 hP 0 h_0 rfl d_Arr_fill_3 ?_
  refine lv_istore_n hx hb d_Arr_fill_4 rfl hl (by decide) rfl (fun ls hl => ?_)
  have hl : lv_has ls 4 [(3, .int (nI n)), (2, .int (nI 0)), (0, .ref a), (1, .int (nI x))] := hl
  have lp1 : ∀ (d : Nat) (k : Nat) (w2 : mm_M) (H : Heap) (locs : List Loc) (ls : Array Slot), d = n - k → (mm_P B D kc w2 H) → (H.size = sz) → (mm_S B s.heap H locs) → (∀ j, j ≠ a → w2 j = w j) → (w2 a = some (.inl (cI, n, .inl (fun i => nI ((fun j => if j < k then x else g j) i))))) → (k ≤ n) → lv_has ls 4 [(3, .int (nI n)), (2, .int (nI k)), (0, .ref a), (1, .int (nI x))] → W p l e (headSpec ws_Arr_fill (kk_rm 0 0 0)).room s m ([.ref a, .int (nI x)]).toArray below meth c H locs 0 0 (MQ below (kk_Qv B D (fun w' sz' => w' = mm_up w a (.inl (cI, n, .inl (fun i => nI ((fun _ => x) i)))) ∧ sz' = sz)) ([.ref a, .int (nI x)]).toArray s 0 0 (fun q => B ≤ q)) (F0 m 5 ls []) := by
    intro d
    induction d using Nat.strongRecOn with
    | ind d ih =>
      intro k w2 H locs ls hd hP hz hS frw2 fw2_0 hk hl
      refine lv_iload_n hx hb d_Arr_fill_5 rfl (lv_at hl 1 rfl) ?_
      refine lv_iload_n hx hb d_Arr_fill_6 rfl (lv_at hl 0 rfl) ?_
      refine lv_icmp_ge (tgt := 20) hx hb d_Arr_fill_7 (by decide) (fun cc3 => ?_) (fun cc3 => ?_)
      · have cc3 : n ≤ k := (nI_leI (by omega) (by omega)).mp cc3
        have hP := hP.norm (g := fun i => nI ((fun _ => x) i)) fw2_0 (fun j hj => by show nI (if j < k then x else g j) = nI x; rw [if_pos (by omega)])
        obtain ⟨w4, hw4⟩ : ∃ z : mm_M, z = mm_up w2 a (.inl (cI, n, .inl (fun i => nI ((fun _ => x) i)))) := ⟨_, rfl⟩
        have hP : mm_P B D kc w4 H := by rw [hw4]; exact hP
        have fr4 : ∀ j, j ≠ a → w4 j = w2 j := fun j h9 => by rw [hw4]; exact mm_un h9
        have fa4 : w4 a = some (.inl (cI, n, .inl (fun i => nI ((fun _ => x) i)))) := by rw [hw4]; exact mm_us _ _ _
        exact W.vret hx hb hr (fun t ht hW => ⟨⟨(w4, sz), rfl, ⟨mm_e1 fa4 (fun j g0 => (fr4 j g0).trans (frw2 j g0)), rfl⟩, by rw [ht]; exact hP, by rw [ht]; exact hz⟩, hS.F ht⟩) hS.2.2 d_Arr_fill_20
      · have cc3 : ¬ (n ≤ k) := fun q => cc3 ((nI_leI (by omega) (by omega)).mpr q)
        refine lv_aload_n hx hb d_Arr_fill_10 rfl (lv_at hl 2 rfl) ?_
        refine lv_iload_n hx hb d_Arr_fill_11 rfl (lv_at hl 1 rfl) ?_
        refine lv_iload_n hx hb d_Arr_fill_12 rfl (lv_at hl 3 rfl) ?_
        refine mm_iast hx hb hK.1 hP hS 0 fw2_0 rfl k rfl (by omega) (by omega) d_Arr_fill_13 (fun H locs hP hz1 hS => ?_)
        rw [show upd (fun i => nI ((fun j => if j < k then x else g j) i)) k (nI x) = fun i => nI ((va_up (fun j => if j < k then x else g j) k x) i) from kk_upn _ _ _] at hP
        have hz : H.size = sz := hz1.trans hz
        obtain ⟨w5, hw5⟩ : ∃ z : mm_M, z = mm_up w2 a (.inl (cI, n, .inl (fun i => nI ((va_up (fun j => if j < k then x else g j) k x) i)))) := ⟨_, rfl⟩
        have hP : mm_P B D kc w5 H := by rw [hw5]; exact hP
        have fr5 : ∀ j, j ≠ a → w5 j = w2 j := fun j h9 => by rw [hw5]; exact mm_un h9
        have fa5 : w5 a = some (.inl (cI, n, .inl (fun i => nI ((va_up (fun j => if j < k then x else g j) k x) i)))) := by rw [hw5]; exact mm_us _ _ _
        refine lv_iinc (k := 1) (v := nI (k + 1)) hx hb d_Arr_fill_14 hl rfl (kk_inc _) (by decide) rfl (fun ls hl => ?_)
        have hl : lv_has ls 4 [(2, .int (nI (k + 1))), (3, .int (nI n)), (0, .ref a), (1, .int (nI x))] := hl
        refine lv_goto (tgt := 5) hx hb d_Arr_fill_17 (by decide) ?_
        exact ih _ (by omega) (k + 1) w5 _ _ ls rfl hP hz hS (fun j g0 => (fr5 j g0).trans (frw2 j g0)) (by rw [← ru_fill]; exact fa5) (by omega) (lv_sub hl [1, 0, 2, 3] rfl)
  exact lp1 _ 0 w _ _ _ rfl hP hz hS (fun _ _ => rfl) h_0 (by omega) (lv_sub hl [0, 1, 2, 3] rfl)
theorem d_Mea_improveBy_0 : decode k_Mea_improveBy 0 = .ok (.iconst 0, 1) := by decide +kernel
theorem d_Mea_improveBy_1 : decode k_Mea_improveBy 1 = .ok (.istore_n 2, 1) := by decide +kernel
theorem d_Mea_improveBy_2 : decode k_Mea_improveBy 2 = .ok (.iconst 0, 1) := by decide +kernel
theorem d_Mea_improveBy_3 : decode k_Mea_improveBy 3 = .ok (.istore_n 3, 1) := by decide +kernel
theorem d_Mea_improveBy_4 : decode k_Mea_improveBy 4 = .ok (.iload_n 3, 1) := by decide +kernel
theorem d_Mea_improveBy_5 : decode k_Mea_improveBy 5 = .ok (.bipush 8, 2) := by decide +kernel
theorem d_Mea_improveBy_7 : decode k_Mea_improveBy 7 = .ok (.if_icmp .ge 61, 3) := by decide +kernel
theorem d_Mea_improveBy_10 : decode k_Mea_improveBy 10 = .ok (.aload_n 1, 1) := by decide +kernel
theorem d_Mea_improveBy_11 : decode k_Mea_improveBy 11 = .ok (.getfield 51, 3) := by decide +kernel
theorem d_Mea_improveBy_14 : decode k_Mea_improveBy 14 = .ok (.aload_n 1, 1) := by decide +kernel
theorem d_Mea_improveBy_15 : decode k_Mea_improveBy 15 = .ok (.getfield 54, 3) := by decide +kernel
theorem d_Mea_improveBy_18 : decode k_Mea_improveBy 18 = .ok (.iload_n 3, 1) := by decide +kernel
theorem d_Mea_improveBy_19 : decode k_Mea_improveBy 19 = .ok (.invokestatic 57, 3) := by decide +kernel
theorem d_Mea_improveBy_22 : decode k_Mea_improveBy 22 = .ok (.istore 4, 2) := by decide +kernel
theorem d_Mea_improveBy_24 : decode k_Mea_improveBy 24 = .ok (.iconst 1, 1) := by decide +kernel
theorem d_Mea_improveBy_25 : decode k_Mea_improveBy 25 = .ok (.aload_n 0, 1) := by decide +kernel
theorem d_Mea_improveBy_26 : decode k_Mea_improveBy 26 = .ok (.aload_n 1, 1) := by decide +kernel
theorem d_Mea_improveBy_27 : decode k_Mea_improveBy 27 = .ok (.getfield 61, 3) := by decide +kernel
theorem d_Mea_improveBy_30 : decode k_Mea_improveBy 30 = .ok (.iload_n 3, 1) := by decide +kernel
theorem d_Mea_improveBy_31 : decode k_Mea_improveBy 31 = .ok (.invokevirtual 64, 3) := by decide +kernel
theorem d_Mea_improveBy_34 : decode k_Mea_improveBy 34 = .ok (.invokestatic 68, 3) := by decide +kernel
theorem d_Mea_improveBy_37 : decode k_Mea_improveBy 37 = .ok (.istore 5, 2) := by decide +kernel
theorem d_Mea_improveBy_39 : decode k_Mea_improveBy 39 = .ok (.iload 5, 2) := by decide +kernel
theorem d_Mea_improveBy_41 : decode k_Mea_improveBy 41 = .ok (.aload_n 0, 1) := by decide +kernel
theorem d_Mea_improveBy_42 : decode k_Mea_improveBy 42 = .ok (.getfield 9, 3) := by decide +kernel
theorem d_Mea_improveBy_45 : decode k_Mea_improveBy 45 = .ok (.iload 4, 2) := by decide +kernel
theorem d_Mea_improveBy_47 : decode k_Mea_improveBy 47 = .ok (.iaload, 1) := by decide +kernel
theorem d_Mea_improveBy_48 : decode k_Mea_improveBy 48 = .ok (.if_icmp .ge 14, 3) := by decide +kernel
theorem d_Mea_improveBy_51 : decode k_Mea_improveBy 51 = .ok (.aload_n 0, 1) := by decide +kernel
theorem d_Mea_improveBy_52 : decode k_Mea_improveBy 52 = .ok (.getfield 9, 3) := by decide +kernel
theorem d_Mea_improveBy_55 : decode k_Mea_improveBy 55 = .ok (.iload 4, 2) := by decide +kernel
theorem d_Mea_improveBy_57 : decode k_Mea_improveBy 57 = .ok (.iload 5, 2) := by decide +kernel
theorem d_Mea_improveBy_59 : decode k_Mea_improveBy 59 = .ok (.iastore, 1) := by decide +kernel
theorem d_Mea_improveBy_60 : decode k_Mea_improveBy 60 = .ok (.iconst 1, 1) := by decide +kernel
theorem d_Mea_improveBy_61 : decode k_Mea_improveBy 61 = .ok (.istore_n 2, 1) := by decide +kernel
theorem d_Mea_improveBy_62 : decode k_Mea_improveBy 62 = .ok (.iinc 3 1, 3) := by decide +kernel
theorem d_Mea_improveBy_65 : decode k_Mea_improveBy 65 = .ok (.goto (-61), 3) := by decide +kernel
theorem d_Mea_improveBy_68 : decode k_Mea_improveBy 68 = .ok (.iload_n 2, 1) := by decide +kernel
theorem d_Mea_improveBy_69 : decode k_Mea_improveBy 69 = .ok (.ireturn, 1) := by decide +kernel
set_option maxHeartbeats 4000000 in
set_option maxRecDepth 100000 in
theorem c_Mea_improveBy (l : Launch) {B : Nat} {D : va_G} {cI cZ cQ : ClassId} {w : mm_M} {sz : Nat} {a ar q tm iss gn nm su : Nat} {g : Nat → Nat} (h_0 : w a = some (.inr (2, [.ref ar]))) (h_1 : w ar = some (.inl (cI, 256, .inl (fun i => nI (g i))))) (h_2 : w q = some (.inr (7, [.int (nI iss), .ref tm, .int (nI gn), .int (nI nm), .int (nI su)]))) (his : iss ≤ 7) (hnm : nm ≤ 3) (hsu : su < 200) (hg : ∀ j, g j ≤ 1000) (hne : ar ≠ a) (hne2 : ar ≠ q) : Met l y_Mea_improveBy ws_Mea_improveBy (kk_rm 2 0 0) (kk_Pc B D cI cZ cQ [.ref a, .ref q] w sz) (kk_Qi B D (fun r w' sz' => r = nI (if dm_flag (dm_upto (ru_n iss nm su) 8) g = true then 1 else 0) ∧ w' = mm_up w ar (.inl (cI, 256, .inl (fun i => nI ((dm_pass (dm_upto (ru_n iss nm su) 8) g) i)))) ∧ sz' = sz)) 0 0 (fun q => B ≤ q) := by
  refine Met.ofW (cc := k_Mea_improveBy) (maxL := 6) (ret := (some .boolean)) (by decide) rfl ?_
  intro p e s m args below meth c s₁ BB hml hv
  obtain ⟨rfl, hK, hP, hz, hBz⟩ := hv
  have hx := BB.exec
  have hb := BB.bytes
  have hr := BB.returns
  have hts := atoms_spec (ws := ws_Mea_improveBy) BB.pre
  have hown : s.vm.findClass "DelegationClosure$Meanings" = some m.cls := findClass_of_methodNamed BB.named
  have hlocks := BB.notSynchronized
  have hS : mm_S B s.heap s.heap [] := va_S.rf
  have hl := lv_entry ([.ref a, .ref q]) (n := 6) (Nat.le_of_ble_eq_true rfl)
  rw [lg_entry_eq]
  generalize (lg_sl ([.ref a, .ref q]) ++ List.replicate (6 - (lg_sl ([.ref a, .ref q])).length) Slot.unset).toArray = ls at hl ⊢
  have hl : lv_has ls 6 [(0, .ref a), (1, .ref q)] := hl
  refine lv_iconst (v := nI 0) hx hb d_Mea_improveBy_0 (by decide) ?_
  refine lv_istore_n hx hb d_Mea_improveBy_1 rfl hl (by decide) rfl (fun ls hl => ?_)
  have hl : lv_has ls 6 [(2, .int (nI 0)), (0, .ref a), (1, .ref q)] := hl
  refine lv_iconst (v := nI 0) hx hb d_Mea_improveBy_2 (by decide) ?_
  refine lv_istore_n hx hb d_Mea_improveBy_3 rfl hl (by decide) rfl (fun ls hl => ?_)
  have hl : lv_has ls 6 [(3, .int (nI 0)), (2, .int (nI 0)), (0, .ref a), (1, .ref q)] := hl
  have lp1 : ∀ (d : Nat) (k : Nat) (w2 : mm_M) (H : Heap) (locs : List Loc) (ls : Array Slot), d = 8 - k → (mm_P B D kc w2 H) → (H.size = sz) → (mm_S B s.heap H locs) → (∀ j, j ≠ ar → w2 j = w j) → (w2 ar = some (.inl (cI, 256, .inl (fun i => nI ((dm_pass (dm_upto (ru_n iss nm su) k) g) i))))) → (k ≤ 8) → lv_has ls 6 [(3, .int (nI k)), (2, .int (nI (if dm_flag (dm_upto (ru_n iss nm su) k) g = true then 1 else 0))), (0, .ref a), (1, .ref q)] → W p l e (headSpec ws_Mea_improveBy (kk_rm 2 0 0)).room s m ([.ref a, .ref q]).toArray below meth c H locs 0 0 (MQ below (kk_Qi B D (fun r w' sz' => r = nI (if dm_flag (dm_upto (ru_n iss nm su) 8) g = true then 1 else 0) ∧ w' = mm_up w ar (.inl (cI, 256, .inl (fun i => nI ((dm_pass (dm_upto (ru_n iss nm su) 8) g) i)))) ∧ sz' = sz)) ([.ref a, .ref q]).toArray s 0 0 (fun q => B ≤ q)) (F0 m 4 ls []) := by
    intro d
    induction d using Nat.strongRecOn with
    | ind d ih =>
      intro k w2 H locs ls hd hP hz hS frw2 fw2_0 hk hl
      have hgk := dm_pass_1000 (R := dm_upto (ru_n iss nm su) k) hg
      refine lv_iload_n hx hb d_Mea_improveBy_4 rfl (lv_at hl 0 rfl) ?_
      refine lv_bipush (v := nI 8) hx hb d_Mea_improveBy_5 (by decide) ?_
      refine lv_icmp_ge (tgt := 68) hx hb d_Mea_improveBy_7 (by decide) (fun cc3 => ?_) (fun cc3 => ?_)
      · have cc3 : 8 ≤ k := (nI_leI (by omega) (by omega)).mp cc3
        obtain rfl : k = 8 := by omega
        refine lv_iload_n hx hb d_Mea_improveBy_68 rfl (lv_at hl 1 rfl) ?_
        exact W.zret hx hb hr (kk_nar _) (fun t ht hW => ⟨⟨_, (w2, sz), rfl, ⟨rfl, mm_e1 fw2_0 (fun j g0 => frw2 j g0), rfl⟩, by rw [ht]; exact hP, by rw [ht]; exact hz⟩, hS.F ht⟩) hS.2.2 d_Mea_improveBy_69
      · have cc3 : ¬ (8 ≤ k) := fun q => cc3 ((nI_leI (by omega) (by omega)).mpr q)
        refine lv_aload_n hx hb d_Mea_improveBy_10 rfl (lv_at hl 3 rfl) ?_
        have f4 := (frw2 _ hne2.symm).trans (h_2)
        refine mm_get (D := D) (C := n_Nam) (T := T_Nam) (N := 5) (v := .int (nI iss)) hx hb hts lay_Nam hown hK.1 hP f4 rfl 0 (by decide) (hts _ (List.mem_cons_of_mem _ wd_183)) (fun x9 h9 => u_same (hts _ (List.mem_cons_of_mem _ wd_184)) x9 h9) rfl d_Mea_improveBy_11 ?_
        refine lv_aload_n hx hb d_Mea_improveBy_14 rfl (lv_at hl 3 rfl) ?_
        refine mm_get (D := D) (C := n_Nam) (T := T_Nam) (N := 5) (v := .int (nI nm)) hx hb hts lay_Nam hown hK.1 hP f4 rfl 3 (by decide) (hts _ (List.mem_cons_of_mem _ wd_177)) (fun _ h9 => h9) rfl d_Mea_improveBy_15 ?_
        refine lv_iload_n hx hb d_Mea_improveBy_18 rfl (lv_at hl 0 rfl) ?_
        refine vp_callSi (va_Run.run (va_runS (As := [.int (nI iss), .int (nI nm), .int (nI k)]) (rest := []) ⟨hx, hb, hml, hown, hts⟩ (c_Mea_placeOf l (by omega) (by omega) (by omega)) (va_cwS 3 hts (gW_in (hd := [_, _, _, _]) (kk_4 wd_326 wd_327 wd_3 cw_Mea_placeOf)) rfl rfl rfl ds_Mea_placeOf ⟨Nat.le_of_ble_eq_true rfl, Nat.le_of_ble_eq_true rfl⟩) (kk_preS hK hP hz hBz) rfl rfl hl.1 rfl (lv_room (Nat.le_of_ble_eq_true rfl)) d_Mea_improveBy_19 ⟨Nat.le_of_ble_eq_true rfl, Nat.le_of_ble_eq_true rfl⟩)) (fun r5 hr5 => ?_)
        subst hr5
        refine lv_istore hx hb d_Mea_improveBy_22 hl (by decide) rfl (fun ls hl => ?_)
        have hl : lv_has ls 6 [(4, .int (nI (32 * iss + 8 * nm + k))), (3, .int (nI k)), (2, .int (nI (if dm_flag (dm_upto (ru_n iss nm su) k) g = true then 1 else 0))), (0, .ref a), (1, .ref q)] := hl
        refine lv_iconst (v := nI 1) hx hb d_Mea_improveBy_24 (by decide) ?_
        refine lv_aload_n hx hb d_Mea_improveBy_25 rfl (lv_at hl 3 rfl) ?_
        refine lv_aload_n hx hb d_Mea_improveBy_26 rfl (lv_at hl 4 rfl) ?_
        refine mm_get (D := D) (C := n_Nam) (T := T_Nam) (N := 5) (v := .int (nI su)) hx hb hts lay_Nam hown hK.1 hP f4 rfl 4 (by decide) (hts _ (List.mem_cons_of_mem _ wd_180)) (fun _ h9 => h9) rfl d_Mea_improveBy_27 ?_
        refine lv_iload_n hx hb d_Mea_improveBy_30 rfl (lv_at hl 1 rfl) ?_
        have f6 := (frw2 _ hne.symm).trans (h_0)
        refine vp_callSi (va_Run.run (va_runV (As := [.int (nI su), .int (nI k)]) (rest := [.int (nI 1)]) ⟨hx, hb, hml, hown, hts⟩ (c_Mea_ofSubject l f6 fw2_0 (by omega) (by omega) hgk) (cwV 2 hts (gW_in (hd := [_, _, _, _, _]) (kk_5 wd_329 wd_330 wd_331 wd_3 cw_Mea_ofSubject)) rfl rfl rfl ⟨rfl, ds_Mea_ofSubject⟩ ⟨Nat.le_of_ble_eq_true rfl, Nat.le_of_ble_eq_true rfl⟩) (kk_preV hK hP hz hBz f6 rfl) rfl rfl hl.1 rfl (lv_room (Nat.le_of_ble_eq_true rfl)) d_Mea_improveBy_31 ⟨Nat.le_of_ble_eq_true rfl, Nat.le_of_ble_eq_true rfl⟩)) (fun r7 hr7 => ?_)
        subst hr7
        have hq1 := dm_ofs_le hgk su k
        refine vp_callSi (va_Run.run (va_runSN (As := [.int (nI 1), .int (nI (dm_ofs (dm_pass (dm_upto (ru_n iss nm su) k) g) su k))]) (rest := []) ⟨hx, hb, hml, hown, hts⟩ (c_X_sumOf l (by omega) (by omega)) ⟨va_cnB 2 hts (gW_in (hd := [_]) (kk_1 cw_X_sumOf)) rfl rfl rfl (hK.2.1 _ nw_338 rfl) (hts _ (List.mem_cons_of_mem _ wd_1)) ds_X_sumOf ⟨Nat.le_of_ble_eq_true rfl, Nat.le_of_ble_eq_true rfl⟩, (hts _ (List.mem_cons_of_mem _ wd_339)), trivial⟩ (kk_preS hK hP hz hBz) rfl rfl hl.1 rfl (lv_room (Nat.le_of_ble_eq_true rfl)) d_Mea_improveBy_34 ⟨Nat.le_of_ble_eq_true rfl, Nat.le_of_ble_eq_true rfl⟩)) (fun r8 hr8 => ?_)
        subst hr8
        refine lv_istore hx hb d_Mea_improveBy_37 hl (by decide) rfl (fun ls hl => ?_)
        have hl : lv_has ls 6 [(5, .int (nI (dm_s 1 (dm_ofs (dm_pass (dm_upto (ru_n iss nm su) k) g) su k)))), (4, .int (nI (32 * iss + 8 * nm + k))), (3, .int (nI k)), (2, .int (nI (if dm_flag (dm_upto (ru_n iss nm su) k) g = true then 1 else 0))), (0, .ref a), (1, .ref q)] := hl
        refine lv_iload hx hb d_Mea_improveBy_39 (lv_at hl 0 rfl) ?_
        refine lv_aload_n hx hb d_Mea_improveBy_41 rfl (lv_at hl 4 rfl) ?_
        refine mm_get (D := D) (C := n_Mea) (T := T_Mea) (N := 1) (v := .ref ar) hx hb hts lay_Mea hown hK.1 hP f6 rfl 0 (by decide) (hts _ (List.mem_cons_of_mem _ wd_47)) (fun _ h9 => h9) rfl d_Mea_improveBy_42 ?_
        refine lv_iload hx hb d_Mea_improveBy_45 (lv_at hl 1 rfl) ?_
        refine mm_iald hx hb hK.1 hP 0 fw2_0 rfl (32 * iss + 8 * nm + k) rfl (by omega) (by decide) d_Mea_improveBy_47 ?_
        refine W.eq (g2 := F0 m 48 ls [.int (nI ((dm_pass (dm_upto (ru_n iss nm su) k) g) (32 * iss + 8 * nm + k))), .int (nI (dm_s 1 (dm_ofs (dm_pass (dm_upto (ru_n iss nm su) k) g) su k)))]) rfl ?_
        have hq2 := dm_s_le 1 (dm_ofs (dm_pass (dm_upto (ru_n iss nm su) k) g) su k)
        have hq3 := hgk (32 * iss + 8 * nm + k)
        refine lv_icmp_ge (tgt := 62) hx hb d_Mea_improveBy_48 (by decide) (fun cc9 => ?_) (fun cc9 => ?_)
        · have cc9 : (dm_pass (dm_upto (ru_n iss nm su) k) g) (32 * iss + 8 * nm + k) ≤ dm_s 1 (dm_ofs (dm_pass (dm_upto (ru_n iss nm su) k) g) su k) := (nI_leI (by omega) (by omega)).mp cc9
          have e1 := dm_one_f (f := ru_n iss nm su) (g := g) (k := k) (t := 32 * iss + 8 * nm + k) (F := fun v => dm_s 1 (dm_ofs v su k)) rfl (Nat.not_lt.mpr cc9)
          rw [← e1.2] at hl
          refine lv_iinc (k := 2) (v := nI (k + 1)) hx hb d_Mea_improveBy_62 hl rfl (kk_inc _) (by decide) rfl (fun ls hl => ?_)
          have hl : lv_has ls 6 [(3, .int (nI (k + 1))), (5, .int (nI (dm_s 1 (dm_ofs (dm_pass (dm_upto (ru_n iss nm su) k) g) su k)))), (4, .int (nI (32 * iss + 8 * nm + k))), (2, .int (nI (if dm_flag (dm_upto (ru_n iss nm su) (k + 1)) g = true then 1 else 0))), (0, .ref a), (1, .ref q)] := hl
          refine lv_goto (tgt := 4) hx hb d_Mea_improveBy_65 (by decide) ?_
          exact ih _ (by omega) (k + 1) w2 _ _ ls rfl hP hz hS (fun j g0 => frw2 j g0) (by rw [e1.1]; exact fw2_0) (by omega) (lv_sub hl [0, 3, 4, 5] rfl)
        · have cc9 : ¬ ((dm_pass (dm_upto (ru_n iss nm su) k) g) (32 * iss + 8 * nm + k) ≤ dm_s 1 (dm_ofs (dm_pass (dm_upto (ru_n iss nm su) k) g) su k)) := fun q => cc9 ((nI_leI (by omega) (by omega)).mpr q)
          have e1 := dm_one_t (f := ru_n iss nm su) (g := g) (k := k) (t := 32 * iss + 8 * nm + k) (F := fun v => dm_s 1 (dm_ofs v su k)) rfl (Nat.lt_of_not_le cc9)
          refine lv_aload_n hx hb d_Mea_improveBy_51 rfl (lv_at hl 4 rfl) ?_
          refine mm_get (D := D) (C := n_Mea) (T := T_Mea) (N := 1) (v := .ref ar) hx hb hts lay_Mea hown hK.1 hP f6 rfl 0 (by decide) (hts _ (List.mem_cons_of_mem _ wd_47)) (fun _ h9 => h9) rfl d_Mea_improveBy_52 ?_
          refine lv_iload hx hb d_Mea_improveBy_55 (lv_at hl 1 rfl) ?_
          refine lv_iload hx hb d_Mea_improveBy_57 (lv_at hl 0 rfl) ?_
          refine mm_iast hx hb hK.1 hP hS 0 fw2_0 rfl (32 * iss + 8 * nm + k) rfl (by omega) (by decide) d_Mea_improveBy_59 (fun H locs hP hz1 hS => ?_)
          rw [show upd (fun i => nI ((dm_pass (dm_upto (ru_n iss nm su) k) g) i)) (32 * iss + 8 * nm + k) (nI (dm_s 1 (dm_ofs (dm_pass (dm_upto (ru_n iss nm su) k) g) su k))) = fun i => nI ((va_up (dm_pass (dm_upto (ru_n iss nm su) k) g) (32 * iss + 8 * nm + k) (dm_s 1 (dm_ofs (dm_pass (dm_upto (ru_n iss nm su) k) g) su k))) i) from kk_upn _ _ _] at hP
          have hz : H.size = sz := hz1.trans hz
          obtain ⟨w10, hw10⟩ : ∃ z : mm_M, z = mm_up w2 ar (.inl (cI, 256, .inl (fun i => nI ((va_up (dm_pass (dm_upto (ru_n iss nm su) k) g) (32 * iss + 8 * nm + k) (dm_s 1 (dm_ofs (dm_pass (dm_upto (ru_n iss nm su) k) g) su k))) i)))) := ⟨_, rfl⟩
          have hP : mm_P B D kc w10 H := by rw [hw10]; exact hP
          have fr10 : ∀ j, j ≠ ar → w10 j = w2 j := fun j h9 => by rw [hw10]; exact mm_un h9
          have fa10 : w10 ar = some (.inl (cI, 256, .inl (fun i => nI ((va_up (dm_pass (dm_upto (ru_n iss nm su) k) g) (32 * iss + 8 * nm + k) (dm_s 1 (dm_ofs (dm_pass (dm_upto (ru_n iss nm su) k) g) su k))) i)))) := by rw [hw10]; exact mm_us _ _ _
          refine lv_iconst (v := nI 1) hx hb d_Mea_improveBy_60 (by decide) ?_
          refine kk_top (kk_ift e1.2) ?_
          refine lv_istore_n hx hb d_Mea_improveBy_61 rfl hl (by decide) rfl (fun ls hl => ?_)
          have hl : lv_has ls 6 [(2, .int (nI (if dm_flag (dm_upto (ru_n iss nm su) (k + 1)) g = true then 1 else 0))), (5, .int (nI (dm_s 1 (dm_ofs (dm_pass (dm_upto (ru_n iss nm su) k) g) su k)))), (4, .int (nI (32 * iss + 8 * nm + k))), (3, .int (nI k)), (0, .ref a), (1, .ref q)] := hl
          refine lv_iinc (k := 3) (v := nI (k + 1)) hx hb d_Mea_improveBy_62 hl rfl (kk_inc _) (by decide) rfl (fun ls hl => ?_)
          have hl : lv_has ls 6 [(3, .int (nI (k + 1))), (2, .int (nI (if dm_flag (dm_upto (ru_n iss nm su) (k + 1)) g = true then 1 else 0))), (5, .int (nI (dm_s 1 (dm_ofs (dm_pass (dm_upto (ru_n iss nm su) k) g) su k)))), (4, .int (nI (32 * iss + 8 * nm + k))), (0, .ref a), (1, .ref q)] := hl
          refine lv_goto (tgt := 4) hx hb d_Mea_improveBy_65 (by decide) ?_
          exact ih _ (by omega) (k + 1) w10 _ _ ls rfl hP hz hS (fun j g0 => (fr10 j g0).trans (frw2 j g0)) (by rw [e1.1]; exact fa10) (by omega) (lv_sub hl [0, 1, 4, 5] rfl)
  exact lp1 _ 0 w _ _ _ rfl hP hz hS (fun _ _ => rfl) h_1 (by omega) (lv_sub hl [0, 1, 2, 3] rfl)
