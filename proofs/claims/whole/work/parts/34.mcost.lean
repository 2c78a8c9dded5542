theorem d_Mod_isValid_0 : decode k_Mod_isValid 0 = .ok (.aload_n 0, 1) := by decide +kernel
theorem d_Mod_isValid_1 : decode k_Mod_isValid 1 = .ok (.iload_n 1, 1) := by decide +kernel
theorem d_Mod_isValid_2 : decode k_Mod_isValid 2 = .ok (.invokevirtual 77, 3) := by decide +kernel
theorem d_Mod_isValid_5 : decode k_Mod_isValid 5 = .ok (.ifCond .eq 27, 3) := by decide +kernel
theorem d_Mod_isValid_8 : decode k_Mod_isValid 8 = .ok (.aload_n 0, 1) := by decide +kernel
theorem d_Mod_isValid_9 : decode k_Mod_isValid 9 = .ok (.getfield 23, 3) := by decide +kernel
theorem d_Mod_isValid_12 : decode k_Mod_isValid 12 = .ok (.iload_n 1, 1) := by decide +kernel
theorem d_Mod_isValid_13 : decode k_Mod_isValid 13 = .ok (.iaload, 1) := by decide +kernel
theorem d_Mod_isValid_14 : decode k_Mod_isValid 14 = .ok (.iload_n 2, 1) := by decide +kernel
theorem d_Mod_isValid_15 : decode k_Mod_isValid 15 = .ok (.if_icmp .gt 17, 3) := by decide +kernel
theorem d_Mod_isValid_18 : decode k_Mod_isValid 18 = .ok (.iload_n 2, 1) := by decide +kernel
theorem d_Mod_isValid_19 : decode k_Mod_isValid 19 = .ok (.aload_n 0, 1) := by decide +kernel
theorem d_Mod_isValid_20 : decode k_Mod_isValid 20 = .ok (.getfield 26, 3) := by decide +kernel
theorem d_Mod_isValid_23 : decode k_Mod_isValid 23 = .ok (.iload_n 1, 1) := by decide +kernel
theorem d_Mod_isValid_24 : decode k_Mod_isValid 24 = .ok (.iaload, 1) := by decide +kernel
theorem d_Mod_isValid_25 : decode k_Mod_isValid 25 = .ok (.if_icmp .gt 7, 3) := by decide +kernel
theorem d_Mod_isValid_28 : decode k_Mod_isValid 28 = .ok (.iconst 1, 1) := by decide +kernel
theorem d_Mod_isValid_29 : decode k_Mod_isValid 29 = .ok (.goto 4, 3) := by decide +kernel
theorem d_Mod_isValid_32 : decode k_Mod_isValid 32 = .ok (.iconst 0, 1) := by decide +kernel
theorem d_Mod_isValid_33 : decode k_Mod_isValid 33 = .ok (.ireturn, 1) := by decide +kernel
set_option maxHeartbeats 4000000 in
set_option maxRecDepth 100000 in
theorem c_Mod_isValid (l : Launch) {B : Nat} {D : va_G} {cI cZ cQ : ClassId} {w : mm_M} {sz : Nat} {b : Nat} {N : Nat → Nat → Nat} {S : Nat → Nat → Int32} {j : Nat} {t : Int32} (hM : mo_I b cI cZ N S w) (hn : N 0 0 ≤ 24) (hR : rg_I N) (hj : j < N 0 0) : Met l y_Mod_isValid ws_Mod_isValid (kk_rm 1 0 0) (kk_Pc B D cI cZ cQ [.ref (b + 14), .int (nI j), .int t] w sz) (vp_Si (fun r => r = nI (if N 1 j = 0 ∧ ¬ t < S 5 j ∧ ¬ S 6 j < t then 1 else 0))) 0 0 (fun _ => False) := by
  refine Met.ofW (cc := k_Mod_isValid) (maxL := 3) (ret := (some .boolean)) (by decide) rfl ?_
  intro p e s m args below meth c s₁ BB hml hv
  obtain ⟨rfl, hK, hP, hz, hBz⟩ := hv
  have hx := BB.exec
  have hb := BB.bytes
  have hr := BB.returns
  have hts := atoms_spec (ws := ws_Mod_isValid) BB.pre
  have hown : s.vm.findClass "DelegationClosureModel" = some m.cls := findClass_of_methodNamed BB.named
  have hlocks := BB.notSynchronized
  have hS : mm_S B s.heap s.heap [] := va_S.rf
  have hl := lv_entry ([.ref (b + 14), .int (nI j), .int t]) (n := 3) (Nat.le_of_ble_eq_true rfl)
  rw [lg_entry_eq]
  generalize (lg_sl ([.ref (b + 14), .int (nI j), .int t]) ++ List.replicate (3 - (lg_sl ([.ref (b + 14), .int (nI j), .int t])).length) Slot.unset).toArray = ls at hl ⊢
  have hl : lv_has ls 3 [(0, .ref (b + 14)), (1, .int (nI j)), (2, .int t)] := hl
  have m0 : w (b + 14) = some (.inr (9, [.int (nI (N 0 0)), .ref (b + 15), .ref (b + 16), .ref (b + 17), .ref (b + 18), .ref (b + 19), .ref (b + 20), .ref (b + 21), .ref (b + 22), .ref (b + 23), .ref (b + 24), .ref (b + 25), .ref (b + 26), .ref (b + 27), .ref (b + 28), .ref (b + 29), .int (nI (N 16 0)), .int (nI (N 17 0)), .int (nI (N 18 0)), .ref (b + 30), .int (nI (N 20 0)), .int (S 21 0), .int (S 22 0), .int (S 23 0), .int (S 24 0), .int (nI (N 25 0)), .int (nI (N 26 0))])) := hM.1
  have m1 : w (b + 15) = some (.inl (cZ, 24, .inl (fun i => nI ((N 1) i)))) := hM.2 1 (by decide) (by decide)
  have m2 : w (b + 16) = some (.inl (cZ, 24, .inl (fun i => nI ((N 2) i)))) := hM.2 2 (by decide) (by decide)
  have m3 : w (b + 17) = some (.inl (cI, 24, .inl (fun i => nI ((N 3) i)))) := hM.2 3 (by decide) (by decide)
  have m4 : w (b + 18) = some (.inl (cI, 24, .inl (fun i => nI ((N 4) i)))) := hM.2 4 (by decide) (by decide)
  have m5 : w (b + 19) = some (.inl (cI, 24, .inl (S 5))) := hM.2 5 (by decide) (by decide)
  have m6 : w (b + 20) = some (.inl (cI, 24, .inl (S 6))) := hM.2 6 (by decide) (by decide)
  have m7 : w (b + 21) = some (.inl (cI, 72, .inl (fun i => nI ((N 7) i)))) := hM.2 7 (by decide) (by decide)
  have m8 : w (b + 22) = some (.inl (cI, 24, .inl (fun i => nI ((N 8) i)))) := hM.2 8 (by decide) (by decide)
  have m9 : w (b + 23) = some (.inl (cI, 24, .inl (fun i => nI ((N 9) i)))) := hM.2 9 (by decide) (by decide)
  have m10 : w (b + 24) = some (.inl (cI, 24, .inl (fun i => nI ((N 10) i)))) := hM.2 10 (by decide) (by decide)
  have m11 : w (b + 25) = some (.inl (cI, 24, .inl (S 11))) := hM.2 11 (by decide) (by decide)
  have m12 : w (b + 26) = some (.inl (cI, 24, .inl (S 12))) := hM.2 12 (by decide) (by decide)
  have m13 : w (b + 27) = some (.inl (cZ, 24, .inl (fun i => nI ((N 13) i)))) := hM.2 13 (by decide) (by decide)
  have m14 : w (b + 28) = some (.inl (cI, 256, .inl (fun i => nI ((N 14) i)))) := hM.2 14 (by decide) (by decide)
  have m15 : w (b + 29) = some (.inl (cI, 24, .inl (fun i => nI ((N 15) i)))) := hM.2 15 (by decide) (by decide)
  have m16 : w (b + 30) = some (.inl (cI, 5, .inl (fun i => nI ((N 19) i)))) := hM.2 16 (by decide) (by decide)
  refine lv_aload_n hx hb d_Mod_isValid_0 rfl (lv_at hl 0 rfl) ?_
  refine lv_iload_n hx hb d_Mod_isValid_1 rfl (lv_at hl 1 rfl) ?_
  refine vp_callSi (va_Run.run (va_runV (As := [.int (nI j)]) (rest := []) ⟨hx, hb, hml, hown, hts⟩ (c_Mod_isThere l (b := b) (N := N) (S := S) hM (by omega) hR) (cwV 1 hts (gW_in (hd := [_, _, _, _, _]) (kk_5 wd_601 wd_603 sl_Mod_isThere wd_8 cw_Mod_isThere)) rfl rfl rfl ⟨rfl, ds_Mod_isThere⟩ ⟨Nat.le_of_ble_eq_true rfl, Nat.le_of_ble_eq_true rfl⟩) (kk_preV hK hP hz hBz m0 rfl) rfl rfl hl.1 rfl (lv_room (Nat.le_of_ble_eq_true rfl)) d_Mod_isValid_2 ⟨Nat.le_of_ble_eq_true rfl, Nat.le_of_ble_eq_true rfl⟩)) (fun r1 hr1 => ?_)
  subst hr1
  refine lv_if_eq (tgt := 32) hx hb d_Mod_isValid_5 (by decide) (fun cc2 => ?_) (fun cc2 => ?_)
  · have cc2 := kk_b0 cc2
    refine lv_iconst (v := nI 0) hx hb d_Mod_isValid_32 (by decide) ?_
    exact W.zret hx hb hr rfl (fun t ht hW => ⟨_, rfl, kk_iff (fun q => cc2 ((re_th_in hj hn).mpr q.1)), ht⟩) (fun q hq => by cases hq) d_Mod_isValid_33
  · have cc2 := kk_b1 cc2
    refine lv_aload_n hx hb d_Mod_isValid_8 rfl (lv_at hl 0 rfl) ?_
    refine mm_get (D := D) (C := n_Mod) (T := T_Mod) (N := 27) (v := .ref (b + 19)) hx hb hts lay_Mod hown hK.1 hP m0 rfl 5 (by decide) (hts _ (List.mem_cons_of_mem _ wd_496)) (fun _ h9 => h9) rfl d_Mod_isValid_9 ?_
    refine lv_iload_n hx hb d_Mod_isValid_12 rfl (lv_at hl 1 rfl) ?_
    refine mm_iald hx hb hK.1 hP 0 m5 rfl j rfl (by omega) (by decide) d_Mod_isValid_13 ?_
    refine lv_iload_n hx hb d_Mod_isValid_14 rfl (lv_at hl 2 rfl) ?_
    refine lv_icmp_gt (tgt := 32) hx hb d_Mod_isValid_15 (by decide) (fun cc3 => ?_) (fun cc3 => ?_)
    · refine lv_iconst (v := nI 0) hx hb d_Mod_isValid_32 (by decide) ?_
      exact W.zret hx hb hr rfl (fun t ht hW => ⟨_, rfl, kk_iff (fun q => q.2.1 cc3), ht⟩) (fun q hq => by cases hq) d_Mod_isValid_33
    · refine lv_iload_n hx hb d_Mod_isValid_18 rfl (lv_at hl 2 rfl) ?_
      refine lv_aload_n hx hb d_Mod_isValid_19 rfl (lv_at hl 0 rfl) ?_
      refine mm_get (D := D) (C := n_Mod) (T := T_Mod) (N := 27) (v := .ref (b + 20)) hx hb hts lay_Mod hown hK.1 hP m0 rfl 6 (by decide) (hts _ (List.mem_cons_of_mem _ wd_497)) (fun _ h9 => h9) rfl d_Mod_isValid_20 ?_
      refine lv_iload_n hx hb d_Mod_isValid_23 rfl (lv_at hl 1 rfl) ?_
      refine mm_iald hx hb hK.1 hP 0 m6 rfl j rfl (by omega) (by decide) d_Mod_isValid_24 ?_
      refine lv_icmp_gt (tgt := 32) hx hb d_Mod_isValid_25 (by decide) (fun cc4 => ?_) (fun cc4 => ?_)
      · refine lv_iconst (v := nI 0) hx hb d_Mod_isValid_32 (by decide) ?_
        exact W.zret hx hb hr rfl (fun t ht hW => ⟨_, rfl, kk_iff (fun q => q.2.2 cc4), ht⟩) (fun q hq => by cases hq) d_Mod_isValid_33
      · refine lv_iconst (v := nI 1) hx hb d_Mod_isValid_28 (by decide) ?_
        refine lv_goto (tgt := 33) hx hb d_Mod_isValid_29 (by decide) ?_
        exact W.zret hx hb hr rfl (fun t ht hW => ⟨_, rfl, kk_ift ⟨(re_th_in hj hn).mp cc2, cc3, cc4⟩, ht⟩) (fun q hq => by cases hq) d_Mod_isValid_33
theorem d_Mod_costOf_0 : decode k_Mod_costOf 0 = .ok (.iload_n 1, 1) := by decide +kernel
theorem d_Mod_costOf_1 : decode k_Mod_costOf 1 = .ok (.invokestatic 83, 3) := by decide +kernel
theorem d_Mod_costOf_4 : decode k_Mod_costOf 4 = .ok (.istore_n 3, 1) := by decide +kernel
theorem d_Mod_costOf_5 : decode k_Mod_costOf 5 = .ok (.iload_n 1, 1) := by decide +kernel
theorem d_Mod_costOf_6 : decode k_Mod_costOf 6 = .ok (.iconst 0, 1) := by decide +kernel
theorem d_Mod_costOf_7 : decode k_Mod_costOf 7 = .ok (.invokestatic 59, 3) := by decide +kernel
theorem d_Mod_costOf_10 : decode k_Mod_costOf 10 = .ok (.istore 4, 2) := by decide +kernel
theorem d_Mod_costOf_12 : decode k_Mod_costOf 12 = .ok (.iload_n 1, 1) := by decide +kernel
theorem d_Mod_costOf_13 : decode k_Mod_costOf 13 = .ok (.iconst 1, 1) := by decide +kernel
theorem d_Mod_costOf_14 : decode k_Mod_costOf 14 = .ok (.invokestatic 59, 3) := by decide +kernel
theorem d_Mod_costOf_17 : decode k_Mod_costOf 17 = .ok (.istore 5, 2) := by decide +kernel
theorem d_Mod_costOf_19 : decode k_Mod_costOf 19 = .ok (.iload 4, 2) := by decide +kernel
theorem d_Mod_costOf_21 : decode k_Mod_costOf 21 = .ok (.ifCond .ge 16, 3) := by decide +kernel
theorem d_Mod_costOf_24 : decode k_Mod_costOf 24 = .ok (.iload_n 3, 1) := by decide +kernel
theorem d_Mod_costOf_25 : decode k_Mod_costOf 25 = .ok (.iload_n 2, 1) := by decide +kernel
theorem d_Mod_costOf_26 : decode k_Mod_costOf 26 = .ok (.if_icmp .ne 7, 3) := by decide +kernel
theorem d_Mod_costOf_29 : decode k_Mod_costOf 29 = .ok (.iconst 0, 1) := by decide +kernel
theorem d_Mod_costOf_30 : decode k_Mod_costOf 30 = .ok (.goto 6, 3) := by decide +kernel
theorem d_Mod_costOf_33 : decode k_Mod_costOf 33 = .ok (.sipush 5000, 3) := by decide +kernel
theorem d_Mod_costOf_36 : decode k_Mod_costOf 36 = .ok (.ireturn, 1) := by decide +kernel
theorem d_Mod_costOf_37 : decode k_Mod_costOf 37 = .ok (.iload 5, 2) := by decide +kernel
theorem d_Mod_costOf_39 : decode k_Mod_costOf 39 = .ok (.ifCond .ge 21, 3) := by decide +kernel
theorem d_Mod_costOf_42 : decode k_Mod_costOf 42 = .ok (.aload_n 0, 1) := by decide +kernel
theorem d_Mod_costOf_43 : decode k_Mod_costOf 43 = .ok (.getfield 50, 3) := by decide +kernel
theorem d_Mod_costOf_46 : decode k_Mod_costOf 46 = .ok (.bipush 32, 2) := by decide +kernel
theorem d_Mod_costOf_48 : decode k_Mod_costOf 48 = .ok (.iload_n 3, 1) := by decide +kernel
theorem d_Mod_costOf_49 : decode k_Mod_costOf 49 = .ok (.imul, 1) := by decide +kernel
theorem d_Mod_costOf_50 : decode k_Mod_costOf 50 = .ok (.bipush 8, 2) := by decide +kernel
theorem d_Mod_costOf_52 : decode k_Mod_costOf 52 = .ok (.iload 4, 2) := by decide +kernel
theorem d_Mod_costOf_54 : decode k_Mod_costOf 54 = .ok (.imul, 1) := by decide +kernel
theorem d_Mod_costOf_55 : decode k_Mod_costOf 55 = .ok (.iadd, 1) := by decide +kernel
theorem d_Mod_costOf_56 : decode k_Mod_costOf 56 = .ok (.iload_n 2, 1) := by decide +kernel
theorem d_Mod_costOf_57 : decode k_Mod_costOf 57 = .ok (.iadd, 1) := by decide +kernel
theorem d_Mod_costOf_58 : decode k_Mod_costOf 58 = .ok (.iaload, 1) := by decide +kernel
theorem d_Mod_costOf_59 : decode k_Mod_costOf 59 = .ok (.ireturn, 1) := by decide +kernel
theorem d_Mod_costOf_60 : decode k_Mod_costOf 60 = .ok (.sipush 5000, 3) := by decide +kernel
theorem d_Mod_costOf_63 : decode k_Mod_costOf 63 = .ok (.istore 6, 2) := by decide +kernel
theorem d_Mod_costOf_65 : decode k_Mod_costOf 65 = .ok (.iconst 0, 1) := by decide +kernel
theorem d_Mod_costOf_66 : decode k_Mod_costOf 66 = .ok (.istore 7, 2) := by decide +kernel
theorem d_Mod_costOf_68 : decode k_Mod_costOf 68 = .ok (.iload 7, 2) := by decide +kernel
theorem d_Mod_costOf_70 : decode k_Mod_costOf 70 = .ok (.bipush 8, 2) := by decide +kernel
theorem d_Mod_costOf_72 : decode k_Mod_costOf 72 = .ok (.if_icmp .ge 66, 3) := by decide +kernel
theorem d_Mod_costOf_75 : decode k_Mod_costOf 75 = .ok (.aload_n 0, 1) := by decide +kernel
theorem d_Mod_costOf_76 : decode k_Mod_costOf 76 = .ok (.getfield 50, 3) := by decide +kernel
theorem d_Mod_costOf_79 : decode k_Mod_costOf 79 = .ok (.bipush 32, 2) := by decide +kernel
theorem d_Mod_costOf_81 : decode k_Mod_costOf 81 = .ok (.iload_n 3, 1) := by decide +kernel
theorem d_Mod_costOf_82 : decode k_Mod_costOf 82 = .ok (.imul, 1) := by decide +kernel
theorem d_Mod_costOf_83 : decode k_Mod_costOf 83 = .ok (.bipush 8, 2) := by decide +kernel
theorem d_Mod_costOf_85 : decode k_Mod_costOf 85 = .ok (.iload 4, 2) := by decide +kernel
theorem d_Mod_costOf_87 : decode k_Mod_costOf 87 = .ok (.imul, 1) := by decide +kernel
theorem d_Mod_costOf_88 : decode k_Mod_costOf 88 = .ok (.iadd, 1) := by decide +kernel
theorem d_Mod_costOf_89 : decode k_Mod_costOf 89 = .ok (.iload 7, 2) := by decide +kernel
theorem d_Mod_costOf_91 : decode k_Mod_costOf 91 = .ok (.iadd, 1) := by decide +kernel
theorem d_Mod_costOf_92 : decode k_Mod_costOf 92 = .ok (.iaload, 1) := by decide +kernel
theorem d_Mod_costOf_93 : decode k_Mod_costOf 93 = .ok (.aload_n 0, 1) := by decide +kernel
theorem d_Mod_costOf_94 : decode k_Mod_costOf 94 = .ok (.getfield 50, 3) := by decide +kernel
theorem d_Mod_costOf_97 : decode k_Mod_costOf 97 = .ok (.bipush 32, 2) := by decide +kernel
theorem d_Mod_costOf_99 : decode k_Mod_costOf 99 = .ok (.iload 7, 2) := by decide +kernel
theorem d_Mod_costOf_101 : decode k_Mod_costOf 101 = .ok (.imul, 1) := by decide +kernel
theorem d_Mod_costOf_102 : decode k_Mod_costOf 102 = .ok (.bipush 8, 2) := by decide +kernel
theorem d_Mod_costOf_104 : decode k_Mod_costOf 104 = .ok (.iload 5, 2) := by decide +kernel
theorem d_Mod_costOf_106 : decode k_Mod_costOf 106 = .ok (.imul, 1) := by decide +kernel
theorem d_Mod_costOf_107 : decode k_Mod_costOf 107 = .ok (.iadd, 1) := by decide +kernel
theorem d_Mod_costOf_108 : decode k_Mod_costOf 108 = .ok (.iload_n 2, 1) := by decide +kernel
theorem d_Mod_costOf_109 : decode k_Mod_costOf 109 = .ok (.iadd, 1) := by decide +kernel
theorem d_Mod_costOf_110 : decode k_Mod_costOf 110 = .ok (.iaload, 1) := by decide +kernel
theorem d_Mod_costOf_111 : decode k_Mod_costOf 111 = .ok (.invokestatic 87, 3) := by decide +kernel
theorem d_Mod_costOf_114 : decode k_Mod_costOf 114 = .ok (.istore 8, 2) := by decide +kernel
theorem d_Mod_costOf_116 : decode k_Mod_costOf 116 = .ok (.iload 8, 2) := by decide +kernel
theorem d_Mod_costOf_118 : decode k_Mod_costOf 118 = .ok (.iload 6, 2) := by decide +kernel
theorem d_Mod_costOf_120 : decode k_Mod_costOf 120 = .ok (.if_icmp .ge 8, 3) := by decide +kernel
theorem d_Mod_costOf_123 : decode k_Mod_costOf 123 = .ok (.iload 8, 2) := by decide +kernel
theorem d_Mod_costOf_125 : decode k_Mod_costOf 125 = .ok (.goto 5, 3) := by decide +kernel
theorem d_Mod_costOf_128 : decode k_Mod_costOf 128 = .ok (.iload 6, 2) := by decide +kernel
theorem d_Mod_costOf_130 : decode k_Mod_costOf 130 = .ok (.istore 6, 2) := by decide +kernel
theorem d_Mod_costOf_132 : decode k_Mod_costOf 132 = .ok (.iinc 7 1, 3) := by decide +kernel
theorem d_Mod_costOf_135 : decode k_Mod_costOf 135 = .ok (.goto (-67), 3) := by decide +kernel
theorem d_Mod_costOf_138 : decode k_Mod_costOf 138 = .ok (.iload 6, 2) := by decide +kernel
theorem d_Mod_costOf_140 : decode k_Mod_costOf 140 = .ok (.ireturn, 1) := by decide +kernel
set_option maxHeartbeats 4000000 in
set_option maxRecDepth 100000 in
theorem c_Mod_costOf (l : Launch) {B : Nat} {D : va_G} {cI cZ cQ : ClassId} {w : mm_M} {sz : Nat} {b : Nat} {N : Nat → Nat → Nat} {S : Nat → Nat → Int32} {n y : Nat} {v9 : Nat → Nat} (hM : mo_I b cI cZ N S w) (hn2 : n < 200) (hy : y < 8) (h14 : N 14 = fun j => dm_ph (v9 j)) (hv : ∀ j, v9 j ≤ 1000) : Met l y_Mod_costOf ws_Mod_costOf (kk_rm 2 0 0) (kk_Pc B D cI cZ cQ [.ref (b + 14), .int (nI n), .int (nI y)] w sz) (vp_Si (fun r => r = nI (dm_ph (dm_ofs v9 n y)))) 0 0 (fun _ => False) := by
  refine Met.ofW (cc := k_Mod_costOf) (maxL := 9) (ret := (some .int)) (by decide) rfl ?_
  intro p e s m args below meth c s₁ BB hml hv
  obtain ⟨rfl, hK, hP, hz, hBz⟩ := hv
  have hx := BB.exec
  have hb := BB.bytes
  have hr := BB.returns
  have hts := atoms_spec (ws := ws_Mod_costOf) BB.pre
  have hown : s.vm.findClass "DelegationClosureModel" = some m.cls := findClass_of_methodNamed BB.named
  have hlocks := BB.notSynchronized
  have hS : mm_S B s.heap s.heap [] := va_S.rf
  have hl := lv_entry ([.ref (b + 14), .int (nI n), .int (nI y)]) (n := 9) (Nat.le_of_ble_eq_true rfl)
  rw [lg_entry_eq]
  generalize (lg_sl ([.ref (b + 14), .int (nI n), .int (nI y)]) ++ List.replicate (9 - (lg_sl ([.ref (b + 14), .int (nI n), .int (nI y)])).length) Slot.unset).toArray = ls at hl ⊢
  have hl : lv_has ls 9 [(0, .ref (b + 14)), (1, .int (nI n)), (2, .int (nI y))] := hl
  have m0 : w (b + 14) = some (.inr (9, [.int (nI (N 0 0)), .ref (b + 15), .ref (b + 16), .ref (b + 17), .ref (b + 18), .ref (b + 19), .ref (b + 20), .ref (b + 21), .ref (b + 22), .ref (b + 23), .ref (b + 24), .ref (b + 25), .ref (b + 26), .ref (b + 27), .ref (b + 28), .ref (b + 29), .int (nI (N 16 0)), .int (nI (N 17 0)), .int (nI (N 18 0)), .ref (b + 30), .int (nI (N 20 0)), .int (S 21 0), .int (S 22 0), .int (S 23 0), .int (S 24 0), .int (nI (N 25 0)), .int (nI (N 26 0))])) := hM.1
  have m1 : w (b + 15) = some (.inl (cZ, 24, .inl (fun i => nI ((N 1) i)))) := hM.2 1 (by decide) (by decide)
  have m2 : w (b + 16) = some (.inl (cZ, 24, .inl (fun i => nI ((N 2) i)))) := hM.2 2 (by decide) (by decide)
  have m3 : w (b + 17) = some (.inl (cI, 24, .inl (fun i => nI ((N 3) i)))) := hM.2 3 (by decide) (by decide)
  have m4 : w (b + 18) = some (.inl (cI, 24, .inl (fun i => nI ((N 4) i)))) := hM.2 4 (by decide) (by decide)
  have m5 : w (b + 19) = some (.inl (cI, 24, .inl (S 5))) := hM.2 5 (by decide) (by decide)
  have m6 : w (b + 20) = some (.inl (cI, 24, .inl (S 6))) := hM.2 6 (by decide) (by decide)
  have m7 : w (b + 21) = some (.inl (cI, 72, .inl (fun i => nI ((N 7) i)))) := hM.2 7 (by decide) (by decide)
  have m8 : w (b + 22) = some (.inl (cI, 24, .inl (fun i => nI ((N 8) i)))) := hM.2 8 (by decide) (by decide)
  have m9 : w (b + 23) = some (.inl (cI, 24, .inl (fun i => nI ((N 9) i)))) := hM.2 9 (by decide) (by decide)
  have m10 : w (b + 24) = some (.inl (cI, 24, .inl (fun i => nI ((N 10) i)))) := hM.2 10 (by decide) (by decide)
  have m11 : w (b + 25) = some (.inl (cI, 24, .inl (S 11))) := hM.2 11 (by decide) (by decide)
  have m12 : w (b + 26) = some (.inl (cI, 24, .inl (S 12))) := hM.2 12 (by decide) (by decide)
  have m13 : w (b + 27) = some (.inl (cZ, 24, .inl (fun i => nI ((N 13) i)))) := hM.2 13 (by decide) (by decide)
  have m14 : w (b + 28) = some (.inl (cI, 256, .inl (fun i => nI ((N 14) i)))) := hM.2 14 (by decide) (by decide)
  have m15 : w (b + 29) = some (.inl (cI, 24, .inl (fun i => nI ((N 15) i)))) := hM.2 15 (by decide) (by decide)
  have m16 : w (b + 30) = some (.inl (cI, 5, .inl (fun i => nI ((N 19) i)))) := hM.2 16 (by decide) (by decide)
  have m14 : w (b + 28) = some (.inl (cI, 256, .inl (fun i => nI (dm_ph (v9 i))))) := by have h9 : w (b + 28) = some (.inl (cI, 256, .inl (fun i => nI (N 14 i)))) := hM.2 14 (by decide) (by decide); rw [h14] at h9; exact h9
  refine lv_iload_n hx hb d_Mod_costOf_0 rfl (lv_at hl 1 rfl) ?_
  refine vp_callSi (va_Run.run (va_runS (As := [.int (nI n)]) (rest := []) ⟨hx, hb, hml, hown, hts⟩ (c_Mod_keyOf l (by omega)) (va_cwS 1 hts (gW_in (hd := [_, _, _, _]) (kk_4 wd_641 wd_642 wd_8 cw_Mod_keyOf)) rfl rfl rfl ds_Mod_keyOf ⟨Nat.le_of_ble_eq_true rfl, Nat.le_of_ble_eq_true rfl⟩) (kk_preS hK hP hz hBz) rfl rfl hl.1 rfl (lv_room (Nat.le_of_ble_eq_true rfl)) d_Mod_costOf_1 ⟨Nat.le_of_ble_eq_true rfl, Nat.le_of_ble_eq_true rfl⟩)) (fun r1 hr1 => ?_)
  subst hr1
  refine lv_istore_n hx hb d_Mod_costOf_4 rfl hl (by decide) rfl (fun ls hl => ?_)
  have hl : lv_has ls 9 [(3, .int (nI (n % 8))), (0, .ref (b + 14)), (1, .int (nI n)), (2, .int (nI y))] := hl
  refine lv_iload_n hx hb d_Mod_costOf_5 rfl (lv_at hl 2 rfl) ?_
  refine lv_iconst (v := nI 0) hx hb d_Mod_costOf_6 (by decide) ?_
  refine vp_callSi (va_Run.run (va_runS (As := [.int (nI n), .int (nI 0)]) (rest := []) ⟨hx, hb, hml, hown, hts⟩ (c_Mod_nameOf0 l (by omega)) (va_cwS 2 hts (gW_in (hd := [_, _, _, _]) (kk_4 wd_580 wd_581 wd_8 cw_Mod_nameOf)) rfl rfl rfl ds_Mod_nameOf ⟨Nat.le_of_ble_eq_true rfl, Nat.le_of_ble_eq_true rfl⟩) (kk_preS hK hP hz hBz) rfl rfl hl.1 rfl (lv_room (Nat.le_of_ble_eq_true rfl)) d_Mod_costOf_7 ⟨Nat.le_of_ble_eq_true rfl, Nat.le_of_ble_eq_true rfl⟩)) (fun r2 hr2 => ?_)
  subst hr2
  refine lv_istore hx hb d_Mod_costOf_10 hl (by decide) rfl (fun ls hl => ?_)
  have hl : lv_has ls 9 [(4, .int (nI (n / 8 % 5) - nI 1)), (3, .int (nI (n % 8))), (0, .ref (b + 14)), (1, .int (nI n)), (2, .int (nI y))] := hl
  refine lv_iload_n hx hb d_Mod_costOf_12 rfl (lv_at hl 3 rfl) ?_
  refine lv_iconst (v := nI 1) hx hb d_Mod_costOf_13 (by decide) ?_
  refine vp_callSi (va_Run.run (va_runS (As := [.int (nI n), .int (nI 1)]) (rest := []) ⟨hx, hb, hml, hown, hts⟩ (c_Mod_nameOf1 l (by omega)) (va_cwS 2 hts (gW_in (hd := [_, _, _, _]) (kk_4 wd_580 wd_581 wd_8 cw_Mod_nameOf)) rfl rfl rfl ds_Mod_nameOf ⟨Nat.le_of_ble_eq_true rfl, Nat.le_of_ble_eq_true rfl⟩) (kk_preS hK hP hz hBz) rfl rfl hl.1 rfl (lv_room (Nat.le_of_ble_eq_true rfl)) d_Mod_costOf_14 ⟨Nat.le_of_ble_eq_true rfl, Nat.le_of_ble_eq_true rfl⟩)) (fun r3 hr3 => ?_)
  subst hr3
  refine lv_istore hx hb d_Mod_costOf_17 hl (by decide) rfl (fun ls hl => ?_)
  have hl : lv_has ls 9 [(5, .int (nI (n / 40) - nI 1)), (4, .int (nI (n / 8 % 5) - nI 1)), (3, .int (nI (n % 8))), (0, .ref (b + 14)), (1, .int (nI n)), (2, .int (nI y))] := hl
  refine lv_iload hx hb d_Mod_costOf_19 (lv_at hl 1 rfl) ?_
  refine lv_if_ge (tgt := 37) hx hb d_Mod_costOf_21 (by decide) (fun cc4 => ?_) (fun cc4 => ?_)
  · have cc4 := Int32.not_lt.mpr cc4
    have cc4 : ¬ n / 8 % 5 = 0 := fun q => cc4 ((kk_nmlt (by omega)).mpr q)
    refine lv_iload hx hb d_Mod_costOf_37 (lv_at hl 0 rfl) ?_
    refine lv_if_ge (tgt := 60) hx hb d_Mod_costOf_39 (by decide) (fun cc5 => ?_) (fun cc5 => ?_)
    · have cc5 := Int32.not_lt.mpr cc5
      have cc5 : ¬ n / 40 = 0 := fun q => cc5 ((kk_nmlt (by omega)).mpr q)
      refine lv_sipush (v := nI 5000) hx hb d_Mod_costOf_60 (by decide) ?_
      refine lv_istore hx hb d_Mod_costOf_63 hl (by decide) rfl (fun ls hl => ?_)
      have hl : lv_has ls 9 [(6, .int (nI 5000)), (5, .int (nI (n / 40) - nI 1)), (4, .int (nI (n / 8 % 5) - nI 1)), (3, .int (nI (n % 8))), (0, .ref (b + 14)), (1, .int (nI n)), (2, .int (nI y))] := hl
      refine lv_iconst (v := nI 0) hx hb d_Mod_costOf_65 (by decide) ?_
      refine lv_istore hx hb d_Mod_costOf_66 hl (by decide) rfl (fun ls hl => ?_)
      have hl : lv_has ls 9 [(7, .int (nI 0)), (6, .int (nI 5000)), (5, .int (nI (n / 40) - nI 1)), (4, .int (nI (n / 8 % 5) - nI 1)), (3, .int (nI (n % 8))), (0, .ref (b + 14)), (1, .int (nI n)), (2, .int (nI y))] := hl
      have lp6 : ∀ (d : Nat) (k : Nat) (ls : Array Slot), d = 8 - k → (k ≤ 8) → lv_has ls 9 [(7, .int (nI k)), (6, .int (nI (dm_ph (dm_mins (fun z => dm_s (v9 (32 * (n % 8) + 8 * (n / 8 % 5 - 1) + z)) (v9 (32 * z + 8 * (n / 40 - 1) + y))) k)))), (5, .int (nI (n / 40) - nI 1)), (4, .int (nI (n / 8 % 5) - nI 1)), (3, .int (nI (n % 8))), (0, .ref (b + 14)), (1, .int (nI n)), (2, .int (nI y))] → W p l e (headSpec ws_Mod_costOf (kk_rm 2 0 0)).room s m ([.ref (b + 14), .int (nI n), .int (nI y)]).toArray below meth c s.heap [] 0 0 (MQ below (vp_Si (fun r => r = nI (dm_ph (dm_ofs v9 n y)))) ([.ref (b + 14), .int (nI n), .int (nI y)]).toArray s 0 0 (fun _ => False)) (F0 m 68 ls []) := by
        intro d
        induction d using Nat.strongRecOn with
        | ind d ih =>
          intro k ls hd hk hl
          refine lv_iload hx hb d_Mod_costOf_68 (lv_at hl 0 rfl) ?_
          refine lv_bipush (v := nI 8) hx hb d_Mod_costOf_70 (by decide) ?_
          refine lv_icmp_ge (tgt := 138) hx hb d_Mod_costOf_72 (by decide) (fun cc7 => ?_) (fun cc7 => ?_)
          · have cc7 : 8 ≤ k := (nI_leI (by omega) (by omega)).mp cc7
            refine lv_iload hx hb d_Mod_costOf_138 (lv_at hl 1 rfl) ?_
            exact W.iret hx hb hr (fun t ht hW => ⟨_, rfl, congrArg (fun q => nI (dm_ph q)) (by obtain rfl : k = 8 := (by omega); unfold dm_ofs; rw [if_neg cc4, if_neg cc5]), ht⟩) (fun q hq => by cases hq) d_Mod_costOf_140
          · have cc7 : ¬ (8 ≤ k) := fun q => cc7 ((nI_leI (by omega) (by omega)).mpr q)
            refine lv_aload_n hx hb d_Mod_costOf_75 rfl (lv_at hl 5 rfl) ?_
            refine mm_get (D := D) (C := n_Mod) (T := T_Mod) (N := 27) (v := .ref (b + 28)) hx hb hts lay_Mod hown hK.1 hP m0 rfl 14 (by decide) (hts _ (List.mem_cons_of_mem _ wd_505)) (fun _ h9 => h9) rfl d_Mod_costOf_76 ?_
            refine lv_bipush (v := nI 32) hx hb d_Mod_costOf_79 (by decide) ?_
            refine lv_iload_n hx hb d_Mod_costOf_81 rfl (lv_at hl 4 rfl) ?_
            refine lv_imul hx hb d_Mod_costOf_82 ?_
            refine kk_top (pk_mul _ _) ?_
            refine lv_bipush (v := nI 8) hx hb d_Mod_costOf_83 (by decide) ?_
            refine lv_iload hx hb d_Mod_costOf_85 (lv_at hl 3 rfl) ?_
            refine kk_top (pk_sub (by omega)) ?_
            refine lv_imul hx hb d_Mod_costOf_87 ?_
            refine kk_top (pk_mul _ _) ?_
            refine lv_iadd hx hb d_Mod_costOf_88 ?_
            refine kk_top (nI_add _ _) ?_
            refine lv_iload hx hb d_Mod_costOf_89 (lv_at hl 0 rfl) ?_
            refine lv_iadd hx hb d_Mod_costOf_91 ?_
            refine kk_top (nI_add _ _) ?_
            refine mm_iald hx hb hK.1 hP 0 m14 rfl (((32 * (n % 8)) + (8 * (n / 8 % 5 - 1))) + k) rfl (by omega) (by decide) d_Mod_costOf_92 ?_
            refine W.eq (g2 := F0 m 93 ls [.int (nI (dm_ph (v9 (((32 * (n % 8)) + (8 * (n / 8 % 5 - 1))) + k))))]) rfl ?_
            refine lv_aload_n hx hb d_Mod_costOf_93 rfl (lv_at hl 5 rfl) ?_
            refine mm_get (D := D) (C := n_Mod) (T := T_Mod) (N := 27) (v := .ref (b + 28)) hx hb hts lay_Mod hown hK.1 hP m0 rfl 14 (by decide) (hts _ (List.mem_cons_of_mem _ wd_505)) (fun _ h9 => h9) rfl d_Mod_costOf_94 ?_
            refine lv_bipush (v := nI 32) hx hb d_Mod_costOf_97 (by decide) ?_
            refine lv_iload hx hb d_Mod_costOf_99 (lv_at hl 0 rfl) ?_
            refine lv_imul hx hb d_Mod_costOf_101 ?_
            refine kk_top (pk_mul _ _) ?_
            refine lv_bipush (v := nI 8) hx hb d_Mod_costOf_102 (by decide) ?_
            refine lv_iload hx hb d_Mod_costOf_104 (lv_at hl 2 rfl) ?_
            refine kk_top (pk_sub (by omega)) ?_
            refine lv_imul hx hb d_Mod_costOf_106 ?_
            refine kk_top (pk_mul _ _) ?_
            refine lv_iadd hx hb d_Mod_costOf_107 ?_
            refine kk_top (nI_add _ _) ?_
            refine lv_iload_n hx hb d_Mod_costOf_108 rfl (lv_at hl 7 rfl) ?_
            refine lv_iadd hx hb d_Mod_costOf_109 ?_
            refine kk_top (nI_add _ _) ?_
            refine mm_iald hx hb hK.1 hP 0 m14 rfl (((32 * k) + (8 * (n / 40 - 1))) + y) rfl (by omega) (by decide) d_Mod_costOf_110 ?_
            refine W.eq (g2 := F0 m 111 ls [.int (nI (dm_ph (v9 (((32 * k) + (8 * (n / 40 - 1))) + y)))), .int (nI (dm_ph (v9 (((32 * (n % 8)) + (8 * (n / 8 % 5 - 1))) + k))))]) rfl ?_
            have hq1 := hv (32 * (n % 8) + 8 * (n / 8 % 5 - 1) + k)
            have hq2 := hv (32 * k + 8 * (n / 40 - 1) + y)
            refine vp_callSi (va_Run.run (va_runS (As := [.int (nI (dm_ph (v9 (((32 * (n % 8)) + (8 * (n / 8 % 5 - 1))) + k)))), .int (nI (dm_ph (v9 (((32 * k) + (8 * (n / 40 - 1))) + y))))]) (rest := []) ⟨hx, hb, hml, hown, hts⟩ (c_Mod_sum l (a := (v9 (((32 * (n % 8)) + (8 * (n / 8 % 5 - 1))) + k))) (b := (v9 (((32 * k) + (8 * (n / 40 - 1))) + y))) (by omega) (by omega)) (va_cwS 2 hts (gW_in (hd := [_, _, _, _]) (kk_4 wd_644 wd_645 wd_8 cw_Mod_sum)) rfl rfl rfl ds_Mod_sum ⟨Nat.le_of_ble_eq_true rfl, Nat.le_of_ble_eq_true rfl⟩) (kk_preS hK hP hz hBz) rfl rfl hl.1 rfl (lv_room (Nat.le_of_ble_eq_true rfl)) d_Mod_costOf_111 ⟨Nat.le_of_ble_eq_true rfl, Nat.le_of_ble_eq_true rfl⟩)) (fun r8 hr8 => ?_)
            subst hr8
            refine lv_istore hx hb d_Mod_costOf_114 hl (by decide) rfl (fun ls hl => ?_)
            have hl : lv_has ls 9 [(8, .int (nI (dm_ph (dm_s (v9 (((32 * (n % 8)) + (8 * (n / 8 % 5 - 1))) + k)) (v9 (((32 * k) + (8 * (n / 40 - 1))) + y)))))), (7, .int (nI k)), (6, .int (nI (dm_ph (dm_mins (fun z => dm_s (v9 (32 * (n % 8) + 8 * (n / 8 % 5 - 1) + z)) (v9 (32 * z + 8 * (n / 40 - 1) + y))) k)))), (5, .int (nI (n / 40) - nI 1)), (4, .int (nI (n / 8 % 5) - nI 1)), (3, .int (nI (n % 8))), (0, .ref (b + 14)), (1, .int (nI n)), (2, .int (nI y))] := hl
            refine lv_iload hx hb d_Mod_costOf_116 (lv_at hl 0 rfl) ?_
            refine lv_iload hx hb d_Mod_costOf_118 (lv_at hl 2 rfl) ?_
            have hq3 := dm_ph_le (dm_s (v9 (32 * (n % 8) + 8 * (n / 8 % 5 - 1) + k)) (v9 (32 * k + 8 * (n / 40 - 1) + y)))
            have hq4 := dm_ph_le (dm_mins (fun z => dm_s (v9 (32 * (n % 8) + 8 * (n / 8 % 5 - 1) + z)) (v9 (32 * z + 8 * (n / 40 - 1) + y))) k)
            refine lv_icmp_ge (tgt := 128) hx hb d_Mod_costOf_120 (by decide) (fun cc9 => ?_) (fun cc9 => ?_)
            · have cc9 : dm_ph (dm_mins (fun z => dm_s (v9 (32 * (n % 8) + 8 * (n / 8 % 5 - 1) + z)) (v9 (32 * z + 8 * (n / 40 - 1) + y))) k) ≤ dm_ph (dm_s (v9 (((32 * (n % 8)) + (8 * (n / 8 % 5 - 1))) + k)) (v9 (((32 * k) + (8 * (n / 40 - 1))) + y))) := (nI_leI (by omega) (by omega)).mp cc9
              refine lv_iload hx hb d_Mod_costOf_128 (lv_at hl 2 rfl) ?_
              refine kk_top (y := nI (dm_ph (dm_mins (fun z => dm_s (v9 (32 * (n % 8) + 8 * (n / 8 % 5 - 1) + z)) (v9 (32 * z + 8 * (n / 40 - 1) + y))) (k + 1)))) (congrArg nI (dm_ph_m1 (dm_mins_le _ _) (dm_s_le _ _) cc9)) ?_
              refine lv_istore hx hb d_Mod_costOf_130 hl (by decide) rfl (fun ls hl => ?_)
              have hl : lv_has ls 9 [(6, .int (nI (dm_ph (dm_mins (fun z => dm_s (v9 (32 * (n % 8) + 8 * (n / 8 % 5 - 1) + z)) (v9 (32 * z + 8 * (n / 40 - 1) + y))) (k + 1))))), (8, .int (nI (dm_ph (dm_s (v9 (((32 * (n % 8)) + (8 * (n / 8 % 5 - 1))) + k)) (v9 (((32 * k) + (8 * (n / 40 - 1))) + y)))))), (7, .int (nI k)), (5, .int (nI (n / 40) - nI 1)), (4, .int (nI (n / 8 % 5) - nI 1)), (3, .int (nI (n % 8))), (0, .ref (b + 14)), (1, .int (nI n)), (2, .int (nI y))] := hl
              refine lv_iinc (k := 2) (v := nI (k + 1)) hx hb d_Mod_costOf_132 hl rfl (kk_inc _) (by decide) rfl (fun ls hl => ?_)
              have hl : lv_has ls 9 [(7, .int (nI (k + 1))), (6, .int (nI (dm_ph (dm_mins (fun z => dm_s (v9 (32 * (n % 8) + 8 * (n / 8 % 5 - 1) + z)) (v9 (32 * z + 8 * (n / 40 - 1) + y))) (k + 1))))), (8, .int (nI (dm_ph (dm_s (v9 (((32 * (n % 8)) + (8 * (n / 8 % 5 - 1))) + k)) (v9 (((32 * k) + (8 * (n / 40 - 1))) + y)))))), (5, .int (nI (n / 40) - nI 1)), (4, .int (nI (n / 8 % 5) - nI 1)), (3, .int (nI (n % 8))), (0, .ref (b + 14)), (1, .int (nI n)), (2, .int (nI y))] := hl
              refine lv_goto (tgt := 68) hx hb d_Mod_costOf_135 (by decide) ?_
              exact ih _ (by omega) (k + 1) ls rfl (by omega) (lv_sub hl [0, 1, 3, 4, 5, 6, 7, 8] rfl)
            · have cc9 : ¬ (dm_ph (dm_mins (fun z => dm_s (v9 (32 * (n % 8) + 8 * (n / 8 % 5 - 1) + z)) (v9 (32 * z + 8 * (n / 40 - 1) + y))) k) ≤ dm_ph (dm_s (v9 (((32 * (n % 8)) + (8 * (n / 8 % 5 - 1))) + k)) (v9 (((32 * k) + (8 * (n / 40 - 1))) + y)))) := fun q => cc9 ((nI_leI (by omega) (by omega)).mpr q)
              refine lv_iload hx hb d_Mod_costOf_123 (lv_at hl 0 rfl) ?_
              refine lv_goto (tgt := 130) hx hb d_Mod_costOf_125 (by decide) ?_
              refine kk_top (y := nI (dm_ph (dm_mins (fun z => dm_s (v9 (32 * (n % 8) + 8 * (n / 8 % 5 - 1) + z)) (v9 (32 * z + 8 * (n / 40 - 1) + y))) (k + 1)))) (congrArg nI (dm_ph_m2 (dm_mins_le _ _) (dm_s_le _ _) cc9)) ?_
              refine lv_istore hx hb d_Mod_costOf_130 hl (by decide) rfl (fun ls hl => ?_)
              have hl : lv_has ls 9 [(6, .int (nI (dm_ph (dm_mins (fun z => dm_s (v9 (32 * (n % 8) + 8 * (n / 8 % 5 - 1) + z)) (v9 (32 * z + 8 * (n / 40 - 1) + y))) (k + 1))))), (8, .int (nI (dm_ph (dm_s (v9 (((32 * (n % 8)) + (8 * (n / 8 % 5 - 1))) + k)) (v9 (((32 * k) + (8 * (n / 40 - 1))) + y)))))), (7, .int (nI k)), (5, .int (nI (n / 40) - nI 1)), (4, .int (nI (n / 8 % 5) - nI 1)), (3, .int (nI (n % 8))), (0, .ref (b + 14)), (1, .int (nI n)), (2, .int (nI y))] := hl
              refine lv_iinc (k := 2) (v := nI (k + 1)) hx hb d_Mod_costOf_132 hl rfl (kk_inc _) (by decide) rfl (fun ls hl => ?_)
              have hl : lv_has ls 9 [(7, .int (nI (k + 1))), (6, .int (nI (dm_ph (dm_mins (fun z => dm_s (v9 (32 * (n % 8) + 8 * (n / 8 % 5 - 1) + z)) (v9 (32 * z + 8 * (n / 40 - 1) + y))) (k + 1))))), (8, .int (nI (dm_ph (dm_s (v9 (((32 * (n % 8)) + (8 * (n / 8 % 5 - 1))) + k)) (v9 (((32 * k) + (8 * (n / 40 - 1))) + y)))))), (5, .int (nI (n / 40) - nI 1)), (4, .int (nI (n / 8 % 5) - nI 1)), (3, .int (nI (n % 8))), (0, .ref (b + 14)), (1, .int (nI n)), (2, .int (nI y))] := hl
              refine lv_goto (tgt := 68) hx hb d_Mod_costOf_135 (by decide) ?_
              exact ih _ (by omega) (k + 1) ls rfl (by omega) (lv_sub hl [0, 1, 3, 4, 5, 6, 7, 8] rfl)
      exact lp6 _ 0 _ rfl (by omega) (lv_sub hl [0, 1, 2, 3, 4, 5, 6, 7] rfl)
    · have cc5 := Int32.not_le.mp cc5
      have cc5 : n / 40 = 0 := (kk_nmlt (by omega)).mp cc5
      refine lv_aload_n hx hb d_Mod_costOf_42 rfl (lv_at hl 3 rfl) ?_
      refine mm_get (D := D) (C := n_Mod) (T := T_Mod) (N := 27) (v := .ref (b + 28)) hx hb hts lay_Mod hown hK.1 hP m0 rfl 14 (by decide) (hts _ (List.mem_cons_of_mem _ wd_505)) (fun _ h9 => h9) rfl d_Mod_costOf_43 ?_
      refine lv_bipush (v := nI 32) hx hb d_Mod_costOf_46 (by decide) ?_
      refine lv_iload_n hx hb d_Mod_costOf_48 rfl (lv_at hl 2 rfl) ?_
      refine lv_imul hx hb d_Mod_costOf_49 ?_
      refine kk_top (pk_mul _ _) ?_
      refine lv_bipush (v := nI 8) hx hb d_Mod_costOf_50 (by decide) ?_
      refine lv_iload hx hb d_Mod_costOf_52 (lv_at hl 1 rfl) ?_
      refine kk_top (pk_sub (by omega)) ?_
      refine lv_imul hx hb d_Mod_costOf_54 ?_
      refine kk_top (pk_mul _ _) ?_
      refine lv_iadd hx hb d_Mod_costOf_55 ?_
      refine kk_top (nI_add _ _) ?_
      refine lv_iload_n hx hb d_Mod_costOf_56 rfl (lv_at hl 5 rfl) ?_
      refine lv_iadd hx hb d_Mod_costOf_57 ?_
      refine kk_top (nI_add _ _) ?_
      refine mm_iald hx hb hK.1 hP 0 m14 rfl (((32 * (n % 8)) + (8 * (n / 8 % 5 - 1))) + y) rfl (by omega) (by decide) d_Mod_costOf_58 ?_
      refine W.eq (g2 := F0 m 59 ls [.int (nI (dm_ph (v9 (((32 * (n % 8)) + (8 * (n / 8 % 5 - 1))) + y))))]) rfl ?_
      exact W.iret hx hb hr (fun t ht hW => ⟨_, rfl, congrArg (fun q => nI (dm_ph q)) (by unfold dm_ofs; rw [if_neg cc4, if_pos cc5]), ht⟩) (fun q hq => by cases hq) d_Mod_costOf_59
  · have cc4 := Int32.not_le.mp cc4
    have cc4 : n / 8 % 5 = 0 := (kk_nmlt (by omega)).mp cc4
    refine lv_iload_n hx hb d_Mod_costOf_24 rfl (lv_at hl 2 rfl) ?_
    refine lv_iload_n hx hb d_Mod_costOf_25 rfl (lv_at hl 5 rfl) ?_
    refine lv_icmp_ne (tgt := 33) hx hb d_Mod_costOf_26 (by decide) (fun cc10 => ?_) (fun cc10 => ?_)
    · have cc10 : ¬ (n % 8 = y) := fun q => cc10 ((nI_eq (by omega) (by omega)).mpr q)
      refine lv_sipush (v := nI 5000) hx hb d_Mod_costOf_33 (by decide) ?_
      exact W.iret hx hb hr (fun t ht hW => ⟨_, rfl, congrArg nI (by unfold dm_ofs; rw [if_pos cc4, if_neg cc10]; rfl), ht⟩) (fun q hq => by cases hq) d_Mod_costOf_36
    · have cc10 : n % 8 = y := (nI_eq (by omega) (by omega)).mp cc10
      refine lv_iconst (v := nI 0) hx hb d_Mod_costOf_29 (by decide) ?_
      refine lv_goto (tgt := 36) hx hb d_Mod_costOf_30 (by decide) ?_
      exact W.iret hx hb hr (fun t ht hW => ⟨_, rfl, congrArg nI (by unfold dm_ofs; rw [if_pos cc4, if_pos cc10]; rfl), ht⟩) (fun q hq => by cases hq) d_Mod_costOf_36
