theorem d_Mod_may_0 : decode k_Mod_may 0 = .ok (.iload_n 1, 1) := by decide +kernel
theorem d_Mod_may_1 : decode k_Mod_may 1 = .ok (.ifCond .lt 19, 3) := by decide +kernel
theorem d_Mod_may_4 : decode k_Mod_may 4 = .ok (.iload_n 1, 1) := by decide +kernel
theorem d_Mod_may_5 : decode k_Mod_may 5 = .ok (.bipush 7, 2) := by decide +kernel
theorem d_Mod_may_7 : decode k_Mod_may 7 = .ok (.if_icmp .gt 13, 3) := by decide +kernel
theorem d_Mod_may_10 : decode k_Mod_may 10 = .ok (.iload_n 2, 1) := by decide +kernel
theorem d_Mod_may_11 : decode k_Mod_may 11 = .ok (.ifCond .lt 9, 3) := by decide +kernel
theorem d_Mod_may_14 : decode k_Mod_may 14 = .ok (.iload_n 2, 1) := by decide +kernel
theorem d_Mod_may_15 : decode k_Mod_may 15 = .ok (.bipush 7, 2) := by decide +kernel
theorem d_Mod_may_17 : decode k_Mod_may 17 = .ok (.if_icmp .le 5, 3) := by decide +kernel
theorem d_Mod_may_20 : decode k_Mod_may 20 = .ok (.iconst (-1), 1) := by decide +kernel
theorem d_Mod_may_21 : decode k_Mod_may 21 = .ok (.ireturn, 1) := by decide +kernel
theorem d_Mod_may_22 : decode k_Mod_may 22 = .ok (.aload_n 0, 1) := by decide +kernel
theorem d_Mod_may_23 : decode k_Mod_may 23 = .ok (.iload 4, 2) := by decide +kernel
theorem d_Mod_may_25 : decode k_Mod_may 25 = .ok (.invokevirtual 101, 3) := by decide +kernel
theorem d_Mod_may_28 : decode k_Mod_may 28 = .ok (.aload_n 0, 1) := by decide +kernel
theorem d_Mod_may_29 : decode k_Mod_may 29 = .ok (.iload_n 1, 1) := by decide +kernel
theorem d_Mod_may_30 : decode k_Mod_may 30 = .ok (.iload_n 2, 1) := by decide +kernel
theorem d_Mod_may_31 : decode k_Mod_may 31 = .ok (.iload_n 3, 1) := by decide +kernel
theorem d_Mod_may_32 : decode k_Mod_may 32 = .ok (.iload 4, 2) := by decide +kernel
theorem d_Mod_may_34 : decode k_Mod_may 34 = .ok (.invokevirtual 123, 3) := by decide +kernel
theorem d_Mod_may_37 : decode k_Mod_may 37 = .ok (.aload_n 0, 1) := by decide +kernel
theorem d_Mod_may_38 : decode k_Mod_may 38 = .ok (.bipush 8, 2) := by decide +kernel
theorem d_Mod_may_40 : decode k_Mod_may 40 = .ok (.invokevirtual 105, 3) := by decide +kernel
theorem d_Mod_may_43 : decode k_Mod_may 43 = .ok (.istore 5, 2) := by decide +kernel
theorem d_Mod_may_45 : decode k_Mod_may 45 = .ok (.iload 5, 2) := by decide +kernel
theorem d_Mod_may_47 : decode k_Mod_may 47 = .ok (.sipush 5000, 3) := by decide +kernel
theorem d_Mod_may_50 : decode k_Mod_may 50 = .ok (.if_icmp .ne 7, 3) := by decide +kernel
theorem d_Mod_may_53 : decode k_Mod_may 53 = .ok (.iconst (-1), 1) := by decide +kernel
theorem d_Mod_may_54 : decode k_Mod_may 54 = .ok (.goto 5, 3) := by decide +kernel
theorem d_Mod_may_57 : decode k_Mod_may 57 = .ok (.iload 5, 2) := by decide +kernel
theorem d_Mod_may_59 : decode k_Mod_may 59 = .ok (.ireturn, 1) := by decide +kernel
set_option maxHeartbeats 4000000 in
set_option maxRecDepth 100000 in
theorem c_Mod_may (l : Launch) {B : Nat} {D : va_G} {cI cZ cQ : ClassId} {w : mm_M} {sz : Nat} {b : Nat} {N : Nat → Nat → Nat} {S : Nat → Nat → Int32} {kr pr z9 t9 : Int32} (hM : mo_I b cI cZ N S w) (hn : N 0 0 ≤ 24) (hR : rg_I N) : Met l y_Mod_may ws_Mod_may (kk_rm 6 0 0) (kk_Pc B D cI cZ cQ [.ref (b + 14), .int kr, .int pr, .int z9, .int t9] w sz) (kk_Qi B D (fun r w' sz' => r = ma_r N S kr pr z9 t9 ∧ mo_I b cI cZ (ma_N N S kr pr z9 t9) S w' ∧ (∀ j, ¬ (b + 14 ≤ j ∧ j < b + 31) → w' j = w j) ∧ sz' = sz)) 0 0 (fun q => B ≤ q) := by
  refine Met.ofW (cc := k_Mod_may) (maxL := 6) (ret := (some .int)) (by decide) rfl ?_
  intro p e s m args below meth c s₁ BB hml hv
  obtain ⟨rfl, hK, hP, hz, hBz⟩ := hv
  have hx := BB.exec
  have hb := BB.bytes
  have hr := BB.returns
  have hts := atoms_spec (ws := ws_Mod_may) BB.pre
  have hown : s.vm.findClass "DelegationClosureModel" = some m.cls := findClass_of_methodNamed BB.named
  have hlocks := BB.notSynchronized
  have hS : mm_S B s.heap s.heap [] := va_S.rf
  have hl := lv_entry ([.ref (b + 14), .int kr, .int pr, .int z9, .int t9]) (n := 6) (Nat.le_of_ble_eq_true rfl)
  rw [lg_entry_eq]
  generalize (lg_sl ([.ref (b + 14), .int kr, .int pr, .int z9, .int t9]) ++ List.replicate (6 - (lg_sl ([.ref (b + 14), .int kr, .int pr, .int z9, .int t9])).length) Slot.unset).toArray = ls at hl ⊢
  have hl : lv_has ls 6 [(0, .ref (b + 14)), (1, .int kr), (2, .int pr), (3, .int z9), (4, .int t9)] := hl
  have m0 : w (b + 14) = some (.inr (9, [.int (nI (N 0 0)), .ref (b + 15), .ref (b + 16), .ref (b + 17), .ref (b + 18), .ref (b + 19), .ref (b + 20), .ref (b + 21), .ref (b + 22), .ref (b + 23), .ref (b + 24), .ref (b + 25), .ref (b + 26), .ref (b + 27), .ref (b + 28), .ref (b + 29), .int (nI (N 16 0)), .int (nI (N 17 0)), .int (nI (N 18 0)), .ref (b + 30), .int (nI (N 20 0)), .int (S 21 0), .int (S 22 0), .int (S 23 0), .int (S 24 0), .int (nI (N 25 0)), .int (nI (N 26 0))])) := hM.1
  have m1 : w (b + 15) = some (.inl (cZ, 24, .inl (fun i => nI ((N 1) i)))) := hM.2 1 (by decide) (by decide)
  have m2 : w (b + 16) = some (.inl (cZ, 24, .inl (fun i => nI ((N 2) i)))) := hM.2 2 (by decide) (by decide)
  have m3 : w (b + 17) = some (.inl (cI, 24, .inl (fun i => nI ((N 3) i)))) := hM.2 3 (by decide) (by decide)
  have m4 : w (b + 18) = some (.inl (cI, 24, .inl (fun i => nI ((N 4) i)))) := hM.2 4 (by decide) (by decide)
  have m5 : w (b + 19) = some (.inl (cI, 24, .inl (S 5))) := hM.2 5 (by decide) (by decide)
  have m6 : w (b + 20) = some (.inl (cI, 24, .inl (S 6))) := hM.2 6 (by decide) (by decide)
  have m7 : w (b + 21) = some (.inl (cI, 72, .inl (fun i => nI ((N 7) i)))) := hM.2 7 (by decide) (by decide)
  have m8 : w (b + 22) = some (.inl (cI, 24, .inl (fun i => nI ((N 8) i)))) := hM.2 8 (by decide) (by decide)
  have m9 : w (b + 23) = some (.inl (cI, 24, .inl (fun i => nI ((N 9) i)))) := hM.2 9 (by decide) (by decide)
  have m10 : w (b + 24) = some (.inl (cI, 24, .inl (fun i => nI ((N 10) i)))) := hM.2 10 (by decide) (by decide)
  have m11 : w (b + 25) = some (.inl (cI, 24, .inl (S 11))) := hM.2 11 (by decide) (by decide)
  have m12 : w (b + 26) = some (.inl (cI, 24, .inl (S 12))) := hM.2 12 (by decide) (by decide)
  have m13 : w (b + 27) = some (.inl (cZ, 24, .inl (fun i => nI ((N 13) i)))) := hM.2 13 (by decide) (by decide)
  have m14 : w (b + 28) = some (.inl (cI, 256, .inl (fun i => nI ((N 14) i)))) := hM.2 14 (by decide) (by decide)
  have m15 : w (b + 29) = some (.inl (cI, 24, .inl (fun i => nI ((N 15) i)))) := hM.2 15 (by decide) (by decide)
  have m16 : w (b + 30) = some (.inl (cI, 5, .inl (fun i => nI ((N 19) i)))) := hM.2 16 (by decide) (by decide)
  by_cases hok : ma_ok kr pr
  · obtain ⟨y9, hy9, rfl⟩ := kk_lim_of hok.1 (by omega)
    obtain ⟨o9, ho9, rfl⟩ := kk_lim_of hok.2 (by omega)
    refine lv_iload_n hx hb d_Mod_may_0 rfl (lv_at hl 1 rfl) ?_
    refine lv_if_lt (tgt := 20) hx hb d_Mod_may_1 (by decide) (fun cc1 => ?_) (fun cc1 => ?_)
    · rw [← nI_0] at cc1
      have cc1 : y9 < 0 := (nI_ltI (by omega) (by omega)).mp cc1
      exact absurd cc1 (by omega)
    · rw [← nI_0] at cc1
      have cc1 : ¬ (y9 < 0) := fun q => cc1 ((nI_ltI (by omega) (by omega)).mpr q)
      refine lv_iload_n hx hb d_Mod_may_4 rfl (lv_at hl 1 rfl) ?_
      refine lv_bipush (v := nI 7) hx hb d_Mod_may_5 (by decide) ?_
      refine lv_icmp_gt (tgt := 20) hx hb d_Mod_may_7 (by decide) (fun cc2 => ?_) (fun cc2 => ?_)
      · have cc2 : 7 < y9 := (nI_ltI (by omega) (by omega)).mp cc2
        exact absurd cc2 (by omega)
      · have cc2 : ¬ (7 < y9) := fun q => cc2 ((nI_ltI (by omega) (by omega)).mpr q)
        refine lv_iload_n hx hb d_Mod_may_10 rfl (lv_at hl 2 rfl) ?_
        refine lv_if_lt (tgt := 20) hx hb d_Mod_may_11 (by decide) (fun cc3 => ?_) (fun cc3 => ?_)
        · rw [← nI_0] at cc3
          have cc3 : o9 < 0 := (nI_ltI (by omega) (by omega)).mp cc3
          exact absurd cc3 (by omega)
        · rw [← nI_0] at cc3
          have cc3 : ¬ (o9 < 0) := fun q => cc3 ((nI_ltI (by omega) (by omega)).mpr q)
          refine lv_iload_n hx hb d_Mod_may_14 rfl (lv_at hl 2 rfl) ?_
          refine lv_bipush (v := nI 7) hx hb d_Mod_may_15 (by decide) ?_
          refine lv_icmp_le (tgt := 22) hx hb d_Mod_may_17 (by decide) (fun cc4 => ?_) (fun cc4 => ?_)
          · have cc4 : o9 ≤ 7 := (nI_leI (by omega) (by omega)).mp cc4
            refine lv_aload_n hx hb d_Mod_may_22 rfl (lv_at hl 0 rfl) ?_
            refine lv_iload hx hb d_Mod_may_23 (lv_at hl 4 rfl) ?_
            refine kk_callv (va_runV (As := [.int t9]) (rest := []) ⟨hx, hb, hml, hown, hts⟩ (c_Mod_findMeanings l (b := b) (N := N) (S := S) hM hn hR) (cwV 1 hts (gW_in (hd := [_, _, _, _, _]) (kk_5 wd_625 wd_627 sl_Mod_findMeanings wd_8 cw_Mod_findMeanings)) rfl rfl rfl ⟨rfl, ds_Mod_findMeanings⟩ ⟨Nat.le_of_ble_eq_true rfl, Nat.le_of_ble_eq_true rfl⟩) (kk_preV hK hP hz hBz m0 rfl) rfl rfl hl.1 rfl (lv_room (Nat.le_of_ble_eq_true rfl)) d_Mod_may_25 ⟨Nat.le_of_ble_eq_true rfl, Nat.le_of_ble_eq_true rfl⟩) hS (fun w5 sz5 H locs hp5 hP hz hS => ?_)
            obtain ⟨hM5, hf5, hs5⟩ := hp5
            have hz : H.size = sz := hz.trans hs5
            have m5_0 : w5 (b + 14) = some (.inr (9, [.int (nI ((va_up N 14 (fun j => dm_ph (dm_run (ru_M N S t9) 300 (fun _ => 1000) j))) 0 0)), .ref (b + 15), .ref (b + 16), .ref (b + 17), .ref (b + 18), .ref (b + 19), .ref (b + 20), .ref (b + 21), .ref (b + 22), .ref (b + 23), .ref (b + 24), .ref (b + 25), .ref (b + 26), .ref (b + 27), .ref (b + 28), .ref (b + 29), .int (nI ((va_up N 14 (fun j => dm_ph (dm_run (ru_M N S t9) 300 (fun _ => 1000) j))) 16 0)), .int (nI ((va_up N 14 (fun j => dm_ph (dm_run (ru_M N S t9) 300 (fun _ => 1000) j))) 17 0)), .int (nI ((va_up N 14 (fun j => dm_ph (dm_run (ru_M N S t9) 300 (fun _ => 1000) j))) 18 0)), .ref (b + 30), .int (nI ((va_up N 14 (fun j => dm_ph (dm_run (ru_M N S t9) 300 (fun _ => 1000) j))) 20 0)), .int (S 21 0), .int (S 22 0), .int (S 23 0), .int (S 24 0), .int (nI ((va_up N 14 (fun j => dm_ph (dm_run (ru_M N S t9) 300 (fun _ => 1000) j))) 25 0)), .int (nI ((va_up N 14 (fun j => dm_ph (dm_run (ru_M N S t9) 300 (fun _ => 1000) j))) 26 0))])) := hM5.1
            have m5_1 : w5 (b + 15) = some (.inl (cZ, 24, .inl (fun i => nI (((va_up N 14 (fun j => dm_ph (dm_run (ru_M N S t9) 300 (fun _ => 1000) j))) 1) i)))) := hM5.2 1 (by decide) (by decide)
            have m5_2 : w5 (b + 16) = some (.inl (cZ, 24, .inl (fun i => nI (((va_up N 14 (fun j => dm_ph (dm_run (ru_M N S t9) 300 (fun _ => 1000) j))) 2) i)))) := hM5.2 2 (by decide) (by decide)
            have m5_3 : w5 (b + 17) = some (.inl (cI, 24, .inl (fun i => nI (((va_up N 14 (fun j => dm_ph (dm_run (ru_M N S t9) 300 (fun _ => 1000) j))) 3) i)))) := hM5.2 3 (by decide) (by decide)
            have m5_4 : w5 (b + 18) = some (.inl (cI, 24, .inl (fun i => nI (((va_up N 14 (fun j => dm_ph (dm_run (ru_M N S t9) 300 (fun _ => 1000) j))) 4) i)))) := hM5.2 4 (by decide) (by decide)
            have m5_5 : w5 (b + 19) = some (.inl (cI, 24, .inl (S 5))) := hM5.2 5 (by decide) (by decide)
            have m5_6 : w5 (b + 20) = some (.inl (cI, 24, .inl (S 6))) := hM5.2 6 (by decide) (by decide)
            have m5_7 : w5 (b + 21) = some (.inl (cI, 72, .inl (fun i => nI (((va_up N 14 (fun j => dm_ph (dm_run (ru_M N S t9) 300 (fun _ => 1000) j))) 7) i)))) := hM5.2 7 (by decide) (by decide)
            have m5_8 : w5 (b + 22) = some (.inl (cI, 24, .inl (fun i => nI (((va_up N 14 (fun j => dm_ph (dm_run (ru_M N S t9) 300 (fun _ => 1000) j))) 8) i)))) := hM5.2 8 (by decide) (by decide)
            have m5_9 : w5 (b + 23) = some (.inl (cI, 24, .inl (fun i => nI (((va_up N 14 (fun j => dm_ph (dm_run (ru_M N S t9) 300 (fun _ => 1000) j))) 9) i)))) := hM5.2 9 (by decide) (by decide)
            have m5_10 : w5 (b + 24) = some (.inl (cI, 24, .inl (fun i => nI (((va_up N 14 (fun j => dm_ph (dm_run (ru_M N S t9) 300 (fun _ => 1000) j))) 10) i)))) := hM5.2 10 (by decide) (by decide)
            have m5_11 : w5 (b + 25) = some (.inl (cI, 24, .inl (S 11))) := hM5.2 11 (by decide) (by decide)
            have m5_12 : w5 (b + 26) = some (.inl (cI, 24, .inl (S 12))) := hM5.2 12 (by decide) (by decide)
            have m5_13 : w5 (b + 27) = some (.inl (cZ, 24, .inl (fun i => nI (((va_up N 14 (fun j => dm_ph (dm_run (ru_M N S t9) 300 (fun _ => 1000) j))) 13) i)))) := hM5.2 13 (by decide) (by decide)
            have m5_14 : w5 (b + 28) = some (.inl (cI, 256, .inl (fun i => nI (((va_up N 14 (fun j => dm_ph (dm_run (ru_M N S t9) 300 (fun _ => 1000) j))) 14) i)))) := hM5.2 14 (by decide) (by decide)
            have m5_15 : w5 (b + 29) = some (.inl (cI, 24, .inl (fun i => nI (((va_up N 14 (fun j => dm_ph (dm_run (ru_M N S t9) 300 (fun _ => 1000) j))) 15) i)))) := hM5.2 15 (by decide) (by decide)
            have m5_16 : w5 (b + 30) = some (.inl (cI, 5, .inl (fun i => nI (((va_up N 14 (fun j => dm_ph (dm_run (ru_M N S t9) 300 (fun _ => 1000) j))) 19) i)))) := hM5.2 16 (by decide) (by decide)
            have m5_14 : w5 (b + 28) = some (.inl (cI, 256, .inl (fun i => nI (dm_ph ((me_V N S t9) i))))) := m5_14
            refine lv_aload_n hx hb d_Mod_may_28 rfl (lv_at hl 0 rfl) ?_
            refine lv_iload_n hx hb d_Mod_may_29 rfl (lv_at hl 1 rfl) ?_
            refine lv_iload_n hx hb d_Mod_may_30 rfl (lv_at hl 2 rfl) ?_
            refine lv_iload_n hx hb d_Mod_may_31 rfl (lv_at hl 3 rfl) ?_
            refine lv_iload hx hb d_Mod_may_32 (lv_at hl 4 rfl) ?_
            refine kk_callv (va_runV (As := [.int (nI y9), .int (nI o9), .int z9, .int t9]) (rest := []) ⟨hx, hb, hml, hown, hts⟩ (c_Mod_findLeading l (b := b) (N := (va_up N 14 (fun j => dm_ph (dm_run (ru_M N S t9) 300 (fun _ => 1000) j)))) (S := S) (v9 := (me_V N S t9)) hM5 hn hR (by omega) (by omega) rfl (me_V_le _ _ _)) (cwV 4 hts (gW_in (hd := [_, _, _, _, _]) (kk_5 wd_655 wd_657 sl_Mod_findLeading wd_8 cw_Mod_findLeading)) rfl rfl rfl ⟨rfl, ds_Mod_findLeading⟩ ⟨Nat.le_of_ble_eq_true rfl, Nat.le_of_ble_eq_true rfl⟩) (kk_preV hK hP hz hBz m5_0 rfl) rfl rfl hl.1 rfl (lv_room (Nat.le_of_ble_eq_true rfl)) d_Mod_may_34 ⟨Nat.le_of_ble_eq_true rfl, Nat.le_of_ble_eq_true rfl⟩) hS (fun w6 sz6 H locs hp6 hP hz hS => ?_)
            obtain ⟨hM6, hf6, hs6⟩ := hp6
            have hz : H.size = sz := hz.trans hs6
            have hM6 : mo_I b cI cZ (va_up (va_up N 14 (fun j => dm_ph (dm_run (ru_M N S t9) 300 (fun _ => 1000) j))) 15 (fun j => dm_ph (ld_U N S (me_V N S t9) y9 o9 z9 t9 j))) S w6 := hM6
            have m6_0 : w6 (b + 14) = some (.inr (9, [.int (nI ((va_up (va_up N 14 (fun j => dm_ph (dm_run (ru_M N S t9) 300 (fun _ => 1000) j))) 15 (fun j => dm_ph (ld_U N S (me_V N S t9) y9 o9 z9 t9 j))) 0 0)), .ref (b + 15), .ref (b + 16), .ref (b + 17), .ref (b + 18), .ref (b + 19), .ref (b + 20), .ref (b + 21), .ref (b + 22), .ref (b + 23), .ref (b + 24), .ref (b + 25), .ref (b + 26), .ref (b + 27), .ref (b + 28), .ref (b + 29), .int (nI ((va_up (va_up N 14 (fun j => dm_ph (dm_run (ru_M N S t9) 300 (fun _ => 1000) j))) 15 (fun j => dm_ph (ld_U N S (me_V N S t9) y9 o9 z9 t9 j))) 16 0)), .int (nI ((va_up (va_up N 14 (fun j => dm_ph (dm_run (ru_M N S t9) 300 (fun _ => 1000) j))) 15 (fun j => dm_ph (ld_U N S (me_V N S t9) y9 o9 z9 t9 j))) 17 0)), .int (nI ((va_up (va_up N 14 (fun j => dm_ph (dm_run (ru_M N S t9) 300 (fun _ => 1000) j))) 15 (fun j => dm_ph (ld_U N S (me_V N S t9) y9 o9 z9 t9 j))) 18 0)), .ref (b + 30), .int (nI ((va_up (va_up N 14 (fun j => dm_ph (dm_run (ru_M N S t9) 300 (fun _ => 1000) j))) 15 (fun j => dm_ph (ld_U N S (me_V N S t9) y9 o9 z9 t9 j))) 20 0)), .int (S 21 0), .int (S 22 0), .int (S 23 0), .int (S 24 0), .int (nI ((va_up (va_up N 14 (fun j => dm_ph (dm_run (ru_M N S t9) 300 (fun _ => 1000) j))) 15 (fun j => dm_ph (ld_U N S (me_V N S t9) y9 o9 z9 t9 j))) 25 0)), .int (nI ((va_up (va_up N 14 (fun j => dm_ph (dm_run (ru_M N S t9) 300 (fun _ => 1000) j))) 15 (fun j => dm_ph (ld_U N S (me_V N S t9) y9 o9 z9 t9 j))) 26 0))])) := hM6.1
            have m6_1 : w6 (b + 15) = some (.inl (cZ, 24, .inl (fun i => nI (((va_up (va_up N 14 (fun j => dm_ph (dm_run (ru_M N S t9) 300 (fun _ => 1000) j))) 15 (fun j => dm_ph (ld_U N S (me_V N S t9) y9 o9 z9 t9 j))) 1) i)))) := hM6.2 1 (by decide) (by decide)
            have m6_2 : w6 (b + 16) = some (.inl (cZ, 24, .inl (fun i => nI (((va_up (va_up N 14 (fun j => dm_ph (dm_run (ru_M N S t9) 300 (fun _ => 1000) j))) 15 (fun j => dm_ph (ld_U N S (me_V N S t9) y9 o9 z9 t9 j))) 2) i)))) := hM6.2 2 (by decide) (by decide)
            have m6_3 : w6 (b + 17) = some (.inl (cI, 24, .inl (fun i => nI (((va_up (va_up N 14 (fun j => dm_ph (dm_run (ru_M N S t9) 300 (fun _ => 1000) j))) 15 (fun j => dm_ph (ld_U N S (me_V N S t9) y9 o9 z9 t9 j))) 3) i)))) := hM6.2 3 (by decide) (by decide)
            have m6_4 : w6 (b + 18) = some (.inl (cI, 24, .inl (fun i => nI (((va_up (va_up N 14 (fun j => dm_ph (dm_run (ru_M N S t9) 300 (fun _ => 1000) j))) 15 (fun j => dm_ph (ld_U N S (me_V N S t9) y9 o9 z9 t9 j))) 4) i)))) := hM6.2 4 (by decide) (by decide)
            have m6_5 : w6 (b + 19) = some (.inl (cI, 24, .inl (S 5))) := hM6.2 5 (by decide) (by decide)
            have m6_6 : w6 (b + 20) = some (.inl (cI, 24, .inl (S 6))) := hM6.2 6 (by decide) (by decide)
            have m6_7 : w6 (b + 21) = some (.inl (cI, 72, .inl (fun i => nI (((va_up (va_up N 14 (fun j => dm_ph (dm_run (ru_M N S t9) 300 (fun _ => 1000) j))) 15 (fun j => dm_ph (ld_U N S (me_V N S t9) y9 o9 z9 t9 j))) 7) i)))) := hM6.2 7 (by decide) (by decide)
            have m6_8 : w6 (b + 22) = some (.inl (cI, 24, .inl (fun i => nI (((va_up (va_up N 14 (fun j => dm_ph (dm_run (ru_M N S t9) 300 (fun _ => 1000) j))) 15 (fun j => dm_ph (ld_U N S (me_V N S t9) y9 o9 z9 t9 j))) 8) i)))) := hM6.2 8 (by decide) (by decide)
            have m6_9 : w6 (b + 23) = some (.inl (cI, 24, .inl (fun i => nI (((va_up (va_up N 14 (fun j => dm_ph (dm_run (ru_M N S t9) 300 (fun _ => 1000) j))) 15 (fun j => dm_ph (ld_U N S (me_V N S t9) y9 o9 z9 t9 j))) 9) i)))) := hM6.2 9 (by decide) (by decide)
            have m6_10 : w6 (b + 24) = some (.inl (cI, 24, .inl (fun i => nI (((va_up (va_up N 14 (fun j => dm_ph (dm_run (ru_M N S t9) 300 (fun _ => 1000) j))) 15 (fun j => dm_ph (ld_U N S (me_V N S t9) y9 o9 z9 t9 j))) 10) i)))) := hM6.2 10 (by decide) (by decide)
            have m6_11 : w6 (b + 25) = some (.inl (cI, 24, .inl (S 11))) := hM6.2 11 (by decide) (by decide)
            have m6_12 : w6 (b + 26) = some (.inl (cI, 24, .inl (S 12))) := hM6.2 12 (by decide) (by decide)
            have m6_13 : w6 (b + 27) = some (.inl (cZ, 24, .inl (fun i => nI (((va_up (va_up N 14 (fun j => dm_ph (dm_run (ru_M N S t9) 300 (fun _ => 1000) j))) 15 (fun j => dm_ph (ld_U N S (me_V N S t9) y9 o9 z9 t9 j))) 13) i)))) := hM6.2 13 (by decide) (by decide)
            have m6_14 : w6 (b + 28) = some (.inl (cI, 256, .inl (fun i => nI (((va_up (va_up N 14 (fun j => dm_ph (dm_run (ru_M N S t9) 300 (fun _ => 1000) j))) 15 (fun j => dm_ph (ld_U N S (me_V N S t9) y9 o9 z9 t9 j))) 14) i)))) := hM6.2 14 (by decide) (by decide)
            have m6_15 : w6 (b + 29) = some (.inl (cI, 24, .inl (fun i => nI (((va_up (va_up N 14 (fun j => dm_ph (dm_run (ru_M N S t9) 300 (fun _ => 1000) j))) 15 (fun j => dm_ph (ld_U N S (me_V N S t9) y9 o9 z9 t9 j))) 15) i)))) := hM6.2 15 (by decide) (by decide)
            have m6_16 : w6 (b + 30) = some (.inl (cI, 5, .inl (fun i => nI (((va_up (va_up N 14 (fun j => dm_ph (dm_run (ru_M N S t9) 300 (fun _ => 1000) j))) 15 (fun j => dm_ph (ld_U N S (me_V N S t9) y9 o9 z9 t9 j))) 19) i)))) := hM6.2 16 (by decide) (by decide)
            have m6_15 : w6 (b + 29) = some (.inl (cI, 24, .inl (fun i => nI (dm_ph ((ld_U N S (me_V N S t9) y9 o9 z9 t9) i))))) := m6_15
            refine lv_aload_n hx hb d_Mod_may_37 rfl (lv_at hl 0 rfl) ?_
            refine lv_bipush (v := nI 8) hx hb d_Mod_may_38 (by decide) ?_
            refine vp_callSi (va_Run.run (va_runV (As := [.int (nI 8)]) (rest := []) ⟨hx, hb, hml, hown, hts⟩ (c_Mod_leadOf l (b := b) (N := (va_up (va_up N 14 (fun j => dm_ph (dm_run (ru_M N S t9) 300 (fun _ => 1000) j))) 15 (fun j => dm_ph (ld_U N S (me_V N S t9) y9 o9 z9 t9 j)))) (S := S) (u9 := (ld_U N S (me_V N S t9) y9 o9 z9 t9)) hM6 hn hR (by omega) rfl (ld_U_le _ _ _ _ _ _ _)) (cwV 1 hts (gW_in (hd := [_, _, _, _, _]) (kk_5 wd_671 wd_673 sl_Mod_leadOf wd_8 cw_Mod_leadOf)) rfl rfl rfl ⟨rfl, ds_Mod_leadOf⟩ ⟨Nat.le_of_ble_eq_true rfl, Nat.le_of_ble_eq_true rfl⟩) (kk_preV hK hP hz hBz m6_0 rfl) rfl rfl hl.1 rfl (lv_room (Nat.le_of_ble_eq_true rfl)) d_Mod_may_40 ⟨Nat.le_of_ble_eq_true rfl, Nat.le_of_ble_eq_true rfl⟩)) (fun r7 hr7 => ?_)
            subst hr7
            refine lv_istore hx hb d_Mod_may_43 hl (by decide) rfl (fun ls hl => ?_)
            have hl : lv_has ls 6 [(5, .int (nI (dm_ph (dm_L (N 3) (ld_U N S (me_V N S t9) y9 o9 z9 t9) (N 0 0) 8)))), (0, .ref (b + 14)), (1, .int (nI y9)), (2, .int (nI o9)), (3, .int z9), (4, .int t9)] := hl
            refine lv_iload hx hb d_Mod_may_45 (lv_at hl 0 rfl) ?_
            refine lv_sipush (v := nI 5000) hx hb d_Mod_may_47 (by decide) ?_
            have hq1 := dm_ph_le (dm_L (N 3) (ld_U N S (me_V N S t9) y9 o9 z9 t9) (N 0 0) 8)
            have hq2 := dm_L_1000 (iss := N 3) (u := ld_U N S (me_V N S t9) y9 o9 z9 t9) (N 0 0) 8
            refine lv_icmp_ne (tgt := 57) hx hb d_Mod_may_50 (by decide) (fun cc8 => ?_) (fun cc8 => ?_)
            · have cc8 : ¬ (dm_ph (dm_L (N 3) (ld_U N S (me_V N S t9) y9 o9 z9 t9) (N 0 0) 8) = 5000) := fun q => cc8 ((nI_eq (by omega) (by omega)).mpr q)
              refine lv_iload hx hb d_Mod_may_57 (lv_at hl 0 rfl) ?_
              exact W.iret hx hb hr (fun t ht hW => ⟨⟨_, (w6, sz), rfl, ⟨(by rw [ma_r_pos hok (by omega) (by omega), if_neg (fun q => cc8 ((dm_ph_n hq2).mpr q))]; exact congrArg nI (dm_ph_id hq2 (fun q => cc8 ((dm_ph_n hq2).mpr q)))), (by rw [ma_N_pos hok (by omega) (by omega)]; exact mo_mk m6_0 m6_1 m6_2 m6_3 m6_4 m6_5 m6_6 m6_7 m6_8 m6_9 m6_10 m6_11 m6_12 m6_13 m6_14 m6_15 m6_16), (fun j hj => (hf6 j hj).trans (hf5 j hj)), rfl⟩, by rw [ht]; exact hP, by rw [ht]; exact hz⟩, hS.F ht⟩) hS.2.2 d_Mod_may_59
            · have cc8 : dm_ph (dm_L (N 3) (ld_U N S (me_V N S t9) y9 o9 z9 t9) (N 0 0) 8) = 5000 := (nI_eq (by omega) (by omega)).mp cc8
              refine lv_iconst (v := (-1)) hx hb d_Mod_may_53 (by decide) ?_
              refine lv_goto (tgt := 59) hx hb d_Mod_may_54 (by decide) ?_
              exact W.iret hx hb hr (fun t ht hW => ⟨⟨_, (w6, sz), rfl, ⟨(by rw [ma_r_pos hok (by omega) (by omega), if_pos ((dm_ph_n hq2).mp cc8)]), (by rw [ma_N_pos hok (by omega) (by omega)]; exact mo_mk m6_0 m6_1 m6_2 m6_3 m6_4 m6_5 m6_6 m6_7 m6_8 m6_9 m6_10 m6_11 m6_12 m6_13 m6_14 m6_15 m6_16), (fun j hj => (hf6 j hj).trans (hf5 j hj)), rfl⟩, by rw [ht]; exact hP, by rw [ht]; exact hz⟩, hS.F ht⟩) hS.2.2 d_Mod_may_59
          · have cc4 : ¬ (o9 ≤ 7) := fun q => cc4 ((nI_leI (by omega) (by omega)).mpr q)
            exact absurd cc4 (by omega)
  · refine lv_iload_n hx hb d_Mod_may_0 rfl (lv_at hl 1 rfl) ?_
    refine lv_if_lt (tgt := 20) hx hb d_Mod_may_1 (by decide) (fun cc9 => ?_) (fun cc9 => ?_)
    · refine lv_iconst (v := (-1)) hx hb d_Mod_may_20 (by decide) ?_
      exact W.iret hx hb hr (fun t ht hW => ⟨⟨_, (w, sz), rfl, ⟨(if_neg hok).symm, (by rw [show ma_N N S _ _ z9 t9 = N from if_neg hok]; exact mo_mk m0 m1 m2 m3 m4 m5 m6 m7 m8 m9 m10 m11 m12 m13 m14 m15 m16), (fun j hj => rfl), rfl⟩, by rw [ht]; exact hP, by rw [ht]; exact hz⟩, hS.F ht⟩) hS.2.2 d_Mod_may_21
    · refine lv_iload_n hx hb d_Mod_may_4 rfl (lv_at hl 1 rfl) ?_
      refine lv_bipush (v := nI 7) hx hb d_Mod_may_5 (by decide) ?_
      refine lv_icmp_gt (tgt := 20) hx hb d_Mod_may_7 (by decide) (fun cc10 => ?_) (fun cc10 => ?_)
      · refine lv_iconst (v := (-1)) hx hb d_Mod_may_20 (by decide) ?_
        exact W.iret hx hb hr (fun t ht hW => ⟨⟨_, (w, sz), rfl, ⟨(if_neg hok).symm, (by rw [show ma_N N S _ _ z9 t9 = N from if_neg hok]; exact mo_mk m0 m1 m2 m3 m4 m5 m6 m7 m8 m9 m10 m11 m12 m13 m14 m15 m16), (fun j hj => rfl), rfl⟩, by rw [ht]; exact hP, by rw [ht]; exact hz⟩, hS.F ht⟩) hS.2.2 d_Mod_may_21
      · refine lv_iload_n hx hb d_Mod_may_10 rfl (lv_at hl 2 rfl) ?_
        refine lv_if_lt (tgt := 20) hx hb d_Mod_may_11 (by decide) (fun cc11 => ?_) (fun cc11 => ?_)
        · refine lv_iconst (v := (-1)) hx hb d_Mod_may_20 (by decide) ?_
          exact W.iret hx hb hr (fun t ht hW => ⟨⟨_, (w, sz), rfl, ⟨(if_neg hok).symm, (by rw [show ma_N N S _ _ z9 t9 = N from if_neg hok]; exact mo_mk m0 m1 m2 m3 m4 m5 m6 m7 m8 m9 m10 m11 m12 m13 m14 m15 m16), (fun j hj => rfl), rfl⟩, by rw [ht]; exact hP, by rw [ht]; exact hz⟩, hS.F ht⟩) hS.2.2 d_Mod_may_21
        · refine lv_iload_n hx hb d_Mod_may_14 rfl (lv_at hl 2 rfl) ?_
          refine lv_bipush (v := nI 7) hx hb d_Mod_may_15 (by decide) ?_
          refine lv_icmp_le (tgt := 22) hx hb d_Mod_may_17 (by decide) (fun cc12 => ?_) (fun cc12 => ?_)
          · exact absurd ⟨⟨cc9, fun q => cc10 ((kk_gtm 7 8 rfl (by decide)).mpr q)⟩, cc11, fun q => (Int32.not_lt.mpr cc12) ((kk_gtm 7 8 rfl (by decide)).mpr q)⟩ hok
          · refine lv_iconst (v := (-1)) hx hb d_Mod_may_20 (by decide) ?_
            exact W.iret hx hb hr (fun t ht hW => ⟨⟨_, (w, sz), rfl, ⟨(if_neg hok).symm, (by rw [show ma_N N S _ _ z9 t9 = N from if_neg hok]; exact mo_mk m0 m1 m2 m3 m4 m5 m6 m7 m8 m9 m10 m11 m12 m13 m14 m15 m16), (fun j hj => rfl), rfl⟩, by rw [ht]; exact hP, by rw [ht]; exact hz⟩, hS.F ht⟩) hS.2.2 d_Mod_may_21
