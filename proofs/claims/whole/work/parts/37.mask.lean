theorem d_Mod_meant_0 : decode k_Mod_meant 0 = .ok (.iload_n 1, 1) := by decide +kernel
theorem d_Mod_meant_1 : decode k_Mod_meant 1 = .ok (.invokestatic 69, 3) := by decide +kernel
theorem d_Mod_meant_4 : decode k_Mod_meant 4 = .ok (.ifCond .ne 5, 3) := by decide +kernel
theorem d_Mod_meant_7 : decode k_Mod_meant 7 = .ok (.iconst (-1), 1) := by decide +kernel
theorem d_Mod_meant_8 : decode k_Mod_meant 8 = .ok (.ireturn, 1) := by decide +kernel
theorem d_Mod_meant_9 : decode k_Mod_meant 9 = .ok (.aload_n 0, 1) := by decide +kernel
theorem d_Mod_meant_10 : decode k_Mod_meant 10 = .ok (.iload_n 2, 1) := by decide +kernel
theorem d_Mod_meant_11 : decode k_Mod_meant 11 = .ok (.invokevirtual 101, 3) := by decide +kernel
theorem d_Mod_meant_14 : decode k_Mod_meant 14 = .ok (.iconst 0, 1) := by decide +kernel
theorem d_Mod_meant_15 : decode k_Mod_meant 15 = .ok (.istore_n 3, 1) := by decide +kernel
theorem d_Mod_meant_16 : decode k_Mod_meant 16 = .ok (.iconst 0, 1) := by decide +kernel
theorem d_Mod_meant_17 : decode k_Mod_meant 17 = .ok (.istore 4, 2) := by decide +kernel
theorem d_Mod_meant_19 : decode k_Mod_meant 19 = .ok (.iload 4, 2) := by decide +kernel
theorem d_Mod_meant_21 : decode k_Mod_meant 21 = .ok (.bipush 8, 2) := by decide +kernel
theorem d_Mod_meant_23 : decode k_Mod_meant 23 = .ok (.if_icmp .ge 33, 3) := by decide +kernel
theorem d_Mod_meant_26 : decode k_Mod_meant 26 = .ok (.aload_n 0, 1) := by decide +kernel
theorem d_Mod_meant_27 : decode k_Mod_meant 27 = .ok (.iload_n 1, 1) := by decide +kernel
theorem d_Mod_meant_28 : decode k_Mod_meant 28 = .ok (.iload 4, 2) := by decide +kernel
theorem d_Mod_meant_30 : decode k_Mod_meant 30 = .ok (.invokevirtual 95, 3) := by decide +kernel
theorem d_Mod_meant_33 : decode k_Mod_meant 33 = .ok (.sipush 5000, 3) := by decide +kernel
theorem d_Mod_meant_36 : decode k_Mod_meant 36 = .ok (.if_icmp .ge 12, 3) := by decide +kernel
theorem d_Mod_meant_39 : decode k_Mod_meant 39 = .ok (.iload_n 3, 1) := by decide +kernel
theorem d_Mod_meant_40 : decode k_Mod_meant 40 = .ok (.iconst 1, 1) := by decide +kernel
theorem d_Mod_meant_41 : decode k_Mod_meant 41 = .ok (.iload 4, 2) := by decide +kernel
theorem d_Mod_meant_43 : decode k_Mod_meant 43 = .ok (.ishl, 1) := by decide +kernel
theorem d_Mod_meant_44 : decode k_Mod_meant 44 = .ok (.iadd, 1) := by decide +kernel
theorem d_Mod_meant_45 : decode k_Mod_meant 45 = .ok (.goto 4, 3) := by decide +kernel
theorem d_Mod_meant_48 : decode k_Mod_meant 48 = .ok (.iload_n 3, 1) := by decide +kernel
theorem d_Mod_meant_49 : decode k_Mod_meant 49 = .ok (.istore_n 3, 1) := by decide +kernel
theorem d_Mod_meant_50 : decode k_Mod_meant 50 = .ok (.iinc 4 1, 3) := by decide +kernel
theorem d_Mod_meant_53 : decode k_Mod_meant 53 = .ok (.goto (-34), 3) := by decide +kernel
theorem d_Mod_meant_56 : decode k_Mod_meant 56 = .ok (.iload_n 3, 1) := by decide +kernel
theorem d_Mod_meant_57 : decode k_Mod_meant 57 = .ok (.ireturn, 1) := by decide +kernel
set_option maxHeartbeats 4000000 in
set_option maxRecDepth 100000 in
theorem c_Mod_meant (l : Launch) {B : Nat} {D : va_G} {cI cZ cQ : ClassId} {w : mm_M} {sz : Nat} {b : Nat} {N : Nat → Nat → Nat} {S : Nat → Nat → Int32} {sr t9 : Int32} (hM : mo_I b cI cZ N S w) (hn : N 0 0 ≤ 24) (hR : rg_I N) : Met l y_Mod_meant ws_Mod_meant (kk_rm 5 0 0) (kk_Pc B D cI cZ cQ [.ref (b + 14), .int sr, .int t9] w sz) (kk_Qi B D (fun r w' sz' => r = me_r N S sr t9 ∧ mo_I b cI cZ (me_N N S sr t9) S w' ∧ (∀ j, ¬ (b + 14 ≤ j ∧ j < b + 31) → w' j = w j) ∧ sz' = sz)) 0 0 (fun q => B ≤ q) := by
  refine Met.ofW (cc := k_Mod_meant) (maxL := 5) (ret := (some .int)) (by decide) rfl ?_
  intro p e s m args below meth c s₁ BB hml hv
  obtain ⟨rfl, hK, hP, hz, hBz⟩ := hv
  have hx := BB.exec
  have hb := BB.bytes
  have hr := BB.returns
  have hts := atoms_spec (ws := ws_Mod_meant) BB.pre
  have hown : s.vm.findClass "DelegationClosureModel" = some m.cls := findClass_of_methodNamed BB.named
  have hlocks := BB.notSynchronized
  have hS : mm_S B s.heap s.heap [] := va_S.rf
  have hl := lv_entry ([.ref (b + 14), .int sr, .int t9]) (n := 5) (Nat.le_of_ble_eq_true rfl)
  rw [lg_entry_eq]
  generalize (lg_sl ([.ref (b + 14), .int sr, .int t9]) ++ List.replicate (5 - (lg_sl ([.ref (b + 14), .int sr, .int t9])).length) Slot.unset).toArray = ls at hl ⊢
  have hl : lv_has ls 5 [(0, .ref (b + 14)), (1, .int sr), (2, .int t9)] := hl
  have m0 : w (b + 14) = some (.inr (9, [.int (nI (N 0 0)), .ref (b + 15), .ref (b + 16), .ref (b + 17), .ref (b + 18), .ref (b + 19), .ref (b + 20), .ref (b + 21), .ref (b + 22), .ref (b + 23), .ref (b + 24), .ref (b + 25), .ref (b + 26), .ref (b + 27), .ref (b + 28), .ref (b + 29), .int (nI (N 16 0)), .int (nI (N 17 0)), .int (nI (N 18 0)), .ref (b + 30), .int (nI (N 20 0)), .int (S 21 0), .int (S 22 0), .int (S 23 0), .int (S 24 0), .int (nI (N 25 0)), .int (nI (N 26 0))])) := hM.1
  have m1 : w (b + 15) = some (.inl (cZ, 24, .inl (fun i => nI ((N 1) i)))) := hM.2 1 (by decide) (by decide)
  have m2 : w (b + 16) = some (.inl (cZ, 24, .inl (fun i => nI ((N 2) i)))) := hM.2 2 (by decide) (by decide)
  have m3 : w (b + 17) = some (.inl (cI, 24, .inl (fun i => nI ((N 3) i)))) := hM.2 3 (by decide) (by decide)
  have m4 : w (b + 18) = some (.inl (cI, 24, .inl (fun i => nI ((N 4) i)))) := hM.2 4 (by decide) (by decide)
  have m5 : w (b + 19) = some (.inl (cI, 24, .inl (S 5))) := hM.2 5 (by decide) (by decide)
  have m6 : w (b + 20) = some (.inl (cI, 24, .inl (S 6))) := hM.2 6 (by decide) (by decide)
  have m7 : w (b + 21) = some (.inl (cI, 72, .inl (fun i => nI ((N 7) i)))) := hM.2 7 (by decide) (by decide)
  have m8 : w (b + 22) = some (.inl (cI, 24, .inl (fun i => nI ((N 8) i)))) := hM.2 8 (by decide) (by decide)
  have m9 : w (b + 23) = some (.inl (cI, 24, .inl (fun i => nI ((N 9) i)))) := hM.2 9 (by decide) (by decide)
  have m10 : w (b + 24) = some (.inl (cI, 24, .inl (fun i => nI ((N 10) i)))) := hM.2 10 (by decide) (by decide)
  have m11 : w (b + 25) = some (.inl (cI, 24, .inl (S 11))) := hM.2 11 (by decide) (by decide)
  have m12 : w (b + 26) = some (.inl (cI, 24, .inl (S 12))) := hM.2 12 (by decide) (by decide)
  have m13 : w (b + 27) = some (.inl (cZ, 24, .inl (fun i => nI ((N 13) i)))) := hM.2 13 (by decide) (by decide)
  have m14 : w (b + 28) = some (.inl (cI, 256, .inl (fun i => nI ((N 14) i)))) := hM.2 14 (by decide) (by decide)
  have m15 : w (b + 29) = some (.inl (cI, 24, .inl (fun i => nI ((N 15) i)))) := hM.2 15 (by decide) (by decide)
  have m16 : w (b + 30) = some (.inl (cI, 5, .inl (fun i => nI ((N 19) i)))) := hM.2 16 (by decide) (by decide)
  refine lv_iload_n hx hb d_Mod_meant_0 rfl (lv_at hl 1 rfl) ?_
  refine vp_callSi (va_Run.run (va_runS (As := [.int sr]) (rest := []) ⟨hx, hb, hml, hown, hts⟩ (c_Mod_isSubject l ) (va_cwS 1 hts (gW_in (hd := [_, _, _, _]) (kk_4 wd_577 wd_578 wd_8 cw_Mod_isSubject)) rfl rfl rfl ds_Mod_isSubject ⟨Nat.le_of_ble_eq_true rfl, Nat.le_of_ble_eq_true rfl⟩) (kk_preS hK hP hz hBz) rfl rfl hl.1 rfl (lv_room (Nat.le_of_ble_eq_true rfl)) d_Mod_meant_1 ⟨Nat.le_of_ble_eq_true rfl, Nat.le_of_ble_eq_true rfl⟩)) (fun r1 hr1 => ?_)
  subst hr1
  refine lv_if_ne (tgt := 9) hx hb d_Mod_meant_4 (by decide) (fun cc2 => ?_) (fun cc2 => ?_)
  · have cc2 := kk_b1 cc2
    obtain ⟨n9, hsn, hn9⟩ := wf_sub_of cc2
    refine lv_aload_n hx hb d_Mod_meant_9 rfl (lv_at hl 0 rfl) ?_
    refine lv_iload_n hx hb d_Mod_meant_10 rfl (lv_at hl 2 rfl) ?_
    refine kk_callv (va_runV (As := [.int t9]) (rest := []) ⟨hx, hb, hml, hown, hts⟩ (c_Mod_findMeanings l (b := b) (N := N) (S := S) hM hn hR) (cwV 1 hts (gW_in (hd := [_, _, _, _, _]) (kk_5 wd_625 wd_627 sl_Mod_findMeanings wd_8 cw_Mod_findMeanings)) rfl rfl rfl ⟨rfl, ds_Mod_findMeanings⟩ ⟨Nat.le_of_ble_eq_true rfl, Nat.le_of_ble_eq_true rfl⟩) (kk_preV hK hP hz hBz m0 rfl) rfl rfl hl.1 rfl (lv_room (Nat.le_of_ble_eq_true rfl)) d_Mod_meant_11 ⟨Nat.le_of_ble_eq_true rfl, Nat.le_of_ble_eq_true rfl⟩) hS (fun w3 sz3 H locs hp3 hP hz hS => ?_)
    obtain ⟨hM3, hf3, hs3⟩ := hp3
    have hz : H.size = sz := hz.trans hs3
    have m3_0 : w3 (b + 14) = some (.inr (9, [.int (nI ((va_up N 14 (fun j => dm_ph (dm_run (ru_M N S t9) 300 (fun _ => 1000) j))) 0 0)), .ref (b + 15), .ref (b + 16), .ref (b + 17), .ref (b + 18), .ref (b + 19), .ref (b + 20), .ref (b + 21), .ref (b + 22), .ref (b + 23), .ref (b + 24), .ref (b + 25), .ref (b + 26), .ref (b + 27), .ref (b + 28), .ref (b + 29), .int (nI ((va_up N 14 (fun j => dm_ph (dm_run (ru_M N S t9) 300 (fun _ => 1000) j))) 16 0)), .int (nI ((va_up N 14 (fun j => dm_ph (dm_run (ru_M N S t9) 300 (fun _ => 1000) j))) 17 0)), .int (nI ((va_up N 14 (fun j => dm_ph (dm_run (ru_M N S t9) 300 (fun _ => 1000) j))) 18 0)), .ref (b + 30), .int (nI ((va_up N 14 (fun j => dm_ph (dm_run (ru_M N S t9) 300 (fun _ => 1000) j))) 20 0)), .int (S 21 0), .int (S 22 0), .int (S 23 0), .int (S 24 0), .int (nI ((va_up N 14 (fun j => dm_ph (dm_run (ru_M N S t9) 300 (fun _ => 1000) j))) 25 0)), .int (nI ((va_up N 14 (fun j => dm_ph (dm_run (ru_M N S t9) 300 (fun _ => 1000) j))) 26 0))])) := hM3.1
    have m3_1 : w3 (b + 15) = some (.inl (cZ, 24, .inl (fun i => nI (((va_up N 14 (fun j => dm_ph (dm_run (ru_M N S t9) 300 (fun _ => 1000) j))) 1) i)))) := hM3.2 1 (by decide) (by decide)
    have m3_2 : w3 (b + 16) = some (.inl (cZ, 24, .inl (fun i => nI (((va_up N 14 (fun j => dm_ph (dm_run (ru_M N S t9) 300 (fun _ => 1000) j))) 2) i)))) := hM3.2 2 (by decide) (by decide)
    have m3_3 : w3 (b + 17) = some (.inl (cI, 24, .inl (fun i => nI (((va_up N 14 (fun j => dm_ph (dm_run (ru_M N S t9) 300 (fun _ => 1000) j))) 3) i)))) := hM3.2 3 (by decide) (by decide)
    have m3_4 : w3 (b + 18) = some (.inl (cI, 24, .inl (fun i => nI (((va_up N 14 (fun j => dm_ph (dm_run (ru_M N S t9) 300 (fun _ => 1000) j))) 4) i)))) := hM3.2 4 (by decide) (by decide)
    have m3_5 : w3 (b + 19) = some (.inl (cI, 24, .inl (S 5))) := hM3.2 5 (by decide) (by decide)
    have m3_6 : w3 (b + 20) = some (.inl (cI, 24, .inl (S 6))) := hM3.2 6 (by decide) (by decide)
    have m3_7 : w3 (b + 21) = some (.inl (cI, 72, .inl (fun i => nI (((va_up N 14 (fun j => dm_ph (dm_run (ru_M N S t9) 300 (fun _ => 1000) j))) 7) i)))) := hM3.2 7 (by decide) (by decide)
    have m3_8 : w3 (b + 22) = some (.inl (cI, 24, .inl (fun i => nI (((va_up N 14 (fun j => dm_ph (dm_run (ru_M N S t9) 300 (fun _ => 1000) j))) 8) i)))) := hM3.2 8 (by decide) (by decide)
    have m3_9 : w3 (b + 23) = some (.inl (cI, 24, .inl (fun i => nI (((va_up N 14 (fun j => dm_ph (dm_run (ru_M N S t9) 300 (fun _ => 1000) j))) 9) i)))) := hM3.2 9 (by decide) (by decide)
    have m3_10 : w3 (b + 24) = some (.inl (cI, 24, .inl (fun i => nI (((va_up N 14 (fun j => dm_ph (dm_run (ru_M N S t9) 300 (fun _ => 1000) j))) 10) i)))) := hM3.2 10 (by decide) (by decide)
    have m3_11 : w3 (b + 25) = some (.inl (cI, 24, .inl (S 11))) := hM3.2 11 (by decide) (by decide)
    have m3_12 : w3 (b + 26) = some (.inl (cI, 24, .inl (S 12))) := hM3.2 12 (by decide) (by decide)
    have m3_13 : w3 (b + 27) = some (.inl (cZ, 24, .inl (fun i => nI (((va_up N 14 (fun j => dm_ph (dm_run (ru_M N S t9) 300 (fun _ => 1000) j))) 13) i)))) := hM3.2 13 (by decide) (by decide)
    have m3_14 : w3 (b + 28) = some (.inl (cI, 256, .inl (fun i => nI (((va_up N 14 (fun j => dm_ph (dm_run (ru_M N S t9) 300 (fun _ => 1000) j))) 14) i)))) := hM3.2 14 (by decide) (by decide)
    have m3_15 : w3 (b + 29) = some (.inl (cI, 24, .inl (fun i => nI (((va_up N 14 (fun j => dm_ph (dm_run (ru_M N S t9) 300 (fun _ => 1000) j))) 15) i)))) := hM3.2 15 (by decide) (by decide)
    have m3_16 : w3 (b + 30) = some (.inl (cI, 5, .inl (fun i => nI (((va_up N 14 (fun j => dm_ph (dm_run (ru_M N S t9) 300 (fun _ => 1000) j))) 19) i)))) := hM3.2 16 (by decide) (by decide)
    have m3_14 : w3 (b + 28) = some (.inl (cI, 256, .inl (fun i => nI (dm_ph ((me_V N S t9) i))))) := m3_14
    refine lv_iconst (v := nI 0) hx hb d_Mod_meant_14 (by decide) ?_
    refine lv_istore_n hx hb d_Mod_meant_15 rfl hl (by decide) rfl (fun ls hl => ?_)
    have hl : lv_has ls 5 [(3, .int (nI 0)), (0, .ref (b + 14)), (1, .int sr), (2, .int t9)] := hl
    refine lv_iconst (v := nI 0) hx hb d_Mod_meant_16 (by decide) ?_
    refine lv_istore hx hb d_Mod_meant_17 hl (by decide) rfl (fun ls hl => ?_)
    have hl : lv_has ls 5 [(4, .int (nI 0)), (3, .int (nI 0)), (0, .ref (b + 14)), (1, .int sr), (2, .int t9)] := hl
    have lp4 : ∀ (d : Nat) (k : Nat) (ls : Array Slot), d = 8 - k → (k ≤ 8) → lv_has ls 5 [(4, .int (nI k)), (3, .int (nI (dm_set (me_P (me_V N S t9) n9) k))), (0, .ref (b + 14)), (1, .int sr), (2, .int t9)] → W p l e (headSpec ws_Mod_meant (kk_rm 5 0 0)).room s m ([.ref (b + 14), .int sr, .int t9]).toArray below meth c H locs 0 0 (MQ below (kk_Qi B D (fun r w' sz' => r = me_r N S sr t9 ∧ mo_I b cI cZ (me_N N S sr t9) S w' ∧ (∀ j, ¬ (b + 14 ≤ j ∧ j < b + 31) → w' j = w j) ∧ sz' = sz)) ([.ref (b + 14), .int sr, .int t9]).toArray s 0 0 (fun q => B ≤ q)) (F0 m 19 ls []) := by
      intro d
      induction d using Nat.strongRecOn with
      | ind d ih =>
        intro k ls hd hk hl
        refine lv_iload hx hb d_Mod_meant_19 (lv_at hl 0 rfl) ?_
        refine lv_bipush (v := nI 8) hx hb d_Mod_meant_21 (by decide) ?_
        refine lv_icmp_ge (tgt := 56) hx hb d_Mod_meant_23 (by decide) (fun cc5 => ?_) (fun cc5 => ?_)
        · have cc5 : 8 ≤ k := (nI_leI (by omega) (by omega)).mp cc5
          refine lv_iload_n hx hb d_Mod_meant_56 rfl (lv_at hl 1 rfl) ?_
          exact W.iret hx hb hr (fun t ht hW => ⟨⟨_, (w3, sz), rfl, ⟨(by rw [me_r_pos cc2 hsn (by omega)]; obtain rfl : k = 8 := (by omega); rfl), (by rw [show me_N N S sr t9 = va_up N 14 (fun j => dm_ph (me_V N S t9 j)) from if_pos cc2]; exact mo_mk m3_0 m3_1 m3_2 m3_3 m3_4 m3_5 m3_6 m3_7 m3_8 m3_9 m3_10 m3_11 m3_12 m3_13 m3_14 m3_15 m3_16), (fun j hj => hf3 j hj), rfl⟩, by rw [ht]; exact hP, by rw [ht]; exact hz⟩, hS.F ht⟩) hS.2.2 d_Mod_meant_57
        · have cc5 : ¬ (8 ≤ k) := fun q => cc5 ((nI_leI (by omega) (by omega)).mpr q)
          refine lv_aload_n hx hb d_Mod_meant_26 rfl (lv_at hl 2 rfl) ?_
          refine lv_iload_n hx hb d_Mod_meant_27 rfl (lv_at hl 3 rfl) ?_
          refine kk_top (hsn) ?_
          refine lv_iload hx hb d_Mod_meant_28 (lv_at hl 0 rfl) ?_
          refine vp_callSi (va_Run.run (va_runV (As := [.int (nI n9), .int (nI k)]) (rest := []) ⟨hx, hb, hml, hown, hts⟩ (c_Mod_costOf l (b := b) (N := (va_up N 14 (fun j => dm_ph (dm_run (ru_M N S t9) 300 (fun _ => 1000) j)))) (S := S) (v9 := (me_V N S t9)) hM3 (by omega) (by omega) rfl (me_V_le _ _ _)) (cwV 2 hts (gW_in (hd := [_, _, _, _, _]) (kk_5 wd_637 wd_639 sl_Mod_costOf wd_8 cw_Mod_costOf)) rfl rfl rfl ⟨rfl, ds_Mod_costOf⟩ ⟨Nat.le_of_ble_eq_true rfl, Nat.le_of_ble_eq_true rfl⟩) (kk_preV hK hP hz hBz m3_0 rfl) rfl rfl hl.1 rfl (lv_room (Nat.le_of_ble_eq_true rfl)) d_Mod_meant_30 ⟨Nat.le_of_ble_eq_true rfl, Nat.le_of_ble_eq_true rfl⟩)) (fun r6 hr6 => ?_)
          subst hr6
          refine lv_sipush (v := nI 5000) hx hb d_Mod_meant_33 (by decide) ?_
          have hq1 := dm_ph_le (dm_ofs (me_V N S t9) n9 k)
          have hq2 := dm_ofs_le (me_V_le N S t9) n9 k
          refine lv_icmp_ge (tgt := 48) hx hb d_Mod_meant_36 (by decide) (fun cc7 => ?_) (fun cc7 => ?_)
          · have cc7 : 5000 ≤ dm_ph (dm_ofs (me_V N S t9) n9 k) := (nI_leI (by omega) (by omega)).mp cc7
            refine lv_iload_n hx hb d_Mod_meant_48 rfl (lv_at hl 1 rfl) ?_
            refine kk_top (y := nI (dm_set (me_P (me_V N S t9) n9) (k + 1))) (congrArg nI (dm_set_f (fun q => of_decide_eq_true q (me_t hq2 cc7)))) ?_
            refine lv_istore_n hx hb d_Mod_meant_49 rfl hl (by decide) rfl (fun ls hl => ?_)
            have hl : lv_has ls 5 [(3, .int (nI (dm_set (me_P (me_V N S t9) n9) (k + 1)))), (4, .int (nI k)), (0, .ref (b + 14)), (1, .int sr), (2, .int t9)] := hl
            refine lv_iinc (k := 1) (v := nI (k + 1)) hx hb d_Mod_meant_50 hl rfl (kk_inc _) (by decide) rfl (fun ls hl => ?_)
            have hl : lv_has ls 5 [(4, .int (nI (k + 1))), (3, .int (nI (dm_set (me_P (me_V N S t9) n9) (k + 1)))), (0, .ref (b + 14)), (1, .int sr), (2, .int t9)] := hl
            refine lv_goto (tgt := 19) hx hb d_Mod_meant_53 (by decide) ?_
            exact ih _ (by omega) (k + 1) ls rfl (by omega) (lv_sub hl [0, 1, 2, 3, 4] rfl)
          · have cc7 : ¬ (5000 ≤ dm_ph (dm_ofs (me_V N S t9) n9 k)) := fun q => cc7 ((nI_leI (by omega) (by omega)).mpr q)
            refine lv_iload_n hx hb d_Mod_meant_39 rfl (lv_at hl 1 rfl) ?_
            refine lv_iconst (v := nI 1) hx hb d_Mod_meant_40 (by decide) ?_
            refine lv_iload hx hb d_Mod_meant_41 (lv_at hl 0 rfl) ?_
            refine lv_ishl hx hb d_Mod_meant_43 ?_
            refine kk_top (y := nI (2 ^ k)) (bt_shl _ (by omega)) ?_
            refine lv_iadd hx hb d_Mod_meant_44 ?_
            refine kk_top (nI_add _ _) ?_
            refine lv_goto (tgt := 49) hx hb d_Mod_meant_45 (by decide) ?_
            refine kk_top (y := nI (dm_set (me_P (me_V N S t9) n9) (k + 1))) (congrArg nI (dm_set_t (decide_eq_true (me_f hq2 cc7)))) ?_
            refine lv_istore_n hx hb d_Mod_meant_49 rfl hl (by decide) rfl (fun ls hl => ?_)
            have hl : lv_has ls 5 [(3, .int (nI (dm_set (me_P (me_V N S t9) n9) (k + 1)))), (4, .int (nI k)), (0, .ref (b + 14)), (1, .int sr), (2, .int t9)] := hl
            refine lv_iinc (k := 1) (v := nI (k + 1)) hx hb d_Mod_meant_50 hl rfl (kk_inc _) (by decide) rfl (fun ls hl => ?_)
            have hl : lv_has ls 5 [(4, .int (nI (k + 1))), (3, .int (nI (dm_set (me_P (me_V N S t9) n9) (k + 1)))), (0, .ref (b + 14)), (1, .int sr), (2, .int t9)] := hl
            refine lv_goto (tgt := 19) hx hb d_Mod_meant_53 (by decide) ?_
            exact ih _ (by omega) (k + 1) ls rfl (by omega) (lv_sub hl [0, 1, 2, 3, 4] rfl)
    exact lp4 _ 0 _ rfl (by omega) (lv_sub hl [0, 1, 2, 3, 4] rfl)
  · have cc2 := kk_b0 cc2
    refine lv_iconst (v := (-1)) hx hb d_Mod_meant_7 (by decide) ?_
    exact W.iret hx hb hr (fun t ht hW => ⟨⟨_, (w, sz), rfl, ⟨(if_neg cc2).symm, (by rw [show me_N N S sr t9 = N from if_neg cc2]; exact mo_mk m0 m1 m2 m3 m4 m5 m6 m7 m8 m9 m10 m11 m12 m13 m14 m15 m16), (fun j hj => rfl), rfl⟩, by rw [ht]; exact hP, by rw [ht]; exact hz⟩, hS.F ht⟩) hS.2.2 d_Mod_meant_8
theorem d_Mod_cost_0 : decode k_Mod_cost 0 = .ok (.iload_n 1, 1) := by decide +kernel
theorem d_Mod_cost_1 : decode k_Mod_cost 1 = .ok (.invokestatic 69, 3) := by decide +kernel
theorem d_Mod_cost_4 : decode k_Mod_cost 4 = .ok (.ifCond .eq 13, 3) := by decide +kernel
theorem d_Mod_cost_7 : decode k_Mod_cost 7 = .ok (.iload_n 2, 1) := by decide +kernel
theorem d_Mod_cost_8 : decode k_Mod_cost 8 = .ok (.ifCond .lt 9, 3) := by decide +kernel
theorem d_Mod_cost_11 : decode k_Mod_cost 11 = .ok (.iload_n 2, 1) := by decide +kernel
theorem d_Mod_cost_12 : decode k_Mod_cost 12 = .ok (.bipush 7, 2) := by decide +kernel
theorem d_Mod_cost_14 : decode k_Mod_cost 14 = .ok (.if_icmp .le 5, 3) := by decide +kernel
theorem d_Mod_cost_17 : decode k_Mod_cost 17 = .ok (.iconst (-1), 1) := by decide +kernel
theorem d_Mod_cost_18 : decode k_Mod_cost 18 = .ok (.ireturn, 1) := by decide +kernel
theorem d_Mod_cost_19 : decode k_Mod_cost 19 = .ok (.aload_n 0, 1) := by decide +kernel
theorem d_Mod_cost_20 : decode k_Mod_cost 20 = .ok (.iload_n 3, 1) := by decide +kernel
theorem d_Mod_cost_21 : decode k_Mod_cost 21 = .ok (.invokevirtual 101, 3) := by decide +kernel
theorem d_Mod_cost_24 : decode k_Mod_cost 24 = .ok (.aload_n 0, 1) := by decide +kernel
theorem d_Mod_cost_25 : decode k_Mod_cost 25 = .ok (.iload_n 1, 1) := by decide +kernel
theorem d_Mod_cost_26 : decode k_Mod_cost 26 = .ok (.iload_n 2, 1) := by decide +kernel
theorem d_Mod_cost_27 : decode k_Mod_cost 27 = .ok (.invokevirtual 95, 3) := by decide +kernel
theorem d_Mod_cost_30 : decode k_Mod_cost 30 = .ok (.istore 4, 2) := by decide +kernel
theorem d_Mod_cost_32 : decode k_Mod_cost 32 = .ok (.iload 4, 2) := by decide +kernel
theorem d_Mod_cost_34 : decode k_Mod_cost 34 = .ok (.sipush 5000, 3) := by decide +kernel
theorem d_Mod_cost_37 : decode k_Mod_cost 37 = .ok (.if_icmp .ne 7, 3) := by decide +kernel
theorem d_Mod_cost_40 : decode k_Mod_cost 40 = .ok (.iconst (-1), 1) := by decide +kernel
theorem d_Mod_cost_41 : decode k_Mod_cost 41 = .ok (.goto 5, 3) := by decide +kernel
theorem d_Mod_cost_44 : decode k_Mod_cost 44 = .ok (.iload 4, 2) := by decide +kernel
theorem d_Mod_cost_46 : decode k_Mod_cost 46 = .ok (.ireturn, 1) := by decide +kernel
set_option maxHeartbeats 4000000 in
set_option maxRecDepth 100000 in
theorem c_Mod_cost (l : Launch) {B : Nat} {D : va_G} {cI cZ cQ : ClassId} {w : mm_M} {sz : Nat} {b : Nat} {N : Nat → Nat → Nat} {S : Nat → Nat → Int32} {sr kr t9 : Int32} (hM : mo_I b cI cZ N S w) (hn : N 0 0 ≤ 24) (hR : rg_I N) : Met l y_Mod_cost ws_Mod_cost (kk_rm 5 0 0) (kk_Pc B D cI cZ cQ [.ref (b + 14), .int sr, .int kr, .int t9] w sz) (kk_Qi B D (fun r w' sz' => r = co_r N S sr kr t9 ∧ mo_I b cI cZ (co_N N S sr kr t9) S w' ∧ (∀ j, ¬ (b + 14 ≤ j ∧ j < b + 31) → w' j = w j) ∧ sz' = sz)) 0 0 (fun q => B ≤ q) := by
  refine Met.ofW (cc := k_Mod_cost) (maxL := 5) (ret := (some .int)) (by decide) rfl ?_
  intro p e s m args below meth c s₁ BB hml hv
  obtain ⟨rfl, hK, hP, hz, hBz⟩ := hv
  have hx := BB.exec
  have hb := BB.bytes
  have hr := BB.returns
  have hts := atoms_spec (ws := ws_Mod_cost) BB.pre
  have hown : s.vm.findClass "DelegationClosureModel" = some m.cls := findClass_of_methodNamed BB.named
  have hlocks := BB.notSynchronized
  have hS : mm_S B s.heap s.heap [] := va_S.rf
  have hl := lv_entry ([.ref (b + 14), .int sr, .int kr, .int t9]) (n := 5) (Nat.le_of_ble_eq_true rfl)
  rw [lg_entry_eq]
  generalize (lg_sl ([.ref (b + 14), .int sr, .int kr, .int t9]) ++ List.replicate (5 - (lg_sl ([.ref (b + 14), .int sr, .int kr, .int t9])).length) Slot.unset).toArray = ls at hl ⊢
  have hl : lv_has ls 5 [(0, .ref (b + 14)), (1, .int sr), (2, .int kr), (3, .int t9)] := hl
  have m0 : w (b + 14) = some (.inr (9, [.int (nI (N 0 0)), .ref (b + 15), .ref (b + 16), .ref (b + 17), .ref (b + 18), .ref (b + 19), .ref (b + 20), .ref (b + 21), .ref (b + 22), .ref (b + 23), .ref (b + 24), .ref (b + 25), .ref (b + 26), .ref (b + 27), .ref (b + 28), .ref (b + 29), .int (nI (N 16 0)), .int (nI (N 17 0)), .int (nI (N 18 0)), .ref (b + 30), .int (nI (N 20 0)), .int (S 21 0), .int (S 22 0), .int (S 23 0), .int (S 24 0), .int (nI (N 25 0)), .int (nI (N 26 0))])) := hM.1
  have m1 : w (b + 15) = some (.inl (cZ, 24, .inl (fun i => nI ((N 1) i)))) := hM.2 1 (by decide) (by decide)
  have m2 : w (b + 16) = some (.inl (cZ, 24, .inl (fun i => nI ((N 2) i)))) := hM.2 2 (by decide) (by decide)
  have m3 : w (b + 17) = some (.inl (cI, 24, .inl (fun i => nI ((N 3) i)))) := hM.2 3 (by decide) (by decide)
  have m4 : w (b + 18) = some (.inl (cI, 24, .inl (fun i => nI ((N 4) i)))) := hM.2 4 (by decide) (by decide)
  have m5 : w (b + 19) = some (.inl (cI, 24, .inl (S 5))) := hM.2 5 (by decide) (by decide)
  have m6 : w (b + 20) = some (.inl (cI, 24, .inl (S 6))) := hM.2 6 (by decide) (by decide)
  have m7 : w (b + 21) = some (.inl (cI, 72, .inl (fun i => nI ((N 7) i)))) := hM.2 7 (by decide) (by decide)
  have m8 : w (b + 22) = some (.inl (cI, 24, .inl (fun i => nI ((N 8) i)))) := hM.2 8 (by decide) (by decide)
  have m9 : w (b + 23) = some (.inl (cI, 24, .inl (fun i => nI ((N 9) i)))) := hM.2 9 (by decide) (by decide)
  have m10 : w (b + 24) = some (.inl (cI, 24, .inl (fun i => nI ((N 10) i)))) := hM.2 10 (by decide) (by decide)
  have m11 : w (b + 25) = some (.inl (cI, 24, .inl (S 11))) := hM.2 11 (by decide) (by decide)
  have m12 : w (b + 26) = some (.inl (cI, 24, .inl (S 12))) := hM.2 12 (by decide) (by decide)
  have m13 : w (b + 27) = some (.inl (cZ, 24, .inl (fun i => nI ((N 13) i)))) := hM.2 13 (by decide) (by decide)
  have m14 : w (b + 28) = some (.inl (cI, 256, .inl (fun i => nI ((N 14) i)))) := hM.2 14 (by decide) (by decide)
  have m15 : w (b + 29) = some (.inl (cI, 24, .inl (fun i => nI ((N 15) i)))) := hM.2 15 (by decide) (by decide)
  have m16 : w (b + 30) = some (.inl (cI, 5, .inl (fun i => nI ((N 19) i)))) := hM.2 16 (by decide) (by decide)
  by_cases hok : co_ok sr kr
  · obtain ⟨n9, rfl, hn9⟩ := wf_sub_of hok.1
    obtain ⟨y9, hy9, rfl⟩ := kk_lim_of hok.2 (by omega)
    refine lv_iload_n hx hb d_Mod_cost_0 rfl (lv_at hl 1 rfl) ?_
    refine vp_callSi (va_Run.run (va_runS (As := [.int (nI n9)]) (rest := []) ⟨hx, hb, hml, hown, hts⟩ (c_Mod_isSubject l ) (va_cwS 1 hts (gW_in (hd := [_, _, _, _]) (kk_4 wd_577 wd_578 wd_8 cw_Mod_isSubject)) rfl rfl rfl ds_Mod_isSubject ⟨Nat.le_of_ble_eq_true rfl, Nat.le_of_ble_eq_true rfl⟩) (kk_preS hK hP hz hBz) rfl rfl hl.1 rfl (lv_room (Nat.le_of_ble_eq_true rfl)) d_Mod_cost_1 ⟨Nat.le_of_ble_eq_true rfl, Nat.le_of_ble_eq_true rfl⟩)) (fun r1 hr1 => ?_)
    subst hr1
    refine lv_if_eq (tgt := 17) hx hb d_Mod_cost_4 (by decide) (fun cc2 => ?_) (fun cc2 => ?_)
    · have cc2 := kk_b0 cc2
      exact absurd hok.1 cc2
    · have cc2 := kk_b1 cc2
      refine lv_iload_n hx hb d_Mod_cost_7 rfl (lv_at hl 2 rfl) ?_
      refine lv_if_lt (tgt := 17) hx hb d_Mod_cost_8 (by decide) (fun cc3 => ?_) (fun cc3 => ?_)
      · rw [← nI_0] at cc3
        have cc3 : y9 < 0 := (nI_ltI (by omega) (by omega)).mp cc3
        exact absurd cc3 (by omega)
      · rw [← nI_0] at cc3
        have cc3 : ¬ (y9 < 0) := fun q => cc3 ((nI_ltI (by omega) (by omega)).mpr q)
        refine lv_iload_n hx hb d_Mod_cost_11 rfl (lv_at hl 2 rfl) ?_
        refine lv_bipush (v := nI 7) hx hb d_Mod_cost_12 (by decide) ?_
        refine lv_icmp_le (tgt := 19) hx hb d_Mod_cost_14 (by decide) (fun cc4 => ?_) (fun cc4 => ?_)
        · have cc4 : y9 ≤ 7 := (nI_leI (by omega) (by omega)).mp cc4
          refine lv_aload_n hx hb d_Mod_cost_19 rfl (lv_at hl 0 rfl) ?_
          refine lv_iload_n hx hb d_Mod_cost_20 rfl (lv_at hl 3 rfl) ?_
          refine kk_callv (va_runV (As := [.int t9]) (rest := []) ⟨hx, hb, hml, hown, hts⟩ (c_Mod_findMeanings l (b := b) (N := N) (S := S) hM hn hR) (cwV 1 hts (gW_in (hd := [_, _, _, _, _]) (kk_5 wd_625 wd_627 sl_Mod_findMeanings wd_8 cw_Mod_findMeanings)) rfl rfl rfl ⟨rfl, ds_Mod_findMeanings⟩ ⟨Nat.le_of_ble_eq_true rfl, Nat.le_of_ble_eq_true rfl⟩) (kk_preV hK hP hz hBz m0 rfl) rfl rfl hl.1 rfl (lv_room (Nat.le_of_ble_eq_true rfl)) d_Mod_cost_21 ⟨Nat.le_of_ble_eq_true rfl, Nat.le_of_ble_eq_true rfl⟩) hS (fun w5 sz5 H locs hp5 hP hz hS => ?_)
          obtain ⟨hM5, hf5, hs5⟩ := hp5
          have hz : H.size = sz := hz.trans hs5
          have m5_0 : w5 (b + 14) = some (.inr (9, [.int (nI ((va_up N 14 (fun j => dm_ph (dm_run (ru_M N S t9) 300 (fun _ => 1000) j))) 0 0)), .ref (b + 15), .ref (b + 16), .ref (b + 17), .ref (b + 18), .ref (b + 19), .ref (b + 20), .ref (b + 21), .ref (b + 22), .ref (b + 23), .ref (b + 24), .ref (b + 25), .ref (b + 26), .ref (b + 27), .ref (b + 28), .ref (b + 29), .int (nI ((va_up N 14 (fun j => dm_ph (dm_run (ru_M N S t9) 300 (fun _ => 1000) j))) 16 0)), .int (nI ((va_up N 14 (fun j => dm_ph (dm_run (ru_M N S t9) 300 (fun _ => 1000) j))) 17 0)), .int (nI ((va_up N 14 (fun j => dm_ph (dm_run (ru_M N S t9) 300 (fun _ => 1000) j))) 18 0)), .ref (b + 30), .int (nI ((va_up N 14 (fun j => dm_ph (dm_run (ru_M N S t9) 300 (fun _ => 1000) j))) 20 0)), .int (S 21 0), .int (S 22 0), .int (S 23 0), .int (S 24 0), .int (nI ((va_up N 14 (fun j => dm_ph (dm_run (ru_M N S t9) 300 (fun _ => 1000) j))) 25 0)), .int (nI ((va_up N 14 (fun j => dm_ph (dm_run (ru_M N S t9) 300 (fun _ => 1000) j))) 26 0))])) := hM5.1
          have m5_1 : w5 (b + 15) = some (.inl (cZ, 24, .inl (fun i => nI (((va_up N 14 (fun j => dm_ph (dm_run (ru_M N S t9) 300 (fun _ => 1000) j))) 1) i)))) := hM5.2 1 (by decide) (by decide)
          have m5_2 : w5 (b + 16) = some (.inl (cZ, 24, .inl (fun i => nI (((va_up N 14 (fun j => dm_ph (dm_run (ru_M N S t9) 300 (fun _ => 1000) j))) 2) i)))) := hM5.2 2 (by decide) (by decide)
          have m5_3 : w5 (b + 17) = some (.inl (cI, 24, .inl (fun i => nI (((va_up N 14 (fun j => dm_ph (dm_run (ru_M N S t9) 300 (fun _ => 1000) j))) 3) i)))) := hM5.2 3 (by decide) (by decide)
          have m5_4 : w5 (b + 18) = some (.inl (cI, 24, .inl (fun i => nI (((va_up N 14 (fun j => dm_ph (dm_run (ru_M N S t9) 300 (fun _ => 1000) j))) 4) i)))) := hM5.2 4 (by decide) (by decide)
          have m5_5 : w5 (b + 19) = some (.inl (cI, 24, .inl (S 5))) := hM5.2 5 (by decide) (by decide)
          have m5_6 : w5 (b + 20) = some (.inl (cI, 24, .inl (S 6))) := hM5.2 6 (by decide) (by decide)
          have m5_7 : w5 (b + 21) = some (.inl (cI, 72, .inl (fun i => nI (((va_up N 14 (fun j => dm_ph (dm_run (ru_M N S t9) 300 (fun _ => 1000) j))) 7) i)))) := hM5.2 7 (by decide) (by decide)
          have m5_8 : w5 (b + 22) = some (.inl (cI, 24, .inl (fun i => nI (((va_up N 14 (fun j => dm_ph (dm_run (ru_M N S t9) 300 (fun _ => 1000) j))) 8) i)))) := hM5.2 8 (by decide) (by decide)
          have m5_9 : w5 (b + 23) = some (.inl (cI, 24, .inl (fun i => nI (((va_up N 14 (fun j => dm_ph (dm_run (ru_M N S t9) 300 (fun _ => 1000) j))) 9) i)))) := hM5.2 9 (by decide) (by decide)
          have m5_10 : w5 (b + 24) = some (.inl (cI, 24, .inl (fun i => nI (((va_up N 14 (fun j => dm_ph (dm_run (ru_M N S t9) 300 (fun _ => 1000) j))) 10) i)))) := hM5.2 10 (by decide) (by decide)
          have m5_11 : w5 (b + 25) = some (.inl (cI, 24, .inl (S 11))) := hM5.2 11 (by decide) (by decide)
          have m5_12 : w5 (b + 26) = some (.inl (cI, 24, .inl (S 12))) := hM5.2 12 (by decide) (by decide)
          have m5_13 : w5 (b + 27) = some (.inl (cZ, 24, .inl (fun i => nI (((va_up N 14 (fun j => dm_ph (dm_run (ru_M N S t9) 300 (fun _ => 1000) j))) 13) i)))) := hM5.2 13 (by decide) (by decide)
          have m5_14 : w5 (b + 28) = some (.inl (cI, 256, .inl (fun i => nI (((va_up N 14 (fun j => dm_ph (dm_run (ru_M N S t9) 300 (fun _ => 1000) j))) 14) i)))) := hM5.2 14 (by decide) (by decide)
          have m5_15 : w5 (b + 29) = some (.inl (cI, 24, .inl (fun i => nI (((va_up N 14 (fun j => dm_ph (dm_run (ru_M N S t9) 300 (fun _ => 1000) j))) 15) i)))) := hM5.2 15 (by decide) (by decide)
          have m5_16 : w5 (b + 30) = some (.inl (cI, 5, .inl (fun i => nI (((va_up N 14 (fun j => dm_ph (dm_run (ru_M N S t9) 300 (fun _ => 1000) j))) 19) i)))) := hM5.2 16 (by decide) (by decide)
          have m5_14 : w5 (b + 28) = some (.inl (cI, 256, .inl (fun i => nI (dm_ph ((me_V N S t9) i))))) := m5_14
          refine lv_aload_n hx hb d_Mod_cost_24 rfl (lv_at hl 0 rfl) ?_
          refine lv_iload_n hx hb d_Mod_cost_25 rfl (lv_at hl 1 rfl) ?_
          refine lv_iload_n hx hb d_Mod_cost_26 rfl (lv_at hl 2 rfl) ?_
          refine vp_callSi (va_Run.run (va_runV (As := [.int (nI n9), .int (nI y9)]) (rest := []) ⟨hx, hb, hml, hown, hts⟩ (c_Mod_costOf l (b := b) (N := (va_up N 14 (fun j => dm_ph (dm_run (ru_M N S t9) 300 (fun _ => 1000) j)))) (S := S) (v9 := (me_V N S t9)) hM5 (by omega) (by omega) rfl (me_V_le _ _ _)) (cwV 2 hts (gW_in (hd := [_, _, _, _, _]) (kk_5 wd_637 wd_639 sl_Mod_costOf wd_8 cw_Mod_costOf)) rfl rfl rfl ⟨rfl, ds_Mod_costOf⟩ ⟨Nat.le_of_ble_eq_true rfl, Nat.le_of_ble_eq_true rfl⟩) (kk_preV hK hP hz hBz m5_0 rfl) rfl rfl hl.1 rfl (lv_room (Nat.le_of_ble_eq_true rfl)) d_Mod_cost_27 ⟨Nat.le_of_ble_eq_true rfl, Nat.le_of_ble_eq_true rfl⟩)) (fun r6 hr6 => ?_)
          subst hr6
          refine lv_istore hx hb d_Mod_cost_30 hl (by decide) rfl (fun ls hl => ?_)
          have hl : lv_has ls 5 [(4, .int (nI (dm_ph (dm_ofs (me_V N S t9) n9 y9)))), (0, .ref (b + 14)), (1, .int (nI n9)), (2, .int (nI y9)), (3, .int t9)] := hl
          refine lv_iload hx hb d_Mod_cost_32 (lv_at hl 0 rfl) ?_
          refine lv_sipush (v := nI 5000) hx hb d_Mod_cost_34 (by decide) ?_
          have hq1 := dm_ph_le (dm_ofs (me_V N S t9) n9 y9)
          have hq2 := dm_ofs_le (me_V_le N S t9) n9 y9
          refine lv_icmp_ne (tgt := 44) hx hb d_Mod_cost_37 (by decide) (fun cc7 => ?_) (fun cc7 => ?_)
          · have cc7 : ¬ (dm_ph (dm_ofs (me_V N S t9) n9 y9) = 5000) := fun q => cc7 ((nI_eq (by omega) (by omega)).mpr q)
            refine lv_iload hx hb d_Mod_cost_44 (lv_at hl 0 rfl) ?_
            exact W.iret hx hb hr (fun t ht hW => ⟨⟨_, (w5, sz), rfl, ⟨(by rw [co_r_pos hok (by omega) (by omega), if_neg (fun q => cc7 ((dm_ph_n hq2).mpr q)), dm_ph_id hq2 (fun q => cc7 ((dm_ph_n hq2).mpr q))]), (by rw [show co_N N S _ _ t9 = va_up N 14 (fun j => dm_ph (me_V N S t9 j)) from if_pos hok]; exact mo_mk m5_0 m5_1 m5_2 m5_3 m5_4 m5_5 m5_6 m5_7 m5_8 m5_9 m5_10 m5_11 m5_12 m5_13 m5_14 m5_15 m5_16), (fun j hj => hf5 j hj), rfl⟩, by rw [ht]; exact hP, by rw [ht]; exact hz⟩, hS.F ht⟩) hS.2.2 d_Mod_cost_46
          · have cc7 : dm_ph (dm_ofs (me_V N S t9) n9 y9) = 5000 := (nI_eq (by omega) (by omega)).mp cc7
            refine lv_iconst (v := (-1)) hx hb d_Mod_cost_40 (by decide) ?_
            refine lv_goto (tgt := 46) hx hb d_Mod_cost_41 (by decide) ?_
            exact W.iret hx hb hr (fun t ht hW => ⟨⟨_, (w5, sz), rfl, ⟨(by rw [co_r_pos hok (by omega) (by omega), if_pos ((dm_ph_n hq2).mp cc7)]), (by rw [show co_N N S _ _ t9 = va_up N 14 (fun j => dm_ph (me_V N S t9 j)) from if_pos hok]; exact mo_mk m5_0 m5_1 m5_2 m5_3 m5_4 m5_5 m5_6 m5_7 m5_8 m5_9 m5_10 m5_11 m5_12 m5_13 m5_14 m5_15 m5_16), (fun j hj => hf5 j hj), rfl⟩, by rw [ht]; exact hP, by rw [ht]; exact hz⟩, hS.F ht⟩) hS.2.2 d_Mod_cost_46
        · have cc4 : ¬ (y9 ≤ 7) := fun q => cc4 ((nI_leI (by omega) (by omega)).mpr q)
          exact absurd cc4 (by omega)
  · refine lv_iload_n hx hb d_Mod_cost_0 rfl (lv_at hl 1 rfl) ?_
    refine vp_callSi (va_Run.run (va_runS (As := [.int sr]) (rest := []) ⟨hx, hb, hml, hown, hts⟩ (c_Mod_isSubject l ) (va_cwS 1 hts (gW_in (hd := [_, _, _, _]) (kk_4 wd_577 wd_578 wd_8 cw_Mod_isSubject)) rfl rfl rfl ds_Mod_isSubject ⟨Nat.le_of_ble_eq_true rfl, Nat.le_of_ble_eq_true rfl⟩) (kk_preS hK hP hz hBz) rfl rfl hl.1 rfl (lv_room (Nat.le_of_ble_eq_true rfl)) d_Mod_cost_1 ⟨Nat.le_of_ble_eq_true rfl, Nat.le_of_ble_eq_true rfl⟩)) (fun r8 hr8 => ?_)
    subst hr8
    refine lv_if_eq (tgt := 17) hx hb d_Mod_cost_4 (by decide) (fun cc9 => ?_) (fun cc9 => ?_)
    · have cc9 := kk_b0 cc9
      refine lv_iconst (v := (-1)) hx hb d_Mod_cost_17 (by decide) ?_
      exact W.iret hx hb hr (fun t ht hW => ⟨⟨_, (w, sz), rfl, ⟨(if_neg hok).symm, (by rw [show co_N N S _ _ t9 = N from if_neg hok]; exact mo_mk m0 m1 m2 m3 m4 m5 m6 m7 m8 m9 m10 m11 m12 m13 m14 m15 m16), (fun j hj => rfl), rfl⟩, by rw [ht]; exact hP, by rw [ht]; exact hz⟩, hS.F ht⟩) hS.2.2 d_Mod_cost_18
    · have cc9 := kk_b1 cc9
      refine lv_iload_n hx hb d_Mod_cost_7 rfl (lv_at hl 2 rfl) ?_
      refine lv_if_lt (tgt := 17) hx hb d_Mod_cost_8 (by decide) (fun cc10 => ?_) (fun cc10 => ?_)
      · refine lv_iconst (v := (-1)) hx hb d_Mod_cost_17 (by decide) ?_
        exact W.iret hx hb hr (fun t ht hW => ⟨⟨_, (w, sz), rfl, ⟨(if_neg hok).symm, (by rw [show co_N N S _ _ t9 = N from if_neg hok]; exact mo_mk m0 m1 m2 m3 m4 m5 m6 m7 m8 m9 m10 m11 m12 m13 m14 m15 m16), (fun j hj => rfl), rfl⟩, by rw [ht]; exact hP, by rw [ht]; exact hz⟩, hS.F ht⟩) hS.2.2 d_Mod_cost_18
      · refine lv_iload_n hx hb d_Mod_cost_11 rfl (lv_at hl 2 rfl) ?_
        refine lv_bipush (v := nI 7) hx hb d_Mod_cost_12 (by decide) ?_
        refine lv_icmp_le (tgt := 19) hx hb d_Mod_cost_14 (by decide) (fun cc11 => ?_) (fun cc11 => ?_)
        · exact absurd ⟨cc9, cc10, fun q => (Int32.not_lt.mpr cc11) ((kk_gtm 7 8 rfl (by decide)).mpr q)⟩ hok
        · refine lv_iconst (v := (-1)) hx hb d_Mod_cost_17 (by decide) ?_
          exact W.iret hx hb hr (fun t ht hW => ⟨⟨_, (w, sz), rfl, ⟨(if_neg hok).symm, (by rw [show co_N N S _ _ t9 = N from if_neg hok]; exact mo_mk m0 m1 m2 m3 m4 m5 m6 m7 m8 m9 m10 m11 m12 m13 m14 m15 m16), (fun j hj => rfl), rfl⟩, by rw [ht]; exact hP, by rw [ht]; exact hz⟩, hS.F ht⟩) hS.2.2 d_Mod_cost_18
