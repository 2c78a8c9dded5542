theorem d_Mod_holders_0 : decode k_Mod_holders 0 = .ok (.iconst 0, 1) := by decide +kernel
theorem d_Mod_holders_1 : decode k_Mod_holders 1 = .ok (.istore 4, 2) := by decide +kernel
theorem d_Mod_holders_3 : decode k_Mod_holders 3 = .ok (.iconst 0, 1) := by decide +kernel
theorem d_Mod_holders_4 : decode k_Mod_holders 4 = .ok (.istore 5, 2) := by decide +kernel
theorem d_Mod_holders_6 : decode k_Mod_holders 6 = .ok (.iload 5, 2) := by decide +kernel
theorem d_Mod_holders_8 : decode k_Mod_holders 8 = .ok (.bipush 8, 2) := by decide +kernel
theorem d_Mod_holders_10 : decode k_Mod_holders 10 = .ok (.if_icmp .ge 35, 3) := by decide +kernel
theorem d_Mod_holders_13 : decode k_Mod_holders 13 = .ok (.aload_n 0, 1) := by decide +kernel
theorem d_Mod_holders_14 : decode k_Mod_holders 14 = .ok (.iload 5, 2) := by decide +kernel
theorem d_Mod_holders_16 : decode k_Mod_holders 16 = .ok (.iload_n 1, 1) := by decide +kernel
theorem d_Mod_holders_17 : decode k_Mod_holders 17 = .ok (.iload_n 2, 1) := by decide +kernel
theorem d_Mod_holders_18 : decode k_Mod_holders 18 = .ok (.iload_n 3, 1) := by decide +kernel
theorem d_Mod_holders_19 : decode k_Mod_holders 19 = .ok (.invokevirtual 127, 3) := by decide +kernel
theorem d_Mod_holders_22 : decode k_Mod_holders 22 = .ok (.ifCond .lt 13, 3) := by decide +kernel
theorem d_Mod_holders_25 : decode k_Mod_holders 25 = .ok (.iload 4, 2) := by decide +kernel
theorem d_Mod_holders_27 : decode k_Mod_holders 27 = .ok (.iconst 1, 1) := by decide +kernel
theorem d_Mod_holders_28 : decode k_Mod_holders 28 = .ok (.iload 5, 2) := by decide +kernel
theorem d_Mod_holders_30 : decode k_Mod_holders 30 = .ok (.ishl, 1) := by decide +kernel
theorem d_Mod_holders_31 : decode k_Mod_holders 31 = .ok (.iadd, 1) := by decide +kernel
theorem d_Mod_holders_32 : decode k_Mod_holders 32 = .ok (.goto 5, 3) := by decide +kernel
theorem d_Mod_holders_35 : decode k_Mod_holders 35 = .ok (.iload 4, 2) := by decide +kernel
theorem d_Mod_holders_37 : decode k_Mod_holders 37 = .ok (.istore 4, 2) := by decide +kernel
theorem d_Mod_holders_39 : decode k_Mod_holders 39 = .ok (.iinc 5 1, 3) := by decide +kernel
theorem d_Mod_holders_42 : decode k_Mod_holders 42 = .ok (.goto (-36), 3) := by decide +kernel
theorem d_Mod_holders_45 : decode k_Mod_holders 45 = .ok (.iload 4, 2) := by decide +kernel
theorem d_Mod_holders_47 : decode k_Mod_holders 47 = .ok (.ireturn, 1) := by decide +kernel
set_option maxHeartbeats 4000000 in
set_option maxRecDepth 100000 in
theorem c_Mod_holders (l : Launch) {B : Nat} {D : va_G} {cI cZ cQ : ClassId} {w : mm_M} {sz : Nat} {b : Nat} {N : Nat → Nat → Nat} {S : Nat → Nat → Int32} {pr z9 t9 : Int32} (hM : mo_I b cI cZ N S w) (hn : N 0 0 ≤ 24) (hR : rg_I N) : Met l y_Mod_holders ws_Mod_holders (kk_rm 7 0 0) (kk_Pc B D cI cZ cQ [.ref (b + 14), .int pr, .int z9, .int t9] w sz) (kk_Qi B D (fun r w' sz' => r = ho_r N S pr z9 t9 ∧ (∃ a1 b1, mo_I b cI cZ (va_up (va_up N 14 a1) 15 b1) S w') ∧ (∀ j, ¬ (b + 14 ≤ j ∧ j < b + 31) → w' j = w j) ∧ sz' = sz)) 0 0 (fun q => B ≤ q) := by
  refine Met.ofW (cc := k_Mod_holders) (maxL := 6) (ret := (some .int)) (by decide) rfl ?_
  intro p e s m args below meth c s₁ BB hml hv
  obtain ⟨rfl, hK, hP, hz, hBz⟩ := hv
  have hx := BB.exec
  have hb := BB.bytes
  have hr := BB.returns
  have hts := atoms_spec (ws := ws_Mod_holders) BB.pre
  have hown : s.vm.findClass "DelegationClosureModel" = some m.cls := findClass_of_methodNamed BB.named
  have hlocks := BB.notSynchronized
  have hS : mm_S B s.heap s.heap [] := va_S.rf
  have hl := lv_entry ([.ref (b + 14), .int pr, .int z9, .int t9]) (n := 6) (Nat.le_of_ble_eq_true rfl)
  rw [lg_entry_eq]
  generalize (lg_sl ([.ref (b + 14), .int pr, .int z9, .int t9]) ++ List.replicate (6 - (lg_sl ([.ref (b + 14), .int pr, .int z9, .int t9])).length) Slot.unset).toArray = ls at hl ⊢
  have hl : lv_has ls 6 [(0, .ref (b + 14)), (1, .int pr), (2, .int z9), (3, .int t9)] := hl
  have m0 : w (b + 14) = some (.inr (9, [.int (nI (N 0 0)), .ref (b + 15), .ref (b + 16), .ref (b + 17), .ref (b + 18), .ref (b + 19), .ref (b + 20), .ref (b + 21), .ref (b + 22), .ref (b + 23), .ref (b + 24), .ref (b + 25), .ref (b + 26), .ref (b + 27), .ref (b + 28), .ref (b + 29), .int (nI (N 16 0)), .int (nI (N 17 0)), .int (nI (N 18 0)), .ref (b + 30), .int (nI (N 20 0)), .int (S 21 0), .int (S 22 0), .int (S 23 0), .int (S 24 0), .int (nI (N 25 0)), .int (nI (N 26 0))])) := hM.1
  have m1 : w (b + 15) = some (.inl (cZ, 24, .inl (fun i => nI ((N 1) i)))) := hM.2 1 (by decide) (by decide)
  have m2 : w (b + 16) = some (.inl (cZ, 24, .inl (fun i => nI ((N 2) i)))) := hM.2 2 (by decide) (by decide)
  have m3 : w (b + 17) = some (.inl (cI, 24, .inl (fun i => nI ((N 3) i)))) := hM.2 3 (by decide) (by decide)
  have m4 : w (b + 18) = some (.inl (cI, 24, .inl (fun i => nI ((N 4) i)))) := hM.2 4 (by decide) (by decide)
  have m5 : w (b + 19) = some (.inl (cI, 24, .inl (S 5))) := hM.2 5 (by decide) (by decide)
  have m6 : w (b + 20) = some (.inl (cI, 24, .inl (S 6))) := hM.2 6 (by decide) (by decide)
  have m7 : w (b + 21) = some (.inl (cI, 72, .inl (fun i => nI ((N 7) i)))) := hM.2 7 (by decide) (by decide)
  have m8 : w (b + 22) = some (.inl (cI, 24, .inl (fun i => nI ((N 8) i)))) := hM.2 8 (by decide) (by decide)
  have m9 : w (b + 23) = some (.inl (cI, 24, .inl (fun i => nI ((N 9) i)))) := hM.2 9 (by decide) (by decide)
  have m10 : w (b + 24) = some (.inl (cI, 24, .inl (fun i => nI ((N 10) i)))) := hM.2 10 (by decide) (by decide)
  have m11 : w (b + 25) = some (.inl (cI, 24, .inl (S 11))) := hM.2 11 (by decide) (by decide)
  have m12 : w (b + 26) = some (.inl (cI, 24, .inl (S 12))) := hM.2 12 (by decide) (by decide)
  have m13 : w (b + 27) = some (.inl (cZ, 24, .inl (fun i => nI ((N 13) i)))) := hM.2 13 (by decide) (by decide)
  have m14 : w (b + 28) = some (.inl (cI, 256, .inl (fun i => nI ((N 14) i)))) := hM.2 14 (by decide) (by decide)
  have m15 : w (b + 29) = some (.inl (cI, 24, .inl (fun i => nI ((N 15) i)))) := hM.2 15 (by decide) (by decide)
  have m16 : w (b + 30) = some (.inl (cI, 5, .inl (fun i => nI ((N 19) i)))) := hM.2 16 (by decide) (by decide)
  refine lv_iconst (v := nI 0) hx hb d_Mod_holders_0 (by decide) ?_
  refine lv_istore hx hb d_Mod_holders_1 hl (by decide) rfl (fun ls hl => ?_)
  have hl : lv_has ls 6 [(4, .int (nI 0)), (0, .ref (b + 14)), (1, .int pr), (2, .int z9), (3, .int t9)] := hl
  refine lv_iconst (v := nI 0) hx hb d_Mod_holders_3 (by decide) ?_
  refine lv_istore hx hb d_Mod_holders_4 hl (by decide) rfl (fun ls hl => ?_)
  have hl : lv_has ls 6 [(5, .int (nI 0)), (4, .int (nI 0)), (0, .ref (b + 14)), (1, .int pr), (2, .int z9), (3, .int t9)] := hl
  have lp1 : ∀ (d : Nat) (k : Nat) (a1 : Nat → Nat) (b1 : Nat → Nat) (w2 : mm_M) (H : Heap) (locs : List Loc) (ls : Array Slot), d = 8 - k → (mm_P B D kc w2 H) → (H.size = sz) → (mm_S B s.heap H locs) → (∀ j, ¬ (b + 14 ≤ j ∧ j < b + 31) → w2 j = w j) → (w2 (b + 14) = some (.inr (9, [.int (nI ((va_up (va_up N 14 a1) 15 b1) 0 0)), .ref (b + 15), .ref (b + 16), .ref (b + 17), .ref (b + 18), .ref (b + 19), .ref (b + 20), .ref (b + 21), .ref (b + 22), .ref (b + 23), .ref (b + 24), .ref (b + 25), .ref (b + 26), .ref (b + 27), .ref (b + 28), .ref (b + 29), .int (nI ((va_up (va_up N 14 a1) 15 b1) 16 0)), .int (nI ((va_up (va_up N 14 a1) 15 b1) 17 0)), .int (nI ((va_up (va_up N 14 a1) 15 b1) 18 0)), .ref (b + 30), .int (nI ((va_up (va_up N 14 a1) 15 b1) 20 0)), .int (S 21 0), .int (S 22 0), .int (S 23 0), .int (S 24 0), .int (nI ((va_up (va_up N 14 a1) 15 b1) 25 0)), .int (nI ((va_up (va_up N 14 a1) 15 b1) 26 0))]))) → (w2 (b + 15) = some (.inl (cZ, 24, .inl (fun i => nI (((va_up (va_up N 14 a1) 15 b1) 1) i))))) → (w2 (b + 16) = some (.inl (cZ, 24, .inl (fun i => nI (((va_up (va_up N 14 a1) 15 b1) 2) i))))) → (w2 (b + 17) = some (.inl (cI, 24, .inl (fun i => nI (((va_up (va_up N 14 a1) 15 b1) 3) i))))) → (w2 (b + 18) = some (.inl (cI, 24, .inl (fun i => nI (((va_up (va_up N 14 a1) 15 b1) 4) i))))) → (w2 (b + 19) = some (.inl (cI, 24, .inl (S 5)))) → (w2 (b + 20) = some (.inl (cI, 24, .inl (S 6)))) → (w2 (b + 21) = some (.inl (cI, 72, .inl (fun i => nI (((va_up (va_up N 14 a1) 15 b1) 7) i))))) → (w2 (b + 22) = some (.inl (cI, 24, .inl (fun i => nI (((va_up (va_up N 14 a1) 15 b1) 8) i))))) → (w2 (b + 23) = some (.inl (cI, 24, .inl (fun i => nI (((va_up (va_up N 14 a1) 15 b1) 9) i))))) → (w2 (b + 24) = some (.inl (cI, 24, .inl (fun i => nI (((va_up (va_up N 14 a1) 15 b1) 10) i))))) → (w2 (b + 25) = some (.inl (cI, 24, .inl (S 11)))) → (w2 (b + 26) = some (.inl (cI, 24, .inl (S 12)))) → (w2 (b + 27) = some (.inl (cZ, 24, .inl (fun i => nI (((va_up (va_up N 14 a1) 15 b1) 13) i))))) → (w2 (b + 28) = some (.inl (cI, 256, .inl (fun i => nI (((va_up (va_up N 14 a1) 15 b1) 14) i))))) → (w2 (b + 29) = some (.inl (cI, 24, .inl (fun i => nI (((va_up (va_up N 14 a1) 15 b1) 15) i))))) → (w2 (b + 30) = some (.inl (cI, 5, .inl (fun i => nI (((va_up (va_up N 14 a1) 15 b1) 19) i))))) → (k ≤ 8) → lv_has ls 6 [(5, .int (nI k)), (4, .int (nI (dm_set (hm_P N S pr z9 t9) k))), (0, .ref (b + 14)), (1, .int pr), (2, .int z9), (3, .int t9)] → W p l e (headSpec ws_Mod_holders (kk_rm 7 0 0)).room s m ([.ref (b + 14), .int pr, .int z9, .int t9]).toArray below meth c H locs 0 0 (MQ below (kk_Qi B D (fun r w' sz' => r = ho_r N S pr z9 t9 ∧ (∃ a1 b1, mo_I b cI cZ (va_up (va_up N 14 a1) 15 b1) S w') ∧ (∀ j, ¬ (b + 14 ≤ j ∧ j < b + 31) → w' j = w j) ∧ sz' = sz)) ([.ref (b + 14), .int pr, .int z9, .int t9]).toArray s 0 0 (fun q => B ≤ q)) (F0 m 6 ls []) := by
    intro d
    induction d using Nat.strongRecOn with
    | ind d ih =>
      intro k a1 b1 w2 H locs ls hd hP hz hS frw2 fw2_0 fw2_1 fw2_2 fw2_3 fw2_4 fw2_5 fw2_6 fw2_7 fw2_8 fw2_9 fw2_10 fw2_11 fw2_12 fw2_13 fw2_14 fw2_15 fw2_16 hk hl
      have hMl : mo_I b cI cZ (va_up (va_up N 14 a1) 15 b1) S w2 := mo_mk fw2_0 fw2_1 fw2_2 fw2_3 fw2_4 fw2_5 fw2_6 fw2_7 fw2_8 fw2_9 fw2_10 fw2_11 fw2_12 fw2_13 fw2_14 fw2_15 fw2_16
      refine lv_iload hx hb d_Mod_holders_6 (lv_at hl 0 rfl) ?_
      refine lv_bipush (v := nI 8) hx hb d_Mod_holders_8 (by decide) ?_
      refine lv_icmp_ge (tgt := 45) hx hb d_Mod_holders_10 (by decide) (fun cc3 => ?_) (fun cc3 => ?_)
      · have cc3 : 8 ≤ k := (nI_leI (by omega) (by omega)).mp cc3
        refine lv_iload hx hb d_Mod_holders_45 (lv_at hl 1 rfl) ?_
        exact W.iret hx hb hr (fun t ht hW => ⟨⟨_, (w2, sz), rfl, ⟨(by obtain rfl : k = 8 := (by omega); exact hm_eq N S pr z9 t9), ⟨a1, b1, mo_mk fw2_0 fw2_1 fw2_2 fw2_3 fw2_4 fw2_5 fw2_6 fw2_7 fw2_8 fw2_9 fw2_10 fw2_11 fw2_12 fw2_13 fw2_14 fw2_15 fw2_16⟩, (fun j hj => frw2 j hj), rfl⟩, by rw [ht]; exact hP, by rw [ht]; exact hz⟩, hS.F ht⟩) hS.2.2 d_Mod_holders_47
      · have cc3 : ¬ (8 ≤ k) := fun q => cc3 ((nI_leI (by omega) (by omega)).mpr q)
        refine lv_aload_n hx hb d_Mod_holders_13 rfl (lv_at hl 2 rfl) ?_
        refine lv_iload hx hb d_Mod_holders_14 (lv_at hl 0 rfl) ?_
        refine lv_iload_n hx hb d_Mod_holders_16 rfl (lv_at hl 3 rfl) ?_
        refine lv_iload_n hx hb d_Mod_holders_17 rfl (lv_at hl 4 rfl) ?_
        refine lv_iload_n hx hb d_Mod_holders_18 rfl (lv_at hl 5 rfl) ?_
        refine kk_calli (va_runV (As := [.int (nI k), .int pr, .int z9, .int t9]) (rest := []) ⟨hx, hb, hml, hown, hts⟩ (c_Mod_may l (b := b) (N := (va_up (va_up N 14 a1) 15 b1)) (S := S) hMl hn hR) (cwV 4 hts (gW_in (hd := [_, _, _, _, _]) (kk_5 wd_682 wd_652 wd_653 wd_8 cw_Mod_may)) rfl rfl rfl ⟨rfl, ds_Mod_may⟩ ⟨Nat.le_of_ble_eq_true rfl, Nat.le_of_ble_eq_true rfl⟩) (kk_preV hK hP hz hBz fw2_0 rfl) rfl rfl hl.1 rfl (lv_room (Nat.le_of_ble_eq_true rfl)) d_Mod_holders_19 ⟨Nat.le_of_ble_eq_true rfl, Nat.le_of_ble_eq_true rfl⟩) hS (fun r4 w4 sz4 H locs hp4 hP hz hS => ?_)
        obtain ⟨hr4, hM4, hf4, hs4⟩ := hp4
        subst hr4
        have hz : H.size = sz := hz.trans hs4
        obtain ⟨aa4, bb4, hab4⟩ := ma_N_form N S a1 b1 (nI k) pr z9 t9
        rw [hab4] at hM4
        have m4_0 : w4 (b + 14) = some (.inr (9, [.int (nI ((va_up (va_up N 14 aa4) 15 bb4) 0 0)), .ref (b + 15), .ref (b + 16), .ref (b + 17), .ref (b + 18), .ref (b + 19), .ref (b + 20), .ref (b + 21), .ref (b + 22), .ref (b + 23), .ref (b + 24), .ref (b + 25), .ref (b + 26), .ref (b + 27), .ref (b + 28), .ref (b + 29), .int (nI ((va_up (va_up N 14 aa4) 15 bb4) 16 0)), .int (nI ((va_up (va_up N 14 aa4) 15 bb4) 17 0)), .int (nI ((va_up (va_up N 14 aa4) 15 bb4) 18 0)), .ref (b + 30), .int (nI ((va_up (va_up N 14 aa4) 15 bb4) 20 0)), .int (S 21 0), .int (S 22 0), .int (S 23 0), .int (S 24 0), .int (nI ((va_up (va_up N 14 aa4) 15 bb4) 25 0)), .int (nI ((va_up (va_up N 14 aa4) 15 bb4) 26 0))])) := hM4.1
        have m4_1 : w4 (b + 15) = some (.inl (cZ, 24, .inl (fun i => nI (((va_up (va_up N 14 aa4) 15 bb4) 1) i)))) := hM4.2 1 (by decide) (by decide)
        have m4_2 : w4 (b + 16) = some (.inl (cZ, 24, .inl (fun i => nI (((va_up (va_up N 14 aa4) 15 bb4) 2) i)))) := hM4.2 2 (by decide) (by decide)
        have m4_3 : w4 (b + 17) = some (.inl (cI, 24, .inl (fun i => nI (((va_up (va_up N 14 aa4) 15 bb4) 3) i)))) := hM4.2 3 (by decide) (by decide)
        have m4_4 : w4 (b + 18) = some (.inl (cI, 24, .inl (fun i => nI (((va_up (va_up N 14 aa4) 15 bb4) 4) i)))) := hM4.2 4 (by decide) (by decide)
        have m4_5 : w4 (b + 19) = some (.inl (cI, 24, .inl (S 5))) := hM4.2 5 (by decide) (by decide)
        have m4_6 : w4 (b + 20) = some (.inl (cI, 24, .inl (S 6))) := hM4.2 6 (by decide) (by decide)
        have m4_7 : w4 (b + 21) = some (.inl (cI, 72, .inl (fun i => nI (((va_up (va_up N 14 aa4) 15 bb4) 7) i)))) := hM4.2 7 (by decide) (by decide)
        have m4_8 : w4 (b + 22) = some (.inl (cI, 24, .inl (fun i => nI (((va_up (va_up N 14 aa4) 15 bb4) 8) i)))) := hM4.2 8 (by decide) (by decide)
        have m4_9 : w4 (b + 23) = some (.inl (cI, 24, .inl (fun i => nI (((va_up (va_up N 14 aa4) 15 bb4) 9) i)))) := hM4.2 9 (by decide) (by decide)
        have m4_10 : w4 (b + 24) = some (.inl (cI, 24, .inl (fun i => nI (((va_up (va_up N 14 aa4) 15 bb4) 10) i)))) := hM4.2 10 (by decide) (by decide)
        have m4_11 : w4 (b + 25) = some (.inl (cI, 24, .inl (S 11))) := hM4.2 11 (by decide) (by decide)
        have m4_12 : w4 (b + 26) = some (.inl (cI, 24, .inl (S 12))) := hM4.2 12 (by decide) (by decide)
        have m4_13 : w4 (b + 27) = some (.inl (cZ, 24, .inl (fun i => nI (((va_up (va_up N 14 aa4) 15 bb4) 13) i)))) := hM4.2 13 (by decide) (by decide)
        have m4_14 : w4 (b + 28) = some (.inl (cI, 256, .inl (fun i => nI (((va_up (va_up N 14 aa4) 15 bb4) 14) i)))) := hM4.2 14 (by decide) (by decide)
        have m4_15 : w4 (b + 29) = some (.inl (cI, 24, .inl (fun i => nI (((va_up (va_up N 14 aa4) 15 bb4) 15) i)))) := hM4.2 15 (by decide) (by decide)
        have m4_16 : w4 (b + 30) = some (.inl (cI, 5, .inl (fun i => nI (((va_up (va_up N 14 aa4) 15 bb4) 19) i)))) := hM4.2 16 (by decide) (by decide)
        refine kk_top (y := ma_r N S (nI k) pr z9 t9) (rfl) ?_
        refine lv_if_lt (tgt := 35) hx hb d_Mod_holders_22 (by decide) (fun cc5 => ?_) (fun cc5 => ?_)
        · refine lv_iload hx hb d_Mod_holders_35 (lv_at hl 1 rfl) ?_
          refine kk_top (y := nI (dm_set (hm_P N S pr z9 t9) (k + 1))) (congrArg nI (dm_set_f (fun q => (ma_r_neg.mp cc5) (of_decide_eq_true q)))) ?_
          refine lv_istore hx hb d_Mod_holders_37 hl (by decide) rfl (fun ls hl => ?_)
          have hl : lv_has ls 6 [(4, .int (nI (dm_set (hm_P N S pr z9 t9) (k + 1)))), (5, .int (nI k)), (0, .ref (b + 14)), (1, .int pr), (2, .int z9), (3, .int t9)] := hl
          refine lv_iinc (k := 1) (v := nI (k + 1)) hx hb d_Mod_holders_39 hl rfl (kk_inc _) (by decide) rfl (fun ls hl => ?_)
          have hl : lv_has ls 6 [(5, .int (nI (k + 1))), (4, .int (nI (dm_set (hm_P N S pr z9 t9) (k + 1)))), (0, .ref (b + 14)), (1, .int pr), (2, .int z9), (3, .int t9)] := hl
          refine lv_goto (tgt := 6) hx hb d_Mod_holders_42 (by decide) ?_
          exact ih _ (by omega) (k + 1) aa4 bb4 w4 _ _ ls rfl hP hz hS (fun j g0 => (hf4 j g0).trans (frw2 j g0)) m4_0 m4_1 m4_2 m4_3 m4_4 m4_5 m4_6 m4_7 m4_8 m4_9 m4_10 m4_11 m4_12 m4_13 m4_14 m4_15 m4_16 (by omega) (lv_sub hl [0, 1, 2, 3, 4, 5] rfl)
        · refine lv_iload hx hb d_Mod_holders_25 (lv_at hl 1 rfl) ?_
          refine lv_iconst (v := nI 1) hx hb d_Mod_holders_27 (by decide) ?_
          refine lv_iload hx hb d_Mod_holders_28 (lv_at hl 0 rfl) ?_
          refine lv_ishl hx hb d_Mod_holders_30 ?_
          refine kk_top (y := nI (2 ^ k)) (bt_shl _ (by omega)) ?_
          refine lv_iadd hx hb d_Mod_holders_31 ?_
          refine kk_top (nI_add _ _) ?_
          refine lv_goto (tgt := 37) hx hb d_Mod_holders_32 (by decide) ?_
          refine kk_top (y := nI (dm_set (hm_P N S pr z9 t9) (k + 1))) (congrArg nI (dm_set_t (decide_eq_true (Decidable.not_not.mp (fun q => cc5 (ma_r_neg.mpr q)))))) ?_
          refine lv_istore hx hb d_Mod_holders_37 hl (by decide) rfl (fun ls hl => ?_)
          have hl : lv_has ls 6 [(4, .int (nI (dm_set (hm_P N S pr z9 t9) (k + 1)))), (5, .int (nI k)), (0, .ref (b + 14)), (1, .int pr), (2, .int z9), (3, .int t9)] := hl
          refine lv_iinc (k := 1) (v := nI (k + 1)) hx hb d_Mod_holders_39 hl rfl (kk_inc _) (by decide) rfl (fun ls hl => ?_)
          have hl : lv_has ls 6 [(5, .int (nI (k + 1))), (4, .int (nI (dm_set (hm_P N S pr z9 t9) (k + 1)))), (0, .ref (b + 14)), (1, .int pr), (2, .int z9), (3, .int t9)] := hl
          refine lv_goto (tgt := 6) hx hb d_Mod_holders_42 (by decide) ?_
          exact ih _ (by omega) (k + 1) aa4 bb4 w4 _ _ ls rfl hP hz hS (fun j g0 => (hf4 j g0).trans (frw2 j g0)) m4_0 m4_1 m4_2 m4_3 m4_4 m4_5 m4_6 m4_7 m4_8 m4_9 m4_10 m4_11 m4_12 m4_13 m4_14 m4_15 m4_16 (by omega) (lv_sub hl [0, 1, 2, 3, 4, 5] rfl)
  exact lp1 _ 0 (N 14) (N 15) w _ _ _ rfl hP hz hS (fun _ _ => rfl) m0 m1 m2 m3 m4 m5 m6 m7 m8 m9 m10 m11 m12 m13 m14 m15 m16 (by omega) (lv_sub hl [0, 1, 2, 3, 4, 5] rfl)
