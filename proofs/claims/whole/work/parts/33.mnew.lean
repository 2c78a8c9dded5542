theorem d_Mod_name_0 : decode k_Mod_name 0 = .ok (.iload_n 1, 1) := by decide +kernel
theorem d_Mod_name_1 : decode k_Mod_name 1 = .ok (.ifCond .lt 34, 3) := by decide +kernel
theorem d_Mod_name_4 : decode k_Mod_name 4 = .ok (.iload_n 1, 1) := by decide +kernel
theorem d_Mod_name_5 : decode k_Mod_name 5 = .ok (.bipush 7, 2) := by decide +kernel
theorem d_Mod_name_7 : decode k_Mod_name 7 = .ok (.if_icmp .gt 28, 3) := by decide +kernel
theorem d_Mod_name_10 : decode k_Mod_name 10 = .ok (.iload_n 2, 1) := by decide +kernel
theorem d_Mod_name_11 : decode k_Mod_name 11 = .ok (.ifCond .lt 24, 3) := by decide +kernel
theorem d_Mod_name_14 : decode k_Mod_name 14 = .ok (.iload_n 2, 1) := by decide +kernel
theorem d_Mod_name_15 : decode k_Mod_name 15 = .ok (.iconst 3, 1) := by decide +kernel
theorem d_Mod_name_16 : decode k_Mod_name 16 = .ok (.if_icmp .gt 19, 3) := by decide +kernel
theorem d_Mod_name_19 : decode k_Mod_name 19 = .ok (.iload_n 3, 1) := by decide +kernel
theorem d_Mod_name_20 : decode k_Mod_name 20 = .ok (.invokestatic 69, 3) := by decide +kernel
theorem d_Mod_name_23 : decode k_Mod_name 23 = .ok (.ifCond .eq 12, 3) := by decide +kernel
theorem d_Mod_name_26 : decode k_Mod_name 26 = .ok (.aload_n 0, 1) := by decide +kernel
theorem d_Mod_name_27 : decode k_Mod_name 27 = .ok (.getfield 63, 3) := by decide +kernel
theorem d_Mod_name_30 : decode k_Mod_name 30 = .ok (.bipush 24, 2) := by decide +kernel
theorem d_Mod_name_32 : decode k_Mod_name 32 = .ok (.if_icmp .lt 5, 3) := by decide +kernel
theorem d_Mod_name_35 : decode k_Mod_name 35 = .ok (.iconst (-1), 1) := by decide +kernel
theorem d_Mod_name_36 : decode k_Mod_name 36 = .ok (.ireturn, 1) := by decide +kernel
theorem d_Mod_name_37 : decode k_Mod_name 37 = .ok (.aload_n 0, 1) := by decide +kernel
theorem d_Mod_name_38 : decode k_Mod_name 38 = .ok (.iconst 1, 1) := by decide +kernel
theorem d_Mod_name_39 : decode k_Mod_name 39 = .ok (.iload_n 1, 1) := by decide +kernel
theorem d_Mod_name_40 : decode k_Mod_name 40 = .ok (.iload_n 3, 1) := by decide +kernel
theorem d_Mod_name_41 : decode k_Mod_name 41 = .ok (.iload 4, 2) := by decide +kernel
theorem d_Mod_name_43 : decode k_Mod_name 43 = .ok (.iload 5, 2) := by decide +kernel
theorem d_Mod_name_45 : decode k_Mod_name 45 = .ok (.invokevirtual 73, 3) := by decide +kernel
theorem d_Mod_name_48 : decode k_Mod_name 48 = .ok (.istore 6, 2) := by decide +kernel
theorem d_Mod_name_50 : decode k_Mod_name 50 = .ok (.aload_n 0, 1) := by decide +kernel
theorem d_Mod_name_51 : decode k_Mod_name 51 = .ok (.getfield 20, 3) := by decide +kernel
theorem d_Mod_name_54 : decode k_Mod_name 54 = .ok (.iload 6, 2) := by decide +kernel
theorem d_Mod_name_56 : decode k_Mod_name 56 = .ok (.iload_n 2, 1) := by decide +kernel
theorem d_Mod_name_57 : decode k_Mod_name 57 = .ok (.iastore, 1) := by decide +kernel
theorem d_Mod_name_58 : decode k_Mod_name 58 = .ok (.aload_n 0, 1) := by decide +kernel
theorem d_Mod_name_59 : decode k_Mod_name 59 = .ok (.getfield 47, 3) := by decide +kernel
theorem d_Mod_name_62 : decode k_Mod_name 62 = .ok (.iload 6, 2) := by decide +kernel
theorem d_Mod_name_64 : decode k_Mod_name 64 = .ok (.iconst 0, 1) := by decide +kernel
theorem d_Mod_name_65 : decode k_Mod_name 65 = .ok (.bastore, 1) := by decide +kernel
theorem d_Mod_name_66 : decode k_Mod_name 66 = .ok (.iload 6, 2) := by decide +kernel
theorem d_Mod_name_68 : decode k_Mod_name 68 = .ok (.ireturn, 1) := by decide +kernel
set_option maxHeartbeats 4000000 in
set_option maxRecDepth 100000 in
theorem c_Mod_name (l : Launch) {B : Nat} {D : va_G} {cI cZ cQ : ClassId} {w : mm_M} {sz : Nat} {b : Nat} {N : Nat → Nat → Nat} {S : Nat → Nat → Int32} {ir mr sr fr to : Int32} (hM : mo_I b cI cZ N S w) (hn : N 0 0 ≤ 24) : Met l y_Mod_name ws_Mod_name (kk_rm 2 0 0) (kk_Pc B D cI cZ cQ [.ref (b + 14), .int ir, .int mr, .int sr, .int fr, .int to] w sz) (kk_Qi B D (fun r w' sz' => r = (if na_ok N ir mr sr then nI (N 0 0) else -1) ∧ mo_I b cI cZ (na_N N ir mr sr) (na_S N S ir mr sr fr to) w' ∧ (∀ j, ¬ (b + 14 ≤ j ∧ j < b + 31) → w' j = w j) ∧ sz' = sz)) 0 0 (fun q => B ≤ q) := by
  refine Met.ofW (cc := k_Mod_name) (maxL := 7) (ret := (some .int)) (by decide) rfl ?_
  intro p e s m args below meth c s₁ BB hml hv
  obtain ⟨rfl, hK, hP, hz, hBz⟩ := hv
  have hx := BB.exec
  have hb := BB.bytes
  have hr := BB.returns
  have hts := atoms_spec (ws := ws_Mod_name) BB.pre
  have hown : s.vm.findClass "DelegationClosureModel" = some m.cls := findClass_of_methodNamed BB.named
  have hlocks := BB.notSynchronized
  have hS : mm_S B s.heap s.heap [] := va_S.rf
  have hl := lv_entry ([.ref (b + 14), .int ir, .int mr, .int sr, .int fr, .int to]) (n := 7) (Nat.le_of_ble_eq_true rfl)
  rw [lg_entry_eq]
  generalize (lg_sl ([.ref (b + 14), .int ir, .int mr, .int sr, .int fr, .int to]) ++ List.replicate (7 - (lg_sl ([.ref (b + 14), .int ir, .int mr, .int sr, .int fr, .int to])).length) Slot.unset).toArray = ls at hl ⊢
  have hl : lv_has ls 7 [(0, .ref (b + 14)), (1, .int ir), (2, .int mr), (3, .int sr), (4, .int fr), (5, .int to)] := hl
  have m0 : w (b + 14) = some (.inr (9, [.int (nI (N 0 0)), .ref (b + 15), .ref (b + 16), .ref (b + 17), .ref (b + 18), .ref (b + 19), .ref (b + 20), .ref (b + 21), .ref (b + 22), .ref (b + 23), .ref (b + 24), .ref (b + 25), .ref (b + 26), .ref (b + 27), .ref (b + 28), .ref (b + 29), .int (nI (N 16 0)), .int (nI (N 17 0)), .int (nI (N 18 0)), .ref (b + 30), .int (nI (N 20 0)), .int (S 21 0), .int (S 22 0), .int (S 23 0), .int (S 24 0), .int (nI (N 25 0)), .int (nI (N 26 0))])) := hM.1
  have m1 : w (b + 15) = some (.inl (cZ, 24, .inl (fun i => nI ((N 1) i)))) := hM.2 1 (by decide) (by decide)
  have m2 : w (b + 16) = some (.inl (cZ, 24, .inl (fun i => nI ((N 2) i)))) := hM.2 2 (by decide) (by decide)
  have m3 : w (b + 17) = some (.inl (cI, 24, .inl (fun i => nI ((N 3) i)))) := hM.2 3 (by decide) (by decide)
  have m4 : w (b + 18) = some (.inl (cI, 24, .inl (fun i => nI ((N 4) i)))) := hM.2 4 (by decide) (by decide)
  have m5 : w (b + 19) = some (.inl (cI, 24, .inl (S 5))) := hM.2 5 (by decide) (by decide)
  have m6 : w (b + 20) = some (.inl (cI, 24, .inl (S 6))) := hM.2 6 (by decide) (by decide)
  have m7 : w (b + 21) = some (.inl (cI, 72, .inl (fun i => nI ((N 7) i)))) := hM.2 7 (by decide) (by decide)
  have m8 : w (b + 22) = some (.inl (cI, 24, .inl (fun i => nI ((N 8) i)))) := hM.2 8 (by decide) (by decide)
  have m9 : w (b + 23) = some (.inl (cI, 24, .inl (fun i => nI ((N 9) i)))) := hM.2 9 (by decide) (by decide)
  have m10 : w (b + 24) = some (.inl (cI, 24, .inl (fun i => nI ((N 10) i)))) := hM.2 10 (by decide) (by decide)
  have m11 : w (b + 25) = some (.inl (cI, 24, .inl (S 11))) := hM.2 11 (by decide) (by decide)
  have m12 : w (b + 26) = some (.inl (cI, 24, .inl (S 12))) := hM.2 12 (by decide) (by decide)
  have m13 : w (b + 27) = some (.inl (cZ, 24, .inl (fun i => nI ((N 13) i)))) := hM.2 13 (by decide) (by decide)
  have m14 : w (b + 28) = some (.inl (cI, 256, .inl (fun i => nI ((N 14) i)))) := hM.2 14 (by decide) (by decide)
  have m15 : w (b + 29) = some (.inl (cI, 24, .inl (fun i => nI ((N 15) i)))) := hM.2 15 (by decide) (by decide)
  have m16 : w (b + 30) = some (.inl (cI, 5, .inl (fun i => nI ((N 19) i)))) := hM.2 16 (by decide) (by decide)
  by_cases hok : na_ok N ir mr sr
  · obtain ⟨a9, ha9, rfl⟩ := kk_lim_of hok.1 (by omega)
    obtain ⟨b9, hb9, rfl⟩ := kk_lim_of hok.2.1 (by omega)
    obtain ⟨s9, rfl, hs9⟩ := wf_sub_of hok.2.2.1
    refine lv_iload_n hx hb d_Mod_name_0 rfl (lv_at hl 1 rfl) ?_
    refine lv_if_lt (tgt := 35) hx hb d_Mod_name_1 (by decide) (fun cc1 => ?_) (fun cc1 => ?_)
    · rw [← nI_0] at cc1
      have cc1 : a9 < 0 := (nI_ltI (by omega) (by omega)).mp cc1
      exact absurd cc1 (by omega)
    · rw [← nI_0] at cc1
      have cc1 : ¬ (a9 < 0) := fun q => cc1 ((nI_ltI (by omega) (by omega)).mpr q)
      refine lv_iload_n hx hb d_Mod_name_4 rfl (lv_at hl 1 rfl) ?_
      refine lv_bipush (v := nI 7) hx hb d_Mod_name_5 (by decide) ?_
      refine lv_icmp_gt (tgt := 35) hx hb d_Mod_name_7 (by decide) (fun cc2 => ?_) (fun cc2 => ?_)
      · have cc2 : 7 < a9 := (nI_ltI (by omega) (by omega)).mp cc2
        exact absurd cc2 (by omega)
      · have cc2 : ¬ (7 < a9) := fun q => cc2 ((nI_ltI (by omega) (by omega)).mpr q)
        refine lv_iload_n hx hb d_Mod_name_10 rfl (lv_at hl 2 rfl) ?_
        refine lv_if_lt (tgt := 35) hx hb d_Mod_name_11 (by decide) (fun cc3 => ?_) (fun cc3 => ?_)
        · rw [← nI_0] at cc3
          have cc3 : b9 < 0 := (nI_ltI (by omega) (by omega)).mp cc3
          exact absurd cc3 (by omega)
        · rw [← nI_0] at cc3
          have cc3 : ¬ (b9 < 0) := fun q => cc3 ((nI_ltI (by omega) (by omega)).mpr q)
          refine lv_iload_n hx hb d_Mod_name_14 rfl (lv_at hl 2 rfl) ?_
          refine lv_iconst (v := nI 3) hx hb d_Mod_name_15 (by decide) ?_
          refine lv_icmp_gt (tgt := 35) hx hb d_Mod_name_16 (by decide) (fun cc4 => ?_) (fun cc4 => ?_)
          · have cc4 : 3 < b9 := (nI_ltI (by omega) (by omega)).mp cc4
            exact absurd cc4 (by omega)
          · have cc4 : ¬ (3 < b9) := fun q => cc4 ((nI_ltI (by omega) (by omega)).mpr q)
            refine lv_iload_n hx hb d_Mod_name_19 rfl (lv_at hl 3 rfl) ?_
            refine vp_callSi (va_Run.run (va_runS (As := [.int (nI s9)]) (rest := []) ⟨hx, hb, hml, hown, hts⟩ (c_Mod_isSubject l ) (va_cwS 1 hts (gW_in (hd := [_, _, _, _]) (kk_4 wd_577 wd_578 wd_8 cw_Mod_isSubject)) rfl rfl rfl ds_Mod_isSubject ⟨Nat.le_of_ble_eq_true rfl, Nat.le_of_ble_eq_true rfl⟩) (kk_preS hK hP hz hBz) rfl rfl hl.1 rfl (lv_room (Nat.le_of_ble_eq_true rfl)) d_Mod_name_20 ⟨Nat.le_of_ble_eq_true rfl, Nat.le_of_ble_eq_true rfl⟩)) (fun r5 hr5 => ?_)
            subst hr5
            refine lv_if_eq (tgt := 35) hx hb d_Mod_name_23 (by decide) (fun cc6 => ?_) (fun cc6 => ?_)
            · have cc6 := kk_b0 cc6
              exact absurd hok.2.2.1 cc6
            · have cc6 := kk_b1 cc6
              refine lv_aload_n hx hb d_Mod_name_26 rfl (lv_at hl 0 rfl) ?_
              refine mm_get (D := D) (C := n_Mod) (T := T_Mod) (N := 27) (v := .int (nI (N 0 0))) hx hb hts lay_Mod hown hK.1 hP m0 rfl 0 (by decide) (hts _ (List.mem_cons_of_mem _ wd_491)) (fun _ h9 => h9) rfl d_Mod_name_27 ?_
              refine lv_bipush (v := nI 24) hx hb d_Mod_name_30 (by decide) ?_
              refine lv_icmp_lt (tgt := 37) hx hb d_Mod_name_32 (by decide) (fun cc7 => ?_) (fun cc7 => ?_)
              · have cc7 : N 0 0 < 24 := (nI_ltI (by omega) (by omega)).mp cc7
                refine lv_aload_n hx hb d_Mod_name_37 rfl (lv_at hl 0 rfl) ?_
                refine lv_iconst (v := nI 1) hx hb d_Mod_name_38 (by decide) ?_
                refine lv_iload_n hx hb d_Mod_name_39 rfl (lv_at hl 1 rfl) ?_
                refine lv_iload_n hx hb d_Mod_name_40 rfl (lv_at hl 3 rfl) ?_
                refine lv_iload hx hb d_Mod_name_41 (lv_at hl 4 rfl) ?_
                refine lv_iload hx hb d_Mod_name_43 (lv_at hl 5 rfl) ?_
                refine kk_calli (va_runV (As := [.int (nI 1), .int (nI a9), .int (nI s9), .int fr, .int to]) (rest := []) ⟨hx, hb, hml, hown, hts⟩ (c_Mod_make l (b := b) (N := N) (S := S) hM (by omega) (by omega)) (cwV 5 hts (gW_in (hd := [_, _, _, _, _]) (kk_5 wd_583 wd_585 sl_Mod_make wd_8 cw_Mod_make)) rfl rfl rfl ⟨rfl, ds_Mod_make⟩ ⟨Nat.le_of_ble_eq_true rfl, Nat.le_of_ble_eq_true rfl⟩) (kk_preV hK hP hz hBz m0 rfl) rfl rfl hl.1 rfl (lv_room (Nat.le_of_ble_eq_true rfl)) d_Mod_name_45 ⟨Nat.le_of_ble_eq_true rfl, Nat.le_of_ble_eq_true rfl⟩) hS (fun r8 w8 sz8 H locs hp8 hP hz hS => ?_)
                obtain ⟨hr8, hM8, hf8, hs8⟩ := hp8
                subst hr8
                have hz : H.size = sz := hz.trans hs8
                have m8_0 : w8 (b + 14) = some (.inr (9, [.int (nI ((mk_N N 1 a9 s9) 0 0)), .ref (b + 15), .ref (b + 16), .ref (b + 17), .ref (b + 18), .ref (b + 19), .ref (b + 20), .ref (b + 21), .ref (b + 22), .ref (b + 23), .ref (b + 24), .ref (b + 25), .ref (b + 26), .ref (b + 27), .ref (b + 28), .ref (b + 29), .int (nI ((mk_N N 1 a9 s9) 16 0)), .int (nI ((mk_N N 1 a9 s9) 17 0)), .int (nI ((mk_N N 1 a9 s9) 18 0)), .ref (b + 30), .int (nI ((mk_N N 1 a9 s9) 20 0)), .int ((mk_S S (N 0 0) fr to) 21 0), .int ((mk_S S (N 0 0) fr to) 22 0), .int ((mk_S S (N 0 0) fr to) 23 0), .int ((mk_S S (N 0 0) fr to) 24 0), .int (nI ((mk_N N 1 a9 s9) 25 0)), .int (nI ((mk_N N 1 a9 s9) 26 0))])) := hM8.1
                have m8_1 : w8 (b + 15) = some (.inl (cZ, 24, .inl (fun i => nI (((mk_N N 1 a9 s9) 1) i)))) := hM8.2 1 (by decide) (by decide)
                have m8_2 : w8 (b + 16) = some (.inl (cZ, 24, .inl (fun i => nI (((mk_N N 1 a9 s9) 2) i)))) := hM8.2 2 (by decide) (by decide)
                have m8_3 : w8 (b + 17) = some (.inl (cI, 24, .inl (fun i => nI (((mk_N N 1 a9 s9) 3) i)))) := hM8.2 3 (by decide) (by decide)
                have m8_4 : w8 (b + 18) = some (.inl (cI, 24, .inl (fun i => nI (((mk_N N 1 a9 s9) 4) i)))) := hM8.2 4 (by decide) (by decide)
                have m8_5 : w8 (b + 19) = some (.inl (cI, 24, .inl ((mk_S S (N 0 0) fr to) 5))) := hM8.2 5 (by decide) (by decide)
                have m8_6 : w8 (b + 20) = some (.inl (cI, 24, .inl ((mk_S S (N 0 0) fr to) 6))) := hM8.2 6 (by decide) (by decide)
                have m8_7 : w8 (b + 21) = some (.inl (cI, 72, .inl (fun i => nI (((mk_N N 1 a9 s9) 7) i)))) := hM8.2 7 (by decide) (by decide)
                have m8_8 : w8 (b + 22) = some (.inl (cI, 24, .inl (fun i => nI (((mk_N N 1 a9 s9) 8) i)))) := hM8.2 8 (by decide) (by decide)
                have m8_9 : w8 (b + 23) = some (.inl (cI, 24, .inl (fun i => nI (((mk_N N 1 a9 s9) 9) i)))) := hM8.2 9 (by decide) (by decide)
                have m8_10 : w8 (b + 24) = some (.inl (cI, 24, .inl (fun i => nI (((mk_N N 1 a9 s9) 10) i)))) := hM8.2 10 (by decide) (by decide)
                have m8_11 : w8 (b + 25) = some (.inl (cI, 24, .inl ((mk_S S (N 0 0) fr to) 11))) := hM8.2 11 (by decide) (by decide)
                have m8_12 : w8 (b + 26) = some (.inl (cI, 24, .inl ((mk_S S (N 0 0) fr to) 12))) := hM8.2 12 (by decide) (by decide)
                have m8_13 : w8 (b + 27) = some (.inl (cZ, 24, .inl (fun i => nI (((mk_N N 1 a9 s9) 13) i)))) := hM8.2 13 (by decide) (by decide)
                have m8_14 : w8 (b + 28) = some (.inl (cI, 256, .inl (fun i => nI (((mk_N N 1 a9 s9) 14) i)))) := hM8.2 14 (by decide) (by decide)
                have m8_15 : w8 (b + 29) = some (.inl (cI, 24, .inl (fun i => nI (((mk_N N 1 a9 s9) 15) i)))) := hM8.2 15 (by decide) (by decide)
                have m8_16 : w8 (b + 30) = some (.inl (cI, 5, .inl (fun i => nI (((mk_N N 1 a9 s9) 19) i)))) := hM8.2 16 (by decide) (by decide)
                refine lv_istore hx hb d_Mod_name_48 hl (by decide) rfl (fun ls hl => ?_)
                have hl : lv_has ls 7 [(6, .int (nI (N 0 0))), (0, .ref (b + 14)), (1, .int (nI a9)), (2, .int (nI b9)), (3, .int (nI s9)), (4, .int fr), (5, .int to)] := hl
                refine lv_aload_n hx hb d_Mod_name_50 rfl (lv_at hl 1 rfl) ?_
                refine mm_get (D := D) (C := n_Mod) (T := T_Mod) (N := 27) (v := .ref (b + 18)) hx hb hts lay_Mod hown hK.1 hP m8_0 rfl 4 (by decide) (hts _ (List.mem_cons_of_mem _ wd_495)) (fun _ h9 => h9) rfl d_Mod_name_51 ?_
                refine lv_iload hx hb d_Mod_name_54 (lv_at hl 0 rfl) ?_
                refine lv_iload_n hx hb d_Mod_name_56 rfl (lv_at hl 3 rfl) ?_
                refine mm_iast hx hb hK.1 hP hS 0 m8_4 rfl (N 0 0) rfl (by omega) (by decide) d_Mod_name_57 (fun H locs hP hz1 hS => ?_)
                rw [show upd (fun i => nI (((mk_N N 1 a9 s9) 4) i)) (N 0 0) (nI b9) = fun i => nI ((va_up ((mk_N N 1 a9 s9) 4) (N 0 0) b9) i) from kk_upn _ _ _] at hP
                have hz : H.size = sz := hz1.trans hz
                obtain ⟨w9, hw9⟩ : ∃ z : mm_M, z = mm_up w8 (b + 18) (.inl (cI, 24, .inl (fun i => nI ((va_up ((mk_N N 1 a9 s9) 4) (N 0 0) b9) i)))) := ⟨_, rfl⟩
                have hP : mm_P B D kc w9 H := by rw [hw9]; exact hP
                have fr9 : ∀ j, j ≠ b + 18 → w9 j = w8 j := fun j h9 => by rw [hw9]; exact mm_un h9
                have fa9 : w9 (b + 18) = some (.inl (cI, 24, .inl (fun i => nI ((va_up ((mk_N N 1 a9 s9) 4) (N 0 0) b9) i)))) := by rw [hw9]; exact mm_us _ _ _
                refine lv_aload_n hx hb d_Mod_name_58 rfl (lv_at hl 1 rfl) ?_
                have f10 := (fr9 _ (by omega)).trans (m8_0)
                refine mm_get (D := D) (C := n_Mod) (T := T_Mod) (N := 27) (v := .ref (b + 27)) hx hb hts lay_Mod hown hK.1 hP f10 rfl 13 (by decide) (hts _ (List.mem_cons_of_mem _ wd_504)) (fun _ h9 => h9) rfl d_Mod_name_59 ?_
                refine lv_iload hx hb d_Mod_name_62 (lv_at hl 0 rfl) ?_
                refine lv_iconst (v := nI 0) hx hb d_Mod_name_64 (by decide) ?_
                have f11 := (fr9 _ (by omega)).trans (m8_13)
                refine mm_zast hx hb hK.1 hP hS 1 f11 rfl (N 0 0) rfl (by omega) (by decide) rfl d_Mod_name_65 (fun H locs hP hz1 hS => ?_)
                rw [show upd (fun i => nI (((mk_N N 1 a9 s9) 13) i)) (N 0 0) (nI 0) = fun i => nI ((va_up ((mk_N N 1 a9 s9) 13) (N 0 0) 0) i) from kk_upn _ _ _] at hP
                have hz : H.size = sz := hz1.trans hz
                obtain ⟨w12, hw12⟩ : ∃ z : mm_M, z = mm_up w9 (b + 27) (.inl (cZ, 24, .inl (fun i => nI ((va_up ((mk_N N 1 a9 s9) 13) (N 0 0) 0) i)))) := ⟨_, rfl⟩
                have hP : mm_P B D kc w12 H := by rw [hw12]; exact hP
                have fr12 : ∀ j, j ≠ b + 27 → w12 j = w9 j := fun j h9 => by rw [hw12]; exact mm_un h9
                have fa12 : w12 (b + 27) = some (.inl (cZ, 24, .inl (fun i => nI ((va_up ((mk_N N 1 a9 s9) 13) (N 0 0) 0) i)))) := by rw [hw12]; exact mm_us _ _ _
                refine lv_iload hx hb d_Mod_name_66 (lv_at hl 0 rfl) ?_
                exact W.iret hx hb hr (fun t ht hW => ⟨⟨_, (w12, sz), rfl, ⟨(if_pos hok).symm, (by rw [na_N_pos (by omega) (by omega) (by omega) hok, show na_S N S _ _ _ _ _ = mk_S S (N 0 0) fr to from if_pos hok]; exact mo_mk ((fr12 _ (by omega)).trans (f10)) ((fr12 _ (by omega)).trans ((fr9 _ (by omega)).trans (m8_1))) ((fr12 _ (by omega)).trans ((fr9 _ (by omega)).trans (m8_2))) ((fr12 _ (by omega)).trans ((fr9 _ (by omega)).trans (m8_3))) ((fr12 _ (by omega)).trans (fa9)) ((fr12 _ (by omega)).trans ((fr9 _ (by omega)).trans (m8_5))) ((fr12 _ (by omega)).trans ((fr9 _ (by omega)).trans (m8_6))) ((fr12 _ (by omega)).trans ((fr9 _ (by omega)).trans (m8_7))) ((fr12 _ (by omega)).trans ((fr9 _ (by omega)).trans (m8_8))) ((fr12 _ (by omega)).trans ((fr9 _ (by omega)).trans (m8_9))) ((fr12 _ (by omega)).trans ((fr9 _ (by omega)).trans (m8_10))) ((fr12 _ (by omega)).trans ((fr9 _ (by omega)).trans (m8_11))) ((fr12 _ (by omega)).trans ((fr9 _ (by omega)).trans (m8_12))) fa12 ((fr12 _ (by omega)).trans ((fr9 _ (by omega)).trans (m8_14))) ((fr12 _ (by omega)).trans ((fr9 _ (by omega)).trans (m8_15))) ((fr12 _ (by omega)).trans ((fr9 _ (by omega)).trans (m8_16)))), (fun j hj => (fr12 j (by omega)).trans ((fr9 j (by omega)).trans (hf8 j hj))), rfl⟩, by rw [ht]; exact hP, by rw [ht]; exact hz⟩, hS.F ht⟩) hS.2.2 d_Mod_name_68
              · have cc7 : ¬ (N 0 0 < 24) := fun q => cc7 ((nI_ltI (by omega) (by omega)).mpr q)
                exact absurd hok.2.2.2 (by omega)
  · refine lv_iload_n hx hb d_Mod_name_0 rfl (lv_at hl 1 rfl) ?_
    refine lv_if_lt (tgt := 35) hx hb d_Mod_name_1 (by decide) (fun cc13 => ?_) (fun cc13 => ?_)
    · refine lv_iconst (v := (-1)) hx hb d_Mod_name_35 (by decide) ?_
      exact W.iret hx hb hr (fun t ht hW => ⟨⟨_, (w, sz), rfl, ⟨(if_neg hok).symm, (by rw [show na_N N _ _ _ = N from if_neg hok, show na_S N S _ _ _ _ _ = S from if_neg hok]; exact mo_mk m0 m1 m2 m3 m4 m5 m6 m7 m8 m9 m10 m11 m12 m13 m14 m15 m16), (fun j hj => rfl), rfl⟩, by rw [ht]; exact hP, by rw [ht]; exact hz⟩, hS.F ht⟩) hS.2.2 d_Mod_name_36
    · refine lv_iload_n hx hb d_Mod_name_4 rfl (lv_at hl 1 rfl) ?_
      refine lv_bipush (v := nI 7) hx hb d_Mod_name_5 (by decide) ?_
      refine lv_icmp_gt (tgt := 35) hx hb d_Mod_name_7 (by decide) (fun cc14 => ?_) (fun cc14 => ?_)
      · refine lv_iconst (v := (-1)) hx hb d_Mod_name_35 (by decide) ?_
        exact W.iret hx hb hr (fun t ht hW => ⟨⟨_, (w, sz), rfl, ⟨(if_neg hok).symm, (by rw [show na_N N _ _ _ = N from if_neg hok, show na_S N S _ _ _ _ _ = S from if_neg hok]; exact mo_mk m0 m1 m2 m3 m4 m5 m6 m7 m8 m9 m10 m11 m12 m13 m14 m15 m16), (fun j hj => rfl), rfl⟩, by rw [ht]; exact hP, by rw [ht]; exact hz⟩, hS.F ht⟩) hS.2.2 d_Mod_name_36
      · refine lv_iload_n hx hb d_Mod_name_10 rfl (lv_at hl 2 rfl) ?_
        refine lv_if_lt (tgt := 35) hx hb d_Mod_name_11 (by decide) (fun cc15 => ?_) (fun cc15 => ?_)
        · refine lv_iconst (v := (-1)) hx hb d_Mod_name_35 (by decide) ?_
          exact W.iret hx hb hr (fun t ht hW => ⟨⟨_, (w, sz), rfl, ⟨(if_neg hok).symm, (by rw [show na_N N _ _ _ = N from if_neg hok, show na_S N S _ _ _ _ _ = S from if_neg hok]; exact mo_mk m0 m1 m2 m3 m4 m5 m6 m7 m8 m9 m10 m11 m12 m13 m14 m15 m16), (fun j hj => rfl), rfl⟩, by rw [ht]; exact hP, by rw [ht]; exact hz⟩, hS.F ht⟩) hS.2.2 d_Mod_name_36
        · refine lv_iload_n hx hb d_Mod_name_14 rfl (lv_at hl 2 rfl) ?_
          refine lv_iconst (v := nI 3) hx hb d_Mod_name_15 (by decide) ?_
          refine lv_icmp_gt (tgt := 35) hx hb d_Mod_name_16 (by decide) (fun cc16 => ?_) (fun cc16 => ?_)
          · refine lv_iconst (v := (-1)) hx hb d_Mod_name_35 (by decide) ?_
            exact W.iret hx hb hr (fun t ht hW => ⟨⟨_, (w, sz), rfl, ⟨(if_neg hok).symm, (by rw [show na_N N _ _ _ = N from if_neg hok, show na_S N S _ _ _ _ _ = S from if_neg hok]; exact mo_mk m0 m1 m2 m3 m4 m5 m6 m7 m8 m9 m10 m11 m12 m13 m14 m15 m16), (fun j hj => rfl), rfl⟩, by rw [ht]; exact hP, by rw [ht]; exact hz⟩, hS.F ht⟩) hS.2.2 d_Mod_name_36
          · refine lv_iload_n hx hb d_Mod_name_19 rfl (lv_at hl 3 rfl) ?_
            refine vp_callSi (va_Run.run (va_runS (As := [.int sr]) (rest := []) ⟨hx, hb, hml, hown, hts⟩ (c_Mod_isSubject l ) (va_cwS 1 hts (gW_in (hd := [_, _, _, _]) (kk_4 wd_577 wd_578 wd_8 cw_Mod_isSubject)) rfl rfl rfl ds_Mod_isSubject ⟨Nat.le_of_ble_eq_true rfl, Nat.le_of_ble_eq_true rfl⟩) (kk_preS hK hP hz hBz) rfl rfl hl.1 rfl (lv_room (Nat.le_of_ble_eq_true rfl)) d_Mod_name_20 ⟨Nat.le_of_ble_eq_true rfl, Nat.le_of_ble_eq_true rfl⟩)) (fun r17 hr17 => ?_)
            subst hr17
            refine lv_if_eq (tgt := 35) hx hb d_Mod_name_23 (by decide) (fun cc18 => ?_) (fun cc18 => ?_)
            · have cc18 := kk_b0 cc18
              refine lv_iconst (v := (-1)) hx hb d_Mod_name_35 (by decide) ?_
              exact W.iret hx hb hr (fun t ht hW => ⟨⟨_, (w, sz), rfl, ⟨(if_neg hok).symm, (by rw [show na_N N _ _ _ = N from if_neg hok, show na_S N S _ _ _ _ _ = S from if_neg hok]; exact mo_mk m0 m1 m2 m3 m4 m5 m6 m7 m8 m9 m10 m11 m12 m13 m14 m15 m16), (fun j hj => rfl), rfl⟩, by rw [ht]; exact hP, by rw [ht]; exact hz⟩, hS.F ht⟩) hS.2.2 d_Mod_name_36
            · have cc18 := kk_b1 cc18
              refine lv_aload_n hx hb d_Mod_name_26 rfl (lv_at hl 0 rfl) ?_
              refine mm_get (D := D) (C := n_Mod) (T := T_Mod) (N := 27) (v := .int (nI (N 0 0))) hx hb hts lay_Mod hown hK.1 hP m0 rfl 0 (by decide) (hts _ (List.mem_cons_of_mem _ wd_491)) (fun _ h9 => h9) rfl d_Mod_name_27 ?_
              refine lv_bipush (v := nI 24) hx hb d_Mod_name_30 (by decide) ?_
              refine lv_icmp_lt (tgt := 37) hx hb d_Mod_name_32 (by decide) (fun cc19 => ?_) (fun cc19 => ?_)
              · have cc19 : N 0 0 < 24 := (nI_ltI (by omega) (by omega)).mp cc19
                exact absurd ⟨⟨cc13, fun q => cc14 ((kk_gtm 7 8 rfl (by decide)).mpr q)⟩, ⟨cc15, fun q => cc16 ((kk_gtm 3 4 rfl (by decide)).mpr q)⟩, cc18, by omega⟩ hok
              · have cc19 : ¬ (N 0 0 < 24) := fun q => cc19 ((nI_ltI (by omega) (by omega)).mpr q)
                refine lv_iconst (v := (-1)) hx hb d_Mod_name_35 (by decide) ?_
                exact W.iret hx hb hr (fun t ht hW => ⟨⟨_, (w, sz), rfl, ⟨(if_neg hok).symm, (by rw [show na_N N _ _ _ = N from if_neg hok, show na_S N S _ _ _ _ _ = S from if_neg hok]; exact mo_mk m0 m1 m2 m3 m4 m5 m6 m7 m8 m9 m10 m11 m12 m13 m14 m15 m16), (fun j hj => rfl), rfl⟩, by rw [ht]; exact hP, by rw [ht]; exact hz⟩, hS.F ht⟩) hS.2.2 d_Mod_name_36
theorem d_Mod_permit_0 : decode k_Mod_permit 0 = .ok (.iload_n 1, 1) := by decide +kernel
theorem d_Mod_permit_1 : decode k_Mod_permit 1 = .ok (.ifCond .lt 25, 3) := by decide +kernel
theorem d_Mod_permit_4 : decode k_Mod_permit 4 = .ok (.iload_n 1, 1) := by decide +kernel
theorem d_Mod_permit_5 : decode k_Mod_permit 5 = .ok (.bipush 8, 2) := by decide +kernel
theorem d_Mod_permit_7 : decode k_Mod_permit 7 = .ok (.if_icmp .gt 19, 3) := by decide +kernel
theorem d_Mod_permit_10 : decode k_Mod_permit 10 = .ok (.iload_n 2, 1) := by decide +kernel
theorem d_Mod_permit_11 : decode k_Mod_permit 11 = .ok (.invokestatic 69, 3) := by decide +kernel
theorem d_Mod_permit_14 : decode k_Mod_permit 14 = .ok (.ifCond .eq 12, 3) := by decide +kernel
theorem d_Mod_permit_17 : decode k_Mod_permit 17 = .ok (.aload_n 0, 1) := by decide +kernel
theorem d_Mod_permit_18 : decode k_Mod_permit 18 = .ok (.getfield 63, 3) := by decide +kernel
theorem d_Mod_permit_21 : decode k_Mod_permit 21 = .ok (.bipush 24, 2) := by decide +kernel
theorem d_Mod_permit_23 : decode k_Mod_permit 23 = .ok (.if_icmp .lt 5, 3) := by decide +kernel
theorem d_Mod_permit_26 : decode k_Mod_permit 26 = .ok (.iconst (-1), 1) := by decide +kernel
theorem d_Mod_permit_27 : decode k_Mod_permit 27 = .ok (.ireturn, 1) := by decide +kernel
theorem d_Mod_permit_28 : decode k_Mod_permit 28 = .ok (.aload_n 0, 1) := by decide +kernel
theorem d_Mod_permit_29 : decode k_Mod_permit 29 = .ok (.iconst 0, 1) := by decide +kernel
theorem d_Mod_permit_30 : decode k_Mod_permit 30 = .ok (.iload_n 1, 1) := by decide +kernel
theorem d_Mod_permit_31 : decode k_Mod_permit 31 = .ok (.iload_n 2, 1) := by decide +kernel
theorem d_Mod_permit_32 : decode k_Mod_permit 32 = .ok (.iload 4, 2) := by decide +kernel
theorem d_Mod_permit_34 : decode k_Mod_permit 34 = .ok (.iload 5, 2) := by decide +kernel
theorem d_Mod_permit_36 : decode k_Mod_permit 36 = .ok (.invokevirtual 73, 3) := by decide +kernel
theorem d_Mod_permit_39 : decode k_Mod_permit 39 = .ok (.istore 6, 2) := by decide +kernel
theorem d_Mod_permit_41 : decode k_Mod_permit 41 = .ok (.aload_n 0, 1) := by decide +kernel
theorem d_Mod_permit_42 : decode k_Mod_permit 42 = .ok (.getfield 20, 3) := by decide +kernel
theorem d_Mod_permit_45 : decode k_Mod_permit 45 = .ok (.iload 6, 2) := by decide +kernel
theorem d_Mod_permit_47 : decode k_Mod_permit 47 = .ok (.iconst 0, 1) := by decide +kernel
theorem d_Mod_permit_48 : decode k_Mod_permit 48 = .ok (.iastore, 1) := by decide +kernel
theorem d_Mod_permit_49 : decode k_Mod_permit 49 = .ok (.aload_n 0, 1) := by decide +kernel
theorem d_Mod_permit_50 : decode k_Mod_permit 50 = .ok (.getfield 47, 3) := by decide +kernel
theorem d_Mod_permit_53 : decode k_Mod_permit 53 = .ok (.iload 6, 2) := by decide +kernel
theorem d_Mod_permit_55 : decode k_Mod_permit 55 = .ok (.iload_n 3, 1) := by decide +kernel
theorem d_Mod_permit_56 : decode k_Mod_permit 56 = .ok (.bastore, 1) := by decide +kernel
theorem d_Mod_permit_57 : decode k_Mod_permit 57 = .ok (.iload 6, 2) := by decide +kernel
theorem d_Mod_permit_59 : decode k_Mod_permit 59 = .ok (.ireturn, 1) := by decide +kernel
set_option maxHeartbeats 4000000 in
set_option maxRecDepth 100000 in
theorem c_Mod_permit (l : Launch) {B : Nat} {D : va_G} {cI cZ cQ : ClassId} {w : mm_M} {sz : Nat} {b : Nat} {N : Nat → Nat → Nat} {S : Nat → Nat → Int32} {ir sr : Int32} {dl : Nat} {fr to : Int32} (hM : mo_I b cI cZ N S w) (hn : N 0 0 ≤ 24) (hdl : dl ≤ 1) : Met l y_Mod_permit ws_Mod_permit (kk_rm 2 0 0) (kk_Pc B D cI cZ cQ [.ref (b + 14), .int ir, .int sr, .int (nI dl), .int fr, .int to] w sz) (kk_Qi B D (fun r w' sz' => r = (if pe_ok N ir sr then nI (N 0 0) else -1) ∧ mo_I b cI cZ (pe_N N ir sr (nI dl)) (pe_S N S ir sr fr to) w' ∧ (∀ j, ¬ (b + 14 ≤ j ∧ j < b + 31) → w' j = w j) ∧ sz' = sz)) 0 0 (fun q => B ≤ q) := by
  refine Met.ofW (cc := k_Mod_permit) (maxL := 7) (ret := (some .int)) (by decide) rfl ?_
  intro p e s m args below meth c s₁ BB hml hv
  obtain ⟨rfl, hK, hP, hz, hBz⟩ := hv
  have hx := BB.exec
  have hb := BB.bytes
  have hr := BB.returns
  have hts := atoms_spec (ws := ws_Mod_permit) BB.pre
  have hown : s.vm.findClass "DelegationClosureModel" = some m.cls := findClass_of_methodNamed BB.named
  have hlocks := BB.notSynchronized
  have hS : mm_S B s.heap s.heap [] := va_S.rf
  have hl := lv_entry ([.ref (b + 14), .int ir, .int sr, .int (nI dl), .int fr, .int to]) (n := 7) (Nat.le_of_ble_eq_true rfl)
  rw [lg_entry_eq]
  generalize (lg_sl ([.ref (b + 14), .int ir, .int sr, .int (nI dl), .int fr, .int to]) ++ List.replicate (7 - (lg_sl ([.ref (b + 14), .int ir, .int sr, .int (nI dl), .int fr, .int to])).length) Slot.unset).toArray = ls at hl ⊢
  have hl : lv_has ls 7 [(0, .ref (b + 14)), (1, .int ir), (2, .int sr), (3, .int (nI dl)), (4, .int fr), (5, .int to)] := hl
  have m0 : w (b + 14) = some (.inr (9, [.int (nI (N 0 0)), .ref (b + 15), .ref (b + 16), .ref (b + 17), .ref (b + 18), .ref (b + 19), .ref (b + 20), .ref (b + 21), .ref (b + 22), .ref (b + 23), .ref (b + 24), .ref (b + 25), .ref (b + 26), .ref (b + 27), .ref (b + 28), .ref (b + 29), .int (nI (N 16 0)), .int (nI (N 17 0)), .int (nI (N 18 0)), .ref (b + 30), .int (nI (N 20 0)), .int (S 21 0), .int (S 22 0), .int (S 23 0), .int (S 24 0), .int (nI (N 25 0)), .int (nI (N 26 0))])) := hM.1
  have m1 : w (b + 15) = some (.inl (cZ, 24, .inl (fun i => nI ((N 1) i)))) := hM.2 1 (by decide) (by decide)
  have m2 : w (b + 16) = some (.inl (cZ, 24, .inl (fun i => nI ((N 2) i)))) := hM.2 2 (by decide) (by decide)
  have m3 : w (b + 17) = some (.inl (cI, 24, .inl (fun i => nI ((N 3) i)))) := hM.2 3 (by decide) (by decide)
  have m4 : w (b + 18) = some (.inl (cI, 24, .inl (fun i => nI ((N 4) i)))) := hM.2 4 (by decide) (by decide)
  have m5 : w (b + 19) = some (.inl (cI, 24, .inl (S 5))) := hM.2 5 (by decide) (by decide)
  have m6 : w (b + 20) = some (.inl (cI, 24, .inl (S 6))) := hM.2 6 (by decide) (by decide)
  have m7 : w (b + 21) = some (.inl (cI, 72, .inl (fun i => nI ((N 7) i)))) := hM.2 7 (by decide) (by decide)
  have m8 : w (b + 22) = some (.inl (cI, 24, .inl (fun i => nI ((N 8) i)))) := hM.2 8 (by decide) (by decide)
  have m9 : w (b + 23) = some (.inl (cI, 24, .inl (fun i => nI ((N 9) i)))) := hM.2 9 (by decide) (by decide)
  have m10 : w (b + 24) = some (.inl (cI, 24, .inl (fun i => nI ((N 10) i)))) := hM.2 10 (by decide) (by decide)
  have m11 : w (b + 25) = some (.inl (cI, 24, .inl (S 11))) := hM.2 11 (by decide) (by decide)
  have m12 : w (b + 26) = some (.inl (cI, 24, .inl (S 12))) := hM.2 12 (by decide) (by decide)
  have m13 : w (b + 27) = some (.inl (cZ, 24, .inl (fun i => nI ((N 13) i)))) := hM.2 13 (by decide) (by decide)
  have m14 : w (b + 28) = some (.inl (cI, 256, .inl (fun i => nI ((N 14) i)))) := hM.2 14 (by decide) (by decide)
  have m15 : w (b + 29) = some (.inl (cI, 24, .inl (fun i => nI ((N 15) i)))) := hM.2 15 (by decide) (by decide)
  have m16 : w (b + 30) = some (.inl (cI, 5, .inl (fun i => nI ((N 19) i)))) := hM.2 16 (by decide) (by decide)
  by_cases hok : pe_ok N ir sr
  · obtain ⟨a9, ha9, rfl⟩ := kk_lim_of hok.1 (by omega)
    obtain ⟨s9, rfl, hs9⟩ := wf_sub_of hok.2.1
    refine lv_iload_n hx hb d_Mod_permit_0 rfl (lv_at hl 1 rfl) ?_
    refine lv_if_lt (tgt := 26) hx hb d_Mod_permit_1 (by decide) (fun cc1 => ?_) (fun cc1 => ?_)
    · rw [← nI_0] at cc1
      have cc1 : a9 < 0 := (nI_ltI (by omega) (by omega)).mp cc1
      exact absurd cc1 (by omega)
    · rw [← nI_0] at cc1
      have cc1 : ¬ (a9 < 0) := fun q => cc1 ((nI_ltI (by omega) (by omega)).mpr q)
      refine lv_iload_n hx hb d_Mod_permit_4 rfl (lv_at hl 1 rfl) ?_
      refine lv_bipush (v := nI 8) hx hb d_Mod_permit_5 (by decide) ?_
      refine lv_icmp_gt (tgt := 26) hx hb d_Mod_permit_7 (by decide) (fun cc2 => ?_) (fun cc2 => ?_)
      · have cc2 : 8 < a9 := (nI_ltI (by omega) (by omega)).mp cc2
        exact absurd cc2 (by omega)
      · have cc2 : ¬ (8 < a9) := fun q => cc2 ((nI_ltI (by omega) (by omega)).mpr q)
        refine lv_iload_n hx hb d_Mod_permit_10 rfl (lv_at hl 2 rfl) ?_
        refine vp_callSi (va_Run.run (va_runS (As := [.int (nI s9)]) (rest := []) ⟨hx, hb, hml, hown, hts⟩ (c_Mod_isSubject l ) (va_cwS 1 hts (gW_in (hd := [_, _, _, _]) (kk_4 wd_577 wd_578 wd_8 cw_Mod_isSubject)) rfl rfl rfl ds_Mod_isSubject ⟨Nat.le_of_ble_eq_true rfl, Nat.le_of_ble_eq_true rfl⟩) (kk_preS hK hP hz hBz) rfl rfl hl.1 rfl (lv_room (Nat.le_of_ble_eq_true rfl)) d_Mod_permit_11 ⟨Nat.le_of_ble_eq_true rfl, Nat.le_of_ble_eq_true rfl⟩)) (fun r3 hr3 => ?_)
        subst hr3
        refine lv_if_eq (tgt := 26) hx hb d_Mod_permit_14 (by decide) (fun cc4 => ?_) (fun cc4 => ?_)
        · have cc4 := kk_b0 cc4
          exact absurd hok.2.1 cc4
        · have cc4 := kk_b1 cc4
          refine lv_aload_n hx hb d_Mod_permit_17 rfl (lv_at hl 0 rfl) ?_
          refine mm_get (D := D) (C := n_Mod) (T := T_Mod) (N := 27) (v := .int (nI (N 0 0))) hx hb hts lay_Mod hown hK.1 hP m0 rfl 0 (by decide) (hts _ (List.mem_cons_of_mem _ wd_491)) (fun _ h9 => h9) rfl d_Mod_permit_18 ?_
          refine lv_bipush (v := nI 24) hx hb d_Mod_permit_21 (by decide) ?_
          refine lv_icmp_lt (tgt := 28) hx hb d_Mod_permit_23 (by decide) (fun cc5 => ?_) (fun cc5 => ?_)
          · have cc5 : N 0 0 < 24 := (nI_ltI (by omega) (by omega)).mp cc5
            refine lv_aload_n hx hb d_Mod_permit_28 rfl (lv_at hl 0 rfl) ?_
            refine lv_iconst (v := nI 0) hx hb d_Mod_permit_29 (by decide) ?_
            refine lv_iload_n hx hb d_Mod_permit_30 rfl (lv_at hl 1 rfl) ?_
            refine lv_iload_n hx hb d_Mod_permit_31 rfl (lv_at hl 2 rfl) ?_
            refine lv_iload hx hb d_Mod_permit_32 (lv_at hl 4 rfl) ?_
            refine lv_iload hx hb d_Mod_permit_34 (lv_at hl 5 rfl) ?_
            refine kk_calli (va_runV (As := [.int (nI 0), .int (nI a9), .int (nI s9), .int fr, .int to]) (rest := []) ⟨hx, hb, hml, hown, hts⟩ (c_Mod_make l (b := b) (N := N) (S := S) hM (by omega) (by omega)) (cwV 5 hts (gW_in (hd := [_, _, _, _, _]) (kk_5 wd_583 wd_585 sl_Mod_make wd_8 cw_Mod_make)) rfl rfl rfl ⟨rfl, ds_Mod_make⟩ ⟨Nat.le_of_ble_eq_true rfl, Nat.le_of_ble_eq_true rfl⟩) (kk_preV hK hP hz hBz m0 rfl) rfl rfl hl.1 rfl (lv_room (Nat.le_of_ble_eq_true rfl)) d_Mod_permit_36 ⟨Nat.le_of_ble_eq_true rfl, Nat.le_of_ble_eq_true rfl⟩) hS (fun r6 w6 sz6 H locs hp6 hP hz hS => ?_)
            obtain ⟨hr6, hM6, hf6, hs6⟩ := hp6
            subst hr6
            have hz : H.size = sz := hz.trans hs6
            have m6_0 : w6 (b + 14) = some (.inr (9, [.int (nI ((mk_N N 0 a9 s9) 0 0)), .ref (b + 15), .ref (b + 16), .ref (b + 17), .ref (b + 18), .ref (b + 19), .ref (b + 20), .ref (b + 21), .ref (b + 22), .ref (b + 23), .ref (b + 24), .ref (b + 25), .ref (b + 26), .ref (b + 27), .ref (b + 28), .ref (b + 29), .int (nI ((mk_N N 0 a9 s9) 16 0)), .int (nI ((mk_N N 0 a9 s9) 17 0)), .int (nI ((mk_N N 0 a9 s9) 18 0)), .ref (b + 30), .int (nI ((mk_N N 0 a9 s9) 20 0)), .int ((mk_S S (N 0 0) fr to) 21 0), .int ((mk_S S (N 0 0) fr to) 22 0), .int ((mk_S S (N 0 0) fr to) 23 0), .int ((mk_S S (N 0 0) fr to) 24 0), .int (nI ((mk_N N 0 a9 s9) 25 0)), .int (nI ((mk_N N 0 a9 s9) 26 0))])) := hM6.1
            have m6_1 : w6 (b + 15) = some (.inl (cZ, 24, .inl (fun i => nI (((mk_N N 0 a9 s9) 1) i)))) := hM6.2 1 (by decide) (by decide)
            have m6_2 : w6 (b + 16) = some (.inl (cZ, 24, .inl (fun i => nI (((mk_N N 0 a9 s9) 2) i)))) := hM6.2 2 (by decide) (by decide)
            have m6_3 : w6 (b + 17) = some (.inl (cI, 24, .inl (fun i => nI (((mk_N N 0 a9 s9) 3) i)))) := hM6.2 3 (by decide) (by decide)
            have m6_4 : w6 (b + 18) = some (.inl (cI, 24, .inl (fun i => nI (((mk_N N 0 a9 s9) 4) i)))) := hM6.2 4 (by decide) (by decide)
            have m6_5 : w6 (b + 19) = some (.inl (cI, 24, .inl ((mk_S S (N 0 0) fr to) 5))) := hM6.2 5 (by decide) (by decide)
            have m6_6 : w6 (b + 20) = some (.inl (cI, 24, .inl ((mk_S S (N 0 0) fr to) 6))) := hM6.2 6 (by decide) (by decide)
            have m6_7 : w6 (b + 21) = some (.inl (cI, 72, .inl (fun i => nI (((mk_N N 0 a9 s9) 7) i)))) := hM6.2 7 (by decide) (by decide)
            have m6_8 : w6 (b + 22) = some (.inl (cI, 24, .inl (fun i => nI (((mk_N N 0 a9 s9) 8) i)))) := hM6.2 8 (by decide) (by decide)
            have m6_9 : w6 (b + 23) = some (.inl (cI, 24, .inl (fun i => nI (((mk_N N 0 a9 s9) 9) i)))) := hM6.2 9 (by decide) (by decide)
            have m6_10 : w6 (b + 24) = some (.inl (cI, 24, .inl (fun i => nI (((mk_N N 0 a9 s9) 10) i)))) := hM6.2 10 (by decide) (by decide)
            have m6_11 : w6 (b + 25) = some (.inl (cI, 24, .inl ((mk_S S (N 0 0) fr to) 11))) := hM6.2 11 (by decide) (by decide)
            have m6_12 : w6 (b + 26) = some (.inl (cI, 24, .inl ((mk_S S (N 0 0) fr to) 12))) := hM6.2 12 (by decide) (by decide)
            have m6_13 : w6 (b + 27) = some (.inl (cZ, 24, .inl (fun i => nI (((mk_N N 0 a9 s9) 13) i)))) := hM6.2 13 (by decide) (by decide)
            have m6_14 : w6 (b + 28) = some (.inl (cI, 256, .inl (fun i => nI (((mk_N N 0 a9 s9) 14) i)))) := hM6.2 14 (by decide) (by decide)
            have m6_15 : w6 (b + 29) = some (.inl (cI, 24, .inl (fun i => nI (((mk_N N 0 a9 s9) 15) i)))) := hM6.2 15 (by decide) (by decide)
            have m6_16 : w6 (b + 30) = some (.inl (cI, 5, .inl (fun i => nI (((mk_N N 0 a9 s9) 19) i)))) := hM6.2 16 (by decide) (by decide)
            refine lv_istore hx hb d_Mod_permit_39 hl (by decide) rfl (fun ls hl => ?_)
            have hl : lv_has ls 7 [(6, .int (nI (N 0 0))), (0, .ref (b + 14)), (1, .int (nI a9)), (2, .int (nI s9)), (3, .int (nI dl)), (4, .int fr), (5, .int to)] := hl
            refine lv_aload_n hx hb d_Mod_permit_41 rfl (lv_at hl 1 rfl) ?_
            refine mm_get (D := D) (C := n_Mod) (T := T_Mod) (N := 27) (v := .ref (b + 18)) hx hb hts lay_Mod hown hK.1 hP m6_0 rfl 4 (by decide) (hts _ (List.mem_cons_of_mem _ wd_495)) (fun _ h9 => h9) rfl d_Mod_permit_42 ?_
            refine lv_iload hx hb d_Mod_permit_45 (lv_at hl 0 rfl) ?_
            refine lv_iconst (v := nI 0) hx hb d_Mod_permit_47 (by decide) ?_
            refine mm_iast hx hb hK.1 hP hS 0 m6_4 rfl (N 0 0) rfl (by omega) (by decide) d_Mod_permit_48 (fun H locs hP hz1 hS => ?_)
            rw [show upd (fun i => nI (((mk_N N 0 a9 s9) 4) i)) (N 0 0) (nI 0) = fun i => nI ((va_up ((mk_N N 0 a9 s9) 4) (N 0 0) 0) i) from kk_upn _ _ _] at hP
            have hz : H.size = sz := hz1.trans hz
            obtain ⟨w7, hw7⟩ : ∃ z : mm_M, z = mm_up w6 (b + 18) (.inl (cI, 24, .inl (fun i => nI ((va_up ((mk_N N 0 a9 s9) 4) (N 0 0) 0) i)))) := ⟨_, rfl⟩
            have hP : mm_P B D kc w7 H := by rw [hw7]; exact hP
            have fr7 : ∀ j, j ≠ b + 18 → w7 j = w6 j := fun j h9 => by rw [hw7]; exact mm_un h9
            have fa7 : w7 (b + 18) = some (.inl (cI, 24, .inl (fun i => nI ((va_up ((mk_N N 0 a9 s9) 4) (N 0 0) 0) i)))) := by rw [hw7]; exact mm_us _ _ _
            refine lv_aload_n hx hb d_Mod_permit_49 rfl (lv_at hl 1 rfl) ?_
            have f8 := (fr7 _ (by omega)).trans (m6_0)
            refine mm_get (D := D) (C := n_Mod) (T := T_Mod) (N := 27) (v := .ref (b + 27)) hx hb hts lay_Mod hown hK.1 hP f8 rfl 13 (by decide) (hts _ (List.mem_cons_of_mem _ wd_504)) (fun _ h9 => h9) rfl d_Mod_permit_50 ?_
            refine lv_iload hx hb d_Mod_permit_53 (lv_at hl 0 rfl) ?_
            refine lv_iload_n hx hb d_Mod_permit_55 rfl (lv_at hl 4 rfl) ?_
            have f9 := (fr7 _ (by omega)).trans (m6_13)
            refine mm_zast hx hb hK.1 hP hS 1 f9 rfl (N 0 0) rfl (by omega) (by decide) (kk_nar1 hdl) d_Mod_permit_56 (fun H locs hP hz1 hS => ?_)
            rw [show upd (fun i => nI (((mk_N N 0 a9 s9) 13) i)) (N 0 0) (nI dl) = fun i => nI ((va_up ((mk_N N 0 a9 s9) 13) (N 0 0) dl) i) from kk_upn _ _ _] at hP
            have hz : H.size = sz := hz1.trans hz
            obtain ⟨w10, hw10⟩ : ∃ z : mm_M, z = mm_up w7 (b + 27) (.inl (cZ, 24, .inl (fun i => nI ((va_up ((mk_N N 0 a9 s9) 13) (N 0 0) dl) i)))) := ⟨_, rfl⟩
            have hP : mm_P B D kc w10 H := by rw [hw10]; exact hP
            have fr10 : ∀ j, j ≠ b + 27 → w10 j = w7 j := fun j h9 => by rw [hw10]; exact mm_un h9
            have fa10 : w10 (b + 27) = some (.inl (cZ, 24, .inl (fun i => nI ((va_up ((mk_N N 0 a9 s9) 13) (N 0 0) dl) i)))) := by rw [hw10]; exact mm_us _ _ _
            refine lv_iload hx hb d_Mod_permit_57 (lv_at hl 0 rfl) ?_
            exact W.iret hx hb hr (fun t ht hW => ⟨⟨_, (w10, sz), rfl, ⟨(if_pos hok).symm, (by rw [pe_N_pos (by omega) (by omega) (by omega) hok, show pe_S N S _ _ _ _ = mk_S S (N 0 0) fr to from if_pos hok]; exact mo_mk ((fr10 _ (by omega)).trans (f8)) ((fr10 _ (by omega)).trans ((fr7 _ (by omega)).trans (m6_1))) ((fr10 _ (by omega)).trans ((fr7 _ (by omega)).trans (m6_2))) ((fr10 _ (by omega)).trans ((fr7 _ (by omega)).trans (m6_3))) ((fr10 _ (by omega)).trans (fa7)) ((fr10 _ (by omega)).trans ((fr7 _ (by omega)).trans (m6_5))) ((fr10 _ (by omega)).trans ((fr7 _ (by omega)).trans (m6_6))) ((fr10 _ (by omega)).trans ((fr7 _ (by omega)).trans (m6_7))) ((fr10 _ (by omega)).trans ((fr7 _ (by omega)).trans (m6_8))) ((fr10 _ (by omega)).trans ((fr7 _ (by omega)).trans (m6_9))) ((fr10 _ (by omega)).trans ((fr7 _ (by omega)).trans (m6_10))) ((fr10 _ (by omega)).trans ((fr7 _ (by omega)).trans (m6_11))) ((fr10 _ (by omega)).trans ((fr7 _ (by omega)).trans (m6_12))) fa10 ((fr10 _ (by omega)).trans ((fr7 _ (by omega)).trans (m6_14))) ((fr10 _ (by omega)).trans ((fr7 _ (by omega)).trans (m6_15))) ((fr10 _ (by omega)).trans ((fr7 _ (by omega)).trans (m6_16)))), (fun j hj => (fr10 j (by omega)).trans ((fr7 j (by omega)).trans (hf6 j hj))), rfl⟩, by rw [ht]; exact hP, by rw [ht]; exact hz⟩, hS.F ht⟩) hS.2.2 d_Mod_permit_59
          · have cc5 : ¬ (N 0 0 < 24) := fun q => cc5 ((nI_ltI (by omega) (by omega)).mpr q)
            exact absurd hok.2.2 (by omega)
  · refine lv_iload_n hx hb d_Mod_permit_0 rfl (lv_at hl 1 rfl) ?_
    refine lv_if_lt (tgt := 26) hx hb d_Mod_permit_1 (by decide) (fun cc11 => ?_) (fun cc11 => ?_)
    · refine lv_iconst (v := (-1)) hx hb d_Mod_permit_26 (by decide) ?_
      exact W.iret hx hb hr (fun t ht hW => ⟨⟨_, (w, sz), rfl, ⟨(if_neg hok).symm, (by rw [show pe_N N _ _ _ = N from if_neg hok, show pe_S N S _ _ _ _ = S from if_neg hok]; exact mo_mk m0 m1 m2 m3 m4 m5 m6 m7 m8 m9 m10 m11 m12 m13 m14 m15 m16), (fun j hj => rfl), rfl⟩, by rw [ht]; exact hP, by rw [ht]; exact hz⟩, hS.F ht⟩) hS.2.2 d_Mod_permit_27
    · refine lv_iload_n hx hb d_Mod_permit_4 rfl (lv_at hl 1 rfl) ?_
      refine lv_bipush (v := nI 8) hx hb d_Mod_permit_5 (by decide) ?_
      refine lv_icmp_gt (tgt := 26) hx hb d_Mod_permit_7 (by decide) (fun cc12 => ?_) (fun cc12 => ?_)
      · refine lv_iconst (v := (-1)) hx hb d_Mod_permit_26 (by decide) ?_
        exact W.iret hx hb hr (fun t ht hW => ⟨⟨_, (w, sz), rfl, ⟨(if_neg hok).symm, (by rw [show pe_N N _ _ _ = N from if_neg hok, show pe_S N S _ _ _ _ = S from if_neg hok]; exact mo_mk m0 m1 m2 m3 m4 m5 m6 m7 m8 m9 m10 m11 m12 m13 m14 m15 m16), (fun j hj => rfl), rfl⟩, by rw [ht]; exact hP, by rw [ht]; exact hz⟩, hS.F ht⟩) hS.2.2 d_Mod_permit_27
      · refine lv_iload_n hx hb d_Mod_permit_10 rfl (lv_at hl 2 rfl) ?_
        refine vp_callSi (va_Run.run (va_runS (As := [.int sr]) (rest := []) ⟨hx, hb, hml, hown, hts⟩ (c_Mod_isSubject l ) (va_cwS 1 hts (gW_in (hd := [_, _, _, _]) (kk_4 wd_577 wd_578 wd_8 cw_Mod_isSubject)) rfl rfl rfl ds_Mod_isSubject ⟨Nat.le_of_ble_eq_true rfl, Nat.le_of_ble_eq_true rfl⟩) (kk_preS hK hP hz hBz) rfl rfl hl.1 rfl (lv_room (Nat.le_of_ble_eq_true rfl)) d_Mod_permit_11 ⟨Nat.le_of_ble_eq_true rfl, Nat.le_of_ble_eq_true rfl⟩)) (fun r13 hr13 => ?_)
        subst hr13
        refine lv_if_eq (tgt := 26) hx hb d_Mod_permit_14 (by decide) (fun cc14 => ?_) (fun cc14 => ?_)
        · have cc14 := kk_b0 cc14
          refine lv_iconst (v := (-1)) hx hb d_Mod_permit_26 (by decide) ?_
          exact W.iret hx hb hr (fun t ht hW => ⟨⟨_, (w, sz), rfl, ⟨(if_neg hok).symm, (by rw [show pe_N N _ _ _ = N from if_neg hok, show pe_S N S _ _ _ _ = S from if_neg hok]; exact mo_mk m0 m1 m2 m3 m4 m5 m6 m7 m8 m9 m10 m11 m12 m13 m14 m15 m16), (fun j hj => rfl), rfl⟩, by rw [ht]; exact hP, by rw [ht]; exact hz⟩, hS.F ht⟩) hS.2.2 d_Mod_permit_27
        · have cc14 := kk_b1 cc14
          refine lv_aload_n hx hb d_Mod_permit_17 rfl (lv_at hl 0 rfl) ?_
          refine mm_get (D := D) (C := n_Mod) (T := T_Mod) (N := 27) (v := .int (nI (N 0 0))) hx hb hts lay_Mod hown hK.1 hP m0 rfl 0 (by decide) (hts _ (List.mem_cons_of_mem _ wd_491)) (fun _ h9 => h9) rfl d_Mod_permit_18 ?_
          refine lv_bipush (v := nI 24) hx hb d_Mod_permit_21 (by decide) ?_
          refine lv_icmp_lt (tgt := 28) hx hb d_Mod_permit_23 (by decide) (fun cc15 => ?_) (fun cc15 => ?_)
          · have cc15 : N 0 0 < 24 := (nI_ltI (by omega) (by omega)).mp cc15
            exact absurd ⟨⟨cc11, fun q => cc12 ((kk_gtm 8 9 rfl (by decide)).mpr q)⟩, cc14, by omega⟩ hok
          · have cc15 : ¬ (N 0 0 < 24) := fun q => cc15 ((nI_ltI (by omega) (by omega)).mpr q)
            refine lv_iconst (v := (-1)) hx hb d_Mod_permit_26 (by decide) ?_
            exact W.iret hx hb hr (fun t ht hW => ⟨⟨_, (w, sz), rfl, ⟨(if_neg hok).symm, (by rw [show pe_N N _ _ _ = N from if_neg hok, show pe_S N S _ _ _ _ = S from if_neg hok]; exact mo_mk m0 m1 m2 m3 m4 m5 m6 m7 m8 m9 m10 m11 m12 m13 m14 m15 m16), (fun j hj => rfl), rfl⟩, by rw [ht]; exact hP, by rw [ht]; exact hz⟩, hS.F ht⟩) hS.2.2 d_Mod_permit_27
