theorem d_Mod_grants_0 : decode k_Mod_grants 0 = .ok (.aload_n 0, 1) := by decide +kernel
theorem d_Mod_grants_1 : decode k_Mod_grants 1 = .ok (.getfield 130, 3) := by decide +kernel
theorem d_Mod_grants_4 : decode k_Mod_grants 4 = .ok (.ifCond .eq 20, 3) := by decide +kernel
theorem d_Mod_grants_7 : decode k_Mod_grants 7 = .ok (.aload_n 0, 1) := by decide +kernel
theorem d_Mod_grants_8 : decode k_Mod_grants 8 = .ok (.getfield 134, 3) := by decide +kernel
theorem d_Mod_grants_11 : decode k_Mod_grants 11 = .ok (.ifCond .gt 13, 3) := by decide +kernel
theorem d_Mod_grants_14 : decode k_Mod_grants 14 = .ok (.iload_n 1, 1) := by decide +kernel
theorem d_Mod_grants_15 : decode k_Mod_grants 15 = .ok (.ifCond .lt 9, 3) := by decide +kernel
theorem d_Mod_grants_18 : decode k_Mod_grants 18 = .ok (.iload_n 1, 1) := by decide +kernel
theorem d_Mod_grants_19 : decode k_Mod_grants 19 = .ok (.bipush 7, 2) := by decide +kernel
theorem d_Mod_grants_21 : decode k_Mod_grants 21 = .ok (.if_icmp .le 5, 3) := by decide +kernel
theorem d_Mod_grants_24 : decode k_Mod_grants 24 = .ok (.iconst 0, 1) := by decide +kernel
theorem d_Mod_grants_25 : decode k_Mod_grants 25 = .ok (.ireturn, 1) := by decide +kernel
theorem d_Mod_grants_26 : decode k_Mod_grants 26 = .ok (.aload_n 0, 1) := by decide +kernel
theorem d_Mod_grants_27 : decode k_Mod_grants 27 = .ok (.getfield 140, 3) := by decide +kernel
theorem d_Mod_grants_30 : decode k_Mod_grants 30 = .ok (.iload_n 1, 1) := by decide +kernel
theorem d_Mod_grants_31 : decode k_Mod_grants 31 = .ok (.ishr, 1) := by decide +kernel
theorem d_Mod_grants_32 : decode k_Mod_grants 32 = .ok (.iconst 1, 1) := by decide +kernel
theorem d_Mod_grants_33 : decode k_Mod_grants 33 = .ok (.iand, 1) := by decide +kernel
theorem d_Mod_grants_34 : decode k_Mod_grants 34 = .ok (.iconst 1, 1) := by decide +kernel
theorem d_Mod_grants_35 : decode k_Mod_grants 35 = .ok (.if_icmp .ne 39, 3) := by decide +kernel
theorem d_Mod_grants_38 : decode k_Mod_grants 38 = .ok (.aload_n 0, 1) := by decide +kernel
theorem d_Mod_grants_39 : decode k_Mod_grants 39 = .ok (.getfield 143, 3) := by decide +kernel
theorem d_Mod_grants_42 : decode k_Mod_grants 42 = .ok (.iload_n 2, 1) := by decide +kernel
theorem d_Mod_grants_43 : decode k_Mod_grants 43 = .ok (.if_icmp .gt 31, 3) := by decide +kernel
theorem d_Mod_grants_46 : decode k_Mod_grants 46 = .ok (.iload_n 2, 1) := by decide +kernel
theorem d_Mod_grants_47 : decode k_Mod_grants 47 = .ok (.aload_n 0, 1) := by decide +kernel
theorem d_Mod_grants_48 : decode k_Mod_grants 48 = .ok (.getfield 146, 3) := by decide +kernel
theorem d_Mod_grants_51 : decode k_Mod_grants 51 = .ok (.if_icmp .gt 23, 3) := by decide +kernel
theorem d_Mod_grants_54 : decode k_Mod_grants 54 = .ok (.aload_n 0, 1) := by decide +kernel
theorem d_Mod_grants_55 : decode k_Mod_grants 55 = .ok (.getfield 149, 3) := by decide +kernel
theorem d_Mod_grants_58 : decode k_Mod_grants 58 = .ok (.iload_n 3, 1) := by decide +kernel
theorem d_Mod_grants_59 : decode k_Mod_grants 59 = .ok (.if_icmp .gt 15, 3) := by decide +kernel
theorem d_Mod_grants_62 : decode k_Mod_grants 62 = .ok (.iload_n 3, 1) := by decide +kernel
theorem d_Mod_grants_63 : decode k_Mod_grants 63 = .ok (.aload_n 0, 1) := by decide +kernel
theorem d_Mod_grants_64 : decode k_Mod_grants 64 = .ok (.getfield 152, 3) := by decide +kernel
theorem d_Mod_grants_67 : decode k_Mod_grants 67 = .ok (.if_icmp .gt 7, 3) := by decide +kernel
theorem d_Mod_grants_70 : decode k_Mod_grants 70 = .ok (.iconst 1, 1) := by decide +kernel
theorem d_Mod_grants_71 : decode k_Mod_grants 71 = .ok (.goto 4, 3) := by decide +kernel
theorem d_Mod_grants_74 : decode k_Mod_grants 74 = .ok (.iconst 0, 1) := by decide +kernel
theorem d_Mod_grants_75 : decode k_Mod_grants 75 = .ok (.ireturn, 1) := by decide +kernel
set_option maxHeartbeats 4000000 in
set_option maxRecDepth 100000 in
theorem c_Mod_grants (l : Launch) {B : Nat} {D : va_G} {cI cZ cQ : ClassId} {w : mm_M} {sz : Nat} {b : Nat} {N : Nat → Nat → Nat} {S : Nat → Nat → Int32} {pr z9 t9 : Int32} (hM : mo_I b cI cZ N S w) (hC : ch_I N) : Met l y_Mod_grants ws_Mod_grants (kk_rm 0 0 0) (kk_Pc B D cI cZ cQ [.ref (b + 14), .int pr, .int z9, .int t9] w sz) (vp_Si (fun r => r = nI (if gt_ok N S pr z9 t9 then 1 else 0))) 0 0 (fun _ => False) := by
  refine Met.ofW (cc := k_Mod_grants) (maxL := 4) (ret := (some .boolean)) (by decide) rfl ?_
  intro p e s m args below meth c s₁ BB hml hv
  obtain ⟨rfl, hK, hP, hz, hBz⟩ := hv
  have hx := BB.exec
  have hb := BB.bytes
  have hr := BB.returns
  have hts := atoms_spec (ws := ws_Mod_grants) BB.pre
  have hown : s.vm.findClass "DelegationClosureModel" = some m.cls := findClass_of_methodNamed BB.named
  have hlocks := BB.notSynchronized
  have hS : mm_S B s.heap s.heap [] := va_S.rf
  have hl := lv_entry ([.ref (b + 14), .int pr, .int z9, .int t9]) (n := 4) (Nat.le_of_ble_eq_true rfl)
  rw [lg_entry_eq]
  generalize (lg_sl ([.ref (b + 14), .int pr, .int z9, .int t9]) ++ List.replicate (4 - (lg_sl ([.ref (b + 14), .int pr, .int z9, .int t9])).length) Slot.unset).toArray = ls at hl ⊢
  have hl : lv_has ls 4 [(0, .ref (b + 14)), (1, .int pr), (2, .int z9), (3, .int t9)] := hl
  have m0 : w (b + 14) = some (.inr (9, [.int (nI (N 0 0)), .ref (b + 15), .ref (b + 16), .ref (b + 17), .ref (b + 18), .ref (b + 19), .ref (b + 20), .ref (b + 21), .ref (b + 22), .ref (b + 23), .ref (b + 24), .ref (b + 25), .ref (b + 26), .ref (b + 27), .ref (b + 28), .ref (b + 29), .int (nI (N 16 0)), .int (nI (N 17 0)), .int (nI (N 18 0)), .ref (b + 30), .int (nI (N 20 0)), .int (S 21 0), .int (S 22 0), .int (S 23 0), .int (S 24 0), .int (nI (N 25 0)), .int (nI (N 26 0))])) := hM.1
  have m1 : w (b + 15) = some (.inl (cZ, 24, .inl (fun i => nI ((N 1) i)))) := hM.2 1 (by decide) (by decide)
  have m2 : w (b + 16) = some (.inl (cZ, 24, .inl (fun i => nI ((N 2) i)))) := hM.2 2 (by decide) (by decide)
  have m3 : w (b + 17) = some (.inl (cI, 24, .inl (fun i => nI ((N 3) i)))) := hM.2 3 (by decide) (by decide)
  have m4 : w (b + 18) = some (.inl (cI, 24, .inl (fun i => nI ((N 4) i)))) := hM.2 4 (by decide) (by decide)
  have m5 : w (b + 19) = some (.inl (cI, 24, .inl (S 5))) := hM.2 5 (by decide) (by decide)
  have m6 : w (b + 20) = some (.inl (cI, 24, .inl (S 6))) := hM.2 6 (by decide) (by decide)
  have m7 : w (b + 21) = some (.inl (cI, 72, .inl (fun i => nI ((N 7) i)))) := hM.2 7 (by decide) (by decide)
  have m8 : w (b + 22) = some (.inl (cI, 24, .inl (fun i => nI ((N 8) i)))) := hM.2 8 (by decide) (by decide)
  have m9 : w (b + 23) = some (.inl (cI, 24, .inl (fun i => nI ((N 9) i)))) := hM.2 9 (by decide) (by decide)
  have m10 : w (b + 24) = some (.inl (cI, 24, .inl (fun i => nI ((N 10) i)))) := hM.2 10 (by decide) (by decide)
  have m11 : w (b + 25) = some (.inl (cI, 24, .inl (S 11))) := hM.2 11 (by decide) (by decide)
  have m12 : w (b + 26) = some (.inl (cI, 24, .inl (S 12))) := hM.2 12 (by decide) (by decide)
  have m13 : w (b + 27) = some (.inl (cZ, 24, .inl (fun i => nI ((N 13) i)))) := hM.2 13 (by decide) (by decide)
  have m14 : w (b + 28) = some (.inl (cI, 256, .inl (fun i => nI ((N 14) i)))) := hM.2 14 (by decide) (by decide)
  have m15 : w (b + 29) = some (.inl (cI, 24, .inl (fun i => nI ((N 15) i)))) := hM.2 15 (by decide) (by decide)
  have m16 : w (b + 30) = some (.inl (cI, 5, .inl (fun i => nI ((N 19) i)))) := hM.2 16 (by decide) (by decide)
  have hC1 := hC.1
  have hC3 := hC.2.2.1
  have hC4 := hC.2.2.2.1
  by_cases hok : gt_ok N S pr z9 t9
  · obtain ⟨o9, ho9, rfl⟩ := kk_lim_of hok.2.2.1 (by omega)
    obtain ⟨k1, k2, k3, k4, k5, k6, k7, k8⟩ := hok
    rw [nI_clamp (by omega)] at k4
    have hok : gt_ok N S (nI o9) z9 t9 := ⟨k1, k2, k3, by rw [nI_clamp (by omega)]; exact k4, k5, k6, k7, k8⟩
    refine lv_aload_n hx hb d_Mod_grants_0 rfl (lv_at hl 0 rfl) ?_
    refine mm_get (D := D) (C := n_Mod) (T := T_Mod) (N := 27) (v := .int (nI (N 16 0))) hx hb hts lay_Mod hown hK.1 hP m0 rfl 16 (by decide) (hts _ (List.mem_cons_of_mem _ wd_507)) (fun _ h9 => h9) rfl d_Mod_grants_1 ?_
    refine lv_if_eq (tgt := 24) hx hb d_Mod_grants_4 (by decide) (fun cc1 => ?_) (fun cc1 => ?_)
    · rw [← nI_0] at cc1
      have cc1 : N 16 0 = 0 := (nI_eq (by omega) (by omega)).mp cc1
      exact absurd cc1 (by omega)
    · rw [← nI_0] at cc1
      have cc1 : ¬ (N 16 0 = 0) := fun q => cc1 ((nI_eq (by omega) (by omega)).mpr q)
      refine lv_aload_n hx hb d_Mod_grants_7 rfl (lv_at hl 0 rfl) ?_
      refine mm_get (D := D) (C := n_Mod) (T := T_Mod) (N := 27) (v := .int (nI (N 18 0))) hx hb hts lay_Mod hown hK.1 hP m0 rfl 18 (by decide) (hts _ (List.mem_cons_of_mem _ wd_509)) (fun _ h9 => h9) rfl d_Mod_grants_8 ?_
      refine lv_if_gt (tgt := 24) hx hb d_Mod_grants_11 (by decide) (fun cc2 => ?_) (fun cc2 => ?_)
      · rw [← nI_0] at cc2
        have cc2 : 0 < N 18 0 := (nI_ltI (by omega) (by omega)).mp cc2
        exact absurd cc2 (by omega)
      · rw [← nI_0] at cc2
        have cc2 : ¬ (0 < N 18 0) := fun q => cc2 ((nI_ltI (by omega) (by omega)).mpr q)
        refine lv_iload_n hx hb d_Mod_grants_14 rfl (lv_at hl 1 rfl) ?_
        refine lv_if_lt (tgt := 24) hx hb d_Mod_grants_15 (by decide) (fun cc3 => ?_) (fun cc3 => ?_)
        · rw [← nI_0] at cc3
          have cc3 : o9 < 0 := (nI_ltI (by omega) (by omega)).mp cc3
          exact absurd cc3 (by omega)
        · rw [← nI_0] at cc3
          have cc3 : ¬ (o9 < 0) := fun q => cc3 ((nI_ltI (by omega) (by omega)).mpr q)
          refine lv_iload_n hx hb d_Mod_grants_18 rfl (lv_at hl 1 rfl) ?_
          refine lv_bipush (v := nI 7) hx hb d_Mod_grants_19 (by decide) ?_
          refine lv_icmp_le (tgt := 26) hx hb d_Mod_grants_21 (by decide) (fun cc4 => ?_) (fun cc4 => ?_)
          · have cc4 : o9 ≤ 7 := (nI_leI (by omega) (by omega)).mp cc4
            refine lv_aload_n hx hb d_Mod_grants_26 rfl (lv_at hl 0 rfl) ?_
            refine mm_get (D := D) (C := n_Mod) (T := T_Mod) (N := 27) (v := .int (nI (N 20 0))) hx hb hts lay_Mod hown hK.1 hP m0 rfl 20 (by decide) (hts _ (List.mem_cons_of_mem _ wd_511)) (fun _ h9 => h9) rfl d_Mod_grants_27 ?_
            refine lv_iload_n hx hb d_Mod_grants_30 rfl (lv_at hl 1 rfl) ?_
            refine lv_ishr hx hb d_Mod_grants_31 ?_
            refine lv_iconst (v := nI 1) hx hb d_Mod_grants_32 (by decide) ?_
            refine lv_iand hx hb d_Mod_grants_33 ?_
            refine kk_top (y := nI (N 20 0 / 2 ^ o9 % 2)) (bt_shr _ ho9 _ hC4) ?_
            refine lv_iconst (v := nI 1) hx hb d_Mod_grants_34 (by decide) ?_
            refine lv_icmp_ne (tgt := 74) hx hb d_Mod_grants_35 (by decide) (fun cc5 => ?_) (fun cc5 => ?_)
            · exact absurd (congrArg nI k4) cc5
            · have cc5 : N 20 0 / 2 ^ o9 % 2 = 1 := (nI_eq (kk_m2 _) (by decide)).mp cc5
              refine lv_aload_n hx hb d_Mod_grants_38 rfl (lv_at hl 0 rfl) ?_
              refine mm_get (D := D) (C := n_Mod) (T := T_Mod) (N := 27) (v := .int (S 21 0)) hx hb hts lay_Mod hown hK.1 hP m0 rfl 21 (by decide) (hts _ (List.mem_cons_of_mem _ wd_512)) (fun _ h9 => h9) rfl d_Mod_grants_39 ?_
              refine lv_iload_n hx hb d_Mod_grants_42 rfl (lv_at hl 2 rfl) ?_
              refine lv_icmp_gt (tgt := 74) hx hb d_Mod_grants_43 (by decide) (fun cc6 => ?_) (fun cc6 => ?_)
              · exact absurd cc6 k5
              · refine lv_iload_n hx hb d_Mod_grants_46 rfl (lv_at hl 2 rfl) ?_
                refine lv_aload_n hx hb d_Mod_grants_47 rfl (lv_at hl 0 rfl) ?_
                refine mm_get (D := D) (C := n_Mod) (T := T_Mod) (N := 27) (v := .int (S 22 0)) hx hb hts lay_Mod hown hK.1 hP m0 rfl 22 (by decide) (hts _ (List.mem_cons_of_mem _ wd_513)) (fun _ h9 => h9) rfl d_Mod_grants_48 ?_
                refine lv_icmp_gt (tgt := 74) hx hb d_Mod_grants_51 (by decide) (fun cc7 => ?_) (fun cc7 => ?_)
                · exact absurd cc7 k6
                · refine lv_aload_n hx hb d_Mod_grants_54 rfl (lv_at hl 0 rfl) ?_
                  refine mm_get (D := D) (C := n_Mod) (T := T_Mod) (N := 27) (v := .int (S 23 0)) hx hb hts lay_Mod hown hK.1 hP m0 rfl 23 (by decide) (hts _ (List.mem_cons_of_mem _ wd_514)) (fun _ h9 => h9) rfl d_Mod_grants_55 ?_
                  refine lv_iload_n hx hb d_Mod_grants_58 rfl (lv_at hl 3 rfl) ?_
                  refine lv_icmp_gt (tgt := 74) hx hb d_Mod_grants_59 (by decide) (fun cc8 => ?_) (fun cc8 => ?_)
                  · exact absurd cc8 k7
                  · refine lv_iload_n hx hb d_Mod_grants_62 rfl (lv_at hl 3 rfl) ?_
                    refine lv_aload_n hx hb d_Mod_grants_63 rfl (lv_at hl 0 rfl) ?_
                    refine mm_get (D := D) (C := n_Mod) (T := T_Mod) (N := 27) (v := .int (S 24 0)) hx hb hts lay_Mod hown hK.1 hP m0 rfl 24 (by decide) (hts _ (List.mem_cons_of_mem _ wd_515)) (fun _ h9 => h9) rfl d_Mod_grants_64 ?_
                    refine lv_icmp_gt (tgt := 74) hx hb d_Mod_grants_67 (by decide) (fun cc9 => ?_) (fun cc9 => ?_)
                    · exact absurd cc9 k8
                    · refine lv_iconst (v := nI 1) hx hb d_Mod_grants_70 (by decide) ?_
                      refine lv_goto (tgt := 75) hx hb d_Mod_grants_71 (by decide) ?_
                      exact W.zret hx hb hr rfl (fun t ht hW => ⟨_, rfl, kk_ift hok, ht⟩) (fun q hq => by cases hq) d_Mod_grants_75
          · have cc4 : ¬ (o9 ≤ 7) := fun q => cc4 ((nI_leI (by omega) (by omega)).mpr q)
            exact absurd cc4 (by omega)
  · refine lv_aload_n hx hb d_Mod_grants_0 rfl (lv_at hl 0 rfl) ?_
    refine mm_get (D := D) (C := n_Mod) (T := T_Mod) (N := 27) (v := .int (nI (N 16 0))) hx hb hts lay_Mod hown hK.1 hP m0 rfl 16 (by decide) (hts _ (List.mem_cons_of_mem _ wd_507)) (fun _ h9 => h9) rfl d_Mod_grants_1 ?_
    refine lv_if_eq (tgt := 24) hx hb d_Mod_grants_4 (by decide) (fun cc10 => ?_) (fun cc10 => ?_)
    · rw [← nI_0] at cc10
      have cc10 : N 16 0 = 0 := (nI_eq (by omega) (by omega)).mp cc10
      refine lv_iconst (v := nI 0) hx hb d_Mod_grants_24 (by decide) ?_
      exact W.zret hx hb hr rfl (fun t ht hW => ⟨_, rfl, kk_iff hok, ht⟩) (fun q hq => by cases hq) d_Mod_grants_25
    · rw [← nI_0] at cc10
      have cc10 : ¬ (N 16 0 = 0) := fun q => cc10 ((nI_eq (by omega) (by omega)).mpr q)
      refine lv_aload_n hx hb d_Mod_grants_7 rfl (lv_at hl 0 rfl) ?_
      refine mm_get (D := D) (C := n_Mod) (T := T_Mod) (N := 27) (v := .int (nI (N 18 0))) hx hb hts lay_Mod hown hK.1 hP m0 rfl 18 (by decide) (hts _ (List.mem_cons_of_mem _ wd_509)) (fun _ h9 => h9) rfl d_Mod_grants_8 ?_
      refine lv_if_gt (tgt := 24) hx hb d_Mod_grants_11 (by decide) (fun cc11 => ?_) (fun cc11 => ?_)
      · rw [← nI_0] at cc11
        have cc11 : 0 < N 18 0 := (nI_ltI (by omega) (by omega)).mp cc11
        refine lv_iconst (v := nI 0) hx hb d_Mod_grants_24 (by decide) ?_
        exact W.zret hx hb hr rfl (fun t ht hW => ⟨_, rfl, kk_iff hok, ht⟩) (fun q hq => by cases hq) d_Mod_grants_25
      · rw [← nI_0] at cc11
        have cc11 : ¬ (0 < N 18 0) := fun q => cc11 ((nI_ltI (by omega) (by omega)).mpr q)
        refine lv_iload_n hx hb d_Mod_grants_14 rfl (lv_at hl 1 rfl) ?_
        refine lv_if_lt (tgt := 24) hx hb d_Mod_grants_15 (by decide) (fun cc12 => ?_) (fun cc12 => ?_)
        · refine lv_iconst (v := nI 0) hx hb d_Mod_grants_24 (by decide) ?_
          exact W.zret hx hb hr rfl (fun t ht hW => ⟨_, rfl, kk_iff hok, ht⟩) (fun q hq => by cases hq) d_Mod_grants_25
        · refine lv_iload_n hx hb d_Mod_grants_18 rfl (lv_at hl 1 rfl) ?_
          refine lv_bipush (v := nI 7) hx hb d_Mod_grants_19 (by decide) ?_
          refine lv_icmp_le (tgt := 26) hx hb d_Mod_grants_21 (by decide) (fun cc13 => ?_) (fun cc13 => ?_)
          · have hlim : kk_lim pr 8 := ⟨cc12, fun q => (Int32.not_lt.mpr cc13) ((kk_gtm 7 8 rfl (by decide)).mpr q)⟩
            obtain ⟨o9, ho9, rfl⟩ := kk_lim_of hlim (by omega)
            refine lv_aload_n hx hb d_Mod_grants_26 rfl (lv_at hl 0 rfl) ?_
            refine mm_get (D := D) (C := n_Mod) (T := T_Mod) (N := 27) (v := .int (nI (N 20 0))) hx hb hts lay_Mod hown hK.1 hP m0 rfl 20 (by decide) (hts _ (List.mem_cons_of_mem _ wd_511)) (fun _ h9 => h9) rfl d_Mod_grants_27 ?_
            refine lv_iload_n hx hb d_Mod_grants_30 rfl (lv_at hl 1 rfl) ?_
            refine lv_ishr hx hb d_Mod_grants_31 ?_
            refine lv_iconst (v := nI 1) hx hb d_Mod_grants_32 (by decide) ?_
            refine lv_iand hx hb d_Mod_grants_33 ?_
            refine kk_top (y := nI (N 20 0 / 2 ^ o9 % 2)) (bt_shr _ ho9 _ hC4) ?_
            refine lv_iconst (v := nI 1) hx hb d_Mod_grants_34 (by decide) ?_
            refine lv_icmp_ne (tgt := 74) hx hb d_Mod_grants_35 (by decide) (fun cc14 => ?_) (fun cc14 => ?_)
            · refine lv_iconst (v := nI 0) hx hb d_Mod_grants_74 (by decide) ?_
              exact W.zret hx hb hr rfl (fun t ht hW => ⟨_, rfl, kk_iff hok, ht⟩) (fun q hq => by cases hq) d_Mod_grants_75
            · have cc14 : N 20 0 / 2 ^ o9 % 2 = 1 := (nI_eq (kk_m2 _) (by decide)).mp cc14
              refine lv_aload_n hx hb d_Mod_grants_38 rfl (lv_at hl 0 rfl) ?_
              refine mm_get (D := D) (C := n_Mod) (T := T_Mod) (N := 27) (v := .int (S 21 0)) hx hb hts lay_Mod hown hK.1 hP m0 rfl 21 (by decide) (hts _ (List.mem_cons_of_mem _ wd_512)) (fun _ h9 => h9) rfl d_Mod_grants_39 ?_
              refine lv_iload_n hx hb d_Mod_grants_42 rfl (lv_at hl 2 rfl) ?_
              refine lv_icmp_gt (tgt := 74) hx hb d_Mod_grants_43 (by decide) (fun cc15 => ?_) (fun cc15 => ?_)
              · refine lv_iconst (v := nI 0) hx hb d_Mod_grants_74 (by decide) ?_
                exact W.zret hx hb hr rfl (fun t ht hW => ⟨_, rfl, kk_iff hok, ht⟩) (fun q hq => by cases hq) d_Mod_grants_75
              · refine lv_iload_n hx hb d_Mod_grants_46 rfl (lv_at hl 2 rfl) ?_
                refine lv_aload_n hx hb d_Mod_grants_47 rfl (lv_at hl 0 rfl) ?_
                refine mm_get (D := D) (C := n_Mod) (T := T_Mod) (N := 27) (v := .int (S 22 0)) hx hb hts lay_Mod hown hK.1 hP m0 rfl 22 (by decide) (hts _ (List.mem_cons_of_mem _ wd_513)) (fun _ h9 => h9) rfl d_Mod_grants_48 ?_
                refine lv_icmp_gt (tgt := 74) hx hb d_Mod_grants_51 (by decide) (fun cc16 => ?_) (fun cc16 => ?_)
                · refine lv_iconst (v := nI 0) hx hb d_Mod_grants_74 (by decide) ?_
                  exact W.zret hx hb hr rfl (fun t ht hW => ⟨_, rfl, kk_iff hok, ht⟩) (fun q hq => by cases hq) d_Mod_grants_75
                · refine lv_aload_n hx hb d_Mod_grants_54 rfl (lv_at hl 0 rfl) ?_
                  refine mm_get (D := D) (C := n_Mod) (T := T_Mod) (N := 27) (v := .int (S 23 0)) hx hb hts lay_Mod hown hK.1 hP m0 rfl 23 (by decide) (hts _ (List.mem_cons_of_mem _ wd_514)) (fun _ h9 => h9) rfl d_Mod_grants_55 ?_
                  refine lv_iload_n hx hb d_Mod_grants_58 rfl (lv_at hl 3 rfl) ?_
                  refine lv_icmp_gt (tgt := 74) hx hb d_Mod_grants_59 (by decide) (fun cc17 => ?_) (fun cc17 => ?_)
                  · refine lv_iconst (v := nI 0) hx hb d_Mod_grants_74 (by decide) ?_
                    exact W.zret hx hb hr rfl (fun t ht hW => ⟨_, rfl, kk_iff hok, ht⟩) (fun q hq => by cases hq) d_Mod_grants_75
                  · refine lv_iload_n hx hb d_Mod_grants_62 rfl (lv_at hl 3 rfl) ?_
                    refine lv_aload_n hx hb d_Mod_grants_63 rfl (lv_at hl 0 rfl) ?_
                    refine mm_get (D := D) (C := n_Mod) (T := T_Mod) (N := 27) (v := .int (S 24 0)) hx hb hts lay_Mod hown hK.1 hP m0 rfl 24 (by decide) (hts _ (List.mem_cons_of_mem _ wd_515)) (fun _ h9 => h9) rfl d_Mod_grants_64 ?_
                    refine lv_icmp_gt (tgt := 74) hx hb d_Mod_grants_67 (by decide) (fun cc18 => ?_) (fun cc18 => ?_)
                    · refine lv_iconst (v := nI 0) hx hb d_Mod_grants_74 (by decide) ?_
                      exact W.zret hx hb hr rfl (fun t ht hW => ⟨_, rfl, kk_iff hok, ht⟩) (fun q hq => by cases hq) d_Mod_grants_75
                    · exact absurd ⟨by omega, by omega, hlim, by rw [nI_clamp (by omega)]; exact cc14, cc15, cc16, cc17, cc18⟩ hok
          · refine lv_iconst (v := nI 0) hx hb d_Mod_grants_24 (by decide) ?_
            exact W.zret hx hb hr rfl (fun t ht hW => ⟨_, rfl, kk_iff hok, ht⟩) (fun q hq => by cases hq) d_Mod_grants_25
theorem d_Mod_fits_0 : decode k_Mod_fits 0 = .ok (.aload_n 0, 1) := by decide +kernel
theorem d_Mod_fits_1 : decode k_Mod_fits 1 = .ok (.getfield 16, 3) := by decide +kernel
theorem d_Mod_fits_4 : decode k_Mod_fits 4 = .ok (.iload_n 1, 1) := by decide +kernel
theorem d_Mod_fits_5 : decode k_Mod_fits 5 = .ok (.iaload, 1) := by decide +kernel
theorem d_Mod_fits_6 : decode k_Mod_fits 6 = .ok (.aload_n 0, 1) := by decide +kernel
theorem d_Mod_fits_7 : decode k_Mod_fits 7 = .ok (.getfield 164, 3) := by decide +kernel
theorem d_Mod_fits_10 : decode k_Mod_fits 10 = .ok (.if_icmp .eq 5, 3) := by decide +kernel
theorem d_Mod_fits_13 : decode k_Mod_fits 13 = .ok (.iconst 0, 1) := by decide +kernel
theorem d_Mod_fits_14 : decode k_Mod_fits 14 = .ok (.ireturn, 1) := by decide +kernel
theorem d_Mod_fits_15 : decode k_Mod_fits 15 = .ok (.aload_n 0, 1) := by decide +kernel
theorem d_Mod_fits_16 : decode k_Mod_fits 16 = .ok (.getfield 13, 3) := by decide +kernel
theorem d_Mod_fits_19 : decode k_Mod_fits 19 = .ok (.iload_n 1, 1) := by decide +kernel
theorem d_Mod_fits_20 : decode k_Mod_fits 20 = .ok (.baload, 1) := by decide +kernel
theorem d_Mod_fits_21 : decode k_Mod_fits 21 = .ok (.ifCond .eq 53, 3) := by decide +kernel
theorem d_Mod_fits_24 : decode k_Mod_fits 24 = .ok (.aload_n 0, 1) := by decide +kernel
theorem d_Mod_fits_25 : decode k_Mod_fits 25 = .ok (.getfield 134, 3) := by decide +kernel
theorem d_Mod_fits_28 : decode k_Mod_fits 28 = .ok (.ifCond .le 44, 3) := by decide +kernel
theorem d_Mod_fits_31 : decode k_Mod_fits 31 = .ok (.aload_n 0, 1) := by decide +kernel
theorem d_Mod_fits_32 : decode k_Mod_fits 32 = .ok (.getfield 56, 3) := by decide +kernel
theorem d_Mod_fits_35 : decode k_Mod_fits 35 = .ok (.iconst 0, 1) := by decide +kernel
theorem d_Mod_fits_36 : decode k_Mod_fits 36 = .ok (.iaload, 1) := by decide +kernel
theorem d_Mod_fits_37 : decode k_Mod_fits 37 = .ok (.aload_n 0, 1) := by decide +kernel
theorem d_Mod_fits_38 : decode k_Mod_fits 38 = .ok (.getfield 20, 3) := by decide +kernel
theorem d_Mod_fits_41 : decode k_Mod_fits 41 = .ok (.iload_n 1, 1) := by decide +kernel
theorem d_Mod_fits_42 : decode k_Mod_fits 42 = .ok (.iaload, 1) := by decide +kernel
theorem d_Mod_fits_43 : decode k_Mod_fits 43 = .ok (.if_icmp .ne 29, 3) := by decide +kernel
theorem d_Mod_fits_46 : decode k_Mod_fits 46 = .ok (.aload_n 0, 1) := by decide +kernel
theorem d_Mod_fits_47 : decode k_Mod_fits 47 = .ok (.getfield 134, 3) := by decide +kernel
theorem d_Mod_fits_50 : decode k_Mod_fits 50 = .ok (.iconst 1, 1) := by decide +kernel
theorem d_Mod_fits_51 : decode k_Mod_fits 51 = .ok (.isub, 1) := by decide +kernel
theorem d_Mod_fits_52 : decode k_Mod_fits 52 = .ok (.aload_n 0, 1) := by decide +kernel
theorem d_Mod_fits_53 : decode k_Mod_fits 53 = .ok (.getfield 29, 3) := by decide +kernel
theorem d_Mod_fits_56 : decode k_Mod_fits 56 = .ok (.iconst 3, 1) := by decide +kernel
theorem d_Mod_fits_57 : decode k_Mod_fits 57 = .ok (.iload_n 1, 1) := by decide +kernel
theorem d_Mod_fits_58 : decode k_Mod_fits 58 = .ok (.imul, 1) := by decide +kernel
theorem d_Mod_fits_59 : decode k_Mod_fits 59 = .ok (.iaload, 1) := by decide +kernel
theorem d_Mod_fits_60 : decode k_Mod_fits 60 = .ok (.invokestatic 161, 3) := by decide +kernel
theorem d_Mod_fits_63 : decode k_Mod_fits 63 = .ok (.iadd, 1) := by decide +kernel
theorem d_Mod_fits_64 : decode k_Mod_fits 64 = .ok (.iconst 4, 1) := by decide +kernel
theorem d_Mod_fits_65 : decode k_Mod_fits 65 = .ok (.if_icmp .gt 7, 3) := by decide +kernel
theorem d_Mod_fits_68 : decode k_Mod_fits 68 = .ok (.iconst 1, 1) := by decide +kernel
theorem d_Mod_fits_69 : decode k_Mod_fits 69 = .ok (.goto 4, 3) := by decide +kernel
theorem d_Mod_fits_72 : decode k_Mod_fits 72 = .ok (.iconst 0, 1) := by decide +kernel
theorem d_Mod_fits_73 : decode k_Mod_fits 73 = .ok (.ireturn, 1) := by decide +kernel
theorem d_Mod_fits_74 : decode k_Mod_fits 74 = .ok (.aload_n 0, 1) := by decide +kernel
theorem d_Mod_fits_75 : decode k_Mod_fits 75 = .ok (.getfield 32, 3) := by decide +kernel
theorem d_Mod_fits_78 : decode k_Mod_fits 78 = .ok (.iload_n 1, 1) := by decide +kernel
theorem d_Mod_fits_79 : decode k_Mod_fits 79 = .ok (.iaload, 1) := by decide +kernel
theorem d_Mod_fits_80 : decode k_Mod_fits 80 = .ok (.iconst 1, 1) := by decide +kernel
theorem d_Mod_fits_81 : decode k_Mod_fits 81 = .ok (.if_icmp .ne 21, 3) := by decide +kernel
theorem d_Mod_fits_84 : decode k_Mod_fits 84 = .ok (.aload_n 0, 1) := by decide +kernel
theorem d_Mod_fits_85 : decode k_Mod_fits 85 = .ok (.getfield 134, 3) := by decide +kernel
theorem d_Mod_fits_88 : decode k_Mod_fits 88 = .ok (.ifCond .ne 14, 3) := by decide +kernel
theorem d_Mod_fits_91 : decode k_Mod_fits 91 = .ok (.aload_n 0, 1) := by decide +kernel
theorem d_Mod_fits_92 : decode k_Mod_fits 92 = .ok (.getfield 158, 3) := by decide +kernel
theorem d_Mod_fits_95 : decode k_Mod_fits 95 = .ok (.ifCond .eq 7, 3) := by decide +kernel
theorem d_Mod_fits_98 : decode k_Mod_fits 98 = .ok (.iconst 1, 1) := by decide +kernel
theorem d_Mod_fits_99 : decode k_Mod_fits 99 = .ok (.goto 4, 3) := by decide +kernel
theorem d_Mod_fits_102 : decode k_Mod_fits 102 = .ok (.iconst 0, 1) := by decide +kernel
theorem d_Mod_fits_103 : decode k_Mod_fits 103 = .ok (.ireturn, 1) := by decide +kernel
set_option maxHeartbeats 4000000 in
set_option maxRecDepth 100000 in
theorem c_Mod_fits (l : Launch) {B : Nat} {D : va_G} {cI cZ cQ : ClassId} {w : mm_M} {sz : Nat} {b : Nat} {N : Nat → Nat → Nat} {S : Nat → Nat → Int32} {j : Nat} (hM : mo_I b cI cZ N S w) (hn : N 0 0 ≤ 24) (hR : rg_I N) (hj : j < N 0 0) (hC : ch_I N) : Met l y_Mod_fits ws_Mod_fits (kk_rm 2 0 0) (kk_Pc B D cI cZ cQ [.ref (b + 14), .int (nI j)] w sz) (vp_Si (fun r => r = nI (if ft_ok N j then 1 else 0))) 0 0 (fun _ => False) := by
  refine Met.ofW (cc := k_Mod_fits) (maxL := 2) (ret := (some .boolean)) (by decide) rfl ?_
  intro p e s m args below meth c s₁ BB hml hv
  obtain ⟨rfl, hK, hP, hz, hBz⟩ := hv
  have hx := BB.exec
  have hb := BB.bytes
  have hr := BB.returns
  have hts := atoms_spec (ws := ws_Mod_fits) BB.pre
  have hown : s.vm.findClass "DelegationClosureModel" = some m.cls := findClass_of_methodNamed BB.named
  have hlocks := BB.notSynchronized
  have hS : mm_S B s.heap s.heap [] := va_S.rf
  have hl := lv_entry ([.ref (b + 14), .int (nI j)]) (n := 2) (Nat.le_of_ble_eq_true rfl)
  rw [lg_entry_eq]
  generalize (lg_sl ([.ref (b + 14), .int (nI j)]) ++ List.replicate (2 - (lg_sl ([.ref (b + 14), .int (nI j)])).length) Slot.unset).toArray = ls at hl ⊢
  have hl : lv_has ls 2 [(0, .ref (b + 14)), (1, .int (nI j))] := hl
  have m0 : w (b + 14) = some (.inr (9, [.int (nI (N 0 0)), .ref (b + 15), .ref (b + 16), .ref (b + 17), .ref (b + 18), .ref (b + 19), .ref (b + 20), .ref (b + 21), .ref (b + 22), .ref (b + 23), .ref (b + 24), .ref (b + 25), .ref (b + 26), .ref (b + 27), .ref (b + 28), .ref (b + 29), .int (nI (N 16 0)), .int (nI (N 17 0)), .int (nI (N 18 0)), .ref (b + 30), .int (nI (N 20 0)), .int (S 21 0), .int (S 22 0), .int (S 23 0), .int (S 24 0), .int (nI (N 25 0)), .int (nI (N 26 0))])) := hM.1
  have m1 : w (b + 15) = some (.inl (cZ, 24, .inl (fun i => nI ((N 1) i)))) := hM.2 1 (by decide) (by decide)
  have m2 : w (b + 16) = some (.inl (cZ, 24, .inl (fun i => nI ((N 2) i)))) := hM.2 2 (by decide) (by decide)
  have m3 : w (b + 17) = some (.inl (cI, 24, .inl (fun i => nI ((N 3) i)))) := hM.2 3 (by decide) (by decide)
  have m4 : w (b + 18) = some (.inl (cI, 24, .inl (fun i => nI ((N 4) i)))) := hM.2 4 (by decide) (by decide)
  have m5 : w (b + 19) = some (.inl (cI, 24, .inl (S 5))) := hM.2 5 (by decide) (by decide)
  have m6 : w (b + 20) = some (.inl (cI, 24, .inl (S 6))) := hM.2 6 (by decide) (by decide)
  have m7 : w (b + 21) = some (.inl (cI, 72, .inl (fun i => nI ((N 7) i)))) := hM.2 7 (by decide) (by decide)
  have m8 : w (b + 22) = some (.inl (cI, 24, .inl (fun i => nI ((N 8) i)))) := hM.2 8 (by decide) (by decide)
  have m9 : w (b + 23) = some (.inl (cI, 24, .inl (fun i => nI ((N 9) i)))) := hM.2 9 (by decide) (by decide)
  have m10 : w (b + 24) = some (.inl (cI, 24, .inl (fun i => nI ((N 10) i)))) := hM.2 10 (by decide) (by decide)
  have m11 : w (b + 25) = some (.inl (cI, 24, .inl (S 11))) := hM.2 11 (by decide) (by decide)
  have m12 : w (b + 26) = some (.inl (cI, 24, .inl (S 12))) := hM.2 12 (by decide) (by decide)
  have m13 : w (b + 27) = some (.inl (cZ, 24, .inl (fun i => nI ((N 13) i)))) := hM.2 13 (by decide) (by decide)
  have m14 : w (b + 28) = some (.inl (cI, 256, .inl (fun i => nI ((N 14) i)))) := hM.2 14 (by decide) (by decide)
  have m15 : w (b + 29) = some (.inl (cI, 24, .inl (fun i => nI ((N 15) i)))) := hM.2 15 (by decide) (by decide)
  have m16 : w (b + 30) = some (.inl (cI, 5, .inl (fun i => nI ((N 19) i)))) := hM.2 16 (by decide) (by decide)
  have hRj := hR j hj
  have hC2 := hC.2.1
  have hC3 := hC.2.2.1
  have hC6 := hC.2.2.2.2.2.1
  have hC7 := hC.2.2.2.2.2.2 0
  have hs0 : wf_subn (N 7 (3 * j)) := hRj.2.2.2.2.2.1 0 (by omega)
  have hA2 := ch_a_le (N 7 (3 * j))
  refine lv_aload_n hx hb d_Mod_fits_0 rfl (lv_at hl 0 rfl) ?_
  refine mm_get (D := D) (C := n_Mod) (T := T_Mod) (N := 27) (v := .ref (b + 17)) hx hb hts lay_Mod hown hK.1 hP m0 rfl 3 (by decide) (hts _ (List.mem_cons_of_mem _ wd_494)) (fun _ h9 => h9) rfl d_Mod_fits_1 ?_
  refine lv_iload_n hx hb d_Mod_fits_4 rfl (lv_at hl 1 rfl) ?_
  refine mm_iald hx hb hK.1 hP 0 m3 rfl j rfl (by omega) (by decide) d_Mod_fits_5 ?_
  refine W.eq (g2 := F0 m 6 ls [.int (nI ((N 3) j))]) rfl ?_
  refine lv_aload_n hx hb d_Mod_fits_6 rfl (lv_at hl 0 rfl) ?_
  refine mm_get (D := D) (C := n_Mod) (T := T_Mod) (N := 27) (v := .int (nI (N 17 0))) hx hb hts lay_Mod hown hK.1 hP m0 rfl 17 (by decide) (hts _ (List.mem_cons_of_mem _ wd_508)) (fun _ h9 => h9) rfl d_Mod_fits_7 ?_
  refine lv_icmp_eq (tgt := 15) hx hb d_Mod_fits_10 (by decide) (fun cc1 => ?_) (fun cc1 => ?_)
  · have cc1 : (N 3) j = N 17 0 := (nI_eq (by omega) (by omega)).mp cc1
    refine lv_aload_n hx hb d_Mod_fits_15 rfl (lv_at hl 0 rfl) ?_
    refine mm_get (D := D) (C := n_Mod) (T := T_Mod) (N := 27) (v := .ref (b + 16)) hx hb hts lay_Mod hown hK.1 hP m0 rfl 2 (by decide) (hts _ (List.mem_cons_of_mem _ wd_493)) (fun _ h9 => h9) rfl d_Mod_fits_16 ?_
    refine lv_iload_n hx hb d_Mod_fits_19 rfl (lv_at hl 1 rfl) ?_
    refine mm_zald hx hb hK.1 hP 1 m2 rfl j rfl (by omega) (by decide) d_Mod_fits_20 ?_
    refine W.eq (g2 := F0 m 21 ls [.int (nI ((N 2) j))]) rfl ?_
    refine lv_if_eq (tgt := 74) hx hb d_Mod_fits_21 (by decide) (fun cc2 => ?_) (fun cc2 => ?_)
    · rw [← nI_0] at cc2
      have cc2 : (N 2) j = 0 := (nI_eq (by omega) (by omega)).mp cc2
      refine lv_aload_n hx hb d_Mod_fits_74 rfl (lv_at hl 0 rfl) ?_
      refine mm_get (D := D) (C := n_Mod) (T := T_Mod) (N := 27) (v := .ref (b + 22)) hx hb hts lay_Mod hown hK.1 hP m0 rfl 8 (by decide) (hts _ (List.mem_cons_of_mem _ wd_499)) (fun _ h9 => h9) rfl d_Mod_fits_75 ?_
      refine lv_iload_n hx hb d_Mod_fits_78 rfl (lv_at hl 1 rfl) ?_
      refine mm_iald hx hb hK.1 hP 0 m8 rfl j rfl (by omega) (by decide) d_Mod_fits_79 ?_
      refine W.eq (g2 := F0 m 80 ls [.int (nI ((N 8) j))]) rfl ?_
      refine lv_iconst (v := nI 1) hx hb d_Mod_fits_80 (by decide) ?_
      refine lv_icmp_ne (tgt := 102) hx hb d_Mod_fits_81 (by decide) (fun cc3 => ?_) (fun cc3 => ?_)
      · have cc3 : ¬ ((N 8) j = 1) := fun q => cc3 ((nI_eq (by omega) (by omega)).mpr q)
        refine lv_iconst (v := nI 0) hx hb d_Mod_fits_102 (by decide) ?_
        exact W.zret hx hb hr rfl (fun t ht hW => ⟨_, rfl, kk_iff (by omega), ht⟩) (fun q hq => by cases hq) d_Mod_fits_103
      · have cc3 : (N 8) j = 1 := (nI_eq (by omega) (by omega)).mp cc3
        refine lv_aload_n hx hb d_Mod_fits_84 rfl (lv_at hl 0 rfl) ?_
        refine mm_get (D := D) (C := n_Mod) (T := T_Mod) (N := 27) (v := .int (nI (N 18 0))) hx hb hts lay_Mod hown hK.1 hP m0 rfl 18 (by decide) (hts _ (List.mem_cons_of_mem _ wd_509)) (fun _ h9 => h9) rfl d_Mod_fits_85 ?_
        refine lv_if_ne (tgt := 102) hx hb d_Mod_fits_88 (by decide) (fun cc4 => ?_) (fun cc4 => ?_)
        · rw [← nI_0] at cc4
          have cc4 : ¬ (N 18 0 = 0) := fun q => cc4 ((nI_eq (by omega) (by omega)).mpr q)
          refine lv_iconst (v := nI 0) hx hb d_Mod_fits_102 (by decide) ?_
          exact W.zret hx hb hr rfl (fun t ht hW => ⟨_, rfl, kk_iff (by omega), ht⟩) (fun q hq => by cases hq) d_Mod_fits_103
        · rw [← nI_0] at cc4
          have cc4 : N 18 0 = 0 := (nI_eq (by omega) (by omega)).mp cc4
          refine lv_aload_n hx hb d_Mod_fits_91 rfl (lv_at hl 0 rfl) ?_
          refine mm_get (D := D) (C := n_Mod) (T := T_Mod) (N := 27) (v := .int (nI (N 26 0))) hx hb hts lay_Mod hown hK.1 hP m0 rfl 26 (by decide) (hts _ (List.mem_cons_of_mem _ wd_517)) (fun _ h9 => h9) rfl d_Mod_fits_92 ?_
          refine lv_if_eq (tgt := 102) hx hb d_Mod_fits_95 (by decide) (fun cc5 => ?_) (fun cc5 => ?_)
          · rw [← nI_0] at cc5
            have cc5 : N 26 0 = 0 := (nI_eq (by omega) (by omega)).mp cc5
            refine lv_iconst (v := nI 0) hx hb d_Mod_fits_102 (by decide) ?_
            exact W.zret hx hb hr rfl (fun t ht hW => ⟨_, rfl, kk_iff (by omega), ht⟩) (fun q hq => by cases hq) d_Mod_fits_103
          · rw [← nI_0] at cc5
            have cc5 : ¬ (N 26 0 = 0) := fun q => cc5 ((nI_eq (by omega) (by omega)).mpr q)
            refine lv_iconst (v := nI 1) hx hb d_Mod_fits_98 (by decide) ?_
            refine lv_goto (tgt := 103) hx hb d_Mod_fits_99 (by decide) ?_
            exact W.zret hx hb hr rfl (fun t ht hW => ⟨_, rfl, kk_ift (by omega), ht⟩) (fun q hq => by cases hq) d_Mod_fits_103
    · rw [← nI_0] at cc2
      have cc2 : ¬ ((N 2) j = 0) := fun q => cc2 ((nI_eq (by omega) (by omega)).mpr q)
      refine lv_aload_n hx hb d_Mod_fits_24 rfl (lv_at hl 0 rfl) ?_
      refine mm_get (D := D) (C := n_Mod) (T := T_Mod) (N := 27) (v := .int (nI (N 18 0))) hx hb hts lay_Mod hown hK.1 hP m0 rfl 18 (by decide) (hts _ (List.mem_cons_of_mem _ wd_509)) (fun _ h9 => h9) rfl d_Mod_fits_25 ?_
      refine lv_if_le (tgt := 72) hx hb d_Mod_fits_28 (by decide) (fun cc6 => ?_) (fun cc6 => ?_)
      · rw [← nI_0] at cc6
        have cc6 : N 18 0 ≤ 0 := (nI_leI (by omega) (by omega)).mp cc6
        refine lv_iconst (v := nI 0) hx hb d_Mod_fits_72 (by decide) ?_
        exact W.zret hx hb hr rfl (fun t ht hW => ⟨_, rfl, kk_iff (by omega), ht⟩) (fun q hq => by cases hq) d_Mod_fits_73
      · rw [← nI_0] at cc6
        have cc6 : ¬ (N 18 0 ≤ 0) := fun q => cc6 ((nI_leI (by omega) (by omega)).mpr q)
        refine lv_aload_n hx hb d_Mod_fits_31 rfl (lv_at hl 0 rfl) ?_
        refine mm_get (D := D) (C := n_Mod) (T := T_Mod) (N := 27) (v := .ref (b + 30)) hx hb hts lay_Mod hown hK.1 hP m0 rfl 19 (by decide) (hts _ (List.mem_cons_of_mem _ wd_510)) (fun _ h9 => h9) rfl d_Mod_fits_32 ?_
        refine lv_iconst (v := nI 0) hx hb d_Mod_fits_35 (by decide) ?_
        refine mm_iald hx hb hK.1 hP 0 m16 rfl 0 rfl (by omega) (by decide) d_Mod_fits_36 ?_
        refine W.eq (g2 := F0 m 37 ls [.int (nI ((N 19) 0))]) rfl ?_
        refine lv_aload_n hx hb d_Mod_fits_37 rfl (lv_at hl 0 rfl) ?_
        refine mm_get (D := D) (C := n_Mod) (T := T_Mod) (N := 27) (v := .ref (b + 18)) hx hb hts lay_Mod hown hK.1 hP m0 rfl 4 (by decide) (hts _ (List.mem_cons_of_mem _ wd_495)) (fun _ h9 => h9) rfl d_Mod_fits_38 ?_
        refine lv_iload_n hx hb d_Mod_fits_41 rfl (lv_at hl 1 rfl) ?_
        refine mm_iald hx hb hK.1 hP 0 m4 rfl j rfl (by omega) (by decide) d_Mod_fits_42 ?_
        refine W.eq (g2 := F0 m 43 ls [.int (nI ((N 4) j)), .int (nI ((N 19) 0))]) rfl ?_
        refine lv_icmp_ne (tgt := 72) hx hb d_Mod_fits_43 (by decide) (fun cc7 => ?_) (fun cc7 => ?_)
        · have cc7 : ¬ ((N 19) 0 = (N 4) j) := fun q => cc7 ((nI_eq (by omega) (by omega)).mpr q)
          refine lv_iconst (v := nI 0) hx hb d_Mod_fits_72 (by decide) ?_
          exact W.zret hx hb hr rfl (fun t ht hW => ⟨_, rfl, kk_iff (by omega), ht⟩) (fun q hq => by cases hq) d_Mod_fits_73
        · have cc7 : (N 19) 0 = (N 4) j := (nI_eq (by omega) (by omega)).mp cc7
          refine lv_aload_n hx hb d_Mod_fits_46 rfl (lv_at hl 0 rfl) ?_
          refine mm_get (D := D) (C := n_Mod) (T := T_Mod) (N := 27) (v := .int (nI (N 18 0))) hx hb hts lay_Mod hown hK.1 hP m0 rfl 18 (by decide) (hts _ (List.mem_cons_of_mem _ wd_509)) (fun _ h9 => h9) rfl d_Mod_fits_47 ?_
          refine lv_iconst (v := nI 1) hx hb d_Mod_fits_50 (by decide) ?_
          refine lv_isub hx hb d_Mod_fits_51 ?_
          refine kk_top (pk_sub (by omega)) ?_
          refine lv_aload_n hx hb d_Mod_fits_52 rfl (lv_at hl 0 rfl) ?_
          refine mm_get (D := D) (C := n_Mod) (T := T_Mod) (N := 27) (v := .ref (b + 21)) hx hb hts lay_Mod hown hK.1 hP m0 rfl 7 (by decide) (hts _ (List.mem_cons_of_mem _ wd_498)) (fun _ h9 => h9) rfl d_Mod_fits_53 ?_
          refine lv_iconst (v := nI 3) hx hb d_Mod_fits_56 (by decide) ?_
          refine lv_iload_n hx hb d_Mod_fits_57 rfl (lv_at hl 1 rfl) ?_
          refine lv_imul hx hb d_Mod_fits_58 ?_
          refine kk_top (pk_mul _ _) ?_
          refine mm_iald hx hb hK.1 hP 0 m7 rfl (3 * j) rfl (by omega) (by decide) d_Mod_fits_59 ?_
          refine W.eq (g2 := F0 m 60 ls [.int (nI ((N 7) (3 * j))), .int (nI ((N 18 0) - 1))]) rfl ?_
          refine vp_callSi (va_Run.run (va_runS (As := [.int (nI ((N 7) (3 * j)))]) (rest := [.int (nI ((N 18 0) - 1))]) ⟨hx, hb, hml, hown, hts⟩ (c_Mod_namesOf l (by omega)) (va_cwS 1 hts (gW_in (hd := [_, _, _, _]) (kk_4 wd_691 wd_692 wd_8 cw_Mod_namesOf)) rfl rfl rfl ds_Mod_namesOf ⟨Nat.le_of_ble_eq_true rfl, Nat.le_of_ble_eq_true rfl⟩) (kk_preS hK hP hz hBz) rfl rfl hl.1 rfl (lv_room (Nat.le_of_ble_eq_true rfl)) d_Mod_fits_60 ⟨Nat.le_of_ble_eq_true rfl, Nat.le_of_ble_eq_true rfl⟩)) (fun r8 hr8 => ?_)
          subst hr8
          refine kk_top (y := nI (ch_a (N 7 (3 * j)))) (rfl) ?_
          refine lv_iadd hx hb d_Mod_fits_63 ?_
          refine kk_top (nI_add _ _) ?_
          refine lv_iconst (v := nI 4) hx hb d_Mod_fits_64 (by decide) ?_
          refine lv_icmp_gt (tgt := 72) hx hb d_Mod_fits_65 (by decide) (fun cc9 => ?_) (fun cc9 => ?_)
          · have cc9 : 4 < ((N 18 0) - 1) + (ch_a (N 7 (3 * j))) := (nI_ltI (by omega) (by omega)).mp cc9
            refine lv_iconst (v := nI 0) hx hb d_Mod_fits_72 (by decide) ?_
            exact W.zret hx hb hr rfl (fun t ht hW => ⟨_, rfl, kk_iff (by omega), ht⟩) (fun q hq => by cases hq) d_Mod_fits_73
          · have cc9 : ¬ (4 < ((N 18 0) - 1) + (ch_a (N 7 (3 * j)))) := fun q => cc9 ((nI_ltI (by omega) (by omega)).mpr q)
            refine lv_iconst (v := nI 1) hx hb d_Mod_fits_68 (by decide) ?_
            refine lv_goto (tgt := 73) hx hb d_Mod_fits_69 (by decide) ?_
            exact W.zret hx hb hr rfl (fun t ht hW => ⟨_, rfl, kk_ift (by omega), ht⟩) (fun q hq => by cases hq) d_Mod_fits_73
  · have cc1 : ¬ ((N 3) j = N 17 0) := fun q => cc1 ((nI_eq (by omega) (by omega)).mpr q)
    refine lv_iconst (v := nI 0) hx hb d_Mod_fits_13 (by decide) ?_
    exact W.zret hx hb hr rfl (fun t ht hW => ⟨_, rfl, kk_iff (by omega), ht⟩) (fun q hq => by cases hq) d_Mod_fits_14
theorem d_Mod_begin_0 : decode k_Mod_begin 0 = .ok (.aload_n 0, 1) := by decide +kernel
theorem d_Mod_begin_1 : decode k_Mod_begin 1 = .ok (.iload_n 1, 1) := by decide +kernel
theorem d_Mod_begin_2 : decode k_Mod_begin 2 = .ok (.invokevirtual 80, 3) := by decide +kernel
theorem d_Mod_begin_5 : decode k_Mod_begin 5 = .ok (.ifCond .eq 24, 3) := by decide +kernel
theorem d_Mod_begin_8 : decode k_Mod_begin 8 = .ok (.aload_n 0, 1) := by decide +kernel
theorem d_Mod_begin_9 : decode k_Mod_begin 9 = .ok (.getfield 16, 3) := by decide +kernel
theorem d_Mod_begin_12 : decode k_Mod_begin 12 = .ok (.iload_n 1, 1) := by decide +kernel
theorem d_Mod_begin_13 : decode k_Mod_begin 13 = .ok (.iaload, 1) := by decide +kernel
theorem d_Mod_begin_14 : decode k_Mod_begin 14 = .ok (.bipush 8, 2) := by decide +kernel
theorem d_Mod_begin_16 : decode k_Mod_begin 16 = .ok (.if_icmp .ne 13, 3) := by decide +kernel
theorem d_Mod_begin_19 : decode k_Mod_begin 19 = .ok (.aload_n 0, 1) := by decide +kernel
theorem d_Mod_begin_20 : decode k_Mod_begin 20 = .ok (.getfield 32, 3) := by decide +kernel
theorem d_Mod_begin_23 : decode k_Mod_begin 23 = .ok (.iload_n 1, 1) := by decide +kernel
theorem d_Mod_begin_24 : decode k_Mod_begin 24 = .ok (.iaload, 1) := by decide +kernel
theorem d_Mod_begin_25 : decode k_Mod_begin 25 = .ok (.iconst 1, 1) := by decide +kernel
theorem d_Mod_begin_26 : decode k_Mod_begin 26 = .ok (.if_icmp .eq 5, 3) := by decide +kernel
theorem d_Mod_begin_29 : decode k_Mod_begin 29 = .ok (.iconst 0, 1) := by decide +kernel
theorem d_Mod_begin_30 : decode k_Mod_begin 30 = .ok (.ireturn, 1) := by decide +kernel
theorem d_Mod_begin_31 : decode k_Mod_begin 31 = .ok (.aload_n 0, 1) := by decide +kernel
theorem d_Mod_begin_32 : decode k_Mod_begin 32 = .ok (.iconst 1, 1) := by decide +kernel
theorem d_Mod_begin_33 : decode k_Mod_begin 33 = .ok (.putfield 130, 3) := by decide +kernel
theorem d_Mod_begin_36 : decode k_Mod_begin 36 = .ok (.aload_n 0, 1) := by decide +kernel
theorem d_Mod_begin_37 : decode k_Mod_begin 37 = .ok (.iconst 0, 1) := by decide +kernel
theorem d_Mod_begin_38 : decode k_Mod_begin 38 = .ok (.putfield 134, 3) := by decide +kernel
theorem d_Mod_begin_41 : decode k_Mod_begin 41 = .ok (.aload_n 0, 1) := by decide +kernel
theorem d_Mod_begin_42 : decode k_Mod_begin 42 = .ok (.aload_n 0, 1) := by decide +kernel
theorem d_Mod_begin_43 : decode k_Mod_begin 43 = .ok (.getfield 29, 3) := by decide +kernel
theorem d_Mod_begin_46 : decode k_Mod_begin 46 = .ok (.iconst 3, 1) := by decide +kernel
theorem d_Mod_begin_47 : decode k_Mod_begin 47 = .ok (.iload_n 1, 1) := by decide +kernel
theorem d_Mod_begin_48 : decode k_Mod_begin 48 = .ok (.imul, 1) := by decide +kernel
theorem d_Mod_begin_49 : decode k_Mod_begin 49 = .ok (.iaload, 1) := by decide +kernel
theorem d_Mod_begin_50 : decode k_Mod_begin 50 = .ok (.invokevirtual 137, 3) := by decide +kernel
theorem d_Mod_begin_53 : decode k_Mod_begin 53 = .ok (.aload_n 0, 1) := by decide +kernel
theorem d_Mod_begin_54 : decode k_Mod_begin 54 = .ok (.aload_n 0, 1) := by decide +kernel
theorem d_Mod_begin_55 : decode k_Mod_begin 55 = .ok (.getfield 38, 3) := by decide +kernel
theorem d_Mod_begin_58 : decode k_Mod_begin 58 = .ok (.iload_n 1, 1) := by decide +kernel
theorem d_Mod_begin_59 : decode k_Mod_begin 59 = .ok (.iaload, 1) := by decide +kernel
theorem d_Mod_begin_60 : decode k_Mod_begin 60 = .ok (.putfield 140, 3) := by decide +kernel
theorem d_Mod_begin_63 : decode k_Mod_begin 63 = .ok (.aload_n 0, 1) := by decide +kernel
theorem d_Mod_begin_64 : decode k_Mod_begin 64 = .ok (.aload_n 0, 1) := by decide +kernel
theorem d_Mod_begin_65 : decode k_Mod_begin 65 = .ok (.getfield 41, 3) := by decide +kernel
theorem d_Mod_begin_68 : decode k_Mod_begin 68 = .ok (.iload_n 1, 1) := by decide +kernel
theorem d_Mod_begin_69 : decode k_Mod_begin 69 = .ok (.iaload, 1) := by decide +kernel
theorem d_Mod_begin_70 : decode k_Mod_begin 70 = .ok (.putfield 143, 3) := by decide +kernel
theorem d_Mod_begin_73 : decode k_Mod_begin 73 = .ok (.aload_n 0, 1) := by decide +kernel
theorem d_Mod_begin_74 : decode k_Mod_begin 74 = .ok (.aload_n 0, 1) := by decide +kernel
theorem d_Mod_begin_75 : decode k_Mod_begin 75 = .ok (.getfield 44, 3) := by decide +kernel
theorem d_Mod_begin_78 : decode k_Mod_begin 78 = .ok (.iload_n 1, 1) := by decide +kernel
theorem d_Mod_begin_79 : decode k_Mod_begin 79 = .ok (.iaload, 1) := by decide +kernel
theorem d_Mod_begin_80 : decode k_Mod_begin 80 = .ok (.putfield 146, 3) := by decide +kernel
theorem d_Mod_begin_83 : decode k_Mod_begin 83 = .ok (.aload_n 0, 1) := by decide +kernel
theorem d_Mod_begin_84 : decode k_Mod_begin 84 = .ok (.aload_n 0, 1) := by decide +kernel
theorem d_Mod_begin_85 : decode k_Mod_begin 85 = .ok (.getfield 23, 3) := by decide +kernel
theorem d_Mod_begin_88 : decode k_Mod_begin 88 = .ok (.iload_n 1, 1) := by decide +kernel
theorem d_Mod_begin_89 : decode k_Mod_begin 89 = .ok (.iaload, 1) := by decide +kernel
theorem d_Mod_begin_90 : decode k_Mod_begin 90 = .ok (.putfield 149, 3) := by decide +kernel
theorem d_Mod_begin_93 : decode k_Mod_begin 93 = .ok (.aload_n 0, 1) := by decide +kernel
theorem d_Mod_begin_94 : decode k_Mod_begin 94 = .ok (.aload_n 0, 1) := by decide +kernel
theorem d_Mod_begin_95 : decode k_Mod_begin 95 = .ok (.getfield 26, 3) := by decide +kernel
theorem d_Mod_begin_98 : decode k_Mod_begin 98 = .ok (.iload_n 1, 1) := by decide +kernel
theorem d_Mod_begin_99 : decode k_Mod_begin 99 = .ok (.iaload, 1) := by decide +kernel
theorem d_Mod_begin_100 : decode k_Mod_begin 100 = .ok (.putfield 152, 3) := by decide +kernel
theorem d_Mod_begin_103 : decode k_Mod_begin 103 = .ok (.aload_n 0, 1) := by decide +kernel
theorem d_Mod_begin_104 : decode k_Mod_begin 104 = .ok (.iconst 1, 1) := by decide +kernel
theorem d_Mod_begin_105 : decode k_Mod_begin 105 = .ok (.putfield 155, 3) := by decide +kernel
theorem d_Mod_begin_108 : decode k_Mod_begin 108 = .ok (.aload_n 0, 1) := by decide +kernel
theorem d_Mod_begin_109 : decode k_Mod_begin 109 = .ok (.aload_n 0, 1) := by decide +kernel
theorem d_Mod_begin_110 : decode k_Mod_begin 110 = .ok (.getfield 47, 3) := by decide +kernel
theorem d_Mod_begin_113 : decode k_Mod_begin 113 = .ok (.iload_n 1, 1) := by decide +kernel
theorem d_Mod_begin_114 : decode k_Mod_begin 114 = .ok (.baload, 1) := by decide +kernel
theorem d_Mod_begin_115 : decode k_Mod_begin 115 = .ok (.putfield 158, 3) := by decide +kernel
theorem d_Mod_begin_118 : decode k_Mod_begin 118 = .ok (.iconst 1, 1) := by decide +kernel
theorem d_Mod_begin_119 : decode k_Mod_begin 119 = .ok (.ireturn, 1) := by decide +kernel
set_option maxHeartbeats 4000000 in
set_option maxRecDepth 100000 in
theorem c_Mod_begin (l : Launch) {B : Nat} {D : va_G} {cI cZ cQ : ClassId} {w : mm_M} {sz : Nat} {b : Nat} {N : Nat → Nat → Nat} {S : Nat → Nat → Int32} {nr : Int32} (hM : mo_I b cI cZ N S w) (hn : N 0 0 ≤ 24) (hR : rg_I N) : Met l y_Mod_begin ws_Mod_begin (kk_rm 3 0 0) (kk_Pc B D cI cZ cQ [.ref (b + 14), .int nr] w sz) (kk_Qi B D (fun r w' sz' => r = nI (if be_ok N nr then 1 else 0) ∧ mo_I b cI cZ (be_N N nr) (be_S N S nr) w' ∧ (∀ j, ¬ (b + 14 ≤ j ∧ j < b + 31) → w' j = w j) ∧ sz' = sz)) 0 0 (fun q => B ≤ q) := by
  refine Met.ofW (cc := k_Mod_begin) (maxL := 2) (ret := (some .boolean)) (by decide) rfl ?_
  intro p e s m args below meth c s₁ BB hml hv
  obtain ⟨rfl, hK, hP, hz, hBz⟩ := hv
  have hx := BB.exec
  have hb := BB.bytes
  have hr := BB.returns
  have hts := atoms_spec (ws := ws_Mod_begin) BB.pre
  have hown : s.vm.findClass "DelegationClosureModel" = some m.cls := findClass_of_methodNamed BB.named
  have hlocks := BB.notSynchronized
  have hS : mm_S B s.heap s.heap [] := va_S.rf
  have hl := lv_entry ([.ref (b + 14), .int nr]) (n := 2) (Nat.le_of_ble_eq_true rfl)
  rw [lg_entry_eq]
  generalize (lg_sl ([.ref (b + 14), .int nr]) ++ List.replicate (2 - (lg_sl ([.ref (b + 14), .int nr])).length) Slot.unset).toArray = ls at hl ⊢
  have hl : lv_has ls 2 [(0, .ref (b + 14)), (1, .int nr)] := hl
  have m0 : w (b + 14) = some (.inr (9, [.int (nI (N 0 0)), .ref (b + 15), .ref (b + 16), .ref (b + 17), .ref (b + 18), .ref (b + 19), .ref (b + 20), .ref (b + 21), .ref (b + 22), .ref (b + 23), .ref (b + 24), .ref (b + 25), .ref (b + 26), .ref (b + 27), .ref (b + 28), .ref (b + 29), .int (nI (N 16 0)), .int (nI (N 17 0)), .int (nI (N 18 0)), .ref (b + 30), .int (nI (N 20 0)), .int (S 21 0), .int (S 22 0), .int (S 23 0), .int (S 24 0), .int (nI (N 25 0)), .int (nI (N 26 0))])) := hM.1
  have m1 : w (b + 15) = some (.inl (cZ, 24, .inl (fun i => nI ((N 1) i)))) := hM.2 1 (by decide) (by decide)
  have m2 : w (b + 16) = some (.inl (cZ, 24, .inl (fun i => nI ((N 2) i)))) := hM.2 2 (by decide) (by decide)
  have m3 : w (b + 17) = some (.inl (cI, 24, .inl (fun i => nI ((N 3) i)))) := hM.2 3 (by decide) (by decide)
  have m4 : w (b + 18) = some (.inl (cI, 24, .inl (fun i => nI ((N 4) i)))) := hM.2 4 (by decide) (by decide)
  have m5 : w (b + 19) = some (.inl (cI, 24, .inl (S 5))) := hM.2 5 (by decide) (by decide)
  have m6 : w (b + 20) = some (.inl (cI, 24, .inl (S 6))) := hM.2 6 (by decide) (by decide)
  have m7 : w (b + 21) = some (.inl (cI, 72, .inl (fun i => nI ((N 7) i)))) := hM.2 7 (by decide) (by decide)
  have m8 : w (b + 22) = some (.inl (cI, 24, .inl (fun i => nI ((N 8) i)))) := hM.2 8 (by decide) (by decide)
  have m9 : w (b + 23) = some (.inl (cI, 24, .inl (fun i => nI ((N 9) i)))) := hM.2 9 (by decide) (by decide)
  have m10 : w (b + 24) = some (.inl (cI, 24, .inl (fun i => nI ((N 10) i)))) := hM.2 10 (by decide) (by decide)
  have m11 : w (b + 25) = some (.inl (cI, 24, .inl (S 11))) := hM.2 11 (by decide) (by decide)
  have m12 : w (b + 26) = some (.inl (cI, 24, .inl (S 12))) := hM.2 12 (by decide) (by decide)
  have m13 : w (b + 27) = some (.inl (cZ, 24, .inl (fun i => nI ((N 13) i)))) := hM.2 13 (by decide) (by decide)
  have m14 : w (b + 28) = some (.inl (cI, 256, .inl (fun i => nI ((N 14) i)))) := hM.2 14 (by decide) (by decide)
  have m15 : w (b + 29) = some (.inl (cI, 24, .inl (fun i => nI ((N 15) i)))) := hM.2 15 (by decide) (by decide)
  have m16 : w (b + 30) = some (.inl (cI, 5, .inl (fun i => nI ((N 19) i)))) := hM.2 16 (by decide) (by decide)
  by_cases hok : be_ok N nr
  · refine lv_aload_n hx hb d_Mod_begin_0 rfl (lv_at hl 0 rfl) ?_
    refine lv_iload_n hx hb d_Mod_begin_1 rfl (lv_at hl 1 rfl) ?_
    refine vp_callSi (va_Run.run (va_runV (As := [.int nr]) (rest := []) ⟨hx, hb, hml, hown, hts⟩ (c_Mod_isPermission l (b := b) (N := N) (S := S) hM (by omega) hR) (cwV 1 hts (gW_in (hd := [_, _, _, _, _]) (kk_5 wd_597 wd_599 sl_Mod_isPermission wd_8 cw_Mod_isPermission)) rfl rfl rfl ⟨rfl, ds_Mod_isPermission⟩ ⟨Nat.le_of_ble_eq_true rfl, Nat.le_of_ble_eq_true rfl⟩) (kk_preV hK hP hz hBz m0 rfl) rfl rfl hl.1 rfl (lv_room (Nat.le_of_ble_eq_true rfl)) d_Mod_begin_2 ⟨Nat.le_of_ble_eq_true rfl, Nat.le_of_ble_eq_true rfl⟩)) (fun r1 hr1 => ?_)
    subst hr1
    refine lv_if_eq (tgt := 29) hx hb d_Mod_begin_5 (by decide) (fun cc2 => ?_) (fun cc2 => ?_)
    · have cc2 := kk_b0 cc2
      exact absurd hok.1 cc2
    · have cc2 := kk_b1 cc2
      obtain ⟨j, hj, rfl⟩ := re_in hn cc2.1.1
      have hRj := hR j hj
      have hg13 : N 13 j ≤ 1 := by omega
      have hs0 : wf_subn (N 7 (3 * j)) := hRj.2.2.2.2.2.1 0 (by omega)
      have hA2 := ch_a_le (N 7 (3 * j))
      refine lv_aload_n hx hb d_Mod_begin_8 rfl (lv_at hl 0 rfl) ?_
      refine mm_get (D := D) (C := n_Mod) (T := T_Mod) (N := 27) (v := .ref (b + 17)) hx hb hts lay_Mod hown hK.1 hP m0 rfl 3 (by decide) (hts _ (List.mem_cons_of_mem _ wd_494)) (fun _ h9 => h9) rfl d_Mod_begin_9 ?_
      refine lv_iload_n hx hb d_Mod_begin_12 rfl (lv_at hl 1 rfl) ?_
      refine mm_iald hx hb hK.1 hP 0 m3 rfl j rfl (by omega) (by decide) d_Mod_begin_13 ?_
      refine W.eq (g2 := F0 m 14 ls [.int (nI ((N 3) j))]) rfl ?_
      refine lv_bipush (v := nI 8) hx hb d_Mod_begin_14 (by decide) ?_
      refine lv_icmp_ne (tgt := 29) hx hb d_Mod_begin_16 (by decide) (fun cc3 => ?_) (fun cc3 => ?_)
      · have cc3 : ¬ ((N 3) j = 8) := fun q => cc3 ((nI_eq (by omega) (by omega)).mpr q)
        exact absurd hok.2.1 (by rw [nI_clamp (by omega)]; exact cc3)
      · have cc3 : (N 3) j = 8 := (nI_eq (by omega) (by omega)).mp cc3
        refine lv_aload_n hx hb d_Mod_begin_19 rfl (lv_at hl 0 rfl) ?_
        refine mm_get (D := D) (C := n_Mod) (T := T_Mod) (N := 27) (v := .ref (b + 22)) hx hb hts lay_Mod hown hK.1 hP m0 rfl 8 (by decide) (hts _ (List.mem_cons_of_mem _ wd_499)) (fun _ h9 => h9) rfl d_Mod_begin_20 ?_
        refine lv_iload_n hx hb d_Mod_begin_23 rfl (lv_at hl 1 rfl) ?_
        refine mm_iald hx hb hK.1 hP 0 m8 rfl j rfl (by omega) (by decide) d_Mod_begin_24 ?_
        refine W.eq (g2 := F0 m 25 ls [.int (nI ((N 8) j))]) rfl ?_
        refine lv_iconst (v := nI 1) hx hb d_Mod_begin_25 (by decide) ?_
        refine lv_icmp_eq (tgt := 31) hx hb d_Mod_begin_26 (by decide) (fun cc4 => ?_) (fun cc4 => ?_)
        · have cc4 : (N 8) j = 1 := (nI_eq (by omega) (by omega)).mp cc4
          refine lv_aload_n hx hb d_Mod_begin_31 rfl (lv_at hl 0 rfl) ?_
          refine lv_iconst (v := nI 1) hx hb d_Mod_begin_32 (by decide) ?_
          refine mm_put (D := D) (C := n_Mod) (T := T_Mod) (N := 27) (v := .int (nI 1)) (ty := .boolean) hx hb hts lay_Mod t_Mod ty_Mod nm_Mod hown hK.1 hP hS m0 rfl 16 (by decide) (hts _ (List.mem_cons_of_mem _ wd_507)) (fun _ h9 => h9) rfl (by decide +kernel) rfl rfl (Nat.le_of_ble_eq_true rfl) d_Mod_begin_33 (fun H locs hP hz1 hS => ?_)
          have hz : H.size = sz := hz1.trans hz
          obtain ⟨w5, hw5⟩ : ∃ z : mm_M, z = mm_up w (b + 14) (.inr (9, [.int (nI (N 0 0)), .ref (b + 15), .ref (b + 16), .ref (b + 17), .ref (b + 18), .ref (b + 19), .ref (b + 20), .ref (b + 21), .ref (b + 22), .ref (b + 23), .ref (b + 24), .ref (b + 25), .ref (b + 26), .ref (b + 27), .ref (b + 28), .ref (b + 29), .int (nI 1), .int (nI (N 17 0)), .int (nI (N 18 0)), .ref (b + 30), .int (nI (N 20 0)), .int (S 21 0), .int (S 22 0), .int (S 23 0), .int (S 24 0), .int (nI (N 25 0)), .int (nI (N 26 0))])) := ⟨_, rfl⟩
          have hP : mm_P B D kc w5 H := by rw [hw5]; exact hP
          have fr5 : ∀ j, j ≠ b + 14 → w5 j = w j := fun j h9 => by rw [hw5]; exact mm_un h9
          have fa5 : w5 (b + 14) = some (.inr (9, [.int (nI (N 0 0)), .ref (b + 15), .ref (b + 16), .ref (b + 17), .ref (b + 18), .ref (b + 19), .ref (b + 20), .ref (b + 21), .ref (b + 22), .ref (b + 23), .ref (b + 24), .ref (b + 25), .ref (b + 26), .ref (b + 27), .ref (b + 28), .ref (b + 29), .int (nI 1), .int (nI (N 17 0)), .int (nI (N 18 0)), .ref (b + 30), .int (nI (N 20 0)), .int (S 21 0), .int (S 22 0), .int (S 23 0), .int (S 24 0), .int (nI (N 25 0)), .int (nI (N 26 0))])) := by rw [hw5]; exact mm_us _ _ _
          refine lv_aload_n hx hb d_Mod_begin_36 rfl (lv_at hl 0 rfl) ?_
          refine lv_iconst (v := nI 0) hx hb d_Mod_begin_37 (by decide) ?_
          refine mm_put (D := D) (C := n_Mod) (T := T_Mod) (N := 27) (v := .int (nI 0)) (ty := .int) hx hb hts lay_Mod t_Mod ty_Mod nm_Mod hown hK.1 hP hS fa5 rfl 18 (by decide) (hts _ (List.mem_cons_of_mem _ wd_509)) (fun _ h9 => h9) rfl (by decide +kernel) rfl rfl (Nat.le_of_ble_eq_true rfl) d_Mod_begin_38 (fun H locs hP hz1 hS => ?_)
          have hz : H.size = sz := hz1.trans hz
          obtain ⟨w6, hw6⟩ : ∃ z : mm_M, z = mm_up w5 (b + 14) (.inr (9, [.int (nI (N 0 0)), .ref (b + 15), .ref (b + 16), .ref (b + 17), .ref (b + 18), .ref (b + 19), .ref (b + 20), .ref (b + 21), .ref (b + 22), .ref (b + 23), .ref (b + 24), .ref (b + 25), .ref (b + 26), .ref (b + 27), .ref (b + 28), .ref (b + 29), .int (nI 1), .int (nI (N 17 0)), .int (nI 0), .ref (b + 30), .int (nI (N 20 0)), .int (S 21 0), .int (S 22 0), .int (S 23 0), .int (S 24 0), .int (nI (N 25 0)), .int (nI (N 26 0))])) := ⟨_, rfl⟩
          have hP : mm_P B D kc w6 H := by rw [hw6]; exact hP
          have fr6 : ∀ j, j ≠ b + 14 → w6 j = w5 j := fun j h9 => by rw [hw6]; exact mm_un h9
          have fa6 : w6 (b + 14) = some (.inr (9, [.int (nI (N 0 0)), .ref (b + 15), .ref (b + 16), .ref (b + 17), .ref (b + 18), .ref (b + 19), .ref (b + 20), .ref (b + 21), .ref (b + 22), .ref (b + 23), .ref (b + 24), .ref (b + 25), .ref (b + 26), .ref (b + 27), .ref (b + 28), .ref (b + 29), .int (nI 1), .int (nI (N 17 0)), .int (nI 0), .ref (b + 30), .int (nI (N 20 0)), .int (S 21 0), .int (S 22 0), .int (S 23 0), .int (S 24 0), .int (nI (N 25 0)), .int (nI (N 26 0))])) := by rw [hw6]; exact mm_us _ _ _
          refine lv_aload_n hx hb d_Mod_begin_41 rfl (lv_at hl 0 rfl) ?_
          refine lv_aload_n hx hb d_Mod_begin_42 rfl (lv_at hl 0 rfl) ?_
          refine mm_get (D := D) (C := n_Mod) (T := T_Mod) (N := 27) (v := .ref (b + 21)) hx hb hts lay_Mod hown hK.1 hP fa6 rfl 7 (by decide) (hts _ (List.mem_cons_of_mem _ wd_498)) (fun _ h9 => h9) rfl d_Mod_begin_43 ?_
          refine lv_iconst (v := nI 3) hx hb d_Mod_begin_46 (by decide) ?_
          refine lv_iload_n hx hb d_Mod_begin_47 rfl (lv_at hl 1 rfl) ?_
          refine lv_imul hx hb d_Mod_begin_48 ?_
          refine kk_top (pk_mul _ _) ?_
          have f7 := (fr6 _ (by omega)).trans ((fr5 _ (by omega)).trans (m7))
          refine mm_iald hx hb hK.1 hP 0 f7 rfl (3 * j) rfl (by omega) (by decide) d_Mod_begin_49 ?_
          refine W.eq (g2 := F0 m 50 ls [.int (nI ((N 7) (3 * j))), .ref (b + 14)]) rfl ?_
          refine kk_callv (va_runV (As := [.int (nI ((N 7) (3 * j)))]) (rest := []) ⟨hx, hb, hml, hown, hts⟩ (c_Mod_place l (b := b) (N := (b0_N N)) (S := S) (mo_mk fa6 ((fr6 _ (by omega)).trans ((fr5 _ (by omega)).trans (m1))) ((fr6 _ (by omega)).trans ((fr5 _ (by omega)).trans (m2))) ((fr6 _ (by omega)).trans ((fr5 _ (by omega)).trans (m3))) ((fr6 _ (by omega)).trans ((fr5 _ (by omega)).trans (m4))) ((fr6 _ (by omega)).trans ((fr5 _ (by omega)).trans (m5))) ((fr6 _ (by omega)).trans ((fr5 _ (by omega)).trans (m6))) f7 ((fr6 _ (by omega)).trans ((fr5 _ (by omega)).trans (m8))) ((fr6 _ (by omega)).trans ((fr5 _ (by omega)).trans (m9))) ((fr6 _ (by omega)).trans ((fr5 _ (by omega)).trans (m10))) ((fr6 _ (by omega)).trans ((fr5 _ (by omega)).trans (m11))) ((fr6 _ (by omega)).trans ((fr5 _ (by omega)).trans (m12))) ((fr6 _ (by omega)).trans ((fr5 _ (by omega)).trans (m13))) ((fr6 _ (by omega)).trans ((fr5 _ (by omega)).trans (m14))) ((fr6 _ (by omega)).trans ((fr5 _ (by omega)).trans (m15))) ((fr6 _ (by omega)).trans ((fr5 _ (by omega)).trans (m16)))) (by omega) (Nat.zero_le 4) (show 0 + ch_a (N 7 (3 * j)) ≤ 5 by omega)) (cwV 1 hts (gW_in (hd := [_, _, _, _, _]) (kk_5 wd_687 wd_689 sl_Mod_place wd_8 cw_Mod_place)) rfl rfl rfl ⟨rfl, ds_Mod_place⟩ ⟨Nat.le_of_ble_eq_true rfl, Nat.le_of_ble_eq_true rfl⟩) (kk_preV hK hP hz hBz fa6 rfl) rfl rfl hl.1 rfl (lv_room (Nat.le_of_ble_eq_true rfl)) d_Mod_begin_50 ⟨Nat.le_of_ble_eq_true rfl, Nat.le_of_ble_eq_true rfl⟩) hS (fun w8 sz8 H locs hp8 hP hz hS => ?_)
          obtain ⟨hM8, hf8, hs8⟩ := hp8
          have hz : H.size = sz := hz.trans hs8
          have m8_0 : w8 (b + 14) = some (.inr (9, [.int (nI ((pl_N (b0_N N) ((N 7) (3 * j))) 0 0)), .ref (b + 15), .ref (b + 16), .ref (b + 17), .ref (b + 18), .ref (b + 19), .ref (b + 20), .ref (b + 21), .ref (b + 22), .ref (b + 23), .ref (b + 24), .ref (b + 25), .ref (b + 26), .ref (b + 27), .ref (b + 28), .ref (b + 29), .int (nI ((pl_N (b0_N N) ((N 7) (3 * j))) 16 0)), .int (nI ((pl_N (b0_N N) ((N 7) (3 * j))) 17 0)), .int (nI ((pl_N (b0_N N) ((N 7) (3 * j))) 18 0)), .ref (b + 30), .int (nI ((pl_N (b0_N N) ((N 7) (3 * j))) 20 0)), .int (S 21 0), .int (S 22 0), .int (S 23 0), .int (S 24 0), .int (nI ((pl_N (b0_N N) ((N 7) (3 * j))) 25 0)), .int (nI ((pl_N (b0_N N) ((N 7) (3 * j))) 26 0))])) := hM8.1
          have m8_1 : w8 (b + 15) = some (.inl (cZ, 24, .inl (fun i => nI (((pl_N (b0_N N) ((N 7) (3 * j))) 1) i)))) := hM8.2 1 (by decide) (by decide)
          have m8_2 : w8 (b + 16) = some (.inl (cZ, 24, .inl (fun i => nI (((pl_N (b0_N N) ((N 7) (3 * j))) 2) i)))) := hM8.2 2 (by decide) (by decide)
          have m8_3 : w8 (b + 17) = some (.inl (cI, 24, .inl (fun i => nI (((pl_N (b0_N N) ((N 7) (3 * j))) 3) i)))) := hM8.2 3 (by decide) (by decide)
          have m8_4 : w8 (b + 18) = some (.inl (cI, 24, .inl (fun i => nI (((pl_N (b0_N N) ((N 7) (3 * j))) 4) i)))) := hM8.2 4 (by decide) (by decide)
          have m8_5 : w8 (b + 19) = some (.inl (cI, 24, .inl (S 5))) := hM8.2 5 (by decide) (by decide)
          have m8_6 : w8 (b + 20) = some (.inl (cI, 24, .inl (S 6))) := hM8.2 6 (by decide) (by decide)
          have m8_7 : w8 (b + 21) = some (.inl (cI, 72, .inl (fun i => nI (((pl_N (b0_N N) ((N 7) (3 * j))) 7) i)))) := hM8.2 7 (by decide) (by decide)
          have m8_8 : w8 (b + 22) = some (.inl (cI, 24, .inl (fun i => nI (((pl_N (b0_N N) ((N 7) (3 * j))) 8) i)))) := hM8.2 8 (by decide) (by decide)
          have m8_9 : w8 (b + 23) = some (.inl (cI, 24, .inl (fun i => nI (((pl_N (b0_N N) ((N 7) (3 * j))) 9) i)))) := hM8.2 9 (by decide) (by decide)
          have m8_10 : w8 (b + 24) = some (.inl (cI, 24, .inl (fun i => nI (((pl_N (b0_N N) ((N 7) (3 * j))) 10) i)))) := hM8.2 10 (by decide) (by decide)
          have m8_11 : w8 (b + 25) = some (.inl (cI, 24, .inl (S 11))) := hM8.2 11 (by decide) (by decide)
          have m8_12 : w8 (b + 26) = some (.inl (cI, 24, .inl (S 12))) := hM8.2 12 (by decide) (by decide)
          have m8_13 : w8 (b + 27) = some (.inl (cZ, 24, .inl (fun i => nI (((pl_N (b0_N N) ((N 7) (3 * j))) 13) i)))) := hM8.2 13 (by decide) (by decide)
          have m8_14 : w8 (b + 28) = some (.inl (cI, 256, .inl (fun i => nI (((pl_N (b0_N N) ((N 7) (3 * j))) 14) i)))) := hM8.2 14 (by decide) (by decide)
          have m8_15 : w8 (b + 29) = some (.inl (cI, 24, .inl (fun i => nI (((pl_N (b0_N N) ((N 7) (3 * j))) 15) i)))) := hM8.2 15 (by decide) (by decide)
          have m8_16 : w8 (b + 30) = some (.inl (cI, 5, .inl (fun i => nI (((pl_N (b0_N N) ((N 7) (3 * j))) 19) i)))) := hM8.2 16 (by decide) (by decide)
          refine lv_aload_n hx hb d_Mod_begin_53 rfl (lv_at hl 0 rfl) ?_
          refine lv_aload_n hx hb d_Mod_begin_54 rfl (lv_at hl 0 rfl) ?_
          refine mm_get (D := D) (C := n_Mod) (T := T_Mod) (N := 27) (v := .ref (b + 24)) hx hb hts lay_Mod hown hK.1 hP m8_0 rfl 10 (by decide) (hts _ (List.mem_cons_of_mem _ wd_501)) (fun _ h9 => h9) rfl d_Mod_begin_55 ?_
          refine lv_iload_n hx hb d_Mod_begin_58 rfl (lv_at hl 1 rfl) ?_
          refine mm_iald hx hb hK.1 hP 0 m8_10 rfl j rfl (by omega) (by decide) d_Mod_begin_59 ?_
          refine W.eq (g2 := F0 m 60 ls [.int (nI (((pl_N (b0_N N) ((N 7) (3 * j))) 10) j)), .ref (b + 14)]) rfl ?_
          refine mm_put (D := D) (C := n_Mod) (T := T_Mod) (N := 27) (v := .int (nI (((pl_N (b0_N N) ((N 7) (3 * j))) 10) j))) (ty := .int) hx hb hts lay_Mod t_Mod ty_Mod nm_Mod hown hK.1 hP hS m8_0 rfl 20 (by decide) (hts _ (List.mem_cons_of_mem _ wd_511)) (fun _ h9 => h9) rfl (by decide +kernel) rfl rfl (Nat.le_of_ble_eq_true rfl) d_Mod_begin_60 (fun H locs hP hz1 hS => ?_)
          have hz : H.size = sz := hz1.trans hz
          obtain ⟨w9, hw9⟩ : ∃ z : mm_M, z = mm_up w8 (b + 14) (.inr (9, [.int (nI ((pl_N (b0_N N) ((N 7) (3 * j))) 0 0)), .ref (b + 15), .ref (b + 16), .ref (b + 17), .ref (b + 18), .ref (b + 19), .ref (b + 20), .ref (b + 21), .ref (b + 22), .ref (b + 23), .ref (b + 24), .ref (b + 25), .ref (b + 26), .ref (b + 27), .ref (b + 28), .ref (b + 29), .int (nI ((pl_N (b0_N N) ((N 7) (3 * j))) 16 0)), .int (nI ((pl_N (b0_N N) ((N 7) (3 * j))) 17 0)), .int (nI ((pl_N (b0_N N) ((N 7) (3 * j))) 18 0)), .ref (b + 30), .int (nI (((pl_N (b0_N N) ((N 7) (3 * j))) 10) j)), .int (S 21 0), .int (S 22 0), .int (S 23 0), .int (S 24 0), .int (nI ((pl_N (b0_N N) ((N 7) (3 * j))) 25 0)), .int (nI ((pl_N (b0_N N) ((N 7) (3 * j))) 26 0))])) := ⟨_, rfl⟩
          have hP : mm_P B D kc w9 H := by rw [hw9]; exact hP
          have fr9 : ∀ j, j ≠ b + 14 → w9 j = w8 j := fun j h9 => by rw [hw9]; exact mm_un h9
          have fa9 : w9 (b + 14) = some (.inr (9, [.int (nI ((pl_N (b0_N N) ((N 7) (3 * j))) 0 0)), .ref (b + 15), .ref (b + 16), .ref (b + 17), .ref (b + 18), .ref (b + 19), .ref (b + 20), .ref (b + 21), .ref (b + 22), .ref (b + 23), .ref (b + 24), .ref (b + 25), .ref (b + 26), .ref (b + 27), .ref (b + 28), .ref (b + 29), .int (nI ((pl_N (b0_N N) ((N 7) (3 * j))) 16 0)), .int (nI ((pl_N (b0_N N) ((N 7) (3 * j))) 17 0)), .int (nI ((pl_N (b0_N N) ((N 7) (3 * j))) 18 0)), .ref (b + 30), .int (nI (((pl_N (b0_N N) ((N 7) (3 * j))) 10) j)), .int (S 21 0), .int (S 22 0), .int (S 23 0), .int (S 24 0), .int (nI ((pl_N (b0_N N) ((N 7) (3 * j))) 25 0)), .int (nI ((pl_N (b0_N N) ((N 7) (3 * j))) 26 0))])) := by rw [hw9]; exact mm_us _ _ _
          refine lv_aload_n hx hb d_Mod_begin_63 rfl (lv_at hl 0 rfl) ?_
          refine lv_aload_n hx hb d_Mod_begin_64 rfl (lv_at hl 0 rfl) ?_
          refine mm_get (D := D) (C := n_Mod) (T := T_Mod) (N := 27) (v := .ref (b + 25)) hx hb hts lay_Mod hown hK.1 hP fa9 rfl 11 (by decide) (hts _ (List.mem_cons_of_mem _ wd_502)) (fun _ h9 => h9) rfl d_Mod_begin_65 ?_
          refine lv_iload_n hx hb d_Mod_begin_68 rfl (lv_at hl 1 rfl) ?_
          have f10 := (fr9 _ (by omega)).trans (m8_11)
          refine mm_iald hx hb hK.1 hP 0 f10 rfl j rfl (by omega) (by decide) d_Mod_begin_69 ?_
          refine mm_put (D := D) (C := n_Mod) (T := T_Mod) (N := 27) (v := .int ((S 11) j)) (ty := .int) hx hb hts lay_Mod t_Mod ty_Mod nm_Mod hown hK.1 hP hS fa9 rfl 21 (by decide) (hts _ (List.mem_cons_of_mem _ wd_512)) (fun _ h9 => h9) rfl (by decide +kernel) rfl rfl (Nat.le_of_ble_eq_true rfl) d_Mod_begin_70 (fun H locs hP hz1 hS => ?_)
          have hz : H.size = sz := hz1.trans hz
          obtain ⟨w11, hw11⟩ : ∃ z : mm_M, z = mm_up w9 (b + 14) (.inr (9, [.int (nI ((pl_N (b0_N N) ((N 7) (3 * j))) 0 0)), .ref (b + 15), .ref (b + 16), .ref (b + 17), .ref (b + 18), .ref (b + 19), .ref (b + 20), .ref (b + 21), .ref (b + 22), .ref (b + 23), .ref (b + 24), .ref (b + 25), .ref (b + 26), .ref (b + 27), .ref (b + 28), .ref (b + 29), .int (nI ((pl_N (b0_N N) ((N 7) (3 * j))) 16 0)), .int (nI ((pl_N (b0_N N) ((N 7) (3 * j))) 17 0)), .int (nI ((pl_N (b0_N N) ((N 7) (3 * j))) 18 0)), .ref (b + 30), .int (nI (((pl_N (b0_N N) ((N 7) (3 * j))) 10) j)), .int ((S 11) j), .int (S 22 0), .int (S 23 0), .int (S 24 0), .int (nI ((pl_N (b0_N N) ((N 7) (3 * j))) 25 0)), .int (nI ((pl_N (b0_N N) ((N 7) (3 * j))) 26 0))])) := ⟨_, rfl⟩
          have hP : mm_P B D kc w11 H := by rw [hw11]; exact hP
          have fr11 : ∀ j, j ≠ b + 14 → w11 j = w9 j := fun j h9 => by rw [hw11]; exact mm_un h9
          have fa11 : w11 (b + 14) = some (.inr (9, [.int (nI ((pl_N (b0_N N) ((N 7) (3 * j))) 0 0)), .ref (b + 15), .ref (b + 16), .ref (b + 17), .ref (b + 18), .ref (b + 19), .ref (b + 20), .ref (b + 21), .ref (b + 22), .ref (b + 23), .ref (b + 24), .ref (b + 25), .ref (b + 26), .ref (b + 27), .ref (b + 28), .ref (b + 29), .int (nI ((pl_N (b0_N N) ((N 7) (3 * j))) 16 0)), .int (nI ((pl_N (b0_N N) ((N 7) (3 * j))) 17 0)), .int (nI ((pl_N (b0_N N) ((N 7) (3 * j))) 18 0)), .ref (b + 30), .int (nI (((pl_N (b0_N N) ((N 7) (3 * j))) 10) j)), .int ((S 11) j), .int (S 22 0), .int (S 23 0), .int (S 24 0), .int (nI ((pl_N (b0_N N) ((N 7) (3 * j))) 25 0)), .int (nI ((pl_N (b0_N N) ((N 7) (3 * j))) 26 0))])) := by rw [hw11]; exact mm_us _ _ _
          refine lv_aload_n hx hb d_Mod_begin_73 rfl (lv_at hl 0 rfl) ?_
          refine lv_aload_n hx hb d_Mod_begin_74 rfl (lv_at hl 0 rfl) ?_
          refine mm_get (D := D) (C := n_Mod) (T := T_Mod) (N := 27) (v := .ref (b + 26)) hx hb hts lay_Mod hown hK.1 hP fa11 rfl 12 (by decide) (hts _ (List.mem_cons_of_mem _ wd_503)) (fun _ h9 => h9) rfl d_Mod_begin_75 ?_
          refine lv_iload_n hx hb d_Mod_begin_78 rfl (lv_at hl 1 rfl) ?_
          have f12 := (fr11 _ (by omega)).trans ((fr9 _ (by omega)).trans (m8_12))
          refine mm_iald hx hb hK.1 hP 0 f12 rfl j rfl (by omega) (by decide) d_Mod_begin_79 ?_
          refine mm_put (D := D) (C := n_Mod) (T := T_Mod) (N := 27) (v := .int ((S 12) j)) (ty := .int) hx hb hts lay_Mod t_Mod ty_Mod nm_Mod hown hK.1 hP hS fa11 rfl 22 (by decide) (hts _ (List.mem_cons_of_mem _ wd_513)) (fun _ h9 => h9) rfl (by decide +kernel) rfl rfl (Nat.le_of_ble_eq_true rfl) d_Mod_begin_80 (fun H locs hP hz1 hS => ?_)
          have hz : H.size = sz := hz1.trans hz
          obtain ⟨w13, hw13⟩ : ∃ z : mm_M, z = mm_up w11 (b + 14) (.inr (9, [.int (nI ((pl_N (b0_N N) ((N 7) (3 * j))) 0 0)), .ref (b + 15), .ref (b + 16), .ref (b + 17), .ref (b + 18), .ref (b + 19), .ref (b + 20), .ref (b + 21), .ref (b + 22), .ref (b + 23), .ref (b + 24), .ref (b + 25), .ref (b + 26), .ref (b + 27), .ref (b + 28), .ref (b + 29), .int (nI ((pl_N (b0_N N) ((N 7) (3 * j))) 16 0)), .int (nI ((pl_N (b0_N N) ((N 7) (3 * j))) 17 0)), .int (nI ((pl_N (b0_N N) ((N 7) (3 * j))) 18 0)), .ref (b + 30), .int (nI (((pl_N (b0_N N) ((N 7) (3 * j))) 10) j)), .int ((S 11) j), .int ((S 12) j), .int (S 23 0), .int (S 24 0), .int (nI ((pl_N (b0_N N) ((N 7) (3 * j))) 25 0)), .int (nI ((pl_N (b0_N N) ((N 7) (3 * j))) 26 0))])) := ⟨_, rfl⟩
          have hP : mm_P B D kc w13 H := by rw [hw13]; exact hP
          have fr13 : ∀ j, j ≠ b + 14 → w13 j = w11 j := fun j h9 => by rw [hw13]; exact mm_un h9
          have fa13 : w13 (b + 14) = some (.inr (9, [.int (nI ((pl_N (b0_N N) ((N 7) (3 * j))) 0 0)), .ref (b + 15), .ref (b + 16), .ref (b + 17), .ref (b + 18), .ref (b + 19), .ref (b + 20), .ref (b + 21), .ref (b + 22), .ref (b + 23), .ref (b + 24), .ref (b + 25), .ref (b + 26), .ref (b + 27), .ref (b + 28), .ref (b + 29), .int (nI ((pl_N (b0_N N) ((N 7) (3 * j))) 16 0)), .int (nI ((pl_N (b0_N N) ((N 7) (3 * j))) 17 0)), .int (nI ((pl_N (b0_N N) ((N 7) (3 * j))) 18 0)), .ref (b + 30), .int (nI (((pl_N (b0_N N) ((N 7) (3 * j))) 10) j)), .int ((S 11) j), .int ((S 12) j), .int (S 23 0), .int (S 24 0), .int (nI ((pl_N (b0_N N) ((N 7) (3 * j))) 25 0)), .int (nI ((pl_N (b0_N N) ((N 7) (3 * j))) 26 0))])) := by rw [hw13]; exact mm_us _ _ _
          refine lv_aload_n hx hb d_Mod_begin_83 rfl (lv_at hl 0 rfl) ?_
          refine lv_aload_n hx hb d_Mod_begin_84 rfl (lv_at hl 0 rfl) ?_
          refine mm_get (D := D) (C := n_Mod) (T := T_Mod) (N := 27) (v := .ref (b + 19)) hx hb hts lay_Mod hown hK.1 hP fa13 rfl 5 (by decide) (hts _ (List.mem_cons_of_mem _ wd_496)) (fun _ h9 => h9) rfl d_Mod_begin_85 ?_
          refine lv_iload_n hx hb d_Mod_begin_88 rfl (lv_at hl 1 rfl) ?_
          have f14 := (fr13 _ (by omega)).trans ((fr11 _ (by omega)).trans ((fr9 _ (by omega)).trans (m8_5)))
          refine mm_iald hx hb hK.1 hP 0 f14 rfl j rfl (by omega) (by decide) d_Mod_begin_89 ?_
          refine mm_put (D := D) (C := n_Mod) (T := T_Mod) (N := 27) (v := .int ((S 5) j)) (ty := .int) hx hb hts lay_Mod t_Mod ty_Mod nm_Mod hown hK.1 hP hS fa13 rfl 23 (by decide) (hts _ (List.mem_cons_of_mem _ wd_514)) (fun _ h9 => h9) rfl (by decide +kernel) rfl rfl (Nat.le_of_ble_eq_true rfl) d_Mod_begin_90 (fun H locs hP hz1 hS => ?_)
          have hz : H.size = sz := hz1.trans hz
          obtain ⟨w15, hw15⟩ : ∃ z : mm_M, z = mm_up w13 (b + 14) (.inr (9, [.int (nI ((pl_N (b0_N N) ((N 7) (3 * j))) 0 0)), .ref (b + 15), .ref (b + 16), .ref (b + 17), .ref (b + 18), .ref (b + 19), .ref (b + 20), .ref (b + 21), .ref (b + 22), .ref (b + 23), .ref (b + 24), .ref (b + 25), .ref (b + 26), .ref (b + 27), .ref (b + 28), .ref (b + 29), .int (nI ((pl_N (b0_N N) ((N 7) (3 * j))) 16 0)), .int (nI ((pl_N (b0_N N) ((N 7) (3 * j))) 17 0)), .int (nI ((pl_N (b0_N N) ((N 7) (3 * j))) 18 0)), .ref (b + 30), .int (nI (((pl_N (b0_N N) ((N 7) (3 * j))) 10) j)), .int ((S 11) j), .int ((S 12) j), .int ((S 5) j), .int (S 24 0), .int (nI ((pl_N (b0_N N) ((N 7) (3 * j))) 25 0)), .int (nI ((pl_N (b0_N N) ((N 7) (3 * j))) 26 0))])) := ⟨_, rfl⟩
          have hP : mm_P B D kc w15 H := by rw [hw15]; exact hP
          have fr15 : ∀ j, j ≠ b + 14 → w15 j = w13 j := fun j h9 => by rw [hw15]; exact mm_un h9
          have fa15 : w15 (b + 14) = some (.inr (9, [.int (nI ((pl_N (b0_N N) ((N 7) (3 * j))) 0 0)), .ref (b + 15), .ref (b + 16), .ref (b + 17), .ref (b + 18), .ref (b + 19), .ref (b + 20), .ref (b + 21), .ref (b + 22), .ref (b + 23), .ref (b + 24), .ref (b + 25), .ref (b + 26), .ref (b + 27), .ref (b + 28), .ref (b + 29), .int (nI ((pl_N (b0_N N) ((N 7) (3 * j))) 16 0)), .int (nI ((pl_N (b0_N N) ((N 7) (3 * j))) 17 0)), .int (nI ((pl_N (b0_N N) ((N 7) (3 * j))) 18 0)), .ref (b + 30), .int (nI (((pl_N (b0_N N) ((N 7) (3 * j))) 10) j)), .int ((S 11) j), .int ((S 12) j), .int ((S 5) j), .int (S 24 0), .int (nI ((pl_N (b0_N N) ((N 7) (3 * j))) 25 0)), .int (nI ((pl_N (b0_N N) ((N 7) (3 * j))) 26 0))])) := by rw [hw15]; exact mm_us _ _ _
          refine lv_aload_n hx hb d_Mod_begin_93 rfl (lv_at hl 0 rfl) ?_
          refine lv_aload_n hx hb d_Mod_begin_94 rfl (lv_at hl 0 rfl) ?_
          refine mm_get (D := D) (C := n_Mod) (T := T_Mod) (N := 27) (v := .ref (b + 20)) hx hb hts lay_Mod hown hK.1 hP fa15 rfl 6 (by decide) (hts _ (List.mem_cons_of_mem _ wd_497)) (fun _ h9 => h9) rfl d_Mod_begin_95 ?_
          refine lv_iload_n hx hb d_Mod_begin_98 rfl (lv_at hl 1 rfl) ?_
          have f16 := (fr15 _ (by omega)).trans ((fr13 _ (by omega)).trans ((fr11 _ (by omega)).trans ((fr9 _ (by omega)).trans (m8_6))))
          refine mm_iald hx hb hK.1 hP 0 f16 rfl j rfl (by omega) (by decide) d_Mod_begin_99 ?_
          refine mm_put (D := D) (C := n_Mod) (T := T_Mod) (N := 27) (v := .int ((S 6) j)) (ty := .int) hx hb hts lay_Mod t_Mod ty_Mod nm_Mod hown hK.1 hP hS fa15 rfl 24 (by decide) (hts _ (List.mem_cons_of_mem _ wd_515)) (fun _ h9 => h9) rfl (by decide +kernel) rfl rfl (Nat.le_of_ble_eq_true rfl) d_Mod_begin_100 (fun H locs hP hz1 hS => ?_)
          have hz : H.size = sz := hz1.trans hz
          obtain ⟨w17, hw17⟩ : ∃ z : mm_M, z = mm_up w15 (b + 14) (.inr (9, [.int (nI ((pl_N (b0_N N) ((N 7) (3 * j))) 0 0)), .ref (b + 15), .ref (b + 16), .ref (b + 17), .ref (b + 18), .ref (b + 19), .ref (b + 20), .ref (b + 21), .ref (b + 22), .ref (b + 23), .ref (b + 24), .ref (b + 25), .ref (b + 26), .ref (b + 27), .ref (b + 28), .ref (b + 29), .int (nI ((pl_N (b0_N N) ((N 7) (3 * j))) 16 0)), .int (nI ((pl_N (b0_N N) ((N 7) (3 * j))) 17 0)), .int (nI ((pl_N (b0_N N) ((N 7) (3 * j))) 18 0)), .ref (b + 30), .int (nI (((pl_N (b0_N N) ((N 7) (3 * j))) 10) j)), .int ((S 11) j), .int ((S 12) j), .int ((S 5) j), .int ((S 6) j), .int (nI ((pl_N (b0_N N) ((N 7) (3 * j))) 25 0)), .int (nI ((pl_N (b0_N N) ((N 7) (3 * j))) 26 0))])) := ⟨_, rfl⟩
          have hP : mm_P B D kc w17 H := by rw [hw17]; exact hP
          have fr17 : ∀ j, j ≠ b + 14 → w17 j = w15 j := fun j h9 => by rw [hw17]; exact mm_un h9
          have fa17 : w17 (b + 14) = some (.inr (9, [.int (nI ((pl_N (b0_N N) ((N 7) (3 * j))) 0 0)), .ref (b + 15), .ref (b + 16), .ref (b + 17), .ref (b + 18), .ref (b + 19), .ref (b + 20), .ref (b + 21), .ref (b + 22), .ref (b + 23), .ref (b + 24), .ref (b + 25), .ref (b + 26), .ref (b + 27), .ref (b + 28), .ref (b + 29), .int (nI ((pl_N (b0_N N) ((N 7) (3 * j))) 16 0)), .int (nI ((pl_N (b0_N N) ((N 7) (3 * j))) 17 0)), .int (nI ((pl_N (b0_N N) ((N 7) (3 * j))) 18 0)), .ref (b + 30), .int (nI (((pl_N (b0_N N) ((N 7) (3 * j))) 10) j)), .int ((S 11) j), .int ((S 12) j), .int ((S 5) j), .int ((S 6) j), .int (nI ((pl_N (b0_N N) ((N 7) (3 * j))) 25 0)), .int (nI ((pl_N (b0_N N) ((N 7) (3 * j))) 26 0))])) := by rw [hw17]; exact mm_us _ _ _
          refine lv_aload_n hx hb d_Mod_begin_103 rfl (lv_at hl 0 rfl) ?_
          refine lv_iconst (v := nI 1) hx hb d_Mod_begin_104 (by decide) ?_
          refine mm_put (D := D) (C := n_Mod) (T := T_Mod) (N := 27) (v := .int (nI 1)) (ty := .int) hx hb hts lay_Mod t_Mod ty_Mod nm_Mod hown hK.1 hP hS fa17 rfl 25 (by decide) (hts _ (List.mem_cons_of_mem _ wd_516)) (fun _ h9 => h9) rfl (by decide +kernel) rfl rfl (Nat.le_of_ble_eq_true rfl) d_Mod_begin_105 (fun H locs hP hz1 hS => ?_)
          have hz : H.size = sz := hz1.trans hz
          obtain ⟨w18, hw18⟩ : ∃ z : mm_M, z = mm_up w17 (b + 14) (.inr (9, [.int (nI ((pl_N (b0_N N) ((N 7) (3 * j))) 0 0)), .ref (b + 15), .ref (b + 16), .ref (b + 17), .ref (b + 18), .ref (b + 19), .ref (b + 20), .ref (b + 21), .ref (b + 22), .ref (b + 23), .ref (b + 24), .ref (b + 25), .ref (b + 26), .ref (b + 27), .ref (b + 28), .ref (b + 29), .int (nI ((pl_N (b0_N N) ((N 7) (3 * j))) 16 0)), .int (nI ((pl_N (b0_N N) ((N 7) (3 * j))) 17 0)), .int (nI ((pl_N (b0_N N) ((N 7) (3 * j))) 18 0)), .ref (b + 30), .int (nI (((pl_N (b0_N N) ((N 7) (3 * j))) 10) j)), .int ((S 11) j), .int ((S 12) j), .int ((S 5) j), .int ((S 6) j), .int (nI 1), .int (nI ((pl_N (b0_N N) ((N 7) (3 * j))) 26 0))])) := ⟨_, rfl⟩
          have hP : mm_P B D kc w18 H := by rw [hw18]; exact hP
          have fr18 : ∀ j, j ≠ b + 14 → w18 j = w17 j := fun j h9 => by rw [hw18]; exact mm_un h9
          have fa18 : w18 (b + 14) = some (.inr (9, [.int (nI ((pl_N (b0_N N) ((N 7) (3 * j))) 0 0)), .ref (b + 15), .ref (b + 16), .ref (b + 17), .ref (b + 18), .ref (b + 19), .ref (b + 20), .ref (b + 21), .ref (b + 22), .ref (b + 23), .ref (b + 24), .ref (b + 25), .ref (b + 26), .ref (b + 27), .ref (b + 28), .ref (b + 29), .int (nI ((pl_N (b0_N N) ((N 7) (3 * j))) 16 0)), .int (nI ((pl_N (b0_N N) ((N 7) (3 * j))) 17 0)), .int (nI ((pl_N (b0_N N) ((N 7) (3 * j))) 18 0)), .ref (b + 30), .int (nI (((pl_N (b0_N N) ((N 7) (3 * j))) 10) j)), .int ((S 11) j), .int ((S 12) j), .int ((S 5) j), .int ((S 6) j), .int (nI 1), .int (nI ((pl_N (b0_N N) ((N 7) (3 * j))) 26 0))])) := by rw [hw18]; exact mm_us _ _ _
          refine lv_aload_n hx hb d_Mod_begin_108 rfl (lv_at hl 0 rfl) ?_
          refine lv_aload_n hx hb d_Mod_begin_109 rfl (lv_at hl 0 rfl) ?_
          refine mm_get (D := D) (C := n_Mod) (T := T_Mod) (N := 27) (v := .ref (b + 27)) hx hb hts lay_Mod hown hK.1 hP fa18 rfl 13 (by decide) (hts _ (List.mem_cons_of_mem _ wd_504)) (fun _ h9 => h9) rfl d_Mod_begin_110 ?_
          refine lv_iload_n hx hb d_Mod_begin_113 rfl (lv_at hl 1 rfl) ?_
          have f19 := (fr18 _ (by omega)).trans ((fr17 _ (by omega)).trans ((fr15 _ (by omega)).trans ((fr13 _ (by omega)).trans ((fr11 _ (by omega)).trans ((fr9 _ (by omega)).trans (m8_13))))))
          refine mm_zald hx hb hK.1 hP 1 f19 rfl j rfl (by omega) (by decide) d_Mod_begin_114 ?_
          refine W.eq (g2 := F0 m 115 ls [.int (nI (((pl_N (b0_N N) ((N 7) (3 * j))) 13) j)), .ref (b + 14)]) rfl ?_
          refine mm_put (D := D) (C := n_Mod) (T := T_Mod) (N := 27) (v := .int (nI (((pl_N (b0_N N) ((N 7) (3 * j))) 13) j))) (ty := .boolean) hx hb hts lay_Mod t_Mod ty_Mod nm_Mod hown hK.1 hP hS fa18 rfl 26 (by decide) (hts _ (List.mem_cons_of_mem _ wd_517)) (fun _ h9 => h9) rfl (by decide +kernel) (kk_nar1 hg13) (kk_fit1 hg13) (Nat.le_of_ble_eq_true rfl) d_Mod_begin_115 (fun H locs hP hz1 hS => ?_)
          have hz : H.size = sz := hz1.trans hz
          obtain ⟨w20, hw20⟩ : ∃ z : mm_M, z = mm_up w18 (b + 14) (.inr (9, [.int (nI ((pl_N (b0_N N) ((N 7) (3 * j))) 0 0)), .ref (b + 15), .ref (b + 16), .ref (b + 17), .ref (b + 18), .ref (b + 19), .ref (b + 20), .ref (b + 21), .ref (b + 22), .ref (b + 23), .ref (b + 24), .ref (b + 25), .ref (b + 26), .ref (b + 27), .ref (b + 28), .ref (b + 29), .int (nI ((pl_N (b0_N N) ((N 7) (3 * j))) 16 0)), .int (nI ((pl_N (b0_N N) ((N 7) (3 * j))) 17 0)), .int (nI ((pl_N (b0_N N) ((N 7) (3 * j))) 18 0)), .ref (b + 30), .int (nI (((pl_N (b0_N N) ((N 7) (3 * j))) 10) j)), .int ((S 11) j), .int ((S 12) j), .int ((S 5) j), .int ((S 6) j), .int (nI 1), .int (nI (((pl_N (b0_N N) ((N 7) (3 * j))) 13) j))])) := ⟨_, rfl⟩
          have hP : mm_P B D kc w20 H := by rw [hw20]; exact hP
          have fr20 : ∀ j, j ≠ b + 14 → w20 j = w18 j := fun j h9 => by rw [hw20]; exact mm_un h9
          have fa20 : w20 (b + 14) = some (.inr (9, [.int (nI ((pl_N (b0_N N) ((N 7) (3 * j))) 0 0)), .ref (b + 15), .ref (b + 16), .ref (b + 17), .ref (b + 18), .ref (b + 19), .ref (b + 20), .ref (b + 21), .ref (b + 22), .ref (b + 23), .ref (b + 24), .ref (b + 25), .ref (b + 26), .ref (b + 27), .ref (b + 28), .ref (b + 29), .int (nI ((pl_N (b0_N N) ((N 7) (3 * j))) 16 0)), .int (nI ((pl_N (b0_N N) ((N 7) (3 * j))) 17 0)), .int (nI ((pl_N (b0_N N) ((N 7) (3 * j))) 18 0)), .ref (b + 30), .int (nI (((pl_N (b0_N N) ((N 7) (3 * j))) 10) j)), .int ((S 11) j), .int ((S 12) j), .int ((S 5) j), .int ((S 6) j), .int (nI 1), .int (nI (((pl_N (b0_N N) ((N 7) (3 * j))) 13) j))])) := by rw [hw20]; exact mm_us _ _ _
          refine lv_iconst (v := nI 1) hx hb d_Mod_begin_118 (by decide) ?_
          exact W.zret hx hb hr rfl (fun t ht hW => ⟨⟨_, (w20, sz), rfl, ⟨kk_ift hok, (by rw [be_N_pos (by omega) hok, be_S_pos (by omega) hok]; exact mo_mk fa20 ((fr20 _ (by omega)).trans ((fr18 _ (by omega)).trans ((fr17 _ (by omega)).trans ((fr15 _ (by omega)).trans ((fr13 _ (by omega)).trans ((fr11 _ (by omega)).trans ((fr9 _ (by omega)).trans (m8_1)))))))) ((fr20 _ (by omega)).trans ((fr18 _ (by omega)).trans ((fr17 _ (by omega)).trans ((fr15 _ (by omega)).trans ((fr13 _ (by omega)).trans ((fr11 _ (by omega)).trans ((fr9 _ (by omega)).trans (m8_2)))))))) ((fr20 _ (by omega)).trans ((fr18 _ (by omega)).trans ((fr17 _ (by omega)).trans ((fr15 _ (by omega)).trans ((fr13 _ (by omega)).trans ((fr11 _ (by omega)).trans ((fr9 _ (by omega)).trans (m8_3)))))))) ((fr20 _ (by omega)).trans ((fr18 _ (by omega)).trans ((fr17 _ (by omega)).trans ((fr15 _ (by omega)).trans ((fr13 _ (by omega)).trans ((fr11 _ (by omega)).trans ((fr9 _ (by omega)).trans (m8_4)))))))) ((fr20 _ (by omega)).trans ((fr18 _ (by omega)).trans ((fr17 _ (by omega)).trans ((fr15 _ (by omega)).trans (f14))))) ((fr20 _ (by omega)).trans ((fr18 _ (by omega)).trans ((fr17 _ (by omega)).trans (f16)))) ((fr20 _ (by omega)).trans ((fr18 _ (by omega)).trans ((fr17 _ (by omega)).trans ((fr15 _ (by omega)).trans ((fr13 _ (by omega)).trans ((fr11 _ (by omega)).trans ((fr9 _ (by omega)).trans (m8_7)))))))) ((fr20 _ (by omega)).trans ((fr18 _ (by omega)).trans ((fr17 _ (by omega)).trans ((fr15 _ (by omega)).trans ((fr13 _ (by omega)).trans ((fr11 _ (by omega)).trans ((fr9 _ (by omega)).trans (m8_8)))))))) ((fr20 _ (by omega)).trans ((fr18 _ (by omega)).trans ((fr17 _ (by omega)).trans ((fr15 _ (by omega)).trans ((fr13 _ (by omega)).trans ((fr11 _ (by omega)).trans ((fr9 _ (by omega)).trans (m8_9)))))))) ((fr20 _ (by omega)).trans ((fr18 _ (by omega)).trans ((fr17 _ (by omega)).trans ((fr15 _ (by omega)).trans ((fr13 _ (by omega)).trans ((fr11 _ (by omega)).trans ((fr9 _ (by omega)).trans (m8_10)))))))) ((fr20 _ (by omega)).trans ((fr18 _ (by omega)).trans ((fr17 _ (by omega)).trans ((fr15 _ (by omega)).trans ((fr13 _ (by omega)).trans ((fr11 _ (by omega)).trans (f10))))))) ((fr20 _ (by omega)).trans ((fr18 _ (by omega)).trans ((fr17 _ (by omega)).trans ((fr15 _ (by omega)).trans ((fr13 _ (by omega)).trans (f12)))))) ((fr20 _ (by omega)).trans (f19)) ((fr20 _ (by omega)).trans ((fr18 _ (by omega)).trans ((fr17 _ (by omega)).trans ((fr15 _ (by omega)).trans ((fr13 _ (by omega)).trans ((fr11 _ (by omega)).trans ((fr9 _ (by omega)).trans (m8_14)))))))) ((fr20 _ (by omega)).trans ((fr18 _ (by omega)).trans ((fr17 _ (by omega)).trans ((fr15 _ (by omega)).trans ((fr13 _ (by omega)).trans ((fr11 _ (by omega)).trans ((fr9 _ (by omega)).trans (m8_15)))))))) ((fr20 _ (by omega)).trans ((fr18 _ (by omega)).trans ((fr17 _ (by omega)).trans ((fr15 _ (by omega)).trans ((fr13 _ (by omega)).trans ((fr11 _ (by omega)).trans ((fr9 _ (by omega)).trans (m8_16))))))))), (fun j hj => (fr20 j (by omega)).trans ((fr18 j (by omega)).trans ((fr17 j (by omega)).trans ((fr15 j (by omega)).trans ((fr13 j (by omega)).trans ((fr11 j (by omega)).trans ((fr9 j (by omega)).trans ((hf8 j hj).trans ((fr6 j (by omega)).trans (fr5 j (by omega))))))))))), rfl⟩, by rw [ht]; exact hP, by rw [ht]; exact hz⟩, hS.F ht⟩) hS.2.2 d_Mod_begin_119
        · have cc4 : ¬ ((N 8) j = 1) := fun q => cc4 ((nI_eq (by omega) (by omega)).mpr q)
          exact absurd hok.2.2 (by rw [nI_clamp (by omega)]; exact cc4)
  · refine lv_aload_n hx hb d_Mod_begin_0 rfl (lv_at hl 0 rfl) ?_
    refine lv_iload_n hx hb d_Mod_begin_1 rfl (lv_at hl 1 rfl) ?_
    refine vp_callSi (va_Run.run (va_runV (As := [.int nr]) (rest := []) ⟨hx, hb, hml, hown, hts⟩ (c_Mod_isPermission l (b := b) (N := N) (S := S) hM (by omega) hR) (cwV 1 hts (gW_in (hd := [_, _, _, _, _]) (kk_5 wd_597 wd_599 sl_Mod_isPermission wd_8 cw_Mod_isPermission)) rfl rfl rfl ⟨rfl, ds_Mod_isPermission⟩ ⟨Nat.le_of_ble_eq_true rfl, Nat.le_of_ble_eq_true rfl⟩) (kk_preV hK hP hz hBz m0 rfl) rfl rfl hl.1 rfl (lv_room (Nat.le_of_ble_eq_true rfl)) d_Mod_begin_2 ⟨Nat.le_of_ble_eq_true rfl, Nat.le_of_ble_eq_true rfl⟩)) (fun r21 hr21 => ?_)
    subst hr21
    refine lv_if_eq (tgt := 29) hx hb d_Mod_begin_5 (by decide) (fun cc22 => ?_) (fun cc22 => ?_)
    · have cc22 := kk_b0 cc22
      refine lv_iconst (v := nI 0) hx hb d_Mod_begin_29 (by decide) ?_
      exact W.zret hx hb hr rfl (fun t ht hW => ⟨⟨_, (w, sz), rfl, ⟨kk_iff hok, (by rw [show be_N N _ = N from if_neg hok, show be_S N S _ = S from if_neg hok]; exact mo_mk m0 m1 m2 m3 m4 m5 m6 m7 m8 m9 m10 m11 m12 m13 m14 m15 m16), (fun j hj => rfl), rfl⟩, by rw [ht]; exact hP, by rw [ht]; exact hz⟩, hS.F ht⟩) hS.2.2 d_Mod_begin_30
    · have cc22 := kk_b1 cc22
      obtain ⟨j, hj, rfl⟩ := re_in hn cc22.1.1
      have hRj := hR j hj
      have hg13 : N 13 j ≤ 1 := by omega
      have hs0 : wf_subn (N 7 (3 * j)) := hRj.2.2.2.2.2.1 0 (by omega)
      have hA2 := ch_a_le (N 7 (3 * j))
      refine lv_aload_n hx hb d_Mod_begin_8 rfl (lv_at hl 0 rfl) ?_
      refine mm_get (D := D) (C := n_Mod) (T := T_Mod) (N := 27) (v := .ref (b + 17)) hx hb hts lay_Mod hown hK.1 hP m0 rfl 3 (by decide) (hts _ (List.mem_cons_of_mem _ wd_494)) (fun _ h9 => h9) rfl d_Mod_begin_9 ?_
      refine lv_iload_n hx hb d_Mod_begin_12 rfl (lv_at hl 1 rfl) ?_
      refine mm_iald hx hb hK.1 hP 0 m3 rfl j rfl (by omega) (by decide) d_Mod_begin_13 ?_
      refine W.eq (g2 := F0 m 14 ls [.int (nI ((N 3) j))]) rfl ?_
      refine lv_bipush (v := nI 8) hx hb d_Mod_begin_14 (by decide) ?_
      refine lv_icmp_ne (tgt := 29) hx hb d_Mod_begin_16 (by decide) (fun cc23 => ?_) (fun cc23 => ?_)
      · have cc23 : ¬ ((N 3) j = 8) := fun q => cc23 ((nI_eq (by omega) (by omega)).mpr q)
        refine lv_iconst (v := nI 0) hx hb d_Mod_begin_29 (by decide) ?_
        exact W.zret hx hb hr rfl (fun t ht hW => ⟨⟨_, (w, sz), rfl, ⟨kk_iff hok, (by rw [show be_N N _ = N from if_neg hok, show be_S N S _ = S from if_neg hok]; exact mo_mk m0 m1 m2 m3 m4 m5 m6 m7 m8 m9 m10 m11 m12 m13 m14 m15 m16), (fun j hj => rfl), rfl⟩, by rw [ht]; exact hP, by rw [ht]; exact hz⟩, hS.F ht⟩) hS.2.2 d_Mod_begin_30
      · have cc23 : (N 3) j = 8 := (nI_eq (by omega) (by omega)).mp cc23
        refine lv_aload_n hx hb d_Mod_begin_19 rfl (lv_at hl 0 rfl) ?_
        refine mm_get (D := D) (C := n_Mod) (T := T_Mod) (N := 27) (v := .ref (b + 22)) hx hb hts lay_Mod hown hK.1 hP m0 rfl 8 (by decide) (hts _ (List.mem_cons_of_mem _ wd_499)) (fun _ h9 => h9) rfl d_Mod_begin_20 ?_
        refine lv_iload_n hx hb d_Mod_begin_23 rfl (lv_at hl 1 rfl) ?_
        refine mm_iald hx hb hK.1 hP 0 m8 rfl j rfl (by omega) (by decide) d_Mod_begin_24 ?_
        refine W.eq (g2 := F0 m 25 ls [.int (nI ((N 8) j))]) rfl ?_
        refine lv_iconst (v := nI 1) hx hb d_Mod_begin_25 (by decide) ?_
        refine lv_icmp_eq (tgt := 31) hx hb d_Mod_begin_26 (by decide) (fun cc24 => ?_) (fun cc24 => ?_)
        · have cc24 : (N 8) j = 1 := (nI_eq (by omega) (by omega)).mp cc24
          exact absurd ⟨cc22, by rw [nI_clamp (by omega)]; exact cc23, by rw [nI_clamp (by omega)]; exact cc24⟩ hok
        · have cc24 : ¬ ((N 8) j = 1) := fun q => cc24 ((nI_eq (by omega) (by omega)).mpr q)
          refine lv_iconst (v := nI 0) hx hb d_Mod_begin_29 (by decide) ?_
          exact W.zret hx hb hr rfl (fun t ht hW => ⟨⟨_, (w, sz), rfl, ⟨kk_iff hok, (by rw [show be_N N _ = N from if_neg hok, show be_S N S _ = S from if_neg hok]; exact mo_mk m0 m1 m2 m3 m4 m5 m6 m7 m8 m9 m10 m11 m12 m13 m14 m15 m16), (fun j hj => rfl), rfl⟩, by rw [ht]; exact hP, by rw [ht]; exact hz⟩, hS.F ht⟩) hS.2.2 d_Mod_begin_30
