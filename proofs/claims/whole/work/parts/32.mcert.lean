theorem d_Mod_isPermission_0 : decode k_Mod_isPermission 0 = .ok (.aload_n 0, 1) := by decide +kernel
theorem d_Mod_isPermission_1 : decode k_Mod_isPermission 1 = .ok (.iload_n 1, 1) := by decide +kernel
theorem d_Mod_isPermission_2 : decode k_Mod_isPermission 2 = .ok (.invokevirtual 77, 3) := by decide +kernel
theorem d_Mod_isPermission_5 : decode k_Mod_isPermission 5 = .ok (.ifCond .eq 16, 3) := by decide +kernel
theorem d_Mod_isPermission_8 : decode k_Mod_isPermission 8 = .ok (.aload_n 0, 1) := by decide +kernel
theorem d_Mod_isPermission_9 : decode k_Mod_isPermission 9 = .ok (.getfield 13, 3) := by decide +kernel
theorem d_Mod_isPermission_12 : decode k_Mod_isPermission 12 = .ok (.iload_n 1, 1) := by decide +kernel
theorem d_Mod_isPermission_13 : decode k_Mod_isPermission 13 = .ok (.baload, 1) := by decide +kernel
theorem d_Mod_isPermission_14 : decode k_Mod_isPermission 14 = .ok (.ifCond .ne 7, 3) := by decide +kernel
theorem d_Mod_isPermission_17 : decode k_Mod_isPermission 17 = .ok (.iconst 1, 1) := by decide +kernel
theorem d_Mod_isPermission_18 : decode k_Mod_isPermission 18 = .ok (.goto 4, 3) := by decide +kernel
theorem d_Mod_isPermission_21 : decode k_Mod_isPermission 21 = .ok (.iconst 0, 1) := by decide +kernel
theorem d_Mod_isPermission_22 : decode k_Mod_isPermission 22 = .ok (.ireturn, 1) := by decide +kernel
set_option maxHeartbeats 4000000 in
set_option maxRecDepth 100000 in
theorem c_Mod_isPermission (l : Launch) {B : Nat} {D : va_G} {cI cZ cQ : ClassId} {w : mm_M} {sz : Nat} {b : Nat} {N : Nat → Nat → Nat} {S : Nat → Nat → Int32} {nr : Int32} (hM : mo_I b cI cZ N S w) (hn : N 0 0 ≤ 24) (hR : rg_I N) : Met l y_Mod_isPermission ws_Mod_isPermission (kk_rm 1 0 0) (kk_Pc B D cI cZ cQ [.ref (b + 14), .int nr] w sz) (vp_Si (fun r => r = nI (if re_tp N nr then 1 else 0))) 0 0 (fun _ => False) := by
  refine Met.ofW (cc := k_Mod_isPermission) (maxL := 2) (ret := (some .boolean)) (by decide) rfl ?_
  intro p e s m args below meth c s₁ BB hml hv
  obtain ⟨rfl, hK, hP, hz, hBz⟩ := hv
  have hx := BB.exec
  have hb := BB.bytes
  have hr := BB.returns
  have hts := atoms_spec (ws := ws_Mod_isPermission) BB.pre
  have hown : s.vm.findClass "DelegationClosureModel" = some m.cls := findClass_of_methodNamed BB.named
  have hlocks := BB.notSynchronized
  have hS : mm_S B s.heap s.heap [] := va_S.rf
  have hl := lv_entry ([.ref (b + 14), .int nr]) (n := 2) (Nat.le_of_ble_eq_true rfl)
  rw [lg_entry_eq]
  generalize (lg_sl ([.ref (b + 14), .int nr]) ++ List.replicate (2 - (lg_sl ([.ref (b + 14), .int nr])).length) Slot.unset).toArray = ls at hl ⊢
  have hl : lv_has ls 2 [(0, .ref (b + 14)), (1, .int nr)] := hl
  have m0 : w (b + 14) = some (.inr (9, [.int (nI (N 0 0)), .ref (b + 15), .ref (b + 16), .ref (b + 17), .ref (b + 18), .ref (b + 19), .ref (b + 20), .ref (b + 21), .ref (b + 22), .ref (b + 23), .ref (b + 24), .ref (b + 25), .ref (b + 26), .ref (b + 27), .ref (b + 28), .ref (b + 29), .int (nI (N 16 0)), .int (nI (N 17 0)), .int (nI (N 18 0)), .ref (b + 30), .int (nI (N 20 0)), .int (S 21 0), .int (S 22 0), .int (S 23 0), .int (S 24 0), .int (nI (N 25 0)), .int (nI (N 26 0))])) := hM.1
  have m1 : w (b + 15) = some (.inl (cZ, 24, .inl (fun i => nI ((N 1) i)))) := hM.2 1 (by decide) (by decide)
  have m2 : w (b + 16) = some (.inl (cZ, 24, .inl (fun i => nI ((N 2) i)))) := hM.2 2 (by decide) (by decide)
  have m3 : w (b + 17) = some (.inl (cI, 24, .inl (fun i => nI ((N 3) i)))) := hM.2 3 (by decide) (by decide)
  have m4 : w (b + 18) = some (.inl (cI, 24, .inl (fun i => nI ((N 4) i)))) := hM.2 4 (by decide) (by decide)
  have m5 : w (b + 19) = some (.inl (cI, 24, .inl (S 5))) := hM.2 5 (by decide) (by decide)
  have m6 : w (b + 20) = some (.inl (cI, 24, .inl (S 6))) := hM.2 6 (by decide) (by decide)
  have m7 : w (b + 21) = some (.inl (cI, 72, .inl (fun i => nI ((N 7) i)))) := hM.2 7 (by decide) (by decide)
  have m8 : w (b + 22) = some (.inl (cI, 24, .inl (fun i => nI ((N 8) i)))) := hM.2 8 (by decide) (by decide)
  have m9 : w (b + 23) = some (.inl (cI, 24, .inl (fun i => nI ((N 9) i)))) := hM.2 9 (by decide) (by decide)
  have m10 : w (b + 24) = some (.inl (cI, 24, .inl (fun i => nI ((N 10) i)))) := hM.2 10 (by decide) (by decide)
  have m11 : w (b + 25) = some (.inl (cI, 24, .inl (S 11))) := hM.2 11 (by decide) (by decide)
  have m12 : w (b + 26) = some (.inl (cI, 24, .inl (S 12))) := hM.2 12 (by decide) (by decide)
  have m13 : w (b + 27) = some (.inl (cZ, 24, .inl (fun i => nI ((N 13) i)))) := hM.2 13 (by decide) (by decide)
  have m14 : w (b + 28) = some (.inl (cI, 256, .inl (fun i => nI ((N 14) i)))) := hM.2 14 (by decide) (by decide)
  have m15 : w (b + 29) = some (.inl (cI, 24, .inl (fun i => nI ((N 15) i)))) := hM.2 15 (by decide) (by decide)
  have m16 : w (b + 30) = some (.inl (cI, 5, .inl (fun i => nI ((N 19) i)))) := hM.2 16 (by decide) (by decide)
  refine lv_aload_n hx hb d_Mod_isPermission_0 rfl (lv_at hl 0 rfl) ?_
  refine lv_iload_n hx hb d_Mod_isPermission_1 rfl (lv_at hl 1 rfl) ?_
  refine vp_callSi (va_Run.run (va_runV (As := [.int nr]) (rest := []) ⟨hx, hb, hml, hown, hts⟩ (c_Mod_isThere l (b := b) (N := N) (S := S) hM (by omega) hR) (cwV 1 hts (gW_in (hd := [_, _, _, _, _]) (kk_5 wd_601 wd_603 sl_Mod_isThere wd_8 cw_Mod_isThere)) rfl rfl rfl ⟨rfl, ds_Mod_isThere⟩ ⟨Nat.le_of_ble_eq_true rfl, Nat.le_of_ble_eq_true rfl⟩) (kk_preV hK hP hz hBz m0 rfl) rfl rfl hl.1 rfl (lv_room (Nat.le_of_ble_eq_true rfl)) d_Mod_isPermission_2 ⟨Nat.le_of_ble_eq_true rfl, Nat.le_of_ble_eq_true rfl⟩)) (fun r1 hr1 => ?_)
  subst hr1
  refine lv_if_eq (tgt := 21) hx hb d_Mod_isPermission_5 (by decide) (fun cc2 => ?_) (fun cc2 => ?_)
  · have cc2 := kk_b0 cc2
    refine lv_iconst (v := nI 0) hx hb d_Mod_isPermission_21 (by decide) ?_
    exact W.zret hx hb hr rfl (fun t ht hW => ⟨_, rfl, kk_iff (fun q => cc2 q.1), ht⟩) (fun q hq => by cases hq) d_Mod_isPermission_22
  · have cc2 := kk_b1 cc2
    obtain ⟨j, hj, rfl⟩ := re_in hn cc2.1
    have hRj := hR j hj
    refine lv_aload_n hx hb d_Mod_isPermission_8 rfl (lv_at hl 0 rfl) ?_
    refine mm_get (D := D) (C := n_Mod) (T := T_Mod) (N := 27) (v := .ref (b + 16)) hx hb hts lay_Mod hown hK.1 hP m0 rfl 2 (by decide) (hts _ (List.mem_cons_of_mem _ wd_493)) (fun _ h9 => h9) rfl d_Mod_isPermission_9 ?_
    refine lv_iload_n hx hb d_Mod_isPermission_12 rfl (lv_at hl 1 rfl) ?_
    refine mm_zald hx hb hK.1 hP 1 m2 rfl j rfl (by omega) (by decide) d_Mod_isPermission_13 ?_
    refine W.eq (g2 := F0 m 14 ls [.int (nI ((N 2) j))]) rfl ?_
    refine lv_if_ne (tgt := 21) hx hb d_Mod_isPermission_14 (by decide) (fun cc3 => ?_) (fun cc3 => ?_)
    · rw [← nI_0] at cc3
      have cc3 : ¬ ((N 2) j = 0) := fun q => cc3 ((nI_eq (by omega) (by omega)).mpr q)
      refine lv_iconst (v := nI 0) hx hb d_Mod_isPermission_21 (by decide) ?_
      exact W.zret hx hb hr rfl (fun t ht hW => ⟨_, rfl, kk_iff (fun q => cc3 ((re_tp_in hj hn).mp q).2), ht⟩) (fun q hq => by cases hq) d_Mod_isPermission_22
    · rw [← nI_0] at cc3
      have cc3 : (N 2) j = 0 := (nI_eq (by omega) (by omega)).mp cc3
      refine lv_iconst (v := nI 1) hx hb d_Mod_isPermission_17 (by decide) ?_
      refine lv_goto (tgt := 22) hx hb d_Mod_isPermission_18 (by decide) ?_
      exact W.zret hx hb hr rfl (fun t ht hW => ⟨_, rfl, kk_ift ((re_tp_in hj hn).mpr ⟨(re_th_in hj hn).mp cc2, cc3⟩), ht⟩) (fun q hq => by cases hq) d_Mod_isPermission_22
theorem d_Mod_tag_0 : decode k_Mod_tag 0 = .ok (.aload_n 0, 1) := by decide +kernel
theorem d_Mod_tag_1 : decode k_Mod_tag 1 = .ok (.iload_n 1, 1) := by decide +kernel
theorem d_Mod_tag_2 : decode k_Mod_tag 2 = .ok (.invokevirtual 80, 3) := by decide +kernel
theorem d_Mod_tag_5 : decode k_Mod_tag 5 = .ok (.ifCond .eq 20, 3) := by decide +kernel
theorem d_Mod_tag_8 : decode k_Mod_tag 8 = .ok (.iload_n 2, 1) := by decide +kernel
theorem d_Mod_tag_9 : decode k_Mod_tag 9 = .ok (.ifCond .lt 16, 3) := by decide +kernel
theorem d_Mod_tag_12 : decode k_Mod_tag 12 = .ok (.iload_n 2, 1) := by decide +kernel
theorem d_Mod_tag_13 : decode k_Mod_tag 13 = .ok (.sipush 255, 3) := by decide +kernel
theorem d_Mod_tag_16 : decode k_Mod_tag 16 = .ok (.if_icmp .gt 9, 3) := by decide +kernel
theorem d_Mod_tag_19 : decode k_Mod_tag 19 = .ok (.iload_n 3, 1) := by decide +kernel
theorem d_Mod_tag_20 : decode k_Mod_tag 20 = .ok (.iload 4, 2) := by decide +kernel
theorem d_Mod_tag_22 : decode k_Mod_tag 22 = .ok (.if_icmp .le 5, 3) := by decide +kernel
theorem d_Mod_tag_25 : decode k_Mod_tag 25 = .ok (.iconst 0, 1) := by decide +kernel
theorem d_Mod_tag_26 : decode k_Mod_tag 26 = .ok (.ireturn, 1) := by decide +kernel
theorem d_Mod_tag_27 : decode k_Mod_tag 27 = .ok (.aload_n 0, 1) := by decide +kernel
theorem d_Mod_tag_28 : decode k_Mod_tag 28 = .ok (.getfield 38, 3) := by decide +kernel
theorem d_Mod_tag_31 : decode k_Mod_tag 31 = .ok (.iload_n 1, 1) := by decide +kernel
theorem d_Mod_tag_32 : decode k_Mod_tag 32 = .ok (.iload_n 2, 1) := by decide +kernel
theorem d_Mod_tag_33 : decode k_Mod_tag 33 = .ok (.iastore, 1) := by decide +kernel
theorem d_Mod_tag_34 : decode k_Mod_tag 34 = .ok (.aload_n 0, 1) := by decide +kernel
theorem d_Mod_tag_35 : decode k_Mod_tag 35 = .ok (.getfield 41, 3) := by decide +kernel
theorem d_Mod_tag_38 : decode k_Mod_tag 38 = .ok (.iload_n 1, 1) := by decide +kernel
theorem d_Mod_tag_39 : decode k_Mod_tag 39 = .ok (.iload_n 3, 1) := by decide +kernel
theorem d_Mod_tag_40 : decode k_Mod_tag 40 = .ok (.iastore, 1) := by decide +kernel
theorem d_Mod_tag_41 : decode k_Mod_tag 41 = .ok (.aload_n 0, 1) := by decide +kernel
theorem d_Mod_tag_42 : decode k_Mod_tag 42 = .ok (.getfield 44, 3) := by decide +kernel
theorem d_Mod_tag_45 : decode k_Mod_tag 45 = .ok (.iload_n 1, 1) := by decide +kernel
theorem d_Mod_tag_46 : decode k_Mod_tag 46 = .ok (.iload 4, 2) := by decide +kernel
theorem d_Mod_tag_48 : decode k_Mod_tag 48 = .ok (.iastore, 1) := by decide +kernel
theorem d_Mod_tag_49 : decode k_Mod_tag 49 = .ok (.iconst 1, 1) := by decide +kernel
theorem d_Mod_tag_50 : decode k_Mod_tag 50 = .ok (.ireturn, 1) := by decide +kernel
set_option maxHeartbeats 4000000 in
set_option maxRecDepth 100000 in
theorem c_Mod_tag (l : Launch) {B : Nat} {D : va_G} {cI cZ cQ : ClassId} {w : mm_M} {sz : Nat} {b : Nat} {N : Nat → Nat → Nat} {S : Nat → Nat → Int32} {nr oo lo hi : Int32} (hM : mo_I b cI cZ N S w) (hn : N 0 0 ≤ 24) (hR : rg_I N) : Met l y_Mod_tag ws_Mod_tag (kk_rm 2 0 0) (kk_Pc B D cI cZ cQ [.ref (b + 14), .int nr, .int oo, .int lo, .int hi] w sz) (kk_Qi B D (fun r w' sz' => r = nI (if tg_ok N nr oo lo hi then 1 else 0) ∧ mo_I b cI cZ (tg_N N nr oo lo hi) (tg_S N S nr oo lo hi) w' ∧ (∀ j, ¬ (b + 14 ≤ j ∧ j < b + 31) → w' j = w j) ∧ sz' = sz)) 0 0 (fun q => B ≤ q) := by
  refine Met.ofW (cc := k_Mod_tag) (maxL := 5) (ret := (some .boolean)) (by decide) rfl ?_
  intro p e s m args below meth c s₁ BB hml hv
  obtain ⟨rfl, hK, hP, hz, hBz⟩ := hv
  have hx := BB.exec
  have hb := BB.bytes
  have hr := BB.returns
  have hts := atoms_spec (ws := ws_Mod_tag) BB.pre
  have hown : s.vm.findClass "DelegationClosureModel" = some m.cls := findClass_of_methodNamed BB.named
  have hlocks := BB.notSynchronized
  have hS : mm_S B s.heap s.heap [] := va_S.rf
  have hl := lv_entry ([.ref (b + 14), .int nr, .int oo, .int lo, .int hi]) (n := 5) (Nat.le_of_ble_eq_true rfl)
  rw [lg_entry_eq]
  generalize (lg_sl ([.ref (b + 14), .int nr, .int oo, .int lo, .int hi]) ++ List.replicate (5 - (lg_sl ([.ref (b + 14), .int nr, .int oo, .int lo, .int hi])).length) Slot.unset).toArray = ls at hl ⊢
  have hl : lv_has ls 5 [(0, .ref (b + 14)), (1, .int nr), (2, .int oo), (3, .int lo), (4, .int hi)] := hl
  have m0 : w (b + 14) = some (.inr (9, [.int (nI (N 0 0)), .ref (b + 15), .ref (b + 16), .ref (b + 17), .ref (b + 18), .ref (b + 19), .ref (b + 20), .ref (b + 21), .ref (b + 22), .ref (b + 23), .ref (b + 24), .ref (b + 25), .ref (b + 26), .ref (b + 27), .ref (b + 28), .ref (b + 29), .int (nI (N 16 0)), .int (nI (N 17 0)), .int (nI (N 18 0)), .ref (b + 30), .int (nI (N 20 0)), .int (S 21 0), .int (S 22 0), .int (S 23 0), .int (S 24 0), .int (nI (N 25 0)), .int (nI (N 26 0))])) := hM.1
  have m1 : w (b + 15) = some (.inl (cZ, 24, .inl (fun i => nI ((N 1) i)))) := hM.2 1 (by decide) (by decide)
  have m2 : w (b + 16) = some (.inl (cZ, 24, .inl (fun i => nI ((N 2) i)))) := hM.2 2 (by decide) (by decide)
  have m3 : w (b + 17) = some (.inl (cI, 24, .inl (fun i => nI ((N 3) i)))) := hM.2 3 (by decide) (by decide)
  have m4 : w (b + 18) = some (.inl (cI, 24, .inl (fun i => nI ((N 4) i)))) := hM.2 4 (by decide) (by decide)
  have m5 : w (b + 19) = some (.inl (cI, 24, .inl (S 5))) := hM.2 5 (by decide) (by decide)
  have m6 : w (b + 20) = some (.inl (cI, 24, .inl (S 6))) := hM.2 6 (by decide) (by decide)
  have m7 : w (b + 21) = some (.inl (cI, 72, .inl (fun i => nI ((N 7) i)))) := hM.2 7 (by decide) (by decide)
  have m8 : w (b + 22) = some (.inl (cI, 24, .inl (fun i => nI ((N 8) i)))) := hM.2 8 (by decide) (by decide)
  have m9 : w (b + 23) = some (.inl (cI, 24, .inl (fun i => nI ((N 9) i)))) := hM.2 9 (by decide) (by decide)
  have m10 : w (b + 24) = some (.inl (cI, 24, .inl (fun i => nI ((N 10) i)))) := hM.2 10 (by decide) (by decide)
  have m11 : w (b + 25) = some (.inl (cI, 24, .inl (S 11))) := hM.2 11 (by decide) (by decide)
  have m12 : w (b + 26) = some (.inl (cI, 24, .inl (S 12))) := hM.2 12 (by decide) (by decide)
  have m13 : w (b + 27) = some (.inl (cZ, 24, .inl (fun i => nI ((N 13) i)))) := hM.2 13 (by decide) (by decide)
  have m14 : w (b + 28) = some (.inl (cI, 256, .inl (fun i => nI ((N 14) i)))) := hM.2 14 (by decide) (by decide)
  have m15 : w (b + 29) = some (.inl (cI, 24, .inl (fun i => nI ((N 15) i)))) := hM.2 15 (by decide) (by decide)
  have m16 : w (b + 30) = some (.inl (cI, 5, .inl (fun i => nI ((N 19) i)))) := hM.2 16 (by decide) (by decide)
  by_cases hok : tg_ok N nr oo lo hi
  · obtain ⟨o9, ho9, rfl⟩ := kk_lim_of hok.2.1 (by omega)
    refine lv_aload_n hx hb d_Mod_tag_0 rfl (lv_at hl 0 rfl) ?_
    refine lv_iload_n hx hb d_Mod_tag_1 rfl (lv_at hl 1 rfl) ?_
    refine vp_callSi (va_Run.run (va_runV (As := [.int nr]) (rest := []) ⟨hx, hb, hml, hown, hts⟩ (c_Mod_isPermission l (b := b) (N := N) (S := S) hM (by omega) hR) (cwV 1 hts (gW_in (hd := [_, _, _, _, _]) (kk_5 wd_597 wd_599 sl_Mod_isPermission wd_8 cw_Mod_isPermission)) rfl rfl rfl ⟨rfl, ds_Mod_isPermission⟩ ⟨Nat.le_of_ble_eq_true rfl, Nat.le_of_ble_eq_true rfl⟩) (kk_preV hK hP hz hBz m0 rfl) rfl rfl hl.1 rfl (lv_room (Nat.le_of_ble_eq_true rfl)) d_Mod_tag_2 ⟨Nat.le_of_ble_eq_true rfl, Nat.le_of_ble_eq_true rfl⟩)) (fun r1 hr1 => ?_)
    subst hr1
    refine lv_if_eq (tgt := 25) hx hb d_Mod_tag_5 (by decide) (fun cc2 => ?_) (fun cc2 => ?_)
    · have cc2 := kk_b0 cc2
      exact absurd hok.1 cc2
    · have cc2 := kk_b1 cc2
      obtain ⟨j, hj, rfl⟩ := re_in hn cc2.1.1
      have hRj := hR j hj
      refine lv_iload_n hx hb d_Mod_tag_8 rfl (lv_at hl 2 rfl) ?_
      refine lv_if_lt (tgt := 25) hx hb d_Mod_tag_9 (by decide) (fun cc3 => ?_) (fun cc3 => ?_)
      · rw [← nI_0] at cc3
        have cc3 : o9 < 0 := (nI_ltI (by omega) (by omega)).mp cc3
        exact absurd cc3 (by omega)
      · rw [← nI_0] at cc3
        have cc3 : ¬ (o9 < 0) := fun q => cc3 ((nI_ltI (by omega) (by omega)).mpr q)
        refine lv_iload_n hx hb d_Mod_tag_12 rfl (lv_at hl 2 rfl) ?_
        refine lv_sipush (v := nI 255) hx hb d_Mod_tag_13 (by decide) ?_
        refine lv_icmp_gt (tgt := 25) hx hb d_Mod_tag_16 (by decide) (fun cc4 => ?_) (fun cc4 => ?_)
        · have cc4 : 255 < o9 := (nI_ltI (by omega) (by omega)).mp cc4
          exact absurd cc4 (by omega)
        · have cc4 : ¬ (255 < o9) := fun q => cc4 ((nI_ltI (by omega) (by omega)).mpr q)
          refine lv_iload_n hx hb d_Mod_tag_19 rfl (lv_at hl 3 rfl) ?_
          refine lv_iload hx hb d_Mod_tag_20 (lv_at hl 4 rfl) ?_
          refine lv_icmp_le (tgt := 27) hx hb d_Mod_tag_22 (by decide) (fun cc5 => ?_) (fun cc5 => ?_)
          · refine lv_aload_n hx hb d_Mod_tag_27 rfl (lv_at hl 0 rfl) ?_
            refine mm_get (D := D) (C := n_Mod) (T := T_Mod) (N := 27) (v := .ref (b + 24)) hx hb hts lay_Mod hown hK.1 hP m0 rfl 10 (by decide) (hts _ (List.mem_cons_of_mem _ wd_501)) (fun _ h9 => h9) rfl d_Mod_tag_28 ?_
            refine lv_iload_n hx hb d_Mod_tag_31 rfl (lv_at hl 1 rfl) ?_
            refine lv_iload_n hx hb d_Mod_tag_32 rfl (lv_at hl 2 rfl) ?_
            refine mm_iast hx hb hK.1 hP hS 0 m10 rfl j rfl (by omega) (by decide) d_Mod_tag_33 (fun H locs hP hz1 hS => ?_)
            rw [show upd (fun i => nI ((N 10) i)) j (nI o9) = fun i => nI ((va_up (N 10) j o9) i) from kk_upn _ _ _] at hP
            have hz : H.size = sz := hz1.trans hz
            obtain ⟨w6, hw6⟩ : ∃ z : mm_M, z = mm_up w (b + 24) (.inl (cI, 24, .inl (fun i => nI ((va_up (N 10) j o9) i)))) := ⟨_, rfl⟩
            have hP : mm_P B D kc w6 H := by rw [hw6]; exact hP
            have fr6 : ∀ j, j ≠ b + 24 → w6 j = w j := fun j h9 => by rw [hw6]; exact mm_un h9
            have fa6 : w6 (b + 24) = some (.inl (cI, 24, .inl (fun i => nI ((va_up (N 10) j o9) i)))) := by rw [hw6]; exact mm_us _ _ _
            refine lv_aload_n hx hb d_Mod_tag_34 rfl (lv_at hl 0 rfl) ?_
            have f7 := (fr6 _ (by omega)).trans (m0)
            refine mm_get (D := D) (C := n_Mod) (T := T_Mod) (N := 27) (v := .ref (b + 25)) hx hb hts lay_Mod hown hK.1 hP f7 rfl 11 (by decide) (hts _ (List.mem_cons_of_mem _ wd_502)) (fun _ h9 => h9) rfl d_Mod_tag_35 ?_
            refine lv_iload_n hx hb d_Mod_tag_38 rfl (lv_at hl 1 rfl) ?_
            refine lv_iload_n hx hb d_Mod_tag_39 rfl (lv_at hl 3 rfl) ?_
            have f8 := (fr6 _ (by omega)).trans (m11)
            refine mm_iast hx hb hK.1 hP hS 0 f8 rfl j rfl (by omega) (by decide) d_Mod_tag_40 (fun H locs hP hz1 hS => ?_)
            have hz : H.size = sz := hz1.trans hz
            obtain ⟨w9, hw9⟩ : ∃ z : mm_M, z = mm_up w6 (b + 25) (.inl (cI, 24, .inl (upd (S 11) j lo))) := ⟨_, rfl⟩
            have hP : mm_P B D kc w9 H := by rw [hw9]; exact hP
            have fr9 : ∀ j, j ≠ b + 25 → w9 j = w6 j := fun j h9 => by rw [hw9]; exact mm_un h9
            have fa9 : w9 (b + 25) = some (.inl (cI, 24, .inl (upd (S 11) j lo))) := by rw [hw9]; exact mm_us _ _ _
            refine lv_aload_n hx hb d_Mod_tag_41 rfl (lv_at hl 0 rfl) ?_
            have f10 := (fr9 _ (by omega)).trans (f7)
            refine mm_get (D := D) (C := n_Mod) (T := T_Mod) (N := 27) (v := .ref (b + 26)) hx hb hts lay_Mod hown hK.1 hP f10 rfl 12 (by decide) (hts _ (List.mem_cons_of_mem _ wd_503)) (fun _ h9 => h9) rfl d_Mod_tag_42 ?_
            refine lv_iload_n hx hb d_Mod_tag_45 rfl (lv_at hl 1 rfl) ?_
            refine lv_iload hx hb d_Mod_tag_46 (lv_at hl 4 rfl) ?_
            have f11 := (fr9 _ (by omega)).trans ((fr6 _ (by omega)).trans (m12))
            refine mm_iast hx hb hK.1 hP hS 0 f11 rfl j rfl (by omega) (by decide) d_Mod_tag_48 (fun H locs hP hz1 hS => ?_)
            have hz : H.size = sz := hz1.trans hz
            obtain ⟨w12, hw12⟩ : ∃ z : mm_M, z = mm_up w9 (b + 26) (.inl (cI, 24, .inl (upd (S 12) j hi))) := ⟨_, rfl⟩
            have hP : mm_P B D kc w12 H := by rw [hw12]; exact hP
            have fr12 : ∀ j, j ≠ b + 26 → w12 j = w9 j := fun j h9 => by rw [hw12]; exact mm_un h9
            have fa12 : w12 (b + 26) = some (.inl (cI, 24, .inl (upd (S 12) j hi))) := by rw [hw12]; exact mm_us _ _ _
            refine lv_iconst (v := nI 1) hx hb d_Mod_tag_49 (by decide) ?_
            exact W.zret hx hb hr rfl (fun t ht hW => ⟨⟨_, (w12, sz), rfl, ⟨kk_ift hok, (by rw [tg_N_pos (by omega) (by omega) hok, tg_S_pos (by omega) hok]; exact mo_mk ((fr12 _ (by omega)).trans (f10)) ((fr12 _ (by omega)).trans ((fr9 _ (by omega)).trans ((fr6 _ (by omega)).trans (m1)))) ((fr12 _ (by omega)).trans ((fr9 _ (by omega)).trans ((fr6 _ (by omega)).trans (m2)))) ((fr12 _ (by omega)).trans ((fr9 _ (by omega)).trans ((fr6 _ (by omega)).trans (m3)))) ((fr12 _ (by omega)).trans ((fr9 _ (by omega)).trans ((fr6 _ (by omega)).trans (m4)))) ((fr12 _ (by omega)).trans ((fr9 _ (by omega)).trans ((fr6 _ (by omega)).trans (m5)))) ((fr12 _ (by omega)).trans ((fr9 _ (by omega)).trans ((fr6 _ (by omega)).trans (m6)))) ((fr12 _ (by omega)).trans ((fr9 _ (by omega)).trans ((fr6 _ (by omega)).trans (m7)))) ((fr12 _ (by omega)).trans ((fr9 _ (by omega)).trans ((fr6 _ (by omega)).trans (m8)))) ((fr12 _ (by omega)).trans ((fr9 _ (by omega)).trans ((fr6 _ (by omega)).trans (m9)))) ((fr12 _ (by omega)).trans ((fr9 _ (by omega)).trans (fa6))) ((fr12 _ (by omega)).trans (fa9)) fa12 ((fr12 _ (by omega)).trans ((fr9 _ (by omega)).trans ((fr6 _ (by omega)).trans (m13)))) ((fr12 _ (by omega)).trans ((fr9 _ (by omega)).trans ((fr6 _ (by omega)).trans (m14)))) ((fr12 _ (by omega)).trans ((fr9 _ (by omega)).trans ((fr6 _ (by omega)).trans (m15)))) ((fr12 _ (by omega)).trans ((fr9 _ (by omega)).trans ((fr6 _ (by omega)).trans (m16))))), (fun j hj => (fr12 j (by omega)).trans ((fr9 j (by omega)).trans (fr6 j (by omega)))), rfl⟩, by rw [ht]; exact hP, by rw [ht]; exact hz⟩, hS.F ht⟩) hS.2.2 d_Mod_tag_50
          · exact absurd (Int32.not_lt.mp hok.2.2) cc5
  · refine lv_aload_n hx hb d_Mod_tag_0 rfl (lv_at hl 0 rfl) ?_
    refine lv_iload_n hx hb d_Mod_tag_1 rfl (lv_at hl 1 rfl) ?_
    refine vp_callSi (va_Run.run (va_runV (As := [.int nr]) (rest := []) ⟨hx, hb, hml, hown, hts⟩ (c_Mod_isPermission l (b := b) (N := N) (S := S) hM (by omega) hR) (cwV 1 hts (gW_in (hd := [_, _, _, _, _]) (kk_5 wd_597 wd_599 sl_Mod_isPermission wd_8 cw_Mod_isPermission)) rfl rfl rfl ⟨rfl, ds_Mod_isPermission⟩ ⟨Nat.le_of_ble_eq_true rfl, Nat.le_of_ble_eq_true rfl⟩) (kk_preV hK hP hz hBz m0 rfl) rfl rfl hl.1 rfl (lv_room (Nat.le_of_ble_eq_true rfl)) d_Mod_tag_2 ⟨Nat.le_of_ble_eq_true rfl, Nat.le_of_ble_eq_true rfl⟩)) (fun r13 hr13 => ?_)
    subst hr13
    refine lv_if_eq (tgt := 25) hx hb d_Mod_tag_5 (by decide) (fun cc14 => ?_) (fun cc14 => ?_)
    · have cc14 := kk_b0 cc14
      refine lv_iconst (v := nI 0) hx hb d_Mod_tag_25 (by decide) ?_
      exact W.zret hx hb hr rfl (fun t ht hW => ⟨⟨_, (w, sz), rfl, ⟨kk_iff hok, (by rw [show tg_N N _ _ _ _ = N from if_neg hok, show tg_S N S _ _ _ _ = S from if_neg hok]; exact mo_mk m0 m1 m2 m3 m4 m5 m6 m7 m8 m9 m10 m11 m12 m13 m14 m15 m16), (fun j hj => rfl), rfl⟩, by rw [ht]; exact hP, by rw [ht]; exact hz⟩, hS.F ht⟩) hS.2.2 d_Mod_tag_26
    · have cc14 := kk_b1 cc14
      obtain ⟨j, hj, rfl⟩ := re_in hn cc14.1.1
      have hRj := hR j hj
      refine lv_iload_n hx hb d_Mod_tag_8 rfl (lv_at hl 2 rfl) ?_
      refine lv_if_lt (tgt := 25) hx hb d_Mod_tag_9 (by decide) (fun cc15 => ?_) (fun cc15 => ?_)
      · refine lv_iconst (v := nI 0) hx hb d_Mod_tag_25 (by decide) ?_
        exact W.zret hx hb hr rfl (fun t ht hW => ⟨⟨_, (w, sz), rfl, ⟨kk_iff hok, (by rw [show tg_N N _ _ _ _ = N from if_neg hok, show tg_S N S _ _ _ _ = S from if_neg hok]; exact mo_mk m0 m1 m2 m3 m4 m5 m6 m7 m8 m9 m10 m11 m12 m13 m14 m15 m16), (fun j hj => rfl), rfl⟩, by rw [ht]; exact hP, by rw [ht]; exact hz⟩, hS.F ht⟩) hS.2.2 d_Mod_tag_26
      · refine lv_iload_n hx hb d_Mod_tag_12 rfl (lv_at hl 2 rfl) ?_
        refine lv_sipush (v := nI 255) hx hb d_Mod_tag_13 (by decide) ?_
        refine lv_icmp_gt (tgt := 25) hx hb d_Mod_tag_16 (by decide) (fun cc16 => ?_) (fun cc16 => ?_)
        · refine lv_iconst (v := nI 0) hx hb d_Mod_tag_25 (by decide) ?_
          exact W.zret hx hb hr rfl (fun t ht hW => ⟨⟨_, (w, sz), rfl, ⟨kk_iff hok, (by rw [show tg_N N _ _ _ _ = N from if_neg hok, show tg_S N S _ _ _ _ = S from if_neg hok]; exact mo_mk m0 m1 m2 m3 m4 m5 m6 m7 m8 m9 m10 m11 m12 m13 m14 m15 m16), (fun j hj => rfl), rfl⟩, by rw [ht]; exact hP, by rw [ht]; exact hz⟩, hS.F ht⟩) hS.2.2 d_Mod_tag_26
        · refine lv_iload_n hx hb d_Mod_tag_19 rfl (lv_at hl 3 rfl) ?_
          refine lv_iload hx hb d_Mod_tag_20 (lv_at hl 4 rfl) ?_
          refine lv_icmp_le (tgt := 27) hx hb d_Mod_tag_22 (by decide) (fun cc17 => ?_) (fun cc17 => ?_)
          · exact absurd ⟨cc14, ⟨cc15, fun q => cc16 ((kk_gtm 255 256 rfl (by decide)).mpr q)⟩, Int32.not_lt.mpr cc17⟩ hok
          · refine lv_iconst (v := nI 0) hx hb d_Mod_tag_25 (by decide) ?_
            exact W.zret hx hb hr rfl (fun t ht hW => ⟨⟨_, (w, sz), rfl, ⟨kk_iff hok, (by rw [show tg_N N _ _ _ _ = N from if_neg hok, show tg_S N S _ _ _ _ = S from if_neg hok]; exact mo_mk m0 m1 m2 m3 m4 m5 m6 m7 m8 m9 m10 m11 m12 m13 m14 m15 m16), (fun j hj => rfl), rfl⟩, by rw [ht]; exact hP, by rw [ht]; exact hz⟩, hS.F ht⟩) hS.2.2 d_Mod_tag_26
theorem d_Mod_also_0 : decode k_Mod_also 0 = .ok (.aload_n 0, 1) := by decide +kernel
theorem d_Mod_also_1 : decode k_Mod_also 1 = .ok (.iload_n 1, 1) := by decide +kernel
theorem d_Mod_also_2 : decode k_Mod_also 2 = .ok (.invokevirtual 80, 3) := by decide +kernel
theorem d_Mod_also_5 : decode k_Mod_also 5 = .ok (.ifCond .eq 20, 3) := by decide +kernel
theorem d_Mod_also_8 : decode k_Mod_also 8 = .ok (.iload_n 2, 1) := by decide +kernel
theorem d_Mod_also_9 : decode k_Mod_also 9 = .ok (.invokestatic 69, 3) := by decide +kernel
theorem d_Mod_also_12 : decode k_Mod_also 12 = .ok (.ifCond .eq 13, 3) := by decide +kernel
theorem d_Mod_also_15 : decode k_Mod_also 15 = .ok (.aload_n 0, 1) := by decide +kernel
theorem d_Mod_also_16 : decode k_Mod_also 16 = .ok (.getfield 32, 3) := by decide +kernel
theorem d_Mod_also_19 : decode k_Mod_also 19 = .ok (.iload_n 1, 1) := by decide +kernel
theorem d_Mod_also_20 : decode k_Mod_also 20 = .ok (.iaload, 1) := by decide +kernel
theorem d_Mod_also_21 : decode k_Mod_also 21 = .ok (.iconst 3, 1) := by decide +kernel
theorem d_Mod_also_22 : decode k_Mod_also 22 = .ok (.if_icmp .ne 5, 3) := by decide +kernel
theorem d_Mod_also_25 : decode k_Mod_also 25 = .ok (.iconst (-1), 1) := by decide +kernel
theorem d_Mod_also_26 : decode k_Mod_also 26 = .ok (.ireturn, 1) := by decide +kernel
theorem d_Mod_also_27 : decode k_Mod_also 27 = .ok (.aload_n 0, 1) := by decide +kernel
theorem d_Mod_also_28 : decode k_Mod_also 28 = .ok (.getfield 29, 3) := by decide +kernel
theorem d_Mod_also_31 : decode k_Mod_also 31 = .ok (.iconst 3, 1) := by decide +kernel
theorem d_Mod_also_32 : decode k_Mod_also 32 = .ok (.iload_n 1, 1) := by decide +kernel
theorem d_Mod_also_33 : decode k_Mod_also 33 = .ok (.imul, 1) := by decide +kernel
theorem d_Mod_also_34 : decode k_Mod_also 34 = .ok (.aload_n 0, 1) := by decide +kernel
theorem d_Mod_also_35 : decode k_Mod_also 35 = .ok (.getfield 32, 3) := by decide +kernel
theorem d_Mod_also_38 : decode k_Mod_also 38 = .ok (.iload_n 1, 1) := by decide +kernel
theorem d_Mod_also_39 : decode k_Mod_also 39 = .ok (.iaload, 1) := by decide +kernel
theorem d_Mod_also_40 : decode k_Mod_also 40 = .ok (.iadd, 1) := by decide +kernel
theorem d_Mod_also_41 : decode k_Mod_also 41 = .ok (.iload_n 2, 1) := by decide +kernel
theorem d_Mod_also_42 : decode k_Mod_also 42 = .ok (.iastore, 1) := by decide +kernel
theorem d_Mod_also_43 : decode k_Mod_also 43 = .ok (.aload_n 0, 1) := by decide +kernel
theorem d_Mod_also_44 : decode k_Mod_also 44 = .ok (.getfield 32, 3) := by decide +kernel
theorem d_Mod_also_47 : decode k_Mod_also 47 = .ok (.iload_n 1, 1) := by decide +kernel
theorem d_Mod_also_48 : decode k_Mod_also 48 = .ok (.dup2, 1) := by decide +kernel
theorem d_Mod_also_49 : decode k_Mod_also 49 = .ok (.iaload, 1) := by decide +kernel
theorem d_Mod_also_50 : decode k_Mod_also 50 = .ok (.iconst 1, 1) := by decide +kernel
theorem d_Mod_also_51 : decode k_Mod_also 51 = .ok (.iadd, 1) := by decide +kernel
theorem d_Mod_also_52 : decode k_Mod_also 52 = .ok (.iastore, 1) := by decide +kernel
theorem d_Mod_also_53 : decode k_Mod_also 53 = .ok (.aload_n 0, 1) := by decide +kernel
theorem d_Mod_also_54 : decode k_Mod_also 54 = .ok (.getfield 32, 3) := by decide +kernel
theorem d_Mod_also_57 : decode k_Mod_also 57 = .ok (.iload_n 1, 1) := by decide +kernel
theorem d_Mod_also_58 : decode k_Mod_also 58 = .ok (.iaload, 1) := by decide +kernel
theorem d_Mod_also_59 : decode k_Mod_also 59 = .ok (.ireturn, 1) := by decide +kernel
set_option maxHeartbeats 4000000 in
set_option maxRecDepth 100000 in
theorem c_Mod_also (l : Launch) {B : Nat} {D : va_G} {cI cZ cQ : ClassId} {w : mm_M} {sz : Nat} {b : Nat} {N : Nat → Nat → Nat} {S : Nat → Nat → Int32} {nr sr : Int32} (hM : mo_I b cI cZ N S w) (hn : N 0 0 ≤ 24) (hR : rg_I N) : Met l y_Mod_also ws_Mod_also (kk_rm 2 0 0) (kk_Pc B D cI cZ cQ [.ref (b + 14), .int nr, .int sr] w sz) (kk_Qi B D (fun r w' sz' => r = (if al_ok N nr sr then nI (N 8 (nr).toNatClampNeg + 1) else -1) ∧ mo_I b cI cZ (al_N N nr sr) S w' ∧ (∀ j, ¬ (b + 14 ≤ j ∧ j < b + 31) → w' j = w j) ∧ sz' = sz)) 0 0 (fun q => B ≤ q) := by
  refine Met.ofW (cc := k_Mod_also) (maxL := 3) (ret := (some .int)) (by decide) rfl ?_
  intro p e s m args below meth c s₁ BB hml hv
  obtain ⟨rfl, hK, hP, hz, hBz⟩ := hv
  have hx := BB.exec
  have hb := BB.bytes
  have hr := BB.returns
  have hts := atoms_spec (ws := ws_Mod_also) BB.pre
  have hown : s.vm.findClass "DelegationClosureModel" = some m.cls := findClass_of_methodNamed BB.named
  have hlocks := BB.notSynchronized
  have hS : mm_S B s.heap s.heap [] := va_S.rf
  have hl := lv_entry ([.ref (b + 14), .int nr, .int sr]) (n := 3) (Nat.le_of_ble_eq_true rfl)
  rw [lg_entry_eq]
  generalize (lg_sl ([.ref (b + 14), .int nr, .int sr]) ++ List.replicate (3 - (lg_sl ([.ref (b + 14), .int nr, .int sr])).length) Slot.unset).toArray = ls at hl ⊢
  have hl : lv_has ls 3 [(0, .ref (b + 14)), (1, .int nr), (2, .int sr)] := hl
  have m0 : w (b + 14) = some (.inr (9, [.int (nI (N 0 0)), .ref (b + 15), .ref (b + 16), .ref (b + 17), .ref (b + 18), .ref (b + 19), .ref (b + 20), .ref (b + 21), .ref (b + 22), .ref (b + 23), .ref (b + 24), .ref (b + 25), .ref (b + 26), .ref (b + 27), .ref (b + 28), .ref (b + 29), .int (nI (N 16 0)), .int (nI (N 17 0)), .int (nI (N 18 0)), .ref (b + 30), .int (nI (N 20 0)), .int (S 21 0), .int (S 22 0), .int (S 23 0), .int (S 24 0), .int (nI (N 25 0)), .int (nI (N 26 0))])) := hM.1
  have m1 : w (b + 15) = some (.inl (cZ, 24, .inl (fun i => nI ((N 1) i)))) := hM.2 1 (by decide) (by decide)
  have m2 : w (b + 16) = some (.inl (cZ, 24, .inl (fun i => nI ((N 2) i)))) := hM.2 2 (by decide) (by decide)
  have m3 : w (b + 17) = some (.inl (cI, 24, .inl (fun i => nI ((N 3) i)))) := hM.2 3 (by decide) (by decide)
  have m4 : w (b + 18) = some (.inl (cI, 24, .inl (fun i => nI ((N 4) i)))) := hM.2 4 (by decide) (by decide)
  have m5 : w (b + 19) = some (.inl (cI, 24, .inl (S 5))) := hM.2 5 (by decide) (by decide)
  have m6 : w (b + 20) = some (.inl (cI, 24, .inl (S 6))) := hM.2 6 (by decide) (by decide)
  have m7 : w (b + 21) = some (.inl (cI, 72, .inl (fun i => nI ((N 7) i)))) := hM.2 7 (by decide) (by decide)
  have m8 : w (b + 22) = some (.inl (cI, 24, .inl (fun i => nI ((N 8) i)))) := hM.2 8 (by decide) (by decide)
  have m9 : w (b + 23) = some (.inl (cI, 24, .inl (fun i => nI ((N 9) i)))) := hM.2 9 (by decide) (by decide)
  have m10 : w (b + 24) = some (.inl (cI, 24, .inl (fun i => nI ((N 10) i)))) := hM.2 10 (by decide) (by decide)
  have m11 : w (b + 25) = some (.inl (cI, 24, .inl (S 11))) := hM.2 11 (by decide) (by decide)
  have m12 : w (b + 26) = some (.inl (cI, 24, .inl (S 12))) := hM.2 12 (by decide) (by decide)
  have m13 : w (b + 27) = some (.inl (cZ, 24, .inl (fun i => nI ((N 13) i)))) := hM.2 13 (by decide) (by decide)
  have m14 : w (b + 28) = some (.inl (cI, 256, .inl (fun i => nI ((N 14) i)))) := hM.2 14 (by decide) (by decide)
  have m15 : w (b + 29) = some (.inl (cI, 24, .inl (fun i => nI ((N 15) i)))) := hM.2 15 (by decide) (by decide)
  have m16 : w (b + 30) = some (.inl (cI, 5, .inl (fun i => nI ((N 19) i)))) := hM.2 16 (by decide) (by decide)
  by_cases hok : al_ok N nr sr
  · obtain ⟨s9, rfl, hs9⟩ := wf_sub_of hok.2.1
    refine lv_aload_n hx hb d_Mod_also_0 rfl (lv_at hl 0 rfl) ?_
    refine lv_iload_n hx hb d_Mod_also_1 rfl (lv_at hl 1 rfl) ?_
    refine vp_callSi (va_Run.run (va_runV (As := [.int nr]) (rest := []) ⟨hx, hb, hml, hown, hts⟩ (c_Mod_isPermission l (b := b) (N := N) (S := S) hM (by omega) hR) (cwV 1 hts (gW_in (hd := [_, _, _, _, _]) (kk_5 wd_597 wd_599 sl_Mod_isPermission wd_8 cw_Mod_isPermission)) rfl rfl rfl ⟨rfl, ds_Mod_isPermission⟩ ⟨Nat.le_of_ble_eq_true rfl, Nat.le_of_ble_eq_true rfl⟩) (kk_preV hK hP hz hBz m0 rfl) rfl rfl hl.1 rfl (lv_room (Nat.le_of_ble_eq_true rfl)) d_Mod_also_2 ⟨Nat.le_of_ble_eq_true rfl, Nat.le_of_ble_eq_true rfl⟩)) (fun r1 hr1 => ?_)
    subst hr1
    refine lv_if_eq (tgt := 25) hx hb d_Mod_also_5 (by decide) (fun cc2 => ?_) (fun cc2 => ?_)
    · have cc2 := kk_b0 cc2
      exact absurd hok.1 cc2
    · have cc2 := kk_b1 cc2
      obtain ⟨j, hj, rfl⟩ := re_in hn cc2.1.1
      have hRj := hR j hj
      refine lv_iload_n hx hb d_Mod_also_8 rfl (lv_at hl 2 rfl) ?_
      refine vp_callSi (va_Run.run (va_runS (As := [.int (nI s9)]) (rest := []) ⟨hx, hb, hml, hown, hts⟩ (c_Mod_isSubject l ) (va_cwS 1 hts (gW_in (hd := [_, _, _, _]) (kk_4 wd_577 wd_578 wd_8 cw_Mod_isSubject)) rfl rfl rfl ds_Mod_isSubject ⟨Nat.le_of_ble_eq_true rfl, Nat.le_of_ble_eq_true rfl⟩) (kk_preS hK hP hz hBz) rfl rfl hl.1 rfl (lv_room (Nat.le_of_ble_eq_true rfl)) d_Mod_also_9 ⟨Nat.le_of_ble_eq_true rfl, Nat.le_of_ble_eq_true rfl⟩)) (fun r3 hr3 => ?_)
      subst hr3
      refine lv_if_eq (tgt := 25) hx hb d_Mod_also_12 (by decide) (fun cc4 => ?_) (fun cc4 => ?_)
      · have cc4 := kk_b0 cc4
        exact absurd hok.2.1 cc4
      · have cc4 := kk_b1 cc4
        refine lv_aload_n hx hb d_Mod_also_15 rfl (lv_at hl 0 rfl) ?_
        refine mm_get (D := D) (C := n_Mod) (T := T_Mod) (N := 27) (v := .ref (b + 22)) hx hb hts lay_Mod hown hK.1 hP m0 rfl 8 (by decide) (hts _ (List.mem_cons_of_mem _ wd_499)) (fun _ h9 => h9) rfl d_Mod_also_16 ?_
        refine lv_iload_n hx hb d_Mod_also_19 rfl (lv_at hl 1 rfl) ?_
        refine mm_iald hx hb hK.1 hP 0 m8 rfl j rfl (by omega) (by decide) d_Mod_also_20 ?_
        refine W.eq (g2 := F0 m 21 ls [.int (nI ((N 8) j))]) rfl ?_
        refine lv_iconst (v := nI 3) hx hb d_Mod_also_21 (by decide) ?_
        refine lv_icmp_ne (tgt := 27) hx hb d_Mod_also_22 (by decide) (fun cc5 => ?_) (fun cc5 => ?_)
        · have cc5 : ¬ ((N 8) j = 3) := fun q => cc5 ((nI_eq (by omega) (by omega)).mpr q)
          refine lv_aload_n hx hb d_Mod_also_27 rfl (lv_at hl 0 rfl) ?_
          refine mm_get (D := D) (C := n_Mod) (T := T_Mod) (N := 27) (v := .ref (b + 21)) hx hb hts lay_Mod hown hK.1 hP m0 rfl 7 (by decide) (hts _ (List.mem_cons_of_mem _ wd_498)) (fun _ h9 => h9) rfl d_Mod_also_28 ?_
          refine lv_iconst (v := nI 3) hx hb d_Mod_also_31 (by decide) ?_
          refine lv_iload_n hx hb d_Mod_also_32 rfl (lv_at hl 1 rfl) ?_
          refine lv_imul hx hb d_Mod_also_33 ?_
          refine kk_top (pk_mul _ _) ?_
          refine lv_aload_n hx hb d_Mod_also_34 rfl (lv_at hl 0 rfl) ?_
          refine mm_get (D := D) (C := n_Mod) (T := T_Mod) (N := 27) (v := .ref (b + 22)) hx hb hts lay_Mod hown hK.1 hP m0 rfl 8 (by decide) (hts _ (List.mem_cons_of_mem _ wd_499)) (fun _ h9 => h9) rfl d_Mod_also_35 ?_
          refine lv_iload_n hx hb d_Mod_also_38 rfl (lv_at hl 1 rfl) ?_
          refine mm_iald hx hb hK.1 hP 0 m8 rfl j rfl (by omega) (by decide) d_Mod_also_39 ?_
          refine W.eq (g2 := F0 m 40 ls [.int (nI ((N 8) j)), .int (nI (3 * j)), .ref (b + 21)]) rfl ?_
          refine lv_iadd hx hb d_Mod_also_40 ?_
          refine kk_top (nI_add _ _) ?_
          refine lv_iload_n hx hb d_Mod_also_41 rfl (lv_at hl 2 rfl) ?_
          refine mm_iast hx hb hK.1 hP hS 0 m7 rfl ((3 * j) + ((N 8) j)) rfl (by omega) (by decide) d_Mod_also_42 (fun H locs hP hz1 hS => ?_)
          rw [show upd (fun i => nI ((N 7) i)) ((3 * j) + ((N 8) j)) (nI s9) = fun i => nI ((va_up (N 7) ((3 * j) + ((N 8) j)) s9) i) from kk_upn _ _ _] at hP
          have hz : H.size = sz := hz1.trans hz
          obtain ⟨w6, hw6⟩ : ∃ z : mm_M, z = mm_up w (b + 21) (.inl (cI, 72, .inl (fun i => nI ((va_up (N 7) ((3 * j) + ((N 8) j)) s9) i)))) := ⟨_, rfl⟩
          have hP : mm_P B D kc w6 H := by rw [hw6]; exact hP
          have fr6 : ∀ j, j ≠ b + 21 → w6 j = w j := fun j h9 => by rw [hw6]; exact mm_un h9
          have fa6 : w6 (b + 21) = some (.inl (cI, 72, .inl (fun i => nI ((va_up (N 7) ((3 * j) + ((N 8) j)) s9) i)))) := by rw [hw6]; exact mm_us _ _ _
          refine lv_aload_n hx hb d_Mod_also_43 rfl (lv_at hl 0 rfl) ?_
          have f7 := (fr6 _ (by omega)).trans (m0)
          refine mm_get (D := D) (C := n_Mod) (T := T_Mod) (N := 27) (v := .ref (b + 22)) hx hb hts lay_Mod hown hK.1 hP f7 rfl 8 (by decide) (hts _ (List.mem_cons_of_mem _ wd_499)) (fun _ h9 => h9) rfl d_Mod_also_44 ?_
          refine lv_iload_n hx hb d_Mod_also_47 rfl (lv_at hl 1 rfl) ?_
          refine lv_dup2_11 hx hb d_Mod_also_48 rfl rfl ?_
          have f8 := (fr6 _ (by omega)).trans (m8)
          refine mm_iald hx hb hK.1 hP 0 f8 rfl j rfl (by omega) (by decide) d_Mod_also_49 ?_
          refine W.eq (g2 := F0 m 50 ls [.int (nI ((N 8) j)), .int (nI j), .ref (b + 22)]) rfl ?_
          refine lv_iconst (v := nI 1) hx hb d_Mod_also_50 (by decide) ?_
          refine lv_iadd hx hb d_Mod_also_51 ?_
          refine kk_top (nI_add _ _) ?_
          refine mm_iast hx hb hK.1 hP hS 0 f8 rfl j rfl (by omega) (by decide) d_Mod_also_52 (fun H locs hP hz1 hS => ?_)
          rw [show upd (fun i => nI ((N 8) i)) j (nI (((N 8) j) + 1)) = fun i => nI ((va_up (N 8) j (((N 8) j) + 1)) i) from kk_upn _ _ _] at hP
          have hz : H.size = sz := hz1.trans hz
          obtain ⟨w9, hw9⟩ : ∃ z : mm_M, z = mm_up w6 (b + 22) (.inl (cI, 24, .inl (fun i => nI ((va_up (N 8) j (((N 8) j) + 1)) i)))) := ⟨_, rfl⟩
          have hP : mm_P B D kc w9 H := by rw [hw9]; exact hP
          have fr9 : ∀ j, j ≠ b + 22 → w9 j = w6 j := fun j h9 => by rw [hw9]; exact mm_un h9
          have fa9 : w9 (b + 22) = some (.inl (cI, 24, .inl (fun i => nI ((va_up (N 8) j (((N 8) j) + 1)) i)))) := by rw [hw9]; exact mm_us _ _ _
          refine lv_aload_n hx hb d_Mod_also_53 rfl (lv_at hl 0 rfl) ?_
          have f10 := (fr9 _ (by omega)).trans (f7)
          refine mm_get (D := D) (C := n_Mod) (T := T_Mod) (N := 27) (v := .ref (b + 22)) hx hb hts lay_Mod hown hK.1 hP f10 rfl 8 (by decide) (hts _ (List.mem_cons_of_mem _ wd_499)) (fun _ h9 => h9) rfl d_Mod_also_54 ?_
          refine lv_iload_n hx hb d_Mod_also_57 rfl (lv_at hl 1 rfl) ?_
          refine mm_iald hx hb hK.1 hP 0 fa9 rfl j rfl (by omega) (by decide) d_Mod_also_58 ?_
          refine W.eq (g2 := F0 m 59 ls [.int (nI ((va_up (N 8) j (((N 8) j) + 1)) j))]) rfl ?_
          exact W.iret hx hb hr (fun t ht hW => ⟨⟨_, (w9, sz), rfl, ⟨(by rw [if_pos hok, nI_clamp (by omega)]; exact congrArg nI (if_pos rfl)), (by rw [al_N_pos (by omega) (by omega) hok]; exact mo_mk f10 ((fr9 _ (by omega)).trans ((fr6 _ (by omega)).trans (m1))) ((fr9 _ (by omega)).trans ((fr6 _ (by omega)).trans (m2))) ((fr9 _ (by omega)).trans ((fr6 _ (by omega)).trans (m3))) ((fr9 _ (by omega)).trans ((fr6 _ (by omega)).trans (m4))) ((fr9 _ (by omega)).trans ((fr6 _ (by omega)).trans (m5))) ((fr9 _ (by omega)).trans ((fr6 _ (by omega)).trans (m6))) ((fr9 _ (by omega)).trans (fa6)) fa9 ((fr9 _ (by omega)).trans ((fr6 _ (by omega)).trans (m9))) ((fr9 _ (by omega)).trans ((fr6 _ (by omega)).trans (m10))) ((fr9 _ (by omega)).trans ((fr6 _ (by omega)).trans (m11))) ((fr9 _ (by omega)).trans ((fr6 _ (by omega)).trans (m12))) ((fr9 _ (by omega)).trans ((fr6 _ (by omega)).trans (m13))) ((fr9 _ (by omega)).trans ((fr6 _ (by omega)).trans (m14))) ((fr9 _ (by omega)).trans ((fr6 _ (by omega)).trans (m15))) ((fr9 _ (by omega)).trans ((fr6 _ (by omega)).trans (m16)))), (fun j hj => (fr9 j (by omega)).trans (fr6 j (by omega))), rfl⟩, by rw [ht]; exact hP, by rw [ht]; exact hz⟩, hS.F ht⟩) hS.2.2 d_Mod_also_59
        · have cc5 : (N 8) j = 3 := (nI_eq (by omega) (by omega)).mp cc5
          exact absurd hok.2.2 (by rw [nI_clamp (by omega)]; omega)
  · refine lv_aload_n hx hb d_Mod_also_0 rfl (lv_at hl 0 rfl) ?_
    refine lv_iload_n hx hb d_Mod_also_1 rfl (lv_at hl 1 rfl) ?_
    refine vp_callSi (va_Run.run (va_runV (As := [.int nr]) (rest := []) ⟨hx, hb, hml, hown, hts⟩ (c_Mod_isPermission l (b := b) (N := N) (S := S) hM (by omega) hR) (cwV 1 hts (gW_in (hd := [_, _, _, _, _]) (kk_5 wd_597 wd_599 sl_Mod_isPermission wd_8 cw_Mod_isPermission)) rfl rfl rfl ⟨rfl, ds_Mod_isPermission⟩ ⟨Nat.le_of_ble_eq_true rfl, Nat.le_of_ble_eq_true rfl⟩) (kk_preV hK hP hz hBz m0 rfl) rfl rfl hl.1 rfl (lv_room (Nat.le_of_ble_eq_true rfl)) d_Mod_also_2 ⟨Nat.le_of_ble_eq_true rfl, Nat.le_of_ble_eq_true rfl⟩)) (fun r11 hr11 => ?_)
    subst hr11
    refine lv_if_eq (tgt := 25) hx hb d_Mod_also_5 (by decide) (fun cc12 => ?_) (fun cc12 => ?_)
    · have cc12 := kk_b0 cc12
      refine lv_iconst (v := (-1)) hx hb d_Mod_also_25 (by decide) ?_
      exact W.iret hx hb hr (fun t ht hW => ⟨⟨_, (w, sz), rfl, ⟨(if_neg hok).symm, (by rw [show al_N N _ _ = N from if_neg hok]; exact mo_mk m0 m1 m2 m3 m4 m5 m6 m7 m8 m9 m10 m11 m12 m13 m14 m15 m16), (fun j hj => rfl), rfl⟩, by rw [ht]; exact hP, by rw [ht]; exact hz⟩, hS.F ht⟩) hS.2.2 d_Mod_also_26
    · have cc12 := kk_b1 cc12
      obtain ⟨j, hj, rfl⟩ := re_in hn cc12.1.1
      have hRj := hR j hj
      refine lv_iload_n hx hb d_Mod_also_8 rfl (lv_at hl 2 rfl) ?_
      refine vp_callSi (va_Run.run (va_runS (As := [.int sr]) (rest := []) ⟨hx, hb, hml, hown, hts⟩ (c_Mod_isSubject l ) (va_cwS 1 hts (gW_in (hd := [_, _, _, _]) (kk_4 wd_577 wd_578 wd_8 cw_Mod_isSubject)) rfl rfl rfl ds_Mod_isSubject ⟨Nat.le_of_ble_eq_true rfl, Nat.le_of_ble_eq_true rfl⟩) (kk_preS hK hP hz hBz) rfl rfl hl.1 rfl (lv_room (Nat.le_of_ble_eq_true rfl)) d_Mod_also_9 ⟨Nat.le_of_ble_eq_true rfl, Nat.le_of_ble_eq_true rfl⟩)) (fun r13 hr13 => ?_)
      subst hr13
      refine lv_if_eq (tgt := 25) hx hb d_Mod_also_12 (by decide) (fun cc14 => ?_) (fun cc14 => ?_)
      · have cc14 := kk_b0 cc14
        refine lv_iconst (v := (-1)) hx hb d_Mod_also_25 (by decide) ?_
        exact W.iret hx hb hr (fun t ht hW => ⟨⟨_, (w, sz), rfl, ⟨(if_neg hok).symm, (by rw [show al_N N _ _ = N from if_neg hok]; exact mo_mk m0 m1 m2 m3 m4 m5 m6 m7 m8 m9 m10 m11 m12 m13 m14 m15 m16), (fun j hj => rfl), rfl⟩, by rw [ht]; exact hP, by rw [ht]; exact hz⟩, hS.F ht⟩) hS.2.2 d_Mod_also_26
      · have cc14 := kk_b1 cc14
        refine lv_aload_n hx hb d_Mod_also_15 rfl (lv_at hl 0 rfl) ?_
        refine mm_get (D := D) (C := n_Mod) (T := T_Mod) (N := 27) (v := .ref (b + 22)) hx hb hts lay_Mod hown hK.1 hP m0 rfl 8 (by decide) (hts _ (List.mem_cons_of_mem _ wd_499)) (fun _ h9 => h9) rfl d_Mod_also_16 ?_
        refine lv_iload_n hx hb d_Mod_also_19 rfl (lv_at hl 1 rfl) ?_
        refine mm_iald hx hb hK.1 hP 0 m8 rfl j rfl (by omega) (by decide) d_Mod_also_20 ?_
        refine W.eq (g2 := F0 m 21 ls [.int (nI ((N 8) j))]) rfl ?_
        refine lv_iconst (v := nI 3) hx hb d_Mod_also_21 (by decide) ?_
        refine lv_icmp_ne (tgt := 27) hx hb d_Mod_also_22 (by decide) (fun cc15 => ?_) (fun cc15 => ?_)
        · have cc15 : ¬ ((N 8) j = 3) := fun q => cc15 ((nI_eq (by omega) (by omega)).mpr q)
          exact absurd ⟨cc12, cc14, by rw [nI_clamp (by omega)]; omega⟩ hok
        · have cc15 : (N 8) j = 3 := (nI_eq (by omega) (by omega)).mp cc15
          refine lv_iconst (v := (-1)) hx hb d_Mod_also_25 (by decide) ?_
          exact W.iret hx hb hr (fun t ht hW => ⟨⟨_, (w, sz), rfl, ⟨(if_neg hok).symm, (by rw [show al_N N _ _ = N from if_neg hok]; exact mo_mk m0 m1 m2 m3 m4 m5 m6 m7 m8 m9 m10 m11 m12 m13 m14 m15 m16), (fun j hj => rfl), rfl⟩, by rw [ht]; exact hP, by rw [ht]; exact hz⟩, hS.F ht⟩) hS.2.2 d_Mod_also_26
theorem d_Mod_quorum_0 : decode k_Mod_quorum 0 = .ok (.aload_n 0, 1) := by decide +kernel
theorem d_Mod_quorum_1 : decode k_Mod_quorum 1 = .ok (.iload_n 1, 1) := by decide +kernel
theorem d_Mod_quorum_2 : decode k_Mod_quorum 2 = .ok (.invokevirtual 80, 3) := by decide +kernel
theorem d_Mod_quorum_5 : decode k_Mod_quorum 5 = .ok (.ifCond .eq 18, 3) := by decide +kernel
theorem d_Mod_quorum_8 : decode k_Mod_quorum 8 = .ok (.iload_n 2, 1) := by decide +kernel
theorem d_Mod_quorum_9 : decode k_Mod_quorum 9 = .ok (.iconst 1, 1) := by decide +kernel
theorem d_Mod_quorum_10 : decode k_Mod_quorum 10 = .ok (.if_icmp .lt 13, 3) := by decide +kernel
theorem d_Mod_quorum_13 : decode k_Mod_quorum 13 = .ok (.iload_n 2, 1) := by decide +kernel
theorem d_Mod_quorum_14 : decode k_Mod_quorum 14 = .ok (.aload_n 0, 1) := by decide +kernel
theorem d_Mod_quorum_15 : decode k_Mod_quorum 15 = .ok (.getfield 32, 3) := by decide +kernel
theorem d_Mod_quorum_18 : decode k_Mod_quorum 18 = .ok (.iload_n 1, 1) := by decide +kernel
theorem d_Mod_quorum_19 : decode k_Mod_quorum 19 = .ok (.iaload, 1) := by decide +kernel
theorem d_Mod_quorum_20 : decode k_Mod_quorum 20 = .ok (.if_icmp .le 5, 3) := by decide +kernel
theorem d_Mod_quorum_23 : decode k_Mod_quorum 23 = .ok (.iconst 0, 1) := by decide +kernel
theorem d_Mod_quorum_24 : decode k_Mod_quorum 24 = .ok (.ireturn, 1) := by decide +kernel
theorem d_Mod_quorum_25 : decode k_Mod_quorum 25 = .ok (.aload_n 0, 1) := by decide +kernel
theorem d_Mod_quorum_26 : decode k_Mod_quorum 26 = .ok (.getfield 35, 3) := by decide +kernel
theorem d_Mod_quorum_29 : decode k_Mod_quorum 29 = .ok (.iload_n 1, 1) := by decide +kernel
theorem d_Mod_quorum_30 : decode k_Mod_quorum 30 = .ok (.iload_n 2, 1) := by decide +kernel
theorem d_Mod_quorum_31 : decode k_Mod_quorum 31 = .ok (.iastore, 1) := by decide +kernel
theorem d_Mod_quorum_32 : decode k_Mod_quorum 32 = .ok (.iconst 1, 1) := by decide +kernel
theorem d_Mod_quorum_33 : decode k_Mod_quorum 33 = .ok (.ireturn, 1) := by decide +kernel
set_option maxHeartbeats 4000000 in
set_option maxRecDepth 100000 in
theorem c_Mod_quorum (l : Launch) {B : Nat} {D : va_G} {cI cZ cQ : ClassId} {w : mm_M} {sz : Nat} {b : Nat} {N : Nat → Nat → Nat} {S : Nat → Nat → Int32} {nr kr : Int32} (hM : mo_I b cI cZ N S w) (hn : N 0 0 ≤ 24) (hR : rg_I N) : Met l y_Mod_quorum ws_Mod_quorum (kk_rm 2 0 0) (kk_Pc B D cI cZ cQ [.ref (b + 14), .int nr, .int kr] w sz) (kk_Qi B D (fun r w' sz' => r = nI (if qu_ok N nr kr then 1 else 0) ∧ mo_I b cI cZ (qu_N N nr kr) S w' ∧ (∀ j, ¬ (b + 14 ≤ j ∧ j < b + 31) → w' j = w j) ∧ sz' = sz)) 0 0 (fun q => B ≤ q) := by
  refine Met.ofW (cc := k_Mod_quorum) (maxL := 3) (ret := (some .boolean)) (by decide) rfl ?_
  intro p e s m args below meth c s₁ BB hml hv
  obtain ⟨rfl, hK, hP, hz, hBz⟩ := hv
  have hx := BB.exec
  have hb := BB.bytes
  have hr := BB.returns
  have hts := atoms_spec (ws := ws_Mod_quorum) BB.pre
  have hown : s.vm.findClass "DelegationClosureModel" = some m.cls := findClass_of_methodNamed BB.named
  have hlocks := BB.notSynchronized
  have hS : mm_S B s.heap s.heap [] := va_S.rf
  have hl := lv_entry ([.ref (b + 14), .int nr, .int kr]) (n := 3) (Nat.le_of_ble_eq_true rfl)
  rw [lg_entry_eq]
  generalize (lg_sl ([.ref (b + 14), .int nr, .int kr]) ++ List.replicate (3 - (lg_sl ([.ref (b + 14), .int nr, .int kr])).length) Slot.unset).toArray = ls at hl ⊢
  have hl : lv_has ls 3 [(0, .ref (b + 14)), (1, .int nr), (2, .int kr)] := hl
  have m0 : w (b + 14) = some (.inr (9, [.int (nI (N 0 0)), .ref (b + 15), .ref (b + 16), .ref (b + 17), .ref (b + 18), .ref (b + 19), .ref (b + 20), .ref (b + 21), .ref (b + 22), .ref (b + 23), .ref (b + 24), .ref (b + 25), .ref (b + 26), .ref (b + 27), .ref (b + 28), .ref (b + 29), .int (nI (N 16 0)), .int (nI (N 17 0)), .int (nI (N 18 0)), .ref (b + 30), .int (nI (N 20 0)), .int (S 21 0), .int (S 22 0), .int (S 23 0), .int (S 24 0), .int (nI (N 25 0)), .int (nI (N 26 0))])) := hM.1
  have m1 : w (b + 15) = some (.inl (cZ, 24, .inl (fun i => nI ((N 1) i)))) := hM.2 1 (by decide) (by decide)
  have m2 : w (b + 16) = some (.inl (cZ, 24, .inl (fun i => nI ((N 2) i)))) := hM.2 2 (by decide) (by decide)
  have m3 : w (b + 17) = some (.inl (cI, 24, .inl (fun i => nI ((N 3) i)))) := hM.2 3 (by decide) (by decide)
  have m4 : w (b + 18) = some (.inl (cI, 24, .inl (fun i => nI ((N 4) i)))) := hM.2 4 (by decide) (by decide)
  have m5 : w (b + 19) = some (.inl (cI, 24, .inl (S 5))) := hM.2 5 (by decide) (by decide)
  have m6 : w (b + 20) = some (.inl (cI, 24, .inl (S 6))) := hM.2 6 (by decide) (by decide)
  have m7 : w (b + 21) = some (.inl (cI, 72, .inl (fun i => nI ((N 7) i)))) := hM.2 7 (by decide) (by decide)
  have m8 : w (b + 22) = some (.inl (cI, 24, .inl (fun i => nI ((N 8) i)))) := hM.2 8 (by decide) (by decide)
  have m9 : w (b + 23) = some (.inl (cI, 24, .inl (fun i => nI ((N 9) i)))) := hM.2 9 (by decide) (by decide)
  have m10 : w (b + 24) = some (.inl (cI, 24, .inl (fun i => nI ((N 10) i)))) := hM.2 10 (by decide) (by decide)
  have m11 : w (b + 25) = some (.inl (cI, 24, .inl (S 11))) := hM.2 11 (by decide) (by decide)
  have m12 : w (b + 26) = some (.inl (cI, 24, .inl (S 12))) := hM.2 12 (by decide) (by decide)
  have m13 : w (b + 27) = some (.inl (cZ, 24, .inl (fun i => nI ((N 13) i)))) := hM.2 13 (by decide) (by decide)
  have m14 : w (b + 28) = some (.inl (cI, 256, .inl (fun i => nI ((N 14) i)))) := hM.2 14 (by decide) (by decide)
  have m15 : w (b + 29) = some (.inl (cI, 24, .inl (fun i => nI ((N 15) i)))) := hM.2 15 (by decide) (by decide)
  have m16 : w (b + 30) = some (.inl (cI, 5, .inl (fun i => nI ((N 19) i)))) := hM.2 16 (by decide) (by decide)
  by_cases hok : qu_ok N nr kr
  · refine lv_aload_n hx hb d_Mod_quorum_0 rfl (lv_at hl 0 rfl) ?_
    refine lv_iload_n hx hb d_Mod_quorum_1 rfl (lv_at hl 1 rfl) ?_
    refine vp_callSi (va_Run.run (va_runV (As := [.int nr]) (rest := []) ⟨hx, hb, hml, hown, hts⟩ (c_Mod_isPermission l (b := b) (N := N) (S := S) hM (by omega) hR) (cwV 1 hts (gW_in (hd := [_, _, _, _, _]) (kk_5 wd_597 wd_599 sl_Mod_isPermission wd_8 cw_Mod_isPermission)) rfl rfl rfl ⟨rfl, ds_Mod_isPermission⟩ ⟨Nat.le_of_ble_eq_true rfl, Nat.le_of_ble_eq_true rfl⟩) (kk_preV hK hP hz hBz m0 rfl) rfl rfl hl.1 rfl (lv_room (Nat.le_of_ble_eq_true rfl)) d_Mod_quorum_2 ⟨Nat.le_of_ble_eq_true rfl, Nat.le_of_ble_eq_true rfl⟩)) (fun r1 hr1 => ?_)
    subst hr1
    refine lv_if_eq (tgt := 23) hx hb d_Mod_quorum_5 (by decide) (fun cc2 => ?_) (fun cc2 => ?_)
    · have cc2 := kk_b0 cc2
      exact absurd hok.1 cc2
    · have cc2 := kk_b1 cc2
      obtain ⟨j, hj, rfl⟩ := re_in hn cc2.1.1
      have hRj := hR j hj
      refine lv_iload_n hx hb d_Mod_quorum_8 rfl (lv_at hl 2 rfl) ?_
      refine lv_iconst (v := nI 1) hx hb d_Mod_quorum_9 (by decide) ?_
      refine lv_icmp_lt (tgt := 23) hx hb d_Mod_quorum_10 (by decide) (fun cc3 => ?_) (fun cc3 => ?_)
      · exact absurd cc3 hok.2.1
      · refine lv_iload_n hx hb d_Mod_quorum_13 rfl (lv_at hl 2 rfl) ?_
        refine lv_aload_n hx hb d_Mod_quorum_14 rfl (lv_at hl 0 rfl) ?_
        refine mm_get (D := D) (C := n_Mod) (T := T_Mod) (N := 27) (v := .ref (b + 22)) hx hb hts lay_Mod hown hK.1 hP m0 rfl 8 (by decide) (hts _ (List.mem_cons_of_mem _ wd_499)) (fun _ h9 => h9) rfl d_Mod_quorum_15 ?_
        refine lv_iload_n hx hb d_Mod_quorum_18 rfl (lv_at hl 1 rfl) ?_
        refine mm_iald hx hb hK.1 hP 0 m8 rfl j rfl (by omega) (by decide) d_Mod_quorum_19 ?_
        refine W.eq (g2 := F0 m 20 ls [.int (nI ((N 8) j)), .int kr]) rfl ?_
        refine lv_icmp_le (tgt := 25) hx hb d_Mod_quorum_20 (by decide) (fun cc4 => ?_) (fun cc4 => ?_)
        · obtain ⟨q9, hq1, hq2, rfl⟩ := kk_rng cc3 cc4 (by omega) (by omega)
          refine lv_aload_n hx hb d_Mod_quorum_25 rfl (lv_at hl 0 rfl) ?_
          refine mm_get (D := D) (C := n_Mod) (T := T_Mod) (N := 27) (v := .ref (b + 23)) hx hb hts lay_Mod hown hK.1 hP m0 rfl 9 (by decide) (hts _ (List.mem_cons_of_mem _ wd_500)) (fun _ h9 => h9) rfl d_Mod_quorum_26 ?_
          refine lv_iload_n hx hb d_Mod_quorum_29 rfl (lv_at hl 1 rfl) ?_
          refine lv_iload_n hx hb d_Mod_quorum_30 rfl (lv_at hl 2 rfl) ?_
          refine mm_iast hx hb hK.1 hP hS 0 m9 rfl j rfl (by omega) (by decide) d_Mod_quorum_31 (fun H locs hP hz1 hS => ?_)
          rw [show upd (fun i => nI ((N 9) i)) j (nI q9) = fun i => nI ((va_up (N 9) j q9) i) from kk_upn _ _ _] at hP
          have hz : H.size = sz := hz1.trans hz
          obtain ⟨w5, hw5⟩ : ∃ z : mm_M, z = mm_up w (b + 23) (.inl (cI, 24, .inl (fun i => nI ((va_up (N 9) j q9) i)))) := ⟨_, rfl⟩
          have hP : mm_P B D kc w5 H := by rw [hw5]; exact hP
          have fr5 : ∀ j, j ≠ b + 23 → w5 j = w j := fun j h9 => by rw [hw5]; exact mm_un h9
          have fa5 : w5 (b + 23) = some (.inl (cI, 24, .inl (fun i => nI ((va_up (N 9) j q9) i)))) := by rw [hw5]; exact mm_us _ _ _
          refine lv_iconst (v := nI 1) hx hb d_Mod_quorum_32 (by decide) ?_
          exact W.zret hx hb hr rfl (fun t ht hW => ⟨⟨_, (w5, sz), rfl, ⟨kk_ift hok, (by rw [qu_N_pos (by omega) (by omega) hok]; exact mo_mk ((fr5 _ (by omega)).trans (m0)) ((fr5 _ (by omega)).trans (m1)) ((fr5 _ (by omega)).trans (m2)) ((fr5 _ (by omega)).trans (m3)) ((fr5 _ (by omega)).trans (m4)) ((fr5 _ (by omega)).trans (m5)) ((fr5 _ (by omega)).trans (m6)) ((fr5 _ (by omega)).trans (m7)) ((fr5 _ (by omega)).trans (m8)) fa5 ((fr5 _ (by omega)).trans (m10)) ((fr5 _ (by omega)).trans (m11)) ((fr5 _ (by omega)).trans (m12)) ((fr5 _ (by omega)).trans (m13)) ((fr5 _ (by omega)).trans (m14)) ((fr5 _ (by omega)).trans (m15)) ((fr5 _ (by omega)).trans (m16))), (fun j hj => fr5 j (by omega)), rfl⟩, by rw [ht]; exact hP, by rw [ht]; exact hz⟩, hS.F ht⟩) hS.2.2 d_Mod_quorum_33
        · exact absurd (by have := hok.2.2; rw [nI_clamp (by omega)] at this; exact Int32.not_lt.mp this) cc4
  · refine lv_aload_n hx hb d_Mod_quorum_0 rfl (lv_at hl 0 rfl) ?_
    refine lv_iload_n hx hb d_Mod_quorum_1 rfl (lv_at hl 1 rfl) ?_
    refine vp_callSi (va_Run.run (va_runV (As := [.int nr]) (rest := []) ⟨hx, hb, hml, hown, hts⟩ (c_Mod_isPermission l (b := b) (N := N) (S := S) hM (by omega) hR) (cwV 1 hts (gW_in (hd := [_, _, _, _, _]) (kk_5 wd_597 wd_599 sl_Mod_isPermission wd_8 cw_Mod_isPermission)) rfl rfl rfl ⟨rfl, ds_Mod_isPermission⟩ ⟨Nat.le_of_ble_eq_true rfl, Nat.le_of_ble_eq_true rfl⟩) (kk_preV hK hP hz hBz m0 rfl) rfl rfl hl.1 rfl (lv_room (Nat.le_of_ble_eq_true rfl)) d_Mod_quorum_2 ⟨Nat.le_of_ble_eq_true rfl, Nat.le_of_ble_eq_true rfl⟩)) (fun r6 hr6 => ?_)
    subst hr6
    refine lv_if_eq (tgt := 23) hx hb d_Mod_quorum_5 (by decide) (fun cc7 => ?_) (fun cc7 => ?_)
    · have cc7 := kk_b0 cc7
      refine lv_iconst (v := nI 0) hx hb d_Mod_quorum_23 (by decide) ?_
      exact W.zret hx hb hr rfl (fun t ht hW => ⟨⟨_, (w, sz), rfl, ⟨kk_iff hok, (by rw [show qu_N N _ _ = N from if_neg hok]; exact mo_mk m0 m1 m2 m3 m4 m5 m6 m7 m8 m9 m10 m11 m12 m13 m14 m15 m16), (fun j hj => rfl), rfl⟩, by rw [ht]; exact hP, by rw [ht]; exact hz⟩, hS.F ht⟩) hS.2.2 d_Mod_quorum_24
    · have cc7 := kk_b1 cc7
      obtain ⟨j, hj, rfl⟩ := re_in hn cc7.1.1
      have hRj := hR j hj
      refine lv_iload_n hx hb d_Mod_quorum_8 rfl (lv_at hl 2 rfl) ?_
      refine lv_iconst (v := nI 1) hx hb d_Mod_quorum_9 (by decide) ?_
      refine lv_icmp_lt (tgt := 23) hx hb d_Mod_quorum_10 (by decide) (fun cc8 => ?_) (fun cc8 => ?_)
      · refine lv_iconst (v := nI 0) hx hb d_Mod_quorum_23 (by decide) ?_
        exact W.zret hx hb hr rfl (fun t ht hW => ⟨⟨_, (w, sz), rfl, ⟨kk_iff hok, (by rw [show qu_N N _ _ = N from if_neg hok]; exact mo_mk m0 m1 m2 m3 m4 m5 m6 m7 m8 m9 m10 m11 m12 m13 m14 m15 m16), (fun j hj => rfl), rfl⟩, by rw [ht]; exact hP, by rw [ht]; exact hz⟩, hS.F ht⟩) hS.2.2 d_Mod_quorum_24
      · refine lv_iload_n hx hb d_Mod_quorum_13 rfl (lv_at hl 2 rfl) ?_
        refine lv_aload_n hx hb d_Mod_quorum_14 rfl (lv_at hl 0 rfl) ?_
        refine mm_get (D := D) (C := n_Mod) (T := T_Mod) (N := 27) (v := .ref (b + 22)) hx hb hts lay_Mod hown hK.1 hP m0 rfl 8 (by decide) (hts _ (List.mem_cons_of_mem _ wd_499)) (fun _ h9 => h9) rfl d_Mod_quorum_15 ?_
        refine lv_iload_n hx hb d_Mod_quorum_18 rfl (lv_at hl 1 rfl) ?_
        refine mm_iald hx hb hK.1 hP 0 m8 rfl j rfl (by omega) (by decide) d_Mod_quorum_19 ?_
        refine W.eq (g2 := F0 m 20 ls [.int (nI ((N 8) j)), .int kr]) rfl ?_
        refine lv_icmp_le (tgt := 25) hx hb d_Mod_quorum_20 (by decide) (fun cc9 => ?_) (fun cc9 => ?_)
        · exact absurd ⟨cc7, cc8, by rw [nI_clamp (by omega)]; exact Int32.not_lt.mpr cc9⟩ hok
        · refine lv_iconst (v := nI 0) hx hb d_Mod_quorum_23 (by decide) ?_
          exact W.zret hx hb hr rfl (fun t ht hW => ⟨⟨_, (w, sz), rfl, ⟨kk_iff hok, (by rw [show qu_N N _ _ = N from if_neg hok]; exact mo_mk m0 m1 m2 m3 m4 m5 m6 m7 m8 m9 m10 m11 m12 m13 m14 m15 m16), (fun j hj => rfl), rfl⟩, by rw [ht]; exact hP, by rw [ht]; exact hz⟩, hS.F ht⟩) hS.2.2 d_Mod_quorum_24
theorem d_Mod_revoke_0 : decode k_Mod_revoke 0 = .ok (.aload_n 0, 1) := by decide +kernel
theorem d_Mod_revoke_1 : decode k_Mod_revoke 1 = .ok (.iload_n 1, 1) := by decide +kernel
theorem d_Mod_revoke_2 : decode k_Mod_revoke 2 = .ok (.invokevirtual 77, 3) := by decide +kernel
theorem d_Mod_revoke_5 : decode k_Mod_revoke 5 = .ok (.ifCond .ne 5, 3) := by decide +kernel
theorem d_Mod_revoke_8 : decode k_Mod_revoke 8 = .ok (.iconst 0, 1) := by decide +kernel
theorem d_Mod_revoke_9 : decode k_Mod_revoke 9 = .ok (.ireturn, 1) := by decide +kernel
theorem d_Mod_revoke_10 : decode k_Mod_revoke 10 = .ok (.aload_n 0, 1) := by decide +kernel
theorem d_Mod_revoke_11 : decode k_Mod_revoke 11 = .ok (.getfield 7, 3) := by decide +kernel
theorem d_Mod_revoke_14 : decode k_Mod_revoke 14 = .ok (.iload_n 1, 1) := by decide +kernel
theorem d_Mod_revoke_15 : decode k_Mod_revoke 15 = .ok (.iconst 1, 1) := by decide +kernel
theorem d_Mod_revoke_16 : decode k_Mod_revoke 16 = .ok (.bastore, 1) := by decide +kernel
theorem d_Mod_revoke_17 : decode k_Mod_revoke 17 = .ok (.iconst 1, 1) := by decide +kernel
theorem d_Mod_revoke_18 : decode k_Mod_revoke 18 = .ok (.ireturn, 1) := by decide +kernel
set_option maxHeartbeats 4000000 in
set_option maxRecDepth 100000 in
theorem c_Mod_revoke (l : Launch) {B : Nat} {D : va_G} {cI cZ cQ : ClassId} {w : mm_M} {sz : Nat} {b : Nat} {N : Nat → Nat → Nat} {S : Nat → Nat → Int32} {nr : Int32} (hM : mo_I b cI cZ N S w) (hn : N 0 0 ≤ 24) (hR : rg_I N) : Met l y_Mod_revoke ws_Mod_revoke (kk_rm 1 0 0) (kk_Pc B D cI cZ cQ [.ref (b + 14), .int nr] w sz) (kk_Qi B D (fun r w' sz' => r = nI (if re_th N nr then 1 else 0) ∧ mo_I b cI cZ (rv_N N nr) S w' ∧ (∀ j, ¬ (b + 14 ≤ j ∧ j < b + 31) → w' j = w j) ∧ sz' = sz)) 0 0 (fun q => B ≤ q) := by
  refine Met.ofW (cc := k_Mod_revoke) (maxL := 2) (ret := (some .boolean)) (by decide) rfl ?_
  intro p e s m args below meth c s₁ BB hml hv
  obtain ⟨rfl, hK, hP, hz, hBz⟩ := hv
  have hx := BB.exec
  have hb := BB.bytes
  have hr := BB.returns
  have hts := atoms_spec (ws := ws_Mod_revoke) BB.pre
  have hown : s.vm.findClass "DelegationClosureModel" = some m.cls := findClass_of_methodNamed BB.named
  have hlocks := BB.notSynchronized
  have hS : mm_S B s.heap s.heap [] := va_S.rf
  have hl := lv_entry ([.ref (b + 14), .int nr]) (n := 2) (Nat.le_of_ble_eq_true rfl)
  rw [lg_entry_eq]
  generalize (lg_sl ([.ref (b + 14), .int nr]) ++ List.replicate (2 - (lg_sl ([.ref (b + 14), .int nr])).length) Slot.unset).toArray = ls at hl ⊢
  have hl : lv_has ls 2 [(0, .ref (b + 14)), (1, .int nr)] := hl
  have m0 : w (b + 14) = some (.inr (9, [.int (nI (N 0 0)), .ref (b + 15), .ref (b + 16), .ref (b + 17), .ref (b + 18), .ref (b + 19), .ref (b + 20), .ref (b + 21), .ref (b + 22), .ref (b + 23), .ref (b + 24), .ref (b + 25), .ref (b + 26), .ref (b + 27), .ref (b + 28), .ref (b + 29), .int (nI (N 16 0)), .int (nI (N 17 0)), .int (nI (N 18 0)), .ref (b + 30), .int (nI (N 20 0)), .int (S 21 0), .int (S 22 0), .int (S 23 0), .int (S 24 0), .int (nI (N 25 0)), .int (nI (N 26 0))])) := hM.1
  have m1 : w (b + 15) = some (.inl (cZ, 24, .inl (fun i => nI ((N 1) i)))) := hM.2 1 (by decide) (by decide)
  have m2 : w (b + 16) = some (.inl (cZ, 24, .inl (fun i => nI ((N 2) i)))) := hM.2 2 (by decide) (by decide)
  have m3 : w (b + 17) = some (.inl (cI, 24, .inl (fun i => nI ((N 3) i)))) := hM.2 3 (by decide) (by decide)
  have m4 : w (b + 18) = some (.inl (cI, 24, .inl (fun i => nI ((N 4) i)))) := hM.2 4 (by decide) (by decide)
  have m5 : w (b + 19) = some (.inl (cI, 24, .inl (S 5))) := hM.2 5 (by decide) (by decide)
  have m6 : w (b + 20) = some (.inl (cI, 24, .inl (S 6))) := hM.2 6 (by decide) (by decide)
  have m7 : w (b + 21) = some (.inl (cI, 72, .inl (fun i => nI ((N 7) i)))) := hM.2 7 (by decide) (by decide)
  have m8 : w (b + 22) = some (.inl (cI, 24, .inl (fun i => nI ((N 8) i)))) := hM.2 8 (by decide) (by decide)
  have m9 : w (b + 23) = some (.inl (cI, 24, .inl (fun i => nI ((N 9) i)))) := hM.2 9 (by decide) (by decide)
  have m10 : w (b + 24) = some (.inl (cI, 24, .inl (fun i => nI ((N 10) i)))) := hM.2 10 (by decide) (by decide)
  have m11 : w (b + 25) = some (.inl (cI, 24, .inl (S 11))) := hM.2 11 (by decide) (by decide)
  have m12 : w (b + 26) = some (.inl (cI, 24, .inl (S 12))) := hM.2 12 (by decide) (by decide)
  have m13 : w (b + 27) = some (.inl (cZ, 24, .inl (fun i => nI ((N 13) i)))) := hM.2 13 (by decide) (by decide)
  have m14 : w (b + 28) = some (.inl (cI, 256, .inl (fun i => nI ((N 14) i)))) := hM.2 14 (by decide) (by decide)
  have m15 : w (b + 29) = some (.inl (cI, 24, .inl (fun i => nI ((N 15) i)))) := hM.2 15 (by decide) (by decide)
  have m16 : w (b + 30) = some (.inl (cI, 5, .inl (fun i => nI ((N 19) i)))) := hM.2 16 (by decide) (by decide)
  refine lv_aload_n hx hb d_Mod_revoke_0 rfl (lv_at hl 0 rfl) ?_
  refine lv_iload_n hx hb d_Mod_revoke_1 rfl (lv_at hl 1 rfl) ?_
  refine vp_callSi (va_Run.run (va_runV (As := [.int nr]) (rest := []) ⟨hx, hb, hml, hown, hts⟩ (c_Mod_isThere l (b := b) (N := N) (S := S) hM (by omega) hR) (cwV 1 hts (gW_in (hd := [_, _, _, _, _]) (kk_5 wd_601 wd_603 sl_Mod_isThere wd_8 cw_Mod_isThere)) rfl rfl rfl ⟨rfl, ds_Mod_isThere⟩ ⟨Nat.le_of_ble_eq_true rfl, Nat.le_of_ble_eq_true rfl⟩) (kk_preV hK hP hz hBz m0 rfl) rfl rfl hl.1 rfl (lv_room (Nat.le_of_ble_eq_true rfl)) d_Mod_revoke_2 ⟨Nat.le_of_ble_eq_true rfl, Nat.le_of_ble_eq_true rfl⟩)) (fun r1 hr1 => ?_)
  subst hr1
  refine lv_if_ne (tgt := 10) hx hb d_Mod_revoke_5 (by decide) (fun cc2 => ?_) (fun cc2 => ?_)
  · have cc2 := kk_b1 cc2
    obtain ⟨j, hj, rfl⟩ := re_in hn cc2.1
    have hRj := hR j hj
    refine lv_aload_n hx hb d_Mod_revoke_10 rfl (lv_at hl 0 rfl) ?_
    refine mm_get (D := D) (C := n_Mod) (T := T_Mod) (N := 27) (v := .ref (b + 15)) hx hb hts lay_Mod hown hK.1 hP m0 rfl 1 (by decide) (hts _ (List.mem_cons_of_mem _ wd_492)) (fun _ h9 => h9) rfl d_Mod_revoke_11 ?_
    refine lv_iload_n hx hb d_Mod_revoke_14 rfl (lv_at hl 1 rfl) ?_
    refine lv_iconst (v := nI 1) hx hb d_Mod_revoke_15 (by decide) ?_
    refine mm_zast hx hb hK.1 hP hS 1 m1 rfl j rfl (by omega) (by decide) rfl d_Mod_revoke_16 (fun H locs hP hz1 hS => ?_)
    rw [show upd (fun i => nI ((N 1) i)) j (nI 1) = fun i => nI ((va_up (N 1) j 1) i) from kk_upn _ _ _] at hP
    have hz : H.size = sz := hz1.trans hz
    obtain ⟨w3, hw3⟩ : ∃ z : mm_M, z = mm_up w (b + 15) (.inl (cZ, 24, .inl (fun i => nI ((va_up (N 1) j 1) i)))) := ⟨_, rfl⟩
    have hP : mm_P B D kc w3 H := by rw [hw3]; exact hP
    have fr3 : ∀ j, j ≠ b + 15 → w3 j = w j := fun j h9 => by rw [hw3]; exact mm_un h9
    have fa3 : w3 (b + 15) = some (.inl (cZ, 24, .inl (fun i => nI ((va_up (N 1) j 1) i)))) := by rw [hw3]; exact mm_us _ _ _
    refine lv_iconst (v := nI 1) hx hb d_Mod_revoke_17 (by decide) ?_
    exact W.zret hx hb hr rfl (fun t ht hW => ⟨⟨_, (w3, sz), rfl, ⟨kk_ift cc2, (by rw [rv_N_pos (by omega) cc2]; exact mo_mk ((fr3 _ (by omega)).trans (m0)) fa3 ((fr3 _ (by omega)).trans (m2)) ((fr3 _ (by omega)).trans (m3)) ((fr3 _ (by omega)).trans (m4)) ((fr3 _ (by omega)).trans (m5)) ((fr3 _ (by omega)).trans (m6)) ((fr3 _ (by omega)).trans (m7)) ((fr3 _ (by omega)).trans (m8)) ((fr3 _ (by omega)).trans (m9)) ((fr3 _ (by omega)).trans (m10)) ((fr3 _ (by omega)).trans (m11)) ((fr3 _ (by omega)).trans (m12)) ((fr3 _ (by omega)).trans (m13)) ((fr3 _ (by omega)).trans (m14)) ((fr3 _ (by omega)).trans (m15)) ((fr3 _ (by omega)).trans (m16))), (fun j hj => fr3 j (by omega)), rfl⟩, by rw [ht]; exact hP, by rw [ht]; exact hz⟩, hS.F ht⟩) hS.2.2 d_Mod_revoke_18
  · have cc2 := kk_b0 cc2
    refine lv_iconst (v := nI 0) hx hb d_Mod_revoke_8 (by decide) ?_
    exact W.zret hx hb hr rfl (fun t ht hW => ⟨⟨_, (w, sz), rfl, ⟨kk_iff cc2, (by rw [show rv_N N _ = N from if_neg cc2]; exact mo_mk m0 m1 m2 m3 m4 m5 m6 m7 m8 m9 m10 m11 m12 m13 m14 m15 m16), (fun j hj => rfl), rfl⟩, by rw [ht]; exact hP, by rw [ht]; exact hz⟩, hS.F ht⟩) hS.2.2 d_Mod_revoke_9
theorem d_Mod_certificates_0 : decode k_Mod_certificates 0 = .ok (.aload_n 0, 1) := by decide +kernel
theorem d_Mod_certificates_1 : decode k_Mod_certificates 1 = .ok (.getfield 63, 3) := by decide +kernel
theorem d_Mod_certificates_4 : decode k_Mod_certificates 4 = .ok (.ireturn, 1) := by decide +kernel
set_option maxHeartbeats 4000000 in
set_option maxRecDepth 100000 in
theorem c_Mod_certificates (l : Launch) {B : Nat} {D : va_G} {cI cZ cQ : ClassId} {w : mm_M} {sz : Nat} {b : Nat} {N : Nat → Nat → Nat} {S : Nat → Nat → Int32}  (hM : mo_I b cI cZ N S w)  : Met l y_Mod_certificates ws_Mod_certificates (kk_rm 0 0 0) (kk_Pc B D cI cZ cQ [.ref (b + 14)] w sz) (vp_Si (fun r => r = nI (N 0 0))) 0 0 (fun _ => False) := by
  refine Met.ofW (cc := k_Mod_certificates) (maxL := 1) (ret := (some .int)) (by decide) rfl ?_
  intro p e s m args below meth c s₁ BB hml hv
  obtain ⟨rfl, hK, hP, hz, hBz⟩ := hv
  have hx := BB.exec
  have hb := BB.bytes
  have hr := BB.returns
  have hts := atoms_spec (ws := ws_Mod_certificates) BB.pre
  have hown : s.vm.findClass "DelegationClosureModel" = some m.cls := findClass_of_methodNamed BB.named
  have hlocks := BB.notSynchronized
  have hS : mm_S B s.heap s.heap [] := va_S.rf
  have hl := lv_entry ([.ref (b + 14)]) (n := 1) (Nat.le_of_ble_eq_true rfl)
  rw [lg_entry_eq]
  generalize (lg_sl ([.ref (b + 14)]) ++ List.replicate (1 - (lg_sl ([.ref (b + 14)])).length) Slot.unset).toArray = ls at hl ⊢
  have hl : lv_has ls 1 [(0, .ref (b + 14))] := hl
  have m0 : w (b + 14) = some (.inr (9, [.int (nI (N 0 0)), .ref (b + 15), .ref (b + 16), .ref (b + 17), .ref (b + 18), .ref (b + 19), .ref (b + 20), .ref (b + 21), .ref (b + 22), .ref (b + 23), .ref (b + 24), .ref (b + 25), .ref (b + 26), .ref (b + 27), .ref (b + 28), .ref (b + 29), .int (nI (N 16 0)), .int (nI (N 17 0)), .int (nI (N 18 0)), .ref (b + 30), .int (nI (N 20 0)), .int (S 21 0), .int (S 22 0), .int (S 23 0), .int (S 24 0), .int (nI (N 25 0)), .int (nI (N 26 0))])) := hM.1
  have m1 : w (b + 15) = some (.inl (cZ, 24, .inl (fun i => nI ((N 1) i)))) := hM.2 1 (by decide) (by decide)
  have m2 : w (b + 16) = some (.inl (cZ, 24, .inl (fun i => nI ((N 2) i)))) := hM.2 2 (by decide) (by decide)
  have m3 : w (b + 17) = some (.inl (cI, 24, .inl (fun i => nI ((N 3) i)))) := hM.2 3 (by decide) (by decide)
  have m4 : w (b + 18) = some (.inl (cI, 24, .inl (fun i => nI ((N 4) i)))) := hM.2 4 (by decide) (by decide)
  have m5 : w (b + 19) = some (.inl (cI, 24, .inl (S 5))) := hM.2 5 (by decide) (by decide)
  have m6 : w (b + 20) = some (.inl (cI, 24, .inl (S 6))) := hM.2 6 (by decide) (by decide)
  have m7 : w (b + 21) = some (.inl (cI, 72, .inl (fun i => nI ((N 7) i)))) := hM.2 7 (by decide) (by decide)
  have m8 : w (b + 22) = some (.inl (cI, 24, .inl (fun i => nI ((N 8) i)))) := hM.2 8 (by decide) (by decide)
  have m9 : w (b + 23) = some (.inl (cI, 24, .inl (fun i => nI ((N 9) i)))) := hM.2 9 (by decide) (by decide)
  have m10 : w (b + 24) = some (.inl (cI, 24, .inl (fun i => nI ((N 10) i)))) := hM.2 10 (by decide) (by decide)
  have m11 : w (b + 25) = some (.inl (cI, 24, .inl (S 11))) := hM.2 11 (by decide) (by decide)
  have m12 : w (b + 26) = some (.inl (cI, 24, .inl (S 12))) := hM.2 12 (by decide) (by decide)
  have m13 : w (b + 27) = some (.inl (cZ, 24, .inl (fun i => nI ((N 13) i)))) := hM.2 13 (by decide) (by decide)
  have m14 : w (b + 28) = some (.inl (cI, 256, .inl (fun i => nI ((N 14) i)))) := hM.2 14 (by decide) (by decide)
  have m15 : w (b + 29) = some (.inl (cI, 24, .inl (fun i => nI ((N 15) i)))) := hM.2 15 (by decide) (by decide)
  have m16 : w (b + 30) = some (.inl (cI, 5, .inl (fun i => nI ((N 19) i)))) := hM.2 16 (by decide) (by decide)
  refine lv_aload_n hx hb d_Mod_certificates_0 rfl (lv_at hl 0 rfl) ?_
  refine mm_get (D := D) (C := n_Mod) (T := T_Mod) (N := 27) (v := .int (nI (N 0 0))) hx hb hts lay_Mod hown hK.1 hP m0 rfl 0 (by decide) (hts _ (List.mem_cons_of_mem _ wd_491)) (fun _ h9 => h9) rfl d_Mod_certificates_1 ?_
  exact W.iret hx hb hr (fun t ht hW => ⟨_, rfl, rfl, ht⟩) (fun q hq => by cases hq) d_Mod_certificates_4
