theorem d_Mod_counts_0 : decode k_Mod_counts 0 = .ok (.aload_n 0, 1) := by decide +kernel
theorem d_Mod_counts_1 : decode k_Mod_counts 1 = .ok (.iload_n 1, 1) := by decide +kernel
theorem d_Mod_counts_2 : decode k_Mod_counts 2 = .ok (.iload 4, 2) := by decide +kernel
theorem d_Mod_counts_4 : decode k_Mod_counts 4 = .ok (.invokevirtual 91, 3) := by decide +kernel
theorem d_Mod_counts_7 : decode k_Mod_counts 7 = .ok (.ifCond .eq 50, 3) := by decide +kernel
theorem d_Mod_counts_10 : decode k_Mod_counts 10 = .ok (.aload_n 0, 1) := by decide +kernel
theorem d_Mod_counts_11 : decode k_Mod_counts 11 = .ok (.getfield 13, 3) := by decide +kernel
theorem d_Mod_counts_14 : decode k_Mod_counts 14 = .ok (.iload_n 1, 1) := by decide +kernel
theorem d_Mod_counts_15 : decode k_Mod_counts 15 = .ok (.baload, 1) := by decide +kernel
theorem d_Mod_counts_16 : decode k_Mod_counts 16 = .ok (.ifCond .ne 41, 3) := by decide +kernel
theorem d_Mod_counts_19 : decode k_Mod_counts 19 = .ok (.aload_n 0, 1) := by decide +kernel
theorem d_Mod_counts_20 : decode k_Mod_counts 20 = .ok (.getfield 38, 3) := by decide +kernel
theorem d_Mod_counts_23 : decode k_Mod_counts 23 = .ok (.iload_n 1, 1) := by decide +kernel
theorem d_Mod_counts_24 : decode k_Mod_counts 24 = .ok (.iaload, 1) := by decide +kernel
theorem d_Mod_counts_25 : decode k_Mod_counts 25 = .ok (.iload_n 2, 1) := by decide +kernel
theorem d_Mod_counts_26 : decode k_Mod_counts 26 = .ok (.ishr, 1) := by decide +kernel
theorem d_Mod_counts_27 : decode k_Mod_counts 27 = .ok (.iconst 1, 1) := by decide +kernel
theorem d_Mod_counts_28 : decode k_Mod_counts 28 = .ok (.iand, 1) := by decide +kernel
theorem d_Mod_counts_29 : decode k_Mod_counts 29 = .ok (.iconst 1, 1) := by decide +kernel
theorem d_Mod_counts_30 : decode k_Mod_counts 30 = .ok (.if_icmp .ne 27, 3) := by decide +kernel
theorem d_Mod_counts_33 : decode k_Mod_counts 33 = .ok (.aload_n 0, 1) := by decide +kernel
theorem d_Mod_counts_34 : decode k_Mod_counts 34 = .ok (.getfield 41, 3) := by decide +kernel
theorem d_Mod_counts_37 : decode k_Mod_counts 37 = .ok (.iload_n 1, 1) := by decide +kernel
theorem d_Mod_counts_38 : decode k_Mod_counts 38 = .ok (.iaload, 1) := by decide +kernel
theorem d_Mod_counts_39 : decode k_Mod_counts 39 = .ok (.iload_n 3, 1) := by decide +kernel
theorem d_Mod_counts_40 : decode k_Mod_counts 40 = .ok (.if_icmp .gt 17, 3) := by decide +kernel
theorem d_Mod_counts_43 : decode k_Mod_counts 43 = .ok (.iload_n 3, 1) := by decide +kernel
theorem d_Mod_counts_44 : decode k_Mod_counts 44 = .ok (.aload_n 0, 1) := by decide +kernel
theorem d_Mod_counts_45 : decode k_Mod_counts 45 = .ok (.getfield 44, 3) := by decide +kernel
theorem d_Mod_counts_48 : decode k_Mod_counts 48 = .ok (.iload_n 1, 1) := by decide +kernel
theorem d_Mod_counts_49 : decode k_Mod_counts 49 = .ok (.iaload, 1) := by decide +kernel
theorem d_Mod_counts_50 : decode k_Mod_counts 50 = .ok (.if_icmp .gt 7, 3) := by decide +kernel
theorem d_Mod_counts_53 : decode k_Mod_counts 53 = .ok (.iconst 1, 1) := by decide +kernel
theorem d_Mod_counts_54 : decode k_Mod_counts 54 = .ok (.goto 4, 3) := by decide +kernel
theorem d_Mod_counts_57 : decode k_Mod_counts 57 = .ok (.iconst 0, 1) := by decide +kernel
theorem d_Mod_counts_58 : decode k_Mod_counts 58 = .ok (.ireturn, 1) := by decide +kernel
set_option maxHeartbeats 4000000 in
set_option maxRecDepth 100000 in
theorem c_Mod_counts (l : Launch) {B : Nat} {D : va_G} {cI cZ cQ : ClassId} {w : mm_M} {sz : Nat} {b : Nat} {N : Nat → Nat → Nat} {S : Nat → Nat → Int32} {j o9 : Nat} {z9 t9 : Int32} (hM : mo_I b cI cZ N S w) (hn : N 0 0 ≤ 24) (hR : rg_I N) (hj : j < N 0 0) (ho : o9 < 8) : Met l y_Mod_counts ws_Mod_counts (kk_rm 2 0 0) (kk_Pc B D cI cZ cQ [.ref (b + 14), .int (nI j), .int (nI o9), .int z9, .int t9] w sz) (vp_Si (fun r => r = nI (if ld_ok N S o9 z9 t9 j then 1 else 0))) 0 0 (fun _ => False) := by
  refine Met.ofW (cc := k_Mod_counts) (maxL := 5) (ret := (some .boolean)) (by decide) rfl ?_
  intro p e s m args below meth c s₁ BB hml hv
  obtain ⟨rfl, hK, hP, hz, hBz⟩ := hv
  have hx := BB.exec
  have hb := BB.bytes
  have hr := BB.returns
  have hts := atoms_spec (ws := ws_Mod_counts) BB.pre
  have hown : s.vm.findClass "DelegationClosureModel" = some m.cls := findClass_of_methodNamed BB.named
  have hlocks := BB.notSynchronized
  have hS : mm_S B s.heap s.heap [] := va_S.rf
  have hl := lv_entry ([.ref (b + 14), .int (nI j), .int (nI o9), .int z9, .int t9]) (n := 5) (Nat.le_of_ble_eq_true rfl)
  rw [lg_entry_eq]
  generalize (lg_sl ([.ref (b + 14), .int (nI j), .int (nI o9), .int z9, .int t9]) ++ List.replicate (5 - (lg_sl ([.ref (b + 14), .int (nI j), .int (nI o9), .int z9, .int t9])).length) Slot.unset).toArray = ls at hl ⊢
  have hl : lv_has ls 5 [(0, .ref (b + 14)), (1, .int (nI j)), (2, .int (nI o9)), (3, .int z9), (4, .int t9)] := hl
  have m0 : w (b + 14) = some (.inr (9, [.int (nI (N 0 0)), .ref (b + 15), .ref (b + 16), .ref (b + 17), .ref (b + 18), .ref (b + 19), .ref (b + 20), .ref (b + 21), .ref (b + 22), .ref (b + 23), .ref (b + 24), .ref (b + 25), .ref (b + 26), .ref (b + 27), .ref (b + 28), .ref (b + 29), .int (nI (N 16 0)), .int (nI (N 17 0)), .int (nI (N 18 0)), .ref (b + 30), .int (nI (N 20 0)), .int (S 21 0), .int (S 22 0), .int (S 23 0), .int (S 24 0), .int (nI (N 25 0)), .int (nI (N 26 0))])) := hM.1
  have m1 : w (b + 15) = some (.inl (cZ, 24, .inl (fun i => nI ((N 1) i)))) := hM.2 1 (by decide) (by decide)
  have m2 : w (b + 16) = some (.inl (cZ, 24, .inl (fun i => nI ((N 2) i)))) := hM.2 2 (by decide) (by decide)
  have m3 : w (b + 17) = some (.inl (cI, 24, .inl (fun i => nI ((N 3) i)))) := hM.2 3 (by decide) (by decide)
  have m4 : w (b + 18) = some (.inl (cI, 24, .inl (fun i => nI ((N 4) i)))) := hM.2 4 (by decide) (by decide)
  have m5 : w (b + 19) = some (.inl (cI, 24, .inl (S 5))) := hM.2 5 (by decide) (by decide)
  have m6 : w (b + 20) = some (.inl (cI, 24, .inl (S 6))) := hM.2 6 (by decide) (by decide)
  have m7 : w (b + 21) = some (.inl (cI, 72, .inl (fun i => nI ((N 7) i)))) := hM.2 7 (by decide) (by decide)
  have m8 : w (b + 22) = some (.inl (cI, 24, .inl (fun i => nI ((N 8) i)))) := hM.2 8 (by decide) (by decide)
  have m9 : w (b + 23) = some (.inl (cI, 24, .inl (fun i => nI ((N 9) i)))) := hM.2 9 (by decide) (by decide)
  have m10 : w (b + 24) = some (.inl (cI, 24, .inl (fun i => nI ((N 10) i)))) := hM.2 10 (by decide) (by decide)
  have m11 : w (b + 25) = some (.inl (cI, 24, .inl (S 11))) := hM.2 11 (by decide) (by decide)
  have m12 : w (b + 26) = some (.inl (cI, 24, .inl (S 12))) := hM.2 12 (by decide) (by decide)
  have m13 : w (b + 27) = some (.inl (cZ, 24, .inl (fun i => nI ((N 13) i)))) := hM.2 13 (by decide) (by decide)
  have m14 : w (b + 28) = some (.inl (cI, 256, .inl (fun i => nI ((N 14) i)))) := hM.2 14 (by decide) (by decide)
  have m15 : w (b + 29) = some (.inl (cI, 24, .inl (fun i => nI ((N 15) i)))) := hM.2 15 (by decide) (by decide)
  have m16 : w (b + 30) = some (.inl (cI, 5, .inl (fun i => nI ((N 19) i)))) := hM.2 16 (by decide) (by decide)
  have hRj := hR j hj
  refine lv_aload_n hx hb d_Mod_counts_0 rfl (lv_at hl 0 rfl) ?_
  refine lv_iload_n hx hb d_Mod_counts_1 rfl (lv_at hl 1 rfl) ?_
  refine lv_iload hx hb d_Mod_counts_2 (lv_at hl 4 rfl) ?_
  refine vp_callSi (va_Run.run (va_runV (As := [.int (nI j), .int t9]) (rest := []) ⟨hx, hb, hml, hown, hts⟩ (c_Mod_isValid l (b := b) (N := N) (S := S) hM hn hR hj) (cwV 2 hts (gW_in (hd := [_, _, _, _, _]) (kk_5 wd_633 wd_635 sl_Mod_isValid wd_8 cw_Mod_isValid)) rfl rfl rfl ⟨rfl, ds_Mod_isValid⟩ ⟨Nat.le_of_ble_eq_true rfl, Nat.le_of_ble_eq_true rfl⟩) (kk_preV hK hP hz hBz m0 rfl) rfl rfl hl.1 rfl (lv_room (Nat.le_of_ble_eq_true rfl)) d_Mod_counts_4 ⟨Nat.le_of_ble_eq_true rfl, Nat.le_of_ble_eq_true rfl⟩)) (fun r1 hr1 => ?_)
  subst hr1
  refine lv_if_eq (tgt := 57) hx hb d_Mod_counts_7 (by decide) (fun cc2 => ?_) (fun cc2 => ?_)
  · have cc2 := kk_b0 cc2
    refine lv_iconst (v := nI 0) hx hb d_Mod_counts_57 (by decide) ?_
    exact W.zret hx hb hr rfl (fun t ht hW => ⟨_, rfl, kk_iff (fun q => cc2 ⟨q.1, q.2.2.1⟩), ht⟩) (fun q hq => by cases hq) d_Mod_counts_58
  · have cc2 := kk_b1 cc2
    refine lv_aload_n hx hb d_Mod_counts_10 rfl (lv_at hl 0 rfl) ?_
    refine mm_get (D := D) (C := n_Mod) (T := T_Mod) (N := 27) (v := .ref (b + 16)) hx hb hts lay_Mod hown hK.1 hP m0 rfl 2 (by decide) (hts _ (List.mem_cons_of_mem _ wd_493)) (fun _ h9 => h9) rfl d_Mod_counts_11 ?_
    refine lv_iload_n hx hb d_Mod_counts_14 rfl (lv_at hl 1 rfl) ?_
    refine mm_zald hx hb hK.1 hP 1 m2 rfl j rfl (by omega) (by decide) d_Mod_counts_15 ?_
    refine W.eq (g2 := F0 m 16 ls [.int (nI ((N 2) j))]) rfl ?_
    refine lv_if_ne (tgt := 57) hx hb d_Mod_counts_16 (by decide) (fun cc3 => ?_) (fun cc3 => ?_)
    · rw [← nI_0] at cc3
      have cc3 : ¬ ((N 2) j = 0) := fun q => cc3 ((nI_eq (by omega) (by omega)).mpr q)
      refine lv_iconst (v := nI 0) hx hb d_Mod_counts_57 (by decide) ?_
      exact W.zret hx hb hr rfl (fun t ht hW => ⟨_, rfl, kk_iff (fun q => cc3 q.2.1), ht⟩) (fun q hq => by cases hq) d_Mod_counts_58
    · rw [← nI_0] at cc3
      have cc3 : (N 2) j = 0 := (nI_eq (by omega) (by omega)).mp cc3
      refine lv_aload_n hx hb d_Mod_counts_19 rfl (lv_at hl 0 rfl) ?_
      refine mm_get (D := D) (C := n_Mod) (T := T_Mod) (N := 27) (v := .ref (b + 24)) hx hb hts lay_Mod hown hK.1 hP m0 rfl 10 (by decide) (hts _ (List.mem_cons_of_mem _ wd_501)) (fun _ h9 => h9) rfl d_Mod_counts_20 ?_
      refine lv_iload_n hx hb d_Mod_counts_23 rfl (lv_at hl 1 rfl) ?_
      refine mm_iald hx hb hK.1 hP 0 m10 rfl j rfl (by omega) (by decide) d_Mod_counts_24 ?_
      refine W.eq (g2 := F0 m 25 ls [.int (nI ((N 10) j))]) rfl ?_
      refine lv_iload_n hx hb d_Mod_counts_25 rfl (lv_at hl 2 rfl) ?_
      refine lv_ishr hx hb d_Mod_counts_26 ?_
      refine lv_iconst (v := nI 1) hx hb d_Mod_counts_27 (by decide) ?_
      refine lv_iand hx hb d_Mod_counts_28 ?_
      refine kk_top (y := nI (N 10 j / 2 ^ o9 % 2)) (bt_shr _ ho _ (by omega)) ?_
      refine lv_iconst (v := nI 1) hx hb d_Mod_counts_29 (by decide) ?_
      refine lv_icmp_ne (tgt := 57) hx hb d_Mod_counts_30 (by decide) (fun cc4 => ?_) (fun cc4 => ?_)
      · have cc4 : ¬ N 10 j / 2 ^ o9 % 2 = 1 := fun q => cc4 (congrArg nI q)
        refine lv_iconst (v := nI 0) hx hb d_Mod_counts_57 (by decide) ?_
        exact W.zret hx hb hr rfl (fun t ht hW => ⟨_, rfl, kk_iff (fun q => cc4 q.2.2.2.1), ht⟩) (fun q hq => by cases hq) d_Mod_counts_58
      · have cc4 : N 10 j / 2 ^ o9 % 2 = 1 := (nI_eq (kk_m2 _) (by decide)).mp cc4
        refine lv_aload_n hx hb d_Mod_counts_33 rfl (lv_at hl 0 rfl) ?_
        refine mm_get (D := D) (C := n_Mod) (T := T_Mod) (N := 27) (v := .ref (b + 25)) hx hb hts lay_Mod hown hK.1 hP m0 rfl 11 (by decide) (hts _ (List.mem_cons_of_mem _ wd_502)) (fun _ h9 => h9) rfl d_Mod_counts_34 ?_
        refine lv_iload_n hx hb d_Mod_counts_37 rfl (lv_at hl 1 rfl) ?_
        refine mm_iald hx hb hK.1 hP 0 m11 rfl j rfl (by omega) (by decide) d_Mod_counts_38 ?_
        refine lv_iload_n hx hb d_Mod_counts_39 rfl (lv_at hl 3 rfl) ?_
        refine lv_icmp_gt (tgt := 57) hx hb d_Mod_counts_40 (by decide) (fun cc5 => ?_) (fun cc5 => ?_)
        · refine lv_iconst (v := nI 0) hx hb d_Mod_counts_57 (by decide) ?_
          exact W.zret hx hb hr rfl (fun t ht hW => ⟨_, rfl, kk_iff (fun q => q.2.2.2.2.1 cc5), ht⟩) (fun q hq => by cases hq) d_Mod_counts_58
        · refine lv_iload_n hx hb d_Mod_counts_43 rfl (lv_at hl 3 rfl) ?_
          refine lv_aload_n hx hb d_Mod_counts_44 rfl (lv_at hl 0 rfl) ?_
          refine mm_get (D := D) (C := n_Mod) (T := T_Mod) (N := 27) (v := .ref (b + 26)) hx hb hts lay_Mod hown hK.1 hP m0 rfl 12 (by decide) (hts _ (List.mem_cons_of_mem _ wd_503)) (fun _ h9 => h9) rfl d_Mod_counts_45 ?_
          refine lv_iload_n hx hb d_Mod_counts_48 rfl (lv_at hl 1 rfl) ?_
          refine mm_iald hx hb hK.1 hP 0 m12 rfl j rfl (by omega) (by decide) d_Mod_counts_49 ?_
          refine lv_icmp_gt (tgt := 57) hx hb d_Mod_counts_50 (by decide) (fun cc6 => ?_) (fun cc6 => ?_)
          · refine lv_iconst (v := nI 0) hx hb d_Mod_counts_57 (by decide) ?_
            exact W.zret hx hb hr rfl (fun t ht hW => ⟨_, rfl, kk_iff (fun q => q.2.2.2.2.2 cc6), ht⟩) (fun q hq => by cases hq) d_Mod_counts_58
          · refine lv_iconst (v := nI 1) hx hb d_Mod_counts_53 (by decide) ?_
            refine lv_goto (tgt := 58) hx hb d_Mod_counts_54 (by decide) ?_
            exact W.zret hx hb hr rfl (fun t ht hW => ⟨_, rfl, kk_ift ⟨cc2.1, cc3, cc2.2, cc4, cc5, cc6⟩, ht⟩) (fun q hq => by cases hq) d_Mod_counts_58
theorem d_Mod_leadOf_0 : decode k_Mod_leadOf 0 = .ok (.sipush 5000, 3) := by decide +kernel
theorem d_Mod_leadOf_3 : decode k_Mod_leadOf 3 = .ok (.istore_n 2, 1) := by decide +kernel
theorem d_Mod_leadOf_4 : decode k_Mod_leadOf 4 = .ok (.iconst 0, 1) := by decide +kernel
theorem d_Mod_leadOf_5 : decode k_Mod_leadOf 5 = .ok (.istore_n 3, 1) := by decide +kernel
theorem d_Mod_leadOf_6 : decode k_Mod_leadOf 6 = .ok (.iload_n 3, 1) := by decide +kernel
theorem d_Mod_leadOf_7 : decode k_Mod_leadOf 7 = .ok (.aload_n 0, 1) := by decide +kernel
theorem d_Mod_leadOf_8 : decode k_Mod_leadOf 8 = .ok (.getfield 63, 3) := by decide +kernel
theorem d_Mod_leadOf_11 : decode k_Mod_leadOf 11 = .ok (.if_icmp .ge 40, 3) := by decide +kernel
theorem d_Mod_leadOf_14 : decode k_Mod_leadOf 14 = .ok (.aload_n 0, 1) := by decide +kernel
theorem d_Mod_leadOf_15 : decode k_Mod_leadOf 15 = .ok (.getfield 16, 3) := by decide +kernel
theorem d_Mod_leadOf_18 : decode k_Mod_leadOf 18 = .ok (.iload_n 3, 1) := by decide +kernel
theorem d_Mod_leadOf_19 : decode k_Mod_leadOf 19 = .ok (.iaload, 1) := by decide +kernel
theorem d_Mod_leadOf_20 : decode k_Mod_leadOf 20 = .ok (.iload_n 1, 1) := by decide +kernel
theorem d_Mod_leadOf_21 : decode k_Mod_leadOf 21 = .ok (.if_icmp .ne 22, 3) := by decide +kernel
theorem d_Mod_leadOf_24 : decode k_Mod_leadOf 24 = .ok (.aload_n 0, 1) := by decide +kernel
theorem d_Mod_leadOf_25 : decode k_Mod_leadOf 25 = .ok (.getfield 53, 3) := by decide +kernel
theorem d_Mod_leadOf_28 : decode k_Mod_leadOf 28 = .ok (.iload_n 3, 1) := by decide +kernel
theorem d_Mod_leadOf_29 : decode k_Mod_leadOf 29 = .ok (.iaload, 1) := by decide +kernel
theorem d_Mod_leadOf_30 : decode k_Mod_leadOf 30 = .ok (.iload_n 2, 1) := by decide +kernel
theorem d_Mod_leadOf_31 : decode k_Mod_leadOf 31 = .ok (.if_icmp .ge 12, 3) := by decide +kernel
theorem d_Mod_leadOf_34 : decode k_Mod_leadOf 34 = .ok (.aload_n 0, 1) := by decide +kernel
theorem d_Mod_leadOf_35 : decode k_Mod_leadOf 35 = .ok (.getfield 53, 3) := by decide +kernel
theorem d_Mod_leadOf_38 : decode k_Mod_leadOf 38 = .ok (.iload_n 3, 1) := by decide +kernel
theorem d_Mod_leadOf_39 : decode k_Mod_leadOf 39 = .ok (.iaload, 1) := by decide +kernel
theorem d_Mod_leadOf_40 : decode k_Mod_leadOf 40 = .ok (.goto 4, 3) := by decide +kernel
theorem d_Mod_leadOf_43 : decode k_Mod_leadOf 43 = .ok (.iload_n 2, 1) := by decide +kernel
theorem d_Mod_leadOf_44 : decode k_Mod_leadOf 44 = .ok (.istore_n 2, 1) := by decide +kernel
theorem d_Mod_leadOf_45 : decode k_Mod_leadOf 45 = .ok (.iinc 3 1, 3) := by decide +kernel
theorem d_Mod_leadOf_48 : decode k_Mod_leadOf 48 = .ok (.goto (-42), 3) := by decide +kernel
theorem d_Mod_leadOf_51 : decode k_Mod_leadOf 51 = .ok (.iload_n 2, 1) := by decide +kernel
theorem d_Mod_leadOf_52 : decode k_Mod_leadOf 52 = .ok (.ireturn, 1) := by decide +kernel
set_option maxHeartbeats 4000000 in
set_option maxRecDepth 100000 in
theorem c_Mod_leadOf (l : Launch) {B : Nat} {D : va_G} {cI cZ cQ : ClassId} {w : mm_M} {sz : Nat} {b : Nat} {N : Nat → Nat → Nat} {S : Nat → Nat → Int32} {y9 : Nat} {u9 : Nat → Nat} (hM : mo_I b cI cZ N S w) (hn : N 0 0 ≤ 24) (hR : rg_I N) (hy : y9 ≤ 8) (h15 : N 15 = fun j => dm_ph (u9 j)) (hu : ∀ j, u9 j ≤ 1000) : Met l y_Mod_leadOf ws_Mod_leadOf (kk_rm 0 0 0) (kk_Pc B D cI cZ cQ [.ref (b + 14), .int (nI y9)] w sz) (vp_Si (fun r => r = nI (dm_ph (dm_L (N 3) u9 (N 0 0) y9)))) 0 0 (fun _ => False) := by
  refine Met.ofW (cc := k_Mod_leadOf) (maxL := 4) (ret := (some .int)) (by decide) rfl ?_
  intro p e s m args below meth c s₁ BB hml hv
  obtain ⟨rfl, hK, hP, hz, hBz⟩ := hv
  have hx := BB.exec
  have hb := BB.bytes
  have hr := BB.returns
  have hts := atoms_spec (ws := ws_Mod_leadOf) BB.pre
  have hown : s.vm.findClass "DelegationClosureModel" = some m.cls := findClass_of_methodNamed BB.named
  have hlocks := BB.notSynchronized
  have hS : mm_S B s.heap s.heap [] := va_S.rf
  have hl := lv_entry ([.ref (b + 14), .int (nI y9)]) (n := 4) (Nat.le_of_ble_eq_true rfl)
  rw [lg_entry_eq]
  generalize (lg_sl ([.ref (b + 14), .int (nI y9)]) ++ List.replicate (4 - (lg_sl ([.ref (b + 14), .int (nI y9)])).length) Slot.unset).toArray = ls at hl ⊢
  have hl : lv_has ls 4 [(0, .ref (b + 14)), (1, .int (nI y9))] := hl
  have m0 : w (b + 14) = some (.inr (9, [.int (nI (N 0 0)), .ref (b + 15), .ref (b + 16), .ref (b + 17), .ref (b + 18), .ref (b + 19), .ref (b + 20), .ref (b + 21), .ref (b + 22), .ref (b + 23), .ref (b + 24), .ref (b + 25), .ref (b + 26), .ref (b + 27), .ref (b + 28), .ref (b + 29), .int (nI (N 16 0)), .int (nI (N 17 0)), .int (nI (N 18 0)), .ref (b + 30), .int (nI (N 20 0)), .int (S 21 0), .int (S 22 0), .int (S 23 0), .int (S 24 0), .int (nI (N 25 0)), .int (nI (N 26 0))])) := hM.1
  have m1 : w (b + 15) = some (.inl (cZ, 24, .inl (fun i => nI ((N 1) i)))) := hM.2 1 (by decide) (by decide)
  have m2 : w (b + 16) = some (.inl (cZ, 24, .inl (fun i => nI ((N 2) i)))) := hM.2 2 (by decide) (by decide)
  have m3 : w (b + 17) = some (.inl (cI, 24, .inl (fun i => nI ((N 3) i)))) := hM.2 3 (by decide) (by decide)
  have m4 : w (b + 18) = some (.inl (cI, 24, .inl (fun i => nI ((N 4) i)))) := hM.2 4 (by decide) (by decide)
  have m5 : w (b + 19) = some (.inl (cI, 24, .inl (S 5))) := hM.2 5 (by decide) (by decide)
  have m6 : w (b + 20) = some (.inl (cI, 24, .inl (S 6))) := hM.2 6 (by decide) (by decide)
  have m7 : w (b + 21) = some (.inl (cI, 72, .inl (fun i => nI ((N 7) i)))) := hM.2 7 (by decide) (by decide)
  have m8 : w (b + 22) = some (.inl (cI, 24, .inl (fun i => nI ((N 8) i)))) := hM.2 8 (by decide) (by decide)
  have m9 : w (b + 23) = some (.inl (cI, 24, .inl (fun i => nI ((N 9) i)))) := hM.2 9 (by decide) (by decide)
  have m10 : w (b + 24) = some (.inl (cI, 24, .inl (fun i => nI ((N 10) i)))) := hM.2 10 (by decide) (by decide)
  have m11 : w (b + 25) = some (.inl (cI, 24, .inl (S 11))) := hM.2 11 (by decide) (by decide)
  have m12 : w (b + 26) = some (.inl (cI, 24, .inl (S 12))) := hM.2 12 (by decide) (by decide)
  have m13 : w (b + 27) = some (.inl (cZ, 24, .inl (fun i => nI ((N 13) i)))) := hM.2 13 (by decide) (by decide)
  have m14 : w (b + 28) = some (.inl (cI, 256, .inl (fun i => nI ((N 14) i)))) := hM.2 14 (by decide) (by decide)
  have m15 : w (b + 29) = some (.inl (cI, 24, .inl (fun i => nI ((N 15) i)))) := hM.2 15 (by decide) (by decide)
  have m16 : w (b + 30) = some (.inl (cI, 5, .inl (fun i => nI ((N 19) i)))) := hM.2 16 (by decide) (by decide)
  have m15 : w (b + 29) = some (.inl (cI, 24, .inl (fun i => nI (dm_ph (u9 i))))) := by have h9 : w (b + 29) = some (.inl (cI, 24, .inl (fun i => nI (N 15 i)))) := hM.2 15 (by decide) (by decide); rw [h15] at h9; exact h9
  refine lv_sipush (v := nI 5000) hx hb d_Mod_leadOf_0 (by decide) ?_
  refine lv_istore_n hx hb d_Mod_leadOf_3 rfl hl (by decide) rfl (fun ls hl => ?_)
  have hl : lv_has ls 4 [(2, .int (nI 5000)), (0, .ref (b + 14)), (1, .int (nI y9))] := hl
  refine lv_iconst (v := nI 0) hx hb d_Mod_leadOf_4 (by decide) ?_
  refine lv_istore_n hx hb d_Mod_leadOf_5 rfl hl (by decide) rfl (fun ls hl => ?_)
  have hl : lv_has ls 4 [(3, .int (nI 0)), (2, .int (nI 5000)), (0, .ref (b + 14)), (1, .int (nI y9))] := hl
  have lp1 : ∀ (d : Nat) (k : Nat) (ls : Array Slot), d = N 0 0 - k → (k ≤ N 0 0) → lv_has ls 4 [(3, .int (nI k)), (2, .int (nI (dm_ph (dm_L (N 3) u9 k y9)))), (0, .ref (b + 14)), (1, .int (nI y9))] → W p l e (headSpec ws_Mod_leadOf (kk_rm 0 0 0)).room s m ([.ref (b + 14), .int (nI y9)]).toArray below meth c s.heap [] 0 0 (MQ below (vp_Si (fun r => r = nI (dm_ph (dm_L (N 3) u9 (N 0 0) y9)))) ([.ref (b + 14), .int (nI y9)]).toArray s 0 0 (fun _ => False)) (F0 m 6 ls []) := by
    intro d
    induction d using Nat.strongRecOn with
    | ind d ih =>
      intro k ls hd hk hl
      refine lv_iload_n hx hb d_Mod_leadOf_6 rfl (lv_at hl 0 rfl) ?_
      refine lv_aload_n hx hb d_Mod_leadOf_7 rfl (lv_at hl 2 rfl) ?_
      refine mm_get (D := D) (C := n_Mod) (T := T_Mod) (N := 27) (v := .int (nI (N 0 0))) hx hb hts lay_Mod hown hK.1 hP m0 rfl 0 (by decide) (hts _ (List.mem_cons_of_mem _ wd_491)) (fun _ h9 => h9) rfl d_Mod_leadOf_8 ?_
      refine lv_icmp_ge (tgt := 51) hx hb d_Mod_leadOf_11 (by decide) (fun cc2 => ?_) (fun cc2 => ?_)
      · have cc2 : N 0 0 ≤ k := (nI_leI (by omega) (by omega)).mp cc2
        refine lv_iload_n hx hb d_Mod_leadOf_51 rfl (lv_at hl 1 rfl) ?_
        exact W.iret hx hb hr (fun t ht hW => ⟨_, rfl, dm_ph_eq (by rw [show k = N 0 0 by omega]), ht⟩) (fun q hq => by cases hq) d_Mod_leadOf_52
      · have cc2 : ¬ (N 0 0 ≤ k) := fun q => cc2 ((nI_leI (by omega) (by omega)).mpr q)
        refine lv_aload_n hx hb d_Mod_leadOf_14 rfl (lv_at hl 2 rfl) ?_
        refine mm_get (D := D) (C := n_Mod) (T := T_Mod) (N := 27) (v := .ref (b + 17)) hx hb hts lay_Mod hown hK.1 hP m0 rfl 3 (by decide) (hts _ (List.mem_cons_of_mem _ wd_494)) (fun _ h9 => h9) rfl d_Mod_leadOf_15 ?_
        refine lv_iload_n hx hb d_Mod_leadOf_18 rfl (lv_at hl 0 rfl) ?_
        refine mm_iald hx hb hK.1 hP 0 m3 rfl k rfl (by omega) (by decide) d_Mod_leadOf_19 ?_
        refine W.eq (g2 := F0 m 20 ls [.int (nI ((N 3) k))]) rfl ?_
        refine lv_iload_n hx hb d_Mod_leadOf_20 rfl (lv_at hl 3 rfl) ?_
        have hRk := hR k (by omega)
        refine lv_icmp_ne (tgt := 43) hx hb d_Mod_leadOf_21 (by decide) (fun cc3 => ?_) (fun cc3 => ?_)
        · have cc3 : ¬ ((N 3) k = y9) := fun q => cc3 ((nI_eq (by omega) (by omega)).mpr q)
          refine lv_iload_n hx hb d_Mod_leadOf_43 rfl (lv_at hl 1 rfl) ?_
          refine kk_top (y := nI (dm_ph (dm_L (N 3) u9 (k + 1) y9))) (dm_ph_eq (if_neg cc3).symm) ?_
          refine lv_istore_n hx hb d_Mod_leadOf_44 rfl hl (by decide) rfl (fun ls hl => ?_)
          have hl : lv_has ls 4 [(2, .int (nI (dm_ph (dm_L (N 3) u9 (k + 1) y9)))), (3, .int (nI k)), (0, .ref (b + 14)), (1, .int (nI y9))] := hl
          refine lv_iinc (k := 1) (v := nI (k + 1)) hx hb d_Mod_leadOf_45 hl rfl (kk_inc _) (by decide) rfl (fun ls hl => ?_)
          have hl : lv_has ls 4 [(3, .int (nI (k + 1))), (2, .int (nI (dm_ph (dm_L (N 3) u9 (k + 1) y9)))), (0, .ref (b + 14)), (1, .int (nI y9))] := hl
          refine lv_goto (tgt := 6) hx hb d_Mod_leadOf_48 (by decide) ?_
          exact ih _ (by omega) (k + 1) ls rfl (by omega) (lv_sub hl [0, 1, 2, 3] rfl)
        · have cc3 : (N 3) k = y9 := (nI_eq (by omega) (by omega)).mp cc3
          refine lv_aload_n hx hb d_Mod_leadOf_24 rfl (lv_at hl 2 rfl) ?_
          refine mm_get (D := D) (C := n_Mod) (T := T_Mod) (N := 27) (v := .ref (b + 29)) hx hb hts lay_Mod hown hK.1 hP m0 rfl 15 (by decide) (hts _ (List.mem_cons_of_mem _ wd_506)) (fun _ h9 => h9) rfl d_Mod_leadOf_25 ?_
          refine lv_iload_n hx hb d_Mod_leadOf_28 rfl (lv_at hl 0 rfl) ?_
          refine mm_iald hx hb hK.1 hP 0 m15 rfl k rfl (by omega) (by decide) d_Mod_leadOf_29 ?_
          refine W.eq (g2 := F0 m 30 ls [.int (nI (dm_ph (u9 k)))]) rfl ?_
          refine lv_iload_n hx hb d_Mod_leadOf_30 rfl (lv_at hl 1 rfl) ?_
          have hq1 := dm_L_1000 (iss := N 3) (u := u9) k y9
          have hq2 := hu k
          have hq3 := dm_ph_le (u9 k)
          have hq4 := dm_ph_le (dm_L (N 3) u9 k y9)
          refine lv_icmp_ge (tgt := 43) hx hb d_Mod_leadOf_31 (by decide) (fun cc4 => ?_) (fun cc4 => ?_)
          · have cc4 : dm_ph (dm_L (N 3) u9 k y9) ≤ dm_ph (u9 k) := (nI_leI (by omega) (by omega)).mp cc4
            refine lv_iload_n hx hb d_Mod_leadOf_43 rfl (lv_at hl 1 rfl) ?_
            refine kk_top (y := nI (dm_ph (dm_L (N 3) u9 (k + 1) y9))) ((congrArg nI (dm_ph_m1 hq1 hq2 cc4)).trans (dm_ph_eq (if_pos cc3).symm)) ?_
            refine lv_istore_n hx hb d_Mod_leadOf_44 rfl hl (by decide) rfl (fun ls hl => ?_)
            have hl : lv_has ls 4 [(2, .int (nI (dm_ph (dm_L (N 3) u9 (k + 1) y9)))), (3, .int (nI k)), (0, .ref (b + 14)), (1, .int (nI y9))] := hl
            refine lv_iinc (k := 1) (v := nI (k + 1)) hx hb d_Mod_leadOf_45 hl rfl (kk_inc _) (by decide) rfl (fun ls hl => ?_)
            have hl : lv_has ls 4 [(3, .int (nI (k + 1))), (2, .int (nI (dm_ph (dm_L (N 3) u9 (k + 1) y9)))), (0, .ref (b + 14)), (1, .int (nI y9))] := hl
            refine lv_goto (tgt := 6) hx hb d_Mod_leadOf_48 (by decide) ?_
            exact ih _ (by omega) (k + 1) ls rfl (by omega) (lv_sub hl [0, 1, 2, 3] rfl)
          · have cc4 : ¬ (dm_ph (dm_L (N 3) u9 k y9) ≤ dm_ph (u9 k)) := fun q => cc4 ((nI_leI (by omega) (by omega)).mpr q)
            refine lv_aload_n hx hb d_Mod_leadOf_34 rfl (lv_at hl 2 rfl) ?_
            refine mm_get (D := D) (C := n_Mod) (T := T_Mod) (N := 27) (v := .ref (b + 29)) hx hb hts lay_Mod hown hK.1 hP m0 rfl 15 (by decide) (hts _ (List.mem_cons_of_mem _ wd_506)) (fun _ h9 => h9) rfl d_Mod_leadOf_35 ?_
            refine lv_iload_n hx hb d_Mod_leadOf_38 rfl (lv_at hl 0 rfl) ?_
            refine mm_iald hx hb hK.1 hP 0 m15 rfl k rfl (by omega) (by decide) d_Mod_leadOf_39 ?_
            refine W.eq (g2 := F0 m 40 ls [.int (nI (dm_ph (u9 k)))]) rfl ?_
            refine lv_goto (tgt := 44) hx hb d_Mod_leadOf_40 (by decide) ?_
            refine kk_top (y := nI (dm_ph (dm_L (N 3) u9 (k + 1) y9))) ((congrArg nI (dm_ph_m2 hq1 hq2 cc4)).trans (dm_ph_eq (if_pos cc3).symm)) ?_
            refine lv_istore_n hx hb d_Mod_leadOf_44 rfl hl (by decide) rfl (fun ls hl => ?_)
            have hl : lv_has ls 4 [(2, .int (nI (dm_ph (dm_L (N 3) u9 (k + 1) y9)))), (3, .int (nI k)), (0, .ref (b + 14)), (1, .int (nI y9))] := hl
            refine lv_iinc (k := 1) (v := nI (k + 1)) hx hb d_Mod_leadOf_45 hl rfl (kk_inc _) (by decide) rfl (fun ls hl => ?_)
            have hl : lv_has ls 4 [(3, .int (nI (k + 1))), (2, .int (nI (dm_ph (dm_L (N 3) u9 (k + 1) y9)))), (0, .ref (b + 14)), (1, .int (nI y9))] := hl
            refine lv_goto (tgt := 6) hx hb d_Mod_leadOf_48 (by decide) ?_
            exact ih _ (by omega) (k + 1) ls rfl (by omega) (lv_sub hl [0, 1, 2, 3] rfl)
  exact lp1 _ 0 _ rfl (by omega) (lv_sub hl [0, 1, 2, 3] rfl)
theorem d_Mod_bySubject_0 : decode k_Mod_bySubject 0 = .ok (.aload_n 0, 1) := by decide +kernel
theorem d_Mod_bySubject_1 : decode k_Mod_bySubject 1 = .ok (.iload_n 2, 1) := by decide +kernel
theorem d_Mod_bySubject_2 : decode k_Mod_bySubject 2 = .ok (.iload_n 3, 1) := by decide +kernel
theorem d_Mod_bySubject_3 : decode k_Mod_bySubject 3 = .ok (.invokevirtual 95, 3) := by decide +kernel
theorem d_Mod_bySubject_6 : decode k_Mod_bySubject 6 = .ok (.istore 4, 2) := by decide +kernel
theorem d_Mod_bySubject_8 : decode k_Mod_bySubject 8 = .ok (.iconst 0, 1) := by decide +kernel
theorem d_Mod_bySubject_9 : decode k_Mod_bySubject 9 = .ok (.istore 5, 2) := by decide +kernel
theorem d_Mod_bySubject_11 : decode k_Mod_bySubject 11 = .ok (.iload 5, 2) := by decide +kernel
theorem d_Mod_bySubject_13 : decode k_Mod_bySubject 13 = .ok (.bipush 8, 2) := by decide +kernel
theorem d_Mod_bySubject_15 : decode k_Mod_bySubject 15 = .ok (.if_icmp .ge 58, 3) := by decide +kernel
theorem d_Mod_bySubject_18 : decode k_Mod_bySubject 18 = .ok (.aload_n 0, 1) := by decide +kernel
theorem d_Mod_bySubject_19 : decode k_Mod_bySubject 19 = .ok (.getfield 47, 3) := by decide +kernel
theorem d_Mod_bySubject_22 : decode k_Mod_bySubject 22 = .ok (.iload_n 1, 1) := by decide +kernel
theorem d_Mod_bySubject_23 : decode k_Mod_bySubject 23 = .ok (.baload, 1) := by decide +kernel
theorem d_Mod_bySubject_24 : decode k_Mod_bySubject 24 = .ok (.ifCond .eq 49, 3) := by decide +kernel
theorem d_Mod_bySubject_27 : decode k_Mod_bySubject 27 = .ok (.iload 5, 2) := by decide +kernel
theorem d_Mod_bySubject_29 : decode k_Mod_bySubject 29 = .ok (.iload_n 3, 1) := by decide +kernel
theorem d_Mod_bySubject_30 : decode k_Mod_bySubject 30 = .ok (.if_icmp .eq 37, 3) := by decide +kernel
theorem d_Mod_bySubject_33 : decode k_Mod_bySubject 33 = .ok (.aload_n 0, 1) := by decide +kernel
theorem d_Mod_bySubject_34 : decode k_Mod_bySubject 34 = .ok (.iload_n 2, 1) := by decide +kernel
theorem d_Mod_bySubject_35 : decode k_Mod_bySubject 35 = .ok (.iload 5, 2) := by decide +kernel
theorem d_Mod_bySubject_37 : decode k_Mod_bySubject 37 = .ok (.invokevirtual 95, 3) := by decide +kernel
theorem d_Mod_bySubject_40 : decode k_Mod_bySubject 40 = .ok (.aload_n 0, 1) := by decide +kernel
theorem d_Mod_bySubject_41 : decode k_Mod_bySubject 41 = .ok (.iload 5, 2) := by decide +kernel
theorem d_Mod_bySubject_43 : decode k_Mod_bySubject 43 = .ok (.invokevirtual 105, 3) := by decide +kernel
theorem d_Mod_bySubject_46 : decode k_Mod_bySubject 46 = .ok (.invokestatic 87, 3) := by decide +kernel
theorem d_Mod_bySubject_49 : decode k_Mod_bySubject 49 = .ok (.istore 6, 2) := by decide +kernel
theorem d_Mod_bySubject_51 : decode k_Mod_bySubject 51 = .ok (.iload 6, 2) := by decide +kernel
theorem d_Mod_bySubject_53 : decode k_Mod_bySubject 53 = .ok (.iload 4, 2) := by decide +kernel
theorem d_Mod_bySubject_55 : decode k_Mod_bySubject 55 = .ok (.if_icmp .ge 8, 3) := by decide +kernel
theorem d_Mod_bySubject_58 : decode k_Mod_bySubject 58 = .ok (.iload 6, 2) := by decide +kernel
theorem d_Mod_bySubject_60 : decode k_Mod_bySubject 60 = .ok (.goto 5, 3) := by decide +kernel
theorem d_Mod_bySubject_63 : decode k_Mod_bySubject 63 = .ok (.iload 4, 2) := by decide +kernel
theorem d_Mod_bySubject_65 : decode k_Mod_bySubject 65 = .ok (.istore 4, 2) := by decide +kernel
theorem d_Mod_bySubject_67 : decode k_Mod_bySubject 67 = .ok (.iinc 5 1, 3) := by decide +kernel
theorem d_Mod_bySubject_70 : decode k_Mod_bySubject 70 = .ok (.goto (-59), 3) := by decide +kernel
theorem d_Mod_bySubject_73 : decode k_Mod_bySubject 73 = .ok (.iload 4, 2) := by decide +kernel
theorem d_Mod_bySubject_75 : decode k_Mod_bySubject 75 = .ok (.ireturn, 1) := by decide +kernel
set_option maxHeartbeats 4000000 in
set_option maxRecDepth 100000 in
theorem c_Mod_bySubject (l : Launch) {B : Nat} {D : va_G} {cI cZ cQ : ClassId} {w : mm_M} {sz : Nat} {b : Nat} {N : Nat → Nat → Nat} {S : Nat → Nat → Int32} {j s9 x9 : Nat} {v9 u9 : Nat → Nat} (hM : mo_I b cI cZ N S w) (hn : N 0 0 ≤ 24) (hR : rg_I N) (hj : j < N 0 0) (hs : s9 < 200) (hx9 : x9 < 8) (h14 : N 14 = fun j => dm_ph (v9 j)) (hv : ∀ j, v9 j ≤ 1000) (h15 : N 15 = fun j => dm_ph (u9 j)) (hu : ∀ j, u9 j ≤ 1000) : Met l y_Mod_bySubject ws_Mod_bySubject (kk_rm 3 0 0) (kk_Pc B D cI cZ cQ [.ref (b + 14), .int (nI j), .int (nI s9), .int (nI x9)] w sz) (vp_Si (fun r => r = nI (dm_ph (dm_by1 (N 13 j == 1) (fun y => dm_ofs v9 s9 y) (dm_L (N 3) u9 (N 0 0)) x9)))) 0 0 (fun _ => False) := by
  refine Met.ofW (cc := k_Mod_bySubject) (maxL := 7) (ret := (some .int)) (by decide) rfl ?_
  intro p e s m args below meth c s₁ BB hml hv
  obtain ⟨rfl, hK, hP, hz, hBz⟩ := hv
  have hx := BB.exec
  have hb := BB.bytes
  have hr := BB.returns
  have hts := atoms_spec (ws := ws_Mod_bySubject) BB.pre
  have hown : s.vm.findClass "DelegationClosureModel" = some m.cls := findClass_of_methodNamed BB.named
  have hlocks := BB.notSynchronized
  have hS : mm_S B s.heap s.heap [] := va_S.rf
  have hl := lv_entry ([.ref (b + 14), .int (nI j), .int (nI s9), .int (nI x9)]) (n := 7) (Nat.le_of_ble_eq_true rfl)
  rw [lg_entry_eq]
  generalize (lg_sl ([.ref (b + 14), .int (nI j), .int (nI s9), .int (nI x9)]) ++ List.replicate (7 - (lg_sl ([.ref (b + 14), .int (nI j), .int (nI s9), .int (nI x9)])).length) Slot.unset).toArray = ls at hl ⊢
  have hl : lv_has ls 7 [(0, .ref (b + 14)), (1, .int (nI j)), (2, .int (nI s9)), (3, .int (nI x9))] := hl
  have m0 : w (b + 14) = some (.inr (9, [.int (nI (N 0 0)), .ref (b + 15), .ref (b + 16), .ref (b + 17), .ref (b + 18), .ref (b + 19), .ref (b + 20), .ref (b + 21), .ref (b + 22), .ref (b + 23), .ref (b + 24), .ref (b + 25), .ref (b + 26), .ref (b + 27), .ref (b + 28), .ref (b + 29), .int (nI (N 16 0)), .int (nI (N 17 0)), .int (nI (N 18 0)), .ref (b + 30), .int (nI (N 20 0)), .int (S 21 0), .int (S 22 0), .int (S 23 0), .int (S 24 0), .int (nI (N 25 0)), .int (nI (N 26 0))])) := hM.1
  have m1 : w (b + 15) = some (.inl (cZ, 24, .inl (fun i => nI ((N 1) i)))) := hM.2 1 (by decide) (by decide)
  have m2 : w (b + 16) = some (.inl (cZ, 24, .inl (fun i => nI ((N 2) i)))) := hM.2 2 (by decide) (by decide)
  have m3 : w (b + 17) = some (.inl (cI, 24, .inl (fun i => nI ((N 3) i)))) := hM.2 3 (by decide) (by decide)
  have m4 : w (b + 18) = some (.inl (cI, 24, .inl (fun i => nI ((N 4) i)))) := hM.2 4 (by decide) (by decide)
  have m5 : w (b + 19) = some (.inl (cI, 24, .inl (S 5))) := hM.2 5 (by decide) (by decide)
  have m6 : w (b + 20) = some (.inl (cI, 24, .inl (S 6))) := hM.2 6 (by decide) (by decide)
  have m7 : w (b + 21) = some (.inl (cI, 72, .inl (fun i => nI ((N 7) i)))) := hM.2 7 (by decide) (by decide)
  have m8 : w (b + 22) = some (.inl (cI, 24, .inl (fun i => nI ((N 8) i)))) := hM.2 8 (by decide) (by decide)
  have m9 : w (b + 23) = some (.inl (cI, 24, .inl (fun i => nI ((N 9) i)))) := hM.2 9 (by decide) (by decide)
  have m10 : w (b + 24) = some (.inl (cI, 24, .inl (fun i => nI ((N 10) i)))) := hM.2 10 (by decide) (by decide)
  have m11 : w (b + 25) = some (.inl (cI, 24, .inl (S 11))) := hM.2 11 (by decide) (by decide)
  have m12 : w (b + 26) = some (.inl (cI, 24, .inl (S 12))) := hM.2 12 (by decide) (by decide)
  have m13 : w (b + 27) = some (.inl (cZ, 24, .inl (fun i => nI ((N 13) i)))) := hM.2 13 (by decide) (by decide)
  have m14 : w (b + 28) = some (.inl (cI, 256, .inl (fun i => nI ((N 14) i)))) := hM.2 14 (by decide) (by decide)
  have m15 : w (b + 29) = some (.inl (cI, 24, .inl (fun i => nI ((N 15) i)))) := hM.2 15 (by decide) (by decide)
  have m16 : w (b + 30) = some (.inl (cI, 5, .inl (fun i => nI ((N 19) i)))) := hM.2 16 (by decide) (by decide)
  have m14 : w (b + 28) = some (.inl (cI, 256, .inl (fun i => nI (dm_ph (v9 i))))) := by have h9 : w (b + 28) = some (.inl (cI, 256, .inl (fun i => nI (N 14 i)))) := hM.2 14 (by decide) (by decide); rw [h14] at h9; exact h9
  have m15 : w (b + 29) = some (.inl (cI, 24, .inl (fun i => nI (dm_ph (u9 i))))) := by have h9 : w (b + 29) = some (.inl (cI, 24, .inl (fun i => nI (N 15 i)))) := hM.2 15 (by decide) (by decide); rw [h15] at h9; exact h9
  have hRj := hR j hj
  refine lv_aload_n hx hb d_Mod_bySubject_0 rfl (lv_at hl 0 rfl) ?_
  refine lv_iload_n hx hb d_Mod_bySubject_1 rfl (lv_at hl 2 rfl) ?_
  refine lv_iload_n hx hb d_Mod_bySubject_2 rfl (lv_at hl 3 rfl) ?_
  refine vp_callSi (va_Run.run (va_runV (As := [.int (nI s9), .int (nI x9)]) (rest := []) ⟨hx, hb, hml, hown, hts⟩ (c_Mod_costOf l (b := b) (N := N) (S := S) (v9 := v9) hM (by omega) (by omega) h14 hv) (cwV 2 hts (gW_in (hd := [_, _, _, _, _]) (kk_5 wd_637 wd_639 sl_Mod_costOf wd_8 cw_Mod_costOf)) rfl rfl rfl ⟨rfl, ds_Mod_costOf⟩ ⟨Nat.le_of_ble_eq_true rfl, Nat.le_of_ble_eq_true rfl⟩) (kk_preV hK hP hz hBz m0 rfl) rfl rfl hl.1 rfl (lv_room (Nat.le_of_ble_eq_true rfl)) d_Mod_bySubject_3 ⟨Nat.le_of_ble_eq_true rfl, Nat.le_of_ble_eq_true rfl⟩)) (fun r1 hr1 => ?_)
  subst hr1
  refine lv_istore hx hb d_Mod_bySubject_6 hl (by decide) rfl (fun ls hl => ?_)
  have hl : lv_has ls 7 [(4, .int (nI (dm_ph (dm_ofs v9 s9 x9)))), (0, .ref (b + 14)), (1, .int (nI j)), (2, .int (nI s9)), (3, .int (nI x9))] := hl
  by_cases hok : N 13 j = 1
  · refine lv_iconst (v := nI 0) hx hb d_Mod_bySubject_8 (by decide) ?_
    refine lv_istore hx hb d_Mod_bySubject_9 hl (by decide) rfl (fun ls hl => ?_)
    have hl : lv_has ls 7 [(5, .int (nI 0)), (4, .int (nI (dm_ph (dm_ofs v9 s9 x9)))), (0, .ref (b + 14)), (1, .int (nI j)), (2, .int (nI s9)), (3, .int (nI x9))] := hl
    have lp2 : ∀ (d : Nat) (k : Nat) (ls : Array Slot), d = 8 - k → (k ≤ 8) → lv_has ls 7 [(5, .int (nI k)), (4, .int (nI (dm_ph (dm_bys (fun y => dm_ofs v9 s9 y) (dm_L (N 3) u9 (N 0 0)) x9 k)))), (0, .ref (b + 14)), (1, .int (nI j)), (2, .int (nI s9)), (3, .int (nI x9))] → W p l e (headSpec ws_Mod_bySubject (kk_rm 3 0 0)).room s m ([.ref (b + 14), .int (nI j), .int (nI s9), .int (nI x9)]).toArray below meth c s.heap [] 0 0 (MQ below (vp_Si (fun r => r = nI (dm_ph (dm_by1 (N 13 j == 1) (fun y => dm_ofs v9 s9 y) (dm_L (N 3) u9 (N 0 0)) x9)))) ([.ref (b + 14), .int (nI j), .int (nI s9), .int (nI x9)]).toArray s 0 0 (fun _ => False)) (F0 m 11 ls []) := by
      intro d
      induction d using Nat.strongRecOn with
      | ind d ih =>
        intro k ls hd hk hl
        refine lv_iload hx hb d_Mod_bySubject_11 (lv_at hl 0 rfl) ?_
        refine lv_bipush (v := nI 8) hx hb d_Mod_bySubject_13 (by decide) ?_
        refine lv_icmp_ge (tgt := 73) hx hb d_Mod_bySubject_15 (by decide) (fun cc3 => ?_) (fun cc3 => ?_)
        · have cc3 : 8 ≤ k := (nI_leI (by omega) (by omega)).mp cc3
          refine lv_iload hx hb d_Mod_bySubject_73 (lv_at hl 1 rfl) ?_
          exact W.iret hx hb hr (fun t ht hW => ⟨_, rfl, dm_ph_eq (by obtain rfl : k = 8 := (by omega); unfold dm_by1; rw [if_pos (by rw [hok]; rfl)]), ht⟩) (fun q hq => by cases hq) d_Mod_bySubject_75
        · have cc3 : ¬ (8 ≤ k) := fun q => cc3 ((nI_leI (by omega) (by omega)).mpr q)
          refine lv_aload_n hx hb d_Mod_bySubject_18 rfl (lv_at hl 2 rfl) ?_
          refine mm_get (D := D) (C := n_Mod) (T := T_Mod) (N := 27) (v := .ref (b + 27)) hx hb hts lay_Mod hown hK.1 hP m0 rfl 13 (by decide) (hts _ (List.mem_cons_of_mem _ wd_504)) (fun _ h9 => h9) rfl d_Mod_bySubject_19 ?_
          refine lv_iload_n hx hb d_Mod_bySubject_22 rfl (lv_at hl 3 rfl) ?_
          refine mm_zald hx hb hK.1 hP 1 m13 rfl j rfl (by omega) (by decide) d_Mod_bySubject_23 ?_
          refine W.eq (g2 := F0 m 24 ls [.int (nI ((N 13) j))]) rfl ?_
          refine lv_if_eq (tgt := 73) hx hb d_Mod_bySubject_24 (by decide) (fun cc4 => ?_) (fun cc4 => ?_)
          · rw [← nI_0] at cc4
            have cc4 : (N 13) j = 0 := (nI_eq (by omega) (by omega)).mp cc4
            exact absurd cc4 (by omega)
          · rw [← nI_0] at cc4
            have cc4 : ¬ ((N 13) j = 0) := fun q => cc4 ((nI_eq (by omega) (by omega)).mpr q)
            refine lv_iload hx hb d_Mod_bySubject_27 (lv_at hl 0 rfl) ?_
            refine lv_iload_n hx hb d_Mod_bySubject_29 rfl (lv_at hl 5 rfl) ?_
            refine lv_icmp_eq (tgt := 67) hx hb d_Mod_bySubject_30 (by decide) (fun cc5 => ?_) (fun cc5 => ?_)
            · have cc5 : k = x9 := (nI_eq (by omega) (by omega)).mp cc5
              have e1 : dm_bys (fun y => dm_ofs v9 s9 y) (dm_L (N 3) u9 (N 0 0)) x9 (k + 1) = dm_bys (fun y => dm_ofs v9 s9 y) (dm_L (N 3) u9 (N 0 0)) x9 k := if_pos cc5
              rw [← e1] at hl
              refine lv_iinc (k := 0) (v := nI (k + 1)) hx hb d_Mod_bySubject_67 hl rfl (kk_inc _) (by decide) rfl (fun ls hl => ?_)
              have hl : lv_has ls 7 [(5, .int (nI (k + 1))), (4, .int (nI (dm_ph (dm_bys (fun y => dm_ofs v9 s9 y) (dm_L (N 3) u9 (N 0 0)) x9 (k + 1))))), (0, .ref (b + 14)), (1, .int (nI j)), (2, .int (nI s9)), (3, .int (nI x9))] := hl
              refine lv_goto (tgt := 11) hx hb d_Mod_bySubject_70 (by decide) ?_
              exact ih _ (by omega) (k + 1) ls rfl (by omega) (lv_sub hl [0, 1, 2, 3, 4, 5] rfl)
            · have cc5 : ¬ (k = x9) := fun q => cc5 ((nI_eq (by omega) (by omega)).mpr q)
              refine lv_aload_n hx hb d_Mod_bySubject_33 rfl (lv_at hl 2 rfl) ?_
              refine lv_iload_n hx hb d_Mod_bySubject_34 rfl (lv_at hl 4 rfl) ?_
              refine lv_iload hx hb d_Mod_bySubject_35 (lv_at hl 0 rfl) ?_
              refine vp_callSi (va_Run.run (va_runV (As := [.int (nI s9), .int (nI k)]) (rest := []) ⟨hx, hb, hml, hown, hts⟩ (c_Mod_costOf l (b := b) (N := N) (S := S) (v9 := v9) hM (by omega) (by omega) h14 hv) (cwV 2 hts (gW_in (hd := [_, _, _, _, _]) (kk_5 wd_637 wd_639 sl_Mod_costOf wd_8 cw_Mod_costOf)) rfl rfl rfl ⟨rfl, ds_Mod_costOf⟩ ⟨Nat.le_of_ble_eq_true rfl, Nat.le_of_ble_eq_true rfl⟩) (kk_preV hK hP hz hBz m0 rfl) rfl rfl hl.1 rfl (lv_room (Nat.le_of_ble_eq_true rfl)) d_Mod_bySubject_37 ⟨Nat.le_of_ble_eq_true rfl, Nat.le_of_ble_eq_true rfl⟩)) (fun r6 hr6 => ?_)
              subst hr6
              refine lv_aload_n hx hb d_Mod_bySubject_40 rfl (lv_at hl 2 rfl) ?_
              refine lv_iload hx hb d_Mod_bySubject_41 (lv_at hl 0 rfl) ?_
              refine vp_callSi (va_Run.run (va_runV (As := [.int (nI k)]) (rest := [.int (nI (dm_ph (dm_ofs v9 s9 k)))]) ⟨hx, hb, hml, hown, hts⟩ (c_Mod_leadOf l (b := b) (N := N) (S := S) (u9 := u9) hM hn hR (by omega) h15 hu) (cwV 1 hts (gW_in (hd := [_, _, _, _, _]) (kk_5 wd_671 wd_673 sl_Mod_leadOf wd_8 cw_Mod_leadOf)) rfl rfl rfl ⟨rfl, ds_Mod_leadOf⟩ ⟨Nat.le_of_ble_eq_true rfl, Nat.le_of_ble_eq_true rfl⟩) (kk_preV hK hP hz hBz m0 rfl) rfl rfl hl.1 rfl (lv_room (Nat.le_of_ble_eq_true rfl)) d_Mod_bySubject_43 ⟨Nat.le_of_ble_eq_true rfl, Nat.le_of_ble_eq_true rfl⟩)) (fun r7 hr7 => ?_)
              subst hr7
              have hq1 := dm_ofs_le hv s9 k
              have hq2 := dm_L_1000 (iss := N 3) (u := u9) (N 0 0) k
              refine vp_callSi (va_Run.run (va_runS (As := [.int (nI (dm_ph (dm_ofs v9 s9 k))), .int (nI (dm_ph (dm_L (N 3) u9 (N 0 0) k)))]) (rest := []) ⟨hx, hb, hml, hown, hts⟩ (c_Mod_sum l (a := (dm_ofs v9 s9 k)) (b := (dm_L (N 3) u9 (N 0 0) k)) (by omega) (by omega)) (va_cwS 2 hts (gW_in (hd := [_, _, _, _]) (kk_4 wd_644 wd_645 wd_8 cw_Mod_sum)) rfl rfl rfl ds_Mod_sum ⟨Nat.le_of_ble_eq_true rfl, Nat.le_of_ble_eq_true rfl⟩) (kk_preS hK hP hz hBz) rfl rfl hl.1 rfl (lv_room (Nat.le_of_ble_eq_true rfl)) d_Mod_bySubject_46 ⟨Nat.le_of_ble_eq_true rfl, Nat.le_of_ble_eq_true rfl⟩)) (fun r8 hr8 => ?_)
              subst hr8
              refine lv_istore hx hb d_Mod_bySubject_49 hl (by decide) rfl (fun ls hl => ?_)
              have hl : lv_has ls 7 [(6, .int (nI (dm_ph (dm_s (dm_ofs v9 s9 k) (dm_L (N 3) u9 (N 0 0) k))))), (5, .int (nI k)), (4, .int (nI (dm_ph (dm_bys (fun y => dm_ofs v9 s9 y) (dm_L (N 3) u9 (N 0 0)) x9 k)))), (0, .ref (b + 14)), (1, .int (nI j)), (2, .int (nI s9)), (3, .int (nI x9))] := hl
              refine lv_iload hx hb d_Mod_bySubject_51 (lv_at hl 0 rfl) ?_
              refine lv_iload hx hb d_Mod_bySubject_53 (lv_at hl 2 rfl) ?_
              have hq3 := dm_bys_le (o := (fun y => dm_ofs v9 s9 y)) (l := (dm_L (N 3) u9 (N 0 0))) (fun y => dm_ofs_le hv s9 y) x9 k
              have hq4 := dm_s_le (dm_ofs v9 s9 k) (dm_L (N 3) u9 (N 0 0) k)
              have hq5 := dm_ph_le (dm_s (dm_ofs v9 s9 k) (dm_L (N 3) u9 (N 0 0) k))
              have hq6 := dm_ph_le (dm_bys (fun y => dm_ofs v9 s9 y) (dm_L (N 3) u9 (N 0 0)) x9 k)
              refine lv_icmp_ge (tgt := 63) hx hb d_Mod_bySubject_55 (by decide) (fun cc9 => ?_) (fun cc9 => ?_)
              · have cc9 : dm_ph (dm_bys (fun y => dm_ofs v9 s9 y) (dm_L (N 3) u9 (N 0 0)) x9 k) ≤ dm_ph (dm_s (dm_ofs v9 s9 k) (dm_L (N 3) u9 (N 0 0) k)) := (nI_leI (by omega) (by omega)).mp cc9
                refine lv_iload hx hb d_Mod_bySubject_63 (lv_at hl 2 rfl) ?_
                refine kk_top (y := nI (dm_ph (dm_bys (fun y => dm_ofs v9 s9 y) (dm_L (N 3) u9 (N 0 0)) x9 (k + 1)))) ((congrArg nI (dm_ph_m1 hq3 hq4 cc9)).trans (dm_ph_eq (if_neg cc5).symm)) ?_
                refine lv_istore hx hb d_Mod_bySubject_65 hl (by decide) rfl (fun ls hl => ?_)
                have hl : lv_has ls 7 [(4, .int (nI (dm_ph (dm_bys (fun y => dm_ofs v9 s9 y) (dm_L (N 3) u9 (N 0 0)) x9 (k + 1))))), (6, .int (nI (dm_ph (dm_s (dm_ofs v9 s9 k) (dm_L (N 3) u9 (N 0 0) k))))), (5, .int (nI k)), (0, .ref (b + 14)), (1, .int (nI j)), (2, .int (nI s9)), (3, .int (nI x9))] := hl
                refine lv_iinc (k := 2) (v := nI (k + 1)) hx hb d_Mod_bySubject_67 hl rfl (kk_inc _) (by decide) rfl (fun ls hl => ?_)
                have hl : lv_has ls 7 [(5, .int (nI (k + 1))), (4, .int (nI (dm_ph (dm_bys (fun y => dm_ofs v9 s9 y) (dm_L (N 3) u9 (N 0 0)) x9 (k + 1))))), (6, .int (nI (dm_ph (dm_s (dm_ofs v9 s9 k) (dm_L (N 3) u9 (N 0 0) k))))), (0, .ref (b + 14)), (1, .int (nI j)), (2, .int (nI s9)), (3, .int (nI x9))] := hl
                refine lv_goto (tgt := 11) hx hb d_Mod_bySubject_70 (by decide) ?_
                exact ih _ (by omega) (k + 1) ls rfl (by omega) (lv_sub hl [0, 1, 3, 4, 5, 6] rfl)
              · have cc9 : ¬ (dm_ph (dm_bys (fun y => dm_ofs v9 s9 y) (dm_L (N 3) u9 (N 0 0)) x9 k) ≤ dm_ph (dm_s (dm_ofs v9 s9 k) (dm_L (N 3) u9 (N 0 0) k))) := fun q => cc9 ((nI_leI (by omega) (by omega)).mpr q)
                refine lv_iload hx hb d_Mod_bySubject_58 (lv_at hl 0 rfl) ?_
                refine lv_goto (tgt := 65) hx hb d_Mod_bySubject_60 (by decide) ?_
                refine kk_top (y := nI (dm_ph (dm_bys (fun y => dm_ofs v9 s9 y) (dm_L (N 3) u9 (N 0 0)) x9 (k + 1)))) ((congrArg nI (dm_ph_m2 hq3 hq4 cc9)).trans (dm_ph_eq (if_neg cc5).symm)) ?_
                refine lv_istore hx hb d_Mod_bySubject_65 hl (by decide) rfl (fun ls hl => ?_)
                have hl : lv_has ls 7 [(4, .int (nI (dm_ph (dm_bys (fun y => dm_ofs v9 s9 y) (dm_L (N 3) u9 (N 0 0)) x9 (k + 1))))), (6, .int (nI (dm_ph (dm_s (dm_ofs v9 s9 k) (dm_L (N 3) u9 (N 0 0) k))))), (5, .int (nI k)), (0, .ref (b + 14)), (1, .int (nI j)), (2, .int (nI s9)), (3, .int (nI x9))] := hl
                refine lv_iinc (k := 2) (v := nI (k + 1)) hx hb d_Mod_bySubject_67 hl rfl (kk_inc _) (by decide) rfl (fun ls hl => ?_)
                have hl : lv_has ls 7 [(5, .int (nI (k + 1))), (4, .int (nI (dm_ph (dm_bys (fun y => dm_ofs v9 s9 y) (dm_L (N 3) u9 (N 0 0)) x9 (k + 1))))), (6, .int (nI (dm_ph (dm_s (dm_ofs v9 s9 k) (dm_L (N 3) u9 (N 0 0) k))))), (0, .ref (b + 14)), (1, .int (nI j)), (2, .int (nI s9)), (3, .int (nI x9))] := hl
                refine lv_goto (tgt := 11) hx hb d_Mod_bySubject_70 (by decide) ?_
                exact ih _ (by omega) (k + 1) ls rfl (by omega) (lv_sub hl [0, 1, 3, 4, 5, 6] rfl)
    exact lp2 _ 0 _ rfl (by omega) (lv_sub hl [0, 1, 2, 3, 4, 5] rfl)
  · refine lv_iconst (v := nI 0) hx hb d_Mod_bySubject_8 (by decide) ?_
    refine lv_istore hx hb d_Mod_bySubject_9 hl (by decide) rfl (fun ls hl => ?_)
    have hl : lv_has ls 7 [(5, .int (nI 0)), (4, .int (nI (dm_ph (dm_ofs v9 s9 x9)))), (0, .ref (b + 14)), (1, .int (nI j)), (2, .int (nI s9)), (3, .int (nI x9))] := hl
    refine lv_iload hx hb d_Mod_bySubject_11 (lv_at hl 0 rfl) ?_
    refine lv_bipush (v := nI 8) hx hb d_Mod_bySubject_13 (by decide) ?_
    refine lv_icmp_ge (tgt := 73) hx hb d_Mod_bySubject_15 (by decide) (fun cc10 => ?_) (fun cc10 => ?_)
    · have cc10 : 8 ≤ 0 := (nI_leI (by omega) (by omega)).mp cc10
      exact absurd cc10 (by omega)
    · have cc10 : ¬ (8 ≤ 0) := fun q => cc10 ((nI_leI (by omega) (by omega)).mpr q)
      refine lv_aload_n hx hb d_Mod_bySubject_18 rfl (lv_at hl 2 rfl) ?_
      refine mm_get (D := D) (C := n_Mod) (T := T_Mod) (N := 27) (v := .ref (b + 27)) hx hb hts lay_Mod hown hK.1 hP m0 rfl 13 (by decide) (hts _ (List.mem_cons_of_mem _ wd_504)) (fun _ h9 => h9) rfl d_Mod_bySubject_19 ?_
      refine lv_iload_n hx hb d_Mod_bySubject_22 rfl (lv_at hl 3 rfl) ?_
      refine mm_zald hx hb hK.1 hP 1 m13 rfl j rfl (by omega) (by decide) d_Mod_bySubject_23 ?_
      refine W.eq (g2 := F0 m 24 ls [.int (nI ((N 13) j))]) rfl ?_
      refine lv_if_eq (tgt := 73) hx hb d_Mod_bySubject_24 (by decide) (fun cc11 => ?_) (fun cc11 => ?_)
      · rw [← nI_0] at cc11
        have cc11 : (N 13) j = 0 := (nI_eq (by omega) (by omega)).mp cc11
        refine lv_iload hx hb d_Mod_bySubject_73 (lv_at hl 1 rfl) ?_
        exact W.iret hx hb hr (fun t ht hW => ⟨_, rfl, dm_ph_eq (by unfold dm_by1; rw [if_neg (by rw [show N 13 j = 0 by omega]; decide)]), ht⟩) (fun q hq => by cases hq) d_Mod_bySubject_75
      · rw [← nI_0] at cc11
        have cc11 : ¬ ((N 13) j = 0) := fun q => cc11 ((nI_eq (by omega) (by omega)).mpr q)
        exact absurd cc11 (by omega)
