theorem d_Mod_place_0 : decode k_Mod_place 0 = .ok (.iload_n 1, 1) := by decide +kernel
theorem d_Mod_place_1 : decode k_Mod_place 1 = .ok (.invokestatic 161, 3) := by decide +kernel
theorem d_Mod_place_4 : decode k_Mod_place 4 = .ok (.istore_n 2, 1) := by decide +kernel
theorem d_Mod_place_5 : decode k_Mod_place 5 = .ok (.aload_n 0, 1) := by decide +kernel
theorem d_Mod_place_6 : decode k_Mod_place 6 = .ok (.getfield 134, 3) := by decide +kernel
theorem d_Mod_place_9 : decode k_Mod_place 9 = .ok (.iconst 1, 1) := by decide +kernel
theorem d_Mod_place_10 : decode k_Mod_place 10 = .ok (.isub, 1) := by decide +kernel
theorem d_Mod_place_11 : decode k_Mod_place 11 = .ok (.istore_n 3, 1) := by decide +kernel
theorem d_Mod_place_12 : decode k_Mod_place 12 = .ok (.iload_n 3, 1) := by decide +kernel
theorem d_Mod_place_13 : decode k_Mod_place 13 = .ok (.ifCond .lt 23, 3) := by decide +kernel
theorem d_Mod_place_16 : decode k_Mod_place 16 = .ok (.aload_n 0, 1) := by decide +kernel
theorem d_Mod_place_17 : decode k_Mod_place 17 = .ok (.getfield 56, 3) := by decide +kernel
theorem d_Mod_place_20 : decode k_Mod_place 20 = .ok (.iload_n 3, 1) := by decide +kernel
theorem d_Mod_place_21 : decode k_Mod_place 21 = .ok (.iload_n 2, 1) := by decide +kernel
theorem d_Mod_place_22 : decode k_Mod_place 22 = .ok (.iadd, 1) := by decide +kernel
theorem d_Mod_place_23 : decode k_Mod_place 23 = .ok (.aload_n 0, 1) := by decide +kernel
theorem d_Mod_place_24 : decode k_Mod_place 24 = .ok (.getfield 56, 3) := by decide +kernel
theorem d_Mod_place_27 : decode k_Mod_place 27 = .ok (.iload_n 3, 1) := by decide +kernel
theorem d_Mod_place_28 : decode k_Mod_place 28 = .ok (.iaload, 1) := by decide +kernel
theorem d_Mod_place_29 : decode k_Mod_place 29 = .ok (.iastore, 1) := by decide +kernel
theorem d_Mod_place_30 : decode k_Mod_place 30 = .ok (.iinc 3 (-1), 3) := by decide +kernel
theorem d_Mod_place_33 : decode k_Mod_place 33 = .ok (.goto (-21), 3) := by decide +kernel
theorem d_Mod_place_36 : decode k_Mod_place 36 = .ok (.iload_n 2, 1) := by decide +kernel
theorem d_Mod_place_37 : decode k_Mod_place 37 = .ok (.ifCond .le 14, 3) := by decide +kernel
theorem d_Mod_place_40 : decode k_Mod_place 40 = .ok (.aload_n 0, 1) := by decide +kernel
theorem d_Mod_place_41 : decode k_Mod_place 41 = .ok (.getfield 56, 3) := by decide +kernel
theorem d_Mod_place_44 : decode k_Mod_place 44 = .ok (.iconst 0, 1) := by decide +kernel
theorem d_Mod_place_45 : decode k_Mod_place 45 = .ok (.iload_n 1, 1) := by decide +kernel
theorem d_Mod_place_46 : decode k_Mod_place 46 = .ok (.iconst 0, 1) := by decide +kernel
theorem d_Mod_place_47 : decode k_Mod_place 47 = .ok (.invokestatic 59, 3) := by decide +kernel
theorem d_Mod_place_50 : decode k_Mod_place 50 = .ok (.iastore, 1) := by decide +kernel
theorem d_Mod_place_51 : decode k_Mod_place 51 = .ok (.iload_n 2, 1) := by decide +kernel
theorem d_Mod_place_52 : decode k_Mod_place 52 = .ok (.iconst 1, 1) := by decide +kernel
theorem d_Mod_place_53 : decode k_Mod_place 53 = .ok (.if_icmp .le 14, 3) := by decide +kernel
theorem d_Mod_place_56 : decode k_Mod_place 56 = .ok (.aload_n 0, 1) := by decide +kernel
theorem d_Mod_place_57 : decode k_Mod_place 57 = .ok (.getfield 56, 3) := by decide +kernel
theorem d_Mod_place_60 : decode k_Mod_place 60 = .ok (.iconst 1, 1) := by decide +kernel
theorem d_Mod_place_61 : decode k_Mod_place 61 = .ok (.iload_n 1, 1) := by decide +kernel
theorem d_Mod_place_62 : decode k_Mod_place 62 = .ok (.iconst 1, 1) := by decide +kernel
theorem d_Mod_place_63 : decode k_Mod_place 63 = .ok (.invokestatic 59, 3) := by decide +kernel
theorem d_Mod_place_66 : decode k_Mod_place 66 = .ok (.iastore, 1) := by decide +kernel
theorem d_Mod_place_67 : decode k_Mod_place 67 = .ok (.aload_n 0, 1) := by decide +kernel
theorem d_Mod_place_68 : decode k_Mod_place 68 = .ok (.aload_n 0, 1) := by decide +kernel
theorem d_Mod_place_69 : decode k_Mod_place 69 = .ok (.getfield 134, 3) := by decide +kernel
theorem d_Mod_place_72 : decode k_Mod_place 72 = .ok (.iload_n 2, 1) := by decide +kernel
theorem d_Mod_place_73 : decode k_Mod_place 73 = .ok (.iadd, 1) := by decide +kernel
theorem d_Mod_place_74 : decode k_Mod_place 74 = .ok (.putfield 134, 3) := by decide +kernel
theorem d_Mod_place_77 : decode k_Mod_place 77 = .ok (.aload_n 0, 1) := by decide +kernel
theorem d_Mod_place_78 : decode k_Mod_place 78 = .ok (.iload_n 1, 1) := by decide +kernel
theorem d_Mod_place_79 : decode k_Mod_place 79 = .ok (.invokestatic 83, 3) := by decide +kernel
theorem d_Mod_place_82 : decode k_Mod_place 82 = .ok (.putfield 164, 3) := by decide +kernel
theorem d_Mod_place_85 : decode k_Mod_place 85 = .ok (.return_, 1) := by decide +kernel
set_option maxHeartbeats 4000000 in
set_option maxRecDepth 100000 in
theorem c_Mod_place (l : Launch) {B : Nat} {D : va_G} {cI cZ cQ : ClassId} {w : mm_M} {sz : Nat} {b : Nat} {N : Nat → Nat → Nat} {S : Nat → Nat → Int32} {n : Nat} (hM : mo_I b cI cZ N S w) (hn2 : n < 200) (hm : N 18 0 ≤ 4) (hm5 : N 18 0 + ch_a n ≤ 5) : Met l y_Mod_place ws_Mod_place (kk_rm 2 0 0) (kk_Pc B D cI cZ cQ [.ref (b + 14), .int (nI n)] w sz) (kk_Qv B D (fun w' sz' => mo_I b cI cZ (pl_N N n) S w' ∧ (∀ j, ¬ (b + 14 ≤ j ∧ j < b + 31) → w' j = w j) ∧ sz' = sz)) 0 0 (fun q => B ≤ q) := by
  refine Met.ofW (cc := k_Mod_place) (maxL := 4) (ret := none) (by decide) rfl ?_
  intro p e s m args below meth c s₁ BB hml hv
  obtain ⟨rfl, hK, hP, hz, hBz⟩ := hv
  have hx := BB.exec
  have hb := BB.bytes
  have hr := BB.returns
  have hts := atoms_spec (ws := ws_Mod_place) BB.pre
  have hown : s.vm.findClass "DelegationClosureModel" = some m.cls := findClass_of_methodNamed BB.named
  have hlocks := BB.notSynchronized
  have hS : mm_S B s.heap s.heap [] := va_S.rf
  have hl := lv_entry ([.ref (b + 14), .int (nI n)]) (n := 4) (Nat.le_of_ble_eq_true rfl)
  rw [lg_entry_eq]
  generalize (lg_sl ([.ref (b + 14), .int (nI n)]) ++ List.replicate (4 - (lg_sl ([.ref (b + 14), .int (nI n)])).length) Slot.unset).toArray = ls at hl ⊢
  have hl : lv_has ls 4 [(0, .ref (b + 14)), (1, .int (nI n))] := hl
  have m0 : w (b + 14) = some (.inr (9, [.int (nI (N 0 0)), .ref (b + 15), .ref (b + 16), .ref (b + 17), .ref (b + 18), .ref (b + 19), .ref (b + 20), .ref (b + 21), .ref (b + 22), .ref (b + 23), .ref (b + 24), .ref (b + 25), .ref (b + 26), .ref (b + 27), .ref (b + 28), .ref (b + 29), .int (nI (N 16 0)), .int (nI (N 17 0)), .int (nI (N 18 0)), .ref (b + 30), .int (nI (N 20 0)), .int (S 21 0), .int (S 22 0), .int (S 23 0), .int (S 24 0), .int (nI (N 25 0)), .int (nI (N 26 0))])) := hM.1
  have m1 : w (b + 15) = some (.inl (cZ, 24, .inl (fun i => nI ((N 1) i)))) := hM.2 1 (by decide) (by decide)
  have m2 : w (b + 16) = some (.inl (cZ, 24, .inl (fun i => nI ((N 2) i)))) := hM.2 2 (by decide) (by decide)
  have m3 : w (b + 17) = some (.inl (cI, 24, .inl (fun i => nI ((N 3) i)))) := hM.2 3 (by decide) (by decide)
  have m4 : w (b + 18) = some (.inl (cI, 24, .inl (fun i => nI ((N 4) i)))) := hM.2 4 (by decide) (by decide)
  have m5 : w (b + 19) = some (.inl (cI, 24, .inl (S 5))) := hM.2 5 (by decide) (by decide)
  have m6 : w (b + 20) = some (.inl (cI, 24, .inl (S 6))) := hM.2 6 (by decide) (by decide)
  have m7 : w (b + 21) = some (.inl (cI, 72, .inl (fun i => nI ((N 7) i)))) := hM.2 7 (by decide) (by decide)
  have m8 : w (b + 22) = some (.inl (cI, 24, .inl (fun i => nI ((N 8) i)))) := hM.2 8 (by decide) (by decide)
  have m9 : w (b + 23) = some (.inl (cI, 24, .inl (fun i => nI ((N 9) i)))) := hM.2 9 (by decide) (by decide)
  have m10 : w (b + 24) = some (.inl (cI, 24, .inl (fun i => nI ((N 10) i)))) := hM.2 10 (by decide) (by decide)
  have m11 : w (b + 25) = some (.inl (cI, 24, .inl (S 11))) := hM.2 11 (by decide) (by decide)
  have m12 : w (b + 26) = some (.inl (cI, 24, .inl (S 12))) := hM.2 12 (by decide) (by decide)
  have m13 : w (b + 27) = some (.inl (cZ, 24, .inl (fun i => nI ((N 13) i)))) := hM.2 13 (by decide) (by decide)
  have m14 : w (b + 28) = some (.inl (cI, 256, .inl (fun i => nI ((N 14) i)))) := hM.2 14 (by decide) (by decide)
  have m15 : w (b + 29) = some (.inl (cI, 24, .inl (fun i => nI ((N 15) i)))) := hM.2 15 (by decide) (by decide)
  have m16 : w (b + 30) = some (.inl (cI, 5, .inl (fun i => nI ((N 19) i)))) := hM.2 16 (by decide) (by decide)
  have hA2 := ch_a_le n
  refine lv_iload_n hx hb d_Mod_place_0 rfl (lv_at hl 1 rfl) ?_
  refine vp_callSi (va_Run.run (va_runS (As := [.int (nI n)]) (rest := []) ⟨hx, hb, hml, hown, hts⟩ (c_Mod_namesOf l (by omega)) (va_cwS 1 hts (gW_in (hd := [_, _, _, _]) (kk_4 wd_691 wd_692 wd_8 cw_Mod_namesOf)) rfl rfl rfl ds_Mod_namesOf ⟨Nat.le_of_ble_eq_true rfl, Nat.le_of_ble_eq_true rfl⟩) (kk_preS hK hP hz hBz) rfl rfl hl.1 rfl (lv_room (Nat.le_of_ble_eq_true rfl)) d_Mod_place_1 ⟨Nat.le_of_ble_eq_true rfl, Nat.le_of_ble_eq_true rfl⟩)) (fun r1 hr1 => ?_)
  subst hr1
  refine kk_top (y := nI (ch_a n)) rfl ?_
  refine lv_istore_n hx hb d_Mod_place_4 rfl hl (by decide) rfl (fun ls hl => ?_)
  have hl : lv_has ls 4 [(2, .int (nI (ch_a n))), (0, .ref (b + 14)), (1, .int (nI n))] := hl
  refine lv_aload_n hx hb d_Mod_place_5 rfl (lv_at hl 1 rfl) ?_
  refine mm_get (D := D) (C := n_Mod) (T := T_Mod) (N := 27) (v := .int (nI (N 18 0))) hx hb hts lay_Mod hown hK.1 hP m0 rfl 18 (by decide) (hts _ (List.mem_cons_of_mem _ wd_509)) (fun _ h9 => h9) rfl d_Mod_place_6 ?_
  refine lv_iconst (v := nI 1) hx hb d_Mod_place_9 (by decide) ?_
  refine lv_isub hx hb d_Mod_place_10 ?_
  refine kk_top (y := nI (N 18 0) - nI 1) (rfl) ?_
  refine lv_istore_n hx hb d_Mod_place_11 rfl hl (by decide) rfl (fun ls hl => ?_)
  have hl : lv_has ls 4 [(3, .int (nI (N 18 0) - nI 1)), (2, .int (nI (ch_a n))), (0, .ref (b + 14)), (1, .int (nI n))] := hl
  have lp2 : ∀ (d : Nat) (p9 : Nat) (w3 : mm_M) (H : Heap) (locs : List Loc) (ls : Array Slot), d = p9 → (mm_P B D kc w3 H) → (H.size = sz) → (mm_S B s.heap H locs) → (∀ j, j ≠ b + 30 → w3 j = w j) → (w3 (b + 30) = some (.inl (cI, 5, .inl (fun i => nI ((ch_sh (N 19) (ch_a n) p9 (N 18 0)) i))))) → (p9 ≤ N 18 0) → lv_has ls 4 [(3, .int (nI p9 - nI 1)), (2, .int (nI (ch_a n))), (0, .ref (b + 14)), (1, .int (nI n))] → W p l e (headSpec ws_Mod_place (kk_rm 2 0 0)).room s m ([.ref (b + 14), .int (nI n)]).toArray below meth c H locs 0 0 (MQ below (kk_Qv B D (fun w' sz' => mo_I b cI cZ (pl_N N n) S w' ∧ (∀ j, ¬ (b + 14 ≤ j ∧ j < b + 31) → w' j = w j) ∧ sz' = sz)) ([.ref (b + 14), .int (nI n)]).toArray s 0 0 (fun q => B ≤ q)) (F0 m 12 ls []) := by
    intro d
    induction d using Nat.strongRecOn with
    | ind d ih =>
      intro p9 w3 H locs ls hd hP hz hS frw3 fw3_0 hp hl
      refine lv_iload_n hx hb d_Mod_place_12 rfl (lv_at hl 0 rfl) ?_
      refine lv_if_lt (tgt := 36) hx hb d_Mod_place_13 (by decide) (fun cc4 => ?_) (fun cc4 => ?_)
      · have cc4 : p9 = 0 := (kk_nmlt (by omega)).mp cc4
        obtain rfl : p9 = 0 := by omega
        refine lv_iload_n hx hb d_Mod_place_36 rfl (lv_at hl 1 rfl) ?_
        refine lv_if_le (tgt := 51) hx hb d_Mod_place_37 (by decide) (fun cc5 => ?_) (fun cc5 => ?_)
        · rw [← nI_0] at cc5
          have cc5 : ch_a n ≤ 0 := (nI_leI (by omega) (by omega)).mp cc5
          refine lv_iload_n hx hb d_Mod_place_51 rfl (lv_at hl 1 rfl) ?_
          refine lv_iconst (v := nI 1) hx hb d_Mod_place_52 (by decide) ?_
          refine lv_icmp_le (tgt := 67) hx hb d_Mod_place_53 (by decide) (fun cc6 => ?_) (fun cc6 => ?_)
          · have cc6 : ch_a n ≤ 1 := (nI_leI (by omega) (by omega)).mp cc6
            refine lv_aload_n hx hb d_Mod_place_67 rfl (lv_at hl 2 rfl) ?_
            refine lv_aload_n hx hb d_Mod_place_68 rfl (lv_at hl 2 rfl) ?_
            have f7 := (frw3 _ (by omega)).trans (m0)
            refine mm_get (D := D) (C := n_Mod) (T := T_Mod) (N := 27) (v := .int (nI (N 18 0))) hx hb hts lay_Mod hown hK.1 hP f7 rfl 18 (by decide) (hts _ (List.mem_cons_of_mem _ wd_509)) (fun _ h9 => h9) rfl d_Mod_place_69 ?_
            refine lv_iload_n hx hb d_Mod_place_72 rfl (lv_at hl 1 rfl) ?_
            refine lv_iadd hx hb d_Mod_place_73 ?_
            refine kk_top (nI_add _ _) ?_
            refine mm_put (D := D) (C := n_Mod) (T := T_Mod) (N := 27) (v := .int (nI ((N 18 0) + (ch_a n)))) (ty := .int) hx hb hts lay_Mod t_Mod ty_Mod nm_Mod hown hK.1 hP hS f7 rfl 18 (by decide) (hts _ (List.mem_cons_of_mem _ wd_509)) (fun _ h9 => h9) rfl (by decide +kernel) rfl rfl (Nat.le_of_ble_eq_true rfl) d_Mod_place_74 (fun H locs hP hz1 hS => ?_)
            have hz : H.size = sz := hz1.trans hz
            obtain ⟨w8, hw8⟩ : ∃ z : mm_M, z = mm_up w3 (b + 14) (.inr (9, [.int (nI (N 0 0)), .ref (b + 15), .ref (b + 16), .ref (b + 17), .ref (b + 18), .ref (b + 19), .ref (b + 20), .ref (b + 21), .ref (b + 22), .ref (b + 23), .ref (b + 24), .ref (b + 25), .ref (b + 26), .ref (b + 27), .ref (b + 28), .ref (b + 29), .int (nI (N 16 0)), .int (nI (N 17 0)), .int (nI ((N 18 0) + (ch_a n))), .ref (b + 30), .int (nI (N 20 0)), .int (S 21 0), .int (S 22 0), .int (S 23 0), .int (S 24 0), .int (nI (N 25 0)), .int (nI (N 26 0))])) := ⟨_, rfl⟩
            have hP : mm_P B D kc w8 H := by rw [hw8]; exact hP
            have fr8 : ∀ j, j ≠ b + 14 → w8 j = w3 j := fun j h9 => by rw [hw8]; exact mm_un h9
            have fa8 : w8 (b + 14) = some (.inr (9, [.int (nI (N 0 0)), .ref (b + 15), .ref (b + 16), .ref (b + 17), .ref (b + 18), .ref (b + 19), .ref (b + 20), .ref (b + 21), .ref (b + 22), .ref (b + 23), .ref (b + 24), .ref (b + 25), .ref (b + 26), .ref (b + 27), .ref (b + 28), .ref (b + 29), .int (nI (N 16 0)), .int (nI (N 17 0)), .int (nI ((N 18 0) + (ch_a n))), .ref (b + 30), .int (nI (N 20 0)), .int (S 21 0), .int (S 22 0), .int (S 23 0), .int (S 24 0), .int (nI (N 25 0)), .int (nI (N 26 0))])) := by rw [hw8]; exact mm_us _ _ _
            refine lv_aload_n hx hb d_Mod_place_77 rfl (lv_at hl 2 rfl) ?_
            refine lv_iload_n hx hb d_Mod_place_78 rfl (lv_at hl 3 rfl) ?_
            refine vp_callSi (va_Run.run (va_runS (As := [.int (nI n)]) (rest := [.ref (b + 14)]) ⟨hx, hb, hml, hown, hts⟩ (c_Mod_keyOf l (by omega)) (va_cwS 1 hts (gW_in (hd := [_, _, _, _]) (kk_4 wd_641 wd_642 wd_8 cw_Mod_keyOf)) rfl rfl rfl ds_Mod_keyOf ⟨Nat.le_of_ble_eq_true rfl, Nat.le_of_ble_eq_true rfl⟩) (kk_preS hK hP hz hBz) rfl rfl hl.1 rfl (lv_room (Nat.le_of_ble_eq_true rfl)) d_Mod_place_79 ⟨Nat.le_of_ble_eq_true rfl, Nat.le_of_ble_eq_true rfl⟩)) (fun r9 hr9 => ?_)
            subst hr9
            refine mm_put (D := D) (C := n_Mod) (T := T_Mod) (N := 27) (v := .int (nI (n % 8))) (ty := .int) hx hb hts lay_Mod t_Mod ty_Mod nm_Mod hown hK.1 hP hS fa8 rfl 17 (by decide) (hts _ (List.mem_cons_of_mem _ wd_508)) (fun _ h9 => h9) rfl (by decide +kernel) rfl rfl (Nat.le_of_ble_eq_true rfl) d_Mod_place_82 (fun H locs hP hz1 hS => ?_)
            have hz : H.size = sz := hz1.trans hz
            obtain ⟨w10, hw10⟩ : ∃ z : mm_M, z = mm_up w8 (b + 14) (.inr (9, [.int (nI (N 0 0)), .ref (b + 15), .ref (b + 16), .ref (b + 17), .ref (b + 18), .ref (b + 19), .ref (b + 20), .ref (b + 21), .ref (b + 22), .ref (b + 23), .ref (b + 24), .ref (b + 25), .ref (b + 26), .ref (b + 27), .ref (b + 28), .ref (b + 29), .int (nI (N 16 0)), .int (nI (n % 8)), .int (nI ((N 18 0) + (ch_a n))), .ref (b + 30), .int (nI (N 20 0)), .int (S 21 0), .int (S 22 0), .int (S 23 0), .int (S 24 0), .int (nI (N 25 0)), .int (nI (N 26 0))])) := ⟨_, rfl⟩
            have hP : mm_P B D kc w10 H := by rw [hw10]; exact hP
            have fr10 : ∀ j, j ≠ b + 14 → w10 j = w8 j := fun j h9 => by rw [hw10]; exact mm_un h9
            have fa10 : w10 (b + 14) = some (.inr (9, [.int (nI (N 0 0)), .ref (b + 15), .ref (b + 16), .ref (b + 17), .ref (b + 18), .ref (b + 19), .ref (b + 20), .ref (b + 21), .ref (b + 22), .ref (b + 23), .ref (b + 24), .ref (b + 25), .ref (b + 26), .ref (b + 27), .ref (b + 28), .ref (b + 29), .int (nI (N 16 0)), .int (nI (n % 8)), .int (nI ((N 18 0) + (ch_a n))), .ref (b + 30), .int (nI (N 20 0)), .int (S 21 0), .int (S 22 0), .int (S 23 0), .int (S 24 0), .int (nI (N 25 0)), .int (nI (N 26 0))])) := by rw [hw10]; exact mm_us _ _ _
            have f11 := (fr10 _ (by omega)).trans ((fr8 _ (by omega)).trans (fw3_0))
            rw [ch_put0 (by omega)] at f11
            exact W.vret hx hb hr (fun t ht hW => ⟨⟨(w10, sz), rfl, ⟨(mo_mk fa10 ((fr10 _ (by omega)).trans ((fr8 _ (by omega)).trans ((frw3 _ (by omega)).trans (m1)))) ((fr10 _ (by omega)).trans ((fr8 _ (by omega)).trans ((frw3 _ (by omega)).trans (m2)))) ((fr10 _ (by omega)).trans ((fr8 _ (by omega)).trans ((frw3 _ (by omega)).trans (m3)))) ((fr10 _ (by omega)).trans ((fr8 _ (by omega)).trans ((frw3 _ (by omega)).trans (m4)))) ((fr10 _ (by omega)).trans ((fr8 _ (by omega)).trans ((frw3 _ (by omega)).trans (m5)))) ((fr10 _ (by omega)).trans ((fr8 _ (by omega)).trans ((frw3 _ (by omega)).trans (m6)))) ((fr10 _ (by omega)).trans ((fr8 _ (by omega)).trans ((frw3 _ (by omega)).trans (m7)))) ((fr10 _ (by omega)).trans ((fr8 _ (by omega)).trans ((frw3 _ (by omega)).trans (m8)))) ((fr10 _ (by omega)).trans ((fr8 _ (by omega)).trans ((frw3 _ (by omega)).trans (m9)))) ((fr10 _ (by omega)).trans ((fr8 _ (by omega)).trans ((frw3 _ (by omega)).trans (m10)))) ((fr10 _ (by omega)).trans ((fr8 _ (by omega)).trans ((frw3 _ (by omega)).trans (m11)))) ((fr10 _ (by omega)).trans ((fr8 _ (by omega)).trans ((frw3 _ (by omega)).trans (m12)))) ((fr10 _ (by omega)).trans ((fr8 _ (by omega)).trans ((frw3 _ (by omega)).trans (m13)))) ((fr10 _ (by omega)).trans ((fr8 _ (by omega)).trans ((frw3 _ (by omega)).trans (m14)))) ((fr10 _ (by omega)).trans ((fr8 _ (by omega)).trans ((frw3 _ (by omega)).trans (m15)))) f11), (fun j hj => (fr10 j (by omega)).trans ((fr8 j (by omega)).trans (frw3 j (by omega)))), rfl⟩, by rw [ht]; exact hP, by rw [ht]; exact hz⟩, hS.F ht⟩) hS.2.2 d_Mod_place_85
          · have cc6 : ¬ (ch_a n ≤ 1) := fun q => cc6 ((nI_leI (by omega) (by omega)).mpr q)
            exact absurd cc6 (by omega)
        · rw [← nI_0] at cc5
          have cc5 : ¬ (ch_a n ≤ 0) := fun q => cc5 ((nI_leI (by omega) (by omega)).mpr q)
          have ha1 := ch_a_1 (n := n) (by omega)
          refine lv_aload_n hx hb d_Mod_place_40 rfl (lv_at hl 2 rfl) ?_
          have f12 := (frw3 _ (by omega)).trans (m0)
          refine mm_get (D := D) (C := n_Mod) (T := T_Mod) (N := 27) (v := .ref (b + 30)) hx hb hts lay_Mod hown hK.1 hP f12 rfl 19 (by decide) (hts _ (List.mem_cons_of_mem _ wd_510)) (fun _ h9 => h9) rfl d_Mod_place_41 ?_
          refine lv_iconst (v := nI 0) hx hb d_Mod_place_44 (by decide) ?_
          refine lv_iload_n hx hb d_Mod_place_45 rfl (lv_at hl 3 rfl) ?_
          refine lv_iconst (v := nI 0) hx hb d_Mod_place_46 (by decide) ?_
          refine vp_callSi (va_Run.run (va_runS (As := [.int (nI n), .int (nI 0)]) (rest := [.int (nI 0), .ref (b + 30)]) ⟨hx, hb, hml, hown, hts⟩ (c_Mod_nameOf0 l (by omega)) (va_cwS 2 hts (gW_in (hd := [_, _, _, _]) (kk_4 wd_580 wd_581 wd_8 cw_Mod_nameOf)) rfl rfl rfl ds_Mod_nameOf ⟨Nat.le_of_ble_eq_true rfl, Nat.le_of_ble_eq_true rfl⟩) (kk_preS hK hP hz hBz) rfl rfl hl.1 rfl (lv_room (Nat.le_of_ble_eq_true rfl)) d_Mod_place_47 ⟨Nat.le_of_ble_eq_true rfl, Nat.le_of_ble_eq_true rfl⟩)) (fun r13 hr13 => ?_)
          subst hr13
          refine kk_top (y := nI (n / 8 % 5 - 1)) (pk_sub (by omega)) ?_
          refine mm_iast hx hb hK.1 hP hS 0 fw3_0 rfl 0 rfl (by omega) (by decide) d_Mod_place_50 (fun H locs hP hz1 hS => ?_)
          rw [show upd (fun i => nI ((ch_sh (N 19) (ch_a n) 0 (N 18 0)) i)) 0 (nI (n / 8 % 5 - 1)) = fun i => nI ((va_up (ch_sh (N 19) (ch_a n) 0 (N 18 0)) 0 (n / 8 % 5 - 1)) i) from kk_upn _ _ _] at hP
          have hz : H.size = sz := hz1.trans hz
          obtain ⟨w14, hw14⟩ : ∃ z : mm_M, z = mm_up w3 (b + 30) (.inl (cI, 5, .inl (fun i => nI ((va_up (ch_sh (N 19) (ch_a n) 0 (N 18 0)) 0 (n / 8 % 5 - 1)) i)))) := ⟨_, rfl⟩
          have hP : mm_P B D kc w14 H := by rw [hw14]; exact hP
          have fr14 : ∀ j, j ≠ b + 30 → w14 j = w3 j := fun j h9 => by rw [hw14]; exact mm_un h9
          have fa14 : w14 (b + 30) = some (.inl (cI, 5, .inl (fun i => nI ((va_up (ch_sh (N 19) (ch_a n) 0 (N 18 0)) 0 (n / 8 % 5 - 1)) i)))) := by rw [hw14]; exact mm_us _ _ _
          refine lv_iload_n hx hb d_Mod_place_51 rfl (lv_at hl 1 rfl) ?_
          refine lv_iconst (v := nI 1) hx hb d_Mod_place_52 (by decide) ?_
          refine lv_icmp_le (tgt := 67) hx hb d_Mod_place_53 (by decide) (fun cc15 => ?_) (fun cc15 => ?_)
          · have cc15 : ch_a n ≤ 1 := (nI_leI (by omega) (by omega)).mp cc15
            refine lv_aload_n hx hb d_Mod_place_67 rfl (lv_at hl 2 rfl) ?_
            refine lv_aload_n hx hb d_Mod_place_68 rfl (lv_at hl 2 rfl) ?_
            have f16 := (fr14 _ (by omega)).trans (f12)
            refine mm_get (D := D) (C := n_Mod) (T := T_Mod) (N := 27) (v := .int (nI (N 18 0))) hx hb hts lay_Mod hown hK.1 hP f16 rfl 18 (by decide) (hts _ (List.mem_cons_of_mem _ wd_509)) (fun _ h9 => h9) rfl d_Mod_place_69 ?_
            refine lv_iload_n hx hb d_Mod_place_72 rfl (lv_at hl 1 rfl) ?_
            refine lv_iadd hx hb d_Mod_place_73 ?_
            refine kk_top (nI_add _ _) ?_
            refine mm_put (D := D) (C := n_Mod) (T := T_Mod) (N := 27) (v := .int (nI ((N 18 0) + (ch_a n)))) (ty := .int) hx hb hts lay_Mod t_Mod ty_Mod nm_Mod hown hK.1 hP hS f16 rfl 18 (by decide) (hts _ (List.mem_cons_of_mem _ wd_509)) (fun _ h9 => h9) rfl (by decide +kernel) rfl rfl (Nat.le_of_ble_eq_true rfl) d_Mod_place_74 (fun H locs hP hz1 hS => ?_)
            have hz : H.size = sz := hz1.trans hz
            obtain ⟨w17, hw17⟩ : ∃ z : mm_M, z = mm_up w14 (b + 14) (.inr (9, [.int (nI (N 0 0)), .ref (b + 15), .ref (b + 16), .ref (b + 17), .ref (b + 18), .ref (b + 19), .ref (b + 20), .ref (b + 21), .ref (b + 22), .ref (b + 23), .ref (b + 24), .ref (b + 25), .ref (b + 26), .ref (b + 27), .ref (b + 28), .ref (b + 29), .int (nI (N 16 0)), .int (nI (N 17 0)), .int (nI ((N 18 0) + (ch_a n))), .ref (b + 30), .int (nI (N 20 0)), .int (S 21 0), .int (S 22 0), .int (S 23 0), .int (S 24 0), .int (nI (N 25 0)), .int (nI (N 26 0))])) := ⟨_, rfl⟩
            have hP : mm_P B D kc w17 H := by rw [hw17]; exact hP
            have fr17 : ∀ j, j ≠ b + 14 → w17 j = w14 j := fun j h9 => by rw [hw17]; exact mm_un h9
            have fa17 : w17 (b + 14) = some (.inr (9, [.int (nI (N 0 0)), .ref (b + 15), .ref (b + 16), .ref (b + 17), .ref (b + 18), .ref (b + 19), .ref (b + 20), .ref (b + 21), .ref (b + 22), .ref (b + 23), .ref (b + 24), .ref (b + 25), .ref (b + 26), .ref (b + 27), .ref (b + 28), .ref (b + 29), .int (nI (N 16 0)), .int (nI (N 17 0)), .int (nI ((N 18 0) + (ch_a n))), .ref (b + 30), .int (nI (N 20 0)), .int (S 21 0), .int (S 22 0), .int (S 23 0), .int (S 24 0), .int (nI (N 25 0)), .int (nI (N 26 0))])) := by rw [hw17]; exact mm_us _ _ _
            refine lv_aload_n hx hb d_Mod_place_77 rfl (lv_at hl 2 rfl) ?_
            refine lv_iload_n hx hb d_Mod_place_78 rfl (lv_at hl 3 rfl) ?_
            refine vp_callSi (va_Run.run (va_runS (As := [.int (nI n)]) (rest := [.ref (b + 14)]) ⟨hx, hb, hml, hown, hts⟩ (c_Mod_keyOf l (by omega)) (va_cwS 1 hts (gW_in (hd := [_, _, _, _]) (kk_4 wd_641 wd_642 wd_8 cw_Mod_keyOf)) rfl rfl rfl ds_Mod_keyOf ⟨Nat.le_of_ble_eq_true rfl, Nat.le_of_ble_eq_true rfl⟩) (kk_preS hK hP hz hBz) rfl rfl hl.1 rfl (lv_room (Nat.le_of_ble_eq_true rfl)) d_Mod_place_79 ⟨Nat.le_of_ble_eq_true rfl, Nat.le_of_ble_eq_true rfl⟩)) (fun r18 hr18 => ?_)
            subst hr18
            refine mm_put (D := D) (C := n_Mod) (T := T_Mod) (N := 27) (v := .int (nI (n % 8))) (ty := .int) hx hb hts lay_Mod t_Mod ty_Mod nm_Mod hown hK.1 hP hS fa17 rfl 17 (by decide) (hts _ (List.mem_cons_of_mem _ wd_508)) (fun _ h9 => h9) rfl (by decide +kernel) rfl rfl (Nat.le_of_ble_eq_true rfl) d_Mod_place_82 (fun H locs hP hz1 hS => ?_)
            have hz : H.size = sz := hz1.trans hz
            obtain ⟨w19, hw19⟩ : ∃ z : mm_M, z = mm_up w17 (b + 14) (.inr (9, [.int (nI (N 0 0)), .ref (b + 15), .ref (b + 16), .ref (b + 17), .ref (b + 18), .ref (b + 19), .ref (b + 20), .ref (b + 21), .ref (b + 22), .ref (b + 23), .ref (b + 24), .ref (b + 25), .ref (b + 26), .ref (b + 27), .ref (b + 28), .ref (b + 29), .int (nI (N 16 0)), .int (nI (n % 8)), .int (nI ((N 18 0) + (ch_a n))), .ref (b + 30), .int (nI (N 20 0)), .int (S 21 0), .int (S 22 0), .int (S 23 0), .int (S 24 0), .int (nI (N 25 0)), .int (nI (N 26 0))])) := ⟨_, rfl⟩
            have hP : mm_P B D kc w19 H := by rw [hw19]; exact hP
            have fr19 : ∀ j, j ≠ b + 14 → w19 j = w17 j := fun j h9 => by rw [hw19]; exact mm_un h9
            have fa19 : w19 (b + 14) = some (.inr (9, [.int (nI (N 0 0)), .ref (b + 15), .ref (b + 16), .ref (b + 17), .ref (b + 18), .ref (b + 19), .ref (b + 20), .ref (b + 21), .ref (b + 22), .ref (b + 23), .ref (b + 24), .ref (b + 25), .ref (b + 26), .ref (b + 27), .ref (b + 28), .ref (b + 29), .int (nI (N 16 0)), .int (nI (n % 8)), .int (nI ((N 18 0) + (ch_a n))), .ref (b + 30), .int (nI (N 20 0)), .int (S 21 0), .int (S 22 0), .int (S 23 0), .int (S 24 0), .int (nI (N 25 0)), .int (nI (N 26 0))])) := by rw [hw19]; exact mm_us _ _ _
            have f20 := (fr19 _ (by omega)).trans ((fr17 _ (by omega)).trans (fa14))
            rw [ch_put1 (by omega)] at f20
            exact W.vret hx hb hr (fun t ht hW => ⟨⟨(w19, sz), rfl, ⟨(mo_mk fa19 ((fr19 _ (by omega)).trans ((fr17 _ (by omega)).trans ((fr14 _ (by omega)).trans ((frw3 _ (by omega)).trans (m1))))) ((fr19 _ (by omega)).trans ((fr17 _ (by omega)).trans ((fr14 _ (by omega)).trans ((frw3 _ (by omega)).trans (m2))))) ((fr19 _ (by omega)).trans ((fr17 _ (by omega)).trans ((fr14 _ (by omega)).trans ((frw3 _ (by omega)).trans (m3))))) ((fr19 _ (by omega)).trans ((fr17 _ (by omega)).trans ((fr14 _ (by omega)).trans ((frw3 _ (by omega)).trans (m4))))) ((fr19 _ (by omega)).trans ((fr17 _ (by omega)).trans ((fr14 _ (by omega)).trans ((frw3 _ (by omega)).trans (m5))))) ((fr19 _ (by omega)).trans ((fr17 _ (by omega)).trans ((fr14 _ (by omega)).trans ((frw3 _ (by omega)).trans (m6))))) ((fr19 _ (by omega)).trans ((fr17 _ (by omega)).trans ((fr14 _ (by omega)).trans ((frw3 _ (by omega)).trans (m7))))) ((fr19 _ (by omega)).trans ((fr17 _ (by omega)).trans ((fr14 _ (by omega)).trans ((frw3 _ (by omega)).trans (m8))))) ((fr19 _ (by omega)).trans ((fr17 _ (by omega)).trans ((fr14 _ (by omega)).trans ((frw3 _ (by omega)).trans (m9))))) ((fr19 _ (by omega)).trans ((fr17 _ (by omega)).trans ((fr14 _ (by omega)).trans ((frw3 _ (by omega)).trans (m10))))) ((fr19 _ (by omega)).trans ((fr17 _ (by omega)).trans ((fr14 _ (by omega)).trans ((frw3 _ (by omega)).trans (m11))))) ((fr19 _ (by omega)).trans ((fr17 _ (by omega)).trans ((fr14 _ (by omega)).trans ((frw3 _ (by omega)).trans (m12))))) ((fr19 _ (by omega)).trans ((fr17 _ (by omega)).trans ((fr14 _ (by omega)).trans ((frw3 _ (by omega)).trans (m13))))) ((fr19 _ (by omega)).trans ((fr17 _ (by omega)).trans ((fr14 _ (by omega)).trans ((frw3 _ (by omega)).trans (m14))))) ((fr19 _ (by omega)).trans ((fr17 _ (by omega)).trans ((fr14 _ (by omega)).trans ((frw3 _ (by omega)).trans (m15))))) f20), (fun j hj => (fr19 j (by omega)).trans ((fr17 j (by omega)).trans ((fr14 j (by omega)).trans (frw3 j (by omega))))), rfl⟩, by rw [ht]; exact hP, by rw [ht]; exact hz⟩, hS.F ht⟩) hS.2.2 d_Mod_place_85
          · have cc15 : ¬ (ch_a n ≤ 1) := fun q => cc15 ((nI_leI (by omega) (by omega)).mpr q)
            have ha2 := ch_a_2 (n := n) (by omega)
            refine lv_aload_n hx hb d_Mod_place_56 rfl (lv_at hl 2 rfl) ?_
            have f21 := (fr14 _ (by omega)).trans (f12)
            refine mm_get (D := D) (C := n_Mod) (T := T_Mod) (N := 27) (v := .ref (b + 30)) hx hb hts lay_Mod hown hK.1 hP f21 rfl 19 (by decide) (hts _ (List.mem_cons_of_mem _ wd_510)) (fun _ h9 => h9) rfl d_Mod_place_57 ?_
            refine lv_iconst (v := nI 1) hx hb d_Mod_place_60 (by decide) ?_
            refine lv_iload_n hx hb d_Mod_place_61 rfl (lv_at hl 3 rfl) ?_
            refine lv_iconst (v := nI 1) hx hb d_Mod_place_62 (by decide) ?_
            refine vp_callSi (va_Run.run (va_runS (As := [.int (nI n), .int (nI 1)]) (rest := [.int (nI 1), .ref (b + 30)]) ⟨hx, hb, hml, hown, hts⟩ (c_Mod_nameOf1 l (by omega)) (va_cwS 2 hts (gW_in (hd := [_, _, _, _]) (kk_4 wd_580 wd_581 wd_8 cw_Mod_nameOf)) rfl rfl rfl ds_Mod_nameOf ⟨Nat.le_of_ble_eq_true rfl, Nat.le_of_ble_eq_true rfl⟩) (kk_preS hK hP hz hBz) rfl rfl hl.1 rfl (lv_room (Nat.le_of_ble_eq_true rfl)) d_Mod_place_63 ⟨Nat.le_of_ble_eq_true rfl, Nat.le_of_ble_eq_true rfl⟩)) (fun r22 hr22 => ?_)
            subst hr22
            refine kk_top (y := nI (n / 40 - 1)) (pk_sub (by omega)) ?_
            refine mm_iast hx hb hK.1 hP hS 0 fa14 rfl 1 rfl (by omega) (by decide) d_Mod_place_66 (fun H locs hP hz1 hS => ?_)
            rw [show upd (fun i => nI ((va_up (ch_sh (N 19) (ch_a n) 0 (N 18 0)) 0 (n / 8 % 5 - 1)) i)) 1 (nI (n / 40 - 1)) = fun i => nI ((va_up (va_up (ch_sh (N 19) (ch_a n) 0 (N 18 0)) 0 (n / 8 % 5 - 1)) 1 (n / 40 - 1)) i) from kk_upn _ _ _] at hP
            have hz : H.size = sz := hz1.trans hz
            obtain ⟨w23, hw23⟩ : ∃ z : mm_M, z = mm_up w14 (b + 30) (.inl (cI, 5, .inl (fun i => nI ((va_up (va_up (ch_sh (N 19) (ch_a n) 0 (N 18 0)) 0 (n / 8 % 5 - 1)) 1 (n / 40 - 1)) i)))) := ⟨_, rfl⟩
            have hP : mm_P B D kc w23 H := by rw [hw23]; exact hP
            have fr23 : ∀ j, j ≠ b + 30 → w23 j = w14 j := fun j h9 => by rw [hw23]; exact mm_un h9
            have fa23 : w23 (b + 30) = some (.inl (cI, 5, .inl (fun i => nI ((va_up (va_up (ch_sh (N 19) (ch_a n) 0 (N 18 0)) 0 (n / 8 % 5 - 1)) 1 (n / 40 - 1)) i)))) := by rw [hw23]; exact mm_us _ _ _
            refine lv_aload_n hx hb d_Mod_place_67 rfl (lv_at hl 2 rfl) ?_
            refine lv_aload_n hx hb d_Mod_place_68 rfl (lv_at hl 2 rfl) ?_
            have f24 := (fr23 _ (by omega)).trans (f21)
            refine mm_get (D := D) (C := n_Mod) (T := T_Mod) (N := 27) (v := .int (nI (N 18 0))) hx hb hts lay_Mod hown hK.1 hP f24 rfl 18 (by decide) (hts _ (List.mem_cons_of_mem _ wd_509)) (fun _ h9 => h9) rfl d_Mod_place_69 ?_
            refine lv_iload_n hx hb d_Mod_place_72 rfl (lv_at hl 1 rfl) ?_
            refine lv_iadd hx hb d_Mod_place_73 ?_
            refine kk_top (nI_add _ _) ?_
            refine mm_put (D := D) (C := n_Mod) (T := T_Mod) (N := 27) (v := .int (nI ((N 18 0) + (ch_a n)))) (ty := .int) hx hb hts lay_Mod t_Mod ty_Mod nm_Mod hown hK.1 hP hS f24 rfl 18 (by decide) (hts _ (List.mem_cons_of_mem _ wd_509)) (fun _ h9 => h9) rfl (by decide +kernel) rfl rfl (Nat.le_of_ble_eq_true rfl) d_Mod_place_74 (fun H locs hP hz1 hS => ?_)
            have hz : H.size = sz := hz1.trans hz
            obtain ⟨w25, hw25⟩ : ∃ z : mm_M, z = mm_up w23 (b + 14) (.inr (9, [.int (nI (N 0 0)), .ref (b + 15), .ref (b + 16), .ref (b + 17), .ref (b + 18), .ref (b + 19), .ref (b + 20), .ref (b + 21), .ref (b + 22), .ref (b + 23), .ref (b + 24), .ref (b + 25), .ref (b + 26), .ref (b + 27), .ref (b + 28), .ref (b + 29), .int (nI (N 16 0)), .int (nI (N 17 0)), .int (nI ((N 18 0) + (ch_a n))), .ref (b + 30), .int (nI (N 20 0)), .int (S 21 0), .int (S 22 0), .int (S 23 0), .int (S 24 0), .int (nI (N 25 0)), .int (nI (N 26 0))])) := ⟨_, rfl⟩
            have hP : mm_P B D kc w25 H := by rw [hw25]; exact hP
            have fr25 : ∀ j, j ≠ b + 14 → w25 j = w23 j := fun j h9 => by rw [hw25]; exact mm_un h9
            have fa25 : w25 (b + 14) = some (.inr (9, [.int (nI (N 0 0)), .ref (b + 15), .ref (b + 16), .ref (b + 17), .ref (b + 18), .ref (b + 19), .ref (b + 20), .ref (b + 21), .ref (b + 22), .ref (b + 23), .ref (b + 24), .ref (b + 25), .ref (b + 26), .ref (b + 27), .ref (b + 28), .ref (b + 29), .int (nI (N 16 0)), .int (nI (N 17 0)), .int (nI ((N 18 0) + (ch_a n))), .ref (b + 30), .int (nI (N 20 0)), .int (S 21 0), .int (S 22 0), .int (S 23 0), .int (S 24 0), .int (nI (N 25 0)), .int (nI (N 26 0))])) := by rw [hw25]; exact mm_us _ _ _
            refine lv_aload_n hx hb d_Mod_place_77 rfl (lv_at hl 2 rfl) ?_
            refine lv_iload_n hx hb d_Mod_place_78 rfl (lv_at hl 3 rfl) ?_
            refine vp_callSi (va_Run.run (va_runS (As := [.int (nI n)]) (rest := [.ref (b + 14)]) ⟨hx, hb, hml, hown, hts⟩ (c_Mod_keyOf l (by omega)) (va_cwS 1 hts (gW_in (hd := [_, _, _, _]) (kk_4 wd_641 wd_642 wd_8 cw_Mod_keyOf)) rfl rfl rfl ds_Mod_keyOf ⟨Nat.le_of_ble_eq_true rfl, Nat.le_of_ble_eq_true rfl⟩) (kk_preS hK hP hz hBz) rfl rfl hl.1 rfl (lv_room (Nat.le_of_ble_eq_true rfl)) d_Mod_place_79 ⟨Nat.le_of_ble_eq_true rfl, Nat.le_of_ble_eq_true rfl⟩)) (fun r26 hr26 => ?_)
            subst hr26
            refine mm_put (D := D) (C := n_Mod) (T := T_Mod) (N := 27) (v := .int (nI (n % 8))) (ty := .int) hx hb hts lay_Mod t_Mod ty_Mod nm_Mod hown hK.1 hP hS fa25 rfl 17 (by decide) (hts _ (List.mem_cons_of_mem _ wd_508)) (fun _ h9 => h9) rfl (by decide +kernel) rfl rfl (Nat.le_of_ble_eq_true rfl) d_Mod_place_82 (fun H locs hP hz1 hS => ?_)
            have hz : H.size = sz := hz1.trans hz
            obtain ⟨w27, hw27⟩ : ∃ z : mm_M, z = mm_up w25 (b + 14) (.inr (9, [.int (nI (N 0 0)), .ref (b + 15), .ref (b + 16), .ref (b + 17), .ref (b + 18), .ref (b + 19), .ref (b + 20), .ref (b + 21), .ref (b + 22), .ref (b + 23), .ref (b + 24), .ref (b + 25), .ref (b + 26), .ref (b + 27), .ref (b + 28), .ref (b + 29), .int (nI (N 16 0)), .int (nI (n % 8)), .int (nI ((N 18 0) + (ch_a n))), .ref (b + 30), .int (nI (N 20 0)), .int (S 21 0), .int (S 22 0), .int (S 23 0), .int (S 24 0), .int (nI (N 25 0)), .int (nI (N 26 0))])) := ⟨_, rfl⟩
            have hP : mm_P B D kc w27 H := by rw [hw27]; exact hP
            have fr27 : ∀ j, j ≠ b + 14 → w27 j = w25 j := fun j h9 => by rw [hw27]; exact mm_un h9
            have fa27 : w27 (b + 14) = some (.inr (9, [.int (nI (N 0 0)), .ref (b + 15), .ref (b + 16), .ref (b + 17), .ref (b + 18), .ref (b + 19), .ref (b + 20), .ref (b + 21), .ref (b + 22), .ref (b + 23), .ref (b + 24), .ref (b + 25), .ref (b + 26), .ref (b + 27), .ref (b + 28), .ref (b + 29), .int (nI (N 16 0)), .int (nI (n % 8)), .int (nI ((N 18 0) + (ch_a n))), .ref (b + 30), .int (nI (N 20 0)), .int (S 21 0), .int (S 22 0), .int (S 23 0), .int (S 24 0), .int (nI (N 25 0)), .int (nI (N 26 0))])) := by rw [hw27]; exact mm_us _ _ _
            have f28 := (fr27 _ (by omega)).trans ((fr25 _ (by omega)).trans (fa23))
            rw [ch_put2 (by omega)] at f28
            exact W.vret hx hb hr (fun t ht hW => ⟨⟨(w27, sz), rfl, ⟨(mo_mk fa27 ((fr27 _ (by omega)).trans ((fr25 _ (by omega)).trans ((fr23 _ (by omega)).trans ((fr14 _ (by omega)).trans ((frw3 _ (by omega)).trans (m1)))))) ((fr27 _ (by omega)).trans ((fr25 _ (by omega)).trans ((fr23 _ (by omega)).trans ((fr14 _ (by omega)).trans ((frw3 _ (by omega)).trans (m2)))))) ((fr27 _ (by omega)).trans ((fr25 _ (by omega)).trans ((fr23 _ (by omega)).trans ((fr14 _ (by omega)).trans ((frw3 _ (by omega)).trans (m3)))))) ((fr27 _ (by omega)).trans ((fr25 _ (by omega)).trans ((fr23 _ (by omega)).trans ((fr14 _ (by omega)).trans ((frw3 _ (by omega)).trans (m4)))))) ((fr27 _ (by omega)).trans ((fr25 _ (by omega)).trans ((fr23 _ (by omega)).trans ((fr14 _ (by omega)).trans ((frw3 _ (by omega)).trans (m5)))))) ((fr27 _ (by omega)).trans ((fr25 _ (by omega)).trans ((fr23 _ (by omega)).trans ((fr14 _ (by omega)).trans ((frw3 _ (by omega)).trans (m6)))))) ((fr27 _ (by omega)).trans ((fr25 _ (by omega)).trans ((fr23 _ (by omega)).trans ((fr14 _ (by omega)).trans ((frw3 _ (by omega)).trans (m7)))))) ((fr27 _ (by omega)).trans ((fr25 _ (by omega)).trans ((fr23 _ (by omega)).trans ((fr14 _ (by omega)).trans ((frw3 _ (by omega)).trans (m8)))))) ((fr27 _ (by omega)).trans ((fr25 _ (by omega)).trans ((fr23 _ (by omega)).trans ((fr14 _ (by omega)).trans ((frw3 _ (by omega)).trans (m9)))))) ((fr27 _ (by omega)).trans ((fr25 _ (by omega)).trans ((fr23 _ (by omega)).trans ((fr14 _ (by omega)).trans ((frw3 _ (by omega)).trans (m10)))))) ((fr27 _ (by omega)).trans ((fr25 _ (by omega)).trans ((fr23 _ (by omega)).trans ((fr14 _ (by omega)).trans ((frw3 _ (by omega)).trans (m11)))))) ((fr27 _ (by omega)).trans ((fr25 _ (by omega)).trans ((fr23 _ (by omega)).trans ((fr14 _ (by omega)).trans ((frw3 _ (by omega)).trans (m12)))))) ((fr27 _ (by omega)).trans ((fr25 _ (by omega)).trans ((fr23 _ (by omega)).trans ((fr14 _ (by omega)).trans ((frw3 _ (by omega)).trans (m13)))))) ((fr27 _ (by omega)).trans ((fr25 _ (by omega)).trans ((fr23 _ (by omega)).trans ((fr14 _ (by omega)).trans ((frw3 _ (by omega)).trans (m14)))))) ((fr27 _ (by omega)).trans ((fr25 _ (by omega)).trans ((fr23 _ (by omega)).trans ((fr14 _ (by omega)).trans ((frw3 _ (by omega)).trans (m15)))))) f28), (fun j hj => (fr27 j (by omega)).trans ((fr25 j (by omega)).trans ((fr23 j (by omega)).trans ((fr14 j (by omega)).trans (frw3 j (by omega)))))), rfl⟩, by rw [ht]; exact hP, by rw [ht]; exact hz⟩, hS.F ht⟩) hS.2.2 d_Mod_place_85
      · have cc4 : ¬ p9 = 0 := fun q => cc4 ((kk_nmlt (by omega)).mpr q)
        refine lv_aload_n hx hb d_Mod_place_16 rfl (lv_at hl 2 rfl) ?_
        have f29 := (frw3 _ (by omega)).trans (m0)
        refine mm_get (D := D) (C := n_Mod) (T := T_Mod) (N := 27) (v := .ref (b + 30)) hx hb hts lay_Mod hown hK.1 hP f29 rfl 19 (by decide) (hts _ (List.mem_cons_of_mem _ wd_510)) (fun _ h9 => h9) rfl d_Mod_place_17 ?_
        refine lv_iload_n hx hb d_Mod_place_20 rfl (lv_at hl 0 rfl) ?_
        refine kk_top (pk_sub (by omega)) ?_
        refine lv_iload_n hx hb d_Mod_place_21 rfl (lv_at hl 1 rfl) ?_
        refine lv_iadd hx hb d_Mod_place_22 ?_
        refine kk_top (nI_add _ _) ?_
        refine lv_aload_n hx hb d_Mod_place_23 rfl (lv_at hl 2 rfl) ?_
        refine mm_get (D := D) (C := n_Mod) (T := T_Mod) (N := 27) (v := .ref (b + 30)) hx hb hts lay_Mod hown hK.1 hP f29 rfl 19 (by decide) (hts _ (List.mem_cons_of_mem _ wd_510)) (fun _ h9 => h9) rfl d_Mod_place_24 ?_
        refine lv_iload_n hx hb d_Mod_place_27 rfl (lv_at hl 0 rfl) ?_
        refine kk_top (pk_sub (by omega)) ?_
        refine mm_iald hx hb hK.1 hP 0 fw3_0 rfl (p9 - 1) rfl (by omega) (by decide) d_Mod_place_28 ?_
        refine W.eq (g2 := F0 m 29 ls [.int (nI ((ch_sh (N 19) (ch_a n) p9 (N 18 0)) (p9 - 1))), .int (nI ((p9 - 1) + (ch_a n))), .ref (b + 30)]) rfl ?_
        refine mm_iast hx hb hK.1 hP hS 0 fw3_0 rfl ((p9 - 1) + (ch_a n)) rfl (by omega) (by decide) d_Mod_place_29 (fun H locs hP hz1 hS => ?_)
        rw [show upd (fun i => nI ((ch_sh (N 19) (ch_a n) p9 (N 18 0)) i)) ((p9 - 1) + (ch_a n)) (nI ((ch_sh (N 19) (ch_a n) p9 (N 18 0)) (p9 - 1))) = fun i => nI ((va_up (ch_sh (N 19) (ch_a n) p9 (N 18 0)) ((p9 - 1) + (ch_a n)) ((ch_sh (N 19) (ch_a n) p9 (N 18 0)) (p9 - 1))) i) from kk_upn _ _ _] at hP
        have hz : H.size = sz := hz1.trans hz
        obtain ⟨w30, hw30⟩ : ∃ z : mm_M, z = mm_up w3 (b + 30) (.inl (cI, 5, .inl (fun i => nI ((va_up (ch_sh (N 19) (ch_a n) p9 (N 18 0)) ((p9 - 1) + (ch_a n)) ((ch_sh (N 19) (ch_a n) p9 (N 18 0)) (p9 - 1))) i)))) := ⟨_, rfl⟩
        have hP : mm_P B D kc w30 H := by rw [hw30]; exact hP
        have fr30 : ∀ j, j ≠ b + 30 → w30 j = w3 j := fun j h9 => by rw [hw30]; exact mm_un h9
        have fa30 : w30 (b + 30) = some (.inl (cI, 5, .inl (fun i => nI ((va_up (ch_sh (N 19) (ch_a n) p9 (N 18 0)) ((p9 - 1) + (ch_a n)) ((ch_sh (N 19) (ch_a n) p9 (N 18 0)) (p9 - 1))) i)))) := by rw [hw30]; exact mm_us _ _ _
        refine lv_iinc (k := 0) (v := nI (p9 - 1) - nI 1) hx hb d_Mod_place_30 hl rfl (kk_m1dec (by omega)) (by decide) rfl (fun ls hl => ?_)
        have hl : lv_has ls 4 [(3, .int (nI (p9 - 1) - nI 1)), (2, .int (nI (ch_a n))), (0, .ref (b + 14)), (1, .int (nI n))] := hl
        refine lv_goto (tgt := 12) hx hb d_Mod_place_33 (by decide) ?_
        exact ih _ (by omega) (p9 - 1) w30 _ _ ls rfl hP hz hS (fun j g0 => (fr30 j g0).trans (frw3 j g0)) (by rw [← ch_sh_step (by omega) hp]; exact fa30) (by omega) (lv_sub hl [0, 1, 2, 3] rfl)
  exact lp2 _ (N 18 0) w _ _ _ rfl hP hz hS (fun _ _ => rfl) (by rw [ch_sh_n]; exact m16) (by omega) (lv_sub hl [0, 1, 2, 3] rfl)
theorem d_Mod_dropName_0 : decode k_Mod_dropName 0 = .ok (.aload_n 0, 1) := by decide +kernel
theorem d_Mod_dropName_1 : decode k_Mod_dropName 1 = .ok (.dup, 1) := by decide +kernel
theorem d_Mod_dropName_2 : decode k_Mod_dropName 2 = .ok (.getfield 134, 3) := by decide +kernel
theorem d_Mod_dropName_5 : decode k_Mod_dropName 5 = .ok (.iconst 1, 1) := by decide +kernel
theorem d_Mod_dropName_6 : decode k_Mod_dropName 6 = .ok (.isub, 1) := by decide +kernel
theorem d_Mod_dropName_7 : decode k_Mod_dropName 7 = .ok (.putfield 134, 3) := by decide +kernel
theorem d_Mod_dropName_10 : decode k_Mod_dropName 10 = .ok (.iconst 0, 1) := by decide +kernel
theorem d_Mod_dropName_11 : decode k_Mod_dropName 11 = .ok (.istore_n 1, 1) := by decide +kernel
theorem d_Mod_dropName_12 : decode k_Mod_dropName 12 = .ok (.iload_n 1, 1) := by decide +kernel
theorem d_Mod_dropName_13 : decode k_Mod_dropName 13 = .ok (.aload_n 0, 1) := by decide +kernel
theorem d_Mod_dropName_14 : decode k_Mod_dropName 14 = .ok (.getfield 134, 3) := by decide +kernel
theorem d_Mod_dropName_17 : decode k_Mod_dropName 17 = .ok (.if_icmp .ge 23, 3) := by decide +kernel
theorem d_Mod_dropName_20 : decode k_Mod_dropName 20 = .ok (.aload_n 0, 1) := by decide +kernel
theorem d_Mod_dropName_21 : decode k_Mod_dropName 21 = .ok (.getfield 56, 3) := by decide +kernel
theorem d_Mod_dropName_24 : decode k_Mod_dropName 24 = .ok (.iload_n 1, 1) := by decide +kernel
theorem d_Mod_dropName_25 : decode k_Mod_dropName 25 = .ok (.aload_n 0, 1) := by decide +kernel
theorem d_Mod_dropName_26 : decode k_Mod_dropName 26 = .ok (.getfield 56, 3) := by decide +kernel
theorem d_Mod_dropName_29 : decode k_Mod_dropName 29 = .ok (.iload_n 1, 1) := by decide +kernel
theorem d_Mod_dropName_30 : decode k_Mod_dropName 30 = .ok (.iconst 1, 1) := by decide +kernel
theorem d_Mod_dropName_31 : decode k_Mod_dropName 31 = .ok (.iadd, 1) := by decide +kernel
theorem d_Mod_dropName_32 : decode k_Mod_dropName 32 = .ok (.iaload, 1) := by decide +kernel
theorem d_Mod_dropName_33 : decode k_Mod_dropName 33 = .ok (.iastore, 1) := by decide +kernel
theorem d_Mod_dropName_34 : decode k_Mod_dropName 34 = .ok (.iinc 1 1, 3) := by decide +kernel
theorem d_Mod_dropName_37 : decode k_Mod_dropName 37 = .ok (.goto (-25), 3) := by decide +kernel
theorem d_Mod_dropName_40 : decode k_Mod_dropName 40 = .ok (.return_, 1) := by decide +kernel
set_option maxHeartbeats 4000000 in
set_option maxRecDepth 100000 in
theorem c_Mod_dropName (l : Launch) {B : Nat} {D : va_G} {cI cZ cQ : ClassId} {w : mm_M} {sz : Nat} {b : Nat} {N : Nat → Nat → Nat} {S : Nat → Nat → Int32}  (hM : mo_I b cI cZ N S w) (hm : N 18 0 ≤ 5) (hm1 : 1 ≤ N 18 0) : Met l y_Mod_dropName ws_Mod_dropName (kk_rm 0 0 0) (kk_Pc B D cI cZ cQ [.ref (b + 14)] w sz) (kk_Qv B D (fun w' sz' => mo_I b cI cZ (dr_N N) S w' ∧ (∀ j, ¬ (b + 14 ≤ j ∧ j < b + 31) → w' j = w j) ∧ sz' = sz)) 0 0 (fun q => B ≤ q) := by
  refine Met.ofW (cc := k_Mod_dropName) (maxL := 2) (ret := none) (by decide) rfl ?_
  intro p e s m args below meth c s₁ BB hml hv
  obtain ⟨rfl, hK, hP, hz, hBz⟩ := hv
  have hx := BB.exec
  have hb := BB.bytes
  have hr := BB.returns
  have hts := atoms_spec (ws := ws_Mod_dropName) BB.pre
  have hown : s.vm.findClass "DelegationClosureModel" = some m.cls := findClass_of_methodNamed BB.named
  have hlocks := BB.notSynchronized
  have hS : mm_S B s.heap s.heap [] := va_S.rf
  have hl := lv_entry ([.ref (b + 14)]) (n := 2) (Nat.le_of_ble_eq_true rfl)
  rw [lg_entry_eq]
  generalize (lg_sl ([.ref (b + 14)]) ++ List.replicate (2 - (lg_sl ([.ref (b + 14)])).length) Slot.unset).toArray = ls at hl ⊢
  have hl : lv_has ls 2 [(0, .ref (b + 14))] := hl
  have m0 : w (b + 14) = some (.inr (9, [.int (nI (N 0 0)), .ref (b + 15), .ref (b + 16), .ref (b + 17), .ref (b + 18), .ref (b + 19), .ref (b + 20), .ref (b + 21), .ref (b + 22), .ref (b + 23), .ref (b + 24), .ref (b + 25), .ref (b + 26), .ref (b + 27), .ref (b + 28), .ref (b + 29), .int (nI (N 16 0)), .int (nI (N 17 0)), .int (nI (N 18 0)), .ref (b + 30), .int (nI (N 20 0)), .int (S 21 0), .int (S 22 0), .int (S 23 0), .int (S 24 0), .int (nI (N 25 0)), .int (nI (N 26 0))])) := hM.1
  have m1 : w (b + 15) = some (.inl (cZ, 24, .inl (fun i => nI ((N 1) i)))) := hM.2 1 (by decide) (by decide)
  have m2 : w (b + 16) = some (.inl (cZ, 24, .inl (fun i => nI ((N 2) i)))) := hM.2 2 (by decide) (by decide)
  have m3 : w (b + 17) = some (.inl (cI, 24, .inl (fun i => nI ((N 3) i)))) := hM.2 3 (by decide) (by decide)
  have m4 : w (b + 18) = some (.inl (cI, 24, .inl (fun i => nI ((N 4) i)))) := hM.2 4 (by decide) (by decide)
  have m5 : w (b + 19) = some (.inl (cI, 24, .inl (S 5))) := hM.2 5 (by decide) (by decide)
  have m6 : w (b + 20) = some (.inl (cI, 24, .inl (S 6))) := hM.2 6 (by decide) (by decide)
  have m7 : w (b + 21) = some (.inl (cI, 72, .inl (fun i => nI ((N 7) i)))) := hM.2 7 (by decide) (by decide)
  have m8 : w (b + 22) = some (.inl (cI, 24, .inl (fun i => nI ((N 8) i)))) := hM.2 8 (by decide) (by decide)
  have m9 : w (b + 23) = some (.inl (cI, 24, .inl (fun i => nI ((N 9) i)))) := hM.2 9 (by decide) (by decide)
  have m10 : w (b + 24) = some (.inl (cI, 24, .inl (fun i => nI ((N 10) i)))) := hM.2 10 (by decide) (by decide)
  have m11 : w (b + 25) = some (.inl (cI, 24, .inl (S 11))) := hM.2 11 (by decide) (by decide)
  have m12 : w (b + 26) = some (.inl (cI, 24, .inl (S 12))) := hM.2 12 (by decide) (by decide)
  have m13 : w (b + 27) = some (.inl (cZ, 24, .inl (fun i => nI ((N 13) i)))) := hM.2 13 (by decide) (by decide)
  have m14 : w (b + 28) = some (.inl (cI, 256, .inl (fun i => nI ((N 14) i)))) := hM.2 14 (by decide) (by decide)
  have m15 : w (b + 29) = some (.inl (cI, 24, .inl (fun i => nI ((N 15) i)))) := hM.2 15 (by decide) (by decide)
  have m16 : w (b + 30) = some (.inl (cI, 5, .inl (fun i => nI ((N 19) i)))) := hM.2 16 (by decide) (by decide)
  refine lv_aload_n hx hb d_Mod_dropName_0 rfl (lv_at hl 0 rfl) ?_
  refine lv_dup hx hb d_Mod_dropName_1 rfl ?_
  refine mm_get (D := D) (C := n_Mod) (T := T_Mod) (N := 27) (v := .int (nI (N 18 0))) hx hb hts lay_Mod hown hK.1 hP m0 rfl 18 (by decide) (hts _ (List.mem_cons_of_mem _ wd_509)) (fun _ h9 => h9) rfl d_Mod_dropName_2 ?_
  refine lv_iconst (v := nI 1) hx hb d_Mod_dropName_5 (by decide) ?_
  refine lv_isub hx hb d_Mod_dropName_6 ?_
  refine kk_top (pk_sub (by omega)) ?_
  refine mm_put (D := D) (C := n_Mod) (T := T_Mod) (N := 27) (v := .int (nI ((N 18 0) - 1))) (ty := .int) hx hb hts lay_Mod t_Mod ty_Mod nm_Mod hown hK.1 hP hS m0 rfl 18 (by decide) (hts _ (List.mem_cons_of_mem _ wd_509)) (fun _ h9 => h9) rfl (by decide +kernel) rfl rfl (Nat.le_of_ble_eq_true rfl) d_Mod_dropName_7 (fun H locs hP hz1 hS => ?_)
  have hz : H.size = sz := hz1.trans hz
  obtain ⟨w1, hw1⟩ : ∃ z : mm_M, z = mm_up w (b + 14) (.inr (9, [.int (nI (N 0 0)), .ref (b + 15), .ref (b + 16), .ref (b + 17), .ref (b + 18), .ref (b + 19), .ref (b + 20), .ref (b + 21), .ref (b + 22), .ref (b + 23), .ref (b + 24), .ref (b + 25), .ref (b + 26), .ref (b + 27), .ref (b + 28), .ref (b + 29), .int (nI (N 16 0)), .int (nI (N 17 0)), .int (nI ((N 18 0) - 1)), .ref (b + 30), .int (nI (N 20 0)), .int (S 21 0), .int (S 22 0), .int (S 23 0), .int (S 24 0), .int (nI (N 25 0)), .int (nI (N 26 0))])) := ⟨_, rfl⟩
  have hP : mm_P B D kc w1 H := by rw [hw1]; exact hP
  have fr1 : ∀ j, j ≠ b + 14 → w1 j = w j := fun j h9 => by rw [hw1]; exact mm_un h9
  have fa1 : w1 (b + 14) = some (.inr (9, [.int (nI (N 0 0)), .ref (b + 15), .ref (b + 16), .ref (b + 17), .ref (b + 18), .ref (b + 19), .ref (b + 20), .ref (b + 21), .ref (b + 22), .ref (b + 23), .ref (b + 24), .ref (b + 25), .ref (b + 26), .ref (b + 27), .ref (b + 28), .ref (b + 29), .int (nI (N 16 0)), .int (nI (N 17 0)), .int (nI ((N 18 0) - 1)), .ref (b + 30), .int (nI (N 20 0)), .int (S 21 0), .int (S 22 0), .int (S 23 0), .int (S 24 0), .int (nI (N 25 0)), .int (nI (N 26 0))])) := by rw [hw1]; exact mm_us _ _ _
  refine lv_iconst (v := nI 0) hx hb d_Mod_dropName_10 (by decide) ?_
  refine lv_istore_n hx hb d_Mod_dropName_11 rfl hl (by decide) rfl (fun ls hl => ?_)
  have hl : lv_has ls 2 [(1, .int (nI 0)), (0, .ref (b + 14))] := hl
  have lp2 : ∀ (d : Nat) (k : Nat) (w3 : mm_M) (H : Heap) (locs : List Loc) (ls : Array Slot), d = N 18 0 - 1 - k → (mm_P B D kc w3 H) → (H.size = sz) → (mm_S B s.heap H locs) → (∀ j, j ≠ b + 30 → w3 j = w1 j) → (w3 (b + 30) = some (.inl (cI, 5, .inl (fun i => nI ((ch_dr (N 19) k) i))))) → (k ≤ N 18 0 - 1) → lv_has ls 2 [(1, .int (nI k)), (0, .ref (b + 14))] → W p l e (headSpec ws_Mod_dropName (kk_rm 0 0 0)).room s m ([.ref (b + 14)]).toArray below meth c H locs 0 0 (MQ below (kk_Qv B D (fun w' sz' => mo_I b cI cZ (dr_N N) S w' ∧ (∀ j, ¬ (b + 14 ≤ j ∧ j < b + 31) → w' j = w j) ∧ sz' = sz)) ([.ref (b + 14)]).toArray s 0 0 (fun q => B ≤ q)) (F0 m 12 ls []) := by
    intro d
    induction d using Nat.strongRecOn with
    | ind d ih =>
      intro k w3 H locs ls hd hP hz hS frw3 fw3_0 hk hl
      refine lv_iload_n hx hb d_Mod_dropName_12 rfl (lv_at hl 0 rfl) ?_
      refine lv_aload_n hx hb d_Mod_dropName_13 rfl (lv_at hl 1 rfl) ?_
      have f4 := (frw3 _ (by omega)).trans (fa1)
      refine mm_get (D := D) (C := n_Mod) (T := T_Mod) (N := 27) (v := .int (nI ((N 18 0) - 1))) hx hb hts lay_Mod hown hK.1 hP f4 rfl 18 (by decide) (hts _ (List.mem_cons_of_mem _ wd_509)) (fun _ h9 => h9) rfl d_Mod_dropName_14 ?_
      refine lv_icmp_ge (tgt := 40) hx hb d_Mod_dropName_17 (by decide) (fun cc5 => ?_) (fun cc5 => ?_)
      · have cc5 : (N 18 0) - 1 ≤ k := (nI_leI (by omega) (by omega)).mp cc5
        obtain rfl : k = N 18 0 - 1 := by omega
        exact W.vret hx hb hr (fun t ht hW => ⟨⟨(w3, sz), rfl, ⟨(mo_mk f4 ((frw3 _ (by omega)).trans ((fr1 _ (by omega)).trans (m1))) ((frw3 _ (by omega)).trans ((fr1 _ (by omega)).trans (m2))) ((frw3 _ (by omega)).trans ((fr1 _ (by omega)).trans (m3))) ((frw3 _ (by omega)).trans ((fr1 _ (by omega)).trans (m4))) ((frw3 _ (by omega)).trans ((fr1 _ (by omega)).trans (m5))) ((frw3 _ (by omega)).trans ((fr1 _ (by omega)).trans (m6))) ((frw3 _ (by omega)).trans ((fr1 _ (by omega)).trans (m7))) ((frw3 _ (by omega)).trans ((fr1 _ (by omega)).trans (m8))) ((frw3 _ (by omega)).trans ((fr1 _ (by omega)).trans (m9))) ((frw3 _ (by omega)).trans ((fr1 _ (by omega)).trans (m10))) ((frw3 _ (by omega)).trans ((fr1 _ (by omega)).trans (m11))) ((frw3 _ (by omega)).trans ((fr1 _ (by omega)).trans (m12))) ((frw3 _ (by omega)).trans ((fr1 _ (by omega)).trans (m13))) ((frw3 _ (by omega)).trans ((fr1 _ (by omega)).trans (m14))) ((frw3 _ (by omega)).trans ((fr1 _ (by omega)).trans (m15))) fw3_0), (fun j hj => (frw3 j (by omega)).trans (fr1 j (by omega))), rfl⟩, by rw [ht]; exact hP, by rw [ht]; exact hz⟩, hS.F ht⟩) hS.2.2 d_Mod_dropName_40
      · have cc5 : ¬ ((N 18 0) - 1 ≤ k) := fun q => cc5 ((nI_leI (by omega) (by omega)).mpr q)
        refine lv_aload_n hx hb d_Mod_dropName_20 rfl (lv_at hl 1 rfl) ?_
        refine mm_get (D := D) (C := n_Mod) (T := T_Mod) (N := 27) (v := .ref (b + 30)) hx hb hts lay_Mod hown hK.1 hP f4 rfl 19 (by decide) (hts _ (List.mem_cons_of_mem _ wd_510)) (fun _ h9 => h9) rfl d_Mod_dropName_21 ?_
        refine lv_iload_n hx hb d_Mod_dropName_24 rfl (lv_at hl 0 rfl) ?_
        refine lv_aload_n hx hb d_Mod_dropName_25 rfl (lv_at hl 1 rfl) ?_
        refine mm_get (D := D) (C := n_Mod) (T := T_Mod) (N := 27) (v := .ref (b + 30)) hx hb hts lay_Mod hown hK.1 hP f4 rfl 19 (by decide) (hts _ (List.mem_cons_of_mem _ wd_510)) (fun _ h9 => h9) rfl d_Mod_dropName_26 ?_
        refine lv_iload_n hx hb d_Mod_dropName_29 rfl (lv_at hl 0 rfl) ?_
        refine lv_iconst (v := nI 1) hx hb d_Mod_dropName_30 (by decide) ?_
        refine lv_iadd hx hb d_Mod_dropName_31 ?_
        refine kk_top (nI_add _ _) ?_
        refine mm_iald hx hb hK.1 hP 0 fw3_0 rfl (k + 1) rfl (by omega) (by decide) d_Mod_dropName_32 ?_
        refine W.eq (g2 := F0 m 33 ls [.int (nI ((ch_dr (N 19) k) (k + 1))), .int (nI k), .ref (b + 30)]) rfl ?_
        refine mm_iast hx hb hK.1 hP hS 0 fw3_0 rfl k rfl (by omega) (by decide) d_Mod_dropName_33 (fun H locs hP hz1 hS => ?_)
        rw [show upd (fun i => nI ((ch_dr (N 19) k) i)) k (nI ((ch_dr (N 19) k) (k + 1))) = fun i => nI ((va_up (ch_dr (N 19) k) k ((ch_dr (N 19) k) (k + 1))) i) from kk_upn _ _ _] at hP
        have hz : H.size = sz := hz1.trans hz
        obtain ⟨w6, hw6⟩ : ∃ z : mm_M, z = mm_up w3 (b + 30) (.inl (cI, 5, .inl (fun i => nI ((va_up (ch_dr (N 19) k) k ((ch_dr (N 19) k) (k + 1))) i)))) := ⟨_, rfl⟩
        have hP : mm_P B D kc w6 H := by rw [hw6]; exact hP
        have fr6 : ∀ j, j ≠ b + 30 → w6 j = w3 j := fun j h9 => by rw [hw6]; exact mm_un h9
        have fa6 : w6 (b + 30) = some (.inl (cI, 5, .inl (fun i => nI ((va_up (ch_dr (N 19) k) k ((ch_dr (N 19) k) (k + 1))) i)))) := by rw [hw6]; exact mm_us _ _ _
        refine lv_iinc (k := 0) (v := nI (k + 1)) hx hb d_Mod_dropName_34 hl rfl (kk_inc _) (by decide) rfl (fun ls hl => ?_)
        have hl : lv_has ls 2 [(1, .int (nI (k + 1))), (0, .ref (b + 14))] := hl
        refine lv_goto (tgt := 12) hx hb d_Mod_dropName_37 (by decide) ?_
        exact ih _ (by omega) (k + 1) w6 _ _ ls rfl hP hz hS (fun j g0 => (fr6 j g0).trans (frw3 j g0)) (by rw [← ch_dr_step]; exact fa6) (by omega) (lv_sub hl [0, 1] rfl)
  exact lp2 _ 0 w1 _ _ _ rfl hP hz hS (fun _ _ => rfl) (by rw [ch_dr_0]; exact (fr1 _ (by omega)).trans (m16)) (by omega) (lv_sub hl [0, 1] rfl)
theorem d_Mod_used_0 : decode k_Mod_used 0 = .ok (.aload_n 0, 1) := by decide +kernel
theorem d_Mod_used_1 : decode k_Mod_used 1 = .ok (.getfield 155, 3) := by decide +kernel
theorem d_Mod_used_4 : decode k_Mod_used 4 = .ok (.ireturn, 1) := by decide +kernel
set_option maxHeartbeats 4000000 in
set_option maxRecDepth 100000 in
theorem c_Mod_used (l : Launch) {B : Nat} {D : va_G} {cI cZ cQ : ClassId} {w : mm_M} {sz : Nat} {b : Nat} {N : Nat → Nat → Nat} {S : Nat → Nat → Int32}  (hM : mo_I b cI cZ N S w)  : Met l y_Mod_used ws_Mod_used (kk_rm 0 0 0) (kk_Pc B D cI cZ cQ [.ref (b + 14)] w sz) (vp_Si (fun r => r = nI (N 25 0))) 0 0 (fun _ => False) := by
  refine Met.ofW (cc := k_Mod_used) (maxL := 1) (ret := (some .int)) (by decide) rfl ?_
  intro p e s m args below meth c s₁ BB hml hv
  obtain ⟨rfl, hK, hP, hz, hBz⟩ := hv
  have hx := BB.exec
  have hb := BB.bytes
  have hr := BB.returns
  have hts := atoms_spec (ws := ws_Mod_used) BB.pre
  have hown : s.vm.findClass "DelegationClosureModel" = some m.cls := findClass_of_methodNamed BB.named
  have hlocks := BB.notSynchronized
  have hS : mm_S B s.heap s.heap [] := va_S.rf
  have hl := lv_entry ([.ref (b + 14)]) (n := 1) (Nat.le_of_ble_eq_true rfl)
  rw [lg_entry_eq]
  generalize (lg_sl ([.ref (b + 14)]) ++ List.replicate (1 - (lg_sl ([.ref (b + 14)])).length) Slot.unset).toArray = ls at hl ⊢
  have hl : lv_has ls 1 [(0, .ref (b + 14))] := hl
  have m0 : w (b + 14) = some (.inr (9, [.int (nI (N 0 0)), .ref (b + 15), .ref (b + 16), .ref (b + 17), .ref (b + 18), .ref (b + 19), .ref (b + 20), .ref (b + 21), .ref (b + 22), .ref (b + 23), .ref (b + 24), .ref (b + 25), .ref (b + 26), .ref (b + 27), .ref (b + 28), .ref (b + 29), .int (nI (N 16 0)), .int (nI (N 17 0)), .int (nI (N 18 0)), .ref (b + 30), .int (nI (N 20 0)), .int (S 21 0), .int (S 22 0), .int (S 23 0), .int (S 24 0), .int (nI (N 25 0)), .int (nI (N 26 0))])) := hM.1
  have m1 : w (b + 15) = some (.inl (cZ, 24, .inl (fun i => nI ((N 1) i)))) := hM.2 1 (by decide) (by decide)
  have m2 : w (b + 16) = some (.inl (cZ, 24, .inl (fun i => nI ((N 2) i)))) := hM.2 2 (by decide) (by decide)
  have m3 : w (b + 17) = some (.inl (cI, 24, .inl (fun i => nI ((N 3) i)))) := hM.2 3 (by decide) (by decide)
  have m4 : w (b + 18) = some (.inl (cI, 24, .inl (fun i => nI ((N 4) i)))) := hM.2 4 (by decide) (by decide)
  have m5 : w (b + 19) = some (.inl (cI, 24, .inl (S 5))) := hM.2 5 (by decide) (by decide)
  have m6 : w (b + 20) = some (.inl (cI, 24, .inl (S 6))) := hM.2 6 (by decide) (by decide)
  have m7 : w (b + 21) = some (.inl (cI, 72, .inl (fun i => nI ((N 7) i)))) := hM.2 7 (by decide) (by decide)
  have m8 : w (b + 22) = some (.inl (cI, 24, .inl (fun i => nI ((N 8) i)))) := hM.2 8 (by decide) (by decide)
  have m9 : w (b + 23) = some (.inl (cI, 24, .inl (fun i => nI ((N 9) i)))) := hM.2 9 (by decide) (by decide)
  have m10 : w (b + 24) = some (.inl (cI, 24, .inl (fun i => nI ((N 10) i)))) := hM.2 10 (by decide) (by decide)
  have m11 : w (b + 25) = some (.inl (cI, 24, .inl (S 11))) := hM.2 11 (by decide) (by decide)
  have m12 : w (b + 26) = some (.inl (cI, 24, .inl (S 12))) := hM.2 12 (by decide) (by decide)
  have m13 : w (b + 27) = some (.inl (cZ, 24, .inl (fun i => nI ((N 13) i)))) := hM.2 13 (by decide) (by decide)
  have m14 : w (b + 28) = some (.inl (cI, 256, .inl (fun i => nI ((N 14) i)))) := hM.2 14 (by decide) (by decide)
  have m15 : w (b + 29) = some (.inl (cI, 24, .inl (fun i => nI ((N 15) i)))) := hM.2 15 (by decide) (by decide)
  have m16 : w (b + 30) = some (.inl (cI, 5, .inl (fun i => nI ((N 19) i)))) := hM.2 16 (by decide) (by decide)
  refine lv_aload_n hx hb d_Mod_used_0 rfl (lv_at hl 0 rfl) ?_
  refine mm_get (D := D) (C := n_Mod) (T := T_Mod) (N := 27) (v := .int (nI (N 25 0))) hx hb hts lay_Mod hown hK.1 hP m0 rfl 25 (by decide) (hts _ (List.mem_cons_of_mem _ wd_516)) (fun _ h9 => h9) rfl d_Mod_used_1 ?_
  exact W.iret hx hb hr (fun t ht hW => ⟨_, rfl, rfl, ht⟩) (fun q hq => by cases hq) d_Mod_used_4
theorem d_Mod_head_0 : decode k_Mod_head 0 = .ok (.aload_n 0, 1) := by decide +kernel
theorem d_Mod_head_1 : decode k_Mod_head 1 = .ok (.getfield 130, 3) := by decide +kernel
theorem d_Mod_head_4 : decode k_Mod_head 4 = .ok (.ifCond .eq 10, 3) := by decide +kernel
theorem d_Mod_head_7 : decode k_Mod_head 7 = .ok (.aload_n 0, 1) := by decide +kernel
theorem d_Mod_head_8 : decode k_Mod_head 8 = .ok (.getfield 164, 3) := by decide +kernel
theorem d_Mod_head_11 : decode k_Mod_head 11 = .ok (.goto 4, 3) := by decide +kernel
theorem d_Mod_head_14 : decode k_Mod_head 14 = .ok (.iconst (-1), 1) := by decide +kernel
theorem d_Mod_head_15 : decode k_Mod_head 15 = .ok (.ireturn, 1) := by decide +kernel
set_option maxHeartbeats 4000000 in
set_option maxRecDepth 100000 in
theorem c_Mod_head (l : Launch) {B : Nat} {D : va_G} {cI cZ cQ : ClassId} {w : mm_M} {sz : Nat} {b : Nat} {N : Nat → Nat → Nat} {S : Nat → Nat → Int32}  (hM : mo_I b cI cZ N S w) (hC : ch_I N) : Met l y_Mod_head ws_Mod_head (kk_rm 0 0 0) (kk_Pc B D cI cZ cQ [.ref (b + 14)] w sz) (vp_Si (fun r => r = if N 16 0 = 1 then nI (N 17 0) else -1)) 0 0 (fun _ => False) := by
  refine Met.ofW (cc := k_Mod_head) (maxL := 1) (ret := (some .int)) (by decide) rfl ?_
  intro p e s m args below meth c s₁ BB hml hv
  obtain ⟨rfl, hK, hP, hz, hBz⟩ := hv
  have hx := BB.exec
  have hb := BB.bytes
  have hr := BB.returns
  have hts := atoms_spec (ws := ws_Mod_head) BB.pre
  have hown : s.vm.findClass "DelegationClosureModel" = some m.cls := findClass_of_methodNamed BB.named
  have hlocks := BB.notSynchronized
  have hS : mm_S B s.heap s.heap [] := va_S.rf
  have hl := lv_entry ([.ref (b + 14)]) (n := 1) (Nat.le_of_ble_eq_true rfl)
  rw [lg_entry_eq]
  generalize (lg_sl ([.ref (b + 14)]) ++ List.replicate (1 - (lg_sl ([.ref (b + 14)])).length) Slot.unset).toArray = ls at hl ⊢
  have hl : lv_has ls 1 [(0, .ref (b + 14))] := hl
  have m0 : w (b + 14) = some (.inr (9, [.int (nI (N 0 0)), .ref (b + 15), .ref (b + 16), .ref (b + 17), .ref (b + 18), .ref (b + 19), .ref (b + 20), .ref (b + 21), .ref (b + 22), .ref (b + 23), .ref (b + 24), .ref (b + 25), .ref (b + 26), .ref (b + 27), .ref (b + 28), .ref (b + 29), .int (nI (N 16 0)), .int (nI (N 17 0)), .int (nI (N 18 0)), .ref (b + 30), .int (nI (N 20 0)), .int (S 21 0), .int (S 22 0), .int (S 23 0), .int (S 24 0), .int (nI (N 25 0)), .int (nI (N 26 0))])) := hM.1
  have m1 : w (b + 15) = some (.inl (cZ, 24, .inl (fun i => nI ((N 1) i)))) := hM.2 1 (by decide) (by decide)
  have m2 : w (b + 16) = some (.inl (cZ, 24, .inl (fun i => nI ((N 2) i)))) := hM.2 2 (by decide) (by decide)
  have m3 : w (b + 17) = some (.inl (cI, 24, .inl (fun i => nI ((N 3) i)))) := hM.2 3 (by decide) (by decide)
  have m4 : w (b + 18) = some (.inl (cI, 24, .inl (fun i => nI ((N 4) i)))) := hM.2 4 (by decide) (by decide)
  have m5 : w (b + 19) = some (.inl (cI, 24, .inl (S 5))) := hM.2 5 (by decide) (by decide)
  have m6 : w (b + 20) = some (.inl (cI, 24, .inl (S 6))) := hM.2 6 (by decide) (by decide)
  have m7 : w (b + 21) = some (.inl (cI, 72, .inl (fun i => nI ((N 7) i)))) := hM.2 7 (by decide) (by decide)
  have m8 : w (b + 22) = some (.inl (cI, 24, .inl (fun i => nI ((N 8) i)))) := hM.2 8 (by decide) (by decide)
  have m9 : w (b + 23) = some (.inl (cI, 24, .inl (fun i => nI ((N 9) i)))) := hM.2 9 (by decide) (by decide)
  have m10 : w (b + 24) = some (.inl (cI, 24, .inl (fun i => nI ((N 10) i)))) := hM.2 10 (by decide) (by decide)
  have m11 : w (b + 25) = some (.inl (cI, 24, .inl (S 11))) := hM.2 11 (by decide) (by decide)
  have m12 : w (b + 26) = some (.inl (cI, 24, .inl (S 12))) := hM.2 12 (by decide) (by decide)
  have m13 : w (b + 27) = some (.inl (cZ, 24, .inl (fun i => nI ((N 13) i)))) := hM.2 13 (by decide) (by decide)
  have m14 : w (b + 28) = some (.inl (cI, 256, .inl (fun i => nI ((N 14) i)))) := hM.2 14 (by decide) (by decide)
  have m15 : w (b + 29) = some (.inl (cI, 24, .inl (fun i => nI ((N 15) i)))) := hM.2 15 (by decide) (by decide)
  have m16 : w (b + 30) = some (.inl (cI, 5, .inl (fun i => nI ((N 19) i)))) := hM.2 16 (by decide) (by decide)
  have hC1 := hC.1
  refine lv_aload_n hx hb d_Mod_head_0 rfl (lv_at hl 0 rfl) ?_
  refine mm_get (D := D) (C := n_Mod) (T := T_Mod) (N := 27) (v := .int (nI (N 16 0))) hx hb hts lay_Mod hown hK.1 hP m0 rfl 16 (by decide) (hts _ (List.mem_cons_of_mem _ wd_507)) (fun _ h9 => h9) rfl d_Mod_head_1 ?_
  refine lv_if_eq (tgt := 14) hx hb d_Mod_head_4 (by decide) (fun cc1 => ?_) (fun cc1 => ?_)
  · rw [← nI_0] at cc1
    have cc1 : N 16 0 = 0 := (nI_eq (by omega) (by omega)).mp cc1
    refine lv_iconst (v := (-1)) hx hb d_Mod_head_14 (by decide) ?_
    exact W.iret hx hb hr (fun t ht hW => ⟨_, rfl, (if_neg (by omega)).symm, ht⟩) (fun q hq => by cases hq) d_Mod_head_15
  · rw [← nI_0] at cc1
    have cc1 : ¬ (N 16 0 = 0) := fun q => cc1 ((nI_eq (by omega) (by omega)).mpr q)
    refine lv_aload_n hx hb d_Mod_head_7 rfl (lv_at hl 0 rfl) ?_
    refine mm_get (D := D) (C := n_Mod) (T := T_Mod) (N := 27) (v := .int (nI (N 17 0))) hx hb hts lay_Mod hown hK.1 hP m0 rfl 17 (by decide) (hts _ (List.mem_cons_of_mem _ wd_508)) (fun _ h9 => h9) rfl d_Mod_head_8 ?_
    refine lv_goto (tgt := 15) hx hb d_Mod_head_11 (by decide) ?_
    exact W.iret hx hb hr (fun t ht hW => ⟨_, rfl, (if_pos (by omega)).symm, ht⟩) (fun q hq => by cases hq) d_Mod_head_15
theorem d_Mod_delegates_0 : decode k_Mod_delegates 0 = .ok (.aload_n 0, 1) := by decide +kernel
theorem d_Mod_delegates_1 : decode k_Mod_delegates 1 = .ok (.getfield 130, 3) := by decide +kernel
theorem d_Mod_delegates_4 : decode k_Mod_delegates 4 = .ok (.ifCond .eq 14, 3) := by decide +kernel
theorem d_Mod_delegates_7 : decode k_Mod_delegates 7 = .ok (.aload_n 0, 1) := by decide +kernel
theorem d_Mod_delegates_8 : decode k_Mod_delegates 8 = .ok (.getfield 158, 3) := by decide +kernel
theorem d_Mod_delegates_11 : decode k_Mod_delegates 11 = .ok (.ifCond .eq 7, 3) := by decide +kernel
theorem d_Mod_delegates_14 : decode k_Mod_delegates 14 = .ok (.iconst 1, 1) := by decide +kernel
theorem d_Mod_delegates_15 : decode k_Mod_delegates 15 = .ok (.goto 4, 3) := by decide +kernel
theorem d_Mod_delegates_18 : decode k_Mod_delegates 18 = .ok (.iconst 0, 1) := by decide +kernel
theorem d_Mod_delegates_19 : decode k_Mod_delegates 19 = .ok (.ireturn, 1) := by decide +kernel
set_option maxHeartbeats 4000000 in
set_option maxRecDepth 100000 in
theorem c_Mod_delegates (l : Launch) {B : Nat} {D : va_G} {cI cZ cQ : ClassId} {w : mm_M} {sz : Nat} {b : Nat} {N : Nat → Nat → Nat} {S : Nat → Nat → Int32}  (hM : mo_I b cI cZ N S w) (hC : ch_I N) : Met l y_Mod_delegates ws_Mod_delegates (kk_rm 0 0 0) (kk_Pc B D cI cZ cQ [.ref (b + 14)] w sz) (vp_Si (fun r => r = nI (if N 16 0 = 1 ∧ N 26 0 = 1 then 1 else 0))) 0 0 (fun _ => False) := by
  refine Met.ofW (cc := k_Mod_delegates) (maxL := 1) (ret := (some .boolean)) (by decide) rfl ?_
  intro p e s m args below meth c s₁ BB hml hv
  obtain ⟨rfl, hK, hP, hz, hBz⟩ := hv
  have hx := BB.exec
  have hb := BB.bytes
  have hr := BB.returns
  have hts := atoms_spec (ws := ws_Mod_delegates) BB.pre
  have hown : s.vm.findClass "DelegationClosureModel" = some m.cls := findClass_of_methodNamed BB.named
  have hlocks := BB.notSynchronized
  have hS : mm_S B s.heap s.heap [] := va_S.rf
  have hl := lv_entry ([.ref (b + 14)]) (n := 1) (Nat.le_of_ble_eq_true rfl)
  rw [lg_entry_eq]
  generalize (lg_sl ([.ref (b + 14)]) ++ List.replicate (1 - (lg_sl ([.ref (b + 14)])).length) Slot.unset).toArray = ls at hl ⊢
  have hl : lv_has ls 1 [(0, .ref (b + 14))] := hl
  have m0 : w (b + 14) = some (.inr (9, [.int (nI (N 0 0)), .ref (b + 15), .ref (b + 16), .ref (b + 17), .ref (b + 18), .ref (b + 19), .ref (b + 20), .ref (b + 21), .ref (b + 22), .ref (b + 23), .ref (b + 24), .ref (b + 25), .ref (b + 26), .ref (b + 27), .ref (b + 28), .ref (b + 29), .int (nI (N 16 0)), .int (nI (N 17 0)), .int (nI (N 18 0)), .ref (b + 30), .int (nI (N 20 0)), .int (S 21 0), .int (S 22 0), .int (S 23 0), .int (S 24 0), .int (nI (N 25 0)), .int (nI (N 26 0))])) := hM.1
  have m1 : w (b + 15) = some (.inl (cZ, 24, .inl (fun i => nI ((N 1) i)))) := hM.2 1 (by decide) (by decide)
  have m2 : w (b + 16) = some (.inl (cZ, 24, .inl (fun i => nI ((N 2) i)))) := hM.2 2 (by decide) (by decide)
  have m3 : w (b + 17) = some (.inl (cI, 24, .inl (fun i => nI ((N 3) i)))) := hM.2 3 (by decide) (by decide)
  have m4 : w (b + 18) = some (.inl (cI, 24, .inl (fun i => nI ((N 4) i)))) := hM.2 4 (by decide) (by decide)
  have m5 : w (b + 19) = some (.inl (cI, 24, .inl (S 5))) := hM.2 5 (by decide) (by decide)
  have m6 : w (b + 20) = some (.inl (cI, 24, .inl (S 6))) := hM.2 6 (by decide) (by decide)
  have m7 : w (b + 21) = some (.inl (cI, 72, .inl (fun i => nI ((N 7) i)))) := hM.2 7 (by decide) (by decide)
  have m8 : w (b + 22) = some (.inl (cI, 24, .inl (fun i => nI ((N 8) i)))) := hM.2 8 (by decide) (by decide)
  have m9 : w (b + 23) = some (.inl (cI, 24, .inl (fun i => nI ((N 9) i)))) := hM.2 9 (by decide) (by decide)
  have m10 : w (b + 24) = some (.inl (cI, 24, .inl (fun i => nI ((N 10) i)))) := hM.2 10 (by decide) (by decide)
  have m11 : w (b + 25) = some (.inl (cI, 24, .inl (S 11))) := hM.2 11 (by decide) (by decide)
  have m12 : w (b + 26) = some (.inl (cI, 24, .inl (S 12))) := hM.2 12 (by decide) (by decide)
  have m13 : w (b + 27) = some (.inl (cZ, 24, .inl (fun i => nI ((N 13) i)))) := hM.2 13 (by decide) (by decide)
  have m14 : w (b + 28) = some (.inl (cI, 256, .inl (fun i => nI ((N 14) i)))) := hM.2 14 (by decide) (by decide)
  have m15 : w (b + 29) = some (.inl (cI, 24, .inl (fun i => nI ((N 15) i)))) := hM.2 15 (by decide) (by decide)
  have m16 : w (b + 30) = some (.inl (cI, 5, .inl (fun i => nI ((N 19) i)))) := hM.2 16 (by decide) (by decide)
  have hC1 := hC.1
  have hC6 := hC.2.2.2.2.2.1
  refine lv_aload_n hx hb d_Mod_delegates_0 rfl (lv_at hl 0 rfl) ?_
  refine mm_get (D := D) (C := n_Mod) (T := T_Mod) (N := 27) (v := .int (nI (N 16 0))) hx hb hts lay_Mod hown hK.1 hP m0 rfl 16 (by decide) (hts _ (List.mem_cons_of_mem _ wd_507)) (fun _ h9 => h9) rfl d_Mod_delegates_1 ?_
  refine lv_if_eq (tgt := 18) hx hb d_Mod_delegates_4 (by decide) (fun cc1 => ?_) (fun cc1 => ?_)
  · rw [← nI_0] at cc1
    have cc1 : N 16 0 = 0 := (nI_eq (by omega) (by omega)).mp cc1
    refine lv_iconst (v := nI 0) hx hb d_Mod_delegates_18 (by decide) ?_
    exact W.zret hx hb hr rfl (fun t ht hW => ⟨_, rfl, kk_iff (by omega), ht⟩) (fun q hq => by cases hq) d_Mod_delegates_19
  · rw [← nI_0] at cc1
    have cc1 : ¬ (N 16 0 = 0) := fun q => cc1 ((nI_eq (by omega) (by omega)).mpr q)
    refine lv_aload_n hx hb d_Mod_delegates_7 rfl (lv_at hl 0 rfl) ?_
    refine mm_get (D := D) (C := n_Mod) (T := T_Mod) (N := 27) (v := .int (nI (N 26 0))) hx hb hts lay_Mod hown hK.1 hP m0 rfl 26 (by decide) (hts _ (List.mem_cons_of_mem _ wd_517)) (fun _ h9 => h9) rfl d_Mod_delegates_8 ?_
    refine lv_if_eq (tgt := 18) hx hb d_Mod_delegates_11 (by decide) (fun cc2 => ?_) (fun cc2 => ?_)
    · rw [← nI_0] at cc2
      have cc2 : N 26 0 = 0 := (nI_eq (by omega) (by omega)).mp cc2
      refine lv_iconst (v := nI 0) hx hb d_Mod_delegates_18 (by decide) ?_
      exact W.zret hx hb hr rfl (fun t ht hW => ⟨_, rfl, kk_iff (by omega), ht⟩) (fun q hq => by cases hq) d_Mod_delegates_19
    · rw [← nI_0] at cc2
      have cc2 : ¬ (N 26 0 = 0) := fun q => cc2 ((nI_eq (by omega) (by omega)).mpr q)
      refine lv_iconst (v := nI 1) hx hb d_Mod_delegates_14 (by decide) ?_
      refine lv_goto (tgt := 19) hx hb d_Mod_delegates_15 (by decide) ?_
      exact W.zret hx hb hr rfl (fun t ht hW => ⟨_, rfl, kk_ift (by omega), ht⟩) (fun q hq => by cases hq) d_Mod_delegates_19
theorem d_Mod_behind_0 : decode k_Mod_behind 0 = .ok (.aload_n 0, 1) := by decide +kernel
theorem d_Mod_behind_1 : decode k_Mod_behind 1 = .ok (.getfield 130, 3) := by decide +kernel
theorem d_Mod_behind_4 : decode k_Mod_behind 4 = .ok (.ifCond .eq 24, 3) := by decide +kernel
theorem d_Mod_behind_7 : decode k_Mod_behind 7 = .ok (.iload_n 1, 1) := by decide +kernel
theorem d_Mod_behind_8 : decode k_Mod_behind 8 = .ok (.ifCond .lt 20, 3) := by decide +kernel
theorem d_Mod_behind_11 : decode k_Mod_behind 11 = .ok (.iload_n 1, 1) := by decide +kernel
theorem d_Mod_behind_12 : decode k_Mod_behind 12 = .ok (.aload_n 0, 1) := by decide +kernel
theorem d_Mod_behind_13 : decode k_Mod_behind 13 = .ok (.getfield 134, 3) := by decide +kernel
theorem d_Mod_behind_16 : decode k_Mod_behind 16 = .ok (.if_icmp .ge 12, 3) := by decide +kernel
theorem d_Mod_behind_19 : decode k_Mod_behind 19 = .ok (.aload_n 0, 1) := by decide +kernel
theorem d_Mod_behind_20 : decode k_Mod_behind 20 = .ok (.getfield 56, 3) := by decide +kernel
theorem d_Mod_behind_23 : decode k_Mod_behind 23 = .ok (.iload_n 1, 1) := by decide +kernel
theorem d_Mod_behind_24 : decode k_Mod_behind 24 = .ok (.iaload, 1) := by decide +kernel
theorem d_Mod_behind_25 : decode k_Mod_behind 25 = .ok (.goto 4, 3) := by decide +kernel
theorem d_Mod_behind_28 : decode k_Mod_behind 28 = .ok (.iconst (-1), 1) := by decide +kernel
theorem d_Mod_behind_29 : decode k_Mod_behind 29 = .ok (.ireturn, 1) := by decide +kernel
set_option maxHeartbeats 4000000 in
set_option maxRecDepth 100000 in
theorem c_Mod_behind (l : Launch) {B : Nat} {D : va_G} {cI cZ cQ : ClassId} {w : mm_M} {sz : Nat} {b : Nat} {N : Nat → Nat → Nat} {S : Nat → Nat → Int32} {ir : Int32} (hM : mo_I b cI cZ N S w) (hC : ch_I N) : Met l y_Mod_behind ws_Mod_behind (kk_rm 0 0 0) (kk_Pc B D cI cZ cQ [.ref (b + 14), .int ir] w sz) (vp_Si (fun r => r = if bh_ok N ir then nI (N 19 (ir).toNatClampNeg) else -1)) 0 0 (fun _ => False) := by
  refine Met.ofW (cc := k_Mod_behind) (maxL := 2) (ret := (some .int)) (by decide) rfl ?_
  intro p e s m args below meth c s₁ BB hml hv
  obtain ⟨rfl, hK, hP, hz, hBz⟩ := hv
  have hx := BB.exec
  have hb := BB.bytes
  have hr := BB.returns
  have hts := atoms_spec (ws := ws_Mod_behind) BB.pre
  have hown : s.vm.findClass "DelegationClosureModel" = some m.cls := findClass_of_methodNamed BB.named
  have hlocks := BB.notSynchronized
  have hS : mm_S B s.heap s.heap [] := va_S.rf
  have hl := lv_entry ([.ref (b + 14), .int ir]) (n := 2) (Nat.le_of_ble_eq_true rfl)
  rw [lg_entry_eq]
  generalize (lg_sl ([.ref (b + 14), .int ir]) ++ List.replicate (2 - (lg_sl ([.ref (b + 14), .int ir])).length) Slot.unset).toArray = ls at hl ⊢
  have hl : lv_has ls 2 [(0, .ref (b + 14)), (1, .int ir)] := hl
  have m0 : w (b + 14) = some (.inr (9, [.int (nI (N 0 0)), .ref (b + 15), .ref (b + 16), .ref (b + 17), .ref (b + 18), .ref (b + 19), .ref (b + 20), .ref (b + 21), .ref (b + 22), .ref (b + 23), .ref (b + 24), .ref (b + 25), .ref (b + 26), .ref (b + 27), .ref (b + 28), .ref (b + 29), .int (nI (N 16 0)), .int (nI (N 17 0)), .int (nI (N 18 0)), .ref (b + 30), .int (nI (N 20 0)), .int (S 21 0), .int (S 22 0), .int (S 23 0), .int (S 24 0), .int (nI (N 25 0)), .int (nI (N 26 0))])) := hM.1
  have m1 : w (b + 15) = some (.inl (cZ, 24, .inl (fun i => nI ((N 1) i)))) := hM.2 1 (by decide) (by decide)
  have m2 : w (b + 16) = some (.inl (cZ, 24, .inl (fun i => nI ((N 2) i)))) := hM.2 2 (by decide) (by decide)
  have m3 : w (b + 17) = some (.inl (cI, 24, .inl (fun i => nI ((N 3) i)))) := hM.2 3 (by decide) (by decide)
  have m4 : w (b + 18) = some (.inl (cI, 24, .inl (fun i => nI ((N 4) i)))) := hM.2 4 (by decide) (by decide)
  have m5 : w (b + 19) = some (.inl (cI, 24, .inl (S 5))) := hM.2 5 (by decide) (by decide)
  have m6 : w (b + 20) = some (.inl (cI, 24, .inl (S 6))) := hM.2 6 (by decide) (by decide)
  have m7 : w (b + 21) = some (.inl (cI, 72, .inl (fun i => nI ((N 7) i)))) := hM.2 7 (by decide) (by decide)
  have m8 : w (b + 22) = some (.inl (cI, 24, .inl (fun i => nI ((N 8) i)))) := hM.2 8 (by decide) (by decide)
  have m9 : w (b + 23) = some (.inl (cI, 24, .inl (fun i => nI ((N 9) i)))) := hM.2 9 (by decide) (by decide)
  have m10 : w (b + 24) = some (.inl (cI, 24, .inl (fun i => nI ((N 10) i)))) := hM.2 10 (by decide) (by decide)
  have m11 : w (b + 25) = some (.inl (cI, 24, .inl (S 11))) := hM.2 11 (by decide) (by decide)
  have m12 : w (b + 26) = some (.inl (cI, 24, .inl (S 12))) := hM.2 12 (by decide) (by decide)
  have m13 : w (b + 27) = some (.inl (cZ, 24, .inl (fun i => nI ((N 13) i)))) := hM.2 13 (by decide) (by decide)
  have m14 : w (b + 28) = some (.inl (cI, 256, .inl (fun i => nI ((N 14) i)))) := hM.2 14 (by decide) (by decide)
  have m15 : w (b + 29) = some (.inl (cI, 24, .inl (fun i => nI ((N 15) i)))) := hM.2 15 (by decide) (by decide)
  have m16 : w (b + 30) = some (.inl (cI, 5, .inl (fun i => nI ((N 19) i)))) := hM.2 16 (by decide) (by decide)
  have hC1 := hC.1
  have hC3 := hC.2.2.1
  refine lv_aload_n hx hb d_Mod_behind_0 rfl (lv_at hl 0 rfl) ?_
  refine mm_get (D := D) (C := n_Mod) (T := T_Mod) (N := 27) (v := .int (nI (N 16 0))) hx hb hts lay_Mod hown hK.1 hP m0 rfl 16 (by decide) (hts _ (List.mem_cons_of_mem _ wd_507)) (fun _ h9 => h9) rfl d_Mod_behind_1 ?_
  refine lv_if_eq (tgt := 28) hx hb d_Mod_behind_4 (by decide) (fun cc1 => ?_) (fun cc1 => ?_)
  · rw [← nI_0] at cc1
    have cc1 : N 16 0 = 0 := (nI_eq (by omega) (by omega)).mp cc1
    refine lv_iconst (v := (-1)) hx hb d_Mod_behind_28 (by decide) ?_
    exact W.iret hx hb hr (fun t ht hW => ⟨_, rfl, (if_neg (fun q => by have := q.1; omega)).symm, ht⟩) (fun q hq => by cases hq) d_Mod_behind_29
  · rw [← nI_0] at cc1
    have cc1 : ¬ (N 16 0 = 0) := fun q => cc1 ((nI_eq (by omega) (by omega)).mpr q)
    refine lv_iload_n hx hb d_Mod_behind_7 rfl (lv_at hl 1 rfl) ?_
    refine lv_if_lt (tgt := 28) hx hb d_Mod_behind_8 (by decide) (fun cc2 => ?_) (fun cc2 => ?_)
    · refine lv_iconst (v := (-1)) hx hb d_Mod_behind_28 (by decide) ?_
      exact W.iret hx hb hr (fun t ht hW => ⟨_, rfl, (if_neg (fun q => q.2.1 cc2)).symm, ht⟩) (fun q hq => by cases hq) d_Mod_behind_29
    · refine lv_iload_n hx hb d_Mod_behind_11 rfl (lv_at hl 1 rfl) ?_
      refine lv_aload_n hx hb d_Mod_behind_12 rfl (lv_at hl 0 rfl) ?_
      refine mm_get (D := D) (C := n_Mod) (T := T_Mod) (N := 27) (v := .int (nI (N 18 0))) hx hb hts lay_Mod hown hK.1 hP m0 rfl 18 (by decide) (hts _ (List.mem_cons_of_mem _ wd_509)) (fun _ h9 => h9) rfl d_Mod_behind_13 ?_
      refine lv_icmp_ge (tgt := 28) hx hb d_Mod_behind_16 (by decide) (fun cc3 => ?_) (fun cc3 => ?_)
      · refine lv_iconst (v := (-1)) hx hb d_Mod_behind_28 (by decide) ?_
        exact W.iret hx hb hr (fun t ht hW => ⟨_, rfl, (if_neg (fun q => q.2.2 cc3)).symm, ht⟩) (fun q hq => by cases hq) d_Mod_behind_29
      · obtain ⟨q9, hq9, rfl⟩ := kk_ofn cc2 cc3 (by omega)
        have hq8 := hC.2.2.2.2.2.2 q9
        refine lv_aload_n hx hb d_Mod_behind_19 rfl (lv_at hl 0 rfl) ?_
        refine mm_get (D := D) (C := n_Mod) (T := T_Mod) (N := 27) (v := .ref (b + 30)) hx hb hts lay_Mod hown hK.1 hP m0 rfl 19 (by decide) (hts _ (List.mem_cons_of_mem _ wd_510)) (fun _ h9 => h9) rfl d_Mod_behind_20 ?_
        refine lv_iload_n hx hb d_Mod_behind_23 rfl (lv_at hl 1 rfl) ?_
        refine mm_iald hx hb hK.1 hP 0 m16 rfl q9 rfl (by omega) (by decide) d_Mod_behind_24 ?_
        refine W.eq (g2 := F0 m 25 ls [.int (nI ((N 19) q9))]) rfl ?_
        refine lv_goto (tgt := 29) hx hb d_Mod_behind_25 (by decide) ?_
        exact W.iret hx hb hr (fun t ht hW => ⟨_, rfl, (by rw [if_pos ⟨by omega, nI_pos (by omega), fun q => by have := (nI_leI (by omega) (by omega)).mp q; omega⟩, nI_clamp (by omega)]), ht⟩) (fun q hq => by cases hq) d_Mod_behind_29
