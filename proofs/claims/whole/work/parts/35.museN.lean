theorem d_Mod_useNames_0 : decode k_Mod_useNames 0 = .ok (.iconst 0, 1) := by decide +kernel
theorem d_Mod_useNames_1 : decode k_Mod_useNames 1 = .ok (.istore_n 2, 1) := by decide +kernel
theorem d_Mod_useNames_2 : decode k_Mod_useNames 2 = .ok (.iconst 0, 1) := by decide +kernel
theorem d_Mod_useNames_3 : decode k_Mod_useNames 3 = .ok (.istore_n 3, 1) := by decide +kernel
theorem d_Mod_useNames_4 : decode k_Mod_useNames 4 = .ok (.iload_n 3, 1) := by decide +kernel
theorem d_Mod_useNames_5 : decode k_Mod_useNames 5 = .ok (.aload_n 0, 1) := by decide +kernel
theorem d_Mod_useNames_6 : decode k_Mod_useNames 6 = .ok (.getfield 63, 3) := by decide +kernel
theorem d_Mod_useNames_9 : decode k_Mod_useNames 9 = .ok (.if_icmp .ge 114, 3) := by decide +kernel
theorem d_Mod_useNames_12 : decode k_Mod_useNames 12 = .ok (.iconst 0, 1) := by decide +kernel
theorem d_Mod_useNames_13 : decode k_Mod_useNames 13 = .ok (.istore 4, 2) := by decide +kernel
theorem d_Mod_useNames_15 : decode k_Mod_useNames 15 = .ok (.iload 4, 2) := by decide +kernel
theorem d_Mod_useNames_17 : decode k_Mod_useNames 17 = .ok (.bipush 8, 2) := by decide +kernel
theorem d_Mod_useNames_19 : decode k_Mod_useNames 19 = .ok (.if_icmp .ge 98, 3) := by decide +kernel
theorem d_Mod_useNames_22 : decode k_Mod_useNames 22 = .ok (.aload_n 0, 1) := by decide +kernel
theorem d_Mod_useNames_23 : decode k_Mod_useNames 23 = .ok (.getfield 13, 3) := by decide +kernel
theorem d_Mod_useNames_26 : decode k_Mod_useNames 26 = .ok (.iload_n 3, 1) := by decide +kernel
theorem d_Mod_useNames_27 : decode k_Mod_useNames 27 = .ok (.baload, 1) := by decide +kernel
theorem d_Mod_useNames_28 : decode k_Mod_useNames 28 = .ok (.ifCond .eq 89, 3) := by decide +kernel
theorem d_Mod_useNames_31 : decode k_Mod_useNames 31 = .ok (.aload_n 0, 1) := by decide +kernel
theorem d_Mod_useNames_32 : decode k_Mod_useNames 32 = .ok (.iload_n 3, 1) := by decide +kernel
theorem d_Mod_useNames_33 : decode k_Mod_useNames 33 = .ok (.iload_n 1, 1) := by decide +kernel
theorem d_Mod_useNames_34 : decode k_Mod_useNames 34 = .ok (.invokevirtual 91, 3) := by decide +kernel
theorem d_Mod_useNames_37 : decode k_Mod_useNames 37 = .ok (.ifCond .eq 80, 3) := by decide +kernel
theorem d_Mod_useNames_40 : decode k_Mod_useNames 40 = .ok (.bipush 32, 2) := by decide +kernel
theorem d_Mod_useNames_42 : decode k_Mod_useNames 42 = .ok (.aload_n 0, 1) := by decide +kernel
theorem d_Mod_useNames_43 : decode k_Mod_useNames 43 = .ok (.getfield 16, 3) := by decide +kernel
theorem d_Mod_useNames_46 : decode k_Mod_useNames 46 = .ok (.iload_n 3, 1) := by decide +kernel
theorem d_Mod_useNames_47 : decode k_Mod_useNames 47 = .ok (.iaload, 1) := by decide +kernel
theorem d_Mod_useNames_48 : decode k_Mod_useNames 48 = .ok (.imul, 1) := by decide +kernel
theorem d_Mod_useNames_49 : decode k_Mod_useNames 49 = .ok (.bipush 8, 2) := by decide +kernel
theorem d_Mod_useNames_51 : decode k_Mod_useNames 51 = .ok (.aload_n 0, 1) := by decide +kernel
theorem d_Mod_useNames_52 : decode k_Mod_useNames 52 = .ok (.getfield 20, 3) := by decide +kernel
theorem d_Mod_useNames_55 : decode k_Mod_useNames 55 = .ok (.iload_n 3, 1) := by decide +kernel
theorem d_Mod_useNames_56 : decode k_Mod_useNames 56 = .ok (.iaload, 1) := by decide +kernel
theorem d_Mod_useNames_57 : decode k_Mod_useNames 57 = .ok (.imul, 1) := by decide +kernel
theorem d_Mod_useNames_58 : decode k_Mod_useNames 58 = .ok (.iadd, 1) := by decide +kernel
theorem d_Mod_useNames_59 : decode k_Mod_useNames 59 = .ok (.iload 4, 2) := by decide +kernel
theorem d_Mod_useNames_61 : decode k_Mod_useNames 61 = .ok (.iadd, 1) := by decide +kernel
theorem d_Mod_useNames_62 : decode k_Mod_useNames 62 = .ok (.istore 5, 2) := by decide +kernel
theorem d_Mod_useNames_64 : decode k_Mod_useNames 64 = .ok (.aload_n 0, 1) := by decide +kernel
theorem d_Mod_useNames_65 : decode k_Mod_useNames 65 = .ok (.aload_n 0, 1) := by decide +kernel
theorem d_Mod_useNames_66 : decode k_Mod_useNames 66 = .ok (.getfield 29, 3) := by decide +kernel
theorem d_Mod_useNames_69 : decode k_Mod_useNames 69 = .ok (.iconst 3, 1) := by decide +kernel
theorem d_Mod_useNames_70 : decode k_Mod_useNames 70 = .ok (.iload_n 3, 1) := by decide +kernel
theorem d_Mod_useNames_71 : decode k_Mod_useNames 71 = .ok (.imul, 1) := by decide +kernel
theorem d_Mod_useNames_72 : decode k_Mod_useNames 72 = .ok (.iaload, 1) := by decide +kernel
theorem d_Mod_useNames_73 : decode k_Mod_useNames 73 = .ok (.iload 4, 2) := by decide +kernel
theorem d_Mod_useNames_75 : decode k_Mod_useNames 75 = .ok (.invokevirtual 95, 3) := by decide +kernel
theorem d_Mod_useNames_78 : decode k_Mod_useNames 78 = .ok (.istore 6, 2) := by decide +kernel
theorem d_Mod_useNames_80 : decode k_Mod_useNames 80 = .ok (.iload 6, 2) := by decide +kernel
theorem d_Mod_useNames_82 : decode k_Mod_useNames 82 = .ok (.iconst 1, 1) := by decide +kernel
theorem d_Mod_useNames_83 : decode k_Mod_useNames 83 = .ok (.invokestatic 87, 3) := by decide +kernel
theorem d_Mod_useNames_86 : decode k_Mod_useNames 86 = .ok (.istore 6, 2) := by decide +kernel
theorem d_Mod_useNames_88 : decode k_Mod_useNames 88 = .ok (.iload 6, 2) := by decide +kernel
theorem d_Mod_useNames_90 : decode k_Mod_useNames 90 = .ok (.aload_n 0, 1) := by decide +kernel
theorem d_Mod_useNames_91 : decode k_Mod_useNames 91 = .ok (.getfield 50, 3) := by decide +kernel
theorem d_Mod_useNames_94 : decode k_Mod_useNames 94 = .ok (.iload 5, 2) := by decide +kernel
theorem d_Mod_useNames_96 : decode k_Mod_useNames 96 = .ok (.iaload, 1) := by decide +kernel
theorem d_Mod_useNames_97 : decode k_Mod_useNames 97 = .ok (.if_icmp .ge 14, 3) := by decide +kernel
theorem d_Mod_useNames_100 : decode k_Mod_useNames 100 = .ok (.aload_n 0, 1) := by decide +kernel
theorem d_Mod_useNames_101 : decode k_Mod_useNames 101 = .ok (.getfield 50, 3) := by decide +kernel
theorem d_Mod_useNames_104 : decode k_Mod_useNames 104 = .ok (.iload 5, 2) := by decide +kernel
theorem d_Mod_useNames_106 : decode k_Mod_useNames 106 = .ok (.iload 6, 2) := by decide +kernel
theorem d_Mod_useNames_108 : decode k_Mod_useNames 108 = .ok (.iastore, 1) := by decide +kernel
theorem d_Mod_useNames_109 : decode k_Mod_useNames 109 = .ok (.iconst 1, 1) := by decide +kernel
theorem d_Mod_useNames_110 : decode k_Mod_useNames 110 = .ok (.istore_n 2, 1) := by decide +kernel
theorem d_Mod_useNames_111 : decode k_Mod_useNames 111 = .ok (.iinc 4 1, 3) := by decide +kernel
theorem d_Mod_useNames_114 : decode k_Mod_useNames 114 = .ok (.goto (-99), 3) := by decide +kernel
theorem d_Mod_useNames_117 : decode k_Mod_useNames 117 = .ok (.iinc 3 1, 3) := by decide +kernel
theorem d_Mod_useNames_120 : decode k_Mod_useNames 120 = .ok (.goto (-116), 3) := by decide +kernel
theorem d_Mod_useNames_123 : decode k_Mod_useNames 123 = .ok (.iload_n 2, 1) := by decide +kernel
theorem d_Mod_useNames_124 : decode k_Mod_useNames 124 = .ok (.ireturn, 1) := by decide +kernel
set_option maxHeartbeats 4000000 in
set_option maxRecDepth 100000 in
theorem c_Mod_useNames (l : Launch) {B : Nat} {D : va_G} {cI cZ cQ : ClassId} {w : mm_M} {sz : Nat} {b : Nat} {N : Nat → Nat → Nat} {S : Nat → Nat → Int32} {t : Int32} {v9 : Nat → Nat} (hM : mo_I b cI cZ N S w) (hn : N 0 0 ≤ 24) (hR : rg_I N) (h14 : N 14 = fun j => dm_ph (v9 j)) (hv : ∀ j, v9 j ≤ 1000) : Met l y_Mod_useNames ws_Mod_useNames (kk_rm 3 0 0) (kk_Pc B D cI cZ cQ [.ref (b + 14), .int t] w sz) (kk_Qi B D (fun r w' sz' => r = nI (if dm_flag (ru_M N S t) v9 = true then 1 else 0) ∧ mo_I b cI cZ (va_up N 14 (fun j => dm_ph (dm_pass (ru_M N S t) v9 j))) S w' ∧ (∀ j, ¬ (b + 14 ≤ j ∧ j < b + 31) → w' j = w j) ∧ sz' = sz)) 0 0 (fun q => B ≤ q) := by
  refine Met.ofW (cc := k_Mod_useNames) (maxL := 7) (ret := (some .boolean)) (by decide) rfl ?_
  intro p e s m args below meth c s₁ BB hml hv
  obtain ⟨rfl, hK, hP, hz, hBz⟩ := hv
  have hx := BB.exec
  have hb := BB.bytes
  have hr := BB.returns
  have hts := atoms_spec (ws := ws_Mod_useNames) BB.pre
  have hown : s.vm.findClass "DelegationClosureModel" = some m.cls := findClass_of_methodNamed BB.named
  have hlocks := BB.notSynchronized
  have hS : mm_S B s.heap s.heap [] := va_S.rf
  have hl := lv_entry ([.ref (b + 14), .int t]) (n := 7) (Nat.le_of_ble_eq_true rfl)
  rw [lg_entry_eq]
  generalize (lg_sl ([.ref (b + 14), .int t]) ++ List.replicate (7 - (lg_sl ([.ref (b + 14), .int t])).length) Slot.unset).toArray = ls at hl ⊢
  have hl : lv_has ls 7 [(0, .ref (b + 14)), (1, .int t)] := hl
  have m0 : w (b + 14) = some (.inr (9, [.int (nI (N 0 0)), .ref (b + 15), .ref (b + 16), .ref (b + 17), .ref (b + 18), .ref (b + 19), .ref (b + 20), .ref (b + 21), .ref (b + 22), .ref (b + 23), .ref (b + 24), .ref (b + 25), .ref (b + 26), .ref (b + 27), .ref (b + 28), .ref (b + 29), .int (nI (N 16 0)), .int (nI (N 17 0)), .int (nI (N 18 0)), .ref (b + 30), .int (nI (N 20 0)), .int (S 21 0), .int (S 22 0), .int (S 23 0), .int (S 24 0), .int (nI (N 25 0)), .int (nI (N 26 0))])) := hM.1
  have m1 : w (b + 15) = some (.inl (cZ, 24, .inl (fun i => nI ((N 1) i)))) := hM.2 1 (by decide) (by decide)
  have m2 : w (b + 16) = some (.inl (cZ, 24, .inl (fun i => nI ((N 2) i)))) := hM.2 2 (by decide) (by decide)
  have m3 : w (b + 17) = some (.inl (cI, 24, .inl (fun i => nI ((N 3) i)))) := hM.2 3 (by decide) (by decide)
  have m4 : w (b + 18) = some (.inl (cI, 24, .inl (fun i => nI ((N 4) i)))) := hM.2 4 (by decide) (by decide)
  have m5 : w (b + 19) = some (.inl (cI, 24, .inl (S 5))) := hM.2 5 (by decide) (by decide)
  have m6 : w (b + 20) = some (.inl (cI, 24, .inl (S 6))) := hM.2 6 (by decide) (by decide)
  have m7 : w (b + 21) = some (.inl (cI, 72, .inl (fun i => nI ((N 7) i)))) := hM.2 7 (by decide) (by decide)
  have m8 : w (b + 22) = some (.inl (cI, 24, .inl (fun i => nI ((N 8) i)))) := hM.2 8 (by decide) (by decide)
  have m9 : w (b + 23) = some (.inl (cI, 24, .inl (fun i => nI ((N 9) i)))) := hM.2 9 (by decide) (by decide)
  have m10 : w (b + 24) = some (.inl (cI, 24, .inl (fun i => nI ((N 10) i)))) := hM.2 10 (by decide) (by decide)
  have m11 : w (b + 25) = some (.inl (cI, 24, .inl (S 11))) := hM.2 11 (by decide) (by decide)
  have m12 : w (b + 26) = some (.inl (cI, 24, .inl (S 12))) := hM.2 12 (by decide) (by decide)
  have m13 : w (b + 27) = some (.inl (cZ, 24, .inl (fun i => nI ((N 13) i)))) := hM.2 13 (by decide) (by decide)
  have m14 : w (b + 28) = some (.inl (cI, 256, .inl (fun i => nI ((N 14) i)))) := hM.2 14 (by decide) (by decide)
  have m15 : w (b + 29) = some (.inl (cI, 24, .inl (fun i => nI ((N 15) i)))) := hM.2 15 (by decide) (by decide)
  have m16 : w (b + 30) = some (.inl (cI, 5, .inl (fun i => nI ((N 19) i)))) := hM.2 16 (by decide) (by decide)
  have m14 : w (b + 28) = some (.inl (cI, 256, .inl (fun i => nI (dm_ph (v9 i))))) := by have h9 : w (b + 28) = some (.inl (cI, 256, .inl (fun i => nI (N 14 i)))) := hM.2 14 (by decide) (by decide); rw [h14] at h9; exact h9
  refine lv_iconst (v := nI 0) hx hb d_Mod_useNames_0 (by decide) ?_
  refine lv_istore_n hx hb d_Mod_useNames_1 rfl hl (by decide) rfl (fun ls hl => ?_)
  have hl : lv_has ls 7 [(2, .int (nI 0)), (0, .ref (b + 14)), (1, .int t)] := hl
  refine lv_iconst (v := nI 0) hx hb d_Mod_useNames_2 (by decide) ?_
  refine lv_istore_n hx hb d_Mod_useNames_3 rfl hl (by decide) rfl (fun ls hl => ?_)
  have hl : lv_has ls 7 [(3, .int (nI 0)), (2, .int (nI 0)), (0, .ref (b + 14)), (1, .int t)] := hl
  have lp1 : ∀ (d : Nat) (k : Nat) (w2 : mm_M) (H : Heap) (locs : List Loc) (ls : Array Slot), d = N 0 0 - k → (mm_P B D kc w2 H) → (H.size = sz) → (mm_S B s.heap H locs) → (∀ j, j ≠ b + 28 → w2 j = w j) → (w2 (b + 28) = some (.inl (cI, 256, .inl (fun i => nI (dm_ph ((dm_pass (dm_upto (ru_m N S t) k) v9) i)))))) → (k ≤ N 0 0) → lv_has ls 7 [(3, .int (nI k)), (2, .int (nI (if dm_flag (dm_upto (ru_m N S t) k) v9 = true then 1 else 0))), (0, .ref (b + 14)), (1, .int t)] → W p l e (headSpec ws_Mod_useNames (kk_rm 3 0 0)).room s m ([.ref (b + 14), .int t]).toArray below meth c H locs 0 0 (MQ below (kk_Qi B D (fun r w' sz' => r = nI (if dm_flag (ru_M N S t) v9 = true then 1 else 0) ∧ mo_I b cI cZ (va_up N 14 (fun j => dm_ph (dm_pass (ru_M N S t) v9 j))) S w' ∧ (∀ j, ¬ (b + 14 ≤ j ∧ j < b + 31) → w' j = w j) ∧ sz' = sz)) ([.ref (b + 14), .int t]).toArray s 0 0 (fun q => B ≤ q)) (F0 m 4 ls []) := by
    intro d
    induction d using Nat.strongRecOn with
    | ind d ih =>
      intro k w2 H locs ls hd hP hz hS frw2 fw2_0 hk hl
      have hvk := dm_pass_1000 (R := dm_upto (ru_m N S t) k) hv
      have hMk : mo_I b cI cZ (va_up N 14 (fun j => dm_ph ((dm_pass (dm_upto (ru_m N S t) k) v9) j))) S w2 := mo_mk ((frw2 _ (by omega)).trans (m0)) ((frw2 _ (by omega)).trans (m1)) ((frw2 _ (by omega)).trans (m2)) ((frw2 _ (by omega)).trans (m3)) ((frw2 _ (by omega)).trans (m4)) ((frw2 _ (by omega)).trans (m5)) ((frw2 _ (by omega)).trans (m6)) ((frw2 _ (by omega)).trans (m7)) ((frw2 _ (by omega)).trans (m8)) ((frw2 _ (by omega)).trans (m9)) ((frw2 _ (by omega)).trans (m10)) ((frw2 _ (by omega)).trans (m11)) ((frw2 _ (by omega)).trans (m12)) ((frw2 _ (by omega)).trans (m13)) fw2_0 ((frw2 _ (by omega)).trans (m15)) ((frw2 _ (by omega)).trans (m16))
      refine lv_iload_n hx hb d_Mod_useNames_4 rfl (lv_at hl 0 rfl) ?_
      refine lv_aload_n hx hb d_Mod_useNames_5 rfl (lv_at hl 2 rfl) ?_
      have f3 := (frw2 _ (by omega)).trans (m0)
      refine mm_get (D := D) (C := n_Mod) (T := T_Mod) (N := 27) (v := .int (nI (N 0 0))) hx hb hts lay_Mod hown hK.1 hP f3 rfl 0 (by decide) (hts _ (List.mem_cons_of_mem _ wd_491)) (fun _ h9 => h9) rfl d_Mod_useNames_6 ?_
      refine lv_icmp_ge (tgt := 123) hx hb d_Mod_useNames_9 (by decide) (fun cc4 => ?_) (fun cc4 => ?_)
      · have cc4 : N 0 0 ≤ k := (nI_leI (by omega) (by omega)).mp cc4
        obtain rfl : k = N 0 0 := by omega
        refine lv_iload_n hx hb d_Mod_useNames_123 rfl (lv_at hl 1 rfl) ?_
        exact W.zret hx hb hr (kk_nar _) (fun t ht hW => ⟨⟨_, (w2, sz), rfl, ⟨rfl, (mo_mk f3 ((frw2 _ (by omega)).trans (m1)) ((frw2 _ (by omega)).trans (m2)) ((frw2 _ (by omega)).trans (m3)) ((frw2 _ (by omega)).trans (m4)) ((frw2 _ (by omega)).trans (m5)) ((frw2 _ (by omega)).trans (m6)) ((frw2 _ (by omega)).trans (m7)) ((frw2 _ (by omega)).trans (m8)) ((frw2 _ (by omega)).trans (m9)) ((frw2 _ (by omega)).trans (m10)) ((frw2 _ (by omega)).trans (m11)) ((frw2 _ (by omega)).trans (m12)) ((frw2 _ (by omega)).trans (m13)) fw2_0 ((frw2 _ (by omega)).trans (m15)) ((frw2 _ (by omega)).trans (m16))), (fun j hj => frw2 j (by omega)), rfl⟩, by rw [ht]; exact hP, by rw [ht]; exact hz⟩, hS.F ht⟩) hS.2.2 d_Mod_useNames_124
      · have cc4 : ¬ (N 0 0 ≤ k) := fun q => cc4 ((nI_leI (by omega) (by omega)).mpr q)
        have hj : k < N 0 0 := by omega
        have hRj := hR k hj
        have hsk : wf_subn (N 7 (3 * k)) := hRj.2.2.2.2.2.1 0 (by omega)
        by_cases hok : ru_ok N S t k
        · have hg7 := hRj.2.2.2.1 hok.2.1
          rw [kk_iteq (P := dm_flag (dm_upto (ru_m N S t) k) v9 = true) (Q := dm_flag (dm_upto (ru_m N S t) k) v9 = true ∨ dm_flag (dm_upto (ru_n (N 3 k) (N 4 k) (N 7 (3 * k))) 0) (dm_pass (dm_upto (ru_m N S t) k) v9) = true) (by simp [dm_upto, dm_flag])] at hl
          refine lv_iconst (v := nI 0) hx hb d_Mod_useNames_12 (by decide) ?_
          refine lv_istore hx hb d_Mod_useNames_13 hl (by decide) rfl (fun ls hl => ?_)
          have hl : lv_has ls 7 [(4, .int (nI 0)), (3, .int (nI k)), (2, .int (nI (if dm_flag (dm_upto (ru_m N S t) k) v9 = true ∨ dm_flag (dm_upto (ru_n (N 3 k) (N 4 k) (N 7 (3 * k))) 0) (dm_pass (dm_upto (ru_m N S t) k) v9) = true then 1 else 0))), (0, .ref (b + 14)), (1, .int t)] := hl
          have lp5 : ∀ (d : Nat) (y : Nat) (w6 : mm_M) (H : Heap) (locs : List Loc) (ls : Array Slot), d = 8 - y → (mm_P B D kc w6 H) → (H.size = sz) → (mm_S B s.heap H locs) → (∀ j, j ≠ b + 28 → w6 j = w2 j) → (w6 (b + 28) = some (.inl (cI, 256, .inl (fun i => nI (dm_ph ((dm_pass (dm_upto (ru_n (N 3 k) (N 4 k) (N 7 (3 * k))) y) (dm_pass (dm_upto (ru_m N S t) k) v9)) i)))))) → (y ≤ 8) → lv_has ls 7 [(4, .int (nI y)), (3, .int (nI k)), (2, .int (nI (if dm_flag (dm_upto (ru_m N S t) k) v9 = true ∨ dm_flag (dm_upto (ru_n (N 3 k) (N 4 k) (N 7 (3 * k))) y) (dm_pass (dm_upto (ru_m N S t) k) v9) = true then 1 else 0))), (0, .ref (b + 14)), (1, .int t)] → W p l e (headSpec ws_Mod_useNames (kk_rm 3 0 0)).room s m ([.ref (b + 14), .int t]).toArray below meth c H locs 0 0 (MQ below (kk_Qi B D (fun r w' sz' => r = nI (if dm_flag (ru_M N S t) v9 = true then 1 else 0) ∧ mo_I b cI cZ (va_up N 14 (fun j => dm_ph (dm_pass (ru_M N S t) v9 j))) S w' ∧ (∀ j, ¬ (b + 14 ≤ j ∧ j < b + 31) → w' j = w j) ∧ sz' = sz)) ([.ref (b + 14), .int t]).toArray s 0 0 (fun q => B ≤ q)) (F0 m 15 ls []) := by
            intro d
            induction d using Nat.strongRecOn with
            | ind d ihlp5 =>
              intro y w6 H locs ls hd hP hz hS frw6 fw6_0 hy hl
              have hvy := dm_pass_1000 (R := dm_upto (ru_n (N 3 k) (N 4 k) (N 7 (3 * k))) y) hvk
              have hMy : mo_I b cI cZ (va_up N 14 (fun j => dm_ph ((dm_pass (dm_upto (ru_n (N 3 k) (N 4 k) (N 7 (3 * k))) y) (dm_pass (dm_upto (ru_m N S t) k) v9)) j))) S w6 := mo_mk ((frw6 _ (by omega)).trans (f3)) ((frw6 _ (by omega)).trans ((frw2 _ (by omega)).trans (m1))) ((frw6 _ (by omega)).trans ((frw2 _ (by omega)).trans (m2))) ((frw6 _ (by omega)).trans ((frw2 _ (by omega)).trans (m3))) ((frw6 _ (by omega)).trans ((frw2 _ (by omega)).trans (m4))) ((frw6 _ (by omega)).trans ((frw2 _ (by omega)).trans (m5))) ((frw6 _ (by omega)).trans ((frw2 _ (by omega)).trans (m6))) ((frw6 _ (by omega)).trans ((frw2 _ (by omega)).trans (m7))) ((frw6 _ (by omega)).trans ((frw2 _ (by omega)).trans (m8))) ((frw6 _ (by omega)).trans ((frw2 _ (by omega)).trans (m9))) ((frw6 _ (by omega)).trans ((frw2 _ (by omega)).trans (m10))) ((frw6 _ (by omega)).trans ((frw2 _ (by omega)).trans (m11))) ((frw6 _ (by omega)).trans ((frw2 _ (by omega)).trans (m12))) ((frw6 _ (by omega)).trans ((frw2 _ (by omega)).trans (m13))) fw6_0 ((frw6 _ (by omega)).trans ((frw2 _ (by omega)).trans (m15))) ((frw6 _ (by omega)).trans ((frw2 _ (by omega)).trans (m16)))
              refine lv_iload hx hb d_Mod_useNames_15 (lv_at hl 0 rfl) ?_
              refine lv_bipush (v := nI 8) hx hb d_Mod_useNames_17 (by decide) ?_
              refine lv_icmp_ge (tgt := 117) hx hb d_Mod_useNames_19 (by decide) (fun cc7 => ?_) (fun cc7 => ?_)
              · have cc7 : 8 ≤ y := (nI_leI (by omega) (by omega)).mp cc7
                obtain rfl : y = 8 := by omega
                refine lv_iinc (k := 1) (v := nI (k + 1)) hx hb d_Mod_useNames_117 hl rfl (kk_inc _) (by decide) rfl (fun ls hl => ?_)
                have hl : lv_has ls 7 [(3, .int (nI (k + 1))), (4, .int (nI 8)), (2, .int (nI (if dm_flag (dm_upto (ru_m N S t) k) v9 = true ∨ dm_flag (dm_upto (ru_n (N 3 k) (N 4 k) (N 7 (3 * k))) 8) (dm_pass (dm_upto (ru_m N S t) k) v9) = true then 1 else 0))), (0, .ref (b + 14)), (1, .int t)] := hl
                refine lv_goto (tgt := 4) hx hb d_Mod_useNames_120 (by decide) ?_
                have e2 := dm_some (f := ru_m N S t) (g := v9) (k := k) (if_pos hok)
                rw [kk_iteq (P := dm_flag (dm_upto (ru_m N S t) k) v9 = true ∨ dm_flag (dm_upto (ru_n (N 3 k) (N 4 k) (N 7 (3 * k))) 8) (dm_pass (dm_upto (ru_m N S t) k) v9) = true) (Q := dm_flag (dm_upto (ru_m N S t) (k + 1)) v9 = true) (by rw [e2.2, Bool.or_eq_true])] at hl
                exact ih _ (by omega) (k + 1) w6 _ _ ls rfl hP hz hS (fun j g0 => (frw6 j g0).trans (frw2 j g0)) (by rw [e2.1]; exact fw6_0) (by omega) (lv_sub hl [0, 2, 3, 4] rfl)
              · have cc7 : ¬ (8 ≤ y) := fun q => cc7 ((nI_leI (by omega) (by omega)).mpr q)
                refine lv_aload_n hx hb d_Mod_useNames_22 rfl (lv_at hl 3 rfl) ?_
                have f8 := (frw6 _ (by omega)).trans (f3)
                refine mm_get (D := D) (C := n_Mod) (T := T_Mod) (N := 27) (v := .ref (b + 16)) hx hb hts lay_Mod hown hK.1 hP f8 rfl 2 (by decide) (hts _ (List.mem_cons_of_mem _ wd_493)) (fun _ h9 => h9) rfl d_Mod_useNames_23 ?_
                refine lv_iload_n hx hb d_Mod_useNames_26 rfl (lv_at hl 1 rfl) ?_
                have f9 := (frw6 _ (by omega)).trans ((frw2 _ (by omega)).trans (m2))
                refine mm_zald hx hb hK.1 hP 1 f9 rfl k rfl (by omega) (by decide) d_Mod_useNames_27 ?_
                refine W.eq (g2 := F0 m 28 ls [.int (nI ((N 2) k))]) rfl ?_
                refine lv_if_eq (tgt := 117) hx hb d_Mod_useNames_28 (by decide) (fun cc10 => ?_) (fun cc10 => ?_)
                · rw [← nI_0] at cc10
                  have cc10 : (N 2) k = 0 := (nI_eq (by omega) (by omega)).mp cc10
                  exact absurd hok.2.1 (by omega)
                · rw [← nI_0] at cc10
                  have cc10 : ¬ ((N 2) k = 0) := fun q => cc10 ((nI_eq (by omega) (by omega)).mpr q)
                  refine lv_aload_n hx hb d_Mod_useNames_31 rfl (lv_at hl 3 rfl) ?_
                  refine lv_iload_n hx hb d_Mod_useNames_32 rfl (lv_at hl 1 rfl) ?_
                  refine lv_iload_n hx hb d_Mod_useNames_33 rfl (lv_at hl 4 rfl) ?_
                  refine vp_callSi (va_Run.run (va_runV (As := [.int (nI k), .int t]) (rest := []) ⟨hx, hb, hml, hown, hts⟩ (c_Mod_isValid l (b := b) (N := (va_up N 14 (fun j => dm_ph ((dm_pass (dm_upto (ru_n (N 3 k) (N 4 k) (N 7 (3 * k))) y) (dm_pass (dm_upto (ru_m N S t) k) v9)) j)))) (S := S) hMy hn hR hj) (cwV 2 hts (gW_in (hd := [_, _, _, _, _]) (kk_5 wd_633 wd_635 sl_Mod_isValid wd_8 cw_Mod_isValid)) rfl rfl rfl ⟨rfl, ds_Mod_isValid⟩ ⟨Nat.le_of_ble_eq_true rfl, Nat.le_of_ble_eq_true rfl⟩) (kk_preV hK hP hz hBz f8 rfl) rfl rfl hl.1 rfl (lv_room (Nat.le_of_ble_eq_true rfl)) d_Mod_useNames_34 ⟨Nat.le_of_ble_eq_true rfl, Nat.le_of_ble_eq_true rfl⟩)) (fun r11 hr11 => ?_)
                  subst hr11
                  refine lv_if_eq (tgt := 117) hx hb d_Mod_useNames_37 (by decide) (fun cc12 => ?_) (fun cc12 => ?_)
                  · have cc12 := kk_b0 cc12
                    exact absurd ⟨hok.1, hok.2.2⟩ cc12
                  · have cc12 := kk_b1 cc12
                    refine lv_bipush (v := nI 32) hx hb d_Mod_useNames_40 (by decide) ?_
                    refine lv_aload_n hx hb d_Mod_useNames_42 rfl (lv_at hl 3 rfl) ?_
                    refine mm_get (D := D) (C := n_Mod) (T := T_Mod) (N := 27) (v := .ref (b + 17)) hx hb hts lay_Mod hown hK.1 hP f8 rfl 3 (by decide) (hts _ (List.mem_cons_of_mem _ wd_494)) (fun _ h9 => h9) rfl d_Mod_useNames_43 ?_
                    refine lv_iload_n hx hb d_Mod_useNames_46 rfl (lv_at hl 1 rfl) ?_
                    have f13 := (frw6 _ (by omega)).trans ((frw2 _ (by omega)).trans (m3))
                    refine mm_iald hx hb hK.1 hP 0 f13 rfl k rfl (by omega) (by decide) d_Mod_useNames_47 ?_
                    refine W.eq (g2 := F0 m 48 ls [.int (nI ((N 3) k)), .int (nI 32)]) rfl ?_
                    refine lv_imul hx hb d_Mod_useNames_48 ?_
                    refine kk_top (pk_mul _ _) ?_
                    refine lv_bipush (v := nI 8) hx hb d_Mod_useNames_49 (by decide) ?_
                    refine lv_aload_n hx hb d_Mod_useNames_51 rfl (lv_at hl 3 rfl) ?_
                    refine mm_get (D := D) (C := n_Mod) (T := T_Mod) (N := 27) (v := .ref (b + 18)) hx hb hts lay_Mod hown hK.1 hP f8 rfl 4 (by decide) (hts _ (List.mem_cons_of_mem _ wd_495)) (fun _ h9 => h9) rfl d_Mod_useNames_52 ?_
                    refine lv_iload_n hx hb d_Mod_useNames_55 rfl (lv_at hl 1 rfl) ?_
                    have f14 := (frw6 _ (by omega)).trans ((frw2 _ (by omega)).trans (m4))
                    refine mm_iald hx hb hK.1 hP 0 f14 rfl k rfl (by omega) (by decide) d_Mod_useNames_56 ?_
                    refine W.eq (g2 := F0 m 57 ls [.int (nI ((N 4) k)), .int (nI 8), .int (nI (32 * ((N 3) k)))]) rfl ?_
                    refine lv_imul hx hb d_Mod_useNames_57 ?_
                    refine kk_top (pk_mul _ _) ?_
                    refine lv_iadd hx hb d_Mod_useNames_58 ?_
                    refine kk_top (nI_add _ _) ?_
                    refine lv_iload hx hb d_Mod_useNames_59 (lv_at hl 0 rfl) ?_
                    refine lv_iadd hx hb d_Mod_useNames_61 ?_
                    refine kk_top (nI_add _ _) ?_
                    refine lv_istore hx hb d_Mod_useNames_62 hl (by decide) rfl (fun ls hl => ?_)
                    have hl : lv_has ls 7 [(5, .int (nI (((32 * ((N 3) k)) + (8 * ((N 4) k))) + y))), (4, .int (nI y)), (3, .int (nI k)), (2, .int (nI (if dm_flag (dm_upto (ru_m N S t) k) v9 = true ∨ dm_flag (dm_upto (ru_n (N 3 k) (N 4 k) (N 7 (3 * k))) y) (dm_pass (dm_upto (ru_m N S t) k) v9) = true then 1 else 0))), (0, .ref (b + 14)), (1, .int t)] := hl
                    refine lv_aload_n hx hb d_Mod_useNames_64 rfl (lv_at hl 4 rfl) ?_
                    refine lv_aload_n hx hb d_Mod_useNames_65 rfl (lv_at hl 4 rfl) ?_
                    refine mm_get (D := D) (C := n_Mod) (T := T_Mod) (N := 27) (v := .ref (b + 21)) hx hb hts lay_Mod hown hK.1 hP f8 rfl 7 (by decide) (hts _ (List.mem_cons_of_mem _ wd_498)) (fun _ h9 => h9) rfl d_Mod_useNames_66 ?_
                    refine lv_iconst (v := nI 3) hx hb d_Mod_useNames_69 (by decide) ?_
                    refine lv_iload_n hx hb d_Mod_useNames_70 rfl (lv_at hl 2 rfl) ?_
                    refine lv_imul hx hb d_Mod_useNames_71 ?_
                    refine kk_top (pk_mul _ _) ?_
                    have f15 := (frw6 _ (by omega)).trans ((frw2 _ (by omega)).trans (m7))
                    refine mm_iald hx hb hK.1 hP 0 f15 rfl (3 * k) rfl (by omega) (by decide) d_Mod_useNames_72 ?_
                    refine W.eq (g2 := F0 m 73 ls [.int (nI ((N 7) (3 * k))), .ref (b + 14)]) rfl ?_
                    refine lv_iload hx hb d_Mod_useNames_73 (lv_at hl 1 rfl) ?_
                    refine vp_callSi (va_Run.run (va_runV (As := [.int (nI ((N 7) (3 * k))), .int (nI y)]) (rest := []) ⟨hx, hb, hml, hown, hts⟩ (c_Mod_costOf l (b := b) (N := (va_up N 14 (fun j => dm_ph ((dm_pass (dm_upto (ru_n (N 3 k) (N 4 k) (N 7 (3 * k))) y) (dm_pass (dm_upto (ru_m N S t) k) v9)) j)))) (S := S) (v9 := (dm_pass (dm_upto (ru_n (N 3 k) (N 4 k) (N 7 (3 * k))) y) (dm_pass (dm_upto (ru_m N S t) k) v9))) hMy (by omega) (by omega) rfl hvy) (cwV 2 hts (gW_in (hd := [_, _, _, _, _]) (kk_5 wd_637 wd_639 sl_Mod_costOf wd_8 cw_Mod_costOf)) rfl rfl rfl ⟨rfl, ds_Mod_costOf⟩ ⟨Nat.le_of_ble_eq_true rfl, Nat.le_of_ble_eq_true rfl⟩) (kk_preV hK hP hz hBz f8 rfl) rfl rfl hl.1 rfl (lv_room (Nat.le_of_ble_eq_true rfl)) d_Mod_useNames_75 ⟨Nat.le_of_ble_eq_true rfl, Nat.le_of_ble_eq_true rfl⟩)) (fun r16 hr16 => ?_)
                    subst hr16
                    refine lv_istore hx hb d_Mod_useNames_78 hl (by decide) rfl (fun ls hl => ?_)
                    have hl : lv_has ls 7 [(6, .int (nI (dm_ph (dm_ofs (dm_pass (dm_upto (ru_n (N 3 k) (N 4 k) (N 7 (3 * k))) y) (dm_pass (dm_upto (ru_m N S t) k) v9)) ((N 7) (3 * k)) y)))), (5, .int (nI (((32 * ((N 3) k)) + (8 * ((N 4) k))) + y))), (4, .int (nI y)), (3, .int (nI k)), (2, .int (nI (if dm_flag (dm_upto (ru_m N S t) k) v9 = true ∨ dm_flag (dm_upto (ru_n (N 3 k) (N 4 k) (N 7 (3 * k))) y) (dm_pass (dm_upto (ru_m N S t) k) v9) = true then 1 else 0))), (0, .ref (b + 14)), (1, .int t)] := hl
                    refine lv_iload hx hb d_Mod_useNames_80 (lv_at hl 0 rfl) ?_
                    refine lv_iconst (v := nI 1) hx hb d_Mod_useNames_82 (by decide) ?_
                    have hq1 := dm_ofs_le hvy (N 7 (3 * k)) y
                    refine vp_callSi (va_Run.run (va_runS (As := [.int (nI (dm_ph (dm_ofs (dm_pass (dm_upto (ru_n (N 3 k) (N 4 k) (N 7 (3 * k))) y) (dm_pass (dm_upto (ru_m N S t) k) v9)) ((N 7) (3 * k)) y))), .int (nI 1)]) (rest := []) ⟨hx, hb, hml, hown, hts⟩ (c_Mod_sum l (a := (dm_ofs (dm_pass (dm_upto (ru_n (N 3 k) (N 4 k) (N 7 (3 * k))) y) (dm_pass (dm_upto (ru_m N S t) k) v9)) ((N 7) (3 * k)) y)) (b := 1) (by omega) (by omega)) (va_cwS 2 hts (gW_in (hd := [_, _, _, _]) (kk_4 wd_644 wd_645 wd_8 cw_Mod_sum)) rfl rfl rfl ds_Mod_sum ⟨Nat.le_of_ble_eq_true rfl, Nat.le_of_ble_eq_true rfl⟩) (kk_preS hK hP hz hBz) rfl rfl hl.1 rfl (lv_room (Nat.le_of_ble_eq_true rfl)) d_Mod_useNames_83 ⟨Nat.le_of_ble_eq_true rfl, Nat.le_of_ble_eq_true rfl⟩)) (fun r17 hr17 => ?_)
                    subst hr17
                    refine lv_istore hx hb d_Mod_useNames_86 hl (by decide) rfl (fun ls hl => ?_)
                    have hl : lv_has ls 7 [(6, .int (nI (dm_ph (dm_s (dm_ofs (dm_pass (dm_upto (ru_n (N 3 k) (N 4 k) (N 7 (3 * k))) y) (dm_pass (dm_upto (ru_m N S t) k) v9)) ((N 7) (3 * k)) y) 1)))), (5, .int (nI (((32 * ((N 3) k)) + (8 * ((N 4) k))) + y))), (4, .int (nI y)), (3, .int (nI k)), (2, .int (nI (if dm_flag (dm_upto (ru_m N S t) k) v9 = true ∨ dm_flag (dm_upto (ru_n (N 3 k) (N 4 k) (N 7 (3 * k))) y) (dm_pass (dm_upto (ru_m N S t) k) v9) = true then 1 else 0))), (0, .ref (b + 14)), (1, .int t)] := hl
                    refine lv_iload hx hb d_Mod_useNames_88 (lv_at hl 0 rfl) ?_
                    refine lv_aload_n hx hb d_Mod_useNames_90 rfl (lv_at hl 5 rfl) ?_
                    refine mm_get (D := D) (C := n_Mod) (T := T_Mod) (N := 27) (v := .ref (b + 28)) hx hb hts lay_Mod hown hK.1 hP f8 rfl 14 (by decide) (hts _ (List.mem_cons_of_mem _ wd_505)) (fun _ h9 => h9) rfl d_Mod_useNames_91 ?_
                    refine lv_iload hx hb d_Mod_useNames_94 (lv_at hl 1 rfl) ?_
                    refine mm_iald hx hb hK.1 hP 0 fw6_0 rfl (((32 * ((N 3) k)) + (8 * ((N 4) k))) + y) rfl (by omega) (by decide) d_Mod_useNames_96 ?_
                    refine W.eq (g2 := F0 m 97 ls [.int (nI (dm_ph ((dm_pass (dm_upto (ru_n (N 3 k) (N 4 k) (N 7 (3 * k))) y) (dm_pass (dm_upto (ru_m N S t) k) v9)) (((32 * ((N 3) k)) + (8 * ((N 4) k))) + y)))), .int (nI (dm_ph (dm_s (dm_ofs (dm_pass (dm_upto (ru_n (N 3 k) (N 4 k) (N 7 (3 * k))) y) (dm_pass (dm_upto (ru_m N S t) k) v9)) ((N 7) (3 * k)) y) 1)))]) rfl ?_
                    have hq2 := dm_s_le (dm_ofs (dm_pass (dm_upto (ru_n (N 3 k) (N 4 k) (N 7 (3 * k))) y) (dm_pass (dm_upto (ru_m N S t) k) v9)) (N 7 (3 * k)) y) 1
                    have hq3 := hvy (32 * N 3 k + 8 * N 4 k + y)
                    have hq4 := dm_ph_le (dm_s (dm_ofs (dm_pass (dm_upto (ru_n (N 3 k) (N 4 k) (N 7 (3 * k))) y) (dm_pass (dm_upto (ru_m N S t) k) v9)) (N 7 (3 * k)) y) 1)
                    have hq5 := dm_ph_le ((dm_pass (dm_upto (ru_n (N 3 k) (N 4 k) (N 7 (3 * k))) y) (dm_pass (dm_upto (ru_m N S t) k) v9)) (32 * N 3 k + 8 * N 4 k + y))
                    refine lv_icmp_ge (tgt := 111) hx hb d_Mod_useNames_97 (by decide) (fun cc18 => ?_) (fun cc18 => ?_)
                    · have cc18 : dm_ph ((dm_pass (dm_upto (ru_n (N 3 k) (N 4 k) (N 7 (3 * k))) y) (dm_pass (dm_upto (ru_m N S t) k) v9)) (((32 * ((N 3) k)) + (8 * ((N 4) k))) + y)) ≤ dm_ph (dm_s (dm_ofs (dm_pass (dm_upto (ru_n (N 3 k) (N 4 k) (N 7 (3 * k))) y) (dm_pass (dm_upto (ru_m N S t) k) v9)) ((N 7) (3 * k)) y) 1) := (nI_leI (by omega) (by omega)).mp cc18
                      have e1 := dm_one_f (f := ru_n (N 3 k) (N 4 k) (N 7 (3 * k))) (g := dm_pass (dm_upto (ru_m N S t) k) v9) (k := y) (t := 32 * N 3 k + 8 * N 4 k + y) (F := fun v => dm_s 1 (dm_ofs v (N 7 (3 * k)) y)) rfl (by rw [dm_s_comm 1]; exact Nat.not_lt.mpr ((dm_ph_le_iff hq3 hq2).mp cc18))
                      rw [← e1.2] at hl
                      refine lv_iinc (k := 2) (v := nI (y + 1)) hx hb d_Mod_useNames_111 hl rfl (kk_inc _) (by decide) rfl (fun ls hl => ?_)
                      have hl : lv_has ls 7 [(4, .int (nI (y + 1))), (6, .int (nI (dm_ph (dm_s (dm_ofs (dm_pass (dm_upto (ru_n (N 3 k) (N 4 k) (N 7 (3 * k))) y) (dm_pass (dm_upto (ru_m N S t) k) v9)) ((N 7) (3 * k)) y) 1)))), (5, .int (nI (((32 * ((N 3) k)) + (8 * ((N 4) k))) + y))), (3, .int (nI k)), (2, .int (nI (if dm_flag (dm_upto (ru_m N S t) k) v9 = true ∨ dm_flag (dm_upto (ru_n (N 3 k) (N 4 k) (N 7 (3 * k))) (y + 1)) (dm_pass (dm_upto (ru_m N S t) k) v9) = true then 1 else 0))), (0, .ref (b + 14)), (1, .int t)] := hl
                      refine lv_goto (tgt := 15) hx hb d_Mod_useNames_114 (by decide) ?_
                      exact ihlp5 _ (by omega) (y + 1) w6 _ _ ls rfl hP hz hS (fun j g0 => frw6 j g0) (by rw [e1.1]; exact fw6_0) (by omega) (lv_sub hl [0, 3, 4, 5, 6] rfl)
                    · have cc18 : ¬ (dm_ph ((dm_pass (dm_upto (ru_n (N 3 k) (N 4 k) (N 7 (3 * k))) y) (dm_pass (dm_upto (ru_m N S t) k) v9)) (((32 * ((N 3) k)) + (8 * ((N 4) k))) + y)) ≤ dm_ph (dm_s (dm_ofs (dm_pass (dm_upto (ru_n (N 3 k) (N 4 k) (N 7 (3 * k))) y) (dm_pass (dm_upto (ru_m N S t) k) v9)) ((N 7) (3 * k)) y) 1)) := fun q => cc18 ((nI_leI (by omega) (by omega)).mpr q)
                      have e1 := dm_one_t (f := ru_n (N 3 k) (N 4 k) (N 7 (3 * k))) (g := dm_pass (dm_upto (ru_m N S t) k) v9) (k := y) (t := 32 * N 3 k + 8 * N 4 k + y) (F := fun v => dm_s 1 (dm_ofs v (N 7 (3 * k)) y)) rfl (by rw [dm_s_comm 1]; exact Nat.lt_of_not_le (fun q => cc18 ((dm_ph_le_iff hq3 hq2).mpr q)))
                      refine lv_aload_n hx hb d_Mod_useNames_100 rfl (lv_at hl 5 rfl) ?_
                      refine mm_get (D := D) (C := n_Mod) (T := T_Mod) (N := 27) (v := .ref (b + 28)) hx hb hts lay_Mod hown hK.1 hP f8 rfl 14 (by decide) (hts _ (List.mem_cons_of_mem _ wd_505)) (fun _ h9 => h9) rfl d_Mod_useNames_101 ?_
                      refine lv_iload hx hb d_Mod_useNames_104 (lv_at hl 1 rfl) ?_
                      refine lv_iload hx hb d_Mod_useNames_106 (lv_at hl 0 rfl) ?_
                      refine mm_iast hx hb hK.1 hP hS 0 fw6_0 rfl (((32 * ((N 3) k)) + (8 * ((N 4) k))) + y) rfl (by omega) (by decide) d_Mod_useNames_108 (fun H locs hP hz1 hS => ?_)
                      rw [show upd (fun i => nI (dm_ph ((dm_pass (dm_upto (ru_n (N 3 k) (N 4 k) (N 7 (3 * k))) y) (dm_pass (dm_upto (ru_m N S t) k) v9)) i))) (((32 * ((N 3) k)) + (8 * ((N 4) k))) + y) (nI (dm_ph (dm_s (dm_ofs (dm_pass (dm_upto (ru_n (N 3 k) (N 4 k) (N 7 (3 * k))) y) (dm_pass (dm_upto (ru_m N S t) k) v9)) ((N 7) (3 * k)) y) 1))) = fun i => nI (dm_ph ((va_up (dm_pass (dm_upto (ru_n (N 3 k) (N 4 k) (N 7 (3 * k))) y) (dm_pass (dm_upto (ru_m N S t) k) v9)) (((32 * ((N 3) k)) + (8 * ((N 4) k))) + y) (dm_s (dm_ofs (dm_pass (dm_upto (ru_n (N 3 k) (N 4 k) (N 7 (3 * k))) y) (dm_pass (dm_upto (ru_m N S t) k) v9)) ((N 7) (3 * k)) y) 1)) i)) from kk_upp _ _ _] at hP
                      have hz : H.size = sz := hz1.trans hz
                      obtain ⟨w19, hw19⟩ : ∃ z : mm_M, z = mm_up w6 (b + 28) (.inl (cI, 256, .inl (fun i => nI (dm_ph ((va_up (dm_pass (dm_upto (ru_n (N 3 k) (N 4 k) (N 7 (3 * k))) y) (dm_pass (dm_upto (ru_m N S t) k) v9)) (((32 * ((N 3) k)) + (8 * ((N 4) k))) + y) (dm_s (dm_ofs (dm_pass (dm_upto (ru_n (N 3 k) (N 4 k) (N 7 (3 * k))) y) (dm_pass (dm_upto (ru_m N S t) k) v9)) ((N 7) (3 * k)) y) 1)) i))))) := ⟨_, rfl⟩
                      have hP : mm_P B D kc w19 H := by rw [hw19]; exact hP
                      have fr19 : ∀ j, j ≠ b + 28 → w19 j = w6 j := fun j h9 => by rw [hw19]; exact mm_un h9
                      have fa19 : w19 (b + 28) = some (.inl (cI, 256, .inl (fun i => nI (dm_ph ((va_up (dm_pass (dm_upto (ru_n (N 3 k) (N 4 k) (N 7 (3 * k))) y) (dm_pass (dm_upto (ru_m N S t) k) v9)) (((32 * ((N 3) k)) + (8 * ((N 4) k))) + y) (dm_s (dm_ofs (dm_pass (dm_upto (ru_n (N 3 k) (N 4 k) (N 7 (3 * k))) y) (dm_pass (dm_upto (ru_m N S t) k) v9)) ((N 7) (3 * k)) y) 1)) i))))) := by rw [hw19]; exact mm_us _ _ _
                      refine lv_iconst (v := nI 1) hx hb d_Mod_useNames_109 (by decide) ?_
                      refine kk_top (y := nI (if dm_flag (dm_upto (ru_m N S t) k) v9 = true ∨ dm_flag (dm_upto (ru_n (N 3 k) (N 4 k) (N 7 (3 * k))) (y + 1)) (dm_pass (dm_upto (ru_m N S t) k) v9) = true then 1 else 0)) (kk_ift (Or.inr e1.2)) ?_
                      refine lv_istore_n hx hb d_Mod_useNames_110 rfl hl (by decide) rfl (fun ls hl => ?_)
                      have hl : lv_has ls 7 [(2, .int (nI (if dm_flag (dm_upto (ru_m N S t) k) v9 = true ∨ dm_flag (dm_upto (ru_n (N 3 k) (N 4 k) (N 7 (3 * k))) (y + 1)) (dm_pass (dm_upto (ru_m N S t) k) v9) = true then 1 else 0))), (6, .int (nI (dm_ph (dm_s (dm_ofs (dm_pass (dm_upto (ru_n (N 3 k) (N 4 k) (N 7 (3 * k))) y) (dm_pass (dm_upto (ru_m N S t) k) v9)) ((N 7) (3 * k)) y) 1)))), (5, .int (nI (((32 * ((N 3) k)) + (8 * ((N 4) k))) + y))), (4, .int (nI y)), (3, .int (nI k)), (0, .ref (b + 14)), (1, .int t)] := hl
                      refine lv_iinc (k := 3) (v := nI (y + 1)) hx hb d_Mod_useNames_111 hl rfl (kk_inc _) (by decide) rfl (fun ls hl => ?_)
                      have hl : lv_has ls 7 [(4, .int (nI (y + 1))), (2, .int (nI (if dm_flag (dm_upto (ru_m N S t) k) v9 = true ∨ dm_flag (dm_upto (ru_n (N 3 k) (N 4 k) (N 7 (3 * k))) (y + 1)) (dm_pass (dm_upto (ru_m N S t) k) v9) = true then 1 else 0))), (6, .int (nI (dm_ph (dm_s (dm_ofs (dm_pass (dm_upto (ru_n (N 3 k) (N 4 k) (N 7 (3 * k))) y) (dm_pass (dm_upto (ru_m N S t) k) v9)) ((N 7) (3 * k)) y) 1)))), (5, .int (nI (((32 * ((N 3) k)) + (8 * ((N 4) k))) + y))), (3, .int (nI k)), (0, .ref (b + 14)), (1, .int t)] := hl
                      refine lv_goto (tgt := 15) hx hb d_Mod_useNames_114 (by decide) ?_
                      rw [dm_s_comm _ 1] at fa19
                      exact ihlp5 _ (by omega) (y + 1) w19 _ _ ls rfl hP hz hS (fun j g0 => (fr19 j g0).trans (frw6 j g0)) (by rw [e1.1]; exact fa19) (by omega) (lv_sub hl [0, 4, 1, 5, 6] rfl)
          exact lp5 _ 0 w2 _ _ _ rfl hP hz hS (fun _ _ => rfl) fw2_0 (by omega) (lv_sub hl [0, 1, 2, 3, 4] rfl)
        · refine lv_iconst (v := nI 0) hx hb d_Mod_useNames_12 (by decide) ?_
          refine lv_istore hx hb d_Mod_useNames_13 hl (by decide) rfl (fun ls hl => ?_)
          have hl : lv_has ls 7 [(4, .int (nI 0)), (3, .int (nI k)), (2, .int (nI (if dm_flag (dm_upto (ru_m N S t) k) v9 = true then 1 else 0))), (0, .ref (b + 14)), (1, .int t)] := hl
          refine lv_iload hx hb d_Mod_useNames_15 (lv_at hl 0 rfl) ?_
          refine lv_bipush (v := nI 8) hx hb d_Mod_useNames_17 (by decide) ?_
          refine lv_icmp_ge (tgt := 117) hx hb d_Mod_useNames_19 (by decide) (fun cc20 => ?_) (fun cc20 => ?_)
          · have cc20 : 8 ≤ 0 := (nI_leI (by omega) (by omega)).mp cc20
            exact absurd cc20 (by omega)
          · have cc20 : ¬ (8 ≤ 0) := fun q => cc20 ((nI_leI (by omega) (by omega)).mpr q)
            refine lv_aload_n hx hb d_Mod_useNames_22 rfl (lv_at hl 3 rfl) ?_
            refine mm_get (D := D) (C := n_Mod) (T := T_Mod) (N := 27) (v := .ref (b + 16)) hx hb hts lay_Mod hown hK.1 hP f3 rfl 2 (by decide) (hts _ (List.mem_cons_of_mem _ wd_493)) (fun _ h9 => h9) rfl d_Mod_useNames_23 ?_
            refine lv_iload_n hx hb d_Mod_useNames_26 rfl (lv_at hl 1 rfl) ?_
            have f21 := (frw2 _ (by omega)).trans (m2)
            refine mm_zald hx hb hK.1 hP 1 f21 rfl k rfl (by omega) (by decide) d_Mod_useNames_27 ?_
            refine W.eq (g2 := F0 m 28 ls [.int (nI ((N 2) k))]) rfl ?_
            refine lv_if_eq (tgt := 117) hx hb d_Mod_useNames_28 (by decide) (fun cc22 => ?_) (fun cc22 => ?_)
            · rw [← nI_0] at cc22
              have cc22 : (N 2) k = 0 := (nI_eq (by omega) (by omega)).mp cc22
              refine lv_iinc (k := 1) (v := nI (k + 1)) hx hb d_Mod_useNames_117 hl rfl (kk_inc _) (by decide) rfl (fun ls hl => ?_)
              have hl : lv_has ls 7 [(3, .int (nI (k + 1))), (4, .int (nI 0)), (2, .int (nI (if dm_flag (dm_upto (ru_m N S t) k) v9 = true then 1 else 0))), (0, .ref (b + 14)), (1, .int t)] := hl
              refine lv_goto (tgt := 4) hx hb d_Mod_useNames_120 (by decide) ?_
              have e2 := dm_none (f := ru_m N S t) (g := v9) (k := k) (if_neg hok)
              rw [← e2.2] at hl
              exact ih _ (by omega) (k + 1) w2 _ _ ls rfl hP hz hS (fun j g0 => frw2 j g0) (by rw [e2.1]; exact fw2_0) (by omega) (lv_sub hl [0, 2, 3, 4] rfl)
            · rw [← nI_0] at cc22
              have cc22 : ¬ ((N 2) k = 0) := fun q => cc22 ((nI_eq (by omega) (by omega)).mpr q)
              refine lv_aload_n hx hb d_Mod_useNames_31 rfl (lv_at hl 3 rfl) ?_
              refine lv_iload_n hx hb d_Mod_useNames_32 rfl (lv_at hl 1 rfl) ?_
              refine lv_iload_n hx hb d_Mod_useNames_33 rfl (lv_at hl 4 rfl) ?_
              refine vp_callSi (va_Run.run (va_runV (As := [.int (nI k), .int t]) (rest := []) ⟨hx, hb, hml, hown, hts⟩ (c_Mod_isValid l (b := b) (N := (va_up N 14 (fun j => dm_ph ((dm_pass (dm_upto (ru_m N S t) k) v9) j)))) (S := S) hMk hn hR hj) (cwV 2 hts (gW_in (hd := [_, _, _, _, _]) (kk_5 wd_633 wd_635 sl_Mod_isValid wd_8 cw_Mod_isValid)) rfl rfl rfl ⟨rfl, ds_Mod_isValid⟩ ⟨Nat.le_of_ble_eq_true rfl, Nat.le_of_ble_eq_true rfl⟩) (kk_preV hK hP hz hBz f3 rfl) rfl rfl hl.1 rfl (lv_room (Nat.le_of_ble_eq_true rfl)) d_Mod_useNames_34 ⟨Nat.le_of_ble_eq_true rfl, Nat.le_of_ble_eq_true rfl⟩)) (fun r23 hr23 => ?_)
              subst hr23
              refine lv_if_eq (tgt := 117) hx hb d_Mod_useNames_37 (by decide) (fun cc24 => ?_) (fun cc24 => ?_)
              · have cc24 := kk_b0 cc24
                refine lv_iinc (k := 1) (v := nI (k + 1)) hx hb d_Mod_useNames_117 hl rfl (kk_inc _) (by decide) rfl (fun ls hl => ?_)
                have hl : lv_has ls 7 [(3, .int (nI (k + 1))), (4, .int (nI 0)), (2, .int (nI (if dm_flag (dm_upto (ru_m N S t) k) v9 = true then 1 else 0))), (0, .ref (b + 14)), (1, .int t)] := hl
                refine lv_goto (tgt := 4) hx hb d_Mod_useNames_120 (by decide) ?_
                have e2 := dm_none (f := ru_m N S t) (g := v9) (k := k) (if_neg hok)
                rw [← e2.2] at hl
                exact ih _ (by omega) (k + 1) w2 _ _ ls rfl hP hz hS (fun j g0 => frw2 j g0) (by rw [e2.1]; exact fw2_0) (by omega) (lv_sub hl [0, 2, 3, 4] rfl)
              · have cc24 := kk_b1 cc24
                exact absurd ⟨cc24.1, by omega, cc24.2⟩ hok
  exact lp1 _ 0 w _ _ _ rfl hP hz hS (fun _ _ => rfl) m14 (by omega) (lv_sub hl [0, 1, 2, 3] rfl)
