theorem d_Mod_follow_0 : decode k_Mod_follow 0 = .ok (.aload_n 0, 1) := by decide +kernel
theorem d_Mod_follow_1 : decode k_Mod_follow 1 = .ok (.getfield 130, 3) := by decide +kernel
theorem d_Mod_follow_4 : decode k_Mod_follow 4 = .ok (.ifCond .eq 19, 3) := by decide +kernel
theorem d_Mod_follow_7 : decode k_Mod_follow 7 = .ok (.aload_n 0, 1) := by decide +kernel
theorem d_Mod_follow_8 : decode k_Mod_follow 8 = .ok (.iload_n 1, 1) := by decide +kernel
theorem d_Mod_follow_9 : decode k_Mod_follow 9 = .ok (.invokevirtual 77, 3) := by decide +kernel
theorem d_Mod_follow_12 : decode k_Mod_follow 12 = .ok (.ifCond .eq 11, 3) := by decide +kernel
theorem d_Mod_follow_15 : decode k_Mod_follow 15 = .ok (.aload_n 0, 1) := by decide +kernel
theorem d_Mod_follow_16 : decode k_Mod_follow 16 = .ok (.iload_n 1, 1) := by decide +kernel
theorem d_Mod_follow_17 : decode k_Mod_follow 17 = .ok (.invokevirtual 167, 3) := by decide +kernel
theorem d_Mod_follow_20 : decode k_Mod_follow 20 = .ok (.ifCond .ne 5, 3) := by decide +kernel
theorem d_Mod_follow_23 : decode k_Mod_follow 23 = .ok (.iconst 0, 1) := by decide +kernel
theorem d_Mod_follow_24 : decode k_Mod_follow 24 = .ok (.ireturn, 1) := by decide +kernel
theorem d_Mod_follow_25 : decode k_Mod_follow 25 = .ok (.aload_n 0, 1) := by decide +kernel
theorem d_Mod_follow_26 : decode k_Mod_follow 26 = .ok (.getfield 13, 3) := by decide +kernel
theorem d_Mod_follow_29 : decode k_Mod_follow 29 = .ok (.iload_n 1, 1) := by decide +kernel
theorem d_Mod_follow_30 : decode k_Mod_follow 30 = .ok (.baload, 1) := by decide +kernel
theorem d_Mod_follow_31 : decode k_Mod_follow 31 = .ok (.ifCond .eq 10, 3) := by decide +kernel
theorem d_Mod_follow_34 : decode k_Mod_follow 34 = .ok (.aload_n 0, 1) := by decide +kernel
theorem d_Mod_follow_35 : decode k_Mod_follow 35 = .ok (.invokevirtual 170, 3) := by decide +kernel
theorem d_Mod_follow_38 : decode k_Mod_follow 38 = .ok (.goto 88, 3) := by decide +kernel
theorem d_Mod_follow_41 : decode k_Mod_follow 41 = .ok (.aload_n 0, 1) := by decide +kernel
theorem d_Mod_follow_42 : decode k_Mod_follow 42 = .ok (.aload_n 0, 1) := by decide +kernel
theorem d_Mod_follow_43 : decode k_Mod_follow 43 = .ok (.getfield 47, 3) := by decide +kernel
theorem d_Mod_follow_46 : decode k_Mod_follow 46 = .ok (.iload_n 1, 1) := by decide +kernel
theorem d_Mod_follow_47 : decode k_Mod_follow 47 = .ok (.baload, 1) := by decide +kernel
theorem d_Mod_follow_48 : decode k_Mod_follow 48 = .ok (.putfield 158, 3) := by decide +kernel
theorem d_Mod_follow_51 : decode k_Mod_follow 51 = .ok (.aload_n 0, 1) := by decide +kernel
theorem d_Mod_follow_52 : decode k_Mod_follow 52 = .ok (.aload_n 0, 1) := by decide +kernel
theorem d_Mod_follow_53 : decode k_Mod_follow 53 = .ok (.getfield 140, 3) := by decide +kernel
theorem d_Mod_follow_56 : decode k_Mod_follow 56 = .ok (.aload_n 0, 1) := by decide +kernel
theorem d_Mod_follow_57 : decode k_Mod_follow 57 = .ok (.getfield 38, 3) := by decide +kernel
theorem d_Mod_follow_60 : decode k_Mod_follow 60 = .ok (.iload_n 1, 1) := by decide +kernel
theorem d_Mod_follow_61 : decode k_Mod_follow 61 = .ok (.iaload, 1) := by decide +kernel
theorem d_Mod_follow_62 : decode k_Mod_follow 62 = .ok (.iand, 1) := by decide +kernel
theorem d_Mod_follow_63 : decode k_Mod_follow 63 = .ok (.putfield 140, 3) := by decide +kernel
theorem d_Mod_follow_66 : decode k_Mod_follow 66 = .ok (.aload_n 0, 1) := by decide +kernel
theorem d_Mod_follow_67 : decode k_Mod_follow 67 = .ok (.aload_n 0, 1) := by decide +kernel
theorem d_Mod_follow_68 : decode k_Mod_follow 68 = .ok (.getfield 41, 3) := by decide +kernel
theorem d_Mod_follow_71 : decode k_Mod_follow 71 = .ok (.iload_n 1, 1) := by decide +kernel
theorem d_Mod_follow_72 : decode k_Mod_follow 72 = .ok (.iaload, 1) := by decide +kernel
theorem d_Mod_follow_73 : decode k_Mod_follow 73 = .ok (.aload_n 0, 1) := by decide +kernel
theorem d_Mod_follow_74 : decode k_Mod_follow 74 = .ok (.getfield 143, 3) := by decide +kernel
theorem d_Mod_follow_77 : decode k_Mod_follow 77 = .ok (.if_icmp .le 12, 3) := by decide +kernel
theorem d_Mod_follow_80 : decode k_Mod_follow 80 = .ok (.aload_n 0, 1) := by decide +kernel
theorem d_Mod_follow_81 : decode k_Mod_follow 81 = .ok (.getfield 41, 3) := by decide +kernel
theorem d_Mod_follow_84 : decode k_Mod_follow 84 = .ok (.iload_n 1, 1) := by decide +kernel
theorem d_Mod_follow_85 : decode k_Mod_follow 85 = .ok (.iaload, 1) := by decide +kernel
theorem d_Mod_follow_86 : decode k_Mod_follow 86 = .ok (.goto 7, 3) := by decide +kernel
theorem d_Mod_follow_89 : decode k_Mod_follow 89 = .ok (.aload_n 0, 1) := by decide +kernel
theorem d_Mod_follow_90 : decode k_Mod_follow 90 = .ok (.getfield 143, 3) := by decide +kernel
theorem d_Mod_follow_93 : decode k_Mod_follow 93 = .ok (.putfield 143, 3) := by decide +kernel
theorem d_Mod_follow_96 : decode k_Mod_follow 96 = .ok (.aload_n 0, 1) := by decide +kernel
theorem d_Mod_follow_97 : decode k_Mod_follow 97 = .ok (.aload_n 0, 1) := by decide +kernel
theorem d_Mod_follow_98 : decode k_Mod_follow 98 = .ok (.getfield 44, 3) := by decide +kernel
theorem d_Mod_follow_101 : decode k_Mod_follow 101 = .ok (.iload_n 1, 1) := by decide +kernel
theorem d_Mod_follow_102 : decode k_Mod_follow 102 = .ok (.iaload, 1) := by decide +kernel
theorem d_Mod_follow_103 : decode k_Mod_follow 103 = .ok (.aload_n 0, 1) := by decide +kernel
theorem d_Mod_follow_104 : decode k_Mod_follow 104 = .ok (.getfield 146, 3) := by decide +kernel
theorem d_Mod_follow_107 : decode k_Mod_follow 107 = .ok (.if_icmp .ge 12, 3) := by decide +kernel
theorem d_Mod_follow_110 : decode k_Mod_follow 110 = .ok (.aload_n 0, 1) := by decide +kernel
theorem d_Mod_follow_111 : decode k_Mod_follow 111 = .ok (.getfield 44, 3) := by decide +kernel
theorem d_Mod_follow_114 : decode k_Mod_follow 114 = .ok (.iload_n 1, 1) := by decide +kernel
theorem d_Mod_follow_115 : decode k_Mod_follow 115 = .ok (.iaload, 1) := by decide +kernel
theorem d_Mod_follow_116 : decode k_Mod_follow 116 = .ok (.goto 7, 3) := by decide +kernel
theorem d_Mod_follow_119 : decode k_Mod_follow 119 = .ok (.aload_n 0, 1) := by decide +kernel
theorem d_Mod_follow_120 : decode k_Mod_follow 120 = .ok (.getfield 146, 3) := by decide +kernel
theorem d_Mod_follow_123 : decode k_Mod_follow 123 = .ok (.putfield 146, 3) := by decide +kernel
theorem d_Mod_follow_126 : decode k_Mod_follow 126 = .ok (.aload_n 0, 1) := by decide +kernel
theorem d_Mod_follow_127 : decode k_Mod_follow 127 = .ok (.aload_n 0, 1) := by decide +kernel
theorem d_Mod_follow_128 : decode k_Mod_follow 128 = .ok (.getfield 29, 3) := by decide +kernel
theorem d_Mod_follow_131 : decode k_Mod_follow 131 = .ok (.iconst 3, 1) := by decide +kernel
theorem d_Mod_follow_132 : decode k_Mod_follow 132 = .ok (.iload_n 1, 1) := by decide +kernel
theorem d_Mod_follow_133 : decode k_Mod_follow 133 = .ok (.imul, 1) := by decide +kernel
theorem d_Mod_follow_134 : decode k_Mod_follow 134 = .ok (.iaload, 1) := by decide +kernel
theorem d_Mod_follow_135 : decode k_Mod_follow 135 = .ok (.invokevirtual 137, 3) := by decide +kernel
theorem d_Mod_follow_138 : decode k_Mod_follow 138 = .ok (.aload_n 0, 1) := by decide +kernel
theorem d_Mod_follow_139 : decode k_Mod_follow 139 = .ok (.aload_n 0, 1) := by decide +kernel
theorem d_Mod_follow_140 : decode k_Mod_follow 140 = .ok (.getfield 23, 3) := by decide +kernel
theorem d_Mod_follow_143 : decode k_Mod_follow 143 = .ok (.iload_n 1, 1) := by decide +kernel
theorem d_Mod_follow_144 : decode k_Mod_follow 144 = .ok (.iaload, 1) := by decide +kernel
theorem d_Mod_follow_145 : decode k_Mod_follow 145 = .ok (.aload_n 0, 1) := by decide +kernel
theorem d_Mod_follow_146 : decode k_Mod_follow 146 = .ok (.getfield 149, 3) := by decide +kernel
theorem d_Mod_follow_149 : decode k_Mod_follow 149 = .ok (.if_icmp .le 12, 3) := by decide +kernel
theorem d_Mod_follow_152 : decode k_Mod_follow 152 = .ok (.aload_n 0, 1) := by decide +kernel
theorem d_Mod_follow_153 : decode k_Mod_follow 153 = .ok (.getfield 23, 3) := by decide +kernel
theorem d_Mod_follow_156 : decode k_Mod_follow 156 = .ok (.iload_n 1, 1) := by decide +kernel
theorem d_Mod_follow_157 : decode k_Mod_follow 157 = .ok (.iaload, 1) := by decide +kernel
theorem d_Mod_follow_158 : decode k_Mod_follow 158 = .ok (.goto 7, 3) := by decide +kernel
theorem d_Mod_follow_161 : decode k_Mod_follow 161 = .ok (.aload_n 0, 1) := by decide +kernel
theorem d_Mod_follow_162 : decode k_Mod_follow 162 = .ok (.getfield 149, 3) := by decide +kernel
theorem d_Mod_follow_165 : decode k_Mod_follow 165 = .ok (.putfield 149, 3) := by decide +kernel
theorem d_Mod_follow_168 : decode k_Mod_follow 168 = .ok (.aload_n 0, 1) := by decide +kernel
theorem d_Mod_follow_169 : decode k_Mod_follow 169 = .ok (.aload_n 0, 1) := by decide +kernel
theorem d_Mod_follow_170 : decode k_Mod_follow 170 = .ok (.getfield 26, 3) := by decide +kernel
theorem d_Mod_follow_173 : decode k_Mod_follow 173 = .ok (.iload_n 1, 1) := by decide +kernel
theorem d_Mod_follow_174 : decode k_Mod_follow 174 = .ok (.iaload, 1) := by decide +kernel
theorem d_Mod_follow_175 : decode k_Mod_follow 175 = .ok (.aload_n 0, 1) := by decide +kernel
theorem d_Mod_follow_176 : decode k_Mod_follow 176 = .ok (.getfield 152, 3) := by decide +kernel
theorem d_Mod_follow_179 : decode k_Mod_follow 179 = .ok (.if_icmp .ge 12, 3) := by decide +kernel
theorem d_Mod_follow_182 : decode k_Mod_follow 182 = .ok (.aload_n 0, 1) := by decide +kernel
theorem d_Mod_follow_183 : decode k_Mod_follow 183 = .ok (.getfield 26, 3) := by decide +kernel
theorem d_Mod_follow_186 : decode k_Mod_follow 186 = .ok (.iload_n 1, 1) := by decide +kernel
theorem d_Mod_follow_187 : decode k_Mod_follow 187 = .ok (.iaload, 1) := by decide +kernel
theorem d_Mod_follow_188 : decode k_Mod_follow 188 = .ok (.goto 7, 3) := by decide +kernel
theorem d_Mod_follow_191 : decode k_Mod_follow 191 = .ok (.aload_n 0, 1) := by decide +kernel
theorem d_Mod_follow_192 : decode k_Mod_follow 192 = .ok (.getfield 152, 3) := by decide +kernel
theorem d_Mod_follow_195 : decode k_Mod_follow 195 = .ok (.putfield 152, 3) := by decide +kernel
theorem d_Mod_follow_198 : decode k_Mod_follow 198 = .ok (.aload_n 0, 1) := by decide +kernel
theorem d_Mod_follow_199 : decode k_Mod_follow 199 = .ok (.dup, 1) := by decide +kernel
theorem d_Mod_follow_200 : decode k_Mod_follow 200 = .ok (.getfield 155, 3) := by decide +kernel
theorem d_Mod_follow_203 : decode k_Mod_follow 203 = .ok (.iconst 1, 1) := by decide +kernel
theorem d_Mod_follow_204 : decode k_Mod_follow 204 = .ok (.iadd, 1) := by decide +kernel
theorem d_Mod_follow_205 : decode k_Mod_follow 205 = .ok (.putfield 155, 3) := by decide +kernel
theorem d_Mod_follow_208 : decode k_Mod_follow 208 = .ok (.iconst 1, 1) := by decide +kernel
theorem d_Mod_follow_209 : decode k_Mod_follow 209 = .ok (.ireturn, 1) := by decide +kernel
set_option maxHeartbeats 4000000 in
set_option maxRecDepth 100000 in
theorem c_Mod_follow (l : Launch) {B : Nat} {D : va_G} {cI cZ cQ : ClassId} {w : mm_M} {sz : Nat} {b : Nat} {N : Nat → Nat → Nat} {S : Nat → Nat → Int32} {nr : Int32} (hM : mo_I b cI cZ N S w) (hn : N 0 0 ≤ 24) (hR : rg_I N) (hC : ch_I N) : Met l y_Mod_follow ws_Mod_follow (kk_rm 3 0 0) (kk_Pc B D cI cZ cQ [.ref (b + 14), .int nr] w sz) (kk_Qi B D (fun r w' sz' => r = nI (if fo_ok N nr then 1 else 0) ∧ mo_I b cI cZ (fo_N N nr) (fo_S N S nr) w' ∧ (∀ j, ¬ (b + 14 ≤ j ∧ j < b + 31) → w' j = w j) ∧ sz' = sz)) 0 0 (fun q => B ≤ q) := by
  refine Met.ofW (cc := k_Mod_follow) (maxL := 2) (ret := (some .boolean)) (by decide) rfl ?_
  intro p e s m args below meth c s₁ BB hml hv
  obtain ⟨rfl, hK, hP, hz, hBz⟩ := hv
  have hx := BB.exec
  have hb := BB.bytes
  have hr := BB.returns
  have hts := atoms_spec (ws := ws_Mod_follow) BB.pre
  have hown : s.vm.findClass "DelegationClosureModel" = some m.cls := findClass_of_methodNamed BB.named
  have hlocks := BB.notSynchronized
  have hS : mm_S B s.heap s.heap [] := va_S.rf
  have hl := lv_entry ([.ref (b + 14), .int nr]) (n := 2) (Nat.le_of_ble_eq_true rfl)
  rw [lg_entry_eq]
  generalize (lg_sl ([.ref (b + 14), .int nr]) ++ List.replicate (2 - (lg_sl ([.ref (b + 14), .int nr])).length) Slot.unset).toArray = ls at hl ⊢
  have hl : lv_has ls 2 [(0, .ref (b + 14)), (1, .int nr)] := hl
  have m0 : w (b + 14) = some (.inr (9, [.int (nI (N 0 0)), .ref (b + 15), .ref (b + 16), .ref (b + 17), .ref (b + 18), .ref (b + 19), .ref (b + 20), .ref (b + 21), .ref (b + 22), .ref (b + 23), .ref (b + 24), .ref (b + 25), .ref (b + 26), .ref (b + 27), .ref (b + 28), .ref (b + 29), .int (nI (N 16 0)), .int (nI (N 17 0)), .int (nI (N 18 0)), .ref (b + 30), .int (nI (N 20 0)), .int (S 21 0), .int (S 22 0), .int (S 23 0), .int (S 24 0), .int (nI (N 25 0)), .int (nI (N 26 0))])) := hM.1
  have m1 : w (b + 15) = some (.inl (cZ, 24, .inl (fun i => nI ((N 1) i)))) := hM.2 1 (by decide) (by decide)
  have m2 : w (b + 16) = some (.inl (cZ, 24, .inl (fun i => nI ((N 2) i)))) := hM.2 2 (by decide) (by decide)
  have m3 : w (b + 17) = some (.inl (cI, 24, .inl (fun i => nI ((N 3) i)))) := hM.2 3 (by decide) (by decide)
  have m4 : w (b + 18) = some (.inl (cI, 24, .inl (fun i => nI ((N 4) i)))) := hM.2 4 (by decide) (by decide)
  have m5 : w (b + 19) = some (.inl (cI, 24, .inl (S 5))) := hM.2 5 (by decide) (by decide)
  have m6 : w (b + 20) = some (.inl (cI, 24, .inl (S 6))) := hM.2 6 (by decide) (by decide)
  have m7 : w (b + 21) = some (.inl (cI, 72, .inl (fun i => nI ((N 7) i)))) := hM.2 7 (by decide) (by decide)
  have m8 : w (b + 22) = some (.inl (cI, 24, .inl (fun i => nI ((N 8) i)))) := hM.2 8 (by decide) (by decide)
  have m9 : w (b + 23) = some (.inl (cI, 24, .inl (fun i => nI ((N 9) i)))) := hM.2 9 (by decide) (by decide)
  have m10 : w (b + 24) = some (.inl (cI, 24, .inl (fun i => nI ((N 10) i)))) := hM.2 10 (by decide) (by decide)
  have m11 : w (b + 25) = some (.inl (cI, 24, .inl (S 11))) := hM.2 11 (by decide) (by decide)
  have m12 : w (b + 26) = some (.inl (cI, 24, .inl (S 12))) := hM.2 12 (by decide) (by decide)
  have m13 : w (b + 27) = some (.inl (cZ, 24, .inl (fun i => nI ((N 13) i)))) := hM.2 13 (by decide) (by decide)
  have m14 : w (b + 28) = some (.inl (cI, 256, .inl (fun i => nI ((N 14) i)))) := hM.2 14 (by decide) (by decide)
  have m15 : w (b + 29) = some (.inl (cI, 24, .inl (fun i => nI ((N 15) i)))) := hM.2 15 (by decide) (by decide)
  have m16 : w (b + 30) = some (.inl (cI, 5, .inl (fun i => nI ((N 19) i)))) := hM.2 16 (by decide) (by decide)
  have hC1 := hC.1
  have hC3 := hC.2.2.1
  have hC4 := hC.2.2.2.1
  have hC5 := hC.2.2.2.2.1
  have hC6 := hC.2.2.2.2.2.1
  by_cases hok : fo_ok N nr
  · have hk1 := hok.1
    refine lv_aload_n hx hb d_Mod_follow_0 rfl (lv_at hl 0 rfl) ?_
    refine mm_get (D := D) (C := n_Mod) (T := T_Mod) (N := 27) (v := .int (nI (N 16 0))) hx hb hts lay_Mod hown hK.1 hP m0 rfl 16 (by decide) (hts _ (List.mem_cons_of_mem _ wd_507)) (fun _ h9 => h9) rfl d_Mod_follow_1 ?_
    refine lv_if_eq (tgt := 23) hx hb d_Mod_follow_4 (by decide) (fun cc1 => ?_) (fun cc1 => ?_)
    · rw [← nI_0] at cc1
      have cc1 : N 16 0 = 0 := (nI_eq (by omega) (by omega)).mp cc1
      exact absurd cc1 (by omega)
    · rw [← nI_0] at cc1
      have cc1 : ¬ (N 16 0 = 0) := fun q => cc1 ((nI_eq (by omega) (by omega)).mpr q)
      refine lv_aload_n hx hb d_Mod_follow_7 rfl (lv_at hl 0 rfl) ?_
      refine lv_iload_n hx hb d_Mod_follow_8 rfl (lv_at hl 1 rfl) ?_
      refine vp_callSi (va_Run.run (va_runV (As := [.int nr]) (rest := []) ⟨hx, hb, hml, hown, hts⟩ (c_Mod_isThere l (b := b) (N := N) (S := S) hM (by omega) hR) (cwV 1 hts (gW_in (hd := [_, _, _, _, _]) (kk_5 wd_601 wd_603 sl_Mod_isThere wd_8 cw_Mod_isThere)) rfl rfl rfl ⟨rfl, ds_Mod_isThere⟩ ⟨Nat.le_of_ble_eq_true rfl, Nat.le_of_ble_eq_true rfl⟩) (kk_preV hK hP hz hBz m0 rfl) rfl rfl hl.1 rfl (lv_room (Nat.le_of_ble_eq_true rfl)) d_Mod_follow_9 ⟨Nat.le_of_ble_eq_true rfl, Nat.le_of_ble_eq_true rfl⟩)) (fun r2 hr2 => ?_)
      subst hr2
      refine lv_if_eq (tgt := 23) hx hb d_Mod_follow_12 (by decide) (fun cc3 => ?_) (fun cc3 => ?_)
      · have cc3 := kk_b0 cc3
        exact absurd hok.2.1 cc3
      · have cc3 := kk_b1 cc3
        obtain ⟨j, hj, rfl⟩ := re_in hn cc3.1
        have hRj := hR j hj
        have hg13 : N 13 j ≤ 1 := by omega
        have hs0 : wf_subn (N 7 (3 * j)) := hRj.2.2.2.2.2.1 0 (by omega)
        have hA2 := ch_a_le (N 7 (3 * j))
        have hft : ft_ok N j := by have h9 := hok.2.2; rw [nI_clamp (by omega)] at h9; exact h9
        refine lv_aload_n hx hb d_Mod_follow_15 rfl (lv_at hl 0 rfl) ?_
        refine lv_iload_n hx hb d_Mod_follow_16 rfl (lv_at hl 1 rfl) ?_
        refine vp_callSi (va_Run.run (va_runV (As := [.int (nI j)]) (rest := []) ⟨hx, hb, hml, hown, hts⟩ (c_Mod_fits l (b := b) (N := N) (S := S) hM hn hR hj hC) (cwV 1 hts (gW_in (hd := [_, _, _, _, _]) (kk_5 wd_698 wd_700 sl_Mod_fits wd_8 cw_Mod_fits)) rfl rfl rfl ⟨rfl, ds_Mod_fits⟩ ⟨Nat.le_of_ble_eq_true rfl, Nat.le_of_ble_eq_true rfl⟩) (kk_preV hK hP hz hBz m0 rfl) rfl rfl hl.1 rfl (lv_room (Nat.le_of_ble_eq_true rfl)) d_Mod_follow_17 ⟨Nat.le_of_ble_eq_true rfl, Nat.le_of_ble_eq_true rfl⟩)) (fun r4 hr4 => ?_)
        subst hr4
        refine lv_if_ne (tgt := 25) hx hb d_Mod_follow_20 (by decide) (fun cc5 => ?_) (fun cc5 => ?_)
        · have cc5 := kk_b1 cc5
          refine lv_aload_n hx hb d_Mod_follow_25 rfl (lv_at hl 0 rfl) ?_
          refine mm_get (D := D) (C := n_Mod) (T := T_Mod) (N := 27) (v := .ref (b + 16)) hx hb hts lay_Mod hown hK.1 hP m0 rfl 2 (by decide) (hts _ (List.mem_cons_of_mem _ wd_493)) (fun _ h9 => h9) rfl d_Mod_follow_26 ?_
          refine lv_iload_n hx hb d_Mod_follow_29 rfl (lv_at hl 1 rfl) ?_
          refine mm_zald hx hb hK.1 hP 1 m2 rfl j rfl (by omega) (by decide) d_Mod_follow_30 ?_
          refine W.eq (g2 := F0 m 31 ls [.int (nI ((N 2) j))]) rfl ?_
          refine lv_if_eq (tgt := 41) hx hb d_Mod_follow_31 (by decide) (fun cc6 => ?_) (fun cc6 => ?_)
          · rw [← nI_0] at cc6
            have cc6 : (N 2) j = 0 := (nI_eq (by omega) (by omega)).mp cc6
            refine lv_aload_n hx hb d_Mod_follow_41 rfl (lv_at hl 0 rfl) ?_
            refine lv_aload_n hx hb d_Mod_follow_42 rfl (lv_at hl 0 rfl) ?_
            refine mm_get (D := D) (C := n_Mod) (T := T_Mod) (N := 27) (v := .ref (b + 27)) hx hb hts lay_Mod hown hK.1 hP m0 rfl 13 (by decide) (hts _ (List.mem_cons_of_mem _ wd_504)) (fun _ h9 => h9) rfl d_Mod_follow_43 ?_
            refine lv_iload_n hx hb d_Mod_follow_46 rfl (lv_at hl 1 rfl) ?_
            refine mm_zald hx hb hK.1 hP 1 m13 rfl j rfl (by omega) (by decide) d_Mod_follow_47 ?_
            refine W.eq (g2 := F0 m 48 ls [.int (nI ((N 13) j)), .ref (b + 14)]) rfl ?_
            refine mm_put (D := D) (C := n_Mod) (T := T_Mod) (N := 27) (v := .int (nI ((N 13) j))) (ty := .boolean) hx hb hts lay_Mod t_Mod ty_Mod nm_Mod hown hK.1 hP hS m0 rfl 26 (by decide) (hts _ (List.mem_cons_of_mem _ wd_517)) (fun _ h9 => h9) rfl (by decide +kernel) (kk_nar1 hg13) (kk_fit1 hg13) (Nat.le_of_ble_eq_true rfl) d_Mod_follow_48 (fun H locs hP hz1 hS => ?_)
            have hz : H.size = sz := hz1.trans hz
            obtain ⟨w7, hw7⟩ : ∃ z : mm_M, z = mm_up w (b + 14) (.inr (9, [.int (nI (N 0 0)), .ref (b + 15), .ref (b + 16), .ref (b + 17), .ref (b + 18), .ref (b + 19), .ref (b + 20), .ref (b + 21), .ref (b + 22), .ref (b + 23), .ref (b + 24), .ref (b + 25), .ref (b + 26), .ref (b + 27), .ref (b + 28), .ref (b + 29), .int (nI (N 16 0)), .int (nI (N 17 0)), .int (nI (N 18 0)), .ref (b + 30), .int (nI (N 20 0)), .int (S 21 0), .int (S 22 0), .int (S 23 0), .int (S 24 0), .int (nI (N 25 0)), .int (nI ((N 13) j))])) := ⟨_, rfl⟩
            have hP : mm_P B D kc w7 H := by rw [hw7]; exact hP
            have fr7 : ∀ j, j ≠ b + 14 → w7 j = w j := fun j h9 => by rw [hw7]; exact mm_un h9
            have fa7 : w7 (b + 14) = some (.inr (9, [.int (nI (N 0 0)), .ref (b + 15), .ref (b + 16), .ref (b + 17), .ref (b + 18), .ref (b + 19), .ref (b + 20), .ref (b + 21), .ref (b + 22), .ref (b + 23), .ref (b + 24), .ref (b + 25), .ref (b + 26), .ref (b + 27), .ref (b + 28), .ref (b + 29), .int (nI (N 16 0)), .int (nI (N 17 0)), .int (nI (N 18 0)), .ref (b + 30), .int (nI (N 20 0)), .int (S 21 0), .int (S 22 0), .int (S 23 0), .int (S 24 0), .int (nI (N 25 0)), .int (nI ((N 13) j))])) := by rw [hw7]; exact mm_us _ _ _
            refine lv_aload_n hx hb d_Mod_follow_51 rfl (lv_at hl 0 rfl) ?_
            refine lv_aload_n hx hb d_Mod_follow_52 rfl (lv_at hl 0 rfl) ?_
            refine mm_get (D := D) (C := n_Mod) (T := T_Mod) (N := 27) (v := .int (nI (N 20 0))) hx hb hts lay_Mod hown hK.1 hP fa7 rfl 20 (by decide) (hts _ (List.mem_cons_of_mem _ wd_511)) (fun _ h9 => h9) rfl d_Mod_follow_53 ?_
            refine lv_aload_n hx hb d_Mod_follow_56 rfl (lv_at hl 0 rfl) ?_
            refine mm_get (D := D) (C := n_Mod) (T := T_Mod) (N := 27) (v := .ref (b + 24)) hx hb hts lay_Mod hown hK.1 hP fa7 rfl 10 (by decide) (hts _ (List.mem_cons_of_mem _ wd_501)) (fun _ h9 => h9) rfl d_Mod_follow_57 ?_
            refine lv_iload_n hx hb d_Mod_follow_60 rfl (lv_at hl 1 rfl) ?_
            have f8 := (fr7 _ (by omega)).trans (m10)
            refine mm_iald hx hb hK.1 hP 0 f8 rfl j rfl (by omega) (by decide) d_Mod_follow_61 ?_
            refine W.eq (g2 := F0 m 62 ls [.int (nI ((N 10) j)), .int (nI (N 20 0)), .ref (b + 14)]) rfl ?_
            refine lv_iand hx hb d_Mod_follow_62 ?_
            refine kk_top (y := nI (N 20 0 &&& N 10 j)) (bt_land _ _) ?_
            refine mm_put (D := D) (C := n_Mod) (T := T_Mod) (N := 27) (v := .int (nI (N 20 0 &&& N 10 j))) (ty := .int) hx hb hts lay_Mod t_Mod ty_Mod nm_Mod hown hK.1 hP hS fa7 rfl 20 (by decide) (hts _ (List.mem_cons_of_mem _ wd_511)) (fun _ h9 => h9) rfl (by decide +kernel) rfl rfl (Nat.le_of_ble_eq_true rfl) d_Mod_follow_63 (fun H locs hP hz1 hS => ?_)
            have hz : H.size = sz := hz1.trans hz
            obtain ⟨w9, hw9⟩ : ∃ z : mm_M, z = mm_up w7 (b + 14) (.inr (9, [.int (nI (N 0 0)), .ref (b + 15), .ref (b + 16), .ref (b + 17), .ref (b + 18), .ref (b + 19), .ref (b + 20), .ref (b + 21), .ref (b + 22), .ref (b + 23), .ref (b + 24), .ref (b + 25), .ref (b + 26), .ref (b + 27), .ref (b + 28), .ref (b + 29), .int (nI (N 16 0)), .int (nI (N 17 0)), .int (nI (N 18 0)), .ref (b + 30), .int (nI (N 20 0 &&& N 10 j)), .int (S 21 0), .int (S 22 0), .int (S 23 0), .int (S 24 0), .int (nI (N 25 0)), .int (nI ((N 13) j))])) := ⟨_, rfl⟩
            have hP : mm_P B D kc w9 H := by rw [hw9]; exact hP
            have fr9 : ∀ j, j ≠ b + 14 → w9 j = w7 j := fun j h9 => by rw [hw9]; exact mm_un h9
            have fa9 : w9 (b + 14) = some (.inr (9, [.int (nI (N 0 0)), .ref (b + 15), .ref (b + 16), .ref (b + 17), .ref (b + 18), .ref (b + 19), .ref (b + 20), .ref (b + 21), .ref (b + 22), .ref (b + 23), .ref (b + 24), .ref (b + 25), .ref (b + 26), .ref (b + 27), .ref (b + 28), .ref (b + 29), .int (nI (N 16 0)), .int (nI (N 17 0)), .int (nI (N 18 0)), .ref (b + 30), .int (nI (N 20 0 &&& N 10 j)), .int (S 21 0), .int (S 22 0), .int (S 23 0), .int (S 24 0), .int (nI (N 25 0)), .int (nI ((N 13) j))])) := by rw [hw9]; exact mm_us _ _ _
            refine lv_aload_n hx hb d_Mod_follow_66 rfl (lv_at hl 0 rfl) ?_
            have jn10 : W p l e (headSpec ws_Mod_follow (kk_rm 3 0 0)).room s m ([.ref (b + 14), .int (nI j)]).toArray below meth c H locs 0 0 (MQ below (kk_Qi B D (fun r w' sz' => r = nI (if fo_ok N (nI j) then 1 else 0) ∧ mo_I b cI cZ (fo_N N (nI j)) (fo_S N S (nI j)) w' ∧ (∀ j, ¬ (b + 14 ≤ j ∧ j < b + 31) → w' j = w j) ∧ sz' = sz)) ([.ref (b + 14), .int (nI j)]).toArray s 0 0 (fun q => B ≤ q)) (F0 m 93 ls [.int (if S 21 0 < S 11 j then S 11 j else S 21 0), .ref (b + 14)]) := by
              refine mm_put (D := D) (C := n_Mod) (T := T_Mod) (N := 27) (v := .int (if S 21 0 < S 11 j then S 11 j else S 21 0)) (ty := .int) hx hb hts lay_Mod t_Mod ty_Mod nm_Mod hown hK.1 hP hS fa9 rfl 21 (by decide) (hts _ (List.mem_cons_of_mem _ wd_512)) (fun _ h9 => h9) rfl (by decide +kernel) rfl rfl (Nat.le_of_ble_eq_true rfl) d_Mod_follow_93 (fun H locs hP hz1 hS => ?_)
              have hz : H.size = sz := hz1.trans hz
              obtain ⟨w11, hw11⟩ : ∃ z : mm_M, z = mm_up w9 (b + 14) (.inr (9, [.int (nI (N 0 0)), .ref (b + 15), .ref (b + 16), .ref (b + 17), .ref (b + 18), .ref (b + 19), .ref (b + 20), .ref (b + 21), .ref (b + 22), .ref (b + 23), .ref (b + 24), .ref (b + 25), .ref (b + 26), .ref (b + 27), .ref (b + 28), .ref (b + 29), .int (nI (N 16 0)), .int (nI (N 17 0)), .int (nI (N 18 0)), .ref (b + 30), .int (nI (N 20 0 &&& N 10 j)), .int (if S 21 0 < S 11 j then S 11 j else S 21 0), .int (S 22 0), .int (S 23 0), .int (S 24 0), .int (nI (N 25 0)), .int (nI ((N 13) j))])) := ⟨_, rfl⟩
              have hP : mm_P B D kc w11 H := by rw [hw11]; exact hP
              have fr11 : ∀ j, j ≠ b + 14 → w11 j = w9 j := fun j h9 => by rw [hw11]; exact mm_un h9
              have fa11 : w11 (b + 14) = some (.inr (9, [.int (nI (N 0 0)), .ref (b + 15), .ref (b + 16), .ref (b + 17), .ref (b + 18), .ref (b + 19), .ref (b + 20), .ref (b + 21), .ref (b + 22), .ref (b + 23), .ref (b + 24), .ref (b + 25), .ref (b + 26), .ref (b + 27), .ref (b + 28), .ref (b + 29), .int (nI (N 16 0)), .int (nI (N 17 0)), .int (nI (N 18 0)), .ref (b + 30), .int (nI (N 20 0 &&& N 10 j)), .int (if S 21 0 < S 11 j then S 11 j else S 21 0), .int (S 22 0), .int (S 23 0), .int (S 24 0), .int (nI (N 25 0)), .int (nI ((N 13) j))])) := by rw [hw11]; exact mm_us _ _ _
              refine lv_aload_n hx hb d_Mod_follow_96 rfl (lv_at hl 0 rfl) ?_
              have jn12 : W p l e (headSpec ws_Mod_follow (kk_rm 3 0 0)).room s m ([.ref (b + 14), .int (nI j)]).toArray below meth c H locs 0 0 (MQ below (kk_Qi B D (fun r w' sz' => r = nI (if fo_ok N (nI j) then 1 else 0) ∧ mo_I b cI cZ (fo_N N (nI j)) (fo_S N S (nI j)) w' ∧ (∀ j, ¬ (b + 14 ≤ j ∧ j < b + 31) → w' j = w j) ∧ sz' = sz)) ([.ref (b + 14), .int (nI j)]).toArray s 0 0 (fun q => B ≤ q)) (F0 m 123 ls [.int (if S 12 j < S 22 0 then S 12 j else S 22 0), .ref (b + 14)]) := by
                refine mm_put (D := D) (C := n_Mod) (T := T_Mod) (N := 27) (v := .int (if S 12 j < S 22 0 then S 12 j else S 22 0)) (ty := .int) hx hb hts lay_Mod t_Mod ty_Mod nm_Mod hown hK.1 hP hS fa11 rfl 22 (by decide) (hts _ (List.mem_cons_of_mem _ wd_513)) (fun _ h9 => h9) rfl (by decide +kernel) rfl rfl (Nat.le_of_ble_eq_true rfl) d_Mod_follow_123 (fun H locs hP hz1 hS => ?_)
                have hz : H.size = sz := hz1.trans hz
                obtain ⟨w13, hw13⟩ : ∃ z : mm_M, z = mm_up w11 (b + 14) (.inr (9, [.int (nI (N 0 0)), .ref (b + 15), .ref (b + 16), .ref (b + 17), .ref (b + 18), .ref (b + 19), .ref (b + 20), .ref (b + 21), .ref (b + 22), .ref (b + 23), .ref (b + 24), .ref (b + 25), .ref (b + 26), .ref (b + 27), .ref (b + 28), .ref (b + 29), .int (nI (N 16 0)), .int (nI (N 17 0)), .int (nI (N 18 0)), .ref (b + 30), .int (nI (N 20 0 &&& N 10 j)), .int (if S 21 0 < S 11 j then S 11 j else S 21 0), .int (if S 12 j < S 22 0 then S 12 j else S 22 0), .int (S 23 0), .int (S 24 0), .int (nI (N 25 0)), .int (nI ((N 13) j))])) := ⟨_, rfl⟩
                have hP : mm_P B D kc w13 H := by rw [hw13]; exact hP
                have fr13 : ∀ j, j ≠ b + 14 → w13 j = w11 j := fun j h9 => by rw [hw13]; exact mm_un h9
                have fa13 : w13 (b + 14) = some (.inr (9, [.int (nI (N 0 0)), .ref (b + 15), .ref (b + 16), .ref (b + 17), .ref (b + 18), .ref (b + 19), .ref (b + 20), .ref (b + 21), .ref (b + 22), .ref (b + 23), .ref (b + 24), .ref (b + 25), .ref (b + 26), .ref (b + 27), .ref (b + 28), .ref (b + 29), .int (nI (N 16 0)), .int (nI (N 17 0)), .int (nI (N 18 0)), .ref (b + 30), .int (nI (N 20 0 &&& N 10 j)), .int (if S 21 0 < S 11 j then S 11 j else S 21 0), .int (if S 12 j < S 22 0 then S 12 j else S 22 0), .int (S 23 0), .int (S 24 0), .int (nI (N 25 0)), .int (nI ((N 13) j))])) := by rw [hw13]; exact mm_us _ _ _
                refine lv_aload_n hx hb d_Mod_follow_126 rfl (lv_at hl 0 rfl) ?_
                refine lv_aload_n hx hb d_Mod_follow_127 rfl (lv_at hl 0 rfl) ?_
                refine mm_get (D := D) (C := n_Mod) (T := T_Mod) (N := 27) (v := .ref (b + 21)) hx hb hts lay_Mod hown hK.1 hP fa13 rfl 7 (by decide) (hts _ (List.mem_cons_of_mem _ wd_498)) (fun _ h9 => h9) rfl d_Mod_follow_128 ?_
                refine lv_iconst (v := nI 3) hx hb d_Mod_follow_131 (by decide) ?_
                refine lv_iload_n hx hb d_Mod_follow_132 rfl (lv_at hl 1 rfl) ?_
                refine lv_imul hx hb d_Mod_follow_133 ?_
                refine kk_top (pk_mul _ _) ?_
                have f14 := (fr13 _ (by omega)).trans ((fr11 _ (by omega)).trans ((fr9 _ (by omega)).trans ((fr7 _ (by omega)).trans (m7))))
                refine mm_iald hx hb hK.1 hP 0 f14 rfl (3 * j) rfl (by omega) (by decide) d_Mod_follow_134 ?_
                refine W.eq (g2 := F0 m 135 ls [.int (nI ((N 7) (3 * j))), .ref (b + 14)]) rfl ?_
                refine kk_top (y := nI (N 7 (3 * j))) (rfl) ?_
                refine kk_callv (va_runV (As := [.int (nI (N 7 (3 * j)))]) (rest := []) ⟨hx, hb, hml, hown, hts⟩ (c_Mod_place l (b := b) (N := (f0_N N j)) (S := (f0_S S j)) (mo_mk fa13 ((fr13 _ (by omega)).trans ((fr11 _ (by omega)).trans ((fr9 _ (by omega)).trans ((fr7 _ (by omega)).trans (m1))))) ((fr13 _ (by omega)).trans ((fr11 _ (by omega)).trans ((fr9 _ (by omega)).trans ((fr7 _ (by omega)).trans (m2))))) ((fr13 _ (by omega)).trans ((fr11 _ (by omega)).trans ((fr9 _ (by omega)).trans ((fr7 _ (by omega)).trans (m3))))) ((fr13 _ (by omega)).trans ((fr11 _ (by omega)).trans ((fr9 _ (by omega)).trans ((fr7 _ (by omega)).trans (m4))))) ((fr13 _ (by omega)).trans ((fr11 _ (by omega)).trans ((fr9 _ (by omega)).trans ((fr7 _ (by omega)).trans (m5))))) ((fr13 _ (by omega)).trans ((fr11 _ (by omega)).trans ((fr9 _ (by omega)).trans ((fr7 _ (by omega)).trans (m6))))) f14 ((fr13 _ (by omega)).trans ((fr11 _ (by omega)).trans ((fr9 _ (by omega)).trans ((fr7 _ (by omega)).trans (m8))))) ((fr13 _ (by omega)).trans ((fr11 _ (by omega)).trans ((fr9 _ (by omega)).trans ((fr7 _ (by omega)).trans (m9))))) ((fr13 _ (by omega)).trans ((fr11 _ (by omega)).trans ((fr9 _ (by omega)).trans (f8)))) ((fr13 _ (by omega)).trans ((fr11 _ (by omega)).trans ((fr9 _ (by omega)).trans ((fr7 _ (by omega)).trans (m11))))) ((fr13 _ (by omega)).trans ((fr11 _ (by omega)).trans ((fr9 _ (by omega)).trans ((fr7 _ (by omega)).trans (m12))))) ((fr13 _ (by omega)).trans ((fr11 _ (by omega)).trans ((fr9 _ (by omega)).trans ((fr7 _ (by omega)).trans (m13))))) ((fr13 _ (by omega)).trans ((fr11 _ (by omega)).trans ((fr9 _ (by omega)).trans ((fr7 _ (by omega)).trans (m14))))) ((fr13 _ (by omega)).trans ((fr11 _ (by omega)).trans ((fr9 _ (by omega)).trans ((fr7 _ (by omega)).trans (m15))))) ((fr13 _ (by omega)).trans ((fr11 _ (by omega)).trans ((fr9 _ (by omega)).trans ((fr7 _ (by omega)).trans (m16)))))) (by omega) (show N 18 0 ≤ 4 by omega) (show N 18 0 + ch_a (N 7 (3 * j)) ≤ 5 by omega)) (cwV 1 hts (gW_in (hd := [_, _, _, _, _]) (kk_5 wd_687 wd_689 sl_Mod_place wd_8 cw_Mod_place)) rfl rfl rfl ⟨rfl, ds_Mod_place⟩ ⟨Nat.le_of_ble_eq_true rfl, Nat.le_of_ble_eq_true rfl⟩) (kk_preV hK hP hz hBz fa13 rfl) rfl rfl hl.1 rfl (lv_room (Nat.le_of_ble_eq_true rfl)) d_Mod_follow_135 ⟨Nat.le_of_ble_eq_true rfl, Nat.le_of_ble_eq_true rfl⟩) hS (fun w15 sz15 H locs hp15 hP hz hS => ?_)
                obtain ⟨hM15, hf15, hs15⟩ := hp15
                have hz : H.size = sz := hz.trans hs15
                have m15_0 : w15 (b + 14) = some (.inr (9, [.int (nI ((pl_N (f0_N N j) (N 7 (3 * j))) 0 0)), .ref (b + 15), .ref (b + 16), .ref (b + 17), .ref (b + 18), .ref (b + 19), .ref (b + 20), .ref (b + 21), .ref (b + 22), .ref (b + 23), .ref (b + 24), .ref (b + 25), .ref (b + 26), .ref (b + 27), .ref (b + 28), .ref (b + 29), .int (nI ((pl_N (f0_N N j) (N 7 (3 * j))) 16 0)), .int (nI ((pl_N (f0_N N j) (N 7 (3 * j))) 17 0)), .int (nI ((pl_N (f0_N N j) (N 7 (3 * j))) 18 0)), .ref (b + 30), .int (nI ((pl_N (f0_N N j) (N 7 (3 * j))) 20 0)), .int ((f0_S S j) 21 0), .int ((f0_S S j) 22 0), .int ((f0_S S j) 23 0), .int ((f0_S S j) 24 0), .int (nI ((pl_N (f0_N N j) (N 7 (3 * j))) 25 0)), .int (nI ((pl_N (f0_N N j) (N 7 (3 * j))) 26 0))])) := hM15.1
                have m15_1 : w15 (b + 15) = some (.inl (cZ, 24, .inl (fun i => nI (((pl_N (f0_N N j) (N 7 (3 * j))) 1) i)))) := hM15.2 1 (by decide) (by decide)
                have m15_2 : w15 (b + 16) = some (.inl (cZ, 24, .inl (fun i => nI (((pl_N (f0_N N j) (N 7 (3 * j))) 2) i)))) := hM15.2 2 (by decide) (by decide)
                have m15_3 : w15 (b + 17) = some (.inl (cI, 24, .inl (fun i => nI (((pl_N (f0_N N j) (N 7 (3 * j))) 3) i)))) := hM15.2 3 (by decide) (by decide)
                have m15_4 : w15 (b + 18) = some (.inl (cI, 24, .inl (fun i => nI (((pl_N (f0_N N j) (N 7 (3 * j))) 4) i)))) := hM15.2 4 (by decide) (by decide)
                have m15_5 : w15 (b + 19) = some (.inl (cI, 24, .inl ((f0_S S j) 5))) := hM15.2 5 (by decide) (by decide)
                have m15_6 : w15 (b + 20) = some (.inl (cI, 24, .inl ((f0_S S j) 6))) := hM15.2 6 (by decide) (by decide)
                have m15_7 : w15 (b + 21) = some (.inl (cI, 72, .inl (fun i => nI (((pl_N (f0_N N j) (N 7 (3 * j))) 7) i)))) := hM15.2 7 (by decide) (by decide)
                have m15_8 : w15 (b + 22) = some (.inl (cI, 24, .inl (fun i => nI (((pl_N (f0_N N j) (N 7 (3 * j))) 8) i)))) := hM15.2 8 (by decide) (by decide)
                have m15_9 : w15 (b + 23) = some (.inl (cI, 24, .inl (fun i => nI (((pl_N (f0_N N j) (N 7 (3 * j))) 9) i)))) := hM15.2 9 (by decide) (by decide)
                have m15_10 : w15 (b + 24) = some (.inl (cI, 24, .inl (fun i => nI (((pl_N (f0_N N j) (N 7 (3 * j))) 10) i)))) := hM15.2 10 (by decide) (by decide)
                have m15_11 : w15 (b + 25) = some (.inl (cI, 24, .inl ((f0_S S j) 11))) := hM15.2 11 (by decide) (by decide)
                have m15_12 : w15 (b + 26) = some (.inl (cI, 24, .inl ((f0_S S j) 12))) := hM15.2 12 (by decide) (by decide)
                have m15_13 : w15 (b + 27) = some (.inl (cZ, 24, .inl (fun i => nI (((pl_N (f0_N N j) (N 7 (3 * j))) 13) i)))) := hM15.2 13 (by decide) (by decide)
                have m15_14 : w15 (b + 28) = some (.inl (cI, 256, .inl (fun i => nI (((pl_N (f0_N N j) (N 7 (3 * j))) 14) i)))) := hM15.2 14 (by decide) (by decide)
                have m15_15 : w15 (b + 29) = some (.inl (cI, 24, .inl (fun i => nI (((pl_N (f0_N N j) (N 7 (3 * j))) 15) i)))) := hM15.2 15 (by decide) (by decide)
                have m15_16 : w15 (b + 30) = some (.inl (cI, 5, .inl (fun i => nI (((pl_N (f0_N N j) (N 7 (3 * j))) 19) i)))) := hM15.2 16 (by decide) (by decide)
                refine lv_aload_n hx hb d_Mod_follow_138 rfl (lv_at hl 0 rfl) ?_
                have jn16 : W p l e (headSpec ws_Mod_follow (kk_rm 3 0 0)).room s m ([.ref (b + 14), .int (nI j)]).toArray below meth c H locs 0 0 (MQ below (kk_Qi B D (fun r w' sz' => r = nI (if fo_ok N (nI j) then 1 else 0) ∧ mo_I b cI cZ (fo_N N (nI j)) (fo_S N S (nI j)) w' ∧ (∀ j, ¬ (b + 14 ≤ j ∧ j < b + 31) → w' j = w j) ∧ sz' = sz)) ([.ref (b + 14), .int (nI j)]).toArray s 0 0 (fun q => B ≤ q)) (F0 m 165 ls [.int (if (f0_S S j) 23 0 < (f0_S S j) 5 j then (f0_S S j) 5 j else (f0_S S j) 23 0), .ref (b + 14)]) := by
                  refine mm_put (D := D) (C := n_Mod) (T := T_Mod) (N := 27) (v := .int (if (f0_S S j) 23 0 < (f0_S S j) 5 j then (f0_S S j) 5 j else (f0_S S j) 23 0)) (ty := .int) hx hb hts lay_Mod t_Mod ty_Mod nm_Mod hown hK.1 hP hS m15_0 rfl 23 (by decide) (hts _ (List.mem_cons_of_mem _ wd_514)) (fun _ h9 => h9) rfl (by decide +kernel) rfl rfl (Nat.le_of_ble_eq_true rfl) d_Mod_follow_165 (fun H locs hP hz1 hS => ?_)
                  have hz : H.size = sz := hz1.trans hz
                  obtain ⟨w17, hw17⟩ : ∃ z : mm_M, z = mm_up w15 (b + 14) (.inr (9, [.int (nI ((pl_N (f0_N N j) (N 7 (3 * j))) 0 0)), .ref (b + 15), .ref (b + 16), .ref (b + 17), .ref (b + 18), .ref (b + 19), .ref (b + 20), .ref (b + 21), .ref (b + 22), .ref (b + 23), .ref (b + 24), .ref (b + 25), .ref (b + 26), .ref (b + 27), .ref (b + 28), .ref (b + 29), .int (nI ((pl_N (f0_N N j) (N 7 (3 * j))) 16 0)), .int (nI ((pl_N (f0_N N j) (N 7 (3 * j))) 17 0)), .int (nI ((pl_N (f0_N N j) (N 7 (3 * j))) 18 0)), .ref (b + 30), .int (nI ((pl_N (f0_N N j) (N 7 (3 * j))) 20 0)), .int ((f0_S S j) 21 0), .int ((f0_S S j) 22 0), .int (if (f0_S S j) 23 0 < (f0_S S j) 5 j then (f0_S S j) 5 j else (f0_S S j) 23 0), .int ((f0_S S j) 24 0), .int (nI ((pl_N (f0_N N j) (N 7 (3 * j))) 25 0)), .int (nI ((pl_N (f0_N N j) (N 7 (3 * j))) 26 0))])) := ⟨_, rfl⟩
                  have hP : mm_P B D kc w17 H := by rw [hw17]; exact hP
                  have fr17 : ∀ j, j ≠ b + 14 → w17 j = w15 j := fun j h9 => by rw [hw17]; exact mm_un h9
                  have fa17 : w17 (b + 14) = some (.inr (9, [.int (nI ((pl_N (f0_N N j) (N 7 (3 * j))) 0 0)), .ref (b + 15), .ref (b + 16), .ref (b + 17), .ref (b + 18), .ref (b + 19), .ref (b + 20), .ref (b + 21), .ref (b + 22), .ref (b + 23), .ref (b + 24), .ref (b + 25), .ref (b + 26), .ref (b + 27), .ref (b + 28), .ref (b + 29), .int (nI ((pl_N (f0_N N j) (N 7 (3 * j))) 16 0)), .int (nI ((pl_N (f0_N N j) (N 7 (3 * j))) 17 0)), .int (nI ((pl_N (f0_N N j) (N 7 (3 * j))) 18 0)), .ref (b + 30), .int (nI ((pl_N (f0_N N j) (N 7 (3 * j))) 20 0)), .int ((f0_S S j) 21 0), .int ((f0_S S j) 22 0), .int (if (f0_S S j) 23 0 < (f0_S S j) 5 j then (f0_S S j) 5 j else (f0_S S j) 23 0), .int ((f0_S S j) 24 0), .int (nI ((pl_N (f0_N N j) (N 7 (3 * j))) 25 0)), .int (nI ((pl_N (f0_N N j) (N 7 (3 * j))) 26 0))])) := by rw [hw17]; exact mm_us _ _ _
                  refine lv_aload_n hx hb d_Mod_follow_168 rfl (lv_at hl 0 rfl) ?_
                  have jn18 : W p l e (headSpec ws_Mod_follow (kk_rm 3 0 0)).room s m ([.ref (b + 14), .int (nI j)]).toArray below meth c H locs 0 0 (MQ below (kk_Qi B D (fun r w' sz' => r = nI (if fo_ok N (nI j) then 1 else 0) ∧ mo_I b cI cZ (fo_N N (nI j)) (fo_S N S (nI j)) w' ∧ (∀ j, ¬ (b + 14 ≤ j ∧ j < b + 31) → w' j = w j) ∧ sz' = sz)) ([.ref (b + 14), .int (nI j)]).toArray s 0 0 (fun q => B ≤ q)) (F0 m 195 ls [.int (if (f0_S S j) 6 j < (f0_S S j) 24 0 then (f0_S S j) 6 j else (f0_S S j) 24 0), .ref (b + 14)]) := by
                    refine mm_put (D := D) (C := n_Mod) (T := T_Mod) (N := 27) (v := .int (if (f0_S S j) 6 j < (f0_S S j) 24 0 then (f0_S S j) 6 j else (f0_S S j) 24 0)) (ty := .int) hx hb hts lay_Mod t_Mod ty_Mod nm_Mod hown hK.1 hP hS fa17 rfl 24 (by decide) (hts _ (List.mem_cons_of_mem _ wd_515)) (fun _ h9 => h9) rfl (by decide +kernel) rfl rfl (Nat.le_of_ble_eq_true rfl) d_Mod_follow_195 (fun H locs hP hz1 hS => ?_)
                    have hz : H.size = sz := hz1.trans hz
                    obtain ⟨w19, hw19⟩ : ∃ z : mm_M, z = mm_up w17 (b + 14) (.inr (9, [.int (nI ((pl_N (f0_N N j) (N 7 (3 * j))) 0 0)), .ref (b + 15), .ref (b + 16), .ref (b + 17), .ref (b + 18), .ref (b + 19), .ref (b + 20), .ref (b + 21), .ref (b + 22), .ref (b + 23), .ref (b + 24), .ref (b + 25), .ref (b + 26), .ref (b + 27), .ref (b + 28), .ref (b + 29), .int (nI ((pl_N (f0_N N j) (N 7 (3 * j))) 16 0)), .int (nI ((pl_N (f0_N N j) (N 7 (3 * j))) 17 0)), .int (nI ((pl_N (f0_N N j) (N 7 (3 * j))) 18 0)), .ref (b + 30), .int (nI ((pl_N (f0_N N j) (N 7 (3 * j))) 20 0)), .int ((f0_S S j) 21 0), .int ((f0_S S j) 22 0), .int (if (f0_S S j) 23 0 < (f0_S S j) 5 j then (f0_S S j) 5 j else (f0_S S j) 23 0), .int (if (f0_S S j) 6 j < (f0_S S j) 24 0 then (f0_S S j) 6 j else (f0_S S j) 24 0), .int (nI ((pl_N (f0_N N j) (N 7 (3 * j))) 25 0)), .int (nI ((pl_N (f0_N N j) (N 7 (3 * j))) 26 0))])) := ⟨_, rfl⟩
                    have hP : mm_P B D kc w19 H := by rw [hw19]; exact hP
                    have fr19 : ∀ j, j ≠ b + 14 → w19 j = w17 j := fun j h9 => by rw [hw19]; exact mm_un h9
                    have fa19 : w19 (b + 14) = some (.inr (9, [.int (nI ((pl_N (f0_N N j) (N 7 (3 * j))) 0 0)), .ref (b + 15), .ref (b + 16), .ref (b + 17), .ref (b + 18), .ref (b + 19), .ref (b + 20), .ref (b + 21), .ref (b + 22), .ref (b + 23), .ref (b + 24), .ref (b + 25), .ref (b + 26), .ref (b + 27), .ref (b + 28), .ref (b + 29), .int (nI ((pl_N (f0_N N j) (N 7 (3 * j))) 16 0)), .int (nI ((pl_N (f0_N N j) (N 7 (3 * j))) 17 0)), .int (nI ((pl_N (f0_N N j) (N 7 (3 * j))) 18 0)), .ref (b + 30), .int (nI ((pl_N (f0_N N j) (N 7 (3 * j))) 20 0)), .int ((f0_S S j) 21 0), .int ((f0_S S j) 22 0), .int (if (f0_S S j) 23 0 < (f0_S S j) 5 j then (f0_S S j) 5 j else (f0_S S j) 23 0), .int (if (f0_S S j) 6 j < (f0_S S j) 24 0 then (f0_S S j) 6 j else (f0_S S j) 24 0), .int (nI ((pl_N (f0_N N j) (N 7 (3 * j))) 25 0)), .int (nI ((pl_N (f0_N N j) (N 7 (3 * j))) 26 0))])) := by rw [hw19]; exact mm_us _ _ _
                    refine lv_aload_n hx hb d_Mod_follow_198 rfl (lv_at hl 0 rfl) ?_
                    refine lv_dup hx hb d_Mod_follow_199 rfl ?_
                    refine mm_get (D := D) (C := n_Mod) (T := T_Mod) (N := 27) (v := .int (nI ((pl_N (f0_N N j) (N 7 (3 * j))) 25 0))) hx hb hts lay_Mod hown hK.1 hP fa19 rfl 25 (by decide) (hts _ (List.mem_cons_of_mem _ wd_516)) (fun _ h9 => h9) rfl d_Mod_follow_200 ?_
                    refine lv_iconst (v := nI 1) hx hb d_Mod_follow_203 (by decide) ?_
                    refine lv_iadd hx hb d_Mod_follow_204 ?_
                    refine kk_top (nI_add _ _) ?_
                    refine mm_put (D := D) (C := n_Mod) (T := T_Mod) (N := 27) (v := .int (nI (((pl_N (f0_N N j) (N 7 (3 * j))) 25 0) + 1))) (ty := .int) hx hb hts lay_Mod t_Mod ty_Mod nm_Mod hown hK.1 hP hS fa19 rfl 25 (by decide) (hts _ (List.mem_cons_of_mem _ wd_516)) (fun _ h9 => h9) rfl (by decide +kernel) rfl rfl (Nat.le_of_ble_eq_true rfl) d_Mod_follow_205 (fun H locs hP hz1 hS => ?_)
                    have hz : H.size = sz := hz1.trans hz
                    obtain ⟨w20, hw20⟩ : ∃ z : mm_M, z = mm_up w19 (b + 14) (.inr (9, [.int (nI ((pl_N (f0_N N j) (N 7 (3 * j))) 0 0)), .ref (b + 15), .ref (b + 16), .ref (b + 17), .ref (b + 18), .ref (b + 19), .ref (b + 20), .ref (b + 21), .ref (b + 22), .ref (b + 23), .ref (b + 24), .ref (b + 25), .ref (b + 26), .ref (b + 27), .ref (b + 28), .ref (b + 29), .int (nI ((pl_N (f0_N N j) (N 7 (3 * j))) 16 0)), .int (nI ((pl_N (f0_N N j) (N 7 (3 * j))) 17 0)), .int (nI ((pl_N (f0_N N j) (N 7 (3 * j))) 18 0)), .ref (b + 30), .int (nI ((pl_N (f0_N N j) (N 7 (3 * j))) 20 0)), .int ((f0_S S j) 21 0), .int ((f0_S S j) 22 0), .int (if (f0_S S j) 23 0 < (f0_S S j) 5 j then (f0_S S j) 5 j else (f0_S S j) 23 0), .int (if (f0_S S j) 6 j < (f0_S S j) 24 0 then (f0_S S j) 6 j else (f0_S S j) 24 0), .int (nI (((pl_N (f0_N N j) (N 7 (3 * j))) 25 0) + 1)), .int (nI ((pl_N (f0_N N j) (N 7 (3 * j))) 26 0))])) := ⟨_, rfl⟩
                    have hP : mm_P B D kc w20 H := by rw [hw20]; exact hP
                    have fr20 : ∀ j, j ≠ b + 14 → w20 j = w19 j := fun j h9 => by rw [hw20]; exact mm_un h9
                    have fa20 : w20 (b + 14) = some (.inr (9, [.int (nI ((pl_N (f0_N N j) (N 7 (3 * j))) 0 0)), .ref (b + 15), .ref (b + 16), .ref (b + 17), .ref (b + 18), .ref (b + 19), .ref (b + 20), .ref (b + 21), .ref (b + 22), .ref (b + 23), .ref (b + 24), .ref (b + 25), .ref (b + 26), .ref (b + 27), .ref (b + 28), .ref (b + 29), .int (nI ((pl_N (f0_N N j) (N 7 (3 * j))) 16 0)), .int (nI ((pl_N (f0_N N j) (N 7 (3 * j))) 17 0)), .int (nI ((pl_N (f0_N N j) (N 7 (3 * j))) 18 0)), .ref (b + 30), .int (nI ((pl_N (f0_N N j) (N 7 (3 * j))) 20 0)), .int ((f0_S S j) 21 0), .int ((f0_S S j) 22 0), .int (if (f0_S S j) 23 0 < (f0_S S j) 5 j then (f0_S S j) 5 j else (f0_S S j) 23 0), .int (if (f0_S S j) 6 j < (f0_S S j) 24 0 then (f0_S S j) 6 j else (f0_S S j) 24 0), .int (nI (((pl_N (f0_N N j) (N 7 (3 * j))) 25 0) + 1)), .int (nI ((pl_N (f0_N N j) (N 7 (3 * j))) 26 0))])) := by rw [hw20]; exact mm_us _ _ _
                    refine lv_iconst (v := nI 1) hx hb d_Mod_follow_208 (by decide) ?_
                    exact W.zret hx hb hr rfl (fun t ht hW => ⟨⟨_, (w20, sz), rfl, ⟨kk_ift hok, (by rw [fo_N_prm (by omega) hok cc6, fo_S_prm (by omega) hok cc6]; exact mo_mk fa20 ((fr20 _ (by omega)).trans ((fr19 _ (by omega)).trans ((fr17 _ (by omega)).trans (m15_1)))) ((fr20 _ (by omega)).trans ((fr19 _ (by omega)).trans ((fr17 _ (by omega)).trans (m15_2)))) ((fr20 _ (by omega)).trans ((fr19 _ (by omega)).trans ((fr17 _ (by omega)).trans (m15_3)))) ((fr20 _ (by omega)).trans ((fr19 _ (by omega)).trans ((fr17 _ (by omega)).trans (m15_4)))) ((fr20 _ (by omega)).trans ((fr19 _ (by omega)).trans ((fr17 _ (by omega)).trans (m15_5)))) ((fr20 _ (by omega)).trans ((fr19 _ (by omega)).trans ((fr17 _ (by omega)).trans (m15_6)))) ((fr20 _ (by omega)).trans ((fr19 _ (by omega)).trans ((fr17 _ (by omega)).trans (m15_7)))) ((fr20 _ (by omega)).trans ((fr19 _ (by omega)).trans ((fr17 _ (by omega)).trans (m15_8)))) ((fr20 _ (by omega)).trans ((fr19 _ (by omega)).trans ((fr17 _ (by omega)).trans (m15_9)))) ((fr20 _ (by omega)).trans ((fr19 _ (by omega)).trans ((fr17 _ (by omega)).trans (m15_10)))) ((fr20 _ (by omega)).trans ((fr19 _ (by omega)).trans ((fr17 _ (by omega)).trans (m15_11)))) ((fr20 _ (by omega)).trans ((fr19 _ (by omega)).trans ((fr17 _ (by omega)).trans (m15_12)))) ((fr20 _ (by omega)).trans ((fr19 _ (by omega)).trans ((fr17 _ (by omega)).trans (m15_13)))) ((fr20 _ (by omega)).trans ((fr19 _ (by omega)).trans ((fr17 _ (by omega)).trans (m15_14)))) ((fr20 _ (by omega)).trans ((fr19 _ (by omega)).trans ((fr17 _ (by omega)).trans (m15_15)))) ((fr20 _ (by omega)).trans ((fr19 _ (by omega)).trans ((fr17 _ (by omega)).trans (m15_16))))), (fun j hj => (fr20 j (by omega)).trans ((fr19 j (by omega)).trans ((fr17 j (by omega)).trans ((hf15 j hj).trans ((fr13 j (by omega)).trans ((fr11 j (by omega)).trans ((fr9 j (by omega)).trans (fr7 j (by omega))))))))), rfl⟩, by rw [ht]; exact hP, by rw [ht]; exact hz⟩, hS.F ht⟩) hS.2.2 d_Mod_follow_209
                  refine lv_aload_n hx hb d_Mod_follow_169 rfl (lv_at hl 0 rfl) ?_
                  refine mm_get (D := D) (C := n_Mod) (T := T_Mod) (N := 27) (v := .ref (b + 20)) hx hb hts lay_Mod hown hK.1 hP fa17 rfl 6 (by decide) (hts _ (List.mem_cons_of_mem _ wd_497)) (fun _ h9 => h9) rfl d_Mod_follow_170 ?_
                  refine lv_iload_n hx hb d_Mod_follow_173 rfl (lv_at hl 1 rfl) ?_
                  have f21 := (fr17 _ (by omega)).trans (m15_6)
                  refine mm_iald hx hb hK.1 hP 0 f21 rfl j rfl (by omega) (by decide) d_Mod_follow_174 ?_
                  refine lv_aload_n hx hb d_Mod_follow_175 rfl (lv_at hl 0 rfl) ?_
                  refine mm_get (D := D) (C := n_Mod) (T := T_Mod) (N := 27) (v := .int ((f0_S S j) 24 0)) hx hb hts lay_Mod hown hK.1 hP fa17 rfl 24 (by decide) (hts _ (List.mem_cons_of_mem _ wd_515)) (fun _ h9 => h9) rfl d_Mod_follow_176 ?_
                  refine lv_icmp_ge (tgt := 191) hx hb d_Mod_follow_179 (by decide) (fun cc22 => ?_) (fun cc22 => ?_)
                  · refine lv_aload_n hx hb d_Mod_follow_191 rfl (lv_at hl 0 rfl) ?_
                    refine mm_get (D := D) (C := n_Mod) (T := T_Mod) (N := 27) (v := .int ((f0_S S j) 24 0)) hx hb hts lay_Mod hown hK.1 hP fa17 rfl 24 (by decide) (hts _ (List.mem_cons_of_mem _ wd_515)) (fun _ h9 => h9) rfl d_Mod_follow_192 ?_
                    refine kk_top (y := if (f0_S S j) 6 j < (f0_S S j) 24 0 then (f0_S S j) 6 j else (f0_S S j) 24 0) ((if_neg (Int32.not_lt.mpr cc22)).symm) ?_
                    exact jn18
                  · refine lv_aload_n hx hb d_Mod_follow_182 rfl (lv_at hl 0 rfl) ?_
                    refine mm_get (D := D) (C := n_Mod) (T := T_Mod) (N := 27) (v := .ref (b + 20)) hx hb hts lay_Mod hown hK.1 hP fa17 rfl 6 (by decide) (hts _ (List.mem_cons_of_mem _ wd_497)) (fun _ h9 => h9) rfl d_Mod_follow_183 ?_
                    refine lv_iload_n hx hb d_Mod_follow_186 rfl (lv_at hl 1 rfl) ?_
                    refine mm_iald hx hb hK.1 hP 0 f21 rfl j rfl (by omega) (by decide) d_Mod_follow_187 ?_
                    refine lv_goto (tgt := 195) hx hb d_Mod_follow_188 (by decide) ?_
                    refine kk_top (y := if (f0_S S j) 6 j < (f0_S S j) 24 0 then (f0_S S j) 6 j else (f0_S S j) 24 0) ((if_pos (Int32.not_le.mp cc22)).symm) ?_
                    exact jn18
                refine lv_aload_n hx hb d_Mod_follow_139 rfl (lv_at hl 0 rfl) ?_
                refine mm_get (D := D) (C := n_Mod) (T := T_Mod) (N := 27) (v := .ref (b + 19)) hx hb hts lay_Mod hown hK.1 hP m15_0 rfl 5 (by decide) (hts _ (List.mem_cons_of_mem _ wd_496)) (fun _ h9 => h9) rfl d_Mod_follow_140 ?_
                refine lv_iload_n hx hb d_Mod_follow_143 rfl (lv_at hl 1 rfl) ?_
                refine mm_iald hx hb hK.1 hP 0 m15_5 rfl j rfl (by omega) (by decide) d_Mod_follow_144 ?_
                refine lv_aload_n hx hb d_Mod_follow_145 rfl (lv_at hl 0 rfl) ?_
                refine mm_get (D := D) (C := n_Mod) (T := T_Mod) (N := 27) (v := .int ((f0_S S j) 23 0)) hx hb hts lay_Mod hown hK.1 hP m15_0 rfl 23 (by decide) (hts _ (List.mem_cons_of_mem _ wd_514)) (fun _ h9 => h9) rfl d_Mod_follow_146 ?_
                refine lv_icmp_le (tgt := 161) hx hb d_Mod_follow_149 (by decide) (fun cc23 => ?_) (fun cc23 => ?_)
                · refine lv_aload_n hx hb d_Mod_follow_161 rfl (lv_at hl 0 rfl) ?_
                  refine mm_get (D := D) (C := n_Mod) (T := T_Mod) (N := 27) (v := .int ((f0_S S j) 23 0)) hx hb hts lay_Mod hown hK.1 hP m15_0 rfl 23 (by decide) (hts _ (List.mem_cons_of_mem _ wd_514)) (fun _ h9 => h9) rfl d_Mod_follow_162 ?_
                  refine kk_top (y := if (f0_S S j) 23 0 < (f0_S S j) 5 j then (f0_S S j) 5 j else (f0_S S j) 23 0) ((if_neg (Int32.not_lt.mpr cc23)).symm) ?_
                  exact jn16
                · refine lv_aload_n hx hb d_Mod_follow_152 rfl (lv_at hl 0 rfl) ?_
                  refine mm_get (D := D) (C := n_Mod) (T := T_Mod) (N := 27) (v := .ref (b + 19)) hx hb hts lay_Mod hown hK.1 hP m15_0 rfl 5 (by decide) (hts _ (List.mem_cons_of_mem _ wd_496)) (fun _ h9 => h9) rfl d_Mod_follow_153 ?_
                  refine lv_iload_n hx hb d_Mod_follow_156 rfl (lv_at hl 1 rfl) ?_
                  refine mm_iald hx hb hK.1 hP 0 m15_5 rfl j rfl (by omega) (by decide) d_Mod_follow_157 ?_
                  refine lv_goto (tgt := 165) hx hb d_Mod_follow_158 (by decide) ?_
                  refine kk_top (y := if (f0_S S j) 23 0 < (f0_S S j) 5 j then (f0_S S j) 5 j else (f0_S S j) 23 0) ((if_pos (Int32.not_le.mp cc23)).symm) ?_
                  exact jn16
              refine lv_aload_n hx hb d_Mod_follow_97 rfl (lv_at hl 0 rfl) ?_
              refine mm_get (D := D) (C := n_Mod) (T := T_Mod) (N := 27) (v := .ref (b + 26)) hx hb hts lay_Mod hown hK.1 hP fa11 rfl 12 (by decide) (hts _ (List.mem_cons_of_mem _ wd_503)) (fun _ h9 => h9) rfl d_Mod_follow_98 ?_
              refine lv_iload_n hx hb d_Mod_follow_101 rfl (lv_at hl 1 rfl) ?_
              have f24 := (fr11 _ (by omega)).trans ((fr9 _ (by omega)).trans ((fr7 _ (by omega)).trans (m12)))
              refine mm_iald hx hb hK.1 hP 0 f24 rfl j rfl (by omega) (by decide) d_Mod_follow_102 ?_
              refine lv_aload_n hx hb d_Mod_follow_103 rfl (lv_at hl 0 rfl) ?_
              refine mm_get (D := D) (C := n_Mod) (T := T_Mod) (N := 27) (v := .int (S 22 0)) hx hb hts lay_Mod hown hK.1 hP fa11 rfl 22 (by decide) (hts _ (List.mem_cons_of_mem _ wd_513)) (fun _ h9 => h9) rfl d_Mod_follow_104 ?_
              refine lv_icmp_ge (tgt := 119) hx hb d_Mod_follow_107 (by decide) (fun cc25 => ?_) (fun cc25 => ?_)
              · refine lv_aload_n hx hb d_Mod_follow_119 rfl (lv_at hl 0 rfl) ?_
                refine mm_get (D := D) (C := n_Mod) (T := T_Mod) (N := 27) (v := .int (S 22 0)) hx hb hts lay_Mod hown hK.1 hP fa11 rfl 22 (by decide) (hts _ (List.mem_cons_of_mem _ wd_513)) (fun _ h9 => h9) rfl d_Mod_follow_120 ?_
                refine kk_top (y := if S 12 j < S 22 0 then S 12 j else S 22 0) ((if_neg (Int32.not_lt.mpr cc25)).symm) ?_
                exact jn12
              · refine lv_aload_n hx hb d_Mod_follow_110 rfl (lv_at hl 0 rfl) ?_
                refine mm_get (D := D) (C := n_Mod) (T := T_Mod) (N := 27) (v := .ref (b + 26)) hx hb hts lay_Mod hown hK.1 hP fa11 rfl 12 (by decide) (hts _ (List.mem_cons_of_mem _ wd_503)) (fun _ h9 => h9) rfl d_Mod_follow_111 ?_
                refine lv_iload_n hx hb d_Mod_follow_114 rfl (lv_at hl 1 rfl) ?_
                refine mm_iald hx hb hK.1 hP 0 f24 rfl j rfl (by omega) (by decide) d_Mod_follow_115 ?_
                refine lv_goto (tgt := 123) hx hb d_Mod_follow_116 (by decide) ?_
                refine kk_top (y := if S 12 j < S 22 0 then S 12 j else S 22 0) ((if_pos (Int32.not_le.mp cc25)).symm) ?_
                exact jn12
            refine lv_aload_n hx hb d_Mod_follow_67 rfl (lv_at hl 0 rfl) ?_
            refine mm_get (D := D) (C := n_Mod) (T := T_Mod) (N := 27) (v := .ref (b + 25)) hx hb hts lay_Mod hown hK.1 hP fa9 rfl 11 (by decide) (hts _ (List.mem_cons_of_mem _ wd_502)) (fun _ h9 => h9) rfl d_Mod_follow_68 ?_
            refine lv_iload_n hx hb d_Mod_follow_71 rfl (lv_at hl 1 rfl) ?_
            have f26 := (fr9 _ (by omega)).trans ((fr7 _ (by omega)).trans (m11))
            refine mm_iald hx hb hK.1 hP 0 f26 rfl j rfl (by omega) (by decide) d_Mod_follow_72 ?_
            refine lv_aload_n hx hb d_Mod_follow_73 rfl (lv_at hl 0 rfl) ?_
            refine mm_get (D := D) (C := n_Mod) (T := T_Mod) (N := 27) (v := .int (S 21 0)) hx hb hts lay_Mod hown hK.1 hP fa9 rfl 21 (by decide) (hts _ (List.mem_cons_of_mem _ wd_512)) (fun _ h9 => h9) rfl d_Mod_follow_74 ?_
            refine lv_icmp_le (tgt := 89) hx hb d_Mod_follow_77 (by decide) (fun cc27 => ?_) (fun cc27 => ?_)
            · refine lv_aload_n hx hb d_Mod_follow_89 rfl (lv_at hl 0 rfl) ?_
              refine mm_get (D := D) (C := n_Mod) (T := T_Mod) (N := 27) (v := .int (S 21 0)) hx hb hts lay_Mod hown hK.1 hP fa9 rfl 21 (by decide) (hts _ (List.mem_cons_of_mem _ wd_512)) (fun _ h9 => h9) rfl d_Mod_follow_90 ?_
              refine kk_top (y := if S 21 0 < S 11 j then S 11 j else S 21 0) ((if_neg (Int32.not_lt.mpr cc27)).symm) ?_
              exact jn10
            · refine lv_aload_n hx hb d_Mod_follow_80 rfl (lv_at hl 0 rfl) ?_
              refine mm_get (D := D) (C := n_Mod) (T := T_Mod) (N := 27) (v := .ref (b + 25)) hx hb hts lay_Mod hown hK.1 hP fa9 rfl 11 (by decide) (hts _ (List.mem_cons_of_mem _ wd_502)) (fun _ h9 => h9) rfl d_Mod_follow_81 ?_
              refine lv_iload_n hx hb d_Mod_follow_84 rfl (lv_at hl 1 rfl) ?_
              refine mm_iald hx hb hK.1 hP 0 f26 rfl j rfl (by omega) (by decide) d_Mod_follow_85 ?_
              refine lv_goto (tgt := 93) hx hb d_Mod_follow_86 (by decide) ?_
              refine kk_top (y := if S 21 0 < S 11 j then S 11 j else S 21 0) ((if_pos (Int32.not_le.mp cc27)).symm) ?_
              exact jn10
          · rw [← nI_0] at cc6
            have cc6 : ¬ ((N 2) j = 0) := fun q => cc6 ((nI_eq (by omega) (by omega)).mpr q)
            refine lv_aload_n hx hb d_Mod_follow_34 rfl (lv_at hl 0 rfl) ?_
            refine kk_callv (va_runV (As := []) (rest := []) ⟨hx, hb, hml, hown, hts⟩ (c_Mod_dropName l (b := b) (N := N) (S := S) hM (by omega) (by omega)) (cwV 0 hts (gW_in (hd := [_, _, _, _, _]) (kk_5 wd_702 wd_704 sl_Mod_dropName wd_8 cw_Mod_dropName)) rfl rfl rfl ⟨rfl, ds_Mod_dropName⟩ ⟨Nat.le_of_ble_eq_true rfl, Nat.le_of_ble_eq_true rfl⟩) (kk_preV hK hP hz hBz m0 rfl) rfl rfl hl.1 rfl (lv_room (Nat.le_of_ble_eq_true rfl)) d_Mod_follow_35 ⟨Nat.le_of_ble_eq_true rfl, Nat.le_of_ble_eq_true rfl⟩) hS (fun w28 sz28 H locs hp28 hP hz hS => ?_)
            obtain ⟨hM28, hf28, hs28⟩ := hp28
            have hz : H.size = sz := hz.trans hs28
            have m28_0 : w28 (b + 14) = some (.inr (9, [.int (nI ((dr_N N) 0 0)), .ref (b + 15), .ref (b + 16), .ref (b + 17), .ref (b + 18), .ref (b + 19), .ref (b + 20), .ref (b + 21), .ref (b + 22), .ref (b + 23), .ref (b + 24), .ref (b + 25), .ref (b + 26), .ref (b + 27), .ref (b + 28), .ref (b + 29), .int (nI ((dr_N N) 16 0)), .int (nI ((dr_N N) 17 0)), .int (nI ((dr_N N) 18 0)), .ref (b + 30), .int (nI ((dr_N N) 20 0)), .int (S 21 0), .int (S 22 0), .int (S 23 0), .int (S 24 0), .int (nI ((dr_N N) 25 0)), .int (nI ((dr_N N) 26 0))])) := hM28.1
            have m28_1 : w28 (b + 15) = some (.inl (cZ, 24, .inl (fun i => nI (((dr_N N) 1) i)))) := hM28.2 1 (by decide) (by decide)
            have m28_2 : w28 (b + 16) = some (.inl (cZ, 24, .inl (fun i => nI (((dr_N N) 2) i)))) := hM28.2 2 (by decide) (by decide)
            have m28_3 : w28 (b + 17) = some (.inl (cI, 24, .inl (fun i => nI (((dr_N N) 3) i)))) := hM28.2 3 (by decide) (by decide)
            have m28_4 : w28 (b + 18) = some (.inl (cI, 24, .inl (fun i => nI (((dr_N N) 4) i)))) := hM28.2 4 (by decide) (by decide)
            have m28_5 : w28 (b + 19) = some (.inl (cI, 24, .inl (S 5))) := hM28.2 5 (by decide) (by decide)
            have m28_6 : w28 (b + 20) = some (.inl (cI, 24, .inl (S 6))) := hM28.2 6 (by decide) (by decide)
            have m28_7 : w28 (b + 21) = some (.inl (cI, 72, .inl (fun i => nI (((dr_N N) 7) i)))) := hM28.2 7 (by decide) (by decide)
            have m28_8 : w28 (b + 22) = some (.inl (cI, 24, .inl (fun i => nI (((dr_N N) 8) i)))) := hM28.2 8 (by decide) (by decide)
            have m28_9 : w28 (b + 23) = some (.inl (cI, 24, .inl (fun i => nI (((dr_N N) 9) i)))) := hM28.2 9 (by decide) (by decide)
            have m28_10 : w28 (b + 24) = some (.inl (cI, 24, .inl (fun i => nI (((dr_N N) 10) i)))) := hM28.2 10 (by decide) (by decide)
            have m28_11 : w28 (b + 25) = some (.inl (cI, 24, .inl (S 11))) := hM28.2 11 (by decide) (by decide)
            have m28_12 : w28 (b + 26) = some (.inl (cI, 24, .inl (S 12))) := hM28.2 12 (by decide) (by decide)
            have m28_13 : w28 (b + 27) = some (.inl (cZ, 24, .inl (fun i => nI (((dr_N N) 13) i)))) := hM28.2 13 (by decide) (by decide)
            have m28_14 : w28 (b + 28) = some (.inl (cI, 256, .inl (fun i => nI (((dr_N N) 14) i)))) := hM28.2 14 (by decide) (by decide)
            have m28_15 : w28 (b + 29) = some (.inl (cI, 24, .inl (fun i => nI (((dr_N N) 15) i)))) := hM28.2 15 (by decide) (by decide)
            have m28_16 : w28 (b + 30) = some (.inl (cI, 5, .inl (fun i => nI (((dr_N N) 19) i)))) := hM28.2 16 (by decide) (by decide)
            refine lv_goto (tgt := 126) hx hb d_Mod_follow_38 (by decide) ?_
            refine lv_aload_n hx hb d_Mod_follow_126 rfl (lv_at hl 0 rfl) ?_
            refine lv_aload_n hx hb d_Mod_follow_127 rfl (lv_at hl 0 rfl) ?_
            refine mm_get (D := D) (C := n_Mod) (T := T_Mod) (N := 27) (v := .ref (b + 21)) hx hb hts lay_Mod hown hK.1 hP m28_0 rfl 7 (by decide) (hts _ (List.mem_cons_of_mem _ wd_498)) (fun _ h9 => h9) rfl d_Mod_follow_128 ?_
            refine lv_iconst (v := nI 3) hx hb d_Mod_follow_131 (by decide) ?_
            refine lv_iload_n hx hb d_Mod_follow_132 rfl (lv_at hl 1 rfl) ?_
            refine lv_imul hx hb d_Mod_follow_133 ?_
            refine kk_top (pk_mul _ _) ?_
            refine mm_iald hx hb hK.1 hP 0 m28_7 rfl (3 * j) rfl (by omega) (by decide) d_Mod_follow_134 ?_
            refine W.eq (g2 := F0 m 135 ls [.int (nI (((dr_N N) 7) (3 * j))), .ref (b + 14)]) rfl ?_
            refine kk_top (y := nI (N 7 (3 * j))) (rfl) ?_
            refine kk_callv (va_runV (As := [.int (nI (N 7 (3 * j)))]) (rest := []) ⟨hx, hb, hml, hown, hts⟩ (c_Mod_place l (b := b) (N := (dr_N N)) (S := S) hM28 (by omega) (show N 18 0 - 1 ≤ 4 by omega) (show N 18 0 - 1 + ch_a (N 7 (3 * j)) ≤ 5 by omega)) (cwV 1 hts (gW_in (hd := [_, _, _, _, _]) (kk_5 wd_687 wd_689 sl_Mod_place wd_8 cw_Mod_place)) rfl rfl rfl ⟨rfl, ds_Mod_place⟩ ⟨Nat.le_of_ble_eq_true rfl, Nat.le_of_ble_eq_true rfl⟩) (kk_preV hK hP hz hBz m28_0 rfl) rfl rfl hl.1 rfl (lv_room (Nat.le_of_ble_eq_true rfl)) d_Mod_follow_135 ⟨Nat.le_of_ble_eq_true rfl, Nat.le_of_ble_eq_true rfl⟩) hS (fun w29 sz29 H locs hp29 hP hz hS => ?_)
            obtain ⟨hM29, hf29, hs29⟩ := hp29
            have hz : H.size = sz := hz.trans hs29
            have m29_0 : w29 (b + 14) = some (.inr (9, [.int (nI ((pl_N (dr_N N) (N 7 (3 * j))) 0 0)), .ref (b + 15), .ref (b + 16), .ref (b + 17), .ref (b + 18), .ref (b + 19), .ref (b + 20), .ref (b + 21), .ref (b + 22), .ref (b + 23), .ref (b + 24), .ref (b + 25), .ref (b + 26), .ref (b + 27), .ref (b + 28), .ref (b + 29), .int (nI ((pl_N (dr_N N) (N 7 (3 * j))) 16 0)), .int (nI ((pl_N (dr_N N) (N 7 (3 * j))) 17 0)), .int (nI ((pl_N (dr_N N) (N 7 (3 * j))) 18 0)), .ref (b + 30), .int (nI ((pl_N (dr_N N) (N 7 (3 * j))) 20 0)), .int (S 21 0), .int (S 22 0), .int (S 23 0), .int (S 24 0), .int (nI ((pl_N (dr_N N) (N 7 (3 * j))) 25 0)), .int (nI ((pl_N (dr_N N) (N 7 (3 * j))) 26 0))])) := hM29.1
            have m29_1 : w29 (b + 15) = some (.inl (cZ, 24, .inl (fun i => nI (((pl_N (dr_N N) (N 7 (3 * j))) 1) i)))) := hM29.2 1 (by decide) (by decide)
            have m29_2 : w29 (b + 16) = some (.inl (cZ, 24, .inl (fun i => nI (((pl_N (dr_N N) (N 7 (3 * j))) 2) i)))) := hM29.2 2 (by decide) (by decide)
            have m29_3 : w29 (b + 17) = some (.inl (cI, 24, .inl (fun i => nI (((pl_N (dr_N N) (N 7 (3 * j))) 3) i)))) := hM29.2 3 (by decide) (by decide)
            have m29_4 : w29 (b + 18) = some (.inl (cI, 24, .inl (fun i => nI (((pl_N (dr_N N) (N 7 (3 * j))) 4) i)))) := hM29.2 4 (by decide) (by decide)
            have m29_5 : w29 (b + 19) = some (.inl (cI, 24, .inl (S 5))) := hM29.2 5 (by decide) (by decide)
            have m29_6 : w29 (b + 20) = some (.inl (cI, 24, .inl (S 6))) := hM29.2 6 (by decide) (by decide)
            have m29_7 : w29 (b + 21) = some (.inl (cI, 72, .inl (fun i => nI (((pl_N (dr_N N) (N 7 (3 * j))) 7) i)))) := hM29.2 7 (by decide) (by decide)
            have m29_8 : w29 (b + 22) = some (.inl (cI, 24, .inl (fun i => nI (((pl_N (dr_N N) (N 7 (3 * j))) 8) i)))) := hM29.2 8 (by decide) (by decide)
            have m29_9 : w29 (b + 23) = some (.inl (cI, 24, .inl (fun i => nI (((pl_N (dr_N N) (N 7 (3 * j))) 9) i)))) := hM29.2 9 (by decide) (by decide)
            have m29_10 : w29 (b + 24) = some (.inl (cI, 24, .inl (fun i => nI (((pl_N (dr_N N) (N 7 (3 * j))) 10) i)))) := hM29.2 10 (by decide) (by decide)
            have m29_11 : w29 (b + 25) = some (.inl (cI, 24, .inl (S 11))) := hM29.2 11 (by decide) (by decide)
            have m29_12 : w29 (b + 26) = some (.inl (cI, 24, .inl (S 12))) := hM29.2 12 (by decide) (by decide)
            have m29_13 : w29 (b + 27) = some (.inl (cZ, 24, .inl (fun i => nI (((pl_N (dr_N N) (N 7 (3 * j))) 13) i)))) := hM29.2 13 (by decide) (by decide)
            have m29_14 : w29 (b + 28) = some (.inl (cI, 256, .inl (fun i => nI (((pl_N (dr_N N) (N 7 (3 * j))) 14) i)))) := hM29.2 14 (by decide) (by decide)
            have m29_15 : w29 (b + 29) = some (.inl (cI, 24, .inl (fun i => nI (((pl_N (dr_N N) (N 7 (3 * j))) 15) i)))) := hM29.2 15 (by decide) (by decide)
            have m29_16 : w29 (b + 30) = some (.inl (cI, 5, .inl (fun i => nI (((pl_N (dr_N N) (N 7 (3 * j))) 19) i)))) := hM29.2 16 (by decide) (by decide)
            refine lv_aload_n hx hb d_Mod_follow_138 rfl (lv_at hl 0 rfl) ?_
            have jn30 : W p l e (headSpec ws_Mod_follow (kk_rm 3 0 0)).room s m ([.ref (b + 14), .int (nI j)]).toArray below meth c H locs 0 0 (MQ below (kk_Qi B D (fun r w' sz' => r = nI (if fo_ok N (nI j) then 1 else 0) ∧ mo_I b cI cZ (fo_N N (nI j)) (fo_S N S (nI j)) w' ∧ (∀ j, ¬ (b + 14 ≤ j ∧ j < b + 31) → w' j = w j) ∧ sz' = sz)) ([.ref (b + 14), .int (nI j)]).toArray s 0 0 (fun q => B ≤ q)) (F0 m 165 ls [.int (if S 23 0 < S 5 j then S 5 j else S 23 0), .ref (b + 14)]) := by
              refine mm_put (D := D) (C := n_Mod) (T := T_Mod) (N := 27) (v := .int (if S 23 0 < S 5 j then S 5 j else S 23 0)) (ty := .int) hx hb hts lay_Mod t_Mod ty_Mod nm_Mod hown hK.1 hP hS m29_0 rfl 23 (by decide) (hts _ (List.mem_cons_of_mem _ wd_514)) (fun _ h9 => h9) rfl (by decide +kernel) rfl rfl (Nat.le_of_ble_eq_true rfl) d_Mod_follow_165 (fun H locs hP hz1 hS => ?_)
              have hz : H.size = sz := hz1.trans hz
              obtain ⟨w31, hw31⟩ : ∃ z : mm_M, z = mm_up w29 (b + 14) (.inr (9, [.int (nI ((pl_N (dr_N N) (N 7 (3 * j))) 0 0)), .ref (b + 15), .ref (b + 16), .ref (b + 17), .ref (b + 18), .ref (b + 19), .ref (b + 20), .ref (b + 21), .ref (b + 22), .ref (b + 23), .ref (b + 24), .ref (b + 25), .ref (b + 26), .ref (b + 27), .ref (b + 28), .ref (b + 29), .int (nI ((pl_N (dr_N N) (N 7 (3 * j))) 16 0)), .int (nI ((pl_N (dr_N N) (N 7 (3 * j))) 17 0)), .int (nI ((pl_N (dr_N N) (N 7 (3 * j))) 18 0)), .ref (b + 30), .int (nI ((pl_N (dr_N N) (N 7 (3 * j))) 20 0)), .int (S 21 0), .int (S 22 0), .int (if S 23 0 < S 5 j then S 5 j else S 23 0), .int (S 24 0), .int (nI ((pl_N (dr_N N) (N 7 (3 * j))) 25 0)), .int (nI ((pl_N (dr_N N) (N 7 (3 * j))) 26 0))])) := ⟨_, rfl⟩
              have hP : mm_P B D kc w31 H := by rw [hw31]; exact hP
              have fr31 : ∀ j, j ≠ b + 14 → w31 j = w29 j := fun j h9 => by rw [hw31]; exact mm_un h9
              have fa31 : w31 (b + 14) = some (.inr (9, [.int (nI ((pl_N (dr_N N) (N 7 (3 * j))) 0 0)), .ref (b + 15), .ref (b + 16), .ref (b + 17), .ref (b + 18), .ref (b + 19), .ref (b + 20), .ref (b + 21), .ref (b + 22), .ref (b + 23), .ref (b + 24), .ref (b + 25), .ref (b + 26), .ref (b + 27), .ref (b + 28), .ref (b + 29), .int (nI ((pl_N (dr_N N) (N 7 (3 * j))) 16 0)), .int (nI ((pl_N (dr_N N) (N 7 (3 * j))) 17 0)), .int (nI ((pl_N (dr_N N) (N 7 (3 * j))) 18 0)), .ref (b + 30), .int (nI ((pl_N (dr_N N) (N 7 (3 * j))) 20 0)), .int (S 21 0), .int (S 22 0), .int (if S 23 0 < S 5 j then S 5 j else S 23 0), .int (S 24 0), .int (nI ((pl_N (dr_N N) (N 7 (3 * j))) 25 0)), .int (nI ((pl_N (dr_N N) (N 7 (3 * j))) 26 0))])) := by rw [hw31]; exact mm_us _ _ _
              refine lv_aload_n hx hb d_Mod_follow_168 rfl (lv_at hl 0 rfl) ?_
              have jn32 : W p l e (headSpec ws_Mod_follow (kk_rm 3 0 0)).room s m ([.ref (b + 14), .int (nI j)]).toArray below meth c H locs 0 0 (MQ below (kk_Qi B D (fun r w' sz' => r = nI (if fo_ok N (nI j) then 1 else 0) ∧ mo_I b cI cZ (fo_N N (nI j)) (fo_S N S (nI j)) w' ∧ (∀ j, ¬ (b + 14 ≤ j ∧ j < b + 31) → w' j = w j) ∧ sz' = sz)) ([.ref (b + 14), .int (nI j)]).toArray s 0 0 (fun q => B ≤ q)) (F0 m 195 ls [.int (if S 6 j < S 24 0 then S 6 j else S 24 0), .ref (b + 14)]) := by
                refine mm_put (D := D) (C := n_Mod) (T := T_Mod) (N := 27) (v := .int (if S 6 j < S 24 0 then S 6 j else S 24 0)) (ty := .int) hx hb hts lay_Mod t_Mod ty_Mod nm_Mod hown hK.1 hP hS fa31 rfl 24 (by decide) (hts _ (List.mem_cons_of_mem _ wd_515)) (fun _ h9 => h9) rfl (by decide +kernel) rfl rfl (Nat.le_of_ble_eq_true rfl) d_Mod_follow_195 (fun H locs hP hz1 hS => ?_)
                have hz : H.size = sz := hz1.trans hz
                obtain ⟨w33, hw33⟩ : ∃ z : mm_M, z = mm_up w31 (b + 14) (.inr (9, [.int (nI ((pl_N (dr_N N) (N 7 (3 * j))) 0 0)), .ref (b + 15), .ref (b + 16), .ref (b + 17), .ref (b + 18), .ref (b + 19), .ref (b + 20), .ref (b + 21), .ref (b + 22), .ref (b + 23), .ref (b + 24), .ref (b + 25), .ref (b + 26), .ref (b + 27), .ref (b + 28), .ref (b + 29), .int (nI ((pl_N (dr_N N) (N 7 (3 * j))) 16 0)), .int (nI ((pl_N (dr_N N) (N 7 (3 * j))) 17 0)), .int (nI ((pl_N (dr_N N) (N 7 (3 * j))) 18 0)), .ref (b + 30), .int (nI ((pl_N (dr_N N) (N 7 (3 * j))) 20 0)), .int (S 21 0), .int (S 22 0), .int (if S 23 0 < S 5 j then S 5 j else S 23 0), .int (if S 6 j < S 24 0 then S 6 j else S 24 0), .int (nI ((pl_N (dr_N N) (N 7 (3 * j))) 25 0)), .int (nI ((pl_N (dr_N N) (N 7 (3 * j))) 26 0))])) := ⟨_, rfl⟩
                have hP : mm_P B D kc w33 H := by rw [hw33]; exact hP
                have fr33 : ∀ j, j ≠ b + 14 → w33 j = w31 j := fun j h9 => by rw [hw33]; exact mm_un h9
                have fa33 : w33 (b + 14) = some (.inr (9, [.int (nI ((pl_N (dr_N N) (N 7 (3 * j))) 0 0)), .ref (b + 15), .ref (b + 16), .ref (b + 17), .ref (b + 18), .ref (b + 19), .ref (b + 20), .ref (b + 21), .ref (b + 22), .ref (b + 23), .ref (b + 24), .ref (b + 25), .ref (b + 26), .ref (b + 27), .ref (b + 28), .ref (b + 29), .int (nI ((pl_N (dr_N N) (N 7 (3 * j))) 16 0)), .int (nI ((pl_N (dr_N N) (N 7 (3 * j))) 17 0)), .int (nI ((pl_N (dr_N N) (N 7 (3 * j))) 18 0)), .ref (b + 30), .int (nI ((pl_N (dr_N N) (N 7 (3 * j))) 20 0)), .int (S 21 0), .int (S 22 0), .int (if S 23 0 < S 5 j then S 5 j else S 23 0), .int (if S 6 j < S 24 0 then S 6 j else S 24 0), .int (nI ((pl_N (dr_N N) (N 7 (3 * j))) 25 0)), .int (nI ((pl_N (dr_N N) (N 7 (3 * j))) 26 0))])) := by rw [hw33]; exact mm_us _ _ _
                refine lv_aload_n hx hb d_Mod_follow_198 rfl (lv_at hl 0 rfl) ?_
                refine lv_dup hx hb d_Mod_follow_199 rfl ?_
                refine mm_get (D := D) (C := n_Mod) (T := T_Mod) (N := 27) (v := .int (nI ((pl_N (dr_N N) (N 7 (3 * j))) 25 0))) hx hb hts lay_Mod hown hK.1 hP fa33 rfl 25 (by decide) (hts _ (List.mem_cons_of_mem _ wd_516)) (fun _ h9 => h9) rfl d_Mod_follow_200 ?_
                refine lv_iconst (v := nI 1) hx hb d_Mod_follow_203 (by decide) ?_
                refine lv_iadd hx hb d_Mod_follow_204 ?_
                refine kk_top (nI_add _ _) ?_
                refine mm_put (D := D) (C := n_Mod) (T := T_Mod) (N := 27) (v := .int (nI (((pl_N (dr_N N) (N 7 (3 * j))) 25 0) + 1))) (ty := .int) hx hb hts lay_Mod t_Mod ty_Mod nm_Mod hown hK.1 hP hS fa33 rfl 25 (by decide) (hts _ (List.mem_cons_of_mem _ wd_516)) (fun _ h9 => h9) rfl (by decide +kernel) rfl rfl (Nat.le_of_ble_eq_true rfl) d_Mod_follow_205 (fun H locs hP hz1 hS => ?_)
                have hz : H.size = sz := hz1.trans hz
                obtain ⟨w34, hw34⟩ : ∃ z : mm_M, z = mm_up w33 (b + 14) (.inr (9, [.int (nI ((pl_N (dr_N N) (N 7 (3 * j))) 0 0)), .ref (b + 15), .ref (b + 16), .ref (b + 17), .ref (b + 18), .ref (b + 19), .ref (b + 20), .ref (b + 21), .ref (b + 22), .ref (b + 23), .ref (b + 24), .ref (b + 25), .ref (b + 26), .ref (b + 27), .ref (b + 28), .ref (b + 29), .int (nI ((pl_N (dr_N N) (N 7 (3 * j))) 16 0)), .int (nI ((pl_N (dr_N N) (N 7 (3 * j))) 17 0)), .int (nI ((pl_N (dr_N N) (N 7 (3 * j))) 18 0)), .ref (b + 30), .int (nI ((pl_N (dr_N N) (N 7 (3 * j))) 20 0)), .int (S 21 0), .int (S 22 0), .int (if S 23 0 < S 5 j then S 5 j else S 23 0), .int (if S 6 j < S 24 0 then S 6 j else S 24 0), .int (nI (((pl_N (dr_N N) (N 7 (3 * j))) 25 0) + 1)), .int (nI ((pl_N (dr_N N) (N 7 (3 * j))) 26 0))])) := ⟨_, rfl⟩
                have hP : mm_P B D kc w34 H := by rw [hw34]; exact hP
                have fr34 : ∀ j, j ≠ b + 14 → w34 j = w33 j := fun j h9 => by rw [hw34]; exact mm_un h9
                have fa34 : w34 (b + 14) = some (.inr (9, [.int (nI ((pl_N (dr_N N) (N 7 (3 * j))) 0 0)), .ref (b + 15), .ref (b + 16), .ref (b + 17), .ref (b + 18), .ref (b + 19), .ref (b + 20), .ref (b + 21), .ref (b + 22), .ref (b + 23), .ref (b + 24), .ref (b + 25), .ref (b + 26), .ref (b + 27), .ref (b + 28), .ref (b + 29), .int (nI ((pl_N (dr_N N) (N 7 (3 * j))) 16 0)), .int (nI ((pl_N (dr_N N) (N 7 (3 * j))) 17 0)), .int (nI ((pl_N (dr_N N) (N 7 (3 * j))) 18 0)), .ref (b + 30), .int (nI ((pl_N (dr_N N) (N 7 (3 * j))) 20 0)), .int (S 21 0), .int (S 22 0), .int (if S 23 0 < S 5 j then S 5 j else S 23 0), .int (if S 6 j < S 24 0 then S 6 j else S 24 0), .int (nI (((pl_N (dr_N N) (N 7 (3 * j))) 25 0) + 1)), .int (nI ((pl_N (dr_N N) (N 7 (3 * j))) 26 0))])) := by rw [hw34]; exact mm_us _ _ _
                refine lv_iconst (v := nI 1) hx hb d_Mod_follow_208 (by decide) ?_
                exact W.zret hx hb hr rfl (fun t ht hW => ⟨⟨_, (w34, sz), rfl, ⟨kk_ift hok, (by rw [fo_N_nam (by omega) hok cc6, fo_S_nam (by omega) hok cc6]; exact mo_mk fa34 ((fr34 _ (by omega)).trans ((fr33 _ (by omega)).trans ((fr31 _ (by omega)).trans (m29_1)))) ((fr34 _ (by omega)).trans ((fr33 _ (by omega)).trans ((fr31 _ (by omega)).trans (m29_2)))) ((fr34 _ (by omega)).trans ((fr33 _ (by omega)).trans ((fr31 _ (by omega)).trans (m29_3)))) ((fr34 _ (by omega)).trans ((fr33 _ (by omega)).trans ((fr31 _ (by omega)).trans (m29_4)))) ((fr34 _ (by omega)).trans ((fr33 _ (by omega)).trans ((fr31 _ (by omega)).trans (m29_5)))) ((fr34 _ (by omega)).trans ((fr33 _ (by omega)).trans ((fr31 _ (by omega)).trans (m29_6)))) ((fr34 _ (by omega)).trans ((fr33 _ (by omega)).trans ((fr31 _ (by omega)).trans (m29_7)))) ((fr34 _ (by omega)).trans ((fr33 _ (by omega)).trans ((fr31 _ (by omega)).trans (m29_8)))) ((fr34 _ (by omega)).trans ((fr33 _ (by omega)).trans ((fr31 _ (by omega)).trans (m29_9)))) ((fr34 _ (by omega)).trans ((fr33 _ (by omega)).trans ((fr31 _ (by omega)).trans (m29_10)))) ((fr34 _ (by omega)).trans ((fr33 _ (by omega)).trans ((fr31 _ (by omega)).trans (m29_11)))) ((fr34 _ (by omega)).trans ((fr33 _ (by omega)).trans ((fr31 _ (by omega)).trans (m29_12)))) ((fr34 _ (by omega)).trans ((fr33 _ (by omega)).trans ((fr31 _ (by omega)).trans (m29_13)))) ((fr34 _ (by omega)).trans ((fr33 _ (by omega)).trans ((fr31 _ (by omega)).trans (m29_14)))) ((fr34 _ (by omega)).trans ((fr33 _ (by omega)).trans ((fr31 _ (by omega)).trans (m29_15)))) ((fr34 _ (by omega)).trans ((fr33 _ (by omega)).trans ((fr31 _ (by omega)).trans (m29_16))))), (fun j hj => (fr34 j (by omega)).trans ((fr33 j (by omega)).trans ((fr31 j (by omega)).trans ((hf29 j hj).trans (hf28 j hj))))), rfl⟩, by rw [ht]; exact hP, by rw [ht]; exact hz⟩, hS.F ht⟩) hS.2.2 d_Mod_follow_209
              refine lv_aload_n hx hb d_Mod_follow_169 rfl (lv_at hl 0 rfl) ?_
              refine mm_get (D := D) (C := n_Mod) (T := T_Mod) (N := 27) (v := .ref (b + 20)) hx hb hts lay_Mod hown hK.1 hP fa31 rfl 6 (by decide) (hts _ (List.mem_cons_of_mem _ wd_497)) (fun _ h9 => h9) rfl d_Mod_follow_170 ?_
              refine lv_iload_n hx hb d_Mod_follow_173 rfl (lv_at hl 1 rfl) ?_
              have f35 := (fr31 _ (by omega)).trans (m29_6)
              refine mm_iald hx hb hK.1 hP 0 f35 rfl j rfl (by omega) (by decide) d_Mod_follow_174 ?_
              refine lv_aload_n hx hb d_Mod_follow_175 rfl (lv_at hl 0 rfl) ?_
              refine mm_get (D := D) (C := n_Mod) (T := T_Mod) (N := 27) (v := .int (S 24 0)) hx hb hts lay_Mod hown hK.1 hP fa31 rfl 24 (by decide) (hts _ (List.mem_cons_of_mem _ wd_515)) (fun _ h9 => h9) rfl d_Mod_follow_176 ?_
              refine lv_icmp_ge (tgt := 191) hx hb d_Mod_follow_179 (by decide) (fun cc36 => ?_) (fun cc36 => ?_)
              · refine lv_aload_n hx hb d_Mod_follow_191 rfl (lv_at hl 0 rfl) ?_
                refine mm_get (D := D) (C := n_Mod) (T := T_Mod) (N := 27) (v := .int (S 24 0)) hx hb hts lay_Mod hown hK.1 hP fa31 rfl 24 (by decide) (hts _ (List.mem_cons_of_mem _ wd_515)) (fun _ h9 => h9) rfl d_Mod_follow_192 ?_
                refine kk_top (y := if S 6 j < S 24 0 then S 6 j else S 24 0) ((if_neg (Int32.not_lt.mpr cc36)).symm) ?_
                exact jn32
              · refine lv_aload_n hx hb d_Mod_follow_182 rfl (lv_at hl 0 rfl) ?_
                refine mm_get (D := D) (C := n_Mod) (T := T_Mod) (N := 27) (v := .ref (b + 20)) hx hb hts lay_Mod hown hK.1 hP fa31 rfl 6 (by decide) (hts _ (List.mem_cons_of_mem _ wd_497)) (fun _ h9 => h9) rfl d_Mod_follow_183 ?_
                refine lv_iload_n hx hb d_Mod_follow_186 rfl (lv_at hl 1 rfl) ?_
                refine mm_iald hx hb hK.1 hP 0 f35 rfl j rfl (by omega) (by decide) d_Mod_follow_187 ?_
                refine lv_goto (tgt := 195) hx hb d_Mod_follow_188 (by decide) ?_
                refine kk_top (y := if S 6 j < S 24 0 then S 6 j else S 24 0) ((if_pos (Int32.not_le.mp cc36)).symm) ?_
                exact jn32
            refine lv_aload_n hx hb d_Mod_follow_139 rfl (lv_at hl 0 rfl) ?_
            refine mm_get (D := D) (C := n_Mod) (T := T_Mod) (N := 27) (v := .ref (b + 19)) hx hb hts lay_Mod hown hK.1 hP m29_0 rfl 5 (by decide) (hts _ (List.mem_cons_of_mem _ wd_496)) (fun _ h9 => h9) rfl d_Mod_follow_140 ?_
            refine lv_iload_n hx hb d_Mod_follow_143 rfl (lv_at hl 1 rfl) ?_
            refine mm_iald hx hb hK.1 hP 0 m29_5 rfl j rfl (by omega) (by decide) d_Mod_follow_144 ?_
            refine lv_aload_n hx hb d_Mod_follow_145 rfl (lv_at hl 0 rfl) ?_
            refine mm_get (D := D) (C := n_Mod) (T := T_Mod) (N := 27) (v := .int (S 23 0)) hx hb hts lay_Mod hown hK.1 hP m29_0 rfl 23 (by decide) (hts _ (List.mem_cons_of_mem _ wd_514)) (fun _ h9 => h9) rfl d_Mod_follow_146 ?_
            refine lv_icmp_le (tgt := 161) hx hb d_Mod_follow_149 (by decide) (fun cc37 => ?_) (fun cc37 => ?_)
            · refine lv_aload_n hx hb d_Mod_follow_161 rfl (lv_at hl 0 rfl) ?_
              refine mm_get (D := D) (C := n_Mod) (T := T_Mod) (N := 27) (v := .int (S 23 0)) hx hb hts lay_Mod hown hK.1 hP m29_0 rfl 23 (by decide) (hts _ (List.mem_cons_of_mem _ wd_514)) (fun _ h9 => h9) rfl d_Mod_follow_162 ?_
              refine kk_top (y := if S 23 0 < S 5 j then S 5 j else S 23 0) ((if_neg (Int32.not_lt.mpr cc37)).symm) ?_
              exact jn30
            · refine lv_aload_n hx hb d_Mod_follow_152 rfl (lv_at hl 0 rfl) ?_
              refine mm_get (D := D) (C := n_Mod) (T := T_Mod) (N := 27) (v := .ref (b + 19)) hx hb hts lay_Mod hown hK.1 hP m29_0 rfl 5 (by decide) (hts _ (List.mem_cons_of_mem _ wd_496)) (fun _ h9 => h9) rfl d_Mod_follow_153 ?_
              refine lv_iload_n hx hb d_Mod_follow_156 rfl (lv_at hl 1 rfl) ?_
              refine mm_iald hx hb hK.1 hP 0 m29_5 rfl j rfl (by omega) (by decide) d_Mod_follow_157 ?_
              refine lv_goto (tgt := 165) hx hb d_Mod_follow_158 (by decide) ?_
              refine kk_top (y := if S 23 0 < S 5 j then S 5 j else S 23 0) ((if_pos (Int32.not_le.mp cc37)).symm) ?_
              exact jn30
        · have cc5 := kk_b0 cc5
          exact absurd hft cc5
  · refine lv_aload_n hx hb d_Mod_follow_0 rfl (lv_at hl 0 rfl) ?_
    refine mm_get (D := D) (C := n_Mod) (T := T_Mod) (N := 27) (v := .int (nI (N 16 0))) hx hb hts lay_Mod hown hK.1 hP m0 rfl 16 (by decide) (hts _ (List.mem_cons_of_mem _ wd_507)) (fun _ h9 => h9) rfl d_Mod_follow_1 ?_
    refine lv_if_eq (tgt := 23) hx hb d_Mod_follow_4 (by decide) (fun cc38 => ?_) (fun cc38 => ?_)
    · rw [← nI_0] at cc38
      have cc38 : N 16 0 = 0 := (nI_eq (by omega) (by omega)).mp cc38
      refine lv_iconst (v := nI 0) hx hb d_Mod_follow_23 (by decide) ?_
      exact W.zret hx hb hr rfl (fun t ht hW => ⟨⟨_, (w, sz), rfl, ⟨kk_iff hok, (by rw [show fo_N N _ = N from if_neg hok, show fo_S N S _ = S from if_neg hok]; exact mo_mk m0 m1 m2 m3 m4 m5 m6 m7 m8 m9 m10 m11 m12 m13 m14 m15 m16), (fun j hj => rfl), rfl⟩, by rw [ht]; exact hP, by rw [ht]; exact hz⟩, hS.F ht⟩) hS.2.2 d_Mod_follow_24
    · rw [← nI_0] at cc38
      have cc38 : ¬ (N 16 0 = 0) := fun q => cc38 ((nI_eq (by omega) (by omega)).mpr q)
      refine lv_aload_n hx hb d_Mod_follow_7 rfl (lv_at hl 0 rfl) ?_
      refine lv_iload_n hx hb d_Mod_follow_8 rfl (lv_at hl 1 rfl) ?_
      refine vp_callSi (va_Run.run (va_runV (As := [.int nr]) (rest := []) ⟨hx, hb, hml, hown, hts⟩ (c_Mod_isThere l (b := b) (N := N) (S := S) hM (by omega) hR) (cwV 1 hts (gW_in (hd := [_, _, _, _, _]) (kk_5 wd_601 wd_603 sl_Mod_isThere wd_8 cw_Mod_isThere)) rfl rfl rfl ⟨rfl, ds_Mod_isThere⟩ ⟨Nat.le_of_ble_eq_true rfl, Nat.le_of_ble_eq_true rfl⟩) (kk_preV hK hP hz hBz m0 rfl) rfl rfl hl.1 rfl (lv_room (Nat.le_of_ble_eq_true rfl)) d_Mod_follow_9 ⟨Nat.le_of_ble_eq_true rfl, Nat.le_of_ble_eq_true rfl⟩)) (fun r39 hr39 => ?_)
      subst hr39
      refine lv_if_eq (tgt := 23) hx hb d_Mod_follow_12 (by decide) (fun cc40 => ?_) (fun cc40 => ?_)
      · have cc40 := kk_b0 cc40
        refine lv_iconst (v := nI 0) hx hb d_Mod_follow_23 (by decide) ?_
        exact W.zret hx hb hr rfl (fun t ht hW => ⟨⟨_, (w, sz), rfl, ⟨kk_iff hok, (by rw [show fo_N N _ = N from if_neg hok, show fo_S N S _ = S from if_neg hok]; exact mo_mk m0 m1 m2 m3 m4 m5 m6 m7 m8 m9 m10 m11 m12 m13 m14 m15 m16), (fun j hj => rfl), rfl⟩, by rw [ht]; exact hP, by rw [ht]; exact hz⟩, hS.F ht⟩) hS.2.2 d_Mod_follow_24
      · have cc40 := kk_b1 cc40
        obtain ⟨j, hj, rfl⟩ := re_in hn cc40.1
        have hRj := hR j hj
        have hg13 : N 13 j ≤ 1 := by omega
        have hs0 : wf_subn (N 7 (3 * j)) := hRj.2.2.2.2.2.1 0 (by omega)
        have hA2 := ch_a_le (N 7 (3 * j))
        refine lv_aload_n hx hb d_Mod_follow_15 rfl (lv_at hl 0 rfl) ?_
        refine lv_iload_n hx hb d_Mod_follow_16 rfl (lv_at hl 1 rfl) ?_
        refine vp_callSi (va_Run.run (va_runV (As := [.int (nI j)]) (rest := []) ⟨hx, hb, hml, hown, hts⟩ (c_Mod_fits l (b := b) (N := N) (S := S) hM hn hR hj hC) (cwV 1 hts (gW_in (hd := [_, _, _, _, _]) (kk_5 wd_698 wd_700 sl_Mod_fits wd_8 cw_Mod_fits)) rfl rfl rfl ⟨rfl, ds_Mod_fits⟩ ⟨Nat.le_of_ble_eq_true rfl, Nat.le_of_ble_eq_true rfl⟩) (kk_preV hK hP hz hBz m0 rfl) rfl rfl hl.1 rfl (lv_room (Nat.le_of_ble_eq_true rfl)) d_Mod_follow_17 ⟨Nat.le_of_ble_eq_true rfl, Nat.le_of_ble_eq_true rfl⟩)) (fun r41 hr41 => ?_)
        subst hr41
        refine lv_if_ne (tgt := 25) hx hb d_Mod_follow_20 (by decide) (fun cc42 => ?_) (fun cc42 => ?_)
        · have cc42 := kk_b1 cc42
          exact absurd ⟨by omega, cc40, by rw [nI_clamp (by omega)]; exact cc42⟩ hok
        · have cc42 := kk_b0 cc42
          refine lv_iconst (v := nI 0) hx hb d_Mod_follow_23 (by decide) ?_
          exact W.zret hx hb hr rfl (fun t ht hW => ⟨⟨_, (w, sz), rfl, ⟨kk_iff hok, (by rw [show fo_N N _ = N from if_neg hok, show fo_S N S _ = S from if_neg hok]; exact mo_mk m0 m1 m2 m3 m4 m5 m6 m7 m8 m9 m10 m11 m12 m13 m14 m15 m16), (fun j hj => rfl), rfl⟩, by rw [ht]; exact hP, by rw [ht]; exact hz⟩, hS.F ht⟩) hS.2.2 d_Mod_follow_24
