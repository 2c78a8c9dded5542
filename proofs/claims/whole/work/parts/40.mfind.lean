theorem d_Mod_findLeading_0 : decode k_Mod_findLeading 0 = .ok (.iconst 0, 1) := by decide +kernel
theorem d_Mod_findLeading_1 : decode k_Mod_findLeading 1 = .ok (.istore 5, 2) := by decide +kernel
theorem d_Mod_findLeading_3 : decode k_Mod_findLeading 3 = .ok (.iload 5, 2) := by decide +kernel
theorem d_Mod_findLeading_5 : decode k_Mod_findLeading 5 = .ok (.bipush 24, 2) := by decide +kernel
theorem d_Mod_findLeading_7 : decode k_Mod_findLeading 7 = .ok (.if_icmp .ge 19, 3) := by decide +kernel
theorem d_Mod_findLeading_10 : decode k_Mod_findLeading 10 = .ok (.aload_n 0, 1) := by decide +kernel
theorem d_Mod_findLeading_11 : decode k_Mod_findLeading 11 = .ok (.getfield 53, 3) := by decide +kernel
theorem d_Mod_findLeading_14 : decode k_Mod_findLeading 14 = .ok (.iload 5, 2) := by decide +kernel
theorem d_Mod_findLeading_16 : decode k_Mod_findLeading 16 = .ok (.sipush 5000, 3) := by decide +kernel
theorem d_Mod_findLeading_19 : decode k_Mod_findLeading 19 = .ok (.iastore, 1) := by decide +kernel
theorem d_Mod_findLeading_20 : decode k_Mod_findLeading 20 = .ok (.iinc 5 1, 3) := by decide +kernel
theorem d_Mod_findLeading_23 : decode k_Mod_findLeading 23 = .ok (.goto (-20), 3) := by decide +kernel
theorem d_Mod_findLeading_26 : decode k_Mod_findLeading 26 = .ok (.iconst 1, 1) := by decide +kernel
theorem d_Mod_findLeading_27 : decode k_Mod_findLeading 27 = .ok (.istore 5, 2) := by decide +kernel
theorem d_Mod_findLeading_29 : decode k_Mod_findLeading 29 = .ok (.iconst 0, 1) := by decide +kernel
theorem d_Mod_findLeading_30 : decode k_Mod_findLeading 30 = .ok (.istore 6, 2) := by decide +kernel
theorem d_Mod_findLeading_32 : decode k_Mod_findLeading 32 = .ok (.iload 6, 2) := by decide +kernel
theorem d_Mod_findLeading_34 : decode k_Mod_findLeading 34 = .ok (.bipush 100, 2) := by decide +kernel
theorem d_Mod_findLeading_36 : decode k_Mod_findLeading 36 = .ok (.if_icmp .ge 87, 3) := by decide +kernel
theorem d_Mod_findLeading_39 : decode k_Mod_findLeading 39 = .ok (.iload 5, 2) := by decide +kernel
theorem d_Mod_findLeading_41 : decode k_Mod_findLeading 41 = .ok (.ifCond .eq 82, 3) := by decide +kernel
theorem d_Mod_findLeading_44 : decode k_Mod_findLeading 44 = .ok (.iconst 0, 1) := by decide +kernel
theorem d_Mod_findLeading_45 : decode k_Mod_findLeading 45 = .ok (.istore 5, 2) := by decide +kernel
theorem d_Mod_findLeading_47 : decode k_Mod_findLeading 47 = .ok (.iconst 0, 1) := by decide +kernel
theorem d_Mod_findLeading_48 : decode k_Mod_findLeading 48 = .ok (.istore 7, 2) := by decide +kernel
theorem d_Mod_findLeading_50 : decode k_Mod_findLeading 50 = .ok (.iload 7, 2) := by decide +kernel
theorem d_Mod_findLeading_52 : decode k_Mod_findLeading 52 = .ok (.aload_n 0, 1) := by decide +kernel
theorem d_Mod_findLeading_53 : decode k_Mod_findLeading 53 = .ok (.getfield 63, 3) := by decide +kernel
theorem d_Mod_findLeading_56 : decode k_Mod_findLeading 56 = .ok (.if_icmp .ge 61, 3) := by decide +kernel
theorem d_Mod_findLeading_59 : decode k_Mod_findLeading 59 = .ok (.aload_n 0, 1) := by decide +kernel
theorem d_Mod_findLeading_60 : decode k_Mod_findLeading 60 = .ok (.iload 7, 2) := by decide +kernel
theorem d_Mod_findLeading_62 : decode k_Mod_findLeading 62 = .ok (.iload_n 2, 1) := by decide +kernel
theorem d_Mod_findLeading_63 : decode k_Mod_findLeading 63 = .ok (.iload_n 3, 1) := by decide +kernel
theorem d_Mod_findLeading_64 : decode k_Mod_findLeading 64 = .ok (.iload 4, 2) := by decide +kernel
theorem d_Mod_findLeading_66 : decode k_Mod_findLeading 66 = .ok (.invokevirtual 116, 3) := by decide +kernel
theorem d_Mod_findLeading_69 : decode k_Mod_findLeading 69 = .ok (.ifCond .eq 13, 3) := by decide +kernel
theorem d_Mod_findLeading_72 : decode k_Mod_findLeading 72 = .ok (.aload_n 0, 1) := by decide +kernel
theorem d_Mod_findLeading_73 : decode k_Mod_findLeading 73 = .ok (.iload 7, 2) := by decide +kernel
theorem d_Mod_findLeading_75 : decode k_Mod_findLeading 75 = .ok (.iload_n 1, 1) := by decide +kernel
theorem d_Mod_findLeading_76 : decode k_Mod_findLeading 76 = .ok (.invokevirtual 120, 3) := by decide +kernel
theorem d_Mod_findLeading_79 : decode k_Mod_findLeading 79 = .ok (.goto 6, 3) := by decide +kernel
theorem d_Mod_findLeading_82 : decode k_Mod_findLeading 82 = .ok (.sipush 5000, 3) := by decide +kernel
theorem d_Mod_findLeading_85 : decode k_Mod_findLeading 85 = .ok (.istore 8, 2) := by decide +kernel
theorem d_Mod_findLeading_87 : decode k_Mod_findLeading 87 = .ok (.iload 8, 2) := by decide +kernel
theorem d_Mod_findLeading_89 : decode k_Mod_findLeading 89 = .ok (.aload_n 0, 1) := by decide +kernel
theorem d_Mod_findLeading_90 : decode k_Mod_findLeading 90 = .ok (.getfield 53, 3) := by decide +kernel
theorem d_Mod_findLeading_93 : decode k_Mod_findLeading 93 = .ok (.iload 7, 2) := by decide +kernel
theorem d_Mod_findLeading_95 : decode k_Mod_findLeading 95 = .ok (.iaload, 1) := by decide +kernel
theorem d_Mod_findLeading_96 : decode k_Mod_findLeading 96 = .ok (.if_icmp .ge 15, 3) := by decide +kernel
theorem d_Mod_findLeading_99 : decode k_Mod_findLeading 99 = .ok (.aload_n 0, 1) := by decide +kernel
theorem d_Mod_findLeading_100 : decode k_Mod_findLeading 100 = .ok (.getfield 53, 3) := by decide +kernel
theorem d_Mod_findLeading_103 : decode k_Mod_findLeading 103 = .ok (.iload 7, 2) := by decide +kernel
theorem d_Mod_findLeading_105 : decode k_Mod_findLeading 105 = .ok (.iload 8, 2) := by decide +kernel
theorem d_Mod_findLeading_107 : decode k_Mod_findLeading 107 = .ok (.iastore, 1) := by decide +kernel
theorem d_Mod_findLeading_108 : decode k_Mod_findLeading 108 = .ok (.iconst 1, 1) := by decide +kernel
theorem d_Mod_findLeading_109 : decode k_Mod_findLeading 109 = .ok (.istore 5, 2) := by decide +kernel
theorem d_Mod_findLeading_111 : decode k_Mod_findLeading 111 = .ok (.iinc 7 1, 3) := by decide +kernel
theorem d_Mod_findLeading_114 : decode k_Mod_findLeading 114 = .ok (.goto (-64), 3) := by decide +kernel
theorem d_Mod_findLeading_117 : decode k_Mod_findLeading 117 = .ok (.iinc 6 1, 3) := by decide +kernel
theorem d_Mod_findLeading_120 : decode k_Mod_findLeading 120 = .ok (.goto (-88), 3) := by decide +kernel
theorem d_Mod_findLeading_123 : decode k_Mod_findLeading 123 = .ok (.return_, 1) := by decide +kernel
set_option maxHeartbeats 4000000 in
set_option maxRecDepth 100000 in
theorem c_Mod_findLeading (l : Launch) {B : Nat} {D : va_G} {cI cZ cQ : ClassId} {w : mm_M} {sz : Nat} {b : Nat} {N : Nat → Nat → Nat} {S : Nat → Nat → Int32} {x9 o9 : Nat} {z9 t9 : Int32} {v9 : Nat → Nat} (hM : mo_I b cI cZ N S w) (hn : N 0 0 ≤ 24) (hR : rg_I N) (hx9 : x9 < 8) (ho : o9 < 8) (h14 : N 14 = fun j => dm_ph (v9 j)) (hv : ∀ j, v9 j ≤ 1000) : Met l y_Mod_findLeading ws_Mod_findLeading (kk_rm 5 0 0) (kk_Pc B D cI cZ cQ [.ref (b + 14), .int (nI x9), .int (nI o9), .int z9, .int t9] w sz) (kk_Qv B D (fun w' sz' => mo_I b cI cZ (va_up N 15 (fun j => dm_ph (ld_U N S v9 x9 o9 z9 t9 j))) S w' ∧ (∀ j, ¬ (b + 14 ≤ j ∧ j < b + 31) → w' j = w j) ∧ sz' = sz)) 0 0 (fun q => B ≤ q) := by
  refine Met.ofW (cc := k_Mod_findLeading) (maxL := 9) (ret := none) (by decide) rfl ?_
  intro p e s m args below meth c s₁ BB hml hv
  obtain ⟨rfl, hK, hP, hz, hBz⟩ := hv
  have hx := BB.exec
  have hb := BB.bytes
  have hr := BB.returns
  have hts := atoms_spec (ws := ws_Mod_findLeading) BB.pre
  have hown : s.vm.findClass "DelegationClosureModel" = some m.cls := findClass_of_methodNamed BB.named
  have hlocks := BB.notSynchronized
  have hS : mm_S B s.heap s.heap [] := va_S.rf
  have hl := lv_entry ([.ref (b + 14), .int (nI x9), .int (nI o9), .int z9, .int t9]) (n := 9) (Nat.le_of_ble_eq_true rfl)
  rw [lg_entry_eq]
  generalize (lg_sl ([.ref (b + 14), .int (nI x9), .int (nI o9), .int z9, .int t9]) ++ List.replicate (9 - (lg_sl ([.ref (b + 14), .int (nI x9), .int (nI o9), .int z9, .int t9])).length) Slot.unset).toArray = ls at hl ⊢
  have hl : lv_has ls 9 [(0, .ref (b + 14)), (1, .int (nI x9)), (2, .int (nI o9)), (3, .int z9), (4, .int t9)] := hl
  have m0 : w (b + 14) = some (.inr (9, [.int (nI (N 0 0)), .ref (b + 15), .ref (b + 16), .ref (b + 17), .ref (b + 18), .ref (b + 19), .ref (b + 20), .ref (b + 21), .ref (b + 22), .ref (b + 23), .ref (b + 24), .ref (b + 25), .ref (b + 26), .ref (b + 27), .ref (b + 28), .ref (b + 29), .int (nI (N 16 0)), .int (nI (N 17 0)), .int (nI (N 18 0)), .ref (b + 30), .int (nI (N 20 0)), .int (S 21 0), .int (S 22 0), .int (S 23 0), .int (S 24 0), .int (nI (N 25 0)), .int (nI (N 26 0))])) := hM.1
  have m1 : w (b + 15) = some (.inl (cZ, 24, .inl (fun i => nI ((N 1) i)))) := hM.2 1 (by decide) (by decide)
  have m2 : w (b + 16) = some (.inl (cZ, 24, .inl (fun i => nI ((N 2) i)))) := hM.2 2 (by decide) (by decide)
  have m3 : w (b + 17) = some (.inl (cI, 24, .inl (fun i => nI ((N 3) i)))) := hM.2 3 (by decide) (by decide)
  have m4 : w (b + 18) = some (.inl (cI, 24, .inl (fun i => nI ((N 4) i)))) := hM.2 4 (by decide) (by decide)
  have m5 : w (b + 19) = some (.inl (cI, 24, .inl (S 5))) := hM.2 5 (by decide) (by decide)
  have m6 : w (b + 20) = some (.inl (cI, 24, .inl (S 6))) := hM.2 6 (by decide) (by decide)
  have m7 : w (b + 21) = some (.inl (cI, 72, .inl (fun i => nI ((N 7) i)))) := hM.2 7 (by decide) (by decide)
  have m8 : w (b + 22) = some (.inl (cI, 24, .inl (fun i => nI ((N 8) i)))) := hM.2 8 (by decide) (by decide)
  have m9 : w (b + 23) = some (.inl (cI, 24, .inl (fun i => nI ((N 9) i)))) := hM.2 9 (by decide) (by decide)
  have m10 : w (b + 24) = some (.inl (cI, 24, .inl (fun i => nI ((N 10) i)))) := hM.2 10 (by decide) (by decide)
  have m11 : w (b + 25) = some (.inl (cI, 24, .inl (S 11))) := hM.2 11 (by decide) (by decide)
  have m12 : w (b + 26) = some (.inl (cI, 24, .inl (S 12))) := hM.2 12 (by decide) (by decide)
  have m13 : w (b + 27) = some (.inl (cZ, 24, .inl (fun i => nI ((N 13) i)))) := hM.2 13 (by decide) (by decide)
  have m14 : w (b + 28) = some (.inl (cI, 256, .inl (fun i => nI ((N 14) i)))) := hM.2 14 (by decide) (by decide)
  have m15 : w (b + 29) = some (.inl (cI, 24, .inl (fun i => nI ((N 15) i)))) := hM.2 15 (by decide) (by decide)
  have m16 : w (b + 30) = some (.inl (cI, 5, .inl (fun i => nI ((N 19) i)))) := hM.2 16 (by decide) (by decide)
  refine lv_iconst (v := nI 0) hx hb d_Mod_findLeading_0 (by decide) ?_
  refine lv_istore hx hb d_Mod_findLeading_1 hl (by decide) rfl (fun ls hl => ?_)
  have hl : lv_has ls 9 [(5, .int (nI 0)), (0, .ref (b + 14)), (1, .int (nI x9)), (2, .int (nI o9)), (3, .int z9), (4, .int t9)] := hl
  have lp1 : ∀ (d : Nat) (k : Nat) (w2 : mm_M) (H : Heap) (locs : List Loc) (ls : Array Slot), d = 24 - k → (mm_P B D kc w2 H) → (H.size = sz) → (mm_S B s.heap H locs) → (∀ j, j ≠ b + 29 → w2 j = w j) → (w2 (b + 29) = some (.inl (cI, 24, .inl (fun i => nI ((fun j => if j < k then 5000 else N 15 j) i))))) → (k ≤ 24) → lv_has ls 9 [(5, .int (nI k)), (0, .ref (b + 14)), (1, .int (nI x9)), (2, .int (nI o9)), (3, .int z9), (4, .int t9)] → W p l e (headSpec ws_Mod_findLeading (kk_rm 5 0 0)).room s m ([.ref (b + 14), .int (nI x9), .int (nI o9), .int z9, .int t9]).toArray below meth c H locs 0 0 (MQ below (kk_Qv B D (fun w' sz' => mo_I b cI cZ (va_up N 15 (fun j => dm_ph (ld_U N S v9 x9 o9 z9 t9 j))) S w' ∧ (∀ j, ¬ (b + 14 ≤ j ∧ j < b + 31) → w' j = w j) ∧ sz' = sz)) ([.ref (b + 14), .int (nI x9), .int (nI o9), .int z9, .int t9]).toArray s 0 0 (fun q => B ≤ q)) (F0 m 3 ls []) := by
    intro d
    induction d using Nat.strongRecOn with
    | ind d ih =>
      intro k w2 H locs ls hd hP hz hS frw2 fw2_0 hk hl
      refine lv_iload hx hb d_Mod_findLeading_3 (lv_at hl 0 rfl) ?_
      refine lv_bipush (v := nI 24) hx hb d_Mod_findLeading_5 (by decide) ?_
      refine lv_icmp_ge (tgt := 26) hx hb d_Mod_findLeading_7 (by decide) (fun cc3 => ?_) (fun cc3 => ?_)
      · have cc3 : 24 ≤ k := (nI_leI (by omega) (by omega)).mp cc3
        have hP := hP.norm (g := fun i => nI (dm_ph ((fun _ => 1000) i))) fw2_0 (fun j hj => by show nI (if j < k then 5000 else N 15 j) = nI (dm_ph 1000); rw [if_pos (by omega)]; rfl)
        obtain ⟨w4, hw4⟩ : ∃ z : mm_M, z = mm_up w2 (b + 29) (.inl (cI, 24, .inl (fun i => nI (dm_ph ((fun _ => 1000) i))))) := ⟨_, rfl⟩
        have hP : mm_P B D kc w4 H := by rw [hw4]; exact hP
        have fr4 : ∀ j, j ≠ b + 29 → w4 j = w2 j := fun j h9 => by rw [hw4]; exact mm_un h9
        have fa4 : w4 (b + 29) = some (.inl (cI, 24, .inl (fun i => nI (dm_ph ((fun _ => 1000) i))))) := by rw [hw4]; exact mm_us _ _ _
        refine lv_iconst (v := nI 1) hx hb d_Mod_findLeading_26 (by decide) ?_
        refine lv_istore hx hb d_Mod_findLeading_27 hl (by decide) rfl (fun ls hl => ?_)
        have hl : lv_has ls 9 [(5, .int (nI 1)), (0, .ref (b + 14)), (1, .int (nI x9)), (2, .int (nI o9)), (3, .int z9), (4, .int t9)] := hl
        refine lv_iconst (v := nI 0) hx hb d_Mod_findLeading_29 (by decide) ?_
        refine lv_istore hx hb d_Mod_findLeading_30 hl (by decide) rfl (fun ls hl => ?_)
        have hl : lv_has ls 9 [(6, .int (nI 0)), (5, .int (nI 1)), (0, .ref (b + 14)), (1, .int (nI x9)), (2, .int (nI o9)), (3, .int z9), (4, .int t9)] := hl
        have lp5 : ∀ (d : Nat) (r9 : Nat) (bt : Bool) (g : Nat → Nat) (w6 : mm_M) (H : Heap) (locs : List Loc) (ls : Array Slot), d = 100 - r9 → (mm_P B D kc w6 H) → (H.size = sz) → (mm_S B s.heap H locs) → (∀ j, j ≠ b + 29 → w6 j = w4 j) → (w6 (b + 29) = some (.inl (cI, 24, .inl (fun i => nI (dm_ph (g i)))))) → (r9 ≤ 100) → (∀ j, g j ≤ 1000) → ((if bt = true then dm_run (ld_R N S v9 x9 o9 z9 t9) (100 - r9) g else g) = ld_U N S v9 x9 o9 z9 t9) → lv_has ls 9 [(6, .int (nI r9)), (5, .int (nI (if bt = true then 1 else 0))), (0, .ref (b + 14)), (1, .int (nI x9)), (2, .int (nI o9)), (3, .int z9), (4, .int t9)] → W p l e (headSpec ws_Mod_findLeading (kk_rm 5 0 0)).room s m ([.ref (b + 14), .int (nI x9), .int (nI o9), .int z9, .int t9]).toArray below meth c H locs 0 0 (MQ below (kk_Qv B D (fun w' sz' => mo_I b cI cZ (va_up N 15 (fun j => dm_ph (ld_U N S v9 x9 o9 z9 t9 j))) S w' ∧ (∀ j, ¬ (b + 14 ≤ j ∧ j < b + 31) → w' j = w j) ∧ sz' = sz)) ([.ref (b + 14), .int (nI x9), .int (nI o9), .int z9, .int t9]).toArray s 0 0 (fun q => B ≤ q)) (F0 m 32 ls []) := by
          intro d
          induction d using Nat.strongRecOn with
          | ind d ihlp5 =>
            intro r9 bt g w6 H locs ls hd hP hz hS frw6 fw6_0 hr9 hgb hI hl
            refine lv_iload hx hb d_Mod_findLeading_32 (lv_at hl 0 rfl) ?_
            refine lv_bipush (v := nI 100) hx hb d_Mod_findLeading_34 (by decide) ?_
            refine lv_icmp_ge (tgt := 123) hx hb d_Mod_findLeading_36 (by decide) (fun cc7 => ?_) (fun cc7 => ?_)
            · have cc7 : 100 ≤ r9 := (nI_leI (by omega) (by omega)).mp cc7
              have hg9 : g = ld_U N S v9 x9 o9 z9 t9 := by rw [← hI, show 100 - r9 = 0 by omega]; show g = (if bt = true then g else g); split <;> rfl
              subst hg9
              exact W.vret hx hb hr (fun t ht hW => ⟨⟨(w6, sz), rfl, ⟨(mo_mk ((frw6 _ (by omega)).trans ((fr4 _ (by omega)).trans ((frw2 _ (by omega)).trans (m0)))) ((frw6 _ (by omega)).trans ((fr4 _ (by omega)).trans ((frw2 _ (by omega)).trans (m1)))) ((frw6 _ (by omega)).trans ((fr4 _ (by omega)).trans ((frw2 _ (by omega)).trans (m2)))) ((frw6 _ (by omega)).trans ((fr4 _ (by omega)).trans ((frw2 _ (by omega)).trans (m3)))) ((frw6 _ (by omega)).trans ((fr4 _ (by omega)).trans ((frw2 _ (by omega)).trans (m4)))) ((frw6 _ (by omega)).trans ((fr4 _ (by omega)).trans ((frw2 _ (by omega)).trans (m5)))) ((frw6 _ (by omega)).trans ((fr4 _ (by omega)).trans ((frw2 _ (by omega)).trans (m6)))) ((frw6 _ (by omega)).trans ((fr4 _ (by omega)).trans ((frw2 _ (by omega)).trans (m7)))) ((frw6 _ (by omega)).trans ((fr4 _ (by omega)).trans ((frw2 _ (by omega)).trans (m8)))) ((frw6 _ (by omega)).trans ((fr4 _ (by omega)).trans ((frw2 _ (by omega)).trans (m9)))) ((frw6 _ (by omega)).trans ((fr4 _ (by omega)).trans ((frw2 _ (by omega)).trans (m10)))) ((frw6 _ (by omega)).trans ((fr4 _ (by omega)).trans ((frw2 _ (by omega)).trans (m11)))) ((frw6 _ (by omega)).trans ((fr4 _ (by omega)).trans ((frw2 _ (by omega)).trans (m12)))) ((frw6 _ (by omega)).trans ((fr4 _ (by omega)).trans ((frw2 _ (by omega)).trans (m13)))) ((frw6 _ (by omega)).trans ((fr4 _ (by omega)).trans ((frw2 _ (by omega)).trans (m14)))) fw6_0 ((frw6 _ (by omega)).trans ((fr4 _ (by omega)).trans ((frw2 _ (by omega)).trans (m16))))), (fun j hj => (frw6 j (by omega)).trans ((fr4 j (by omega)).trans (frw2 j (by omega)))), rfl⟩, by rw [ht]; exact hP, by rw [ht]; exact hz⟩, hS.F ht⟩) hS.2.2 d_Mod_findLeading_123
            · have cc7 : ¬ (100 ≤ r9) := fun q => cc7 ((nI_leI (by omega) (by omega)).mpr q)
              refine lv_iload hx hb d_Mod_findLeading_39 (lv_at hl 1 rfl) ?_
              refine lv_if_eq (tgt := 123) hx hb d_Mod_findLeading_41 (by decide) (fun cc8 => ?_) (fun cc8 => ?_)
              · have cc8 := kk_b0 cc8
                have hg9 : g = ld_U N S v9 x9 o9 z9 t9 := by rw [← hI, if_neg cc8]
                subst hg9
                exact W.vret hx hb hr (fun t ht hW => ⟨⟨(w6, sz), rfl, ⟨(mo_mk ((frw6 _ (by omega)).trans ((fr4 _ (by omega)).trans ((frw2 _ (by omega)).trans (m0)))) ((frw6 _ (by omega)).trans ((fr4 _ (by omega)).trans ((frw2 _ (by omega)).trans (m1)))) ((frw6 _ (by omega)).trans ((fr4 _ (by omega)).trans ((frw2 _ (by omega)).trans (m2)))) ((frw6 _ (by omega)).trans ((fr4 _ (by omega)).trans ((frw2 _ (by omega)).trans (m3)))) ((frw6 _ (by omega)).trans ((fr4 _ (by omega)).trans ((frw2 _ (by omega)).trans (m4)))) ((frw6 _ (by omega)).trans ((fr4 _ (by omega)).trans ((frw2 _ (by omega)).trans (m5)))) ((frw6 _ (by omega)).trans ((fr4 _ (by omega)).trans ((frw2 _ (by omega)).trans (m6)))) ((frw6 _ (by omega)).trans ((fr4 _ (by omega)).trans ((frw2 _ (by omega)).trans (m7)))) ((frw6 _ (by omega)).trans ((fr4 _ (by omega)).trans ((frw2 _ (by omega)).trans (m8)))) ((frw6 _ (by omega)).trans ((fr4 _ (by omega)).trans ((frw2 _ (by omega)).trans (m9)))) ((frw6 _ (by omega)).trans ((fr4 _ (by omega)).trans ((frw2 _ (by omega)).trans (m10)))) ((frw6 _ (by omega)).trans ((fr4 _ (by omega)).trans ((frw2 _ (by omega)).trans (m11)))) ((frw6 _ (by omega)).trans ((fr4 _ (by omega)).trans ((frw2 _ (by omega)).trans (m12)))) ((frw6 _ (by omega)).trans ((fr4 _ (by omega)).trans ((frw2 _ (by omega)).trans (m13)))) ((frw6 _ (by omega)).trans ((fr4 _ (by omega)).trans ((frw2 _ (by omega)).trans (m14)))) fw6_0 ((frw6 _ (by omega)).trans ((fr4 _ (by omega)).trans ((frw2 _ (by omega)).trans (m16))))), (fun j hj => (frw6 j (by omega)).trans ((fr4 j (by omega)).trans (frw2 j (by omega)))), rfl⟩, by rw [ht]; exact hP, by rw [ht]; exact hz⟩, hS.F ht⟩) hS.2.2 d_Mod_findLeading_123
              · have cc8 := kk_b1 cc8
                have hI2 : (if dm_flag (ld_R N S v9 x9 o9 z9 t9) g = true then dm_run (ld_R N S v9 x9 o9 z9 t9) (100 - (r9 + 1)) (dm_pass (ld_R N S v9 x9 o9 z9 t9) g) else dm_pass (ld_R N S v9 x9 o9 z9 t9) g) = ld_U N S v9 x9 o9 z9 t9 := by rw [← hI, if_pos cc8, show 100 - r9 = (100 - (r9 + 1)) + 1 by omega]; rfl
                refine lv_iconst (v := nI 0) hx hb d_Mod_findLeading_44 (by decide) ?_
                refine lv_istore hx hb d_Mod_findLeading_45 hl (by decide) rfl (fun ls hl => ?_)
                have hl : lv_has ls 9 [(5, .int (nI 0)), (6, .int (nI r9)), (0, .ref (b + 14)), (1, .int (nI x9)), (2, .int (nI o9)), (3, .int z9), (4, .int t9)] := hl
                refine lv_iconst (v := nI 0) hx hb d_Mod_findLeading_47 (by decide) ?_
                refine lv_istore hx hb d_Mod_findLeading_48 hl (by decide) rfl (fun ls hl => ?_)
                have hl : lv_has ls 9 [(7, .int (nI 0)), (5, .int (nI 0)), (6, .int (nI r9)), (0, .ref (b + 14)), (1, .int (nI x9)), (2, .int (nI o9)), (3, .int z9), (4, .int t9)] := hl
                have lp9 : ∀ (d : Nat) (k : Nat) (w10 : mm_M) (H : Heap) (locs : List Loc) (ls : Array Slot), d = N 0 0 - k → (mm_P B D kc w10 H) → (H.size = sz) → (mm_S B s.heap H locs) → (∀ j, j ≠ b + 29 → w10 j = w6 j) → (w10 (b + 29) = some (.inl (cI, 24, .inl (fun i => nI (dm_ph ((dm_pass (dm_upto (ld_f N S v9 x9 o9 z9 t9) k) g) i)))))) → (k ≤ N 0 0) → lv_has ls 9 [(7, .int (nI k)), (5, .int (nI (if dm_flag (dm_upto (ld_f N S v9 x9 o9 z9 t9) k) g = true then 1 else 0))), (6, .int (nI r9)), (0, .ref (b + 14)), (1, .int (nI x9)), (2, .int (nI o9)), (3, .int z9), (4, .int t9)] → W p l e (headSpec ws_Mod_findLeading (kk_rm 5 0 0)).room s m ([.ref (b + 14), .int (nI x9), .int (nI o9), .int z9, .int t9]).toArray below meth c H locs 0 0 (MQ below (kk_Qv B D (fun w' sz' => mo_I b cI cZ (va_up N 15 (fun j => dm_ph (ld_U N S v9 x9 o9 z9 t9 j))) S w' ∧ (∀ j, ¬ (b + 14 ≤ j ∧ j < b + 31) → w' j = w j) ∧ sz' = sz)) ([.ref (b + 14), .int (nI x9), .int (nI o9), .int z9, .int t9]).toArray s 0 0 (fun q => B ≤ q)) (F0 m 50 ls []) := by
                  intro d
                  induction d using Nat.strongRecOn with
                  | ind d ihlp9 =>
                    intro k w10 H locs ls hd hP hz hS frw10 fw10_0 hk hl
                    have huk := dm_pass_1000 (R := dm_upto (ld_f N S v9 x9 o9 z9 t9) k) hgb
                    have hMu : mo_I b cI cZ (va_up N 15 (fun j => dm_ph ((dm_pass (dm_upto (ld_f N S v9 x9 o9 z9 t9) k) g) j))) S w10 := mo_mk ((frw10 _ (by omega)).trans ((frw6 _ (by omega)).trans ((fr4 _ (by omega)).trans ((frw2 _ (by omega)).trans (m0))))) ((frw10 _ (by omega)).trans ((frw6 _ (by omega)).trans ((fr4 _ (by omega)).trans ((frw2 _ (by omega)).trans (m1))))) ((frw10 _ (by omega)).trans ((frw6 _ (by omega)).trans ((fr4 _ (by omega)).trans ((frw2 _ (by omega)).trans (m2))))) ((frw10 _ (by omega)).trans ((frw6 _ (by omega)).trans ((fr4 _ (by omega)).trans ((frw2 _ (by omega)).trans (m3))))) ((frw10 _ (by omega)).trans ((frw6 _ (by omega)).trans ((fr4 _ (by omega)).trans ((frw2 _ (by omega)).trans (m4))))) ((frw10 _ (by omega)).trans ((frw6 _ (by omega)).trans ((fr4 _ (by omega)).trans ((frw2 _ (by omega)).trans (m5))))) ((frw10 _ (by omega)).trans ((frw6 _ (by omega)).trans ((fr4 _ (by omega)).trans ((frw2 _ (by omega)).trans (m6))))) ((frw10 _ (by omega)).trans ((frw6 _ (by omega)).trans ((fr4 _ (by omega)).trans ((frw2 _ (by omega)).trans (m7))))) ((frw10 _ (by omega)).trans ((frw6 _ (by omega)).trans ((fr4 _ (by omega)).trans ((frw2 _ (by omega)).trans (m8))))) ((frw10 _ (by omega)).trans ((frw6 _ (by omega)).trans ((fr4 _ (by omega)).trans ((frw2 _ (by omega)).trans (m9))))) ((frw10 _ (by omega)).trans ((frw6 _ (by omega)).trans ((fr4 _ (by omega)).trans ((frw2 _ (by omega)).trans (m10))))) ((frw10 _ (by omega)).trans ((frw6 _ (by omega)).trans ((fr4 _ (by omega)).trans ((frw2 _ (by omega)).trans (m11))))) ((frw10 _ (by omega)).trans ((frw6 _ (by omega)).trans ((fr4 _ (by omega)).trans ((frw2 _ (by omega)).trans (m12))))) ((frw10 _ (by omega)).trans ((frw6 _ (by omega)).trans ((fr4 _ (by omega)).trans ((frw2 _ (by omega)).trans (m13))))) ((frw10 _ (by omega)).trans ((frw6 _ (by omega)).trans ((fr4 _ (by omega)).trans ((frw2 _ (by omega)).trans (m14))))) fw10_0 ((frw10 _ (by omega)).trans ((frw6 _ (by omega)).trans ((fr4 _ (by omega)).trans ((frw2 _ (by omega)).trans (m16)))))
                    refine lv_iload hx hb d_Mod_findLeading_50 (lv_at hl 0 rfl) ?_
                    refine lv_aload_n hx hb d_Mod_findLeading_52 rfl (lv_at hl 3 rfl) ?_
                    have f11 := (frw10 _ (by omega)).trans ((frw6 _ (by omega)).trans ((fr4 _ (by omega)).trans ((frw2 _ (by omega)).trans (m0))))
                    refine mm_get (D := D) (C := n_Mod) (T := T_Mod) (N := 27) (v := .int (nI (N 0 0))) hx hb hts lay_Mod hown hK.1 hP f11 rfl 0 (by decide) (hts _ (List.mem_cons_of_mem _ wd_491)) (fun _ h9 => h9) rfl d_Mod_findLeading_53 ?_
                    refine lv_icmp_ge (tgt := 117) hx hb d_Mod_findLeading_56 (by decide) (fun cc12 => ?_) (fun cc12 => ?_)
                    · have cc12 : N 0 0 ≤ k := (nI_leI (by omega) (by omega)).mp cc12
                      obtain rfl : k = N 0 0 := by omega
                      refine lv_iinc (k := 2) (v := nI (r9 + 1)) hx hb d_Mod_findLeading_117 hl rfl (kk_inc _) (by decide) rfl (fun ls hl => ?_)
                      have hl : lv_has ls 9 [(6, .int (nI (r9 + 1))), (7, .int (nI (N 0 0))), (5, .int (nI (if dm_flag (ld_R N S v9 x9 o9 z9 t9) g = true then 1 else 0))), (0, .ref (b + 14)), (1, .int (nI x9)), (2, .int (nI o9)), (3, .int z9), (4, .int t9)] := hl
                      refine lv_goto (tgt := 32) hx hb d_Mod_findLeading_120 (by decide) ?_
                      exact ihlp5 _ (by omega) (r9 + 1) (dm_flag (ld_R N S v9 x9 o9 z9 t9) g) (dm_pass (ld_R N S v9 x9 o9 z9 t9) g) w10 _ _ ls rfl hP hz hS (fun j g0 => (frw10 j g0).trans (frw6 j g0)) fw10_0 (by omega) (dm_pass_1000 hgb) hI2 (lv_sub hl [0, 2, 3, 4, 5, 6, 7] rfl)
                    · have cc12 : ¬ (N 0 0 ≤ k) := fun q => cc12 ((nI_leI (by omega) (by omega)).mpr q)
                      have hj : k < N 0 0 := by omega
                      refine lv_aload_n hx hb d_Mod_findLeading_59 rfl (lv_at hl 3 rfl) ?_
                      refine lv_iload hx hb d_Mod_findLeading_60 (lv_at hl 0 rfl) ?_
                      refine lv_iload_n hx hb d_Mod_findLeading_62 rfl (lv_at hl 5 rfl) ?_
                      refine lv_iload_n hx hb d_Mod_findLeading_63 rfl (lv_at hl 6 rfl) ?_
                      refine lv_iload hx hb d_Mod_findLeading_64 (lv_at hl 7 rfl) ?_
                      refine vp_callSi (va_Run.run (va_runV (As := [.int (nI k), .int (nI o9), .int z9, .int t9]) (rest := []) ⟨hx, hb, hml, hown, hts⟩ (c_Mod_counts l (b := b) (N := (va_up N 15 (fun j => dm_ph ((dm_pass (dm_upto (ld_f N S v9 x9 o9 z9 t9) k) g) j)))) (S := S) hMu hn hR hj (by omega)) (cwV 4 hts (gW_in (hd := [_, _, _, _, _]) (kk_5 wd_659 wd_661 sl_Mod_counts wd_8 cw_Mod_counts)) rfl rfl rfl ⟨rfl, ds_Mod_counts⟩ ⟨Nat.le_of_ble_eq_true rfl, Nat.le_of_ble_eq_true rfl⟩) (kk_preV hK hP hz hBz f11 rfl) rfl rfl hl.1 rfl (lv_room (Nat.le_of_ble_eq_true rfl)) d_Mod_findLeading_66 ⟨Nat.le_of_ble_eq_true rfl, Nat.le_of_ble_eq_true rfl⟩)) (fun r13 hr13 => ?_)
                      subst hr13
                      refine lv_if_eq (tgt := 82) hx hb d_Mod_findLeading_69 (by decide) (fun cc14 => ?_) (fun cc14 => ?_)
                      · have cc14 := kk_b0 cc14
                        have hok : ¬ ld_ok N S o9 z9 t9 k := cc14
                        refine lv_sipush (v := nI 5000) hx hb d_Mod_findLeading_82 (by decide) ?_
                        refine lv_istore hx hb d_Mod_findLeading_85 hl (by decide) rfl (fun ls hl => ?_)
                        have hl : lv_has ls 9 [(8, .int (nI 5000)), (7, .int (nI k)), (5, .int (nI (if dm_flag (dm_upto (ld_f N S v9 x9 o9 z9 t9) k) g = true then 1 else 0))), (6, .int (nI r9)), (0, .ref (b + 14)), (1, .int (nI x9)), (2, .int (nI o9)), (3, .int z9), (4, .int t9)] := hl
                        refine lv_iload hx hb d_Mod_findLeading_87 (lv_at hl 0 rfl) ?_
                        refine lv_aload_n hx hb d_Mod_findLeading_89 rfl (lv_at hl 4 rfl) ?_
                        refine mm_get (D := D) (C := n_Mod) (T := T_Mod) (N := 27) (v := .ref (b + 29)) hx hb hts lay_Mod hown hK.1 hP f11 rfl 15 (by decide) (hts _ (List.mem_cons_of_mem _ wd_506)) (fun _ h9 => h9) rfl d_Mod_findLeading_90 ?_
                        refine lv_iload hx hb d_Mod_findLeading_93 (lv_at hl 1 rfl) ?_
                        refine mm_iald hx hb hK.1 hP 0 fw10_0 rfl k rfl (by omega) (by decide) d_Mod_findLeading_95 ?_
                        refine W.eq (g2 := F0 m 96 ls [.int (nI (dm_ph ((dm_pass (dm_upto (ld_f N S v9 x9 o9 z9 t9) k) g) k))), .int (nI 5000)]) rfl ?_
                        have hq3 := huk k
                        have hq5 := dm_ph_le ((dm_pass (dm_upto (ld_f N S v9 x9 o9 z9 t9) k) g) k)
                        have hq2 := ld_v_le N v9 x9 k (dm_L (N 3) (dm_pass (dm_upto (ld_f N S v9 x9 o9 z9 t9) k) g) (N 0 0))
                        have hq4 := dm_ph_le (ld_v N v9 x9 k (dm_L (N 3) (dm_pass (dm_upto (ld_f N S v9 x9 o9 z9 t9) k) g) (N 0 0)))
                        refine lv_icmp_ge (tgt := 111) hx hb d_Mod_findLeading_96 (by decide) (fun cc15 => ?_) (fun cc15 => ?_)
                        · have cc15 : dm_ph ((dm_pass (dm_upto (ld_f N S v9 x9 o9 z9 t9) k) g) k) ≤ 5000 := (nI_leI (by omega) (by omega)).mp cc15
                          have e1 := dm_none (f := ld_f N S v9 x9 o9 z9 t9) (g := g) (k := k) (if_neg hok)
                          rw [← e1.2] at hl
                          refine lv_iinc (k := 1) (v := nI (k + 1)) hx hb d_Mod_findLeading_111 hl rfl (kk_inc _) (by decide) rfl (fun ls hl => ?_)
                          have hl : lv_has ls 9 [(7, .int (nI (k + 1))), (8, .int (nI 5000)), (5, .int (nI (if dm_flag (dm_upto (ld_f N S v9 x9 o9 z9 t9) (k + 1)) g = true then 1 else 0))), (6, .int (nI r9)), (0, .ref (b + 14)), (1, .int (nI x9)), (2, .int (nI o9)), (3, .int z9), (4, .int t9)] := hl
                          refine lv_goto (tgt := 50) hx hb d_Mod_findLeading_114 (by decide) ?_
                          exact ihlp9 _ (by omega) (k + 1) w10 _ _ ls rfl hP hz hS (fun j g0 => frw10 j g0) (by rw [e1.1]; exact fw10_0) (by omega) (lv_sub hl [0, 2, 3, 4, 5, 6, 7, 8] rfl)
                        · have cc15 : ¬ (dm_ph ((dm_pass (dm_upto (ld_f N S v9 x9 o9 z9 t9) k) g) k) ≤ 5000) := fun q => cc15 ((nI_leI (by omega) (by omega)).mpr q)
                          exact absurd cc15 (by omega)
                      · have cc14 := kk_b1 cc14
                        have hok : ld_ok N S o9 z9 t9 k := cc14
                        refine lv_aload_n hx hb d_Mod_findLeading_72 rfl (lv_at hl 3 rfl) ?_
                        refine lv_iload hx hb d_Mod_findLeading_73 (lv_at hl 0 rfl) ?_
                        refine lv_iload_n hx hb d_Mod_findLeading_75 rfl (lv_at hl 4 rfl) ?_
                        refine vp_callSi (va_Run.run (va_runV (As := [.int (nI k), .int (nI x9)]) (rest := []) ⟨hx, hb, hml, hown, hts⟩ (c_Mod_byCertificate l (b := b) (N := (va_up N 15 (fun j => dm_ph ((dm_pass (dm_upto (ld_f N S v9 x9 o9 z9 t9) k) g) j)))) (S := S) (v9 := v9) (u9 := (dm_pass (dm_upto (ld_f N S v9 x9 o9 z9 t9) k) g)) hMu hn hR hj (by omega) h14 hv rfl huk) (cwV 2 hts (gW_in (hd := [_, _, _, _, _]) (kk_5 wd_663 wd_665 sl_Mod_byCertificate wd_8 cw_Mod_byCertificate)) rfl rfl rfl ⟨rfl, ds_Mod_byCertificate⟩ ⟨Nat.le_of_ble_eq_true rfl, Nat.le_of_ble_eq_true rfl⟩) (kk_preV hK hP hz hBz f11 rfl) rfl rfl hl.1 rfl (lv_room (Nat.le_of_ble_eq_true rfl)) d_Mod_findLeading_76 ⟨Nat.le_of_ble_eq_true rfl, Nat.le_of_ble_eq_true rfl⟩)) (fun r16 hr16 => ?_)
                        subst hr16
                        refine lv_goto (tgt := 85) hx hb d_Mod_findLeading_79 (by decide) ?_
                        refine lv_istore hx hb d_Mod_findLeading_85 hl (by decide) rfl (fun ls hl => ?_)
                        have hl : lv_has ls 9 [(8, .int (nI (dm_ph (ld_v N v9 x9 k (dm_L (N 3) (dm_pass (dm_upto (ld_f N S v9 x9 o9 z9 t9) k) g) (N 0 0)))))), (7, .int (nI k)), (5, .int (nI (if dm_flag (dm_upto (ld_f N S v9 x9 o9 z9 t9) k) g = true then 1 else 0))), (6, .int (nI r9)), (0, .ref (b + 14)), (1, .int (nI x9)), (2, .int (nI o9)), (3, .int z9), (4, .int t9)] := hl
                        refine lv_iload hx hb d_Mod_findLeading_87 (lv_at hl 0 rfl) ?_
                        refine lv_aload_n hx hb d_Mod_findLeading_89 rfl (lv_at hl 4 rfl) ?_
                        refine mm_get (D := D) (C := n_Mod) (T := T_Mod) (N := 27) (v := .ref (b + 29)) hx hb hts lay_Mod hown hK.1 hP f11 rfl 15 (by decide) (hts _ (List.mem_cons_of_mem _ wd_506)) (fun _ h9 => h9) rfl d_Mod_findLeading_90 ?_
                        refine lv_iload hx hb d_Mod_findLeading_93 (lv_at hl 1 rfl) ?_
                        refine mm_iald hx hb hK.1 hP 0 fw10_0 rfl k rfl (by omega) (by decide) d_Mod_findLeading_95 ?_
                        refine W.eq (g2 := F0 m 96 ls [.int (nI (dm_ph ((dm_pass (dm_upto (ld_f N S v9 x9 o9 z9 t9) k) g) k))), .int (nI (dm_ph (ld_v N v9 x9 k (dm_L (N 3) (dm_pass (dm_upto (ld_f N S v9 x9 o9 z9 t9) k) g) (N 0 0)))))]) rfl ?_
                        have hq3 := huk k
                        have hq5 := dm_ph_le ((dm_pass (dm_upto (ld_f N S v9 x9 o9 z9 t9) k) g) k)
                        have hq2 := ld_v_le N v9 x9 k (dm_L (N 3) (dm_pass (dm_upto (ld_f N S v9 x9 o9 z9 t9) k) g) (N 0 0))
                        have hq4 := dm_ph_le (ld_v N v9 x9 k (dm_L (N 3) (dm_pass (dm_upto (ld_f N S v9 x9 o9 z9 t9) k) g) (N 0 0)))
                        refine lv_icmp_ge (tgt := 111) hx hb d_Mod_findLeading_96 (by decide) (fun cc17 => ?_) (fun cc17 => ?_)
                        · have cc17 : dm_ph ((dm_pass (dm_upto (ld_f N S v9 x9 o9 z9 t9) k) g) k) ≤ dm_ph (ld_v N v9 x9 k (dm_L (N 3) (dm_pass (dm_upto (ld_f N S v9 x9 o9 z9 t9) k) g) (N 0 0))) := (nI_leI (by omega) (by omega)).mp cc17
                          have e1 := dm_one_f (f := ld_f N S v9 x9 o9 z9 t9) (g := g) (k := k) (t := k) (F := fun u => ld_v N v9 x9 k (dm_L (N 3) u (N 0 0))) (if_pos hok) (Nat.not_lt.mpr ((dm_ph_le_iff hq3 hq2).mp cc17))
                          rw [← e1.2] at hl
                          refine lv_iinc (k := 1) (v := nI (k + 1)) hx hb d_Mod_findLeading_111 hl rfl (kk_inc _) (by decide) rfl (fun ls hl => ?_)
                          have hl : lv_has ls 9 [(7, .int (nI (k + 1))), (8, .int (nI (dm_ph (ld_v N v9 x9 k (dm_L (N 3) (dm_pass (dm_upto (ld_f N S v9 x9 o9 z9 t9) k) g) (N 0 0)))))), (5, .int (nI (if dm_flag (dm_upto (ld_f N S v9 x9 o9 z9 t9) (k + 1)) g = true then 1 else 0))), (6, .int (nI r9)), (0, .ref (b + 14)), (1, .int (nI x9)), (2, .int (nI o9)), (3, .int z9), (4, .int t9)] := hl
                          refine lv_goto (tgt := 50) hx hb d_Mod_findLeading_114 (by decide) ?_
                          exact ihlp9 _ (by omega) (k + 1) w10 _ _ ls rfl hP hz hS (fun j g0 => frw10 j g0) (by rw [e1.1]; exact fw10_0) (by omega) (lv_sub hl [0, 2, 3, 4, 5, 6, 7, 8] rfl)
                        · have cc17 : ¬ (dm_ph ((dm_pass (dm_upto (ld_f N S v9 x9 o9 z9 t9) k) g) k) ≤ dm_ph (ld_v N v9 x9 k (dm_L (N 3) (dm_pass (dm_upto (ld_f N S v9 x9 o9 z9 t9) k) g) (N 0 0)))) := fun q => cc17 ((nI_leI (by omega) (by omega)).mpr q)
                          have e1 := dm_one_t (f := ld_f N S v9 x9 o9 z9 t9) (g := g) (k := k) (t := k) (F := fun u => ld_v N v9 x9 k (dm_L (N 3) u (N 0 0))) (if_pos hok) (Nat.lt_of_not_le (fun q => cc17 ((dm_ph_le_iff hq3 hq2).mpr q)))
                          refine lv_aload_n hx hb d_Mod_findLeading_99 rfl (lv_at hl 4 rfl) ?_
                          refine mm_get (D := D) (C := n_Mod) (T := T_Mod) (N := 27) (v := .ref (b + 29)) hx hb hts lay_Mod hown hK.1 hP f11 rfl 15 (by decide) (hts _ (List.mem_cons_of_mem _ wd_506)) (fun _ h9 => h9) rfl d_Mod_findLeading_100 ?_
                          refine lv_iload hx hb d_Mod_findLeading_103 (lv_at hl 1 rfl) ?_
                          refine lv_iload hx hb d_Mod_findLeading_105 (lv_at hl 0 rfl) ?_
                          refine mm_iast hx hb hK.1 hP hS 0 fw10_0 rfl k rfl (by omega) (by decide) d_Mod_findLeading_107 (fun H locs hP hz1 hS => ?_)
                          rw [show upd (fun i => nI (dm_ph ((dm_pass (dm_upto (ld_f N S v9 x9 o9 z9 t9) k) g) i))) k (nI (dm_ph (ld_v N v9 x9 k (dm_L (N 3) (dm_pass (dm_upto (ld_f N S v9 x9 o9 z9 t9) k) g) (N 0 0))))) = fun i => nI (dm_ph ((va_up (dm_pass (dm_upto (ld_f N S v9 x9 o9 z9 t9) k) g) k (ld_v N v9 x9 k (dm_L (N 3) (dm_pass (dm_upto (ld_f N S v9 x9 o9 z9 t9) k) g) (N 0 0)))) i)) from kk_upp _ _ _] at hP
                          have hz : H.size = sz := hz1.trans hz
                          obtain ⟨w18, hw18⟩ : ∃ z : mm_M, z = mm_up w10 (b + 29) (.inl (cI, 24, .inl (fun i => nI (dm_ph ((va_up (dm_pass (dm_upto (ld_f N S v9 x9 o9 z9 t9) k) g) k (ld_v N v9 x9 k (dm_L (N 3) (dm_pass (dm_upto (ld_f N S v9 x9 o9 z9 t9) k) g) (N 0 0)))) i))))) := ⟨_, rfl⟩
                          have hP : mm_P B D kc w18 H := by rw [hw18]; exact hP
                          have fr18 : ∀ j, j ≠ b + 29 → w18 j = w10 j := fun j h9 => by rw [hw18]; exact mm_un h9
                          have fa18 : w18 (b + 29) = some (.inl (cI, 24, .inl (fun i => nI (dm_ph ((va_up (dm_pass (dm_upto (ld_f N S v9 x9 o9 z9 t9) k) g) k (ld_v N v9 x9 k (dm_L (N 3) (dm_pass (dm_upto (ld_f N S v9 x9 o9 z9 t9) k) g) (N 0 0)))) i))))) := by rw [hw18]; exact mm_us _ _ _
                          refine lv_iconst (v := nI 1) hx hb d_Mod_findLeading_108 (by decide) ?_
                          refine kk_top (y := nI (if dm_flag (dm_upto (ld_f N S v9 x9 o9 z9 t9) (k + 1)) g = true then 1 else 0)) (kk_ift e1.2) ?_
                          refine lv_istore hx hb d_Mod_findLeading_109 hl (by decide) rfl (fun ls hl => ?_)
                          have hl : lv_has ls 9 [(5, .int (nI (if dm_flag (dm_upto (ld_f N S v9 x9 o9 z9 t9) (k + 1)) g = true then 1 else 0))), (8, .int (nI (dm_ph (ld_v N v9 x9 k (dm_L (N 3) (dm_pass (dm_upto (ld_f N S v9 x9 o9 z9 t9) k) g) (N 0 0)))))), (7, .int (nI k)), (6, .int (nI r9)), (0, .ref (b + 14)), (1, .int (nI x9)), (2, .int (nI o9)), (3, .int z9), (4, .int t9)] := hl
                          refine lv_iinc (k := 2) (v := nI (k + 1)) hx hb d_Mod_findLeading_111 hl rfl (kk_inc _) (by decide) rfl (fun ls hl => ?_)
                          have hl : lv_has ls 9 [(7, .int (nI (k + 1))), (5, .int (nI (if dm_flag (dm_upto (ld_f N S v9 x9 o9 z9 t9) (k + 1)) g = true then 1 else 0))), (8, .int (nI (dm_ph (ld_v N v9 x9 k (dm_L (N 3) (dm_pass (dm_upto (ld_f N S v9 x9 o9 z9 t9) k) g) (N 0 0)))))), (6, .int (nI r9)), (0, .ref (b + 14)), (1, .int (nI x9)), (2, .int (nI o9)), (3, .int z9), (4, .int t9)] := hl
                          refine lv_goto (tgt := 50) hx hb d_Mod_findLeading_114 (by decide) ?_
                          exact ihlp9 _ (by omega) (k + 1) w18 _ _ ls rfl hP hz hS (fun j g0 => (fr18 j g0).trans (frw10 j g0)) (by rw [e1.1]; exact fa18) (by omega) (lv_sub hl [0, 1, 3, 4, 5, 6, 7, 8] rfl)
                exact lp9 _ 0 w6 _ _ _ rfl hP hz hS (fun _ _ => rfl) fw6_0 (by omega) (lv_sub hl [0, 1, 2, 3, 4, 5, 6, 7] rfl)
        exact lp5 _ 0 true (fun _ => 1000) w4 _ _ _ rfl hP hz hS (fun _ _ => rfl) fa4 (by omega) (fun _ => Nat.le_refl _) (if_pos rfl) (lv_sub hl [0, 1, 2, 3, 4, 5, 6] rfl)
      · have cc3 : ¬ (24 ≤ k) := fun q => cc3 ((nI_leI (by omega) (by omega)).mpr q)
        refine lv_aload_n hx hb d_Mod_findLeading_10 rfl (lv_at hl 1 rfl) ?_
        have f19 := (frw2 _ (by omega)).trans (m0)
        refine mm_get (D := D) (C := n_Mod) (T := T_Mod) (N := 27) (v := .ref (b + 29)) hx hb hts lay_Mod hown hK.1 hP f19 rfl 15 (by decide) (hts _ (List.mem_cons_of_mem _ wd_506)) (fun _ h9 => h9) rfl d_Mod_findLeading_11 ?_
        refine lv_iload hx hb d_Mod_findLeading_14 (lv_at hl 0 rfl) ?_
        refine lv_sipush (v := nI 5000) hx hb d_Mod_findLeading_16 (by decide) ?_
        refine mm_iast hx hb hK.1 hP hS 0 fw2_0 rfl k rfl (by omega) (by decide) d_Mod_findLeading_19 (fun H locs hP hz1 hS => ?_)
        rw [show upd (fun i => nI ((fun j => if j < k then 5000 else N 15 j) i)) k (nI 5000) = fun i => nI ((va_up (fun j => if j < k then 5000 else N 15 j) k 5000) i) from kk_upn _ _ _] at hP
        have hz : H.size = sz := hz1.trans hz
        obtain ⟨w20, hw20⟩ : ∃ z : mm_M, z = mm_up w2 (b + 29) (.inl (cI, 24, .inl (fun i => nI ((va_up (fun j => if j < k then 5000 else N 15 j) k 5000) i)))) := ⟨_, rfl⟩
        have hP : mm_P B D kc w20 H := by rw [hw20]; exact hP
        have fr20 : ∀ j, j ≠ b + 29 → w20 j = w2 j := fun j h9 => by rw [hw20]; exact mm_un h9
        have fa20 : w20 (b + 29) = some (.inl (cI, 24, .inl (fun i => nI ((va_up (fun j => if j < k then 5000 else N 15 j) k 5000) i)))) := by rw [hw20]; exact mm_us _ _ _
        refine lv_iinc (k := 0) (v := nI (k + 1)) hx hb d_Mod_findLeading_20 hl rfl (kk_inc _) (by decide) rfl (fun ls hl => ?_)
        have hl : lv_has ls 9 [(5, .int (nI (k + 1))), (0, .ref (b + 14)), (1, .int (nI x9)), (2, .int (nI o9)), (3, .int z9), (4, .int t9)] := hl
        refine lv_goto (tgt := 3) hx hb d_Mod_findLeading_23 (by decide) ?_
        exact ih _ (by omega) (k + 1) w20 _ _ ls rfl hP hz hS (fun j g0 => (fr20 j g0).trans (frw2 j g0)) (by rw [← ru_fill]; exact fa20) (by omega) (lv_sub hl [0, 1, 2, 3, 4, 5] rfl)
  exact lp1 _ 0 w _ _ _ rfl hP hz hS (fun _ _ => rfl) m15 (by omega) (lv_sub hl [0, 1, 2, 3, 4, 5] rfl)
