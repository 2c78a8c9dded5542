theorem d_Mod_findMeanings_0 : decode k_Mod_findMeanings 0 = .ok (.iconst 0, 1) := by decide +kernel
theorem d_Mod_findMeanings_1 : decode k_Mod_findMeanings 1 = .ok (.istore_n 2, 1) := by decide +kernel
theorem d_Mod_findMeanings_2 : decode k_Mod_findMeanings 2 = .ok (.iload_n 2, 1) := by decide +kernel
theorem d_Mod_findMeanings_3 : decode k_Mod_findMeanings 3 = .ok (.sipush 256, 3) := by decide +kernel
theorem d_Mod_findMeanings_6 : decode k_Mod_findMeanings 6 = .ok (.if_icmp .ge 18, 3) := by decide +kernel
theorem d_Mod_findMeanings_9 : decode k_Mod_findMeanings 9 = .ok (.aload_n 0, 1) := by decide +kernel
theorem d_Mod_findMeanings_10 : decode k_Mod_findMeanings 10 = .ok (.getfield 50, 3) := by decide +kernel
theorem d_Mod_findMeanings_13 : decode k_Mod_findMeanings 13 = .ok (.iload_n 2, 1) := by decide +kernel
theorem d_Mod_findMeanings_14 : decode k_Mod_findMeanings 14 = .ok (.sipush 5000, 3) := by decide +kernel
theorem d_Mod_findMeanings_17 : decode k_Mod_findMeanings 17 = .ok (.iastore, 1) := by decide +kernel
theorem d_Mod_findMeanings_18 : decode k_Mod_findMeanings 18 = .ok (.iinc 2 1, 3) := by decide +kernel
theorem d_Mod_findMeanings_21 : decode k_Mod_findMeanings 21 = .ok (.goto (-19), 3) := by decide +kernel
theorem d_Mod_findMeanings_24 : decode k_Mod_findMeanings 24 = .ok (.iconst 1, 1) := by decide +kernel
theorem d_Mod_findMeanings_25 : decode k_Mod_findMeanings 25 = .ok (.istore_n 2, 1) := by decide +kernel
theorem d_Mod_findMeanings_26 : decode k_Mod_findMeanings 26 = .ok (.iconst 0, 1) := by decide +kernel
theorem d_Mod_findMeanings_27 : decode k_Mod_findMeanings 27 = .ok (.istore_n 3, 1) := by decide +kernel
theorem d_Mod_findMeanings_28 : decode k_Mod_findMeanings 28 = .ok (.iload_n 3, 1) := by decide +kernel
theorem d_Mod_findMeanings_29 : decode k_Mod_findMeanings 29 = .ok (.sipush 300, 3) := by decide +kernel
theorem d_Mod_findMeanings_32 : decode k_Mod_findMeanings 32 = .ok (.if_icmp .ge 19, 3) := by decide +kernel
theorem d_Mod_findMeanings_35 : decode k_Mod_findMeanings 35 = .ok (.iload_n 2, 1) := by decide +kernel
theorem d_Mod_findMeanings_36 : decode k_Mod_findMeanings 36 = .ok (.ifCond .eq 15, 3) := by decide +kernel
theorem d_Mod_findMeanings_39 : decode k_Mod_findMeanings 39 = .ok (.aload_n 0, 1) := by decide +kernel
theorem d_Mod_findMeanings_40 : decode k_Mod_findMeanings 40 = .ok (.iload_n 1, 1) := by decide +kernel
theorem d_Mod_findMeanings_41 : decode k_Mod_findMeanings 41 = .ok (.invokevirtual 98, 3) := by decide +kernel
theorem d_Mod_findMeanings_44 : decode k_Mod_findMeanings 44 = .ok (.istore_n 2, 1) := by decide +kernel
theorem d_Mod_findMeanings_45 : decode k_Mod_findMeanings 45 = .ok (.iinc 3 1, 3) := by decide +kernel
theorem d_Mod_findMeanings_48 : decode k_Mod_findMeanings 48 = .ok (.goto (-20), 3) := by decide +kernel
theorem d_Mod_findMeanings_51 : decode k_Mod_findMeanings 51 = .ok (.return_, 1) := by decide +kernel
set_option maxHeartbeats 4000000 in
set_option maxRecDepth 100000 in
theorem c_Mod_findMeanings (l : Launch) {B : Nat} {D : va_G} {cI cZ cQ : ClassId} {w : mm_M} {sz : Nat} {b : Nat} {N : Nat → Nat → Nat} {S : Nat → Nat → Int32} {t : Int32} (hM : mo_I b cI cZ N S w) (hn : N 0 0 ≤ 24) (hR : rg_I N) : Met l y_Mod_findMeanings ws_Mod_findMeanings (kk_rm 4 0 0) (kk_Pc B D cI cZ cQ [.ref (b + 14), .int t] w sz) (kk_Qv B D (fun w' sz' => mo_I b cI cZ (va_up N 14 (fun j => dm_ph (dm_run (ru_M N S t) 300 (fun _ => 1000) j))) S w' ∧ (∀ j, ¬ (b + 14 ≤ j ∧ j < b + 31) → w' j = w j) ∧ sz' = sz)) 0 0 (fun q => B ≤ q) := by
  refine Met.ofW (cc := k_Mod_findMeanings) (maxL := 4) (ret := none) (by decide) rfl ?_
  intro p e s m args below meth c s₁ BB hml hv
  obtain ⟨rfl, hK, hP, hz, hBz⟩ := hv
  have hx := BB.exec
  have hb := BB.bytes
  have hr := BB.returns
  have hts := atoms_spec (ws := ws_Mod_findMeanings) BB.pre
  have hown : s.vm.findClass "DelegationClosureModel" = some m.cls := findClass_of_methodNamed BB.named
  have hlocks := BB.notSynchronized
  have hS : mm_S B s.heap s.heap [] := va_S.rf
  have hl := lv_entry ([.ref (b + 14), .int t]) (n := 4) (Nat.le_of_ble_eq_true rfl)
  rw [lg_entry_eq]
  generalize (lg_sl ([.ref (b + 14), .int t]) ++ List.replicate (4 - (lg_sl ([.ref (b + 14), .int t])).length) Slot.unset).toArray = ls at hl ⊢
  have hl : lv_has ls 4 [(0, .ref (b + 14)), (1, .int t)] := hl
  have m0 : w (b + 14) = some (.inr (9, [.int (nI (N 0 0)), .ref (b + 15), .ref (b + 16), .ref (b + 17), .ref (b + 18), .ref (b + 19), .ref (b + 20), .ref (b + 21), .ref (b + 22), .ref (b + 23), .ref (b + 24), .ref (b + 25), .ref (b + 26), .ref (b + 27), .ref (b + 28), .ref (b + 29), .int (nI (N 16 0)), .int (nI (N 17 0)), .int (nI (N 18 0)), .ref (b + 30), .int (nI (N 20 0)), .int (S 21 0), .int (S 22 0), .int (S 23 0), .int (S 24 0), .int (nI (N 25 0)), .int (nI (N 26 0))])) := hM.1
  have m1 : w (b + 15) = some (.inl (cZ, 24, .inl (fun i => nI ((N 1) i)))) := hM.2 1 (by decide) (by decide)
  have m2 : w (b + 16) = some (.inl (cZ, 24, .inl (fun i => nI ((N 2) i)))) := hM.2 2 (by decide) (by decide)
  have m3 : w (b + 17) = some (.inl (cI, 24, .inl (fun i => nI ((N 3) i)))) := hM.2 3 (by decide) (by decide)
  have m4 : w (b + 18) = some (.inl (cI, 24, .inl (fun i => nI ((N 4) i)))) := hM.2 4 (by decide) (by decide)
  have m5 : w (b + 19) = some (.inl (cI, 24, .inl (S 5))) := hM.2 5 (by decide) (by decide)
  have m6 : w (b + 20) = some (.inl (cI, 24, .inl (S 6))) := hM.2 6 (by decide) (by decide)
  have m7 : w (b + 21) = some (.inl (cI, 72, .inl (fun i => nI ((N 7) i)))) := hM.2 7 (by decide) (by decide)
  have m8 : w (b + 22) = some (.inl (cI, 24, .inl (fun i => nI ((N 8) i)))) := hM.2 8 (by decide) (by decide)
  have m9 : w (b + 23) = some (.inl (cI, 24, .inl (fun i => nI ((N 9) i)))) := hM.2 9 (by decide) (by decide)
  have m10 : w (b + 24) = some (.inl (cI, 24, .inl (fun i => nI ((N 10) i)))) := hM.2 10 (by decide) (by decide)
  have m11 : w (b + 25) = some (.inl (cI, 24, .inl (S 11))) := hM.2 11 (by decide) (by decide)
  have m12 : w (b + 26) = some (.inl (cI, 24, .inl (S 12))) := hM.2 12 (by decide) (by decide)
  have m13 : w (b + 27) = some (.inl (cZ, 24, .inl (fun i => nI ((N 13) i)))) := hM.2 13 (by decide) (by decide)
  have m14 : w (b + 28) = some (.inl (cI, 256, .inl (fun i => nI ((N 14) i)))) := hM.2 14 (by decide) (by decide)
  have m15 : w (b + 29) = some (.inl (cI, 24, .inl (fun i => nI ((N 15) i)))) := hM.2 15 (by decide) (by decide)
  have m16 : w (b + 30) = some (.inl (cI, 5, .inl (fun i => nI ((N 19) i)))) := hM.2 16 (by decide) (by decide)
  refine lv_iconst (v := nI 0) hx hb d_Mod_findMeanings_0 (by decide) ?_
  refine lv_istore_n hx hb d_Mod_findMeanings_1 rfl hl (by decide) rfl (fun ls hl => ?_)
  have hl : lv_has ls 4 [(2, .int (nI 0)), (0, .ref (b + 14)), (1, .int t)] := hl
  have lp1 : ∀ (d : Nat) (k : Nat) (w2 : mm_M) (H : Heap) (locs : List Loc) (ls : Array Slot), d = 256 - k → (mm_P B D kc w2 H) → (H.size = sz) → (mm_S B s.heap H locs) → (∀ j, j ≠ b + 28 → w2 j = w j) → (w2 (b + 28) = some (.inl (cI, 256, .inl (fun i => nI ((fun j => if j < k then 5000 else N 14 j) i))))) → (k ≤ 256) → lv_has ls 4 [(2, .int (nI k)), (0, .ref (b + 14)), (1, .int t)] → W p l e (headSpec ws_Mod_findMeanings (kk_rm 4 0 0)).room s m ([.ref (b + 14), .int t]).toArray below meth c H locs 0 0 (MQ below (kk_Qv B D (fun w' sz' => mo_I b cI cZ (va_up N 14 (fun j => dm_ph (dm_run (ru_M N S t) 300 (fun _ => 1000) j))) S w' ∧ (∀ j, ¬ (b + 14 ≤ j ∧ j < b + 31) → w' j = w j) ∧ sz' = sz)) ([.ref (b + 14), .int t]).toArray s 0 0 (fun q => B ≤ q)) (F0 m 2 ls []) := by
    intro d
    induction d using Nat.strongRecOn with
    | ind d ih =>
      intro k w2 H locs ls hd hP hz hS frw2 fw2_0 hk hl
      refine lv_iload_n hx hb d_Mod_findMeanings_2 rfl (lv_at hl 0 rfl) ?_
      refine lv_sipush (v := nI 256) hx hb d_Mod_findMeanings_3 (by decide) ?_
      refine lv_icmp_ge (tgt := 24) hx hb d_Mod_findMeanings_6 (by decide) (fun cc3 => ?_) (fun cc3 => ?_)
      · have cc3 : 256 ≤ k := (nI_leI (by omega) (by omega)).mp cc3
        have hP := hP.norm (g := fun i => nI (dm_ph ((fun _ => 1000) i))) fw2_0 (fun j hj => by show nI (if j < k then 5000 else N 14 j) = nI (dm_ph 1000); rw [if_pos (by omega)]; rfl)
        obtain ⟨w4, hw4⟩ : ∃ z : mm_M, z = mm_up w2 (b + 28) (.inl (cI, 256, .inl (fun i => nI (dm_ph ((fun _ => 1000) i))))) := ⟨_, rfl⟩
        have hP : mm_P B D kc w4 H := by rw [hw4]; exact hP
        have fr4 : ∀ j, j ≠ b + 28 → w4 j = w2 j := fun j h9 => by rw [hw4]; exact mm_un h9
        have fa4 : w4 (b + 28) = some (.inl (cI, 256, .inl (fun i => nI (dm_ph ((fun _ => 1000) i))))) := by rw [hw4]; exact mm_us _ _ _
        refine lv_iconst (v := nI 1) hx hb d_Mod_findMeanings_24 (by decide) ?_
        refine lv_istore_n hx hb d_Mod_findMeanings_25 rfl hl (by decide) rfl (fun ls hl => ?_)
        have hl : lv_has ls 4 [(2, .int (nI 1)), (0, .ref (b + 14)), (1, .int t)] := hl
        refine lv_iconst (v := nI 0) hx hb d_Mod_findMeanings_26 (by decide) ?_
        refine lv_istore_n hx hb d_Mod_findMeanings_27 rfl hl (by decide) rfl (fun ls hl => ?_)
        have hl : lv_has ls 4 [(3, .int (nI 0)), (2, .int (nI 1)), (0, .ref (b + 14)), (1, .int t)] := hl
        have lp5 : ∀ (d : Nat) (r9 : Nat) (bt : Bool) (g : Nat → Nat) (w6 : mm_M) (H : Heap) (locs : List Loc) (ls : Array Slot), d = 300 - r9 → (mm_P B D kc w6 H) → (H.size = sz) → (mm_S B s.heap H locs) → (∀ j, ¬ (b + 14 ≤ j ∧ j < b + 31) → w6 j = w4 j) → (w6 (b + 14) = some (.inr (9, [.int (nI (N 0 0)), .ref (b + 15), .ref (b + 16), .ref (b + 17), .ref (b + 18), .ref (b + 19), .ref (b + 20), .ref (b + 21), .ref (b + 22), .ref (b + 23), .ref (b + 24), .ref (b + 25), .ref (b + 26), .ref (b + 27), .ref (b + 28), .ref (b + 29), .int (nI (N 16 0)), .int (nI (N 17 0)), .int (nI (N 18 0)), .ref (b + 30), .int (nI (N 20 0)), .int (S 21 0), .int (S 22 0), .int (S 23 0), .int (S 24 0), .int (nI (N 25 0)), .int (nI (N 26 0))]))) → (w6 (b + 15) = some (.inl (cZ, 24, .inl (fun i => nI ((N 1) i))))) → (w6 (b + 16) = some (.inl (cZ, 24, .inl (fun i => nI ((N 2) i))))) → (w6 (b + 17) = some (.inl (cI, 24, .inl (fun i => nI ((N 3) i))))) → (w6 (b + 18) = some (.inl (cI, 24, .inl (fun i => nI ((N 4) i))))) → (w6 (b + 19) = some (.inl (cI, 24, .inl (S 5)))) → (w6 (b + 20) = some (.inl (cI, 24, .inl (S 6)))) → (w6 (b + 21) = some (.inl (cI, 72, .inl (fun i => nI ((N 7) i))))) → (w6 (b + 22) = some (.inl (cI, 24, .inl (fun i => nI ((N 8) i))))) → (w6 (b + 23) = some (.inl (cI, 24, .inl (fun i => nI ((N 9) i))))) → (w6 (b + 24) = some (.inl (cI, 24, .inl (fun i => nI ((N 10) i))))) → (w6 (b + 25) = some (.inl (cI, 24, .inl (S 11)))) → (w6 (b + 26) = some (.inl (cI, 24, .inl (S 12)))) → (w6 (b + 27) = some (.inl (cZ, 24, .inl (fun i => nI ((N 13) i))))) → (w6 (b + 28) = some (.inl (cI, 256, .inl (fun i => nI (dm_ph (g i)))))) → (w6 (b + 29) = some (.inl (cI, 24, .inl (fun i => nI ((N 15) i))))) → (w6 (b + 30) = some (.inl (cI, 5, .inl (fun i => nI ((N 19) i))))) → (r9 ≤ 300) → (∀ j, g j ≤ 1000) → ((if bt = true then dm_run (ru_M N S t) (300 - r9) g else g) = dm_run (ru_M N S t) 300 (fun _ => 1000)) → lv_has ls 4 [(3, .int (nI r9)), (2, .int (nI (if bt = true then 1 else 0))), (0, .ref (b + 14)), (1, .int t)] → W p l e (headSpec ws_Mod_findMeanings (kk_rm 4 0 0)).room s m ([.ref (b + 14), .int t]).toArray below meth c H locs 0 0 (MQ below (kk_Qv B D (fun w' sz' => mo_I b cI cZ (va_up N 14 (fun j => dm_ph (dm_run (ru_M N S t) 300 (fun _ => 1000) j))) S w' ∧ (∀ j, ¬ (b + 14 ≤ j ∧ j < b + 31) → w' j = w j) ∧ sz' = sz)) ([.ref (b + 14), .int t]).toArray s 0 0 (fun q => B ≤ q)) (F0 m 28 ls []) := by
          intro d
          induction d using Nat.strongRecOn with
          | ind d ihlp5 =>
            intro r9 bt g w6 H locs ls hd hP hz hS frw6 fw6_0 fw6_1 fw6_2 fw6_3 fw6_4 fw6_5 fw6_6 fw6_7 fw6_8 fw6_9 fw6_10 fw6_11 fw6_12 fw6_13 fw6_14 fw6_15 fw6_16 hr9 hgb hI hl
            have hMg : mo_I b cI cZ (va_up N 14 (fun j => dm_ph (g j))) S w6 := mo_mk fw6_0 fw6_1 fw6_2 fw6_3 fw6_4 fw6_5 fw6_6 fw6_7 fw6_8 fw6_9 fw6_10 fw6_11 fw6_12 fw6_13 fw6_14 fw6_15 fw6_16
            refine lv_iload_n hx hb d_Mod_findMeanings_28 rfl (lv_at hl 0 rfl) ?_
            refine lv_sipush (v := nI 300) hx hb d_Mod_findMeanings_29 (by decide) ?_
            refine lv_icmp_ge (tgt := 51) hx hb d_Mod_findMeanings_32 (by decide) (fun cc7 => ?_) (fun cc7 => ?_)
            · have cc7 : 300 ≤ r9 := (nI_leI (by omega) (by omega)).mp cc7
              have hg9 : g = dm_run (ru_M N S t) 300 (fun _ => 1000) := by rw [← hI, show 300 - r9 = 0 by omega]; show g = (if bt = true then g else g); split <;> rfl
              subst hg9
              exact W.vret hx hb hr (fun t ht hW => ⟨⟨(w6, sz), rfl, ⟨(mo_mk fw6_0 fw6_1 fw6_2 fw6_3 fw6_4 fw6_5 fw6_6 fw6_7 fw6_8 fw6_9 fw6_10 fw6_11 fw6_12 fw6_13 fw6_14 fw6_15 fw6_16), (fun j hj => (frw6 j hj).trans ((fr4 j (by omega)).trans (frw2 j (by omega)))), rfl⟩, by rw [ht]; exact hP, by rw [ht]; exact hz⟩, hS.F ht⟩) hS.2.2 d_Mod_findMeanings_51
            · have cc7 : ¬ (300 ≤ r9) := fun q => cc7 ((nI_leI (by omega) (by omega)).mpr q)
              refine lv_iload_n hx hb d_Mod_findMeanings_35 rfl (lv_at hl 1 rfl) ?_
              refine lv_if_eq (tgt := 51) hx hb d_Mod_findMeanings_36 (by decide) (fun cc8 => ?_) (fun cc8 => ?_)
              · have cc8 := kk_b0 cc8
                have hg9 : g = dm_run (ru_M N S t) 300 (fun _ => 1000) := by rw [← hI, if_neg cc8]
                subst hg9
                exact W.vret hx hb hr (fun t ht hW => ⟨⟨(w6, sz), rfl, ⟨(mo_mk fw6_0 fw6_1 fw6_2 fw6_3 fw6_4 fw6_5 fw6_6 fw6_7 fw6_8 fw6_9 fw6_10 fw6_11 fw6_12 fw6_13 fw6_14 fw6_15 fw6_16), (fun j hj => (frw6 j hj).trans ((fr4 j (by omega)).trans (frw2 j (by omega)))), rfl⟩, by rw [ht]; exact hP, by rw [ht]; exact hz⟩, hS.F ht⟩) hS.2.2 d_Mod_findMeanings_51
              · have cc8 := kk_b1 cc8
                refine lv_aload_n hx hb d_Mod_findMeanings_39 rfl (lv_at hl 2 rfl) ?_
                refine lv_iload_n hx hb d_Mod_findMeanings_40 rfl (lv_at hl 3 rfl) ?_
                refine kk_calli (va_runV (As := [.int t]) (rest := []) ⟨hx, hb, hml, hown, hts⟩ (c_Mod_useNames l (b := b) (N := (va_up N 14 (fun j => dm_ph (g j)))) (S := S) (v9 := g) hMg hn hR rfl hgb) (cwV 1 hts (gW_in (hd := [_, _, _, _, _]) (kk_5 wd_629 wd_631 sl_Mod_useNames wd_8 cw_Mod_useNames)) rfl rfl rfl ⟨rfl, ds_Mod_useNames⟩ ⟨Nat.le_of_ble_eq_true rfl, Nat.le_of_ble_eq_true rfl⟩) (kk_preV hK hP hz hBz fw6_0 rfl) rfl rfl hl.1 rfl (lv_room (Nat.le_of_ble_eq_true rfl)) d_Mod_findMeanings_41 ⟨Nat.le_of_ble_eq_true rfl, Nat.le_of_ble_eq_true rfl⟩) hS (fun r9 w9 sz9 H locs hp9 hP hz hS => ?_)
                obtain ⟨hr9, hM9, hf9, hs9⟩ := hp9
                subst hr9
                have hz : H.size = sz := hz.trans hs9
                rw [va_uu, ru_M_14] at hM9
                have hM9 : mo_I b cI cZ (va_up N 14 (fun j => dm_ph (dm_pass (ru_M N S t) g j))) S w9 := hM9
                have m9_0 : w9 (b + 14) = some (.inr (9, [.int (nI ((va_up N 14 (fun j => dm_ph (dm_pass (ru_M N S t) g j))) 0 0)), .ref (b + 15), .ref (b + 16), .ref (b + 17), .ref (b + 18), .ref (b + 19), .ref (b + 20), .ref (b + 21), .ref (b + 22), .ref (b + 23), .ref (b + 24), .ref (b + 25), .ref (b + 26), .ref (b + 27), .ref (b + 28), .ref (b + 29), .int (nI ((va_up N 14 (fun j => dm_ph (dm_pass (ru_M N S t) g j))) 16 0)), .int (nI ((va_up N 14 (fun j => dm_ph (dm_pass (ru_M N S t) g j))) 17 0)), .int (nI ((va_up N 14 (fun j => dm_ph (dm_pass (ru_M N S t) g j))) 18 0)), .ref (b + 30), .int (nI ((va_up N 14 (fun j => dm_ph (dm_pass (ru_M N S t) g j))) 20 0)), .int (S 21 0), .int (S 22 0), .int (S 23 0), .int (S 24 0), .int (nI ((va_up N 14 (fun j => dm_ph (dm_pass (ru_M N S t) g j))) 25 0)), .int (nI ((va_up N 14 (fun j => dm_ph (dm_pass (ru_M N S t) g j))) 26 0))])) := hM9.1
                have m9_1 : w9 (b + 15) = some (.inl (cZ, 24, .inl (fun i => nI (((va_up N 14 (fun j => dm_ph (dm_pass (ru_M N S t) g j))) 1) i)))) := hM9.2 1 (by decide) (by decide)
                have m9_2 : w9 (b + 16) = some (.inl (cZ, 24, .inl (fun i => nI (((va_up N 14 (fun j => dm_ph (dm_pass (ru_M N S t) g j))) 2) i)))) := hM9.2 2 (by decide) (by decide)
                have m9_3 : w9 (b + 17) = some (.inl (cI, 24, .inl (fun i => nI (((va_up N 14 (fun j => dm_ph (dm_pass (ru_M N S t) g j))) 3) i)))) := hM9.2 3 (by decide) (by decide)
                have m9_4 : w9 (b + 18) = some (.inl (cI, 24, .inl (fun i => nI (((va_up N 14 (fun j => dm_ph (dm_pass (ru_M N S t) g j))) 4) i)))) := hM9.2 4 (by decide) (by decide)
                have m9_5 : w9 (b + 19) = some (.inl (cI, 24, .inl (S 5))) := hM9.2 5 (by decide) (by decide)
                have m9_6 : w9 (b + 20) = some (.inl (cI, 24, .inl (S 6))) := hM9.2 6 (by decide) (by decide)
                have m9_7 : w9 (b + 21) = some (.inl (cI, 72, .inl (fun i => nI (((va_up N 14 (fun j => dm_ph (dm_pass (ru_M N S t) g j))) 7) i)))) := hM9.2 7 (by decide) (by decide)
                have m9_8 : w9 (b + 22) = some (.inl (cI, 24, .inl (fun i => nI (((va_up N 14 (fun j => dm_ph (dm_pass (ru_M N S t) g j))) 8) i)))) := hM9.2 8 (by decide) (by decide)
                have m9_9 : w9 (b + 23) = some (.inl (cI, 24, .inl (fun i => nI (((va_up N 14 (fun j => dm_ph (dm_pass (ru_M N S t) g j))) 9) i)))) := hM9.2 9 (by decide) (by decide)
                have m9_10 : w9 (b + 24) = some (.inl (cI, 24, .inl (fun i => nI (((va_up N 14 (fun j => dm_ph (dm_pass (ru_M N S t) g j))) 10) i)))) := hM9.2 10 (by decide) (by decide)
                have m9_11 : w9 (b + 25) = some (.inl (cI, 24, .inl (S 11))) := hM9.2 11 (by decide) (by decide)
                have m9_12 : w9 (b + 26) = some (.inl (cI, 24, .inl (S 12))) := hM9.2 12 (by decide) (by decide)
                have m9_13 : w9 (b + 27) = some (.inl (cZ, 24, .inl (fun i => nI (((va_up N 14 (fun j => dm_ph (dm_pass (ru_M N S t) g j))) 13) i)))) := hM9.2 13 (by decide) (by decide)
                have m9_14 : w9 (b + 28) = some (.inl (cI, 256, .inl (fun i => nI (((va_up N 14 (fun j => dm_ph (dm_pass (ru_M N S t) g j))) 14) i)))) := hM9.2 14 (by decide) (by decide)
                have m9_15 : w9 (b + 29) = some (.inl (cI, 24, .inl (fun i => nI (((va_up N 14 (fun j => dm_ph (dm_pass (ru_M N S t) g j))) 15) i)))) := hM9.2 15 (by decide) (by decide)
                have m9_16 : w9 (b + 30) = some (.inl (cI, 5, .inl (fun i => nI (((va_up N 14 (fun j => dm_ph (dm_pass (ru_M N S t) g j))) 19) i)))) := hM9.2 16 (by decide) (by decide)
                have m9_14 : w9 (b + 28) = some (.inl (cI, 256, .inl (fun i => nI (dm_ph ((dm_pass (ru_M N S t) g) i))))) := m9_14
                refine kk_top (y := nI (if dm_flag (ru_M N S t) g = true then 1 else 0)) rfl ?_
                refine lv_istore_n hx hb d_Mod_findMeanings_44 rfl hl (by decide) rfl (fun ls hl => ?_)
                have hl : lv_has ls 4 [(2, .int (nI (if dm_flag (ru_M N S t) g = true then 1 else 0))), (3, .int (nI r9)), (0, .ref (b + 14)), (1, .int t)] := hl
                refine lv_iinc (k := 1) (v := nI (r9 + 1)) hx hb d_Mod_findMeanings_45 hl rfl (kk_inc _) (by decide) rfl (fun ls hl => ?_)
                have hl : lv_has ls 4 [(3, .int (nI (r9 + 1))), (2, .int (nI (if dm_flag (ru_M N S t) g = true then 1 else 0))), (0, .ref (b + 14)), (1, .int t)] := hl
                refine lv_goto (tgt := 28) hx hb d_Mod_findMeanings_48 (by decide) ?_
                exact ihlp5 _ (by omega) (r9 + 1) (dm_flag (ru_M N S t) g) (dm_pass (ru_M N S t) g) w9 _ _ ls rfl hP hz hS (fun j g0 => (hf9 j g0).trans (frw6 j g0)) m9_0 m9_1 m9_2 m9_3 m9_4 m9_5 m9_6 m9_7 m9_8 m9_9 m9_10 m9_11 m9_12 m9_13 m9_14 m9_15 m9_16 (by omega) (dm_pass_1000 hgb) (by rw [← hI, if_pos cc8, show 300 - r9 = (300 - (r9 + 1)) + 1 by omega]; rfl) (lv_sub hl [0, 1, 2, 3] rfl)
        exact lp5 _ 0 true (fun _ => 1000) w4 _ _ _ rfl hP hz hS (fun _ _ => rfl) ((fr4 _ (by omega)).trans ((frw2 _ (by omega)).trans (m0))) ((fr4 _ (by omega)).trans ((frw2 _ (by omega)).trans (m1))) ((fr4 _ (by omega)).trans ((frw2 _ (by omega)).trans (m2))) ((fr4 _ (by omega)).trans ((frw2 _ (by omega)).trans (m3))) ((fr4 _ (by omega)).trans ((frw2 _ (by omega)).trans (m4))) ((fr4 _ (by omega)).trans ((frw2 _ (by omega)).trans (m5))) ((fr4 _ (by omega)).trans ((frw2 _ (by omega)).trans (m6))) ((fr4 _ (by omega)).trans ((frw2 _ (by omega)).trans (m7))) ((fr4 _ (by omega)).trans ((frw2 _ (by omega)).trans (m8))) ((fr4 _ (by omega)).trans ((frw2 _ (by omega)).trans (m9))) ((fr4 _ (by omega)).trans ((frw2 _ (by omega)).trans (m10))) ((fr4 _ (by omega)).trans ((frw2 _ (by omega)).trans (m11))) ((fr4 _ (by omega)).trans ((frw2 _ (by omega)).trans (m12))) ((fr4 _ (by omega)).trans ((frw2 _ (by omega)).trans (m13))) fa4 ((fr4 _ (by omega)).trans ((frw2 _ (by omega)).trans (m15))) ((fr4 _ (by omega)).trans ((frw2 _ (by omega)).trans (m16))) (by omega) (fun _ => Nat.le_refl _) (if_pos rfl) (lv_sub hl [0, 1, 2, 3] rfl)
      · have cc3 : ¬ (256 ≤ k) := fun q => cc3 ((nI_leI (by omega) (by omega)).mpr q)
        refine lv_aload_n hx hb d_Mod_findMeanings_9 rfl (lv_at hl 1 rfl) ?_
        have f10 := (frw2 _ (by omega)).trans (m0)
        refine mm_get (D := D) (C := n_Mod) (T := T_Mod) (N := 27) (v := .ref (b + 28)) hx hb hts lay_Mod hown hK.1 hP f10 rfl 14 (by decide) (hts _ (List.mem_cons_of_mem _ wd_505)) (fun _ h9 => h9) rfl d_Mod_findMeanings_10 ?_
        refine lv_iload_n hx hb d_Mod_findMeanings_13 rfl (lv_at hl 0 rfl) ?_
        refine lv_sipush (v := nI 5000) hx hb d_Mod_findMeanings_14 (by decide) ?_
        refine mm_iast hx hb hK.1 hP hS 0 fw2_0 rfl k rfl (by omega) (by decide) d_Mod_findMeanings_17 (fun H locs hP hz1 hS => ?_)
        rw [show upd (fun i => nI ((fun j => if j < k then 5000 else N 14 j) i)) k (nI 5000) = fun i => nI ((va_up (fun j => if j < k then 5000 else N 14 j) k 5000) i) from kk_upn _ _ _] at hP
        have hz : H.size = sz := hz1.trans hz
        obtain ⟨w11, hw11⟩ : ∃ z : mm_M, z = mm_up w2 (b + 28) (.inl (cI, 256, .inl (fun i => nI ((va_up (fun j => if j < k then 5000 else N 14 j) k 5000) i)))) := ⟨_, rfl⟩
        have hP : mm_P B D kc w11 H := by rw [hw11]; exact hP
        have fr11 : ∀ j, j ≠ b + 28 → w11 j = w2 j := fun j h9 => by rw [hw11]; exact mm_un h9
        have fa11 : w11 (b + 28) = some (.inl (cI, 256, .inl (fun i => nI ((va_up (fun j => if j < k then 5000 else N 14 j) k 5000) i)))) := by rw [hw11]; exact mm_us _ _ _
        refine lv_iinc (k := 0) (v := nI (k + 1)) hx hb d_Mod_findMeanings_18 hl rfl (kk_inc _) (by decide) rfl (fun ls hl => ?_)
        have hl : lv_has ls 4 [(2, .int (nI (k + 1))), (0, .ref (b + 14)), (1, .int t)] := hl
        refine lv_goto (tgt := 2) hx hb d_Mod_findMeanings_21 (by decide) ?_
        exact ih _ (by omega) (k + 1) w11 _ _ ls rfl hP hz hS (fun j g0 => (fr11 j g0).trans (frw2 j g0)) (by rw [← ru_fill]; exact fa11) (by omega) (lv_sub hl [0, 1, 2] rfl)
  exact lp1 _ 0 w _ _ _ rfl hP hz hS (fun _ _ => rfl) m14 (by omega) (lv_sub hl [0, 1, 2] rfl)
