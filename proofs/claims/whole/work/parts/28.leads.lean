theorem d_Led_sortIn_0 : decode k_Led_sortIn 0 = .ok (.iload_n 1, 1) := by decide +kernel
theorem d_Led_sortIn_1 : decode k_Led_sortIn 1 = .ok (.istore_n 3, 1) := by decide +kernel
theorem d_Led_sortIn_2 : decode k_Led_sortIn 2 = .ok (.iload_n 3, 1) := by decide +kernel
theorem d_Led_sortIn_3 : decode k_Led_sortIn 3 = .ok (.ifCond .le 35, 3) := by decide +kernel
theorem d_Led_sortIn_6 : decode k_Led_sortIn 6 = .ok (.aload_n 0, 1) := by decide +kernel
theorem d_Led_sortIn_7 : decode k_Led_sortIn 7 = .ok (.getfield 19, 3) := by decide +kernel
theorem d_Led_sortIn_10 : decode k_Led_sortIn 10 = .ok (.iload_n 3, 1) := by decide +kernel
theorem d_Led_sortIn_11 : decode k_Led_sortIn 11 = .ok (.iconst 1, 1) := by decide +kernel
theorem d_Led_sortIn_12 : decode k_Led_sortIn 12 = .ok (.isub, 1) := by decide +kernel
theorem d_Led_sortIn_13 : decode k_Led_sortIn 13 = .ok (.iaload, 1) := by decide +kernel
theorem d_Led_sortIn_14 : decode k_Led_sortIn 14 = .ok (.iload_n 2, 1) := by decide +kernel
theorem d_Led_sortIn_15 : decode k_Led_sortIn 15 = .ok (.if_icmp .le 23, 3) := by decide +kernel
theorem d_Led_sortIn_18 : decode k_Led_sortIn 18 = .ok (.aload_n 0, 1) := by decide +kernel
theorem d_Led_sortIn_19 : decode k_Led_sortIn 19 = .ok (.getfield 19, 3) := by decide +kernel
theorem d_Led_sortIn_22 : decode k_Led_sortIn 22 = .ok (.iload_n 3, 1) := by decide +kernel
theorem d_Led_sortIn_23 : decode k_Led_sortIn 23 = .ok (.aload_n 0, 1) := by decide +kernel
theorem d_Led_sortIn_24 : decode k_Led_sortIn 24 = .ok (.getfield 19, 3) := by decide +kernel
theorem d_Led_sortIn_27 : decode k_Led_sortIn 27 = .ok (.iload_n 3, 1) := by decide +kernel
theorem d_Led_sortIn_28 : decode k_Led_sortIn 28 = .ok (.iconst 1, 1) := by decide +kernel
theorem d_Led_sortIn_29 : decode k_Led_sortIn 29 = .ok (.isub, 1) := by decide +kernel
theorem d_Led_sortIn_30 : decode k_Led_sortIn 30 = .ok (.iaload, 1) := by decide +kernel
theorem d_Led_sortIn_31 : decode k_Led_sortIn 31 = .ok (.iastore, 1) := by decide +kernel
theorem d_Led_sortIn_32 : decode k_Led_sortIn 32 = .ok (.iinc 3 (-1), 3) := by decide +kernel
theorem d_Led_sortIn_35 : decode k_Led_sortIn 35 = .ok (.goto (-33), 3) := by decide +kernel
theorem d_Led_sortIn_38 : decode k_Led_sortIn 38 = .ok (.aload_n 0, 1) := by decide +kernel
theorem d_Led_sortIn_39 : decode k_Led_sortIn 39 = .ok (.getfield 19, 3) := by decide +kernel
theorem d_Led_sortIn_42 : decode k_Led_sortIn 42 = .ok (.iload_n 3, 1) := by decide +kernel
theorem d_Led_sortIn_43 : decode k_Led_sortIn 43 = .ok (.iload_n 2, 1) := by decide +kernel
theorem d_Led_sortIn_44 : decode k_Led_sortIn 44 = .ok (.iastore, 1) := by decide +kernel
theorem d_Led_sortIn_45 : decode k_Led_sortIn 45 = .ok (.return_, 1) := by decide +kernel
set_option maxHeartbeats 4000000 in
set_option maxRecDepth 100000 in
theorem c_Led_sortIn (l : Launch) {B : Nat} {D : va_G} {cI cZ cQ : ClassId} {w : mm_M} {sz : Nat} {a i9 x : Nat} {so : Nat → Nat} (h_0 : w a = some (.inr (3, [.ref (a + 1), .ref (a + 2), .ref (a + 3)]))) (h_1 : w (a + 3) = some (.inl (cI, 3, .inl (fun i => nI (so i))))) (hi : i9 ≤ 2) (hx9 : x ≤ 1000) (hso : ∀ j, so j ≤ 1000) : Met l y_Led_sortIn ws_Led_sortIn (kk_rm 0 0 0) (kk_Pc B D cI cZ cQ [.ref a, .int (nI i9), .int (nI x)] w sz) (kk_Qv B D (fun w' sz' => w' = mm_up w (a + 3) (.inl (cI, 3, .inl (fun i => nI ((dm_ins so i9 x) i)))) ∧ sz' = sz)) 0 0 (fun q => B ≤ q) := by
  refine Met.ofW (cc := k_Led_sortIn) (maxL := 4) (ret := none) (by decide) rfl ?_
  intro p e s m args below meth c s₁ BB hml hv
  obtain ⟨rfl, hK, hP, hz, hBz⟩ := hv
  have hx := BB.exec
  have hb := BB.bytes
  have hr := BB.returns
  have hts := atoms_spec (ws := ws_Led_sortIn) BB.pre
  have hown : s.vm.findClass "DelegationClosure$Leads" = some m.cls := findClass_of_methodNamed BB.named
  have hlocks := BB.notSynchronized
  have hS : mm_S B s.heap s.heap [] := va_S.rf
  have hl := lv_entry ([.ref a, .int (nI i9), .int (nI x)]) (n := 4) (Nat.le_of_ble_eq_true rfl)
  rw [lg_entry_eq]
  generalize (lg_sl ([.ref a, .int (nI i9), .int (nI x)]) ++ List.replicate (4 - (lg_sl ([.ref a, .int (nI i9), .int (nI x)])).length) Slot.unset).toArray = ls at hl ⊢
  have hl : lv_has ls 4 [(0, .ref a), (1, .int (nI i9)), (2, .int (nI x))] := hl
  refine lv_iload_n hx hb d_Led_sortIn_0 rfl (lv_at hl 1 rfl) ?_
  refine lv_istore_n hx hb d_Led_sortIn_1 rfl hl (by decide) rfl (fun ls hl => ?_)
  have hl : lv_has ls 4 [(3, .int (nI i9)), (0, .ref a), (1, .int (nI i9)), (2, .int (nI x))] := hl
  have lp1 : ∀ (d : Nat) (p9 : Nat) (g : Nat → Nat) (w2 : mm_M) (H : Heap) (locs : List Loc) (ls : Array Slot), d = p9 → (mm_P B D kc w2 H) → (H.size = sz) → (mm_S B s.heap H locs) → (∀ j, j ≠ a + 3 → w2 j = w j) → (w2 (a + 3) = some (.inl (cI, 3, .inl (fun i => nI (g i))))) → (p9 ≤ 2) → (∀ j, g j ≤ 1000) → (dm_ins g p9 x = dm_ins so i9 x) → lv_has ls 4 [(3, .int (nI p9)), (0, .ref a), (1, .int (nI i9)), (2, .int (nI x))] → W p l e (headSpec ws_Led_sortIn (kk_rm 0 0 0)).room s m ([.ref a, .int (nI i9), .int (nI x)]).toArray below meth c H locs 0 0 (MQ below (kk_Qv B D (fun w' sz' => w' = mm_up w (a + 3) (.inl (cI, 3, .inl (fun i => nI ((dm_ins so i9 x) i)))) ∧ sz' = sz)) ([.ref a, .int (nI i9), .int (nI x)]).toArray s 0 0 (fun q => B ≤ q)) (F0 m 2 ls []) := by
    intro d
    induction d using Nat.strongRecOn with
    | ind d ih =>
      intro p9 g w2 H locs ls hd hP hz hS frw2 fw2_0 hp hgb hI hl
      refine lv_iload_n hx hb d_Led_sortIn_2 rfl (lv_at hl 0 rfl) ?_
      refine lv_if_le (tgt := 38) hx hb d_Led_sortIn_3 (by decide) (fun cc3 => ?_) (fun cc3 => ?_)
      · rw [← nI_0] at cc3
        have cc3 : p9 ≤ 0 := (nI_leI (by omega) (by omega)).mp cc3
        have hv9 : va_up g p9 x = dm_ins so i9 x := by rw [← hI]; exact (dm_ins_z (by omega)).symm
        refine lv_aload_n hx hb d_Led_sortIn_38 rfl (lv_at hl 1 rfl) ?_
        have f4 := (frw2 _ (by omega)).trans (h_0)
        refine mm_get (D := D) (C := n_Led) (T := T_Led) (N := 3) (v := .ref (a + 3)) hx hb hts lay_Led hown hK.1 hP f4 rfl 2 (by decide) (hts _ (List.mem_cons_of_mem _ wd_60)) (fun _ h9 => h9) rfl d_Led_sortIn_39 ?_
        refine lv_iload_n hx hb d_Led_sortIn_42 rfl (lv_at hl 0 rfl) ?_
        refine lv_iload_n hx hb d_Led_sortIn_43 rfl (lv_at hl 3 rfl) ?_
        refine mm_iast hx hb hK.1 hP hS 0 fw2_0 rfl p9 rfl (by omega) (by decide) d_Led_sortIn_44 (fun H locs hP hz1 hS => ?_)
        rw [show upd (fun i => nI (g i)) p9 (nI x) = fun i => nI ((va_up g p9 x) i) from kk_upn _ _ _] at hP
        have hz : H.size = sz := hz1.trans hz
        obtain ⟨w5, hw5⟩ : ∃ z : mm_M, z = mm_up w2 (a + 3) (.inl (cI, 3, .inl (fun i => nI ((va_up g p9 x) i)))) := ⟨_, rfl⟩
        have hP : mm_P B D kc w5 H := by rw [hw5]; exact hP
        have fr5 : ∀ j, j ≠ a + 3 → w5 j = w2 j := fun j h9 => by rw [hw5]; exact mm_un h9
        have fa5 : w5 (a + 3) = some (.inl (cI, 3, .inl (fun i => nI ((va_up g p9 x) i)))) := by rw [hw5]; exact mm_us _ _ _
        rw [hv9] at fa5
        exact W.vret hx hb hr (fun t ht hW => ⟨⟨(w5, sz), rfl, ⟨mm_e1 fa5 (fun j g0 => (fr5 j g0).trans (frw2 j g0)), rfl⟩, by rw [ht]; exact hP, by rw [ht]; exact hz⟩, hS.F ht⟩) hS.2.2 d_Led_sortIn_45
      · rw [← nI_0] at cc3
        have cc3 : ¬ (p9 ≤ 0) := fun q => cc3 ((nI_leI (by omega) (by omega)).mpr q)
        refine lv_aload_n hx hb d_Led_sortIn_6 rfl (lv_at hl 1 rfl) ?_
        have f6 := (frw2 _ (by omega)).trans (h_0)
        refine mm_get (D := D) (C := n_Led) (T := T_Led) (N := 3) (v := .ref (a + 3)) hx hb hts lay_Led hown hK.1 hP f6 rfl 2 (by decide) (hts _ (List.mem_cons_of_mem _ wd_60)) (fun _ h9 => h9) rfl d_Led_sortIn_7 ?_
        refine lv_iload_n hx hb d_Led_sortIn_10 rfl (lv_at hl 0 rfl) ?_
        refine lv_iconst (v := nI 1) hx hb d_Led_sortIn_11 (by decide) ?_
        refine lv_isub hx hb d_Led_sortIn_12 ?_
        refine kk_top (pk_sub (by omega)) ?_
        refine mm_iald hx hb hK.1 hP 0 fw2_0 rfl (p9 - 1) rfl (by omega) (by decide) d_Led_sortIn_13 ?_
        refine W.eq (g2 := F0 m 14 ls [.int (nI (g (p9 - 1)))]) rfl ?_
        refine lv_iload_n hx hb d_Led_sortIn_14 rfl (lv_at hl 3 rfl) ?_
        have hq1 := hgb (p9 - 1)
        refine lv_icmp_le (tgt := 38) hx hb d_Led_sortIn_15 (by decide) (fun cc7 => ?_) (fun cc7 => ?_)
        · have cc7 : g (p9 - 1) ≤ x := (nI_leI (by omega) (by omega)).mp cc7
          have hv9 : va_up g p9 x = dm_ins so i9 x := by rw [← hI]; exact (dm_ins_f (by omega) (Nat.not_lt.mpr cc7)).symm
          refine lv_aload_n hx hb d_Led_sortIn_38 rfl (lv_at hl 1 rfl) ?_
          refine mm_get (D := D) (C := n_Led) (T := T_Led) (N := 3) (v := .ref (a + 3)) hx hb hts lay_Led hown hK.1 hP f6 rfl 2 (by decide) (hts _ (List.mem_cons_of_mem _ wd_60)) (fun _ h9 => h9) rfl d_Led_sortIn_39 ?_
          refine lv_iload_n hx hb d_Led_sortIn_42 rfl (lv_at hl 0 rfl) ?_
          refine lv_iload_n hx hb d_Led_sortIn_43 rfl (lv_at hl 3 rfl) ?_
          refine mm_iast hx hb hK.1 hP hS 0 fw2_0 rfl p9 rfl (by omega) (by decide) d_Led_sortIn_44 (fun H locs hP hz1 hS => ?_)
          rw [show upd (fun i => nI (g i)) p9 (nI x) = fun i => nI ((va_up g p9 x) i) from kk_upn _ _ _] at hP
          have hz : H.size = sz := hz1.trans hz
          obtain ⟨w8, hw8⟩ : ∃ z : mm_M, z = mm_up w2 (a + 3) (.inl (cI, 3, .inl (fun i => nI ((va_up g p9 x) i)))) := ⟨_, rfl⟩
          have hP : mm_P B D kc w8 H := by rw [hw8]; exact hP
          have fr8 : ∀ j, j ≠ a + 3 → w8 j = w2 j := fun j h9 => by rw [hw8]; exact mm_un h9
          have fa8 : w8 (a + 3) = some (.inl (cI, 3, .inl (fun i => nI ((va_up g p9 x) i)))) := by rw [hw8]; exact mm_us _ _ _
          rw [hv9] at fa8
          exact W.vret hx hb hr (fun t ht hW => ⟨⟨(w8, sz), rfl, ⟨mm_e1 fa8 (fun j g0 => (fr8 j g0).trans (frw2 j g0)), rfl⟩, by rw [ht]; exact hP, by rw [ht]; exact hz⟩, hS.F ht⟩) hS.2.2 d_Led_sortIn_45
        · have cc7 : ¬ (g (p9 - 1) ≤ x) := fun q => cc7 ((nI_leI (by omega) (by omega)).mpr q)
          refine lv_aload_n hx hb d_Led_sortIn_18 rfl (lv_at hl 1 rfl) ?_
          refine mm_get (D := D) (C := n_Led) (T := T_Led) (N := 3) (v := .ref (a + 3)) hx hb hts lay_Led hown hK.1 hP f6 rfl 2 (by decide) (hts _ (List.mem_cons_of_mem _ wd_60)) (fun _ h9 => h9) rfl d_Led_sortIn_19 ?_
          refine lv_iload_n hx hb d_Led_sortIn_22 rfl (lv_at hl 0 rfl) ?_
          refine lv_aload_n hx hb d_Led_sortIn_23 rfl (lv_at hl 1 rfl) ?_
          refine mm_get (D := D) (C := n_Led) (T := T_Led) (N := 3) (v := .ref (a + 3)) hx hb hts lay_Led hown hK.1 hP f6 rfl 2 (by decide) (hts _ (List.mem_cons_of_mem _ wd_60)) (fun _ h9 => h9) rfl d_Led_sortIn_24 ?_
          refine lv_iload_n hx hb d_Led_sortIn_27 rfl (lv_at hl 0 rfl) ?_
          refine lv_iconst (v := nI 1) hx hb d_Led_sortIn_28 (by decide) ?_
          refine lv_isub hx hb d_Led_sortIn_29 ?_
          refine kk_top (pk_sub (by omega)) ?_
          refine mm_iald hx hb hK.1 hP 0 fw2_0 rfl (p9 - 1) rfl (by omega) (by decide) d_Led_sortIn_30 ?_
          refine W.eq (g2 := F0 m 31 ls [.int (nI (g (p9 - 1))), .int (nI p9), .ref (a + 3)]) rfl ?_
          refine mm_iast hx hb hK.1 hP hS 0 fw2_0 rfl p9 rfl (by omega) (by decide) d_Led_sortIn_31 (fun H locs hP hz1 hS => ?_)
          rw [show upd (fun i => nI (g i)) p9 (nI (g (p9 - 1))) = fun i => nI ((va_up g p9 (g (p9 - 1))) i) from kk_upn _ _ _] at hP
          have hz : H.size = sz := hz1.trans hz
          obtain ⟨w9, hw9⟩ : ∃ z : mm_M, z = mm_up w2 (a + 3) (.inl (cI, 3, .inl (fun i => nI ((va_up g p9 (g (p9 - 1))) i)))) := ⟨_, rfl⟩
          have hP : mm_P B D kc w9 H := by rw [hw9]; exact hP
          have fr9 : ∀ j, j ≠ a + 3 → w9 j = w2 j := fun j h9 => by rw [hw9]; exact mm_un h9
          have fa9 : w9 (a + 3) = some (.inl (cI, 3, .inl (fun i => nI ((va_up g p9 (g (p9 - 1))) i)))) := by rw [hw9]; exact mm_us _ _ _
          refine lv_iinc (k := 0) (v := nI (p9 - 1)) hx hb d_Led_sortIn_32 hl rfl (kk_dec (by omega)) (by decide) rfl (fun ls hl => ?_)
          have hl : lv_has ls 4 [(3, .int (nI (p9 - 1))), (0, .ref a), (1, .int (nI i9)), (2, .int (nI x))] := hl
          refine lv_goto (tgt := 2) hx hb d_Led_sortIn_35 (by decide) ?_
          have hI2 : dm_ins (va_up g p9 (g (p9 - 1))) (p9 - 1) x = dm_ins so i9 x := by rw [← hI]; exact (dm_ins_t (by omega) (Nat.lt_of_not_le cc7)).symm
          exact ih _ (by omega) (p9 - 1) (va_up g p9 (g (p9 - 1))) w9 _ _ ls rfl hP hz hS (fun j g0 => (fr9 j g0).trans (frw2 j g0)) fa9 (by omega) (kk_upb hgb (hgb _)) hI2 (lv_sub hl [0, 1, 2, 3] rfl)
  exact lp1 _ i9 so w _ _ _ rfl hP hz hS (fun _ _ => rfl) h_1 (by omega) hso rfl (lv_sub hl [0, 1, 2, 3] rfl)
theorem d_Led_bySubject_0 : decode k_Led_bySubject 0 = .ok (.aload_n 1, 1) := by decide +kernel
theorem d_Led_bySubject_1 : decode k_Led_bySubject 1 = .ok (.iload_n 2, 1) := by decide +kernel
theorem d_Led_bySubject_2 : decode k_Led_bySubject 2 = .ok (.iload 4, 2) := by decide +kernel
theorem d_Led_bySubject_4 : decode k_Led_bySubject 4 = .ok (.invokevirtual 93, 3) := by decide +kernel
theorem d_Led_bySubject_7 : decode k_Led_bySubject 7 = .ok (.istore 5, 2) := by decide +kernel
theorem d_Led_bySubject_9 : decode k_Led_bySubject 9 = .ok (.iload_n 3, 1) := by decide +kernel
theorem d_Led_bySubject_10 : decode k_Led_bySubject 10 = .ok (.ifCond .ne 6, 3) := by decide +kernel
theorem d_Led_bySubject_13 : decode k_Led_bySubject 13 = .ok (.iload 5, 2) := by decide +kernel
theorem d_Led_bySubject_15 : decode k_Led_bySubject 15 = .ok (.ireturn, 1) := by decide +kernel
theorem d_Led_bySubject_16 : decode k_Led_bySubject 16 = .ok (.iconst 0, 1) := by decide +kernel
theorem d_Led_bySubject_17 : decode k_Led_bySubject 17 = .ok (.istore 6, 2) := by decide +kernel
theorem d_Led_bySubject_19 : decode k_Led_bySubject 19 = .ok (.iload 6, 2) := by decide +kernel
theorem d_Led_bySubject_21 : decode k_Led_bySubject 21 = .ok (.bipush 8, 2) := by decide +kernel
theorem d_Led_bySubject_23 : decode k_Led_bySubject 23 = .ok (.if_icmp .ge 44, 3) := by decide +kernel
theorem d_Led_bySubject_26 : decode k_Led_bySubject 26 = .ok (.iload 6, 2) := by decide +kernel
theorem d_Led_bySubject_28 : decode k_Led_bySubject 28 = .ok (.iload 4, 2) := by decide +kernel
theorem d_Led_bySubject_30 : decode k_Led_bySubject 30 = .ok (.if_icmp .eq 31, 3) := by decide +kernel
theorem d_Led_bySubject_33 : decode k_Led_bySubject 33 = .ok (.aload_n 1, 1) := by decide +kernel
theorem d_Led_bySubject_34 : decode k_Led_bySubject 34 = .ok (.iload_n 2, 1) := by decide +kernel
theorem d_Led_bySubject_35 : decode k_Led_bySubject 35 = .ok (.iload 6, 2) := by decide +kernel
theorem d_Led_bySubject_37 : decode k_Led_bySubject 37 = .ok (.invokevirtual 93, 3) := by decide +kernel
theorem d_Led_bySubject_40 : decode k_Led_bySubject 40 = .ok (.istore 7, 2) := by decide +kernel
theorem d_Led_bySubject_42 : decode k_Led_bySubject 42 = .ok (.iload 5, 2) := by decide +kernel
theorem d_Led_bySubject_44 : decode k_Led_bySubject 44 = .ok (.iload 7, 2) := by decide +kernel
theorem d_Led_bySubject_46 : decode k_Led_bySubject 46 = .ok (.aload_n 0, 1) := by decide +kernel
theorem d_Led_bySubject_47 : decode k_Led_bySubject 47 = .ok (.getfield 15, 3) := by decide +kernel
theorem d_Led_bySubject_50 : decode k_Led_bySubject 50 = .ok (.iload 6, 2) := by decide +kernel
theorem d_Led_bySubject_52 : decode k_Led_bySubject 52 = .ok (.iaload, 1) := by decide +kernel
theorem d_Led_bySubject_53 : decode k_Led_bySubject 53 = .ok (.invokestatic 89, 3) := by decide +kernel
theorem d_Led_bySubject_56 : decode k_Led_bySubject 56 = .ok (.invokestatic 98, 3) := by decide +kernel
theorem d_Led_bySubject_59 : decode k_Led_bySubject 59 = .ok (.istore 5, 2) := by decide +kernel
theorem d_Led_bySubject_61 : decode k_Led_bySubject 61 = .ok (.iinc 6 1, 3) := by decide +kernel
theorem d_Led_bySubject_64 : decode k_Led_bySubject 64 = .ok (.goto (-45), 3) := by decide +kernel
theorem d_Led_bySubject_67 : decode k_Led_bySubject 67 = .ok (.iload 5, 2) := by decide +kernel
theorem d_Led_bySubject_69 : decode k_Led_bySubject 69 = .ok (.ireturn, 1) := by decide +kernel
set_option maxHeartbeats 4000000 in
set_option maxRecDepth 100000 in
theorem c_Led_bySubject (l : Launch) {B : Nat} {D : va_G} {cI cZ cQ : ClassId} {w : mm_M} {sz : Nat} {a m9 s9 dl x : Nat} {g l9 : Nat → Nat} (h_0 : w a = some (.inr (3, [.ref (a + 1), .ref (a + 2), .ref (a + 3)]))) (h_1 : w (a + 2) = some (.inl (cI, 9, .inl (fun i => nI (l9 i))))) (h_2 : w m9 = some (.inr (2, [.ref (m9 + 1)]))) (h_3 : w (m9 + 1) = some (.inl (cI, 256, .inl (fun i => nI (g i))))) (hs : s9 < 200) (hdl : dl ≤ 1) (hx9 : x < 8) (hg : ∀ j, g j ≤ 1000) (hl9 : ∀ j, l9 j ≤ 1000) : Met l y_Led_bySubject ws_Led_bySubject (kk_rm 2 0 0) (kk_Pc B D cI cZ cQ [.ref a, .ref m9, .int (nI s9), .int (nI dl), .int (nI x)] w sz) (vp_Si (fun r => r = nI (dm_by1 (dl == 1) (fun y => dm_ofs g s9 y) l9 x))) 0 0 (fun _ => False) := by
  refine Met.ofW (cc := k_Led_bySubject) (maxL := 8) (ret := (some .int)) (by decide) rfl ?_
  intro p e s m args below meth c s₁ BB hml hv
  obtain ⟨rfl, hK, hP, hz, hBz⟩ := hv
  have hx := BB.exec
  have hb := BB.bytes
  have hr := BB.returns
  have hts := atoms_spec (ws := ws_Led_bySubject) BB.pre
  have hown : s.vm.findClass "DelegationClosure$Leads" = some m.cls := findClass_of_methodNamed BB.named
  have hlocks := BB.notSynchronized
  have hS : mm_S B s.heap s.heap [] := va_S.rf
  have hl := lv_entry ([.ref a, .ref m9, .int (nI s9), .int (nI dl), .int (nI x)]) (n := 8) (Nat.le_of_ble_eq_true rfl)
  rw [lg_entry_eq]
  generalize (lg_sl ([.ref a, .ref m9, .int (nI s9), .int (nI dl), .int (nI x)]) ++ List.replicate (8 - (lg_sl ([.ref a, .ref m9, .int (nI s9), .int (nI dl), .int (nI x)])).length) Slot.unset).toArray = ls at hl ⊢
  have hl : lv_has ls 8 [(0, .ref a), (1, .ref m9), (2, .int (nI s9)), (3, .int (nI dl)), (4, .int (nI x))] := hl
  refine lv_aload_n hx hb d_Led_bySubject_0 rfl (lv_at hl 1 rfl) ?_
  refine lv_iload_n hx hb d_Led_bySubject_1 rfl (lv_at hl 2 rfl) ?_
  refine lv_iload hx hb d_Led_bySubject_2 (lv_at hl 4 rfl) ?_
  refine vp_callSi (va_Run.run (va_runV (As := [.int (nI s9), .int (nI x)]) (rest := []) ⟨hx, hb, hml, hown, hts⟩ (c_Mea_ofSubject l h_2 h_3 (by omega) (by omega) hg) (cwV 2 hts (gW_in (hd := [_, _, _, _, _]) (kk_5 wd_387 wd_330 wd_331 wd_3 cw_Mea_ofSubject)) rfl rfl rfl ⟨rfl, ds_Mea_ofSubject⟩ ⟨Nat.le_of_ble_eq_true rfl, Nat.le_of_ble_eq_true rfl⟩) (kk_preV hK hP hz hBz h_2 rfl) rfl rfl hl.1 rfl (lv_room (Nat.le_of_ble_eq_true rfl)) d_Led_bySubject_4 ⟨Nat.le_of_ble_eq_true rfl, Nat.le_of_ble_eq_true rfl⟩)) (fun r1 hr1 => ?_)
  subst hr1
  refine lv_istore hx hb d_Led_bySubject_7 hl (by decide) rfl (fun ls hl => ?_)
  have hl : lv_has ls 8 [(5, .int (nI (dm_ofs g s9 x))), (0, .ref a), (1, .ref m9), (2, .int (nI s9)), (3, .int (nI dl)), (4, .int (nI x))] := hl
  refine lv_iload_n hx hb d_Led_bySubject_9 rfl (lv_at hl 4 rfl) ?_
  refine lv_if_ne (tgt := 16) hx hb d_Led_bySubject_10 (by decide) (fun cc2 => ?_) (fun cc2 => ?_)
  · rw [← nI_0] at cc2
    have cc2 : ¬ (dl = 0) := fun q => cc2 ((nI_eq (by omega) (by omega)).mpr q)
    refine lv_iconst (v := nI 0) hx hb d_Led_bySubject_16 (by decide) ?_
    refine lv_istore hx hb d_Led_bySubject_17 hl (by decide) rfl (fun ls hl => ?_)
    have hl : lv_has ls 8 [(6, .int (nI 0)), (5, .int (nI (dm_ofs g s9 x))), (0, .ref a), (1, .ref m9), (2, .int (nI s9)), (3, .int (nI dl)), (4, .int (nI x))] := hl
    have lp3 : ∀ (d : Nat) (k : Nat) (ls : Array Slot), d = 8 - k → (k ≤ 8) → lv_has ls 8 [(6, .int (nI k)), (5, .int (nI (dm_bys (fun y => dm_ofs g s9 y) l9 x k))), (0, .ref a), (1, .ref m9), (2, .int (nI s9)), (3, .int (nI dl)), (4, .int (nI x))] → W p l e (headSpec ws_Led_bySubject (kk_rm 2 0 0)).room s m ([.ref a, .ref m9, .int (nI s9), .int (nI dl), .int (nI x)]).toArray below meth c s.heap [] 0 0 (MQ below (vp_Si (fun r => r = nI (dm_by1 (dl == 1) (fun y => dm_ofs g s9 y) l9 x))) ([.ref a, .ref m9, .int (nI s9), .int (nI dl), .int (nI x)]).toArray s 0 0 (fun _ => False)) (F0 m 19 ls []) := by
      intro d
      induction d using Nat.strongRecOn with
      | ind d ih =>
        intro k ls hd hk hl
        refine lv_iload hx hb d_Led_bySubject_19 (lv_at hl 0 rfl) ?_
        refine lv_bipush (v := nI 8) hx hb d_Led_bySubject_21 (by decide) ?_
        refine lv_icmp_ge (tgt := 67) hx hb d_Led_bySubject_23 (by decide) (fun cc4 => ?_) (fun cc4 => ?_)
        · have cc4 : 8 ≤ k := (nI_leI (by omega) (by omega)).mp cc4
          refine lv_iload hx hb d_Led_bySubject_67 (lv_at hl 1 rfl) ?_
          exact W.iret hx hb hr (fun t ht hW => ⟨_, rfl, congrArg nI (by obtain rfl : k = 8 := (by omega); obtain rfl : dl = 1 := (by omega); rfl), ht⟩) (fun q hq => by cases hq) d_Led_bySubject_69
        · have cc4 : ¬ (8 ≤ k) := fun q => cc4 ((nI_leI (by omega) (by omega)).mpr q)
          refine lv_iload hx hb d_Led_bySubject_26 (lv_at hl 0 rfl) ?_
          refine lv_iload hx hb d_Led_bySubject_28 (lv_at hl 6 rfl) ?_
          refine lv_icmp_eq (tgt := 61) hx hb d_Led_bySubject_30 (by decide) (fun cc5 => ?_) (fun cc5 => ?_)
          · have cc5 : k = x := (nI_eq (by omega) (by omega)).mp cc5
            have e1 : dm_bys (fun y => dm_ofs g s9 y) l9 x (k + 1) = dm_bys (fun y => dm_ofs g s9 y) l9 x k := if_pos cc5
            rw [← e1] at hl
            refine lv_iinc (k := 0) (v := nI (k + 1)) hx hb d_Led_bySubject_61 hl rfl (kk_inc _) (by decide) rfl (fun ls hl => ?_)
            have hl : lv_has ls 8 [(6, .int (nI (k + 1))), (5, .int (nI (dm_bys (fun y => dm_ofs g s9 y) l9 x (k + 1)))), (0, .ref a), (1, .ref m9), (2, .int (nI s9)), (3, .int (nI dl)), (4, .int (nI x))] := hl
            refine lv_goto (tgt := 19) hx hb d_Led_bySubject_64 (by decide) ?_
            exact ih _ (by omega) (k + 1) ls rfl (by omega) (lv_sub hl [0, 1, 2, 3, 4, 5, 6] rfl)
          · have cc5 : ¬ (k = x) := fun q => cc5 ((nI_eq (by omega) (by omega)).mpr q)
            refine lv_aload_n hx hb d_Led_bySubject_33 rfl (lv_at hl 3 rfl) ?_
            refine lv_iload_n hx hb d_Led_bySubject_34 rfl (lv_at hl 4 rfl) ?_
            refine lv_iload hx hb d_Led_bySubject_35 (lv_at hl 0 rfl) ?_
            refine vp_callSi (va_Run.run (va_runV (As := [.int (nI s9), .int (nI k)]) (rest := []) ⟨hx, hb, hml, hown, hts⟩ (c_Mea_ofSubject l h_2 h_3 (by omega) (by omega) hg) (cwV 2 hts (gW_in (hd := [_, _, _, _, _]) (kk_5 wd_387 wd_330 wd_331 wd_3 cw_Mea_ofSubject)) rfl rfl rfl ⟨rfl, ds_Mea_ofSubject⟩ ⟨Nat.le_of_ble_eq_true rfl, Nat.le_of_ble_eq_true rfl⟩) (kk_preV hK hP hz hBz h_2 rfl) rfl rfl hl.1 rfl (lv_room (Nat.le_of_ble_eq_true rfl)) d_Led_bySubject_37 ⟨Nat.le_of_ble_eq_true rfl, Nat.le_of_ble_eq_true rfl⟩)) (fun r6 hr6 => ?_)
            subst hr6
            refine lv_istore hx hb d_Led_bySubject_40 hl (by decide) rfl (fun ls hl => ?_)
            have hl : lv_has ls 8 [(7, .int (nI (dm_ofs g s9 k))), (6, .int (nI k)), (5, .int (nI (dm_bys (fun y => dm_ofs g s9 y) l9 x k))), (0, .ref a), (1, .ref m9), (2, .int (nI s9)), (3, .int (nI dl)), (4, .int (nI x))] := hl
            refine lv_iload hx hb d_Led_bySubject_42 (lv_at hl 2 rfl) ?_
            refine lv_iload hx hb d_Led_bySubject_44 (lv_at hl 0 rfl) ?_
            refine lv_aload_n hx hb d_Led_bySubject_46 rfl (lv_at hl 3 rfl) ?_
            refine mm_get (D := D) (C := n_Led) (T := T_Led) (N := 3) (v := .ref (a + 2)) hx hb hts lay_Led hown hK.1 hP h_0 rfl 1 (by decide) (hts _ (List.mem_cons_of_mem _ wd_59)) (fun _ h9 => h9) rfl d_Led_bySubject_47 ?_
            refine lv_iload hx hb d_Led_bySubject_50 (lv_at hl 1 rfl) ?_
            refine mm_iald hx hb hK.1 hP 0 h_1 rfl k rfl (by omega) (by decide) d_Led_bySubject_52 ?_
            refine W.eq (g2 := F0 m 53 ls [.int (nI (l9 k)), .int (nI (dm_ofs g s9 k)), .int (nI (dm_bys (fun y => dm_ofs g s9 y) l9 x k))]) rfl ?_
            have hq1 := dm_ofs_le hg s9 k
            have hq2 := hl9 k
            refine vp_callSi (va_Run.run (va_runSN (As := [.int (nI (dm_ofs g s9 k)), .int (nI (l9 k))]) (rest := [.int (nI (dm_bys (fun y => dm_ofs g s9 y) l9 x k))]) ⟨hx, hb, hml, hown, hts⟩ (c_X_sumOf l (by omega) (by omega)) ⟨va_cnB 2 hts (gW_in (hd := [_]) (kk_1 cw_X_sumOf)) rfl rfl rfl (hK.2.1 _ nw_388 rfl) (hts _ (List.mem_cons_of_mem _ wd_1)) ds_X_sumOf ⟨Nat.le_of_ble_eq_true rfl, Nat.le_of_ble_eq_true rfl⟩, (hts _ (List.mem_cons_of_mem _ wd_339)), trivial⟩ (kk_preS hK hP hz hBz) rfl rfl hl.1 rfl (lv_room (Nat.le_of_ble_eq_true rfl)) d_Led_bySubject_53 ⟨Nat.le_of_ble_eq_true rfl, Nat.le_of_ble_eq_true rfl⟩)) (fun r7 hr7 => ?_)
            subst hr7
            refine va_mmin hx hb (by rw [hml]; exact hl.1.symm) hown (hts _ (List.mem_cons_of_mem _ wd_389)) (hts _ (List.mem_cons_of_mem _ wd_342)) (hts _ (List.mem_cons_of_mem _ wd_13)) (hts _ (List.mem_cons_of_mem _ wd_math_min)) (Nat.le_of_ble_eq_true rfl) (Nat.le_of_ble_eq_true rfl) (Nat.zero_le _) (Nat.zero_le _) d_Led_bySubject_56 ?_
            refine kk_top (y := nI (dm_bys (fun y => dm_ofs g s9 y) l9 x (k + 1))) ((kk_min (Nat.lt_of_le_of_lt (dm_bys_le (fun y => dm_ofs_le hg _ y) _ _) (by decide)) (Nat.lt_of_le_of_lt (dm_s_le _ _) (by decide))).trans (congrArg nI (if_neg cc5).symm)) ?_
            refine lv_istore hx hb d_Led_bySubject_59 hl (by decide) rfl (fun ls hl => ?_)
            have hl : lv_has ls 8 [(5, .int (nI (dm_bys (fun y => dm_ofs g s9 y) l9 x (k + 1)))), (7, .int (nI (dm_ofs g s9 k))), (6, .int (nI k)), (0, .ref a), (1, .ref m9), (2, .int (nI s9)), (3, .int (nI dl)), (4, .int (nI x))] := hl
            refine lv_iinc (k := 2) (v := nI (k + 1)) hx hb d_Led_bySubject_61 hl rfl (kk_inc _) (by decide) rfl (fun ls hl => ?_)
            have hl : lv_has ls 8 [(6, .int (nI (k + 1))), (5, .int (nI (dm_bys (fun y => dm_ofs g s9 y) l9 x (k + 1)))), (7, .int (nI (dm_ofs g s9 k))), (0, .ref a), (1, .ref m9), (2, .int (nI s9)), (3, .int (nI dl)), (4, .int (nI x))] := hl
            refine lv_goto (tgt := 19) hx hb d_Led_bySubject_64 (by decide) ?_
            exact ih _ (by omega) (k + 1) ls rfl (by omega) (lv_sub hl [0, 1, 3, 4, 5, 6, 7] rfl)
    exact lp3 _ 0 _ rfl (by omega) (lv_sub hl [0, 1, 2, 3, 4, 5, 6] rfl)
  · rw [← nI_0] at cc2
    have cc2 : dl = 0 := (nI_eq (by omega) (by omega)).mp cc2
    refine lv_iload hx hb d_Led_bySubject_13 (lv_at hl 0 rfl) ?_
    exact W.iret hx hb hr (fun t ht hW => ⟨_, rfl, congrArg nI (by unfold dm_by1; rw [if_neg (by rw [cc2]; decide)]), ht⟩) (fun q hq => by cases hq) d_Led_bySubject_15
theorem d_Chn_isThere_0 : decode k_Chn_isThere 0 = .ok (.aload_n 0, 1) := by decide +kernel
theorem d_Chn_isThere_1 : decode k_Chn_isThere 1 = .ok (.getfield 38, 3) := by decide +kernel
theorem d_Chn_isThere_4 : decode k_Chn_isThere 4 = .ok (.ifCond .le 7, 3) := by decide +kernel
theorem d_Chn_isThere_7 : decode k_Chn_isThere 7 = .ok (.iconst 1, 1) := by decide +kernel
theorem d_Chn_isThere_8 : decode k_Chn_isThere 8 = .ok (.goto 4, 3) := by decide +kernel
theorem d_Chn_isThere_11 : decode k_Chn_isThere 11 = .ok (.iconst 0, 1) := by decide +kernel
theorem d_Chn_isThere_12 : decode k_Chn_isThere 12 = .ok (.ireturn, 1) := by decide +kernel
set_option maxHeartbeats 4000000 in
set_option maxRecDepth 100000 in
theorem c_Chn_isThere (l : Launch) {B : Nat} {D : va_G} {cI cZ cQ : ClassId} {w : mm_M} {sz : Nat} {a ky nm sz9 tg tm us dl : Nat} (h_0 : w a = some (.inr (4, [.int (nI ky), .ref nm, .int (nI sz9), .ref tg, .ref tm, .int (nI us), .int (nI dl)]))) (hus : us < 2 ^ 30) : Met l y_Chn_isThere ws_Chn_isThere (kk_rm 0 0 0) (kk_Pc B D cI cZ cQ [.ref a] w sz) (vp_Si (fun r => r = nI (if 0 < us then 1 else 0))) 0 0 (fun _ => False) := by
  refine Met.ofW (cc := k_Chn_isThere) (maxL := 1) (ret := (some .boolean)) (by decide) rfl ?_
  intro p e s m args below meth c s₁ BB hml hv
  obtain ⟨rfl, hK, hP, hz, hBz⟩ := hv
  have hx := BB.exec
  have hb := BB.bytes
  have hr := BB.returns
  have hts := atoms_spec (ws := ws_Chn_isThere) BB.pre
  have hown : s.vm.findClass "DelegationClosure$Chain" = some m.cls := findClass_of_methodNamed BB.named
  have hlocks := BB.notSynchronized
  have hS : mm_S B s.heap s.heap [] := va_S.rf
  have hl := lv_entry ([.ref a]) (n := 1) (Nat.le_of_ble_eq_true rfl)
  rw [lg_entry_eq]
  generalize (lg_sl ([.ref a]) ++ List.replicate (1 - (lg_sl ([.ref a])).length) Slot.unset).toArray = ls at hl ⊢
  have hl : lv_has ls 1 [(0, .ref a)] := hl
  refine lv_aload_n hx hb d_Chn_isThere_0 rfl (lv_at hl 0 rfl) ?_
  refine mm_get (D := D) (C := n_Chn) (T := T_Chn) (N := 7) (v := .int (nI us)) hx hb hts lay_Chn hown hK.1 hP h_0 rfl 5 (by decide) (hts _ (List.mem_cons_of_mem _ wd_113)) (fun _ h9 => h9) rfl d_Chn_isThere_1 ?_
  refine lv_if_le (tgt := 11) hx hb d_Chn_isThere_4 (by decide) (fun cc1 => ?_) (fun cc1 => ?_)
  · rw [← nI_0] at cc1
    have cc1 : us ≤ 0 := (nI_leI (by omega) (by omega)).mp cc1
    refine lv_iconst (v := nI 0) hx hb d_Chn_isThere_11 (by decide) ?_
    exact W.zret hx hb hr rfl (fun t ht hW => ⟨_, rfl, kk_iff (by omega), ht⟩) (fun q hq => by cases hq) d_Chn_isThere_12
  · rw [← nI_0] at cc1
    have cc1 : ¬ (us ≤ 0) := fun q => cc1 ((nI_leI (by omega) (by omega)).mpr q)
    refine lv_iconst (v := nI 1) hx hb d_Chn_isThere_7 (by decide) ?_
    refine lv_goto (tgt := 12) hx hb d_Chn_isThere_8 (by decide) ?_
    exact W.zret hx hb hr rfl (fun t ht hW => ⟨_, rfl, kk_ift (by omega), ht⟩) (fun q hq => by cases hq) d_Chn_isThere_12
