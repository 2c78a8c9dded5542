theorem d_Mea_init_0 : decode k_Mea_init 0 = .ok (.aload_n 0, 1) := by decide +kernel
theorem d_Mea_init_1 : decode k_Mea_init 1 = .ok (.invokespecial 3, 3) := by decide +kernel
theorem d_Mea_init_4 : decode k_Mea_init 4 = .ok (.aload_n 0, 1) := by decide +kernel
theorem d_Mea_init_5 : decode k_Mea_init 5 = .ok (.sipush 256, 3) := by decide +kernel
theorem d_Mea_init_8 : decode k_Mea_init 8 = .ok (.newarray .int, 2) := by decide +kernel
theorem d_Mea_init_10 : decode k_Mea_init 10 = .ok (.putfield 9, 3) := by decide +kernel
theorem d_Mea_init_13 : decode k_Mea_init 13 = .ok (.return_, 1) := by decide +kernel
set_option maxHeartbeats 4000000 in
set_option maxRecDepth 100000 in
theorem c_Mea_init (l : Launch) {B : Nat} {D : va_G} {cI cZ cQ : ClassId} {w : mm_M} {sz : Nat} {a : Nat} (h_0 : w a = some (.inr (2, [.null]))) (hasz : a < sz) : Met l y_Mea_init ws_Mea_init (kk_rm 1 1 256) (kk_Pc B D cI cZ cQ [.ref a] w sz) (kk_Qv B D (fun w' sz' => w' = mm_up (mm_up w a (.inr (2, [.ref sz]))) sz (.inl (cI, 256, .inl (fun i => nI ((fun _ => 0) i)))) ∧ sz' = sz + 1)) 1 256 (fun q => B ≤ q) := by
  refine Met.ofW (cc := k_Mea_init) (maxL := 1) (ret := none) (by decide) rfl ?_
  intro p e s m args below meth c s₁ BB hml hv
  obtain ⟨rfl, hK, hP, hz, hBz⟩ := hv
  have hx := BB.exec
  have hb := BB.bytes
  have hr := BB.returns
  have hts := atoms_spec (ws := ws_Mea_init) BB.pre
  have hown : s.vm.findClass "DelegationClosure$Meanings" = some m.cls := findClass_of_methodNamed BB.named
  have hlocks := BB.notSynchronized
  have hin : meth.name = "<init>" := (name_of_methodNamed BB.named BB.method).1
  have hS : mm_S B s.heap s.heap [] := va_S.rf
  have hl := lv_entry ([.ref a]) (n := 1) (Nat.le_of_ble_eq_true rfl)
  rw [lg_entry_eq]
  generalize (lg_sl ([.ref a]) ++ List.replicate (1 - (lg_sl ([.ref a])).length) Slot.unset).toArray = ls at hl ⊢
  have hl : lv_has ls 1 [(0, .ref a)] := hl
  refine lv_aload_n hx hb d_Mea_init_0 rfl (lv_at hl 0 rfl) ?_
  refine W.objInit hx hb hown (hts _ (List.mem_cons_of_mem _ wd_46)) (hts _ (List.mem_cons_of_mem _ wd_21)) (hts _ (List.mem_cons_of_mem _ wd_objcode)) rfl (by rw [hml]; exact hl.1) rfl d_Mea_init_1 (Nat.le_of_ble_eq_true rfl) (Nat.le_of_ble_eq_true rfl) ?_
  refine W.eq (g2 := F0 m 4 ls []) rfl ?_
  refine lv_aload_n hx hb d_Mea_init_4 rfl (lv_at hl 0 rfl) ?_
  refine lv_sipush (v := nI 256) hx hb d_Mea_init_5 (by decide) ?_
  refine mm_newa (atype := .int) (cA := cI) (a0 := (256, .inl (fun i => nI ((fun _ => 0) i)))) (h := sz) hx hb (hts _ (List.mem_cons_of_mem _ wd_51)) (va_nm_int (hK.1.2 0 _ rfl).2) hP hS (fun _ => rfl) (by decide) (by decide +kernel) (by decide) (Nat.le_of_ble_eq_true rfl) (Nat.le_of_ble_eq_true rfl) hz (by omega) d_Mea_init_8 (fun H hP hz1 hS => ?_)
  have hz : H.size = sz + 1 := hz1
  obtain ⟨w1, hw1⟩ : ∃ z : mm_M, z = mm_up w sz (.inl (cI, 256, .inl (fun i => nI ((fun _ => 0) i)))) := ⟨_, rfl⟩
  have hP : mm_P B D kc w1 H := by rw [hw1]; exact hP
  have fr1 : ∀ j, j ≠ sz → w1 j = w j := fun j h9 => by rw [hw1]; exact mm_un h9
  have fa1 : w1 sz = some (.inl (cI, 256, .inl (fun i => nI ((fun _ => 0) i)))) := by rw [hw1]; exact mm_us _ _ _
  have f2 := (fr1 _ (by omega)).trans (h_0)
  refine mm_putF (D := D) (C := n_Mea) (T := T_Mea) (N := 1) (v := .ref sz) (ty := (.array .int)) hx hb hts lay_Mea t_Mea ty_Mea nm_Mea hown hK.1 hP hS f2 rfl 0 (by decide) (hts _ (List.mem_cons_of_mem _ wd_47)) (fun _ h9 => h9) rfl hin rfl (by decide +kernel) rfl rfl (Nat.le_of_ble_eq_true rfl) d_Mea_init_10 (fun H locs hP hz1 hS => ?_)
  have hz : H.size = sz + 1 := hz1.trans hz
  obtain ⟨w3, hw3⟩ : ∃ z : mm_M, z = mm_up w1 a (.inr (2, [.ref sz])) := ⟨_, rfl⟩
  have hP : mm_P B D kc w3 H := by rw [hw3]; exact hP
  have fr3 : ∀ j, j ≠ a → w3 j = w1 j := fun j h9 => by rw [hw3]; exact mm_un h9
  have fa3 : w3 a = some (.inr (2, [.ref sz])) := by rw [hw3]; exact mm_us _ _ _
  exact W.vret hx hb hr (fun t ht hW => ⟨⟨(w3, sz + 1), rfl, ⟨mm_e2 fa3 ((fr3 _ (by omega)).trans (fa1)) (fun j g0 g1 => (fr3 j g0).trans (fr1 j g1)), rfl⟩, by rw [ht]; exact hP, by rw [ht]; exact hz⟩, hS.F ht⟩) hS.2.2 d_Mea_init_13
theorem d_Led_init_0 : decode k_Led_init 0 = .ok (.aload_n 0, 1) := by decide +kernel
theorem d_Led_init_1 : decode k_Led_init 1 = .ok (.invokespecial 3, 3) := by decide +kernel
theorem d_Led_init_4 : decode k_Led_init 4 = .ok (.aload_n 0, 1) := by decide +kernel
theorem d_Led_init_5 : decode k_Led_init 5 = .ok (.bipush 24, 2) := by decide +kernel
theorem d_Led_init_7 : decode k_Led_init 7 = .ok (.newarray .boolean, 2) := by decide +kernel
theorem d_Led_init_9 : decode k_Led_init 9 = .ok (.putfield 9, 3) := by decide +kernel
theorem d_Led_init_12 : decode k_Led_init 12 = .ok (.aload_n 0, 1) := by decide +kernel
theorem d_Led_init_13 : decode k_Led_init 13 = .ok (.bipush 9, 2) := by decide +kernel
theorem d_Led_init_15 : decode k_Led_init 15 = .ok (.newarray .int, 2) := by decide +kernel
theorem d_Led_init_17 : decode k_Led_init 17 = .ok (.putfield 15, 3) := by decide +kernel
theorem d_Led_init_20 : decode k_Led_init 20 = .ok (.aload_n 0, 1) := by decide +kernel
theorem d_Led_init_21 : decode k_Led_init 21 = .ok (.iconst 3, 1) := by decide +kernel
theorem d_Led_init_22 : decode k_Led_init 22 = .ok (.newarray .int, 2) := by decide +kernel
theorem d_Led_init_24 : decode k_Led_init 24 = .ok (.putfield 19, 3) := by decide +kernel
theorem d_Led_init_27 : decode k_Led_init 27 = .ok (.return_, 1) := by decide +kernel
set_option maxHeartbeats 4000000 in
set_option maxRecDepth 100000 in
theorem c_Led_init (l : Launch) {B : Nat} {D : va_G} {cI cZ cQ : ClassId} {w : mm_M} {sz : Nat} {a : Nat} (h_0 : w a = some (.inr (3, [.null, .null, .null]))) (hasz : a < sz) : Met l y_Led_init ws_Led_init (kk_rm 1 3 36) (kk_Pc B D cI cZ cQ [.ref a] w sz) (kk_Qv B D (fun w' sz' => w' = mm_up (mm_up (mm_up (mm_up w a (.inr (3, [.ref sz, .ref (sz + 1), .ref (sz + 2)]))) sz (.inl (cZ, 24, .inl (fun i => nI ((fun _ => 0) i))))) (sz + 1) (.inl (cI, 9, .inl (fun i => nI ((fun _ => 0) i))))) (sz + 2) (.inl (cI, 3, .inl (fun i => nI ((fun _ => 0) i)))) ∧ sz' = sz + 3)) 3 36 (fun q => B ≤ q) := by
  refine Met.ofW (cc := k_Led_init) (maxL := 1) (ret := none) (by decide) rfl ?_
  intro p e s m args below meth c s₁ BB hml hv
  obtain ⟨rfl, hK, hP, hz, hBz⟩ := hv
  have hx := BB.exec
  have hb := BB.bytes
  have hr := BB.returns
  have hts := atoms_spec (ws := ws_Led_init) BB.pre
  have hown : s.vm.findClass "DelegationClosure$Leads" = some m.cls := findClass_of_methodNamed BB.named
  have hlocks := BB.notSynchronized
  have hin : meth.name = "<init>" := (name_of_methodNamed BB.named BB.method).1
  have hS : mm_S B s.heap s.heap [] := va_S.rf
  have hl := lv_entry ([.ref a]) (n := 1) (Nat.le_of_ble_eq_true rfl)
  rw [lg_entry_eq]
  generalize (lg_sl ([.ref a]) ++ List.replicate (1 - (lg_sl ([.ref a])).length) Slot.unset).toArray = ls at hl ⊢
  have hl : lv_has ls 1 [(0, .ref a)] := hl
  refine lv_aload_n hx hb d_Led_init_0 rfl (lv_at hl 0 rfl) ?_
  refine W.objInit hx hb hown (hts _ (List.mem_cons_of_mem _ wd_57)) (hts _ (List.mem_cons_of_mem _ wd_21)) (hts _ (List.mem_cons_of_mem _ wd_objcode)) rfl (by rw [hml]; exact hl.1) rfl d_Led_init_1 (Nat.le_of_ble_eq_true rfl) (Nat.le_of_ble_eq_true rfl) ?_
  refine W.eq (g2 := F0 m 4 ls []) rfl ?_
  refine lv_aload_n hx hb d_Led_init_4 rfl (lv_at hl 0 rfl) ?_
  refine lv_bipush (v := nI 24) hx hb d_Led_init_5 (by decide) ?_
  refine mm_newa (atype := .boolean) (cA := cZ) (a0 := (24, .inl (fun i => nI ((fun _ => 0) i)))) (h := sz) hx hb (hts _ (List.mem_cons_of_mem _ wd_68)) (va_nm_boolean (hK.1.2 1 _ rfl).2) hP hS (fun _ => rfl) (by decide) (by decide +kernel) (by decide) (Nat.le_of_ble_eq_true rfl) (Nat.le_of_ble_eq_true rfl) hz (by omega) d_Led_init_7 (fun H hP hz1 hS => ?_)
  have hz : H.size = sz + 1 := hz1
  obtain ⟨w1, hw1⟩ : ∃ z : mm_M, z = mm_up w sz (.inl (cZ, 24, .inl (fun i => nI ((fun _ => 0) i)))) := ⟨_, rfl⟩
  have hP : mm_P B D kc w1 H := by rw [hw1]; exact hP
  have fr1 : ∀ j, j ≠ sz → w1 j = w j := fun j h9 => by rw [hw1]; exact mm_un h9
  have fa1 : w1 sz = some (.inl (cZ, 24, .inl (fun i => nI ((fun _ => 0) i)))) := by rw [hw1]; exact mm_us _ _ _
  have f2 := (fr1 _ (by omega)).trans (h_0)
  refine mm_putF (D := D) (C := n_Led) (T := T_Led) (N := 3) (v := .ref sz) (ty := (.array .boolean)) hx hb hts lay_Led t_Led ty_Led nm_Led hown hK.1 hP hS f2 rfl 0 (by decide) (hts _ (List.mem_cons_of_mem _ wd_58)) (fun _ h9 => h9) rfl hin rfl (by decide +kernel) rfl rfl (Nat.le_of_ble_eq_true rfl) d_Led_init_9 (fun H locs hP hz1 hS => ?_)
  have hz : H.size = sz + 1 := hz1.trans hz
  obtain ⟨w3, hw3⟩ : ∃ z : mm_M, z = mm_up w1 a (.inr (3, [.ref sz, .null, .null])) := ⟨_, rfl⟩
  have hP : mm_P B D kc w3 H := by rw [hw3]; exact hP
  have fr3 : ∀ j, j ≠ a → w3 j = w1 j := fun j h9 => by rw [hw3]; exact mm_un h9
  have fa3 : w3 a = some (.inr (3, [.ref sz, .null, .null])) := by rw [hw3]; exact mm_us _ _ _
  refine lv_aload_n hx hb d_Led_init_12 rfl (lv_at hl 0 rfl) ?_
  refine lv_bipush (v := nI 9) hx hb d_Led_init_13 (by decide) ?_
  refine mm_newa (atype := .int) (cA := cI) (a0 := (9, .inl (fun i => nI ((fun _ => 0) i)))) (h := sz + 1) hx hb (hts _ (List.mem_cons_of_mem _ wd_51)) (va_nm_int (hK.1.2 0 _ rfl).2) hP hS (fun _ => rfl) (by decide) (by decide +kernel) (by decide) (Nat.le_of_ble_eq_true rfl) (Nat.le_of_ble_eq_true rfl) hz (by omega) d_Led_init_15 (fun H hP hz1 hS => ?_)
  have hz : H.size = sz + 2 := hz1
  obtain ⟨w4, hw4⟩ : ∃ z : mm_M, z = mm_up w3 (sz + 1) (.inl (cI, 9, .inl (fun i => nI ((fun _ => 0) i)))) := ⟨_, rfl⟩
  have hP : mm_P B D kc w4 H := by rw [hw4]; exact hP
  have fr4 : ∀ j, j ≠ sz + 1 → w4 j = w3 j := fun j h9 => by rw [hw4]; exact mm_un h9
  have fa4 : w4 (sz + 1) = some (.inl (cI, 9, .inl (fun i => nI ((fun _ => 0) i)))) := by rw [hw4]; exact mm_us _ _ _
  have f5 := (fr4 _ (by omega)).trans (fa3)
  refine mm_putF (D := D) (C := n_Led) (T := T_Led) (N := 3) (v := .ref (sz + 1)) (ty := (.array .int)) hx hb hts lay_Led t_Led ty_Led nm_Led hown hK.1 hP hS f5 rfl 1 (by decide) (hts _ (List.mem_cons_of_mem _ wd_59)) (fun _ h9 => h9) rfl hin rfl (by decide +kernel) rfl rfl (Nat.le_of_ble_eq_true rfl) d_Led_init_17 (fun H locs hP hz1 hS => ?_)
  have hz : H.size = sz + 2 := hz1.trans hz
  obtain ⟨w6, hw6⟩ : ∃ z : mm_M, z = mm_up w4 a (.inr (3, [.ref sz, .ref (sz + 1), .null])) := ⟨_, rfl⟩
  have hP : mm_P B D kc w6 H := by rw [hw6]; exact hP
  have fr6 : ∀ j, j ≠ a → w6 j = w4 j := fun j h9 => by rw [hw6]; exact mm_un h9
  have fa6 : w6 a = some (.inr (3, [.ref sz, .ref (sz + 1), .null])) := by rw [hw6]; exact mm_us _ _ _
  refine lv_aload_n hx hb d_Led_init_20 rfl (lv_at hl 0 rfl) ?_
  refine lv_iconst (v := nI 3) hx hb d_Led_init_21 (by decide) ?_
  refine mm_newa (atype := .int) (cA := cI) (a0 := (3, .inl (fun i => nI ((fun _ => 0) i)))) (h := sz + 2) hx hb (hts _ (List.mem_cons_of_mem _ wd_51)) (va_nm_int (hK.1.2 0 _ rfl).2) hP hS (fun _ => rfl) (by decide) (by decide +kernel) (by decide) (Nat.le_of_ble_eq_true rfl) (Nat.le_of_ble_eq_true rfl) hz (by omega) d_Led_init_22 (fun H hP hz1 hS => ?_)
  have hz : H.size = sz + 3 := hz1
  obtain ⟨w7, hw7⟩ : ∃ z : mm_M, z = mm_up w6 (sz + 2) (.inl (cI, 3, .inl (fun i => nI ((fun _ => 0) i)))) := ⟨_, rfl⟩
  have hP : mm_P B D kc w7 H := by rw [hw7]; exact hP
  have fr7 : ∀ j, j ≠ sz + 2 → w7 j = w6 j := fun j h9 => by rw [hw7]; exact mm_un h9
  have fa7 : w7 (sz + 2) = some (.inl (cI, 3, .inl (fun i => nI ((fun _ => 0) i)))) := by rw [hw7]; exact mm_us _ _ _
  have f8 := (fr7 _ (by omega)).trans (fa6)
  refine mm_putF (D := D) (C := n_Led) (T := T_Led) (N := 3) (v := .ref (sz + 2)) (ty := (.array .int)) hx hb hts lay_Led t_Led ty_Led nm_Led hown hK.1 hP hS f8 rfl 2 (by decide) (hts _ (List.mem_cons_of_mem _ wd_60)) (fun _ h9 => h9) rfl hin rfl (by decide +kernel) rfl rfl (Nat.le_of_ble_eq_true rfl) d_Led_init_24 (fun H locs hP hz1 hS => ?_)
  have hz : H.size = sz + 3 := hz1.trans hz
  obtain ⟨w9, hw9⟩ : ∃ z : mm_M, z = mm_up w7 a (.inr (3, [.ref sz, .ref (sz + 1), .ref (sz + 2)])) := ⟨_, rfl⟩
  have hP : mm_P B D kc w9 H := by rw [hw9]; exact hP
  have fr9 : ∀ j, j ≠ a → w9 j = w7 j := fun j h9 => by rw [hw9]; exact mm_un h9
  have fa9 : w9 a = some (.inr (3, [.ref sz, .ref (sz + 1), .ref (sz + 2)])) := by rw [hw9]; exact mm_us _ _ _
  exact W.vret hx hb hr (fun t ht hW => ⟨⟨(w9, sz + 3), rfl, ⟨mm_e4 fa9 ((fr9 _ (by omega)).trans ((fr7 _ (by omega)).trans ((fr6 _ (by omega)).trans ((fr4 _ (by omega)).trans ((fr3 _ (by omega)).trans (fa1)))))) ((fr9 _ (by omega)).trans ((fr7 _ (by omega)).trans ((fr6 _ (by omega)).trans (fa4)))) ((fr9 _ (by omega)).trans (fa7)) (fun j g0 g1 g2 g3 => (fr9 j g0).trans ((fr7 j g3).trans ((fr6 j g0).trans ((fr4 j g2).trans ((fr3 j g0).trans (fr1 j g1)))))), rfl⟩, by rw [ht]; exact hP, by rw [ht]; exact hz⟩, hS.F ht⟩) hS.2.2 d_Led_init_27
theorem d_Chn_init_0 : decode k_Chn_init 0 = .ok (.aload_n 0, 1) := by decide +kernel
theorem d_Chn_init_1 : decode k_Chn_init 1 = .ok (.invokespecial 3, 3) := by decide +kernel
theorem d_Chn_init_4 : decode k_Chn_init 4 = .ok (.aload_n 0, 1) := by decide +kernel
theorem d_Chn_init_5 : decode k_Chn_init 5 = .ok (.iconst 0, 1) := by decide +kernel
theorem d_Chn_init_6 : decode k_Chn_init 6 = .ok (.putfield 9, 3) := by decide +kernel
theorem d_Chn_init_9 : decode k_Chn_init 9 = .ok (.aload_n 0, 1) := by decide +kernel
theorem d_Chn_init_10 : decode k_Chn_init 10 = .ok (.iconst 4, 1) := by decide +kernel
theorem d_Chn_init_11 : decode k_Chn_init 11 = .ok (.newarray .int, 2) := by decide +kernel
theorem d_Chn_init_13 : decode k_Chn_init 13 = .ok (.putfield 15, 3) := by decide +kernel
theorem d_Chn_init_16 : decode k_Chn_init 16 = .ok (.aload_n 0, 1) := by decide +kernel
theorem d_Chn_init_17 : decode k_Chn_init 17 = .ok (.iconst 0, 1) := by decide +kernel
theorem d_Chn_init_18 : decode k_Chn_init 18 = .ok (.putfield 19, 3) := by decide +kernel
theorem d_Chn_init_21 : decode k_Chn_init 21 = .ok (.aload_n 0, 1) := by decide +kernel
theorem d_Chn_init_22 : decode k_Chn_init 22 = .ok (.new 22, 3) := by decide +kernel
theorem d_Chn_init_25 : decode k_Chn_init 25 = .ok (.dup, 1) := by decide +kernel
theorem d_Chn_init_26 : decode k_Chn_init 26 = .ok (.invokespecial 24, 3) := by decide +kernel
theorem d_Chn_init_29 : decode k_Chn_init 29 = .ok (.putfield 25, 3) := by decide +kernel
theorem d_Chn_init_32 : decode k_Chn_init 32 = .ok (.aload_n 0, 1) := by decide +kernel
theorem d_Chn_init_33 : decode k_Chn_init 33 = .ok (.new 29, 3) := by decide +kernel
theorem d_Chn_init_36 : decode k_Chn_init 36 = .ok (.dup, 1) := by decide +kernel
theorem d_Chn_init_37 : decode k_Chn_init 37 = .ok (.iconst 0, 1) := by decide +kernel
theorem d_Chn_init_38 : decode k_Chn_init 38 = .ok (.iconst 0, 1) := by decide +kernel
theorem d_Chn_init_39 : decode k_Chn_init 39 = .ok (.invokespecial 31, 3) := by decide +kernel
theorem d_Chn_init_42 : decode k_Chn_init 42 = .ok (.putfield 34, 3) := by decide +kernel
theorem d_Chn_init_45 : decode k_Chn_init 45 = .ok (.aload_n 0, 1) := by decide +kernel
theorem d_Chn_init_46 : decode k_Chn_init 46 = .ok (.iconst 0, 1) := by decide +kernel
theorem d_Chn_init_47 : decode k_Chn_init 47 = .ok (.putfield 38, 3) := by decide +kernel
theorem d_Chn_init_50 : decode k_Chn_init 50 = .ok (.aload_n 0, 1) := by decide +kernel
theorem d_Chn_init_51 : decode k_Chn_init 51 = .ok (.iconst 0, 1) := by decide +kernel
theorem d_Chn_init_52 : decode k_Chn_init 52 = .ok (.putfield 41, 3) := by decide +kernel
theorem d_Chn_init_55 : decode k_Chn_init 55 = .ok (.return_, 1) := by decide +kernel
set_option maxHeartbeats 4000000 in
set_option maxRecDepth 100000 in
theorem c_Chn_init (l : Launch) {B : Nat} {D : va_G} {cI cZ cQ : ClassId} {w : mm_M} {sz : Nat} {a : Nat} (h_0 : w a = some (.inr (4, [.int 0, .null, .int 0, .null, .null, .int 0, .int 0]))) (hasz : a < sz) : Met l y_Chn_init ws_Chn_init (kk_rm 3 4 10) (kk_Pc B D cI cZ cQ [.ref a] w sz) (kk_Qv B D (fun w' sz' => w' = mm_up (mm_up (mm_up (mm_up (mm_up w a (.inr (4, [.int (nI 0), .ref sz, .int (nI 0), .ref (sz + 1), .ref (sz + 3), .int (nI 0), .int (nI 0)]))) sz (.inl (cI, 4, .inl (fun i => nI ((fun _ => 0) i))))) (sz + 1) (.inr (5, [.int (nI 255), .ref (sz + 2)]))) (sz + 2) (.inr (6, [.int (-2147483648), .int 2147483647]))) (sz + 3) (.inr (6, [.int (nI 0), .int (nI 0)])) ∧ sz' = sz + 4)) 4 10 (fun q => B ≤ q) := by
  refine Met.ofW (cc := k_Chn_init) (maxL := 1) (ret := none) (by decide) rfl ?_
  intro p e s m args below meth c s₁ BB hml hv
  obtain ⟨rfl, hK, hP, hz, hBz⟩ := hv
  have hx := BB.exec
  have hb := BB.bytes
  have hr := BB.returns
  have hts := atoms_spec (ws := ws_Chn_init) BB.pre
  have hown : s.vm.findClass "DelegationClosure$Chain" = some m.cls := findClass_of_methodNamed BB.named
  have hlocks := BB.notSynchronized
  have hin : meth.name = "<init>" := (name_of_methodNamed BB.named BB.method).1
  have hS : mm_S B s.heap s.heap [] := va_S.rf
  have hl := lv_entry ([.ref a]) (n := 1) (Nat.le_of_ble_eq_true rfl)
  rw [lg_entry_eq]
  generalize (lg_sl ([.ref a]) ++ List.replicate (1 - (lg_sl ([.ref a])).length) Slot.unset).toArray = ls at hl ⊢
  have hl : lv_has ls 1 [(0, .ref a)] := hl
  refine lv_aload_n hx hb d_Chn_init_0 rfl (lv_at hl 0 rfl) ?_
  refine W.objInit hx hb hown (hts _ (List.mem_cons_of_mem _ wd_74)) (hts _ (List.mem_cons_of_mem _ wd_21)) (hts _ (List.mem_cons_of_mem _ wd_objcode)) rfl (by rw [hml]; exact hl.1) rfl d_Chn_init_1 (Nat.le_of_ble_eq_true rfl) (Nat.le_of_ble_eq_true rfl) ?_
  refine W.eq (g2 := F0 m 4 ls []) rfl ?_
  refine lv_aload_n hx hb d_Chn_init_4 rfl (lv_at hl 0 rfl) ?_
  refine lv_iconst (v := nI 0) hx hb d_Chn_init_5 (by decide) ?_
  refine mm_put (D := D) (C := n_Chn) (T := T_Chn) (N := 7) (v := .int (nI 0)) (ty := .int) hx hb hts lay_Chn t_Chn ty_Chn nm_Chn hown hK.1 hP hS h_0 rfl 0 (by decide) (hts _ (List.mem_cons_of_mem _ wd_105)) (fun _ h9 => h9) rfl (by decide +kernel) rfl rfl (Nat.le_of_ble_eq_true rfl) d_Chn_init_6 (fun H locs hP hz1 hS => ?_)
  have hz : H.size = sz := hz1.trans hz
  obtain ⟨w1, hw1⟩ : ∃ z : mm_M, z = mm_up w a (.inr (4, [.int (nI 0), .null, .int 0, .null, .null, .int 0, .int 0])) := ⟨_, rfl⟩
  have hP : mm_P B D kc w1 H := by rw [hw1]; exact hP
  have fr1 : ∀ j, j ≠ a → w1 j = w j := fun j h9 => by rw [hw1]; exact mm_un h9
  have fa1 : w1 a = some (.inr (4, [.int (nI 0), .null, .int 0, .null, .null, .int 0, .int 0])) := by rw [hw1]; exact mm_us _ _ _
  refine lv_aload_n hx hb d_Chn_init_9 rfl (lv_at hl 0 rfl) ?_
  refine lv_iconst (v := nI 4) hx hb d_Chn_init_10 (by decide) ?_
  refine mm_newa (atype := .int) (cA := cI) (a0 := (4, .inl (fun i => nI ((fun _ => 0) i)))) (h := sz) hx hb (hts _ (List.mem_cons_of_mem _ wd_51)) (va_nm_int (hK.1.2 0 _ rfl).2) hP hS (fun _ => rfl) (by decide) (by decide +kernel) (by decide) (Nat.le_of_ble_eq_true rfl) (Nat.le_of_ble_eq_true rfl) hz (by omega) d_Chn_init_11 (fun H hP hz1 hS => ?_)
  have hz : H.size = sz + 1 := hz1
  obtain ⟨w2, hw2⟩ : ∃ z : mm_M, z = mm_up w1 sz (.inl (cI, 4, .inl (fun i => nI ((fun _ => 0) i)))) := ⟨_, rfl⟩
  have hP : mm_P B D kc w2 H := by rw [hw2]; exact hP
  have fr2 : ∀ j, j ≠ sz → w2 j = w1 j := fun j h9 => by rw [hw2]; exact mm_un h9
  have fa2 : w2 sz = some (.inl (cI, 4, .inl (fun i => nI ((fun _ => 0) i)))) := by rw [hw2]; exact mm_us _ _ _
  have f3 := (fr2 _ (by omega)).trans (fa1)
  refine mm_putF (D := D) (C := n_Chn) (T := T_Chn) (N := 7) (v := .ref sz) (ty := (.array .int)) hx hb hts lay_Chn t_Chn ty_Chn nm_Chn hown hK.1 hP hS f3 rfl 1 (by decide) (hts _ (List.mem_cons_of_mem _ wd_107)) (fun _ h9 => h9) rfl hin rfl (by decide +kernel) rfl rfl (Nat.le_of_ble_eq_true rfl) d_Chn_init_13 (fun H locs hP hz1 hS => ?_)
  have hz : H.size = sz + 1 := hz1.trans hz
  obtain ⟨w4, hw4⟩ : ∃ z : mm_M, z = mm_up w2 a (.inr (4, [.int (nI 0), .ref sz, .int 0, .null, .null, .int 0, .int 0])) := ⟨_, rfl⟩
  have hP : mm_P B D kc w4 H := by rw [hw4]; exact hP
  have fr4 : ∀ j, j ≠ a → w4 j = w2 j := fun j h9 => by rw [hw4]; exact mm_un h9
  have fa4 : w4 a = some (.inr (4, [.int (nI 0), .ref sz, .int 0, .null, .null, .int 0, .int 0])) := by rw [hw4]; exact mm_us _ _ _
  refine lv_aload_n hx hb d_Chn_init_16 rfl (lv_at hl 0 rfl) ?_
  refine lv_iconst (v := nI 0) hx hb d_Chn_init_17 (by decide) ?_
  refine mm_put (D := D) (C := n_Chn) (T := T_Chn) (N := 7) (v := .int (nI 0)) (ty := .int) hx hb hts lay_Chn t_Chn ty_Chn nm_Chn hown hK.1 hP hS fa4 rfl 2 (by decide) (hts _ (List.mem_cons_of_mem _ wd_109)) (fun _ h9 => h9) rfl (by decide +kernel) rfl rfl (Nat.le_of_ble_eq_true rfl) d_Chn_init_18 (fun H locs hP hz1 hS => ?_)
  have hz : H.size = sz + 1 := hz1.trans hz
  obtain ⟨w5, hw5⟩ : ∃ z : mm_M, z = mm_up w4 a (.inr (4, [.int (nI 0), .ref sz, .int (nI 0), .null, .null, .int 0, .int 0])) := ⟨_, rfl⟩
  have hP : mm_P B D kc w5 H := by rw [hw5]; exact hP
  have fr5 : ∀ j, j ≠ a → w5 j = w4 j := fun j h9 => by rw [hw5]; exact mm_un h9
  have fa5 : w5 a = some (.inr (4, [.int (nI 0), .ref sz, .int (nI 0), .null, .null, .int 0, .int 0])) := by rw [hw5]; exact mm_us _ _ _
  refine lv_aload_n hx hb d_Chn_init_21 rfl (lv_at hl 0 rfl) ?_
  refine mm_new (D := D) (C := n_Tag) (T := T_Tag) (N := 2) (ci := 5) (fs := [.int 0, .null]) (h := sz + 1) hx hb hts lay_Tag t_Tag ty_Tag hown (hts _ (List.mem_cons_of_mem _ wd_75)) (hts _ (List.mem_cons_of_mem _ wd_76)) (hts _ (List.mem_cons_of_mem _ wd_6)) hK.1 hP hS rfl def_Tag (Nat.le_of_ble_eq_true rfl) (Nat.le_of_ble_eq_true rfl) hz (by omega) d_Chn_init_22 (fun H hP hz1 hS => ?_)
  have hz : H.size = sz + 2 := hz1
  obtain ⟨w6, hw6⟩ : ∃ z : mm_M, z = mm_up w5 (sz + 1) (.inr (5, [.int 0, .null])) := ⟨_, rfl⟩
  have hP : mm_P B D kc w6 H := by rw [hw6]; exact hP
  have fr6 : ∀ j, j ≠ sz + 1 → w6 j = w5 j := fun j h9 => by rw [hw6]; exact mm_un h9
  have fa6 : w6 (sz + 1) = some (.inr (5, [.int 0, .null])) := by rw [hw6]; exact mm_us _ _ _
  refine lv_dup hx hb d_Chn_init_25 rfl ?_
  refine kk_callv (va_runIN (As := []) (rest := [.ref (sz + 1), .ref a]) ⟨hx, hb, hml, hown, hts⟩ (c_Tag_init l fa6 (by omega)) ⟨va_cnB 0 hts (gW_in (hd := [_]) (kk_1 cw_Tag_init)) rfl rfl rfl (hK.2.1 _ nw_77 rfl) (hts _ (List.mem_cons_of_mem _ wd_6)) ds_Tag_init ⟨Nat.le_of_ble_eq_true rfl, Nat.le_of_ble_eq_true rfl⟩, rfl, (hts _ (List.mem_cons_of_mem _ wd_78))⟩ (kk_preS hK hP hz (by omega)) rfl rfl hl.1 rfl (lv_room (Nat.le_of_ble_eq_true rfl)) d_Chn_init_26 ⟨Nat.le_of_ble_eq_true rfl, Nat.le_of_ble_eq_true rfl⟩) hS (fun w7 sz7 H locs hp7 hP hz hS => ?_)
  obtain ⟨he7, hs7⟩ := hp7
  have hz : H.size = sz + 3 := hz.trans hs7
  have hw8 : w7 = mm_up (mm_up w6 (sz + 1) (.inr (5, [.int (nI 255), .ref (sz + 2)]))) (sz + 2) (.inr (6, [.int (-2147483648), .int 2147483647])) := he7
  have fr8 : ∀ j, j ≠ sz + 1 → j ≠ sz + 2 → w7 j = w6 j := fun j h90 h91 => by rw [hw8]; exact (mm_un h91).trans (mm_un h90)
  have fa8_0 : w7 (sz + 1) = some (.inr (5, [.int (nI 255), .ref (sz + 2)])) := by rw [hw8]; exact (mm_un (by omega)).trans (mm_us _ _ _)
  have fa8_1 : w7 (sz + 2) = some (.inr (6, [.int (-2147483648), .int 2147483647])) := by rw [hw8]; exact mm_us _ _ _
  have f9 := (fr8 _ (by omega) (by omega)).trans ((fr6 _ (by omega)).trans (fa5))
  refine mm_putF (D := D) (C := n_Chn) (T := T_Chn) (N := 7) (v := .ref (sz + 1)) (ty := (.object "DelegationClosure$Tag")) hx hb hts lay_Chn t_Chn ty_Chn nm_Chn hown hK.1 hP hS f9 rfl 3 (by decide) (hts _ (List.mem_cons_of_mem _ wd_111)) (fun _ h9 => h9) rfl hin rfl (by decide +kernel) rfl rfl (Nat.le_of_ble_eq_true rfl) d_Chn_init_29 (fun H locs hP hz1 hS => ?_)
  have hz : H.size = sz + 3 := hz1.trans hz
  obtain ⟨w10, hw10⟩ : ∃ z : mm_M, z = mm_up w7 a (.inr (4, [.int (nI 0), .ref sz, .int (nI 0), .ref (sz + 1), .null, .int 0, .int 0])) := ⟨_, rfl⟩
  have hP : mm_P B D kc w10 H := by rw [hw10]; exact hP
  have fr10 : ∀ j, j ≠ a → w10 j = w7 j := fun j h9 => by rw [hw10]; exact mm_un h9
  have fa10 : w10 a = some (.inr (4, [.int (nI 0), .ref sz, .int (nI 0), .ref (sz + 1), .null, .int 0, .int 0])) := by rw [hw10]; exact mm_us _ _ _
  refine lv_aload_n hx hb d_Chn_init_32 rfl (lv_at hl 0 rfl) ?_
  refine mm_new (D := D) (C := n_Spn) (T := T_Spn) (N := 2) (ci := 6) (fs := [.int 0, .int 0]) (h := sz + 3) hx hb hts lay_Spn t_Spn ty_Spn hown (hts _ (List.mem_cons_of_mem _ wd_103)) (hts _ (List.mem_cons_of_mem _ wd_82)) (hts _ (List.mem_cons_of_mem _ wd_7)) hK.1 hP hS rfl def_Spn (Nat.le_of_ble_eq_true rfl) (Nat.le_of_ble_eq_true rfl) hz (by omega) d_Chn_init_33 (fun H hP hz1 hS => ?_)
  have hz : H.size = sz + 4 := hz1
  obtain ⟨w11, hw11⟩ : ∃ z : mm_M, z = mm_up w10 (sz + 3) (.inr (6, [.int 0, .int 0])) := ⟨_, rfl⟩
  have hP : mm_P B D kc w11 H := by rw [hw11]; exact hP
  have fr11 : ∀ j, j ≠ sz + 3 → w11 j = w10 j := fun j h9 => by rw [hw11]; exact mm_un h9
  have fa11 : w11 (sz + 3) = some (.inr (6, [.int 0, .int 0])) := by rw [hw11]; exact mm_us _ _ _
  refine lv_dup hx hb d_Chn_init_36 rfl ?_
  refine lv_iconst (v := nI 0) hx hb d_Chn_init_37 (by decide) ?_
  refine lv_iconst (v := nI 0) hx hb d_Chn_init_38 (by decide) ?_
  refine kk_callv (va_runI (As := [.int (nI 0), .int (nI 0)]) (rest := [.ref (sz + 3), .ref a]) ⟨hx, hb, hml, hown, hts⟩ (c_Spn_init l fa11) (cwI 2 hts (gW_in (hd := [_]) (kk_1 cw_Spn_init)) rfl rfl rfl (hts _ (List.mem_cons_of_mem _ wd_7)) (hts _ (List.mem_cons_of_mem _ wd_104)) (hts _ (List.mem_cons_of_mem _ wd_86)) rfl ds_Spn_init ⟨Nat.le_of_ble_eq_true rfl, Nat.le_of_ble_eq_true rfl⟩) (kk_preS hK hP hz (by omega)) rfl rfl hl.1 rfl (lv_room (Nat.le_of_ble_eq_true rfl)) d_Chn_init_39 ⟨Nat.le_of_ble_eq_true rfl, Nat.le_of_ble_eq_true rfl⟩) hS (fun w12 sz12 H locs hp12 hP hz hS => ?_)
  obtain ⟨he12, hs12⟩ := hp12
  have hz : H.size = sz + 4 := hz.trans hs12
  have hw13 : w12 = mm_up w11 (sz + 3) (.inr (6, [.int (nI 0), .int (nI 0)])) := he12
  have fr13 : ∀ j, j ≠ sz + 3 → w12 j = w11 j := fun j h90 => by rw [hw13]; exact mm_un h90
  have fa13_0 : w12 (sz + 3) = some (.inr (6, [.int (nI 0), .int (nI 0)])) := by rw [hw13]; exact mm_us _ _ _
  have f14 := (fr13 _ (by omega)).trans ((fr11 _ (by omega)).trans (fa10))
  refine mm_putF (D := D) (C := n_Chn) (T := T_Chn) (N := 7) (v := .ref (sz + 3)) (ty := (.object "DelegationClosure$Span")) hx hb hts lay_Chn t_Chn ty_Chn nm_Chn hown hK.1 hP hS f14 rfl 4 (by decide) (hts _ (List.mem_cons_of_mem _ wd_112)) (fun _ h9 => h9) rfl hin rfl (by decide +kernel) rfl rfl (Nat.le_of_ble_eq_true rfl) d_Chn_init_42 (fun H locs hP hz1 hS => ?_)
  have hz : H.size = sz + 4 := hz1.trans hz
  obtain ⟨w15, hw15⟩ : ∃ z : mm_M, z = mm_up w12 a (.inr (4, [.int (nI 0), .ref sz, .int (nI 0), .ref (sz + 1), .ref (sz + 3), .int 0, .int 0])) := ⟨_, rfl⟩
  have hP : mm_P B D kc w15 H := by rw [hw15]; exact hP
  have fr15 : ∀ j, j ≠ a → w15 j = w12 j := fun j h9 => by rw [hw15]; exact mm_un h9
  have fa15 : w15 a = some (.inr (4, [.int (nI 0), .ref sz, .int (nI 0), .ref (sz + 1), .ref (sz + 3), .int 0, .int 0])) := by rw [hw15]; exact mm_us _ _ _
  refine lv_aload_n hx hb d_Chn_init_45 rfl (lv_at hl 0 rfl) ?_
  refine lv_iconst (v := nI 0) hx hb d_Chn_init_46 (by decide) ?_
  refine mm_put (D := D) (C := n_Chn) (T := T_Chn) (N := 7) (v := .int (nI 0)) (ty := .int) hx hb hts lay_Chn t_Chn ty_Chn nm_Chn hown hK.1 hP hS fa15 rfl 5 (by decide) (hts _ (List.mem_cons_of_mem _ wd_113)) (fun _ h9 => h9) rfl (by decide +kernel) rfl rfl (Nat.le_of_ble_eq_true rfl) d_Chn_init_47 (fun H locs hP hz1 hS => ?_)
  have hz : H.size = sz + 4 := hz1.trans hz
  obtain ⟨w16, hw16⟩ : ∃ z : mm_M, z = mm_up w15 a (.inr (4, [.int (nI 0), .ref sz, .int (nI 0), .ref (sz + 1), .ref (sz + 3), .int (nI 0), .int 0])) := ⟨_, rfl⟩
  have hP : mm_P B D kc w16 H := by rw [hw16]; exact hP
  have fr16 : ∀ j, j ≠ a → w16 j = w15 j := fun j h9 => by rw [hw16]; exact mm_un h9
  have fa16 : w16 a = some (.inr (4, [.int (nI 0), .ref sz, .int (nI 0), .ref (sz + 1), .ref (sz + 3), .int (nI 0), .int 0])) := by rw [hw16]; exact mm_us _ _ _
  refine lv_aload_n hx hb d_Chn_init_50 rfl (lv_at hl 0 rfl) ?_
  refine lv_iconst (v := nI 0) hx hb d_Chn_init_51 (by decide) ?_
  refine mm_put (D := D) (C := n_Chn) (T := T_Chn) (N := 7) (v := .int (nI 0)) (ty := .boolean) hx hb hts lay_Chn t_Chn ty_Chn nm_Chn hown hK.1 hP hS fa16 rfl 6 (by decide) (hts _ (List.mem_cons_of_mem _ wd_115)) (fun _ h9 => h9) rfl (by decide +kernel) rfl rfl (Nat.le_of_ble_eq_true rfl) d_Chn_init_52 (fun H locs hP hz1 hS => ?_)
  have hz : H.size = sz + 4 := hz1.trans hz
  obtain ⟨w17, hw17⟩ : ∃ z : mm_M, z = mm_up w16 a (.inr (4, [.int (nI 0), .ref sz, .int (nI 0), .ref (sz + 1), .ref (sz + 3), .int (nI 0), .int (nI 0)])) := ⟨_, rfl⟩
  have hP : mm_P B D kc w17 H := by rw [hw17]; exact hP
  have fr17 : ∀ j, j ≠ a → w17 j = w16 j := fun j h9 => by rw [hw17]; exact mm_un h9
  have fa17 : w17 a = some (.inr (4, [.int (nI 0), .ref sz, .int (nI 0), .ref (sz + 1), .ref (sz + 3), .int (nI 0), .int (nI 0)])) := by rw [hw17]; exact mm_us _ _ _
  exact W.vret hx hb hr (fun t ht hW => ⟨⟨(w17, sz + 4), rfl, ⟨mm_e5 fa17 ((fr17 _ (by omega)).trans ((fr16 _ (by omega)).trans ((fr15 _ (by omega)).trans ((fr13 _ (by omega)).trans ((fr11 _ (by omega)).trans ((fr10 _ (by omega)).trans ((fr8 _ (by omega) (by omega)).trans ((fr6 _ (by omega)).trans ((fr5 _ (by omega)).trans ((fr4 _ (by omega)).trans (fa2))))))))))) ((fr17 _ (by omega)).trans ((fr16 _ (by omega)).trans ((fr15 _ (by omega)).trans ((fr13 _ (by omega)).trans ((fr11 _ (by omega)).trans ((fr10 _ (by omega)).trans (fa8_0))))))) ((fr17 _ (by omega)).trans ((fr16 _ (by omega)).trans ((fr15 _ (by omega)).trans ((fr13 _ (by omega)).trans ((fr11 _ (by omega)).trans ((fr10 _ (by omega)).trans (fa8_1))))))) ((fr17 _ (by omega)).trans ((fr16 _ (by omega)).trans ((fr15 _ (by omega)).trans (fa13_0)))) (fun j g0 g1 g2 g3 g4 => (fr17 j g0).trans ((fr16 j g0).trans ((fr15 j g0).trans ((fr13 j g4).trans ((fr11 j g4).trans ((fr10 j g0).trans ((fr8 j g2 g3).trans ((fr6 j g2).trans ((fr5 j g0).trans ((fr4 j g0).trans ((fr2 j g1).trans (fr1 j g0)))))))))))), rfl⟩, by rw [ht]; exact hP, by rw [ht]; exact hz⟩, hS.F ht⟩) hS.2.2 d_Chn_init_55
theorem d_X_init_0 : decode k_X_init 0 = .ok (.aload_n 0, 1) := by decide +kernel
theorem d_X_init_1 : decode k_X_init 1 = .ok (.invokespecial 3, 3) := by decide +kernel
theorem d_X_init_4 : decode k_X_init 4 = .ok (.aload_n 0, 1) := by decide +kernel
theorem d_X_init_5 : decode k_X_init 5 = .ok (.new 9, 3) := by decide +kernel
theorem d_X_init_8 : decode k_X_init 8 = .ok (.dup, 1) := by decide +kernel
theorem d_X_init_9 : decode k_X_init 9 = .ok (.invokespecial 11, 3) := by decide +kernel
theorem d_X_init_12 : decode k_X_init 12 = .ok (.putfield 12, 3) := by decide +kernel
theorem d_X_init_15 : decode k_X_init 15 = .ok (.aload_n 0, 1) := by decide +kernel
theorem d_X_init_16 : decode k_X_init 16 = .ok (.new 16, 3) := by decide +kernel
theorem d_X_init_19 : decode k_X_init 19 = .ok (.dup, 1) := by decide +kernel
theorem d_X_init_20 : decode k_X_init 20 = .ok (.invokespecial 18, 3) := by decide +kernel
theorem d_X_init_23 : decode k_X_init 23 = .ok (.putfield 19, 3) := by decide +kernel
theorem d_X_init_26 : decode k_X_init 26 = .ok (.aload_n 0, 1) := by decide +kernel
theorem d_X_init_27 : decode k_X_init 27 = .ok (.new 23, 3) := by decide +kernel
theorem d_X_init_30 : decode k_X_init 30 = .ok (.dup, 1) := by decide +kernel
theorem d_X_init_31 : decode k_X_init 31 = .ok (.invokespecial 25, 3) := by decide +kernel
theorem d_X_init_34 : decode k_X_init 34 = .ok (.putfield 26, 3) := by decide +kernel
theorem d_X_init_37 : decode k_X_init 37 = .ok (.aload_n 0, 1) := by decide +kernel
theorem d_X_init_38 : decode k_X_init 38 = .ok (.new 30, 3) := by decide +kernel
theorem d_X_init_41 : decode k_X_init 41 = .ok (.dup, 1) := by decide +kernel
theorem d_X_init_42 : decode k_X_init 42 = .ok (.invokespecial 32, 3) := by decide +kernel
theorem d_X_init_45 : decode k_X_init 45 = .ok (.putfield 33, 3) := by decide +kernel
theorem d_X_init_48 : decode k_X_init 48 = .ok (.return_, 1) := by decide +kernel
set_option maxHeartbeats 4000000 in
set_option maxRecDepth 100000 in
theorem c_X_init (l : Launch) {B : Nat} {D : va_G} {cI cZ cQ : ClassId} {w : mm_M} {sz : Nat} {a : Nat} (h_0 : w a = some (.inr (0, [.null, .null, .null, .null]))) (hasz : a < sz) : Met l y_X_init ws_X_init (kk_rm 4 13 339) (kk_Pc B D cI cZ cQ [.ref a] w sz) (kk_Qv B D (fun w' sz' => w' = mm_up (mm_up (mm_up (mm_up (mm_up (mm_up (mm_up (mm_up (mm_up (mm_up (mm_up (mm_up (mm_up (mm_up w a (.inr (0, [.ref sz, .ref (sz + 2), .ref (sz + 4), .ref (sz + 8)]))) sz (.inr (1, [.ref (sz + 1), .int (nI 0)]))) (sz + 1) (.inl (cQ, 24, .inr (.inr (.inr (.inr (fun _ => none))))))) (sz + 2) (.inr (2, [.ref (sz + 3)]))) (sz + 3) (.inl (cI, 256, .inl (fun i => nI ((fun _ => 0) i))))) (sz + 4) (.inr (3, [.ref (sz + 5), .ref (sz + 6), .ref (sz + 7)]))) (sz + 5) (.inl (cZ, 24, .inl (fun i => nI ((fun _ => 0) i))))) (sz + 6) (.inl (cI, 9, .inl (fun i => nI ((fun _ => 0) i))))) (sz + 7) (.inl (cI, 3, .inl (fun i => nI ((fun _ => 0) i))))) (sz + 8) (.inr (4, [.int (nI 0), .ref (sz + 9), .int (nI 0), .ref (sz + 10), .ref (sz + 12), .int (nI 0), .int (nI 0)]))) (sz + 9) (.inl (cI, 4, .inl (fun i => nI ((fun _ => 0) i))))) (sz + 10) (.inr (5, [.int (nI 255), .ref (sz + 11)]))) (sz + 11) (.inr (6, [.int (-2147483648), .int 2147483647]))) (sz + 12) (.inr (6, [.int (nI 0), .int (nI 0)])) ∧ sz' = sz + 13)) 13 339 (fun q => B ≤ q) := by
  refine Met.ofW (cc := k_X_init) (maxL := 1) (ret := none) (by decide) rfl ?_
  intro p e s m args below meth c s₁ BB hml hv
  obtain ⟨rfl, hK, hP, hz, hBz⟩ := hv
  have hx := BB.exec
  have hb := BB.bytes
  have hr := BB.returns
  have hts := atoms_spec (ws := ws_X_init) BB.pre
  have hown : s.vm.findClass "DelegationClosure" = some m.cls := findClass_of_methodNamed BB.named
  have hlocks := BB.notSynchronized
  have hin : meth.name = "<init>" := (name_of_methodNamed BB.named BB.method).1
  have hS : mm_S B s.heap s.heap [] := va_S.rf
  have hl := lv_entry ([.ref a]) (n := 1) (Nat.le_of_ble_eq_true rfl)
  rw [lg_entry_eq]
  generalize (lg_sl ([.ref a]) ++ List.replicate (1 - (lg_sl ([.ref a])).length) Slot.unset).toArray = ls at hl ⊢
  have hl : lv_has ls 1 [(0, .ref a)] := hl
  refine lv_aload_n hx hb d_X_init_0 rfl (lv_at hl 0 rfl) ?_
  refine W.objInit hx hb hown (hts _ (List.mem_cons_of_mem _ wd_20)) (hts _ (List.mem_cons_of_mem _ wd_21)) (hts _ (List.mem_cons_of_mem _ wd_objcode)) rfl (by rw [hml]; exact hl.1) rfl d_X_init_1 (Nat.le_of_ble_eq_true rfl) (Nat.le_of_ble_eq_true rfl) ?_
  refine W.eq (g2 := F0 m 4 ls []) rfl ?_
  refine lv_aload_n hx hb d_X_init_4 rfl (lv_at hl 0 rfl) ?_
  refine mm_new (D := D) (C := n_Reg) (T := T_Reg) (N := 2) (ci := 1) (fs := [.null, .int 0]) (h := sz) hx hb hts lay_Reg t_Reg ty_Reg hown (hts _ (List.mem_cons_of_mem _ wd_23)) (hts _ (List.mem_cons_of_mem _ wd_24)) (hts _ (List.mem_cons_of_mem _ wd_2)) hK.1 hP hS rfl def_Reg (Nat.le_of_ble_eq_true rfl) (Nat.le_of_ble_eq_true rfl) hz (by omega) d_X_init_5 (fun H hP hz1 hS => ?_)
  have hz : H.size = sz + 1 := hz1
  obtain ⟨w1, hw1⟩ : ∃ z : mm_M, z = mm_up w sz (.inr (1, [.null, .int 0])) := ⟨_, rfl⟩
  have hP : mm_P B D kc w1 H := by rw [hw1]; exact hP
  have fr1 : ∀ j, j ≠ sz → w1 j = w j := fun j h9 => by rw [hw1]; exact mm_un h9
  have fa1 : w1 sz = some (.inr (1, [.null, .int 0])) := by rw [hw1]; exact mm_us _ _ _
  refine lv_dup hx hb d_X_init_8 rfl ?_
  refine kk_callv (va_runIN (As := []) (rest := [.ref sz, .ref a]) ⟨hx, hb, hml, hown, hts⟩ (c_Reg_init l fa1 (by omega)) ⟨va_cnB 0 hts (gW_in (hd := [_]) (kk_1 cw_Reg_init)) rfl rfl rfl (hK.2.1 _ nw_25 rfl) (hts _ (List.mem_cons_of_mem _ wd_2)) ds_Reg_init ⟨Nat.le_of_ble_eq_true rfl, Nat.le_of_ble_eq_true rfl⟩, rfl, (hts _ (List.mem_cons_of_mem _ wd_26))⟩ (kk_preS hK hP hz (by omega)) rfl rfl hl.1 rfl (lv_room (Nat.le_of_ble_eq_true rfl)) d_X_init_9 ⟨Nat.le_of_ble_eq_true rfl, Nat.le_of_ble_eq_true rfl⟩) hS (fun w2 sz2 H locs hp2 hP hz hS => ?_)
  obtain ⟨he2, hs2⟩ := hp2
  have hz : H.size = sz + 2 := hz.trans hs2
  have hw3 : w2 = mm_up (mm_up w1 sz (.inr (1, [.ref (sz + 1), .int (nI 0)]))) (sz + 1) (.inl (cQ, 24, .inr (.inr (.inr (.inr (fun _ => none)))))) := he2
  have fr3 : ∀ j, j ≠ sz → j ≠ sz + 1 → w2 j = w1 j := fun j h90 h91 => by rw [hw3]; exact (mm_un h91).trans (mm_un h90)
  have fa3_0 : w2 sz = some (.inr (1, [.ref (sz + 1), .int (nI 0)])) := by rw [hw3]; exact (mm_un (by omega)).trans (mm_us _ _ _)
  have fa3_1 : w2 (sz + 1) = some (.inl (cQ, 24, .inr (.inr (.inr (.inr (fun _ => none)))))) := by rw [hw3]; exact mm_us _ _ _
  have f4 := (fr3 _ (by omega) (by omega)).trans ((fr1 _ (by omega)).trans (h_0))
  refine mm_putF (D := D) (C := n_X) (T := T_X) (N := 4) (v := .ref sz) (ty := (.object "DelegationClosure$Register")) hx hb hts lay_X t_X ty_X nm_X hown hK.1 hP hS f4 rfl 0 (by decide) (hts _ (List.mem_cons_of_mem _ wd_132)) (fun _ h9 => h9) rfl hin rfl (by decide +kernel) rfl rfl (Nat.le_of_ble_eq_true rfl) d_X_init_12 (fun H locs hP hz1 hS => ?_)
  have hz : H.size = sz + 2 := hz1.trans hz
  obtain ⟨w5, hw5⟩ : ∃ z : mm_M, z = mm_up w2 a (.inr (0, [.ref sz, .null, .null, .null])) := ⟨_, rfl⟩
  have hP : mm_P B D kc w5 H := by rw [hw5]; exact hP
  have fr5 : ∀ j, j ≠ a → w5 j = w2 j := fun j h9 => by rw [hw5]; exact mm_un h9
  have fa5 : w5 a = some (.inr (0, [.ref sz, .null, .null, .null])) := by rw [hw5]; exact mm_us _ _ _
  refine lv_aload_n hx hb d_X_init_15 rfl (lv_at hl 0 rfl) ?_
  refine mm_new (D := D) (C := n_Mea) (T := T_Mea) (N := 1) (ci := 2) (fs := [.null]) (h := sz + 2) hx hb hts lay_Mea t_Mea ty_Mea hown (hts _ (List.mem_cons_of_mem _ wd_41)) (hts _ (List.mem_cons_of_mem _ wd_42)) (hts _ (List.mem_cons_of_mem _ wd_3)) hK.1 hP hS rfl def_Mea (Nat.le_of_ble_eq_true rfl) (Nat.le_of_ble_eq_true rfl) hz (by omega) d_X_init_16 (fun H hP hz1 hS => ?_)
  have hz : H.size = sz + 3 := hz1
  obtain ⟨w6, hw6⟩ : ∃ z : mm_M, z = mm_up w5 (sz + 2) (.inr (2, [.null])) := ⟨_, rfl⟩
  have hP : mm_P B D kc w6 H := by rw [hw6]; exact hP
  have fr6 : ∀ j, j ≠ sz + 2 → w6 j = w5 j := fun j h9 => by rw [hw6]; exact mm_un h9
  have fa6 : w6 (sz + 2) = some (.inr (2, [.null])) := by rw [hw6]; exact mm_us _ _ _
  refine lv_dup hx hb d_X_init_19 rfl ?_
  refine kk_callv (va_runIN (As := []) (rest := [.ref (sz + 2), .ref a]) ⟨hx, hb, hml, hown, hts⟩ (c_Mea_init l fa6 (by omega)) ⟨va_cnB 0 hts (gW_in (hd := [_]) (kk_1 cw_Mea_init)) rfl rfl rfl (hK.2.1 _ nw_43 rfl) (hts _ (List.mem_cons_of_mem _ wd_3)) ds_Mea_init ⟨Nat.le_of_ble_eq_true rfl, Nat.le_of_ble_eq_true rfl⟩, rfl, (hts _ (List.mem_cons_of_mem _ wd_44))⟩ (kk_preS hK hP hz (by omega)) rfl rfl hl.1 rfl (lv_room (Nat.le_of_ble_eq_true rfl)) d_X_init_20 ⟨Nat.le_of_ble_eq_true rfl, Nat.le_of_ble_eq_true rfl⟩) hS (fun w7 sz7 H locs hp7 hP hz hS => ?_)
  obtain ⟨he7, hs7⟩ := hp7
  have hz : H.size = sz + 4 := hz.trans hs7
  have hw8 : w7 = mm_up (mm_up w6 (sz + 2) (.inr (2, [.ref (sz + 3)]))) (sz + 3) (.inl (cI, 256, .inl (fun i => nI ((fun _ => 0) i)))) := he7
  have fr8 : ∀ j, j ≠ sz + 2 → j ≠ sz + 3 → w7 j = w6 j := fun j h90 h91 => by rw [hw8]; exact (mm_un h91).trans (mm_un h90)
  have fa8_0 : w7 (sz + 2) = some (.inr (2, [.ref (sz + 3)])) := by rw [hw8]; exact (mm_un (by omega)).trans (mm_us _ _ _)
  have fa8_1 : w7 (sz + 3) = some (.inl (cI, 256, .inl (fun i => nI ((fun _ => 0) i)))) := by rw [hw8]; exact mm_us _ _ _
  have f9 := (fr8 _ (by omega) (by omega)).trans ((fr6 _ (by omega)).trans (fa5))
  refine mm_putF (D := D) (C := n_X) (T := T_X) (N := 4) (v := .ref (sz + 2)) (ty := (.object "DelegationClosure$Meanings")) hx hb hts lay_X t_X ty_X nm_X hown hK.1 hP hS f9 rfl 1 (by decide) (hts _ (List.mem_cons_of_mem _ wd_133)) (fun _ h9 => h9) rfl hin rfl (by decide +kernel) rfl rfl (Nat.le_of_ble_eq_true rfl) d_X_init_23 (fun H locs hP hz1 hS => ?_)
  have hz : H.size = sz + 4 := hz1.trans hz
  obtain ⟨w10, hw10⟩ : ∃ z : mm_M, z = mm_up w7 a (.inr (0, [.ref sz, .ref (sz + 2), .null, .null])) := ⟨_, rfl⟩
  have hP : mm_P B D kc w10 H := by rw [hw10]; exact hP
  have fr10 : ∀ j, j ≠ a → w10 j = w7 j := fun j h9 => by rw [hw10]; exact mm_un h9
  have fa10 : w10 a = some (.inr (0, [.ref sz, .ref (sz + 2), .null, .null])) := by rw [hw10]; exact mm_us _ _ _
  refine lv_aload_n hx hb d_X_init_26 rfl (lv_at hl 0 rfl) ?_
  refine mm_new (D := D) (C := n_Led) (T := T_Led) (N := 3) (ci := 3) (fs := [.null, .null, .null]) (h := sz + 4) hx hb hts lay_Led t_Led ty_Led hown (hts _ (List.mem_cons_of_mem _ wd_52)) (hts _ (List.mem_cons_of_mem _ wd_53)) (hts _ (List.mem_cons_of_mem _ wd_4)) hK.1 hP hS rfl def_Led (Nat.le_of_ble_eq_true rfl) (Nat.le_of_ble_eq_true rfl) hz (by omega) d_X_init_27 (fun H hP hz1 hS => ?_)
  have hz : H.size = sz + 5 := hz1
  obtain ⟨w11, hw11⟩ : ∃ z : mm_M, z = mm_up w10 (sz + 4) (.inr (3, [.null, .null, .null])) := ⟨_, rfl⟩
  have hP : mm_P B D kc w11 H := by rw [hw11]; exact hP
  have fr11 : ∀ j, j ≠ sz + 4 → w11 j = w10 j := fun j h9 => by rw [hw11]; exact mm_un h9
  have fa11 : w11 (sz + 4) = some (.inr (3, [.null, .null, .null])) := by rw [hw11]; exact mm_us _ _ _
  refine lv_dup hx hb d_X_init_30 rfl ?_
  refine kk_callv (va_runIN (As := []) (rest := [.ref (sz + 4), .ref a]) ⟨hx, hb, hml, hown, hts⟩ (c_Led_init l fa11 (by omega)) ⟨va_cnB 0 hts (gW_in (hd := [_]) (kk_1 cw_Led_init)) rfl rfl rfl (hK.2.1 _ nw_54 rfl) (hts _ (List.mem_cons_of_mem _ wd_4)) ds_Led_init ⟨Nat.le_of_ble_eq_true rfl, Nat.le_of_ble_eq_true rfl⟩, rfl, (hts _ (List.mem_cons_of_mem _ wd_55))⟩ (kk_preS hK hP hz (by omega)) rfl rfl hl.1 rfl (lv_room (Nat.le_of_ble_eq_true rfl)) d_X_init_31 ⟨Nat.le_of_ble_eq_true rfl, Nat.le_of_ble_eq_true rfl⟩) hS (fun w12 sz12 H locs hp12 hP hz hS => ?_)
  obtain ⟨he12, hs12⟩ := hp12
  have hz : H.size = sz + 8 := hz.trans hs12
  have hw13 : w12 = mm_up (mm_up (mm_up (mm_up w11 (sz + 4) (.inr (3, [.ref (sz + 5), .ref (sz + 6), .ref (sz + 7)]))) (sz + 5) (.inl (cZ, 24, .inl (fun i => nI ((fun _ => 0) i))))) (sz + 6) (.inl (cI, 9, .inl (fun i => nI ((fun _ => 0) i))))) (sz + 7) (.inl (cI, 3, .inl (fun i => nI ((fun _ => 0) i)))) := he12
  have fr13 : ∀ j, j ≠ sz + 4 → j ≠ sz + 5 → j ≠ sz + 6 → j ≠ sz + 7 → w12 j = w11 j := fun j h90 h91 h92 h93 => by rw [hw13]; exact (mm_un h93).trans ((mm_un h92).trans ((mm_un h91).trans (mm_un h90)))
  have fa13_0 : w12 (sz + 4) = some (.inr (3, [.ref (sz + 5), .ref (sz + 6), .ref (sz + 7)])) := by rw [hw13]; exact (mm_un (by omega)).trans ((mm_un (by omega)).trans ((mm_un (by omega)).trans (mm_us _ _ _)))
  have fa13_1 : w12 (sz + 5) = some (.inl (cZ, 24, .inl (fun i => nI ((fun _ => 0) i)))) := by rw [hw13]; exact (mm_un (by omega)).trans ((mm_un (by omega)).trans (mm_us _ _ _))
  have fa13_2 : w12 (sz + 6) = some (.inl (cI, 9, .inl (fun i => nI ((fun _ => 0) i)))) := by rw [hw13]; exact (mm_un (by omega)).trans (mm_us _ _ _)
  have fa13_3 : w12 (sz + 7) = some (.inl (cI, 3, .inl (fun i => nI ((fun _ => 0) i)))) := by rw [hw13]; exact mm_us _ _ _
  have f14 := (fr13 _ (by omega) (by omega) (by omega) (by omega)).trans ((fr11 _ (by omega)).trans (fa10))
  refine mm_putF (D := D) (C := n_X) (T := T_X) (N := 4) (v := .ref (sz + 4)) (ty := (.object "DelegationClosure$Leads")) hx hb hts lay_X t_X ty_X nm_X hown hK.1 hP hS f14 rfl 2 (by decide) (hts _ (List.mem_cons_of_mem _ wd_134)) (fun _ h9 => h9) rfl hin rfl (by decide +kernel) rfl rfl (Nat.le_of_ble_eq_true rfl) d_X_init_34 (fun H locs hP hz1 hS => ?_)
  have hz : H.size = sz + 8 := hz1.trans hz
  obtain ⟨w15, hw15⟩ : ∃ z : mm_M, z = mm_up w12 a (.inr (0, [.ref sz, .ref (sz + 2), .ref (sz + 4), .null])) := ⟨_, rfl⟩
  have hP : mm_P B D kc w15 H := by rw [hw15]; exact hP
  have fr15 : ∀ j, j ≠ a → w15 j = w12 j := fun j h9 => by rw [hw15]; exact mm_un h9
  have fa15 : w15 a = some (.inr (0, [.ref sz, .ref (sz + 2), .ref (sz + 4), .null])) := by rw [hw15]; exact mm_us _ _ _
  refine lv_aload_n hx hb d_X_init_37 rfl (lv_at hl 0 rfl) ?_
  refine mm_new (D := D) (C := n_Chn) (T := T_Chn) (N := 7) (ci := 4) (fs := [.int 0, .null, .int 0, .null, .null, .int 0, .int 0]) (h := sz + 8) hx hb hts lay_Chn t_Chn ty_Chn hown (hts _ (List.mem_cons_of_mem _ wd_69)) (hts _ (List.mem_cons_of_mem _ wd_70)) (hts _ (List.mem_cons_of_mem _ wd_5)) hK.1 hP hS rfl def_Chn (Nat.le_of_ble_eq_true rfl) (Nat.le_of_ble_eq_true rfl) hz (by omega) d_X_init_38 (fun H hP hz1 hS => ?_)
  have hz : H.size = sz + 9 := hz1
  obtain ⟨w16, hw16⟩ : ∃ z : mm_M, z = mm_up w15 (sz + 8) (.inr (4, [.int 0, .null, .int 0, .null, .null, .int 0, .int 0])) := ⟨_, rfl⟩
  have hP : mm_P B D kc w16 H := by rw [hw16]; exact hP
  have fr16 : ∀ j, j ≠ sz + 8 → w16 j = w15 j := fun j h9 => by rw [hw16]; exact mm_un h9
  have fa16 : w16 (sz + 8) = some (.inr (4, [.int 0, .null, .int 0, .null, .null, .int 0, .int 0])) := by rw [hw16]; exact mm_us _ _ _
  refine lv_dup hx hb d_X_init_41 rfl ?_
  refine kk_callv (va_runIN (As := []) (rest := [.ref (sz + 8), .ref a]) ⟨hx, hb, hml, hown, hts⟩ (c_Chn_init l fa16 (by omega)) ⟨va_cnB 0 hts (gW_in (hd := [_]) (kk_1 cw_Chn_init)) rfl rfl rfl (hK.2.1 _ nw_71 rfl) (hts _ (List.mem_cons_of_mem _ wd_5)) ds_Chn_init ⟨Nat.le_of_ble_eq_true rfl, Nat.le_of_ble_eq_true rfl⟩, rfl, (hts _ (List.mem_cons_of_mem _ wd_72))⟩ (kk_preS hK hP hz (by omega)) rfl rfl hl.1 rfl (lv_room (Nat.le_of_ble_eq_true rfl)) d_X_init_42 ⟨Nat.le_of_ble_eq_true rfl, Nat.le_of_ble_eq_true rfl⟩) hS (fun w17 sz17 H locs hp17 hP hz hS => ?_)
  obtain ⟨he17, hs17⟩ := hp17
  have hz : H.size = sz + 13 := hz.trans hs17
  have hw18 : w17 = mm_up (mm_up (mm_up (mm_up (mm_up w16 (sz + 8) (.inr (4, [.int (nI 0), .ref (sz + 9), .int (nI 0), .ref (sz + 10), .ref (sz + 12), .int (nI 0), .int (nI 0)]))) (sz + 9) (.inl (cI, 4, .inl (fun i => nI ((fun _ => 0) i))))) (sz + 10) (.inr (5, [.int (nI 255), .ref (sz + 11)]))) (sz + 11) (.inr (6, [.int (-2147483648), .int 2147483647]))) (sz + 12) (.inr (6, [.int (nI 0), .int (nI 0)])) := he17
  have fr18 : ∀ j, j ≠ sz + 8 → j ≠ sz + 9 → j ≠ sz + 10 → j ≠ sz + 11 → j ≠ sz + 12 → w17 j = w16 j := fun j h90 h91 h92 h93 h94 => by rw [hw18]; exact (mm_un h94).trans ((mm_un h93).trans ((mm_un h92).trans ((mm_un h91).trans (mm_un h90))))
  have fa18_0 : w17 (sz + 8) = some (.inr (4, [.int (nI 0), .ref (sz + 9), .int (nI 0), .ref (sz + 10), .ref (sz + 12), .int (nI 0), .int (nI 0)])) := by rw [hw18]; exact (mm_un (by omega)).trans ((mm_un (by omega)).trans ((mm_un (by omega)).trans ((mm_un (by omega)).trans (mm_us _ _ _))))
  have fa18_1 : w17 (sz + 9) = some (.inl (cI, 4, .inl (fun i => nI ((fun _ => 0) i)))) := by rw [hw18]; exact (mm_un (by omega)).trans ((mm_un (by omega)).trans ((mm_un (by omega)).trans (mm_us _ _ _)))
  have fa18_2 : w17 (sz + 10) = some (.inr (5, [.int (nI 255), .ref (sz + 11)])) := by rw [hw18]; exact (mm_un (by omega)).trans ((mm_un (by omega)).trans (mm_us _ _ _))
  have fa18_3 : w17 (sz + 11) = some (.inr (6, [.int (-2147483648), .int 2147483647])) := by rw [hw18]; exact (mm_un (by omega)).trans (mm_us _ _ _)
  have fa18_4 : w17 (sz + 12) = some (.inr (6, [.int (nI 0), .int (nI 0)])) := by rw [hw18]; exact mm_us _ _ _
  have f19 := (fr18 _ (by omega) (by omega) (by omega) (by omega) (by omega)).trans ((fr16 _ (by omega)).trans (fa15))
  refine mm_putF (D := D) (C := n_X) (T := T_X) (N := 4) (v := .ref (sz + 8)) (ty := (.object "DelegationClosure$Chain")) hx hb hts lay_X t_X ty_X nm_X hown hK.1 hP hS f19 rfl 3 (by decide) (hts _ (List.mem_cons_of_mem _ wd_135)) (fun _ h9 => h9) rfl hin rfl (by decide +kernel) rfl rfl (Nat.le_of_ble_eq_true rfl) d_X_init_45 (fun H locs hP hz1 hS => ?_)
  have hz : H.size = sz + 13 := hz1.trans hz
  obtain ⟨w20, hw20⟩ : ∃ z : mm_M, z = mm_up w17 a (.inr (0, [.ref sz, .ref (sz + 2), .ref (sz + 4), .ref (sz + 8)])) := ⟨_, rfl⟩
  have hP : mm_P B D kc w20 H := by rw [hw20]; exact hP
  have fr20 : ∀ j, j ≠ a → w20 j = w17 j := fun j h9 => by rw [hw20]; exact mm_un h9
  have fa20 : w20 a = some (.inr (0, [.ref sz, .ref (sz + 2), .ref (sz + 4), .ref (sz + 8)])) := by rw [hw20]; exact mm_us _ _ _
  exact W.vret hx hb hr (fun t ht hW => ⟨⟨(w20, sz + 13), rfl, ⟨mm_e14 fa20 ((fr20 _ (by omega)).trans ((fr18 _ (by omega) (by omega) (by omega) (by omega) (by omega)).trans ((fr16 _ (by omega)).trans ((fr15 _ (by omega)).trans ((fr13 _ (by omega) (by omega) (by omega) (by omega)).trans ((fr11 _ (by omega)).trans ((fr10 _ (by omega)).trans ((fr8 _ (by omega) (by omega)).trans ((fr6 _ (by omega)).trans ((fr5 _ (by omega)).trans (fa3_0))))))))))) ((fr20 _ (by omega)).trans ((fr18 _ (by omega) (by omega) (by omega) (by omega) (by omega)).trans ((fr16 _ (by omega)).trans ((fr15 _ (by omega)).trans ((fr13 _ (by omega) (by omega) (by omega) (by omega)).trans ((fr11 _ (by omega)).trans ((fr10 _ (by omega)).trans ((fr8 _ (by omega) (by omega)).trans ((fr6 _ (by omega)).trans ((fr5 _ (by omega)).trans (fa3_1))))))))))) ((fr20 _ (by omega)).trans ((fr18 _ (by omega) (by omega) (by omega) (by omega) (by omega)).trans ((fr16 _ (by omega)).trans ((fr15 _ (by omega)).trans ((fr13 _ (by omega) (by omega) (by omega) (by omega)).trans ((fr11 _ (by omega)).trans ((fr10 _ (by omega)).trans (fa8_0)))))))) ((fr20 _ (by omega)).trans ((fr18 _ (by omega) (by omega) (by omega) (by omega) (by omega)).trans ((fr16 _ (by omega)).trans ((fr15 _ (by omega)).trans ((fr13 _ (by omega) (by omega) (by omega) (by omega)).trans ((fr11 _ (by omega)).trans ((fr10 _ (by omega)).trans (fa8_1)))))))) ((fr20 _ (by omega)).trans ((fr18 _ (by omega) (by omega) (by omega) (by omega) (by omega)).trans ((fr16 _ (by omega)).trans ((fr15 _ (by omega)).trans (fa13_0))))) ((fr20 _ (by omega)).trans ((fr18 _ (by omega) (by omega) (by omega) (by omega) (by omega)).trans ((fr16 _ (by omega)).trans ((fr15 _ (by omega)).trans (fa13_1))))) ((fr20 _ (by omega)).trans ((fr18 _ (by omega) (by omega) (by omega) (by omega) (by omega)).trans ((fr16 _ (by omega)).trans ((fr15 _ (by omega)).trans (fa13_2))))) ((fr20 _ (by omega)).trans ((fr18 _ (by omega) (by omega) (by omega) (by omega) (by omega)).trans ((fr16 _ (by omega)).trans ((fr15 _ (by omega)).trans (fa13_3))))) ((fr20 _ (by omega)).trans (fa18_0)) ((fr20 _ (by omega)).trans (fa18_1)) ((fr20 _ (by omega)).trans (fa18_2)) ((fr20 _ (by omega)).trans (fa18_3)) ((fr20 _ (by omega)).trans (fa18_4)) (fun j g0 g1 g2 g3 g4 g5 g6 g7 g8 g9 g10 g11 g12 g13 => (fr20 j g0).trans ((fr18 j g9 g10 g11 g12 g13).trans ((fr16 j g9).trans ((fr15 j g0).trans ((fr13 j g5 g6 g7 g8).trans ((fr11 j g5).trans ((fr10 j g0).trans ((fr8 j g3 g4).trans ((fr6 j g3).trans ((fr5 j g0).trans ((fr3 j g1 g2).trans (fr1 j g1)))))))))))), rfl⟩, by rw [ht]; exact hP, by rw [ht]; exact hz⟩, hS.F ht⟩) hS.2.2 d_X_init_48
