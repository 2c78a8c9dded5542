theorem d_Cer_init_0 : decode k_Cer_init 0 = .ok (.aload_n 0, 1) := by decide +kernel
theorem d_Cer_init_1 : decode k_Cer_init 1 = .ok (.invokespecial 1, 3) := by decide +kernel
theorem d_Cer_init_4 : decode k_Cer_init 4 = .ok (.aload_n 0, 1) := by decide +kernel
theorem d_Cer_init_5 : decode k_Cer_init 5 = .ok (.iconst 0, 1) := by decide +kernel
theorem d_Cer_init_6 : decode k_Cer_init 6 = .ok (.putfield 7, 3) := by decide +kernel
theorem d_Cer_init_9 : decode k_Cer_init 9 = .ok (.aload_n 0, 1) := by decide +kernel
theorem d_Cer_init_10 : decode k_Cer_init 10 = .ok (.iload_n 1, 1) := by decide +kernel
theorem d_Cer_init_11 : decode k_Cer_init 11 = .ok (.putfield 13, 3) := by decide +kernel
theorem d_Cer_init_14 : decode k_Cer_init 14 = .ok (.aload_n 0, 1) := by decide +kernel
theorem d_Cer_init_15 : decode k_Cer_init 15 = .ok (.new 17, 3) := by decide +kernel
theorem d_Cer_init_18 : decode k_Cer_init 18 = .ok (.dup, 1) := by decide +kernel
theorem d_Cer_init_19 : decode k_Cer_init 19 = .ok (.iload_n 2, 1) := by decide +kernel
theorem d_Cer_init_20 : decode k_Cer_init 20 = .ok (.iload_n 3, 1) := by decide +kernel
theorem d_Cer_init_21 : decode k_Cer_init 21 = .ok (.invokespecial 19, 3) := by decide +kernel
theorem d_Cer_init_24 : decode k_Cer_init 24 = .ok (.putfield 22, 3) := by decide +kernel
theorem d_Cer_init_27 : decode k_Cer_init 27 = .ok (.return_, 1) := by decide +kernel
set_option maxHeartbeats 4000000 in
set_option maxRecDepth 100000 in
theorem c_Cer_init7 (l : Launch) {B : Nat} {D : va_G} {cI cZ cQ : ClassId} {w : mm_M} {sz : Nat} {a : Nat} {iss fr to : Int32} (h_0 : w a = some (.inr (7, [.int 0, .null, .int 0, .int 0, .int 0]))) (hasz : a < sz) : Met l y_Cer_init ws_Cer_init (kk_rm 2 1 2) (kk_Pc B D cI cZ cQ [.ref a, .int iss, .int fr, .int to] w sz) (kk_Qv B D (fun w' sz' => w' = mm_up (mm_up w a (.inr (7, [.int iss, .ref sz, .int (nI 0), .int 0, .int 0]))) sz (.inr (6, [.int fr, .int to])) ∧ sz' = sz + 1)) 1 2 (fun q => B ≤ q) := by
  refine Met.ofW (cc := k_Cer_init) (maxL := 4) (ret := none) (by decide) rfl ?_
  intro p e s m args below meth c s₁ BB hml hv
  obtain ⟨rfl, hK, hP, hz, hBz⟩ := hv
  have hx := BB.exec
  have hb := BB.bytes
  have hr := BB.returns
  have hts := atoms_spec (ws := ws_Cer_init) BB.pre
  have hown : s.vm.findClass "DelegationClosure$Certificate" = some m.cls := findClass_of_methodNamed BB.named
  have hlocks := BB.notSynchronized
  have hin : meth.name = "<init>" := (name_of_methodNamed BB.named BB.method).1
  have hS : mm_S B s.heap s.heap [] := va_S.rf
  have hl := lv_entry ([.ref a, .int iss, .int fr, .int to]) (n := 4) (Nat.le_of_ble_eq_true rfl)
  rw [lg_entry_eq]
  generalize (lg_sl ([.ref a, .int iss, .int fr, .int to]) ++ List.replicate (4 - (lg_sl ([.ref a, .int iss, .int fr, .int to])).length) Slot.unset).toArray = ls at hl ⊢
  have hl : lv_has ls 4 [(0, .ref a), (1, .int iss), (2, .int fr), (3, .int to)] := hl
  refine lv_aload_n hx hb d_Cer_init_0 rfl (lv_at hl 0 rfl) ?_
  refine W.objInit hx hb hown (hts _ (List.mem_cons_of_mem _ wd_173)) (hts _ (List.mem_cons_of_mem _ wd_21)) (hts _ (List.mem_cons_of_mem _ wd_objcode)) rfl (by rw [hml]; exact hl.1) rfl d_Cer_init_1 (Nat.le_of_ble_eq_true rfl) (Nat.le_of_ble_eq_true rfl) ?_
  refine W.eq (g2 := F0 m 4 ls []) rfl ?_
  refine lv_aload_n hx hb d_Cer_init_4 rfl (lv_at hl 0 rfl) ?_
  refine lv_iconst (v := nI 0) hx hb d_Cer_init_5 (by decide) ?_
  refine mm_put (D := D) (C := n_Nam) (T := T_Nam) (N := 5) (v := .int (nI 0)) (ty := .boolean) hx hb hts lay_Nam t_Nam ty_Nam nm_Nam hown hK.1 hP hS h_0 rfl 2 (by decide) (hts _ (List.mem_cons_of_mem _ wd_197)) (fun _ h9 => h9) rfl (by decide +kernel) rfl rfl (Nat.le_of_ble_eq_true rfl) d_Cer_init_6 (fun H locs hP hz1 hS => ?_)
  have hz : H.size = sz := hz1.trans hz
  obtain ⟨w1, hw1⟩ : ∃ z : mm_M, z = mm_up w a (.inr (7, [.int 0, .null, .int (nI 0), .int 0, .int 0])) := ⟨_, rfl⟩
  have hP : mm_P B D kc w1 H := by rw [hw1]; exact hP
  have fr1 : ∀ j, j ≠ a → w1 j = w j := fun j h9 => by rw [hw1]; exact mm_un h9
  have fa1 : w1 a = some (.inr (7, [.int 0, .null, .int (nI 0), .int 0, .int 0])) := by rw [hw1]; exact mm_us _ _ _
  refine lv_aload_n hx hb d_Cer_init_9 rfl (lv_at hl 0 rfl) ?_
  refine lv_iload_n hx hb d_Cer_init_10 rfl (lv_at hl 1 rfl) ?_
  refine mm_putF (D := D) (C := n_Nam) (T := T_Nam) (N := 5) (v := .int iss) (ty := .int) hx hb hts lay_Nam t_Nam ty_Nam nm_Nam hown hK.1 hP hS fa1 rfl 0 (by decide) (hts _ (List.mem_cons_of_mem _ wd_182)) (fun _ h9 => h9) rfl hin rfl (by decide +kernel) rfl rfl (Nat.le_of_ble_eq_true rfl) d_Cer_init_11 (fun H locs hP hz1 hS => ?_)
  have hz : H.size = sz := hz1.trans hz
  obtain ⟨w2, hw2⟩ : ∃ z : mm_M, z = mm_up w1 a (.inr (7, [.int iss, .null, .int (nI 0), .int 0, .int 0])) := ⟨_, rfl⟩
  have hP : mm_P B D kc w2 H := by rw [hw2]; exact hP
  have fr2 : ∀ j, j ≠ a → w2 j = w1 j := fun j h9 => by rw [hw2]; exact mm_un h9
  have fa2 : w2 a = some (.inr (7, [.int iss, .null, .int (nI 0), .int 0, .int 0])) := by rw [hw2]; exact mm_us _ _ _
  refine lv_aload_n hx hb d_Cer_init_14 rfl (lv_at hl 0 rfl) ?_
  refine mm_new (D := D) (C := n_Spn) (T := T_Spn) (N := 2) (ci := 6) (fs := [.int 0, .int 0]) (h := sz) hx hb hts lay_Spn t_Spn ty_Spn hown (hts _ (List.mem_cons_of_mem _ wd_174)) (hts _ (List.mem_cons_of_mem _ wd_82)) (hts _ (List.mem_cons_of_mem _ wd_7)) hK.1 hP hS rfl def_Spn (Nat.le_of_ble_eq_true rfl) (Nat.le_of_ble_eq_true rfl) hz (by omega) d_Cer_init_15 (fun H hP hz1 hS => ?_)
  have hz : H.size = sz + 1 := hz1
  obtain ⟨w3, hw3⟩ : ∃ z : mm_M, z = mm_up w2 sz (.inr (6, [.int 0, .int 0])) := ⟨_, rfl⟩
  have hP : mm_P B D kc w3 H := by rw [hw3]; exact hP
  have fr3 : ∀ j, j ≠ sz → w3 j = w2 j := fun j h9 => by rw [hw3]; exact mm_un h9
  have fa3 : w3 sz = some (.inr (6, [.int 0, .int 0])) := by rw [hw3]; exact mm_us _ _ _
  refine lv_dup hx hb d_Cer_init_18 rfl ?_
  refine lv_iload_n hx hb d_Cer_init_19 rfl (lv_at hl 2 rfl) ?_
  refine lv_iload_n hx hb d_Cer_init_20 rfl (lv_at hl 3 rfl) ?_
  refine kk_callv (va_runI (As := [.int fr, .int to]) (rest := [.ref sz, .ref a]) ⟨hx, hb, hml, hown, hts⟩ (c_Spn_init l fa3) (cwI 2 hts (gW_in (hd := [_]) (kk_1 cw_Spn_init)) rfl rfl rfl (hts _ (List.mem_cons_of_mem _ wd_7)) (hts _ (List.mem_cons_of_mem _ wd_175)) (hts _ (List.mem_cons_of_mem _ wd_86)) rfl ds_Spn_init ⟨Nat.le_of_ble_eq_true rfl, Nat.le_of_ble_eq_true rfl⟩) (kk_preS hK hP hz (by omega)) rfl rfl hl.1 rfl (lv_room (Nat.le_of_ble_eq_true rfl)) d_Cer_init_21 ⟨Nat.le_of_ble_eq_true rfl, Nat.le_of_ble_eq_true rfl⟩) hS (fun w4 sz4 H locs hp4 hP hz hS => ?_)
  obtain ⟨he4, hs4⟩ := hp4
  have hz : H.size = sz + 1 := hz.trans hs4
  have hw5 : w4 = mm_up w3 sz (.inr (6, [.int fr, .int to])) := he4
  have fr5 : ∀ j, j ≠ sz → w4 j = w3 j := fun j h90 => by rw [hw5]; exact mm_un h90
  have fa5_0 : w4 sz = some (.inr (6, [.int fr, .int to])) := by rw [hw5]; exact mm_us _ _ _
  have f6 := (fr5 _ (by omega)).trans ((fr3 _ (by omega)).trans (fa2))
  refine mm_putF (D := D) (C := n_Nam) (T := T_Nam) (N := 5) (v := .ref sz) (ty := (.object "DelegationClosure$Span")) hx hb hts lay_Nam t_Nam ty_Nam nm_Nam hown hK.1 hP hS f6 rfl 1 (by decide) (hts _ (List.mem_cons_of_mem _ wd_190)) (fun _ h9 => h9) rfl hin rfl (by decide +kernel) rfl rfl (Nat.le_of_ble_eq_true rfl) d_Cer_init_24 (fun H locs hP hz1 hS => ?_)
  have hz : H.size = sz + 1 := hz1.trans hz
  obtain ⟨w7, hw7⟩ : ∃ z : mm_M, z = mm_up w4 a (.inr (7, [.int iss, .ref sz, .int (nI 0), .int 0, .int 0])) := ⟨_, rfl⟩
  have hP : mm_P B D kc w7 H := by rw [hw7]; exact hP
  have fr7 : ∀ j, j ≠ a → w7 j = w4 j := fun j h9 => by rw [hw7]; exact mm_un h9
  have fa7 : w7 a = some (.inr (7, [.int iss, .ref sz, .int (nI 0), .int 0, .int 0])) := by rw [hw7]; exact mm_us _ _ _
  exact W.vret hx hb hr (fun t ht hW => ⟨⟨(w7, sz + 1), rfl, ⟨mm_e2 fa7 ((fr7 _ (by omega)).trans (fa5_0)) (fun j g0 g1 => (fr7 j g0).trans ((fr5 j g1).trans ((fr3 j g1).trans ((fr2 j g0).trans (fr1 j g0))))), rfl⟩, by rw [ht]; exact hP, by rw [ht]; exact hz⟩, hS.F ht⟩) hS.2.2 d_Cer_init_27
set_option maxHeartbeats 4000000 in
set_option maxRecDepth 100000 in
theorem c_Cer_init8 (l : Launch) {B : Nat} {D : va_G} {cI cZ cQ : ClassId} {w : mm_M} {sz : Nat} {a : Nat} {iss fr to : Int32} (h_0 : w a = some (.inr (8, [.int 0, .null, .int 0, .null, .null, .int 0, .int 0, .int 0]))) (hasz : a < sz) : Met l y_Cer_init ws_Cer_init (kk_rm 2 1 2) (kk_Pc B D cI cZ cQ [.ref a, .int iss, .int fr, .int to] w sz) (kk_Qv B D (fun w' sz' => w' = mm_up (mm_up w a (.inr (8, [.int iss, .ref sz, .int (nI 0), .null, .null, .int 0, .int 0, .int 0]))) sz (.inr (6, [.int fr, .int to])) ∧ sz' = sz + 1)) 1 2 (fun q => B ≤ q) := by
  refine Met.ofW (cc := k_Cer_init) (maxL := 4) (ret := none) (by decide) rfl ?_
  intro p e s m args below meth c s₁ BB hml hv
  obtain ⟨rfl, hK, hP, hz, hBz⟩ := hv
  have hx := BB.exec
  have hb := BB.bytes
  have hr := BB.returns
  have hts := atoms_spec (ws := ws_Cer_init) BB.pre
  have hown : s.vm.findClass "DelegationClosure$Certificate" = some m.cls := findClass_of_methodNamed BB.named
  have hlocks := BB.notSynchronized
  have hin : meth.name = "<init>" := (name_of_methodNamed BB.named BB.method).1
  have hS : mm_S B s.heap s.heap [] := va_S.rf
  have hl := lv_entry ([.ref a, .int iss, .int fr, .int to]) (n := 4) (Nat.le_of_ble_eq_true rfl)
  rw [lg_entry_eq]
  generalize (lg_sl ([.ref a, .int iss, .int fr, .int to]) ++ List.replicate (4 - (lg_sl ([.ref a, .int iss, .int fr, .int to])).length) Slot.unset).toArray = ls at hl ⊢
  have hl : lv_has ls 4 [(0, .ref a), (1, .int iss), (2, .int fr), (3, .int to)] := hl
  refine lv_aload_n hx hb d_Cer_init_0 rfl (lv_at hl 0 rfl) ?_
  refine W.objInit hx hb hown (hts _ (List.mem_cons_of_mem _ wd_173)) (hts _ (List.mem_cons_of_mem _ wd_21)) (hts _ (List.mem_cons_of_mem _ wd_objcode)) rfl (by rw [hml]; exact hl.1) rfl d_Cer_init_1 (Nat.le_of_ble_eq_true rfl) (Nat.le_of_ble_eq_true rfl) ?_
  refine W.eq (g2 := F0 m 4 ls []) rfl ?_
  refine lv_aload_n hx hb d_Cer_init_4 rfl (lv_at hl 0 rfl) ?_
  refine lv_iconst (v := nI 0) hx hb d_Cer_init_5 (by decide) ?_
  refine mm_put (D := D) (C := n_Prm) (T := T_Prm) (N := 8) (v := .int (nI 0)) (ty := .boolean) hx hb hts lay_Prm t_Prm ty_Prm nm_Prm hown hK.1 hP hS h_0 rfl 2 (by decide) (hts _ (List.mem_cons_of_mem _ wd_197)) (fun _ h9 => h9) rfl (by decide +kernel) rfl rfl (Nat.le_of_ble_eq_true rfl) d_Cer_init_6 (fun H locs hP hz1 hS => ?_)
  have hz : H.size = sz := hz1.trans hz
  obtain ⟨w1, hw1⟩ : ∃ z : mm_M, z = mm_up w a (.inr (8, [.int 0, .null, .int (nI 0), .null, .null, .int 0, .int 0, .int 0])) := ⟨_, rfl⟩
  have hP : mm_P B D kc w1 H := by rw [hw1]; exact hP
  have fr1 : ∀ j, j ≠ a → w1 j = w j := fun j h9 => by rw [hw1]; exact mm_un h9
  have fa1 : w1 a = some (.inr (8, [.int 0, .null, .int (nI 0), .null, .null, .int 0, .int 0, .int 0])) := by rw [hw1]; exact mm_us _ _ _
  refine lv_aload_n hx hb d_Cer_init_9 rfl (lv_at hl 0 rfl) ?_
  refine lv_iload_n hx hb d_Cer_init_10 rfl (lv_at hl 1 rfl) ?_
  refine mm_putF (D := D) (C := n_Prm) (T := T_Prm) (N := 8) (v := .int iss) (ty := .int) hx hb hts lay_Prm t_Prm ty_Prm nm_Prm hown hK.1 hP hS fa1 rfl 0 (by decide) (hts _ (List.mem_cons_of_mem _ wd_182)) (fun _ h9 => h9) rfl hin rfl (by decide +kernel) rfl rfl (Nat.le_of_ble_eq_true rfl) d_Cer_init_11 (fun H locs hP hz1 hS => ?_)
  have hz : H.size = sz := hz1.trans hz
  obtain ⟨w2, hw2⟩ : ∃ z : mm_M, z = mm_up w1 a (.inr (8, [.int iss, .null, .int (nI 0), .null, .null, .int 0, .int 0, .int 0])) := ⟨_, rfl⟩
  have hP : mm_P B D kc w2 H := by rw [hw2]; exact hP
  have fr2 : ∀ j, j ≠ a → w2 j = w1 j := fun j h9 => by rw [hw2]; exact mm_un h9
  have fa2 : w2 a = some (.inr (8, [.int iss, .null, .int (nI 0), .null, .null, .int 0, .int 0, .int 0])) := by rw [hw2]; exact mm_us _ _ _
  refine lv_aload_n hx hb d_Cer_init_14 rfl (lv_at hl 0 rfl) ?_
  refine mm_new (D := D) (C := n_Spn) (T := T_Spn) (N := 2) (ci := 6) (fs := [.int 0, .int 0]) (h := sz) hx hb hts lay_Spn t_Spn ty_Spn hown (hts _ (List.mem_cons_of_mem _ wd_174)) (hts _ (List.mem_cons_of_mem _ wd_82)) (hts _ (List.mem_cons_of_mem _ wd_7)) hK.1 hP hS rfl def_Spn (Nat.le_of_ble_eq_true rfl) (Nat.le_of_ble_eq_true rfl) hz (by omega) d_Cer_init_15 (fun H hP hz1 hS => ?_)
  have hz : H.size = sz + 1 := hz1
  obtain ⟨w3, hw3⟩ : ∃ z : mm_M, z = mm_up w2 sz (.inr (6, [.int 0, .int 0])) := ⟨_, rfl⟩
  have hP : mm_P B D kc w3 H := by rw [hw3]; exact hP
  have fr3 : ∀ j, j ≠ sz → w3 j = w2 j := fun j h9 => by rw [hw3]; exact mm_un h9
  have fa3 : w3 sz = some (.inr (6, [.int 0, .int 0])) := by rw [hw3]; exact mm_us _ _ _
  refine lv_dup hx hb d_Cer_init_18 rfl ?_
  refine lv_iload_n hx hb d_Cer_init_19 rfl (lv_at hl 2 rfl) ?_
  refine lv_iload_n hx hb d_Cer_init_20 rfl (lv_at hl 3 rfl) ?_
  refine kk_callv (va_runI (As := [.int fr, .int to]) (rest := [.ref sz, .ref a]) ⟨hx, hb, hml, hown, hts⟩ (c_Spn_init l fa3) (cwI 2 hts (gW_in (hd := [_]) (kk_1 cw_Spn_init)) rfl rfl rfl (hts _ (List.mem_cons_of_mem _ wd_7)) (hts _ (List.mem_cons_of_mem _ wd_175)) (hts _ (List.mem_cons_of_mem _ wd_86)) rfl ds_Spn_init ⟨Nat.le_of_ble_eq_true rfl, Nat.le_of_ble_eq_true rfl⟩) (kk_preS hK hP hz (by omega)) rfl rfl hl.1 rfl (lv_room (Nat.le_of_ble_eq_true rfl)) d_Cer_init_21 ⟨Nat.le_of_ble_eq_true rfl, Nat.le_of_ble_eq_true rfl⟩) hS (fun w4 sz4 H locs hp4 hP hz hS => ?_)
  obtain ⟨he4, hs4⟩ := hp4
  have hz : H.size = sz + 1 := hz.trans hs4
  have hw5 : w4 = mm_up w3 sz (.inr (6, [.int fr, .int to])) := he4
  have fr5 : ∀ j, j ≠ sz → w4 j = w3 j := fun j h90 => by rw [hw5]; exact mm_un h90
  have fa5_0 : w4 sz = some (.inr (6, [.int fr, .int to])) := by rw [hw5]; exact mm_us _ _ _
  have f6 := (fr5 _ (by omega)).trans ((fr3 _ (by omega)).trans (fa2))
  refine mm_putF (D := D) (C := n_Prm) (T := T_Prm) (N := 8) (v := .ref sz) (ty := (.object "DelegationClosure$Span")) hx hb hts lay_Prm t_Prm ty_Prm nm_Prm hown hK.1 hP hS f6 rfl 1 (by decide) (hts _ (List.mem_cons_of_mem _ wd_190)) (fun _ h9 => h9) rfl hin rfl (by decide +kernel) rfl rfl (Nat.le_of_ble_eq_true rfl) d_Cer_init_24 (fun H locs hP hz1 hS => ?_)
  have hz : H.size = sz + 1 := hz1.trans hz
  obtain ⟨w7, hw7⟩ : ∃ z : mm_M, z = mm_up w4 a (.inr (8, [.int iss, .ref sz, .int (nI 0), .null, .null, .int 0, .int 0, .int 0])) := ⟨_, rfl⟩
  have hP : mm_P B D kc w7 H := by rw [hw7]; exact hP
  have fr7 : ∀ j, j ≠ a → w7 j = w4 j := fun j h9 => by rw [hw7]; exact mm_un h9
  have fa7 : w7 a = some (.inr (8, [.int iss, .ref sz, .int (nI 0), .null, .null, .int 0, .int 0, .int 0])) := by rw [hw7]; exact mm_us _ _ _
  exact W.vret hx hb hr (fun t ht hW => ⟨⟨(w7, sz + 1), rfl, ⟨mm_e2 fa7 ((fr7 _ (by omega)).trans (fa5_0)) (fun j g0 g1 => (fr7 j g0).trans ((fr5 j g1).trans ((fr3 j g1).trans ((fr2 j g0).trans (fr1 j g0))))), rfl⟩, by rw [ht]; exact hP, by rw [ht]; exact hz⟩, hS.F ht⟩) hS.2.2 d_Cer_init_27
theorem d_Nam_init_0 : decode k_Nam_init 0 = .ok (.aload_n 0, 1) := by decide +kernel
theorem d_Nam_init_1 : decode k_Nam_init 1 = .ok (.iload_n 1, 1) := by decide +kernel
theorem d_Nam_init_2 : decode k_Nam_init 2 = .ok (.iload 4, 2) := by decide +kernel
theorem d_Nam_init_4 : decode k_Nam_init 4 = .ok (.iload 5, 2) := by decide +kernel
theorem d_Nam_init_6 : decode k_Nam_init 6 = .ok (.invokespecial 1, 3) := by decide +kernel
theorem d_Nam_init_9 : decode k_Nam_init 9 = .ok (.aload_n 0, 1) := by decide +kernel
theorem d_Nam_init_10 : decode k_Nam_init 10 = .ok (.iload_n 2, 1) := by decide +kernel
theorem d_Nam_init_11 : decode k_Nam_init 11 = .ok (.putfield 7, 3) := by decide +kernel
theorem d_Nam_init_14 : decode k_Nam_init 14 = .ok (.aload_n 0, 1) := by decide +kernel
theorem d_Nam_init_15 : decode k_Nam_init 15 = .ok (.iload_n 3, 1) := by decide +kernel
theorem d_Nam_init_16 : decode k_Nam_init 16 = .ok (.putfield 13, 3) := by decide +kernel
theorem d_Nam_init_19 : decode k_Nam_init 19 = .ok (.return_, 1) := by decide +kernel
set_option maxHeartbeats 4000000 in
set_option maxRecDepth 100000 in
theorem c_Nam_init (l : Launch) {B : Nat} {D : va_G} {cI cZ cQ : ClassId} {w : mm_M} {sz : Nat} {a : Nat} {iss nm su fr to : Int32} (h_0 : w a = some (.inr (7, [.int 0, .null, .int 0, .int 0, .int 0]))) (hasz : a < sz) : Met l y_Nam_init ws_Nam_init (kk_rm 3 1 2) (kk_Pc B D cI cZ cQ [.ref a, .int iss, .int nm, .int su, .int fr, .int to] w sz) (kk_Qv B D (fun w' sz' => w' = mm_up (mm_up w a (.inr (7, [.int iss, .ref sz, .int (nI 0), .int nm, .int su]))) sz (.inr (6, [.int fr, .int to])) ∧ sz' = sz + 1)) 1 2 (fun q => B ≤ q) := by
  refine Met.ofW (cc := k_Nam_init) (maxL := 6) (ret := none) (by decide) rfl ?_
  intro p e s m args below meth c s₁ BB hml hv
  obtain ⟨rfl, hK, hP, hz, hBz⟩ := hv
  have hx := BB.exec
  have hb := BB.bytes
  have hr := BB.returns
  have hts := atoms_spec (ws := ws_Nam_init) BB.pre
  have hown : s.vm.findClass "DelegationClosure$Naming" = some m.cls := findClass_of_methodNamed BB.named
  have hlocks := BB.notSynchronized
  have hin : meth.name = "<init>" := (name_of_methodNamed BB.named BB.method).1
  have hS : mm_S B s.heap s.heap [] := va_S.rf
  have hl := lv_entry ([.ref a, .int iss, .int nm, .int su, .int fr, .int to]) (n := 6) (Nat.le_of_ble_eq_true rfl)
  rw [lg_entry_eq]
  generalize (lg_sl ([.ref a, .int iss, .int nm, .int su, .int fr, .int to]) ++ List.replicate (6 - (lg_sl ([.ref a, .int iss, .int nm, .int su, .int fr, .int to])).length) Slot.unset).toArray = ls at hl ⊢
  have hl : lv_has ls 6 [(0, .ref a), (1, .int iss), (2, .int nm), (3, .int su), (4, .int fr), (5, .int to)] := hl
  refine lv_aload_n hx hb d_Nam_init_0 rfl (lv_at hl 0 rfl) ?_
  refine lv_iload_n hx hb d_Nam_init_1 rfl (lv_at hl 1 rfl) ?_
  refine lv_iload hx hb d_Nam_init_2 (lv_at hl 4 rfl) ?_
  refine lv_iload hx hb d_Nam_init_4 (lv_at hl 5 rfl) ?_
  refine kk_callv (va_runI (As := [.int iss, .int fr, .int to]) (rest := []) ⟨hx, hb, hml, hown, hts⟩ (c_Cer_init7 l h_0 (by omega)) (cwI 3 hts (gW_in (hd := [_]) (kk_1 cw_Cer_init)) rfl rfl rfl (hts _ (List.mem_cons_of_mem _ wd_9)) (hts _ (List.mem_cons_of_mem _ wd_170)) (hts _ (List.mem_cons_of_mem _ wd_171)) rfl ds_Cer_init ⟨Nat.le_of_ble_eq_true rfl, Nat.le_of_ble_eq_true rfl⟩) (kk_preS hK hP hz hBz) rfl rfl hl.1 rfl (lv_room (Nat.le_of_ble_eq_true rfl)) d_Nam_init_6 ⟨Nat.le_of_ble_eq_true rfl, Nat.le_of_ble_eq_true rfl⟩) hS (fun w1 sz1 H locs hp1 hP hz hS => ?_)
  obtain ⟨he1, hs1⟩ := hp1
  have hz : H.size = sz + 1 := hz.trans hs1
  have hw2 : w1 = mm_up (mm_up w a (.inr (7, [.int iss, .ref sz, .int (nI 0), .int 0, .int 0]))) sz (.inr (6, [.int fr, .int to])) := he1
  have fr2 : ∀ j, j ≠ a → j ≠ sz → w1 j = w j := fun j h90 h91 => by rw [hw2]; exact (mm_un h91).trans (mm_un h90)
  have fa2_0 : w1 a = some (.inr (7, [.int iss, .ref sz, .int (nI 0), .int 0, .int 0])) := by rw [hw2]; exact (mm_un (by omega)).trans (mm_us _ _ _)
  have fa2_1 : w1 sz = some (.inr (6, [.int fr, .int to])) := by rw [hw2]; exact mm_us _ _ _
  refine lv_aload_n hx hb d_Nam_init_9 rfl (lv_at hl 0 rfl) ?_
  refine lv_iload_n hx hb d_Nam_init_10 rfl (lv_at hl 2 rfl) ?_
  refine mm_putF (D := D) (C := n_Nam) (T := T_Nam) (N := 5) (v := .int nm) (ty := .int) hx hb hts lay_Nam t_Nam ty_Nam nm_Nam hown hK.1 hP hS fa2_0 rfl 3 (by decide) (hts _ (List.mem_cons_of_mem _ wd_176)) (fun _ h9 => h9) rfl hin rfl (by decide +kernel) rfl rfl (Nat.le_of_ble_eq_true rfl) d_Nam_init_11 (fun H locs hP hz1 hS => ?_)
  have hz : H.size = sz + 1 := hz1.trans hz
  obtain ⟨w3, hw3⟩ : ∃ z : mm_M, z = mm_up w1 a (.inr (7, [.int iss, .ref sz, .int (nI 0), .int nm, .int 0])) := ⟨_, rfl⟩
  have hP : mm_P B D kc w3 H := by rw [hw3]; exact hP
  have fr3 : ∀ j, j ≠ a → w3 j = w1 j := fun j h9 => by rw [hw3]; exact mm_un h9
  have fa3 : w3 a = some (.inr (7, [.int iss, .ref sz, .int (nI 0), .int nm, .int 0])) := by rw [hw3]; exact mm_us _ _ _
  refine lv_aload_n hx hb d_Nam_init_14 rfl (lv_at hl 0 rfl) ?_
  refine lv_iload_n hx hb d_Nam_init_15 rfl (lv_at hl 3 rfl) ?_
  refine mm_putF (D := D) (C := n_Nam) (T := T_Nam) (N := 5) (v := .int su) (ty := .int) hx hb hts lay_Nam t_Nam ty_Nam nm_Nam hown hK.1 hP hS fa3 rfl 4 (by decide) (hts _ (List.mem_cons_of_mem _ wd_179)) (fun _ h9 => h9) rfl hin rfl (by decide +kernel) rfl rfl (Nat.le_of_ble_eq_true rfl) d_Nam_init_16 (fun H locs hP hz1 hS => ?_)
  have hz : H.size = sz + 1 := hz1.trans hz
  obtain ⟨w4, hw4⟩ : ∃ z : mm_M, z = mm_up w3 a (.inr (7, [.int iss, .ref sz, .int (nI 0), .int nm, .int su])) := ⟨_, rfl⟩
  have hP : mm_P B D kc w4 H := by rw [hw4]; exact hP
  have fr4 : ∀ j, j ≠ a → w4 j = w3 j := fun j h9 => by rw [hw4]; exact mm_un h9
  have fa4 : w4 a = some (.inr (7, [.int iss, .ref sz, .int (nI 0), .int nm, .int su])) := by rw [hw4]; exact mm_us _ _ _
  exact W.vret hx hb hr (fun t ht hW => ⟨⟨(w4, sz + 1), rfl, ⟨mm_e2 fa4 ((fr4 _ (by omega)).trans ((fr3 _ (by omega)).trans (fa2_1))) (fun j g0 g1 => (fr4 j g0).trans ((fr3 j g0).trans (fr2 j g0 g1))), rfl⟩, by rw [ht]; exact hP, by rw [ht]; exact hz⟩, hS.F ht⟩) hS.2.2 d_Nam_init_19
theorem d_Prm_init_0 : decode k_Prm_init 0 = .ok (.aload_n 0, 1) := by decide +kernel
theorem d_Prm_init_1 : decode k_Prm_init 1 = .ok (.iload_n 1, 1) := by decide +kernel
theorem d_Prm_init_2 : decode k_Prm_init 2 = .ok (.iload 4, 2) := by decide +kernel
theorem d_Prm_init_4 : decode k_Prm_init 4 = .ok (.iload 5, 2) := by decide +kernel
theorem d_Prm_init_6 : decode k_Prm_init 6 = .ok (.invokespecial 3, 3) := by decide +kernel
theorem d_Prm_init_9 : decode k_Prm_init 9 = .ok (.aload_n 0, 1) := by decide +kernel
theorem d_Prm_init_10 : decode k_Prm_init 10 = .ok (.iconst 3, 1) := by decide +kernel
theorem d_Prm_init_11 : decode k_Prm_init 11 = .ok (.newarray .int, 2) := by decide +kernel
theorem d_Prm_init_13 : decode k_Prm_init 13 = .ok (.putfield 9, 3) := by decide +kernel
theorem d_Prm_init_16 : decode k_Prm_init 16 = .ok (.aload_n 0, 1) := by decide +kernel
theorem d_Prm_init_17 : decode k_Prm_init 17 = .ok (.new 15, 3) := by decide +kernel
theorem d_Prm_init_20 : decode k_Prm_init 20 = .ok (.dup, 1) := by decide +kernel
theorem d_Prm_init_21 : decode k_Prm_init 21 = .ok (.invokespecial 17, 3) := by decide +kernel
theorem d_Prm_init_24 : decode k_Prm_init 24 = .ok (.putfield 20, 3) := by decide +kernel
theorem d_Prm_init_27 : decode k_Prm_init 27 = .ok (.aload_n 0, 1) := by decide +kernel
theorem d_Prm_init_28 : decode k_Prm_init 28 = .ok (.iconst 1, 1) := by decide +kernel
theorem d_Prm_init_29 : decode k_Prm_init 29 = .ok (.putfield 24, 3) := by decide +kernel
theorem d_Prm_init_32 : decode k_Prm_init 32 = .ok (.aload_n 0, 1) := by decide +kernel
theorem d_Prm_init_33 : decode k_Prm_init 33 = .ok (.iconst 1, 1) := by decide +kernel
theorem d_Prm_init_34 : decode k_Prm_init 34 = .ok (.putfield 28, 3) := by decide +kernel
theorem d_Prm_init_37 : decode k_Prm_init 37 = .ok (.aload_n 0, 1) := by decide +kernel
theorem d_Prm_init_38 : decode k_Prm_init 38 = .ok (.getfield 9, 3) := by decide +kernel
theorem d_Prm_init_41 : decode k_Prm_init 41 = .ok (.iconst 0, 1) := by decide +kernel
theorem d_Prm_init_42 : decode k_Prm_init 42 = .ok (.iload_n 2, 1) := by decide +kernel
theorem d_Prm_init_43 : decode k_Prm_init 43 = .ok (.iastore, 1) := by decide +kernel
theorem d_Prm_init_44 : decode k_Prm_init 44 = .ok (.aload_n 0, 1) := by decide +kernel
theorem d_Prm_init_45 : decode k_Prm_init 45 = .ok (.iload_n 3, 1) := by decide +kernel
theorem d_Prm_init_46 : decode k_Prm_init 46 = .ok (.putfield 31, 3) := by decide +kernel
theorem d_Prm_init_49 : decode k_Prm_init 49 = .ok (.return_, 1) := by decide +kernel
set_option maxHeartbeats 4000000 in
set_option maxRecDepth 100000 in
theorem c_Prm_init (l : Launch) {B : Nat} {D : va_G} {cI cZ cQ : ClassId} {w : mm_M} {sz : Nat} {a su dl : Nat} {iss fr to : Int32} (h_0 : w a = some (.inr (8, [.int 0, .null, .int 0, .null, .null, .int 0, .int 0, .int 0]))) (hasz : a < sz) (hdl : dl ≤ 1) : Met l y_Prm_init ws_Prm_init (kk_rm 3 4 9) (kk_Pc B D cI cZ cQ [.ref a, .int iss, .int (nI su), .int (nI dl), .int fr, .int to] w sz) (kk_Qv B D (fun w' sz' => w' = mm_up (mm_up (mm_up (mm_up (mm_up w a (.inr (8, [.int iss, .ref sz, .int (nI 0), .ref (sz + 1), .ref (sz + 2), .int (nI dl), .int (nI 1), .int (nI 1)]))) sz (.inr (6, [.int fr, .int to]))) (sz + 1) (.inl (cI, 3, .inl (fun i => nI ((va_up (fun _ => 0) 0 su) i))))) (sz + 2) (.inr (5, [.int (nI 255), .ref (sz + 3)]))) (sz + 3) (.inr (6, [.int (-2147483648), .int 2147483647])) ∧ sz' = sz + 4)) 4 9 (fun q => B ≤ q) := by
  refine Met.ofW (cc := k_Prm_init) (maxL := 6) (ret := none) (by decide) rfl ?_
  intro p e s m args below meth c s₁ BB hml hv
  obtain ⟨rfl, hK, hP, hz, hBz⟩ := hv
  have hx := BB.exec
  have hb := BB.bytes
  have hr := BB.returns
  have hts := atoms_spec (ws := ws_Prm_init) BB.pre
  have hown : s.vm.findClass "DelegationClosure$Permission" = some m.cls := findClass_of_methodNamed BB.named
  have hlocks := BB.notSynchronized
  have hin : meth.name = "<init>" := (name_of_methodNamed BB.named BB.method).1
  have hS : mm_S B s.heap s.heap [] := va_S.rf
  have hl := lv_entry ([.ref a, .int iss, .int (nI su), .int (nI dl), .int fr, .int to]) (n := 6) (Nat.le_of_ble_eq_true rfl)
  rw [lg_entry_eq]
  generalize (lg_sl ([.ref a, .int iss, .int (nI su), .int (nI dl), .int fr, .int to]) ++ List.replicate (6 - (lg_sl ([.ref a, .int iss, .int (nI su), .int (nI dl), .int fr, .int to])).length) Slot.unset).toArray = ls at hl ⊢
  have hl : lv_has ls 6 [(0, .ref a), (1, .int iss), (2, .int (nI su)), (3, .int (nI dl)), (4, .int fr), (5, .int to)] := hl
  refine lv_aload_n hx hb d_Prm_init_0 rfl (lv_at hl 0 rfl) ?_
  refine lv_iload_n hx hb d_Prm_init_1 rfl (lv_at hl 1 rfl) ?_
  refine lv_iload hx hb d_Prm_init_2 (lv_at hl 4 rfl) ?_
  refine lv_iload hx hb d_Prm_init_4 (lv_at hl 5 rfl) ?_
  refine kk_callv (va_runI (As := [.int iss, .int fr, .int to]) (rest := []) ⟨hx, hb, hml, hown, hts⟩ (c_Cer_init8 l h_0 (by omega)) (cwI 3 hts (gW_in (hd := [_]) (kk_1 cw_Cer_init)) rfl rfl rfl (hts _ (List.mem_cons_of_mem _ wd_9)) (hts _ (List.mem_cons_of_mem _ wd_225)) (hts _ (List.mem_cons_of_mem _ wd_171)) rfl ds_Cer_init ⟨Nat.le_of_ble_eq_true rfl, Nat.le_of_ble_eq_true rfl⟩) (kk_preS hK hP hz hBz) rfl rfl hl.1 rfl (lv_room (Nat.le_of_ble_eq_true rfl)) d_Prm_init_6 ⟨Nat.le_of_ble_eq_true rfl, Nat.le_of_ble_eq_true rfl⟩) hS (fun w1 sz1 H locs hp1 hP hz hS => ?_)
  obtain ⟨he1, hs1⟩ := hp1
  have hz : H.size = sz + 1 := hz.trans hs1
  have hw2 : w1 = mm_up (mm_up w a (.inr (8, [.int iss, .ref sz, .int (nI 0), .null, .null, .int 0, .int 0, .int 0]))) sz (.inr (6, [.int fr, .int to])) := he1
  have fr2 : ∀ j, j ≠ a → j ≠ sz → w1 j = w j := fun j h90 h91 => by rw [hw2]; exact (mm_un h91).trans (mm_un h90)
  have fa2_0 : w1 a = some (.inr (8, [.int iss, .ref sz, .int (nI 0), .null, .null, .int 0, .int 0, .int 0])) := by rw [hw2]; exact (mm_un (by omega)).trans (mm_us _ _ _)
  have fa2_1 : w1 sz = some (.inr (6, [.int fr, .int to])) := by rw [hw2]; exact mm_us _ _ _
  refine lv_aload_n hx hb d_Prm_init_9 rfl (lv_at hl 0 rfl) ?_
  refine lv_iconst (v := nI 3) hx hb d_Prm_init_10 (by decide) ?_
  refine mm_newa (atype := .int) (cA := cI) (a0 := (3, .inl (fun i => nI ((fun _ => 0) i)))) (h := sz + 1) hx hb (hts _ (List.mem_cons_of_mem _ wd_51)) (va_nm_int (hK.1.2 0 _ rfl).2) hP hS (fun _ => rfl) (by decide) (by decide +kernel) (by decide) (Nat.le_of_ble_eq_true rfl) (Nat.le_of_ble_eq_true rfl) hz (by omega) d_Prm_init_11 (fun H hP hz1 hS => ?_)
  have hz : H.size = sz + 2 := hz1
  obtain ⟨w3, hw3⟩ : ∃ z : mm_M, z = mm_up w1 (sz + 1) (.inl (cI, 3, .inl (fun i => nI ((fun _ => 0) i)))) := ⟨_, rfl⟩
  have hP : mm_P B D kc w3 H := by rw [hw3]; exact hP
  have fr3 : ∀ j, j ≠ sz + 1 → w3 j = w1 j := fun j h9 => by rw [hw3]; exact mm_un h9
  have fa3 : w3 (sz + 1) = some (.inl (cI, 3, .inl (fun i => nI ((fun _ => 0) i)))) := by rw [hw3]; exact mm_us _ _ _
  have f4 := (fr3 _ (by omega)).trans (fa2_0)
  refine mm_putF (D := D) (C := n_Prm) (T := T_Prm) (N := 8) (v := .ref (sz + 1)) (ty := (.array .int)) hx hb hts lay_Prm t_Prm ty_Prm nm_Prm hown hK.1 hP hS f4 rfl 3 (by decide) (hts _ (List.mem_cons_of_mem _ wd_228)) (fun _ h9 => h9) rfl hin rfl (by decide +kernel) rfl rfl (Nat.le_of_ble_eq_true rfl) d_Prm_init_13 (fun H locs hP hz1 hS => ?_)
  have hz : H.size = sz + 2 := hz1.trans hz
  obtain ⟨w5, hw5⟩ : ∃ z : mm_M, z = mm_up w3 a (.inr (8, [.int iss, .ref sz, .int (nI 0), .ref (sz + 1), .null, .int 0, .int 0, .int 0])) := ⟨_, rfl⟩
  have hP : mm_P B D kc w5 H := by rw [hw5]; exact hP
  have fr5 : ∀ j, j ≠ a → w5 j = w3 j := fun j h9 => by rw [hw5]; exact mm_un h9
  have fa5 : w5 a = some (.inr (8, [.int iss, .ref sz, .int (nI 0), .ref (sz + 1), .null, .int 0, .int 0, .int 0])) := by rw [hw5]; exact mm_us _ _ _
  refine lv_aload_n hx hb d_Prm_init_16 rfl (lv_at hl 0 rfl) ?_
  refine mm_new (D := D) (C := n_Tag) (T := T_Tag) (N := 2) (ci := 5) (fs := [.int 0, .null]) (h := sz + 2) hx hb hts lay_Tag t_Tag ty_Tag hown (hts _ (List.mem_cons_of_mem _ wd_226)) (hts _ (List.mem_cons_of_mem _ wd_76)) (hts _ (List.mem_cons_of_mem _ wd_6)) hK.1 hP hS rfl def_Tag (Nat.le_of_ble_eq_true rfl) (Nat.le_of_ble_eq_true rfl) hz (by omega) d_Prm_init_17 (fun H hP hz1 hS => ?_)
  have hz : H.size = sz + 3 := hz1
  obtain ⟨w6, hw6⟩ : ∃ z : mm_M, z = mm_up w5 (sz + 2) (.inr (5, [.int 0, .null])) := ⟨_, rfl⟩
  have hP : mm_P B D kc w6 H := by rw [hw6]; exact hP
  have fr6 : ∀ j, j ≠ sz + 2 → w6 j = w5 j := fun j h9 => by rw [hw6]; exact mm_un h9
  have fa6 : w6 (sz + 2) = some (.inr (5, [.int 0, .null])) := by rw [hw6]; exact mm_us _ _ _
  refine lv_dup hx hb d_Prm_init_20 rfl ?_
  refine kk_callv (va_runIN (As := []) (rest := [.ref (sz + 2), .ref a]) ⟨hx, hb, hml, hown, hts⟩ (c_Tag_init l fa6 (by omega)) ⟨va_cnB 0 hts (gW_in (hd := [_]) (kk_1 cw_Tag_init)) rfl rfl rfl (hK.2.1 _ nw_227 rfl) (hts _ (List.mem_cons_of_mem _ wd_6)) ds_Tag_init ⟨Nat.le_of_ble_eq_true rfl, Nat.le_of_ble_eq_true rfl⟩, rfl, (hts _ (List.mem_cons_of_mem _ wd_78))⟩ (kk_preS hK hP hz (by omega)) rfl rfl hl.1 rfl (lv_room (Nat.le_of_ble_eq_true rfl)) d_Prm_init_21 ⟨Nat.le_of_ble_eq_true rfl, Nat.le_of_ble_eq_true rfl⟩) hS (fun w7 sz7 H locs hp7 hP hz hS => ?_)
  obtain ⟨he7, hs7⟩ := hp7
  have hz : H.size = sz + 4 := hz.trans hs7
  have hw8 : w7 = mm_up (mm_up w6 (sz + 2) (.inr (5, [.int (nI 255), .ref (sz + 3)]))) (sz + 3) (.inr (6, [.int (-2147483648), .int 2147483647])) := he7
  have fr8 : ∀ j, j ≠ sz + 2 → j ≠ sz + 3 → w7 j = w6 j := fun j h90 h91 => by rw [hw8]; exact (mm_un h91).trans (mm_un h90)
  have fa8_0 : w7 (sz + 2) = some (.inr (5, [.int (nI 255), .ref (sz + 3)])) := by rw [hw8]; exact (mm_un (by omega)).trans (mm_us _ _ _)
  have fa8_1 : w7 (sz + 3) = some (.inr (6, [.int (-2147483648), .int 2147483647])) := by rw [hw8]; exact mm_us _ _ _
  have f9 := (fr8 _ (by omega) (by omega)).trans ((fr6 _ (by omega)).trans (fa5))
  refine mm_putF (D := D) (C := n_Prm) (T := T_Prm) (N := 8) (v := .ref (sz + 2)) (ty := (.object "DelegationClosure$Tag")) hx hb hts lay_Prm t_Prm ty_Prm nm_Prm hown hK.1 hP hS f9 rfl 4 (by decide) (hts _ (List.mem_cons_of_mem _ wd_231)) (fun _ h9 => h9) rfl hin rfl (by decide +kernel) rfl rfl (Nat.le_of_ble_eq_true rfl) d_Prm_init_24 (fun H locs hP hz1 hS => ?_)
  have hz : H.size = sz + 4 := hz1.trans hz
  obtain ⟨w10, hw10⟩ : ∃ z : mm_M, z = mm_up w7 a (.inr (8, [.int iss, .ref sz, .int (nI 0), .ref (sz + 1), .ref (sz + 2), .int 0, .int 0, .int 0])) := ⟨_, rfl⟩
  have hP : mm_P B D kc w10 H := by rw [hw10]; exact hP
  have fr10 : ∀ j, j ≠ a → w10 j = w7 j := fun j h9 => by rw [hw10]; exact mm_un h9
  have fa10 : w10 a = some (.inr (8, [.int iss, .ref sz, .int (nI 0), .ref (sz + 1), .ref (sz + 2), .int 0, .int 0, .int 0])) := by rw [hw10]; exact mm_us _ _ _
  refine lv_aload_n hx hb d_Prm_init_27 rfl (lv_at hl 0 rfl) ?_
  refine lv_iconst (v := nI 1) hx hb d_Prm_init_28 (by decide) ?_
  refine mm_put (D := D) (C := n_Prm) (T := T_Prm) (N := 8) (v := .int (nI 1)) (ty := .int) hx hb hts lay_Prm t_Prm ty_Prm nm_Prm hown hK.1 hP hS fa10 rfl 6 (by decide) (hts _ (List.mem_cons_of_mem _ wd_238)) (fun _ h9 => h9) rfl (by decide +kernel) rfl rfl (Nat.le_of_ble_eq_true rfl) d_Prm_init_29 (fun H locs hP hz1 hS => ?_)
  have hz : H.size = sz + 4 := hz1.trans hz
  obtain ⟨w11, hw11⟩ : ∃ z : mm_M, z = mm_up w10 a (.inr (8, [.int iss, .ref sz, .int (nI 0), .ref (sz + 1), .ref (sz + 2), .int 0, .int (nI 1), .int 0])) := ⟨_, rfl⟩
  have hP : mm_P B D kc w11 H := by rw [hw11]; exact hP
  have fr11 : ∀ j, j ≠ a → w11 j = w10 j := fun j h9 => by rw [hw11]; exact mm_un h9
  have fa11 : w11 a = some (.inr (8, [.int iss, .ref sz, .int (nI 0), .ref (sz + 1), .ref (sz + 2), .int 0, .int (nI 1), .int 0])) := by rw [hw11]; exact mm_us _ _ _
  refine lv_aload_n hx hb d_Prm_init_32 rfl (lv_at hl 0 rfl) ?_
  refine lv_iconst (v := nI 1) hx hb d_Prm_init_33 (by decide) ?_
  refine mm_put (D := D) (C := n_Prm) (T := T_Prm) (N := 8) (v := .int (nI 1)) (ty := .int) hx hb hts lay_Prm t_Prm ty_Prm nm_Prm hown hK.1 hP hS fa11 rfl 7 (by decide) (hts _ (List.mem_cons_of_mem _ wd_242)) (fun _ h9 => h9) rfl (by decide +kernel) rfl rfl (Nat.le_of_ble_eq_true rfl) d_Prm_init_34 (fun H locs hP hz1 hS => ?_)
  have hz : H.size = sz + 4 := hz1.trans hz
  obtain ⟨w12, hw12⟩ : ∃ z : mm_M, z = mm_up w11 a (.inr (8, [.int iss, .ref sz, .int (nI 0), .ref (sz + 1), .ref (sz + 2), .int 0, .int (nI 1), .int (nI 1)])) := ⟨_, rfl⟩
  have hP : mm_P B D kc w12 H := by rw [hw12]; exact hP
  have fr12 : ∀ j, j ≠ a → w12 j = w11 j := fun j h9 => by rw [hw12]; exact mm_un h9
  have fa12 : w12 a = some (.inr (8, [.int iss, .ref sz, .int (nI 0), .ref (sz + 1), .ref (sz + 2), .int 0, .int (nI 1), .int (nI 1)])) := by rw [hw12]; exact mm_us _ _ _
  refine lv_aload_n hx hb d_Prm_init_37 rfl (lv_at hl 0 rfl) ?_
  refine mm_get (D := D) (C := n_Prm) (T := T_Prm) (N := 8) (v := .ref (sz + 1)) hx hb hts lay_Prm hown hK.1 hP fa12 rfl 3 (by decide) (hts _ (List.mem_cons_of_mem _ wd_228)) (fun _ h9 => h9) rfl d_Prm_init_38 ?_
  refine lv_iconst (v := nI 0) hx hb d_Prm_init_41 (by decide) ?_
  refine lv_iload_n hx hb d_Prm_init_42 rfl (lv_at hl 2 rfl) ?_
  have f13 := (fr12 _ (by omega)).trans ((fr11 _ (by omega)).trans ((fr10 _ (by omega)).trans ((fr8 _ (by omega) (by omega)).trans ((fr6 _ (by omega)).trans ((fr5 _ (by omega)).trans (fa3))))))
  refine mm_iast hx hb hK.1 hP hS 0 f13 rfl 0 rfl (by omega) (by decide) d_Prm_init_43 (fun H locs hP hz1 hS => ?_)
  rw [show upd (fun i => nI ((fun _ => 0) i)) 0 (nI su) = fun i => nI ((va_up (fun _ => 0) 0 su) i) from kk_upn _ _ _] at hP
  have hz : H.size = sz + 4 := hz1.trans hz
  obtain ⟨w14, hw14⟩ : ∃ z : mm_M, z = mm_up w12 (sz + 1) (.inl (cI, 3, .inl (fun i => nI ((va_up (fun _ => 0) 0 su) i)))) := ⟨_, rfl⟩
  have hP : mm_P B D kc w14 H := by rw [hw14]; exact hP
  have fr14 : ∀ j, j ≠ sz + 1 → w14 j = w12 j := fun j h9 => by rw [hw14]; exact mm_un h9
  have fa14 : w14 (sz + 1) = some (.inl (cI, 3, .inl (fun i => nI ((va_up (fun _ => 0) 0 su) i)))) := by rw [hw14]; exact mm_us _ _ _
  refine lv_aload_n hx hb d_Prm_init_44 rfl (lv_at hl 0 rfl) ?_
  refine lv_iload_n hx hb d_Prm_init_45 rfl (lv_at hl 3 rfl) ?_
  have f15 := (fr14 _ (by omega)).trans (fa12)
  refine mm_putF (D := D) (C := n_Prm) (T := T_Prm) (N := 8) (v := .int (nI dl)) (ty := .boolean) hx hb hts lay_Prm t_Prm ty_Prm nm_Prm hown hK.1 hP hS f15 rfl 5 (by decide) (hts _ (List.mem_cons_of_mem _ wd_235)) (fun _ h9 => h9) rfl hin rfl (by decide +kernel) (kk_nar1 hdl) (kk_fit1 hdl) (Nat.le_of_ble_eq_true rfl) d_Prm_init_46 (fun H locs hP hz1 hS => ?_)
  have hz : H.size = sz + 4 := hz1.trans hz
  obtain ⟨w16, hw16⟩ : ∃ z : mm_M, z = mm_up w14 a (.inr (8, [.int iss, .ref sz, .int (nI 0), .ref (sz + 1), .ref (sz + 2), .int (nI dl), .int (nI 1), .int (nI 1)])) := ⟨_, rfl⟩
  have hP : mm_P B D kc w16 H := by rw [hw16]; exact hP
  have fr16 : ∀ j, j ≠ a → w16 j = w14 j := fun j h9 => by rw [hw16]; exact mm_un h9
  have fa16 : w16 a = some (.inr (8, [.int iss, .ref sz, .int (nI 0), .ref (sz + 1), .ref (sz + 2), .int (nI dl), .int (nI 1), .int (nI 1)])) := by rw [hw16]; exact mm_us _ _ _
  exact W.vret hx hb hr (fun t ht hW => ⟨⟨(w16, sz + 4), rfl, ⟨mm_e5 fa16 ((fr16 _ (by omega)).trans ((fr14 _ (by omega)).trans ((fr12 _ (by omega)).trans ((fr11 _ (by omega)).trans ((fr10 _ (by omega)).trans ((fr8 _ (by omega) (by omega)).trans ((fr6 _ (by omega)).trans ((fr5 _ (by omega)).trans ((fr3 _ (by omega)).trans (fa2_1)))))))))) ((fr16 _ (by omega)).trans (fa14)) ((fr16 _ (by omega)).trans ((fr14 _ (by omega)).trans ((fr12 _ (by omega)).trans ((fr11 _ (by omega)).trans ((fr10 _ (by omega)).trans (fa8_0)))))) ((fr16 _ (by omega)).trans ((fr14 _ (by omega)).trans ((fr12 _ (by omega)).trans ((fr11 _ (by omega)).trans ((fr10 _ (by omega)).trans (fa8_1)))))) (fun j g0 g1 g2 g3 g4 => (fr16 j g0).trans ((fr14 j g2).trans ((fr12 j g0).trans ((fr11 j g0).trans ((fr10 j g0).trans ((fr8 j g3 g4).trans ((fr6 j g3).trans ((fr5 j g0).trans ((fr3 j g2).trans (fr2 j g0 g1)))))))))), rfl⟩, by rw [ht]; exact hP, by rw [ht]; exact hz⟩, hS.F ht⟩) hS.2.2 d_Prm_init_49
theorem d_Prm_addSubject_0 : decode k_Prm_addSubject 0 = .ok (.aload_n 0, 1) := by decide +kernel
theorem d_Prm_addSubject_1 : decode k_Prm_addSubject 1 = .ok (.getfield 24, 3) := by decide +kernel
theorem d_Prm_addSubject_4 : decode k_Prm_addSubject 4 = .ok (.iconst 3, 1) := by decide +kernel
theorem d_Prm_addSubject_5 : decode k_Prm_addSubject 5 = .ok (.if_icmp .ge 23, 3) := by decide +kernel
theorem d_Prm_addSubject_8 : decode k_Prm_addSubject 8 = .ok (.aload_n 0, 1) := by decide +kernel
theorem d_Prm_addSubject_9 : decode k_Prm_addSubject 9 = .ok (.getfield 9, 3) := by decide +kernel
theorem d_Prm_addSubject_12 : decode k_Prm_addSubject 12 = .ok (.aload_n 0, 1) := by decide +kernel
theorem d_Prm_addSubject_13 : decode k_Prm_addSubject 13 = .ok (.getfield 24, 3) := by decide +kernel
theorem d_Prm_addSubject_16 : decode k_Prm_addSubject 16 = .ok (.iload_n 1, 1) := by decide +kernel
theorem d_Prm_addSubject_17 : decode k_Prm_addSubject 17 = .ok (.iastore, 1) := by decide +kernel
theorem d_Prm_addSubject_18 : decode k_Prm_addSubject 18 = .ok (.aload_n 0, 1) := by decide +kernel
theorem d_Prm_addSubject_19 : decode k_Prm_addSubject 19 = .ok (.dup, 1) := by decide +kernel
theorem d_Prm_addSubject_20 : decode k_Prm_addSubject 20 = .ok (.getfield 24, 3) := by decide +kernel
theorem d_Prm_addSubject_23 : decode k_Prm_addSubject 23 = .ok (.iconst 1, 1) := by decide +kernel
theorem d_Prm_addSubject_24 : decode k_Prm_addSubject 24 = .ok (.iadd, 1) := by decide +kernel
theorem d_Prm_addSubject_25 : decode k_Prm_addSubject 25 = .ok (.putfield 24, 3) := by decide +kernel
theorem d_Prm_addSubject_28 : decode k_Prm_addSubject 28 = .ok (.return_, 1) := by decide +kernel
set_option maxHeartbeats 4000000 in
set_option maxRecDepth 100000 in
theorem c_Prm_addSubject (l : Launch) {B : Nat} {D : va_G} {cI cZ cQ : ClassId} {w : mm_M} {sz : Nat} {a tm ar tg gn dl mn nd s9 : Nat} {iss : Int32} {g : Nat → Nat} (h_0 : w a = some (.inr (8, [.int iss, .ref tm, .int (nI gn), .ref ar, .ref tg, .int (nI dl), .int (nI mn), .int (nI nd)]))) (h_1 : w ar = some (.inl (cI, 3, .inl (fun i => nI (g i))))) (hm : mn < 3) (hne : a ≠ ar) : Met l y_Prm_addSubject ws_Prm_addSubject (kk_rm 0 0 0) (kk_Pc B D cI cZ cQ [.ref a, .int (nI s9)] w sz) (kk_Qv B D (fun w' sz' => w' = mm_up (mm_up w a (.inr (8, [.int iss, .ref tm, .int (nI gn), .ref ar, .ref tg, .int (nI dl), .int (nI (mn + 1)), .int (nI nd)]))) ar (.inl (cI, 3, .inl (fun i => nI ((va_up g mn s9) i)))) ∧ sz' = sz)) 0 0 (fun q => B ≤ q) := by
  refine Met.ofW (cc := k_Prm_addSubject) (maxL := 2) (ret := none) (by decide) rfl ?_
  intro p e s m args below meth c s₁ BB hml hv
  obtain ⟨rfl, hK, hP, hz, hBz⟩ := hv
  have hx := BB.exec
  have hb := BB.bytes
  have hr := BB.returns
  have hts := atoms_spec (ws := ws_Prm_addSubject) BB.pre
  have hown : s.vm.findClass "DelegationClosure$Permission" = some m.cls := findClass_of_methodNamed BB.named
  have hlocks := BB.notSynchronized
  have hS : mm_S B s.heap s.heap [] := va_S.rf
  have hl := lv_entry ([.ref a, .int (nI s9)]) (n := 2) (Nat.le_of_ble_eq_true rfl)
  rw [lg_entry_eq]
  generalize (lg_sl ([.ref a, .int (nI s9)]) ++ List.replicate (2 - (lg_sl ([.ref a, .int (nI s9)])).length) Slot.unset).toArray = ls at hl ⊢
  have hl : lv_has ls 2 [(0, .ref a), (1, .int (nI s9))] := hl
  refine lv_aload_n hx hb d_Prm_addSubject_0 rfl (lv_at hl 0 rfl) ?_
  refine mm_get (D := D) (C := n_Prm) (T := T_Prm) (N := 8) (v := .int (nI mn)) hx hb hts lay_Prm hown hK.1 hP h_0 rfl 6 (by decide) (hts _ (List.mem_cons_of_mem _ wd_238)) (fun _ h9 => h9) rfl d_Prm_addSubject_1 ?_
  refine lv_iconst (v := nI 3) hx hb d_Prm_addSubject_4 (by decide) ?_
  refine lv_icmp_ge (tgt := 28) hx hb d_Prm_addSubject_5 (by decide) (fun cc1 => ?_) (fun cc1 => ?_)
  · have cc1 : 3 ≤ mn := (nI_leI (by omega) (by omega)).mp cc1
    exact absurd cc1 (by omega)
  · have cc1 : ¬ (3 ≤ mn) := fun q => cc1 ((nI_leI (by omega) (by omega)).mpr q)
    refine lv_aload_n hx hb d_Prm_addSubject_8 rfl (lv_at hl 0 rfl) ?_
    refine mm_get (D := D) (C := n_Prm) (T := T_Prm) (N := 8) (v := .ref ar) hx hb hts lay_Prm hown hK.1 hP h_0 rfl 3 (by decide) (hts _ (List.mem_cons_of_mem _ wd_228)) (fun _ h9 => h9) rfl d_Prm_addSubject_9 ?_
    refine lv_aload_n hx hb d_Prm_addSubject_12 rfl (lv_at hl 0 rfl) ?_
    refine mm_get (D := D) (C := n_Prm) (T := T_Prm) (N := 8) (v := .int (nI mn)) hx hb hts lay_Prm hown hK.1 hP h_0 rfl 6 (by decide) (hts _ (List.mem_cons_of_mem _ wd_238)) (fun _ h9 => h9) rfl d_Prm_addSubject_13 ?_
    refine lv_iload_n hx hb d_Prm_addSubject_16 rfl (lv_at hl 1 rfl) ?_
    refine mm_iast hx hb hK.1 hP hS 0 h_1 rfl mn rfl (by omega) (by decide) d_Prm_addSubject_17 (fun H locs hP hz1 hS => ?_)
    rw [show upd (fun i => nI (g i)) mn (nI s9) = fun i => nI ((va_up g mn s9) i) from kk_upn _ _ _] at hP
    have hz : H.size = sz := hz1.trans hz
    obtain ⟨w2, hw2⟩ : ∃ z : mm_M, z = mm_up w ar (.inl (cI, 3, .inl (fun i => nI ((va_up g mn s9) i)))) := ⟨_, rfl⟩
    have hP : mm_P B D kc w2 H := by rw [hw2]; exact hP
    have fr2 : ∀ j, j ≠ ar → w2 j = w j := fun j h9 => by rw [hw2]; exact mm_un h9
    have fa2 : w2 ar = some (.inl (cI, 3, .inl (fun i => nI ((va_up g mn s9) i)))) := by rw [hw2]; exact mm_us _ _ _
    refine lv_aload_n hx hb d_Prm_addSubject_18 rfl (lv_at hl 0 rfl) ?_
    refine lv_dup hx hb d_Prm_addSubject_19 rfl ?_
    have f3 := (fr2 _ hne).trans (h_0)
    refine mm_get (D := D) (C := n_Prm) (T := T_Prm) (N := 8) (v := .int (nI mn)) hx hb hts lay_Prm hown hK.1 hP f3 rfl 6 (by decide) (hts _ (List.mem_cons_of_mem _ wd_238)) (fun _ h9 => h9) rfl d_Prm_addSubject_20 ?_
    refine lv_iconst (v := nI 1) hx hb d_Prm_addSubject_23 (by decide) ?_
    refine lv_iadd hx hb d_Prm_addSubject_24 ?_
    refine kk_top (nI_add _ _) ?_
    refine mm_put (D := D) (C := n_Prm) (T := T_Prm) (N := 8) (v := .int (nI (mn + 1))) (ty := .int) hx hb hts lay_Prm t_Prm ty_Prm nm_Prm hown hK.1 hP hS f3 rfl 6 (by decide) (hts _ (List.mem_cons_of_mem _ wd_238)) (fun _ h9 => h9) rfl (by decide +kernel) rfl rfl (Nat.le_of_ble_eq_true rfl) d_Prm_addSubject_25 (fun H locs hP hz1 hS => ?_)
    have hz : H.size = sz := hz1.trans hz
    obtain ⟨w4, hw4⟩ : ∃ z : mm_M, z = mm_up w2 a (.inr (8, [.int iss, .ref tm, .int (nI gn), .ref ar, .ref tg, .int (nI dl), .int (nI (mn + 1)), .int (nI nd)])) := ⟨_, rfl⟩
    have hP : mm_P B D kc w4 H := by rw [hw4]; exact hP
    have fr4 : ∀ j, j ≠ a → w4 j = w2 j := fun j h9 => by rw [hw4]; exact mm_un h9
    have fa4 : w4 a = some (.inr (8, [.int iss, .ref tm, .int (nI gn), .ref ar, .ref tg, .int (nI dl), .int (nI (mn + 1)), .int (nI nd)])) := by rw [hw4]; exact mm_us _ _ _
    exact W.vret hx hb hr (fun t ht hW => ⟨⟨(w4, sz), rfl, ⟨mm_e2 fa4 ((fr4 _ hne.symm).trans (fa2)) (fun j g0 g1 => (fr4 j g0).trans (fr2 j g1)), rfl⟩, by rw [ht]; exact hP, by rw [ht]; exact hz⟩, hS.F ht⟩) hS.2.2 d_Prm_addSubject_28
theorem d_Reg_init_0 : decode k_Reg_init 0 = .ok (.aload_n 0, 1) := by decide +kernel
theorem d_Reg_init_1 : decode k_Reg_init 1 = .ok (.invokespecial 3, 3) := by decide +kernel
theorem d_Reg_init_4 : decode k_Reg_init 4 = .ok (.aload_n 0, 1) := by decide +kernel
theorem d_Reg_init_5 : decode k_Reg_init 5 = .ok (.bipush 24, 2) := by decide +kernel
theorem d_Reg_init_7 : decode k_Reg_init 7 = .ok (.anewarray 9, 3) := by decide +kernel
theorem d_Reg_init_10 : decode k_Reg_init 10 = .ok (.putfield 11, 3) := by decide +kernel
theorem d_Reg_init_13 : decode k_Reg_init 13 = .ok (.aload_n 0, 1) := by decide +kernel
theorem d_Reg_init_14 : decode k_Reg_init 14 = .ok (.iconst 0, 1) := by decide +kernel
theorem d_Reg_init_15 : decode k_Reg_init 15 = .ok (.putfield 17, 3) := by decide +kernel
theorem d_Reg_init_18 : decode k_Reg_init 18 = .ok (.return_, 1) := by decide +kernel
set_option maxHeartbeats 4000000 in
set_option maxRecDepth 100000 in
theorem c_Reg_init (l : Launch) {B : Nat} {D : va_G} {cI cZ cQ : ClassId} {w : mm_M} {sz : Nat} {a : Nat} (h_0 : w a = some (.inr (1, [.null, .int 0]))) (hasz : a < sz) : Met l y_Reg_init ws_Reg_init (kk_rm 1 1 24) (kk_Pc B D cI cZ cQ [.ref a] w sz) (kk_Qv B D (fun w' sz' => w' = mm_up (mm_up w a (.inr (1, [.ref sz, .int (nI 0)]))) sz (.inl (cQ, 24, .inr (.inr (.inr (.inr (fun _ => none)))))) ∧ sz' = sz + 1)) 1 24 (fun q => B ≤ q) := by
  refine Met.ofW (cc := k_Reg_init) (maxL := 1) (ret := none) (by decide) rfl ?_
  intro p e s m args below meth c s₁ BB hml hv
  obtain ⟨rfl, hK, hP, hz, hBz⟩ := hv
  have hx := BB.exec
  have hb := BB.bytes
  have hr := BB.returns
  have hts := atoms_spec (ws := ws_Reg_init) BB.pre
  have hown : s.vm.findClass "DelegationClosure$Register" = some m.cls := findClass_of_methodNamed BB.named
  have hlocks := BB.notSynchronized
  have hin : meth.name = "<init>" := (name_of_methodNamed BB.named BB.method).1
  have hS : mm_S B s.heap s.heap [] := va_S.rf
  have hl := lv_entry ([.ref a]) (n := 1) (Nat.le_of_ble_eq_true rfl)
  rw [lg_entry_eq]
  generalize (lg_sl ([.ref a]) ++ List.replicate (1 - (lg_sl ([.ref a])).length) Slot.unset).toArray = ls at hl ⊢
  have hl : lv_has ls 1 [(0, .ref a)] := hl
  refine lv_aload_n hx hb d_Reg_init_0 rfl (lv_at hl 0 rfl) ?_
  refine W.objInit hx hb hown (hts _ (List.mem_cons_of_mem _ wd_28)) (hts _ (List.mem_cons_of_mem _ wd_21)) (hts _ (List.mem_cons_of_mem _ wd_objcode)) rfl (by rw [hml]; exact hl.1) rfl d_Reg_init_1 (Nat.le_of_ble_eq_true rfl) (Nat.le_of_ble_eq_true rfl) ?_
  refine W.eq (g2 := F0 m 4 ls []) rfl ?_
  refine lv_aload_n hx hb d_Reg_init_4 rfl (lv_at hl 0 rfl) ?_
  refine lv_bipush (v := nI 24) hx hb d_Reg_init_5 (by decide) ?_
  refine mm_newq (C := "DelegationClosure$Certificate") (cA := cQ) (N' := 24) (h := sz) hx hb hown (hts _ (List.mem_cons_of_mem _ wd_29)) hK.2.2.1 (hK.1.2 2 _ rfl).2 hP hS (by decide) (by decide +kernel) (by decide) (Nat.le_of_ble_eq_true rfl) (Nat.le_of_ble_eq_true rfl) hz (by omega) d_Reg_init_7 (fun H hP hz1 hS => ?_)
  have hz : H.size = sz + 1 := hz1
  obtain ⟨w1, hw1⟩ : ∃ z : mm_M, z = mm_up w sz (.inl (cQ, 24, .inr (.inr (.inr (.inr (fun _ => none)))))) := ⟨_, rfl⟩
  have hP : mm_P B D kc w1 H := by rw [hw1]; exact hP
  have fr1 : ∀ j, j ≠ sz → w1 j = w j := fun j h9 => by rw [hw1]; exact mm_un h9
  have fa1 : w1 sz = some (.inl (cQ, 24, .inr (.inr (.inr (.inr (fun _ => none)))))) := by rw [hw1]; exact mm_us _ _ _
  have f2 := (fr1 _ (by omega)).trans (h_0)
  refine mm_putF (D := D) (C := n_Reg) (T := T_Reg) (N := 2) (v := .ref sz) (ty := (.array (.object "DelegationClosure$Certificate"))) hx hb hts lay_Reg t_Reg ty_Reg nm_Reg hown hK.1 hP hS f2 rfl 0 (by decide) (hts _ (List.mem_cons_of_mem _ wd_31)) (fun _ h9 => h9) rfl hin rfl (by decide +kernel) rfl rfl (Nat.le_of_ble_eq_true rfl) d_Reg_init_10 (fun H locs hP hz1 hS => ?_)
  have hz : H.size = sz + 1 := hz1.trans hz
  obtain ⟨w3, hw3⟩ : ∃ z : mm_M, z = mm_up w1 a (.inr (1, [.ref sz, .int 0])) := ⟨_, rfl⟩
  have hP : mm_P B D kc w3 H := by rw [hw3]; exact hP
  have fr3 : ∀ j, j ≠ a → w3 j = w1 j := fun j h9 => by rw [hw3]; exact mm_un h9
  have fa3 : w3 a = some (.inr (1, [.ref sz, .int 0])) := by rw [hw3]; exact mm_us _ _ _
  refine lv_aload_n hx hb d_Reg_init_13 rfl (lv_at hl 0 rfl) ?_
  refine lv_iconst (v := nI 0) hx hb d_Reg_init_14 (by decide) ?_
  refine mm_put (D := D) (C := n_Reg) (T := T_Reg) (N := 2) (v := .int (nI 0)) (ty := .int) hx hb hts lay_Reg t_Reg ty_Reg nm_Reg hown hK.1 hP hS fa3 rfl 1 (by decide) (hts _ (List.mem_cons_of_mem _ wd_32)) (fun _ h9 => h9) rfl (by decide +kernel) rfl rfl (Nat.le_of_ble_eq_true rfl) d_Reg_init_15 (fun H locs hP hz1 hS => ?_)
  have hz : H.size = sz + 1 := hz1.trans hz
  obtain ⟨w4, hw4⟩ : ∃ z : mm_M, z = mm_up w3 a (.inr (1, [.ref sz, .int (nI 0)])) := ⟨_, rfl⟩
  have hP : mm_P B D kc w4 H := by rw [hw4]; exact hP
  have fr4 : ∀ j, j ≠ a → w4 j = w3 j := fun j h9 => by rw [hw4]; exact mm_un h9
  have fa4 : w4 a = some (.inr (1, [.ref sz, .int (nI 0)])) := by rw [hw4]; exact mm_us _ _ _
  exact W.vret hx hb hr (fun t ht hW => ⟨⟨(w4, sz + 1), rfl, ⟨mm_e2 fa4 ((fr4 _ (by omega)).trans ((fr3 _ (by omega)).trans (fa1))) (fun j g0 g1 => (fr4 j g0).trans ((fr3 j g0).trans (fr1 j g1))), rfl⟩, by rw [ht]; exact hP, by rw [ht]; exact hz⟩, hS.F ht⟩) hS.2.2 d_Reg_init_18
theorem d_Reg_isFull_0 : decode k_Reg_isFull 0 = .ok (.aload_n 0, 1) := by decide +kernel
theorem d_Reg_isFull_1 : decode k_Reg_isFull 1 = .ok (.getfield 17, 3) := by decide +kernel
theorem d_Reg_isFull_4 : decode k_Reg_isFull 4 = .ok (.bipush 24, 2) := by decide +kernel
theorem d_Reg_isFull_6 : decode k_Reg_isFull 6 = .ok (.if_icmp .lt 7, 3) := by decide +kernel
theorem d_Reg_isFull_9 : decode k_Reg_isFull 9 = .ok (.iconst 1, 1) := by decide +kernel
theorem d_Reg_isFull_10 : decode k_Reg_isFull 10 = .ok (.goto 4, 3) := by decide +kernel
theorem d_Reg_isFull_13 : decode k_Reg_isFull 13 = .ok (.iconst 0, 1) := by decide +kernel
theorem d_Reg_isFull_14 : decode k_Reg_isFull 14 = .ok (.ireturn, 1) := by decide +kernel
set_option maxHeartbeats 4000000 in
set_option maxRecDepth 100000 in
theorem c_Reg_isFull (l : Launch) {B : Nat} {D : va_G} {cI cZ cQ : ClassId} {w : mm_M} {sz : Nat} {a ar n : Nat} (h_0 : w a = some (.inr (1, [.ref ar, .int (nI n)]))) (hn : n ≤ 24) : Met l y_Reg_isFull ws_Reg_isFull (kk_rm 0 0 0) (kk_Pc B D cI cZ cQ [.ref a] w sz) (vp_Si (fun r => r = nI (if 24 ≤ n then 1 else 0))) 0 0 (fun _ => False) := by
  refine Met.ofW (cc := k_Reg_isFull) (maxL := 1) (ret := (some .boolean)) (by decide) rfl ?_
  intro p e s m args below meth c s₁ BB hml hv
  obtain ⟨rfl, hK, hP, hz, hBz⟩ := hv
  have hx := BB.exec
  have hb := BB.bytes
  have hr := BB.returns
  have hts := atoms_spec (ws := ws_Reg_isFull) BB.pre
  have hown : s.vm.findClass "DelegationClosure$Register" = some m.cls := findClass_of_methodNamed BB.named
  have hlocks := BB.notSynchronized
  have hS : mm_S B s.heap s.heap [] := va_S.rf
  have hl := lv_entry ([.ref a]) (n := 1) (Nat.le_of_ble_eq_true rfl)
  rw [lg_entry_eq]
  generalize (lg_sl ([.ref a]) ++ List.replicate (1 - (lg_sl ([.ref a])).length) Slot.unset).toArray = ls at hl ⊢
  have hl : lv_has ls 1 [(0, .ref a)] := hl
  refine lv_aload_n hx hb d_Reg_isFull_0 rfl (lv_at hl 0 rfl) ?_
  refine mm_get (D := D) (C := n_Reg) (T := T_Reg) (N := 2) (v := .int (nI n)) hx hb hts lay_Reg hown hK.1 hP h_0 rfl 1 (by decide) (hts _ (List.mem_cons_of_mem _ wd_32)) (fun _ h9 => h9) rfl d_Reg_isFull_1 ?_
  refine lv_bipush (v := nI 24) hx hb d_Reg_isFull_4 (by decide) ?_
  refine lv_icmp_lt (tgt := 13) hx hb d_Reg_isFull_6 (by decide) (fun cc1 => ?_) (fun cc1 => ?_)
  · have cc1 : n < 24 := (nI_ltI (by omega) (by omega)).mp cc1
    refine lv_iconst (v := nI 0) hx hb d_Reg_isFull_13 (by decide) ?_
    exact W.zret hx hb hr rfl (fun t ht hW => ⟨_, rfl, kk_iff (by omega), ht⟩) (fun q hq => by cases hq) d_Reg_isFull_14
  · have cc1 : ¬ (n < 24) := fun q => cc1 ((nI_ltI (by omega) (by omega)).mpr q)
    refine lv_iconst (v := nI 1) hx hb d_Reg_isFull_9 (by decide) ?_
    refine lv_goto (tgt := 14) hx hb d_Reg_isFull_10 (by decide) ?_
    exact W.zret hx hb hr rfl (fun t ht hW => ⟨_, rfl, kk_ift (by omega), ht⟩) (fun q hq => by cases hq) d_Reg_isFull_14
theorem d_Reg_add_0 : decode k_Reg_add 0 = .ok (.aload_n 0, 1) := by decide +kernel
theorem d_Reg_add_1 : decode k_Reg_add 1 = .ok (.invokevirtual 21, 3) := by decide +kernel
theorem d_Reg_add_4 : decode k_Reg_add 4 = .ok (.ifCond .eq 5, 3) := by decide +kernel
theorem d_Reg_add_7 : decode k_Reg_add 7 = .ok (.iconst (-1), 1) := by decide +kernel
theorem d_Reg_add_8 : decode k_Reg_add 8 = .ok (.ireturn, 1) := by decide +kernel
theorem d_Reg_add_9 : decode k_Reg_add 9 = .ok (.aload_n 0, 1) := by decide +kernel
theorem d_Reg_add_10 : decode k_Reg_add 10 = .ok (.getfield 11, 3) := by decide +kernel
theorem d_Reg_add_13 : decode k_Reg_add 13 = .ok (.aload_n 0, 1) := by decide +kernel
theorem d_Reg_add_14 : decode k_Reg_add 14 = .ok (.getfield 17, 3) := by decide +kernel
theorem d_Reg_add_17 : decode k_Reg_add 17 = .ok (.aload_n 1, 1) := by decide +kernel
theorem d_Reg_add_18 : decode k_Reg_add 18 = .ok (.aastore, 1) := by decide +kernel
theorem d_Reg_add_19 : decode k_Reg_add 19 = .ok (.aload_n 0, 1) := by decide +kernel
theorem d_Reg_add_20 : decode k_Reg_add 20 = .ok (.dup, 1) := by decide +kernel
theorem d_Reg_add_21 : decode k_Reg_add 21 = .ok (.getfield 17, 3) := by decide +kernel
theorem d_Reg_add_24 : decode k_Reg_add 24 = .ok (.iconst 1, 1) := by decide +kernel
theorem d_Reg_add_25 : decode k_Reg_add 25 = .ok (.iadd, 1) := by decide +kernel
theorem d_Reg_add_26 : decode k_Reg_add 26 = .ok (.putfield 17, 3) := by decide +kernel
theorem d_Reg_add_29 : decode k_Reg_add 29 = .ok (.aload_n 0, 1) := by decide +kernel
theorem d_Reg_add_30 : decode k_Reg_add 30 = .ok (.getfield 17, 3) := by decide +kernel
theorem d_Reg_add_33 : decode k_Reg_add 33 = .ok (.iconst 1, 1) := by decide +kernel
theorem d_Reg_add_34 : decode k_Reg_add 34 = .ok (.isub, 1) := by decide +kernel
theorem d_Reg_add_35 : decode k_Reg_add 35 = .ok (.ireturn, 1) := by decide +kernel
set_option maxHeartbeats 4000000 in
set_option maxRecDepth 100000 in
theorem c_Reg_add7 (l : Launch) {B : Nat} {D : va_G} {cI cZ cQ : ClassId} {w : mm_M} {sz : Nat} {a ar n cc : Nat} {f : Nat → Option Nat} {xs : List Value} (h_0 : w a = some (.inr (1, [.ref ar, .int (nI n)]))) (h_1 : w ar = some (.inl (cQ, 24, .inr (.inr (.inr (.inr f)))))) (h_2 : w cc = some (.inr (7, xs))) (hn : n < 24) (hne0 : a ≠ ar) : Met l y_Reg_add ws_Reg_add (kk_rm 1 0 0) (kk_Pc B D cI cZ cQ [.ref a, .ref cc] w sz) (kk_Qi B D (fun r w' sz' => r = nI n ∧ w' = mm_up (mm_up w a (.inr (1, [.ref ar, .int (nI (n + 1))]))) ar (.inl (cQ, 24, .inr (.inr (.inr (.inr (va_up f n (some cc))))))) ∧ sz' = sz)) 0 0 (fun q => B ≤ q) := by
  refine Met.ofW (cc := k_Reg_add) (maxL := 2) (ret := (some .int)) (by decide) rfl ?_
  intro p e s m args below meth c s₁ BB hml hv
  obtain ⟨rfl, hK, hP, hz, hBz⟩ := hv
  have hx := BB.exec
  have hb := BB.bytes
  have hr := BB.returns
  have hts := atoms_spec (ws := ws_Reg_add) BB.pre
  have hown : s.vm.findClass "DelegationClosure$Register" = some m.cls := findClass_of_methodNamed BB.named
  have hlocks := BB.notSynchronized
  have hS : mm_S B s.heap s.heap [] := va_S.rf
  have hl := lv_entry ([.ref a, .ref cc]) (n := 2) (Nat.le_of_ble_eq_true rfl)
  rw [lg_entry_eq]
  generalize (lg_sl ([.ref a, .ref cc]) ++ List.replicate (2 - (lg_sl ([.ref a, .ref cc])).length) Slot.unset).toArray = ls at hl ⊢
  have hl : lv_has ls 2 [(0, .ref a), (1, .ref cc)] := hl
  refine lv_aload_n hx hb d_Reg_add_0 rfl (lv_at hl 0 rfl) ?_
  refine vp_callSi (va_Run.run (va_runV (As := []) (rest := []) ⟨hx, hb, hml, hown, hts⟩ (c_Reg_isFull l h_0 (by omega)) (cwV 0 hts (gW_in (hd := [_, _, _, _, _]) (kk_5 wd_215 wd_162 wd_163 wd_2 cw_Reg_isFull)) rfl rfl rfl ⟨rfl, ds_Reg_isFull⟩ ⟨Nat.le_of_ble_eq_true rfl, Nat.le_of_ble_eq_true rfl⟩) (kk_preV hK hP hz hBz h_0 rfl) rfl rfl hl.1 rfl (lv_room (Nat.le_of_ble_eq_true rfl)) d_Reg_add_1 ⟨Nat.le_of_ble_eq_true rfl, Nat.le_of_ble_eq_true rfl⟩)) (fun r1 hr1 => ?_)
  subst hr1
  refine lv_if_eq (tgt := 9) hx hb d_Reg_add_4 (by decide) (fun cc2 => ?_) (fun cc2 => ?_)
  · have cc2 := kk_b0 cc2
    refine lv_aload_n hx hb d_Reg_add_9 rfl (lv_at hl 0 rfl) ?_
    refine mm_get (D := D) (C := n_Reg) (T := T_Reg) (N := 2) (v := .ref ar) hx hb hts lay_Reg hown hK.1 hP h_0 rfl 0 (by decide) (hts _ (List.mem_cons_of_mem _ wd_31)) (fun _ h9 => h9) rfl d_Reg_add_10 ?_
    refine lv_aload_n hx hb d_Reg_add_13 rfl (lv_at hl 0 rfl) ?_
    refine mm_get (D := D) (C := n_Reg) (T := T_Reg) (N := 2) (v := .int (nI n)) hx hb hts lay_Reg hown hK.1 hP h_0 rfl 1 (by decide) (hts _ (List.mem_cons_of_mem _ wd_32)) (fun _ h9 => h9) rfl d_Reg_add_14 ?_
    refine lv_aload_n hx hb d_Reg_add_17 rfl (lv_at hl 1 rfl) ?_
    refine mm_aast hx hb hK.1 hP hS 2 h_1 rfl (mm_any hK.1 hP h_2 rfl (hK.2.1 _ nw_728 rfl)) n rfl (by omega) (by decide) d_Reg_add_18 (fun H locs hP hz1 hS => ?_)
    have hz : H.size = sz := hz1.trans hz
    obtain ⟨w3, hw3⟩ : ∃ z : mm_M, z = mm_up w ar (.inl (cQ, 24, .inr (.inr (.inr (.inr (va_up f n (some cc))))))) := ⟨_, rfl⟩
    have hP : mm_P B D kc w3 H := by rw [hw3]; exact hP
    have fr3 : ∀ j, j ≠ ar → w3 j = w j := fun j h9 => by rw [hw3]; exact mm_un h9
    have fa3 : w3 ar = some (.inl (cQ, 24, .inr (.inr (.inr (.inr (va_up f n (some cc))))))) := by rw [hw3]; exact mm_us _ _ _
    refine lv_aload_n hx hb d_Reg_add_19 rfl (lv_at hl 0 rfl) ?_
    refine lv_dup hx hb d_Reg_add_20 rfl ?_
    have f4 := (fr3 _ hne0).trans (h_0)
    refine mm_get (D := D) (C := n_Reg) (T := T_Reg) (N := 2) (v := .int (nI n)) hx hb hts lay_Reg hown hK.1 hP f4 rfl 1 (by decide) (hts _ (List.mem_cons_of_mem _ wd_32)) (fun _ h9 => h9) rfl d_Reg_add_21 ?_
    refine lv_iconst (v := nI 1) hx hb d_Reg_add_24 (by decide) ?_
    refine lv_iadd hx hb d_Reg_add_25 ?_
    refine kk_top (nI_add _ _) ?_
    refine mm_put (D := D) (C := n_Reg) (T := T_Reg) (N := 2) (v := .int (nI (n + 1))) (ty := .int) hx hb hts lay_Reg t_Reg ty_Reg nm_Reg hown hK.1 hP hS f4 rfl 1 (by decide) (hts _ (List.mem_cons_of_mem _ wd_32)) (fun _ h9 => h9) rfl (by decide +kernel) rfl rfl (Nat.le_of_ble_eq_true rfl) d_Reg_add_26 (fun H locs hP hz1 hS => ?_)
    have hz : H.size = sz := hz1.trans hz
    obtain ⟨w5, hw5⟩ : ∃ z : mm_M, z = mm_up w3 a (.inr (1, [.ref ar, .int (nI (n + 1))])) := ⟨_, rfl⟩
    have hP : mm_P B D kc w5 H := by rw [hw5]; exact hP
    have fr5 : ∀ j, j ≠ a → w5 j = w3 j := fun j h9 => by rw [hw5]; exact mm_un h9
    have fa5 : w5 a = some (.inr (1, [.ref ar, .int (nI (n + 1))])) := by rw [hw5]; exact mm_us _ _ _
    refine lv_aload_n hx hb d_Reg_add_29 rfl (lv_at hl 0 rfl) ?_
    refine mm_get (D := D) (C := n_Reg) (T := T_Reg) (N := 2) (v := .int (nI (n + 1))) hx hb hts lay_Reg hown hK.1 hP fa5 rfl 1 (by decide) (hts _ (List.mem_cons_of_mem _ wd_32)) (fun _ h9 => h9) rfl d_Reg_add_30 ?_
    refine lv_iconst (v := nI 1) hx hb d_Reg_add_33 (by decide) ?_
    refine lv_isub hx hb d_Reg_add_34 ?_
    refine kk_top (pk_sub (by omega)) ?_
    exact W.iret hx hb hr (fun t ht hW => ⟨⟨_, (w5, sz), rfl, ⟨rfl, mm_e2 fa5 ((fr5 _ hne0.symm).trans (fa3)) (fun j g0 g1 => (fr5 j g0).trans (fr3 j g1)), rfl⟩, by rw [ht]; exact hP, by rw [ht]; exact hz⟩, hS.F ht⟩) hS.2.2 d_Reg_add_35
  · have cc2 := kk_b1 cc2
    exact absurd cc2 (by omega)
set_option maxHeartbeats 4000000 in
set_option maxRecDepth 100000 in
theorem c_Reg_add8 (l : Launch) {B : Nat} {D : va_G} {cI cZ cQ : ClassId} {w : mm_M} {sz : Nat} {a ar n cc : Nat} {f : Nat → Option Nat} {xs : List Value} (h_0 : w a = some (.inr (1, [.ref ar, .int (nI n)]))) (h_1 : w ar = some (.inl (cQ, 24, .inr (.inr (.inr (.inr f)))))) (h_2 : w cc = some (.inr (8, xs))) (hn : n < 24) (hne0 : a ≠ ar) : Met l y_Reg_add ws_Reg_add (kk_rm 1 0 0) (kk_Pc B D cI cZ cQ [.ref a, .ref cc] w sz) (kk_Qi B D (fun r w' sz' => r = nI n ∧ w' = mm_up (mm_up w a (.inr (1, [.ref ar, .int (nI (n + 1))]))) ar (.inl (cQ, 24, .inr (.inr (.inr (.inr (va_up f n (some cc))))))) ∧ sz' = sz)) 0 0 (fun q => B ≤ q) := by
  refine Met.ofW (cc := k_Reg_add) (maxL := 2) (ret := (some .int)) (by decide) rfl ?_
  intro p e s m args below meth c s₁ BB hml hv
  obtain ⟨rfl, hK, hP, hz, hBz⟩ := hv
  have hx := BB.exec
  have hb := BB.bytes
  have hr := BB.returns
  have hts := atoms_spec (ws := ws_Reg_add) BB.pre
  have hown : s.vm.findClass "DelegationClosure$Register" = some m.cls := findClass_of_methodNamed BB.named
  have hlocks := BB.notSynchronized
  have hS : mm_S B s.heap s.heap [] := va_S.rf
  have hl := lv_entry ([.ref a, .ref cc]) (n := 2) (Nat.le_of_ble_eq_true rfl)
  rw [lg_entry_eq]
  generalize (lg_sl ([.ref a, .ref cc]) ++ List.replicate (2 - (lg_sl ([.ref a, .ref cc])).length) Slot.unset).toArray = ls at hl ⊢
  have hl : lv_has ls 2 [(0, .ref a), (1, .ref cc)] := hl
  refine lv_aload_n hx hb d_Reg_add_0 rfl (lv_at hl 0 rfl) ?_
  refine vp_callSi (va_Run.run (va_runV (As := []) (rest := []) ⟨hx, hb, hml, hown, hts⟩ (c_Reg_isFull l h_0 (by omega)) (cwV 0 hts (gW_in (hd := [_, _, _, _, _]) (kk_5 wd_215 wd_162 wd_163 wd_2 cw_Reg_isFull)) rfl rfl rfl ⟨rfl, ds_Reg_isFull⟩ ⟨Nat.le_of_ble_eq_true rfl, Nat.le_of_ble_eq_true rfl⟩) (kk_preV hK hP hz hBz h_0 rfl) rfl rfl hl.1 rfl (lv_room (Nat.le_of_ble_eq_true rfl)) d_Reg_add_1 ⟨Nat.le_of_ble_eq_true rfl, Nat.le_of_ble_eq_true rfl⟩)) (fun r1 hr1 => ?_)
  subst hr1
  refine lv_if_eq (tgt := 9) hx hb d_Reg_add_4 (by decide) (fun cc2 => ?_) (fun cc2 => ?_)
  · have cc2 := kk_b0 cc2
    refine lv_aload_n hx hb d_Reg_add_9 rfl (lv_at hl 0 rfl) ?_
    refine mm_get (D := D) (C := n_Reg) (T := T_Reg) (N := 2) (v := .ref ar) hx hb hts lay_Reg hown hK.1 hP h_0 rfl 0 (by decide) (hts _ (List.mem_cons_of_mem _ wd_31)) (fun _ h9 => h9) rfl d_Reg_add_10 ?_
    refine lv_aload_n hx hb d_Reg_add_13 rfl (lv_at hl 0 rfl) ?_
    refine mm_get (D := D) (C := n_Reg) (T := T_Reg) (N := 2) (v := .int (nI n)) hx hb hts lay_Reg hown hK.1 hP h_0 rfl 1 (by decide) (hts _ (List.mem_cons_of_mem _ wd_32)) (fun _ h9 => h9) rfl d_Reg_add_14 ?_
    refine lv_aload_n hx hb d_Reg_add_17 rfl (lv_at hl 1 rfl) ?_
    refine mm_aast hx hb hK.1 hP hS 2 h_1 rfl (mm_any hK.1 hP h_2 rfl (hK.2.1 _ nw_729 rfl)) n rfl (by omega) (by decide) d_Reg_add_18 (fun H locs hP hz1 hS => ?_)
    have hz : H.size = sz := hz1.trans hz
    obtain ⟨w3, hw3⟩ : ∃ z : mm_M, z = mm_up w ar (.inl (cQ, 24, .inr (.inr (.inr (.inr (va_up f n (some cc))))))) := ⟨_, rfl⟩
    have hP : mm_P B D kc w3 H := by rw [hw3]; exact hP
    have fr3 : ∀ j, j ≠ ar → w3 j = w j := fun j h9 => by rw [hw3]; exact mm_un h9
    have fa3 : w3 ar = some (.inl (cQ, 24, .inr (.inr (.inr (.inr (va_up f n (some cc))))))) := by rw [hw3]; exact mm_us _ _ _
    refine lv_aload_n hx hb d_Reg_add_19 rfl (lv_at hl 0 rfl) ?_
    refine lv_dup hx hb d_Reg_add_20 rfl ?_
    have f4 := (fr3 _ hne0).trans (h_0)
    refine mm_get (D := D) (C := n_Reg) (T := T_Reg) (N := 2) (v := .int (nI n)) hx hb hts lay_Reg hown hK.1 hP f4 rfl 1 (by decide) (hts _ (List.mem_cons_of_mem _ wd_32)) (fun _ h9 => h9) rfl d_Reg_add_21 ?_
    refine lv_iconst (v := nI 1) hx hb d_Reg_add_24 (by decide) ?_
    refine lv_iadd hx hb d_Reg_add_25 ?_
    refine kk_top (nI_add _ _) ?_
    refine mm_put (D := D) (C := n_Reg) (T := T_Reg) (N := 2) (v := .int (nI (n + 1))) (ty := .int) hx hb hts lay_Reg t_Reg ty_Reg nm_Reg hown hK.1 hP hS f4 rfl 1 (by decide) (hts _ (List.mem_cons_of_mem _ wd_32)) (fun _ h9 => h9) rfl (by decide +kernel) rfl rfl (Nat.le_of_ble_eq_true rfl) d_Reg_add_26 (fun H locs hP hz1 hS => ?_)
    have hz : H.size = sz := hz1.trans hz
    obtain ⟨w5, hw5⟩ : ∃ z : mm_M, z = mm_up w3 a (.inr (1, [.ref ar, .int (nI (n + 1))])) := ⟨_, rfl⟩
    have hP : mm_P B D kc w5 H := by rw [hw5]; exact hP
    have fr5 : ∀ j, j ≠ a → w5 j = w3 j := fun j h9 => by rw [hw5]; exact mm_un h9
    have fa5 : w5 a = some (.inr (1, [.ref ar, .int (nI (n + 1))])) := by rw [hw5]; exact mm_us _ _ _
    refine lv_aload_n hx hb d_Reg_add_29 rfl (lv_at hl 0 rfl) ?_
    refine mm_get (D := D) (C := n_Reg) (T := T_Reg) (N := 2) (v := .int (nI (n + 1))) hx hb hts lay_Reg hown hK.1 hP fa5 rfl 1 (by decide) (hts _ (List.mem_cons_of_mem _ wd_32)) (fun _ h9 => h9) rfl d_Reg_add_30 ?_
    refine lv_iconst (v := nI 1) hx hb d_Reg_add_33 (by decide) ?_
    refine lv_isub hx hb d_Reg_add_34 ?_
    refine kk_top (pk_sub (by omega)) ?_
    exact W.iret hx hb hr (fun t ht hW => ⟨⟨_, (w5, sz), rfl, ⟨rfl, mm_e2 fa5 ((fr5 _ hne0.symm).trans (fa3)) (fun j g0 g1 => (fr5 j g0).trans (fr3 j g1)), rfl⟩, by rw [ht]; exact hP, by rw [ht]; exact hz⟩, hS.F ht⟩) hS.2.2 d_Reg_add_35
  · have cc2 := kk_b1 cc2
    exact absurd cc2 (by omega)
