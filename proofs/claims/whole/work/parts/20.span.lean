theorem d_Spn_init_0 : decode k_Spn_init 0 = .ok (.aload_n 0, 1) := by decide +kernel
theorem d_Spn_init_1 : decode k_Spn_init 1 = .ok (.invokespecial 1, 3) := by decide +kernel
theorem d_Spn_init_4 : decode k_Spn_init 4 = .ok (.aload_n 0, 1) := by decide +kernel
theorem d_Spn_init_5 : decode k_Spn_init 5 = .ok (.iload_n 1, 1) := by decide +kernel
theorem d_Spn_init_6 : decode k_Spn_init 6 = .ok (.putfield 7, 3) := by decide +kernel
theorem d_Spn_init_9 : decode k_Spn_init 9 = .ok (.aload_n 0, 1) := by decide +kernel
theorem d_Spn_init_10 : decode k_Spn_init 10 = .ok (.iload_n 2, 1) := by decide +kernel
theorem d_Spn_init_11 : decode k_Spn_init 11 = .ok (.putfield 13, 3) := by decide +kernel
theorem d_Spn_init_14 : decode k_Spn_init 14 = .ok (.return_, 1) := by decide +kernel
set_option maxHeartbeats 4000000 in
set_option maxRecDepth 100000 in
theorem c_Spn_init (l : Launch) {B : Nat} {D : va_G} {cI cZ cQ : ClassId} {w : mm_M} {sz : Nat} {a : Nat} {u v lo hi : Int32} (h_0 : w a = some (.inr (6, [.int u, .int v]))) : Met l y_Spn_init ws_Spn_init (kk_rm 1 0 0) (kk_Pc B D cI cZ cQ [.ref a, .int lo, .int hi] w sz) (kk_Qv B D (fun w' sz' => w' = mm_up w a (.inr (6, [.int lo, .int hi])) ∧ sz' = sz)) 0 0 (fun q => B ≤ q) := by
  refine Met.ofW (cc := k_Spn_init) (maxL := 3) (ret := none) (by decide) rfl ?_
  intro p e s m args below meth c s₁ BB hml hv
  obtain ⟨rfl, hK, hP, hz, hBz⟩ := hv
  have hx := BB.exec
  have hb := BB.bytes
  have hr := BB.returns
  have hts := atoms_spec (ws := ws_Spn_init) BB.pre
  have hown : s.vm.findClass "DelegationClosure$Span" = some m.cls := findClass_of_methodNamed BB.named
  have hlocks := BB.notSynchronized
  have hin : meth.name = "<init>" := (name_of_methodNamed BB.named BB.method).1
  have hS : mm_S B s.heap s.heap [] := va_S.rf
  have hl := lv_entry ([.ref a, .int lo, .int hi]) (n := 3) (Nat.le_of_ble_eq_true rfl)
  rw [lg_entry_eq]
  generalize (lg_sl ([.ref a, .int lo, .int hi]) ++ List.replicate (3 - (lg_sl ([.ref a, .int lo, .int hi])).length) Slot.unset).toArray = ls at hl ⊢
  have hl : lv_has ls 3 [(0, .ref a), (1, .int lo), (2, .int hi)] := hl
  refine lv_aload_n hx hb d_Spn_init_0 rfl (lv_at hl 0 rfl) ?_
  refine W.objInit hx hb hown (hts _ (List.mem_cons_of_mem _ wd_88)) (hts _ (List.mem_cons_of_mem _ wd_21)) (hts _ (List.mem_cons_of_mem _ wd_objcode)) rfl (by rw [hml]; exact hl.1) rfl d_Spn_init_1 (Nat.le_of_ble_eq_true rfl) (Nat.le_of_ble_eq_true rfl) ?_
  refine W.eq (g2 := F0 m 4 ls []) rfl ?_
  refine lv_aload_n hx hb d_Spn_init_4 rfl (lv_at hl 0 rfl) ?_
  refine lv_iload_n hx hb d_Spn_init_5 rfl (lv_at hl 1 rfl) ?_
  refine mm_put (D := D) (C := n_Spn) (T := T_Spn) (N := 2) (v := .int lo) (ty := .int) hx hb hts lay_Spn t_Spn ty_Spn nm_Spn hown hK.1 hP hS h_0 rfl 0 (by decide) (hts _ (List.mem_cons_of_mem _ wd_89)) (fun _ h9 => h9) rfl (by decide +kernel) rfl rfl (Nat.le_of_ble_eq_true rfl) d_Spn_init_6 (fun H locs hP hz1 hS => ?_)
  have hz : H.size = sz := hz1.trans hz
  obtain ⟨w1, hw1⟩ : ∃ z : mm_M, z = mm_up w a (.inr (6, [.int lo, .int v])) := ⟨_, rfl⟩
  have hP : mm_P B D kc w1 H := by rw [hw1]; exact hP
  have fr1 : ∀ j, j ≠ a → w1 j = w j := fun j h9 => by rw [hw1]; exact mm_un h9
  have fa1 : w1 a = some (.inr (6, [.int lo, .int v])) := by rw [hw1]; exact mm_us _ _ _
  refine lv_aload_n hx hb d_Spn_init_9 rfl (lv_at hl 0 rfl) ?_
  refine lv_iload_n hx hb d_Spn_init_10 rfl (lv_at hl 2 rfl) ?_
  refine mm_put (D := D) (C := n_Spn) (T := T_Spn) (N := 2) (v := .int hi) (ty := .int) hx hb hts lay_Spn t_Spn ty_Spn nm_Spn hown hK.1 hP hS fa1 rfl 1 (by decide) (hts _ (List.mem_cons_of_mem _ wd_90)) (fun _ h9 => h9) rfl (by decide +kernel) rfl rfl (Nat.le_of_ble_eq_true rfl) d_Spn_init_11 (fun H locs hP hz1 hS => ?_)
  have hz : H.size = sz := hz1.trans hz
  obtain ⟨w2, hw2⟩ : ∃ z : mm_M, z = mm_up w1 a (.inr (6, [.int lo, .int hi])) := ⟨_, rfl⟩
  have hP : mm_P B D kc w2 H := by rw [hw2]; exact hP
  have fr2 : ∀ j, j ≠ a → w2 j = w1 j := fun j h9 => by rw [hw2]; exact mm_un h9
  have fa2 : w2 a = some (.inr (6, [.int lo, .int hi])) := by rw [hw2]; exact mm_us _ _ _
  exact W.vret hx hb hr (fun t ht hW => ⟨⟨(w2, sz), rfl, ⟨mm_e1 fa2 (fun j g0 => (fr2 j g0).trans (fr1 j g0)), rfl⟩, by rw [ht]; exact hP, by rw [ht]; exact hz⟩, hS.F ht⟩) hS.2.2 d_Spn_init_14
theorem d_Spn_set_0 : decode k_Spn_set 0 = .ok (.aload_n 0, 1) := by decide +kernel
theorem d_Spn_set_1 : decode k_Spn_set 1 = .ok (.iload_n 1, 1) := by decide +kernel
theorem d_Spn_set_2 : decode k_Spn_set 2 = .ok (.putfield 7, 3) := by decide +kernel
theorem d_Spn_set_5 : decode k_Spn_set 5 = .ok (.aload_n 0, 1) := by decide +kernel
theorem d_Spn_set_6 : decode k_Spn_set 6 = .ok (.iload_n 2, 1) := by decide +kernel
theorem d_Spn_set_7 : decode k_Spn_set 7 = .ok (.putfield 13, 3) := by decide +kernel
theorem d_Spn_set_10 : decode k_Spn_set 10 = .ok (.return_, 1) := by decide +kernel
set_option maxHeartbeats 4000000 in
set_option maxRecDepth 100000 in
theorem c_Spn_set (l : Launch) {B : Nat} {D : va_G} {cI cZ cQ : ClassId} {w : mm_M} {sz : Nat} {a : Nat} {u v lo hi : Int32} (h_0 : w a = some (.inr (6, [.int u, .int v]))) : Met l y_Spn_set ws_Spn_set (kk_rm 0 0 0) (kk_Pc B D cI cZ cQ [.ref a, .int lo, .int hi] w sz) (kk_Qv B D (fun w' sz' => w' = mm_up w a (.inr (6, [.int lo, .int hi])) ∧ sz' = sz)) 0 0 (fun q => B ≤ q) := by
  refine Met.ofW (cc := k_Spn_set) (maxL := 3) (ret := none) (by decide) rfl ?_
  intro p e s m args below meth c s₁ BB hml hv
  obtain ⟨rfl, hK, hP, hz, hBz⟩ := hv
  have hx := BB.exec
  have hb := BB.bytes
  have hr := BB.returns
  have hts := atoms_spec (ws := ws_Spn_set) BB.pre
  have hown : s.vm.findClass "DelegationClosure$Span" = some m.cls := findClass_of_methodNamed BB.named
  have hlocks := BB.notSynchronized
  have hS : mm_S B s.heap s.heap [] := va_S.rf
  have hl := lv_entry ([.ref a, .int lo, .int hi]) (n := 3) (Nat.le_of_ble_eq_true rfl)
  rw [lg_entry_eq]
  generalize (lg_sl ([.ref a, .int lo, .int hi]) ++ List.replicate (3 - (lg_sl ([.ref a, .int lo, .int hi])).length) Slot.unset).toArray = ls at hl ⊢
  have hl : lv_has ls 3 [(0, .ref a), (1, .int lo), (2, .int hi)] := hl
  refine lv_aload_n hx hb d_Spn_set_0 rfl (lv_at hl 0 rfl) ?_
  refine lv_iload_n hx hb d_Spn_set_1 rfl (lv_at hl 1 rfl) ?_
  refine mm_put (D := D) (C := n_Spn) (T := T_Spn) (N := 2) (v := .int lo) (ty := .int) hx hb hts lay_Spn t_Spn ty_Spn nm_Spn hown hK.1 hP hS h_0 rfl 0 (by decide) (hts _ (List.mem_cons_of_mem _ wd_89)) (fun _ h9 => h9) rfl (by decide +kernel) rfl rfl (Nat.le_of_ble_eq_true rfl) d_Spn_set_2 (fun H locs hP hz1 hS => ?_)
  have hz : H.size = sz := hz1.trans hz
  obtain ⟨w1, hw1⟩ : ∃ z : mm_M, z = mm_up w a (.inr (6, [.int lo, .int v])) := ⟨_, rfl⟩
  have hP : mm_P B D kc w1 H := by rw [hw1]; exact hP
  have fr1 : ∀ j, j ≠ a → w1 j = w j := fun j h9 => by rw [hw1]; exact mm_un h9
  have fa1 : w1 a = some (.inr (6, [.int lo, .int v])) := by rw [hw1]; exact mm_us _ _ _
  refine lv_aload_n hx hb d_Spn_set_5 rfl (lv_at hl 0 rfl) ?_
  refine lv_iload_n hx hb d_Spn_set_6 rfl (lv_at hl 2 rfl) ?_
  refine mm_put (D := D) (C := n_Spn) (T := T_Spn) (N := 2) (v := .int hi) (ty := .int) hx hb hts lay_Spn t_Spn ty_Spn nm_Spn hown hK.1 hP hS fa1 rfl 1 (by decide) (hts _ (List.mem_cons_of_mem _ wd_90)) (fun _ h9 => h9) rfl (by decide +kernel) rfl rfl (Nat.le_of_ble_eq_true rfl) d_Spn_set_7 (fun H locs hP hz1 hS => ?_)
  have hz : H.size = sz := hz1.trans hz
  obtain ⟨w2, hw2⟩ : ∃ z : mm_M, z = mm_up w1 a (.inr (6, [.int lo, .int hi])) := ⟨_, rfl⟩
  have hP : mm_P B D kc w2 H := by rw [hw2]; exact hP
  have fr2 : ∀ j, j ≠ a → w2 j = w1 j := fun j h9 => by rw [hw2]; exact mm_un h9
  have fa2 : w2 a = some (.inr (6, [.int lo, .int hi])) := by rw [hw2]; exact mm_us _ _ _
  exact W.vret hx hb hr (fun t ht hW => ⟨⟨(w2, sz), rfl, ⟨mm_e1 fa2 (fun j g0 => (fr2 j g0).trans (fr1 j g0)), rfl⟩, by rw [ht]; exact hP, by rw [ht]; exact hz⟩, hS.F ht⟩) hS.2.2 d_Spn_set_10
theorem d_Spn_contains_0 : decode k_Spn_contains 0 = .ok (.aload_n 0, 1) := by decide +kernel
theorem d_Spn_contains_1 : decode k_Spn_contains 1 = .ok (.getfield 7, 3) := by decide +kernel
theorem d_Spn_contains_4 : decode k_Spn_contains 4 = .ok (.iload_n 1, 1) := by decide +kernel
theorem d_Spn_contains_5 : decode k_Spn_contains 5 = .ok (.if_icmp .gt 15, 3) := by decide +kernel
theorem d_Spn_contains_8 : decode k_Spn_contains 8 = .ok (.iload_n 1, 1) := by decide +kernel
theorem d_Spn_contains_9 : decode k_Spn_contains 9 = .ok (.aload_n 0, 1) := by decide +kernel
theorem d_Spn_contains_10 : decode k_Spn_contains 10 = .ok (.getfield 13, 3) := by decide +kernel
theorem d_Spn_contains_13 : decode k_Spn_contains 13 = .ok (.if_icmp .gt 7, 3) := by decide +kernel
theorem d_Spn_contains_16 : decode k_Spn_contains 16 = .ok (.iconst 1, 1) := by decide +kernel
theorem d_Spn_contains_17 : decode k_Spn_contains 17 = .ok (.goto 4, 3) := by decide +kernel
theorem d_Spn_contains_20 : decode k_Spn_contains 20 = .ok (.iconst 0, 1) := by decide +kernel
theorem d_Spn_contains_21 : decode k_Spn_contains 21 = .ok (.ireturn, 1) := by decide +kernel
set_option maxHeartbeats 4000000 in
set_option maxRecDepth 100000 in
theorem c_Spn_contains (l : Launch) {B : Nat} {D : va_G} {cI cZ cQ : ClassId} {w : mm_M} {sz : Nat} {a : Nat} {u v x : Int32} (h_0 : w a = some (.inr (6, [.int u, .int v]))) : Met l y_Spn_contains ws_Spn_contains (kk_rm 0 0 0) (kk_Pc B D cI cZ cQ [.ref a, .int x] w sz) (vp_Si (fun r => r = nI (if ¬ x < u ∧ ¬ v < x then 1 else 0))) 0 0 (fun _ => False) := by
  refine Met.ofW (cc := k_Spn_contains) (maxL := 2) (ret := (some .boolean)) (by decide) rfl ?_
  intro p e s m args below meth c s₁ BB hml hv
  obtain ⟨rfl, hK, hP, hz, hBz⟩ := hv
  have hx := BB.exec
  have hb := BB.bytes
  have hr := BB.returns
  have hts := atoms_spec (ws := ws_Spn_contains) BB.pre
  have hown : s.vm.findClass "DelegationClosure$Span" = some m.cls := findClass_of_methodNamed BB.named
  have hlocks := BB.notSynchronized
  have hS : mm_S B s.heap s.heap [] := va_S.rf
  have hl := lv_entry ([.ref a, .int x]) (n := 2) (Nat.le_of_ble_eq_true rfl)
  rw [lg_entry_eq]
  generalize (lg_sl ([.ref a, .int x]) ++ List.replicate (2 - (lg_sl ([.ref a, .int x])).length) Slot.unset).toArray = ls at hl ⊢
  have hl : lv_has ls 2 [(0, .ref a), (1, .int x)] := hl
  refine lv_aload_n hx hb d_Spn_contains_0 rfl (lv_at hl 0 rfl) ?_
  refine mm_get (D := D) (C := n_Spn) (T := T_Spn) (N := 2) (v := .int u) hx hb hts lay_Spn hown hK.1 hP h_0 rfl 0 (by decide) (hts _ (List.mem_cons_of_mem _ wd_89)) (fun _ h9 => h9) rfl d_Spn_contains_1 ?_
  refine lv_iload_n hx hb d_Spn_contains_4 rfl (lv_at hl 1 rfl) ?_
  refine lv_icmp_gt (tgt := 20) hx hb d_Spn_contains_5 (by decide) (fun cc1 => ?_) (fun cc1 => ?_)
  · refine lv_iconst (v := nI 0) hx hb d_Spn_contains_20 (by decide) ?_
    exact W.zret hx hb hr rfl (fun t ht hW => ⟨_, rfl, by simp only [cc1, not_true_eq_false, not_false_eq_true, and_true, true_and, and_false, false_and, or_true, true_or, or_false, false_or, and_self, or_self, if_true, if_false, ite_true, ite_false, ↓reduceIte], ht⟩) (fun q hq => by cases hq) d_Spn_contains_21
  · refine lv_iload_n hx hb d_Spn_contains_8 rfl (lv_at hl 1 rfl) ?_
    refine lv_aload_n hx hb d_Spn_contains_9 rfl (lv_at hl 0 rfl) ?_
    refine mm_get (D := D) (C := n_Spn) (T := T_Spn) (N := 2) (v := .int v) hx hb hts lay_Spn hown hK.1 hP h_0 rfl 1 (by decide) (hts _ (List.mem_cons_of_mem _ wd_90)) (fun _ h9 => h9) rfl d_Spn_contains_10 ?_
    refine lv_icmp_gt (tgt := 20) hx hb d_Spn_contains_13 (by decide) (fun cc2 => ?_) (fun cc2 => ?_)
    · refine lv_iconst (v := nI 0) hx hb d_Spn_contains_20 (by decide) ?_
      exact W.zret hx hb hr rfl (fun t ht hW => ⟨_, rfl, by simp only [cc1, cc2, not_true_eq_false, not_false_eq_true, and_true, true_and, and_false, false_and, or_true, true_or, or_false, false_or, and_self, or_self, if_true, if_false, ite_true, ite_false, ↓reduceIte], ht⟩) (fun q hq => by cases hq) d_Spn_contains_21
    · refine lv_iconst (v := nI 1) hx hb d_Spn_contains_16 (by decide) ?_
      refine lv_goto (tgt := 21) hx hb d_Spn_contains_17 (by decide) ?_
      exact W.zret hx hb hr rfl (fun t ht hW => ⟨_, rfl, by simp only [cc1, cc2, not_true_eq_false, not_false_eq_true, and_true, true_and, and_false, false_and, or_true, true_or, or_false, false_or, and_self, or_self, if_true, if_false, ite_true, ite_false, ↓reduceIte], ht⟩) (fun q hq => by cases hq) d_Spn_contains_21
theorem d_Spn_copy_0 : decode k_Spn_copy 0 = .ok (.aload_n 0, 1) := by decide +kernel
theorem d_Spn_copy_1 : decode k_Spn_copy 1 = .ok (.aload_n 1, 1) := by decide +kernel
theorem d_Spn_copy_2 : decode k_Spn_copy 2 = .ok (.getfield 7, 3) := by decide +kernel
theorem d_Spn_copy_5 : decode k_Spn_copy 5 = .ok (.aload_n 1, 1) := by decide +kernel
theorem d_Spn_copy_6 : decode k_Spn_copy 6 = .ok (.getfield 13, 3) := by decide +kernel
theorem d_Spn_copy_9 : decode k_Spn_copy 9 = .ok (.invokevirtual 16, 3) := by decide +kernel
theorem d_Spn_copy_12 : decode k_Spn_copy 12 = .ok (.return_, 1) := by decide +kernel
set_option maxHeartbeats 4000000 in
set_option maxRecDepth 100000 in
theorem c_Spn_copy (l : Launch) {B : Nat} {D : va_G} {cI cZ cQ : ClassId} {w : mm_M} {sz : Nat} {a o : Nat} {u v p1 q1 : Int32} (h_0 : w a = some (.inr (6, [.int u, .int v]))) (h_1 : w o = some (.inr (6, [.int p1, .int q1]))) : Met l y_Spn_copy ws_Spn_copy (kk_rm 1 0 0) (kk_Pc B D cI cZ cQ [.ref a, .ref o] w sz) (kk_Qv B D (fun w' sz' => w' = mm_up w a (.inr (6, [.int p1, .int q1])) ∧ sz' = sz)) 0 0 (fun q => B ≤ q) := by
  refine Met.ofW (cc := k_Spn_copy) (maxL := 2) (ret := none) (by decide) rfl ?_
  intro p e s m args below meth c s₁ BB hml hv
  obtain ⟨rfl, hK, hP, hz, hBz⟩ := hv
  have hx := BB.exec
  have hb := BB.bytes
  have hr := BB.returns
  have hts := atoms_spec (ws := ws_Spn_copy) BB.pre
  have hown : s.vm.findClass "DelegationClosure$Span" = some m.cls := findClass_of_methodNamed BB.named
  have hlocks := BB.notSynchronized
  have hS : mm_S B s.heap s.heap [] := va_S.rf
  have hl := lv_entry ([.ref a, .ref o]) (n := 2) (Nat.le_of_ble_eq_true rfl)
  rw [lg_entry_eq]
  generalize (lg_sl ([.ref a, .ref o]) ++ List.replicate (2 - (lg_sl ([.ref a, .ref o])).length) Slot.unset).toArray = ls at hl ⊢
  have hl : lv_has ls 2 [(0, .ref a), (1, .ref o)] := hl
  refine lv_aload_n hx hb d_Spn_copy_0 rfl (lv_at hl 0 rfl) ?_
  refine lv_aload_n hx hb d_Spn_copy_1 rfl (lv_at hl 1 rfl) ?_
  refine mm_get (D := D) (C := n_Spn) (T := T_Spn) (N := 2) (v := .int p1) hx hb hts lay_Spn hown hK.1 hP h_1 rfl 0 (by decide) (hts _ (List.mem_cons_of_mem _ wd_89)) (fun _ h9 => h9) rfl d_Spn_copy_2 ?_
  refine lv_aload_n hx hb d_Spn_copy_5 rfl (lv_at hl 1 rfl) ?_
  refine mm_get (D := D) (C := n_Spn) (T := T_Spn) (N := 2) (v := .int q1) hx hb hts lay_Spn hown hK.1 hP h_1 rfl 1 (by decide) (hts _ (List.mem_cons_of_mem _ wd_90)) (fun _ h9 => h9) rfl d_Spn_copy_6 ?_
  refine kk_callv (va_runV (As := [.int p1, .int q1]) (rest := []) ⟨hx, hb, hml, hown, hts⟩ (c_Spn_set l h_0) (cwV 2 hts (gW_in (hd := [_, _, _, _, _]) (kk_5 wd_427 wd_277 wd_278 wd_7 cw_Spn_set)) rfl rfl rfl ⟨rfl, ds_Spn_set⟩ ⟨Nat.le_of_ble_eq_true rfl, Nat.le_of_ble_eq_true rfl⟩) (kk_preV hK hP hz hBz h_0 rfl) rfl rfl hl.1 rfl (lv_room (Nat.le_of_ble_eq_true rfl)) d_Spn_copy_9 ⟨Nat.le_of_ble_eq_true rfl, Nat.le_of_ble_eq_true rfl⟩) hS (fun w1 sz1 H locs hp1 hP hz hS => ?_)
  obtain ⟨he1, hs1⟩ := hp1
  have hz : H.size = sz := hz.trans hs1
  have hw2 : w1 = mm_up w a (.inr (6, [.int p1, .int q1])) := he1
  have fr2 : ∀ j, j ≠ a → w1 j = w j := fun j h90 => by rw [hw2]; exact mm_un h90
  have fa2_0 : w1 a = some (.inr (6, [.int p1, .int q1])) := by rw [hw2]; exact mm_us _ _ _
  exact W.vret hx hb hr (fun t ht hW => ⟨⟨(w1, sz), rfl, ⟨mm_e1 fa2_0 (fun j g0 => fr2 j g0), rfl⟩, by rw [ht]; exact hP, by rw [ht]; exact hz⟩, hS.F ht⟩) hS.2.2 d_Spn_copy_12
theorem d_Spn_narrowTo_0 : decode k_Spn_narrowTo 0 = .ok (.aload_n 0, 1) := by decide +kernel
theorem d_Spn_narrowTo_1 : decode k_Spn_narrowTo 1 = .ok (.aload_n 0, 1) := by decide +kernel
theorem d_Spn_narrowTo_2 : decode k_Spn_narrowTo 2 = .ok (.getfield 7, 3) := by decide +kernel
theorem d_Spn_narrowTo_5 : decode k_Spn_narrowTo 5 = .ok (.aload_n 1, 1) := by decide +kernel
theorem d_Spn_narrowTo_6 : decode k_Spn_narrowTo 6 = .ok (.getfield 7, 3) := by decide +kernel
theorem d_Spn_narrowTo_9 : decode k_Spn_narrowTo 9 = .ok (.invokestatic 20, 3) := by decide +kernel
theorem d_Spn_narrowTo_12 : decode k_Spn_narrowTo 12 = .ok (.aload_n 0, 1) := by decide +kernel
theorem d_Spn_narrowTo_13 : decode k_Spn_narrowTo 13 = .ok (.getfield 13, 3) := by decide +kernel
theorem d_Spn_narrowTo_16 : decode k_Spn_narrowTo 16 = .ok (.aload_n 1, 1) := by decide +kernel
theorem d_Spn_narrowTo_17 : decode k_Spn_narrowTo 17 = .ok (.getfield 13, 3) := by decide +kernel
theorem d_Spn_narrowTo_20 : decode k_Spn_narrowTo 20 = .ok (.invokestatic 26, 3) := by decide +kernel
theorem d_Spn_narrowTo_23 : decode k_Spn_narrowTo 23 = .ok (.invokevirtual 16, 3) := by decide +kernel
theorem d_Spn_narrowTo_26 : decode k_Spn_narrowTo 26 = .ok (.return_, 1) := by decide +kernel
set_option maxHeartbeats 4000000 in
set_option maxRecDepth 100000 in
theorem c_Spn_narrowTo (l : Launch) {B : Nat} {D : va_G} {cI cZ cQ : ClassId} {w : mm_M} {sz : Nat} {a o : Nat} {u v p1 q1 : Int32} (h_0 : w a = some (.inr (6, [.int u, .int v]))) (h_1 : w o = some (.inr (6, [.int p1, .int q1]))) : Met l y_Spn_narrowTo ws_Spn_narrowTo (kk_rm 1 0 0) (kk_Pc B D cI cZ cQ [.ref a, .ref o] w sz) (kk_Qv B D (fun w' sz' => w' = mm_up w a (.inr (6, [.int (if u < p1 then p1 else u), .int (if q1 < v then q1 else v)])) ∧ sz' = sz)) 0 0 (fun q => B ≤ q) := by
  refine Met.ofW (cc := k_Spn_narrowTo) (maxL := 2) (ret := none) (by decide) rfl ?_
  intro p e s m args below meth c s₁ BB hml hv
  obtain ⟨rfl, hK, hP, hz, hBz⟩ := hv
  have hx := BB.exec
  have hb := BB.bytes
  have hr := BB.returns
  have hts := atoms_spec (ws := ws_Spn_narrowTo) BB.pre
  have hown : s.vm.findClass "DelegationClosure$Span" = some m.cls := findClass_of_methodNamed BB.named
  have hlocks := BB.notSynchronized
  have hS : mm_S B s.heap s.heap [] := va_S.rf
  have hl := lv_entry ([.ref a, .ref o]) (n := 2) (Nat.le_of_ble_eq_true rfl)
  rw [lg_entry_eq]
  generalize (lg_sl ([.ref a, .ref o]) ++ List.replicate (2 - (lg_sl ([.ref a, .ref o])).length) Slot.unset).toArray = ls at hl ⊢
  have hl : lv_has ls 2 [(0, .ref a), (1, .ref o)] := hl
  refine lv_aload_n hx hb d_Spn_narrowTo_0 rfl (lv_at hl 0 rfl) ?_
  refine lv_aload_n hx hb d_Spn_narrowTo_1 rfl (lv_at hl 0 rfl) ?_
  refine mm_get (D := D) (C := n_Spn) (T := T_Spn) (N := 2) (v := .int u) hx hb hts lay_Spn hown hK.1 hP h_0 rfl 0 (by decide) (hts _ (List.mem_cons_of_mem _ wd_89)) (fun _ h9 => h9) rfl d_Spn_narrowTo_2 ?_
  refine lv_aload_n hx hb d_Spn_narrowTo_5 rfl (lv_at hl 1 rfl) ?_
  refine mm_get (D := D) (C := n_Spn) (T := T_Spn) (N := 2) (v := .int p1) hx hb hts lay_Spn hown hK.1 hP h_1 rfl 0 (by decide) (hts _ (List.mem_cons_of_mem _ wd_89)) (fun _ h9 => h9) rfl d_Spn_narrowTo_6 ?_
  refine va_mmax hx hb (by rw [hml]; exact hl.1.symm) hown (hts _ (List.mem_cons_of_mem _ wd_445)) (hts _ (List.mem_cons_of_mem _ wd_446)) (hts _ (List.mem_cons_of_mem _ wd_13)) (hts _ (List.mem_cons_of_mem _ wd_math_max)) (Nat.le_of_ble_eq_true rfl) (Nat.le_of_ble_eq_true rfl) (Nat.zero_le _) (Nat.zero_le _) d_Spn_narrowTo_9 ?_
  refine lv_aload_n hx hb d_Spn_narrowTo_12 rfl (lv_at hl 0 rfl) ?_
  refine mm_get (D := D) (C := n_Spn) (T := T_Spn) (N := 2) (v := .int v) hx hb hts lay_Spn hown hK.1 hP h_0 rfl 1 (by decide) (hts _ (List.mem_cons_of_mem _ wd_90)) (fun _ h9 => h9) rfl d_Spn_narrowTo_13 ?_
  refine lv_aload_n hx hb d_Spn_narrowTo_16 rfl (lv_at hl 1 rfl) ?_
  refine mm_get (D := D) (C := n_Spn) (T := T_Spn) (N := 2) (v := .int q1) hx hb hts lay_Spn hown hK.1 hP h_1 rfl 1 (by decide) (hts _ (List.mem_cons_of_mem _ wd_90)) (fun _ h9 => h9) rfl d_Spn_narrowTo_17 ?_
  refine va_mmin hx hb (by rw [hml]; exact hl.1.symm) hown (hts _ (List.mem_cons_of_mem _ wd_448)) (hts _ (List.mem_cons_of_mem _ wd_342)) (hts _ (List.mem_cons_of_mem _ wd_13)) (hts _ (List.mem_cons_of_mem _ wd_math_min)) (Nat.le_of_ble_eq_true rfl) (Nat.le_of_ble_eq_true rfl) (Nat.zero_le _) (Nat.zero_le _) d_Spn_narrowTo_20 ?_
  refine kk_callv (va_runV (As := [.int (if u < p1 then p1 else u), .int (if q1 < v then q1 else v)]) (rest := []) ⟨hx, hb, hml, hown, hts⟩ (c_Spn_set l h_0) (cwV 2 hts (gW_in (hd := [_, _, _, _, _]) (kk_5 wd_427 wd_277 wd_278 wd_7 cw_Spn_set)) rfl rfl rfl ⟨rfl, ds_Spn_set⟩ ⟨Nat.le_of_ble_eq_true rfl, Nat.le_of_ble_eq_true rfl⟩) (kk_preV hK hP hz hBz h_0 rfl) rfl rfl hl.1 rfl (lv_room (Nat.le_of_ble_eq_true rfl)) d_Spn_narrowTo_23 ⟨Nat.le_of_ble_eq_true rfl, Nat.le_of_ble_eq_true rfl⟩) hS (fun w1 sz1 H locs hp1 hP hz hS => ?_)
  obtain ⟨he1, hs1⟩ := hp1
  have hz : H.size = sz := hz.trans hs1
  have hw2 : w1 = mm_up w a (.inr (6, [.int (if u < p1 then p1 else u), .int (if q1 < v then q1 else v)])) := he1
  have fr2 : ∀ j, j ≠ a → w1 j = w j := fun j h90 => by rw [hw2]; exact mm_un h90
  have fa2_0 : w1 a = some (.inr (6, [.int (if u < p1 then p1 else u), .int (if q1 < v then q1 else v)])) := by rw [hw2]; exact mm_us _ _ _
  exact W.vret hx hb hr (fun t ht hW => ⟨⟨(w1, sz), rfl, ⟨mm_e1 fa2_0 (fun j g0 => fr2 j g0), rfl⟩, by rw [ht]; exact hP, by rw [ht]; exact hz⟩, hS.F ht⟩) hS.2.2 d_Spn_narrowTo_26
