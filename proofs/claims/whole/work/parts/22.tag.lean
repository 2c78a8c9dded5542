theorem d_Tag_set_0 : decode k_Tag_set 0 = .ok (.aload_n 0, 1) := by decide +kernel
theorem d_Tag_set_1 : decode k_Tag_set 1 = .ok (.iload_n 1, 1) := by decide +kernel
theorem d_Tag_set_2 : decode k_Tag_set 2 = .ok (.putfield 9, 3) := by decide +kernel
theorem d_Tag_set_5 : decode k_Tag_set 5 = .ok (.aload_n 0, 1) := by decide +kernel
theorem d_Tag_set_6 : decode k_Tag_set 6 = .ok (.getfield 22, 3) := by decide +kernel
theorem d_Tag_set_9 : decode k_Tag_set 9 = .ok (.iload_n 2, 1) := by decide +kernel
theorem d_Tag_set_10 : decode k_Tag_set 10 = .ok (.iload_n 3, 1) := by decide +kernel
theorem d_Tag_set_11 : decode k_Tag_set 11 = .ok (.invokevirtual 30, 3) := by decide +kernel
theorem d_Tag_set_14 : decode k_Tag_set 14 = .ok (.return_, 1) := by decide +kernel
set_option maxHeartbeats 4000000 in
set_option maxRecDepth 100000 in
theorem c_Tag_set (l : Launch) {B : Nat} {D : va_G} {cI cZ cQ : ClassId} {w : mm_M} {sz : Nat} {a c1 o : Nat} {u v : Int32} {o2 : Nat} {lo hi : Int32} (h_0 : w a = some (.inr (5, [.int (nI o), .ref c1]))) (h_1 : w c1 = some (.inr (6, [.int u, .int v]))) (hne : a ≠ c1) : Met l y_Tag_set ws_Tag_set (kk_rm 1 0 0) (kk_Pc B D cI cZ cQ [.ref a, .int (nI o2), .int lo, .int hi] w sz) (kk_Qv B D (fun w' sz' => w' = mm_up (mm_up w a (.inr (5, [.int (nI o2), .ref c1]))) c1 (.inr (6, [.int lo, .int hi])) ∧ sz' = sz)) 0 0 (fun q => B ≤ q) := by
  refine Met.ofW (cc := k_Tag_set) (maxL := 4) (ret := none) (by decide) rfl ?_
  intro p e s m args below meth c s₁ BB hml hv
  obtain ⟨rfl, hK, hP, hz, hBz⟩ := hv
  have hx := BB.exec
  have hb := BB.bytes
  have hr := BB.returns
  have hts := atoms_spec (ws := ws_Tag_set) BB.pre
  have hown : s.vm.findClass "DelegationClosure$Tag" = some m.cls := findClass_of_methodNamed BB.named
  have hlocks := BB.notSynchronized
  have hS : mm_S B s.heap s.heap [] := va_S.rf
  have hl := lv_entry ([.ref a, .int (nI o2), .int lo, .int hi]) (n := 4) (Nat.le_of_ble_eq_true rfl)
  rw [lg_entry_eq]
  generalize (lg_sl ([.ref a, .int (nI o2), .int lo, .int hi]) ++ List.replicate (4 - (lg_sl ([.ref a, .int (nI o2), .int lo, .int hi])).length) Slot.unset).toArray = ls at hl ⊢
  have hl : lv_has ls 4 [(0, .ref a), (1, .int (nI o2)), (2, .int lo), (3, .int hi)] := hl
  refine lv_aload_n hx hb d_Tag_set_0 rfl (lv_at hl 0 rfl) ?_
  refine lv_iload_n hx hb d_Tag_set_1 rfl (lv_at hl 1 rfl) ?_
  refine mm_put (D := D) (C := n_Tag) (T := T_Tag) (N := 2) (v := .int (nI o2)) (ty := .int) hx hb hts lay_Tag t_Tag ty_Tag nm_Tag hown hK.1 hP hS h_0 rfl 0 (by decide) (hts _ (List.mem_cons_of_mem _ wd_96)) (fun _ h9 => h9) rfl (by decide +kernel) rfl rfl (Nat.le_of_ble_eq_true rfl) d_Tag_set_2 (fun H locs hP hz1 hS => ?_)
  have hz : H.size = sz := hz1.trans hz
  obtain ⟨w1, hw1⟩ : ∃ z : mm_M, z = mm_up w a (.inr (5, [.int (nI o2), .ref c1])) := ⟨_, rfl⟩
  have hP : mm_P B D kc w1 H := by rw [hw1]; exact hP
  have fr1 : ∀ j, j ≠ a → w1 j = w j := fun j h9 => by rw [hw1]; exact mm_un h9
  have fa1 : w1 a = some (.inr (5, [.int (nI o2), .ref c1])) := by rw [hw1]; exact mm_us _ _ _
  refine lv_aload_n hx hb d_Tag_set_5 rfl (lv_at hl 0 rfl) ?_
  refine mm_get (D := D) (C := n_Tag) (T := T_Tag) (N := 2) (v := .ref c1) hx hb hts lay_Tag hown hK.1 hP fa1 rfl 1 (by decide) (hts _ (List.mem_cons_of_mem _ wd_97)) (fun _ h9 => h9) rfl d_Tag_set_6 ?_
  refine lv_iload_n hx hb d_Tag_set_9 rfl (lv_at hl 2 rfl) ?_
  refine lv_iload_n hx hb d_Tag_set_10 rfl (lv_at hl 3 rfl) ?_
  have f2 := (fr1 _ hne.symm).trans (h_1)
  refine kk_callv (va_runV (As := [.int lo, .int hi]) (rest := []) ⟨hx, hb, hml, hown, hts⟩ (c_Spn_set l f2) (cwV 2 hts (gW_in (hd := [_, _, _, _, _]) (kk_5 wd_276 wd_277 wd_278 wd_7 cw_Spn_set)) rfl rfl rfl ⟨rfl, ds_Spn_set⟩ ⟨Nat.le_of_ble_eq_true rfl, Nat.le_of_ble_eq_true rfl⟩) (kk_preV hK hP hz hBz f2 rfl) rfl rfl hl.1 rfl (lv_room (Nat.le_of_ble_eq_true rfl)) d_Tag_set_11 ⟨Nat.le_of_ble_eq_true rfl, Nat.le_of_ble_eq_true rfl⟩) hS (fun w3 sz3 H locs hp3 hP hz hS => ?_)
  obtain ⟨he3, hs3⟩ := hp3
  have hz : H.size = sz := hz.trans hs3
  have hw4 : w3 = mm_up w1 c1 (.inr (6, [.int lo, .int hi])) := he3
  have fr4 : ∀ j, j ≠ c1 → w3 j = w1 j := fun j h90 => by rw [hw4]; exact mm_un h90
  have fa4_0 : w3 c1 = some (.inr (6, [.int lo, .int hi])) := by rw [hw4]; exact mm_us _ _ _
  exact W.vret hx hb hr (fun t ht hW => ⟨⟨(w3, sz), rfl, ⟨mm_e2 ((fr4 _ hne).trans (fa1)) fa4_0 (fun j g0 g1 => (fr4 j g1).trans (fr1 j g0)), rfl⟩, by rw [ht]; exact hP, by rw [ht]; exact hz⟩, hS.F ht⟩) hS.2.2 d_Tag_set_14
theorem d_Tag_contains_0 : decode k_Tag_contains 0 = .ok (.aload_n 0, 1) := by decide +kernel
theorem d_Tag_contains_1 : decode k_Tag_contains 1 = .ok (.getfield 9, 3) := by decide +kernel
theorem d_Tag_contains_4 : decode k_Tag_contains 4 = .ok (.iconst 1, 1) := by decide +kernel
theorem d_Tag_contains_5 : decode k_Tag_contains 5 = .ok (.iload_n 1, 1) := by decide +kernel
theorem d_Tag_contains_6 : decode k_Tag_contains 6 = .ok (.ishl, 1) := by decide +kernel
theorem d_Tag_contains_7 : decode k_Tag_contains 7 = .ok (.iand, 1) := by decide +kernel
theorem d_Tag_contains_8 : decode k_Tag_contains 8 = .ok (.ifCond .eq 18, 3) := by decide +kernel
theorem d_Tag_contains_11 : decode k_Tag_contains 11 = .ok (.aload_n 0, 1) := by decide +kernel
theorem d_Tag_contains_12 : decode k_Tag_contains 12 = .ok (.getfield 22, 3) := by decide +kernel
theorem d_Tag_contains_15 : decode k_Tag_contains 15 = .ok (.iload_n 2, 1) := by decide +kernel
theorem d_Tag_contains_16 : decode k_Tag_contains 16 = .ok (.invokevirtual 26, 3) := by decide +kernel
theorem d_Tag_contains_19 : decode k_Tag_contains 19 = .ok (.ifCond .eq 7, 3) := by decide +kernel
theorem d_Tag_contains_22 : decode k_Tag_contains 22 = .ok (.iconst 1, 1) := by decide +kernel
theorem d_Tag_contains_23 : decode k_Tag_contains 23 = .ok (.goto 4, 3) := by decide +kernel
theorem d_Tag_contains_26 : decode k_Tag_contains 26 = .ok (.iconst 0, 1) := by decide +kernel
theorem d_Tag_contains_27 : decode k_Tag_contains 27 = .ok (.ireturn, 1) := by decide +kernel
set_option maxHeartbeats 4000000 in
set_option maxRecDepth 100000 in
theorem c_Tag_contains (l : Launch) {B : Nat} {D : va_G} {cI cZ cQ : ClassId} {w : mm_M} {sz : Nat} {a c1 o : Nat} {u v : Int32} {k : Nat} {x : Int32} (h_0 : w a = some (.inr (5, [.int (nI o), .ref c1]))) (h_1 : w c1 = some (.inr (6, [.int u, .int v]))) (hk : k < 8) (ho : o < 256) : Met l y_Tag_contains ws_Tag_contains (kk_rm 1 0 0) (kk_Pc B D cI cZ cQ [.ref a, .int (nI k), .int x] w sz) (vp_Si (fun r => r = nI (if o / 2 ^ k % 2 = 1 ∧ ¬ x < u ∧ ¬ v < x then 1 else 0))) 0 0 (fun _ => False) := by
  refine Met.ofW (cc := k_Tag_contains) (maxL := 3) (ret := (some .boolean)) (by decide) rfl ?_
  intro p e s m args below meth c s₁ BB hml hv
  obtain ⟨rfl, hK, hP, hz, hBz⟩ := hv
  have hx := BB.exec
  have hb := BB.bytes
  have hr := BB.returns
  have hts := atoms_spec (ws := ws_Tag_contains) BB.pre
  have hown : s.vm.findClass "DelegationClosure$Tag" = some m.cls := findClass_of_methodNamed BB.named
  have hlocks := BB.notSynchronized
  have hS : mm_S B s.heap s.heap [] := va_S.rf
  have hl := lv_entry ([.ref a, .int (nI k), .int x]) (n := 3) (Nat.le_of_ble_eq_true rfl)
  rw [lg_entry_eq]
  generalize (lg_sl ([.ref a, .int (nI k), .int x]) ++ List.replicate (3 - (lg_sl ([.ref a, .int (nI k), .int x])).length) Slot.unset).toArray = ls at hl ⊢
  have hl : lv_has ls 3 [(0, .ref a), (1, .int (nI k)), (2, .int x)] := hl
  refine lv_aload_n hx hb d_Tag_contains_0 rfl (lv_at hl 0 rfl) ?_
  refine mm_get (D := D) (C := n_Tag) (T := T_Tag) (N := 2) (v := .int (nI o)) hx hb hts lay_Tag hown hK.1 hP h_0 rfl 0 (by decide) (hts _ (List.mem_cons_of_mem _ wd_96)) (fun _ h9 => h9) rfl d_Tag_contains_1 ?_
  refine lv_iconst (v := nI 1) hx hb d_Tag_contains_4 (by decide) ?_
  refine lv_iload_n hx hb d_Tag_contains_5 rfl (lv_at hl 1 rfl) ?_
  refine lv_ishl hx hb d_Tag_contains_6 ?_
  refine kk_top (bt_shl _ hk) ?_
  refine lv_iand hx hb d_Tag_contains_7 ?_
  refine lv_if_eq (tgt := 26) hx hb d_Tag_contains_8 (by decide) (fun cc1 => ?_) (fun cc1 => ?_)
  · have cc1 := (bt_and _ hk _ ho).mp cc1
    refine lv_iconst (v := nI 0) hx hb d_Tag_contains_26 (by decide) ?_
    exact W.zret hx hb hr rfl (fun t ht hW => ⟨_, rfl, by simp only [cc1, not_true_eq_false, not_false_eq_true, and_true, true_and, and_false, false_and, or_true, true_or, or_false, false_or, and_self, or_self, if_true, if_false, ite_true, ite_false, ↓reduceIte], ht⟩) (fun q hq => by cases hq) d_Tag_contains_27
  · have cc1 : o / 2 ^ k % 2 = 1 := Decidable.not_not.mp (fun q => cc1 ((bt_and _ hk _ ho).mpr q))
    refine lv_aload_n hx hb d_Tag_contains_11 rfl (lv_at hl 0 rfl) ?_
    refine mm_get (D := D) (C := n_Tag) (T := T_Tag) (N := 2) (v := .ref c1) hx hb hts lay_Tag hown hK.1 hP h_0 rfl 1 (by decide) (hts _ (List.mem_cons_of_mem _ wd_97)) (fun _ h9 => h9) rfl d_Tag_contains_12 ?_
    refine lv_iload_n hx hb d_Tag_contains_15 rfl (lv_at hl 2 rfl) ?_
    refine vp_callSi (va_Run.run (va_runV (As := [.int x]) (rest := []) ⟨hx, hb, hml, hown, hts⟩ (c_Spn_contains l h_1) (cwV 1 hts (gW_in (hd := [_, _, _, _, _]) (kk_5 wd_369 wd_319 wd_320 wd_7 cw_Spn_contains)) rfl rfl rfl ⟨rfl, ds_Spn_contains⟩ ⟨Nat.le_of_ble_eq_true rfl, Nat.le_of_ble_eq_true rfl⟩) (kk_preV hK hP hz hBz h_1 rfl) rfl rfl hl.1 rfl (lv_room (Nat.le_of_ble_eq_true rfl)) d_Tag_contains_16 ⟨Nat.le_of_ble_eq_true rfl, Nat.le_of_ble_eq_true rfl⟩)) (fun r2 hr2 => ?_)
    subst hr2
    refine lv_if_eq (tgt := 26) hx hb d_Tag_contains_19 (by decide) (fun cc3 => ?_) (fun cc3 => ?_)
    · have cc3 := kk_b0 cc3
      refine lv_iconst (v := nI 0) hx hb d_Tag_contains_26 (by decide) ?_
      exact W.zret hx hb hr rfl (fun t ht hW => ⟨_, rfl, by simp only [cc1, cc3, not_true_eq_false, not_false_eq_true, and_true, true_and, and_false, false_and, or_true, true_or, or_false, false_or, and_self, or_self, if_true, if_false, ite_true, ite_false, ↓reduceIte], ht⟩) (fun q hq => by cases hq) d_Tag_contains_27
    · have cc3 := kk_b1 cc3
      refine lv_iconst (v := nI 1) hx hb d_Tag_contains_22 (by decide) ?_
      refine lv_goto (tgt := 27) hx hb d_Tag_contains_23 (by decide) ?_
      exact W.zret hx hb hr rfl (fun t ht hW => ⟨_, rfl, by simp only [cc1, cc3, not_true_eq_false, not_false_eq_true, and_true, true_and, and_false, false_and, or_true, true_or, or_false, false_or, and_self, or_self, if_true, if_false, ite_true, ite_false, ↓reduceIte], ht⟩) (fun q hq => by cases hq) d_Tag_contains_27
theorem d_Tag_copy_0 : decode k_Tag_copy 0 = .ok (.aload_n 0, 1) := by decide +kernel
theorem d_Tag_copy_1 : decode k_Tag_copy 1 = .ok (.aload_n 1, 1) := by decide +kernel
theorem d_Tag_copy_2 : decode k_Tag_copy 2 = .ok (.getfield 9, 3) := by decide +kernel
theorem d_Tag_copy_5 : decode k_Tag_copy 5 = .ok (.putfield 9, 3) := by decide +kernel
theorem d_Tag_copy_8 : decode k_Tag_copy 8 = .ok (.aload_n 0, 1) := by decide +kernel
theorem d_Tag_copy_9 : decode k_Tag_copy 9 = .ok (.getfield 22, 3) := by decide +kernel
theorem d_Tag_copy_12 : decode k_Tag_copy 12 = .ok (.aload_n 1, 1) := by decide +kernel
theorem d_Tag_copy_13 : decode k_Tag_copy 13 = .ok (.getfield 22, 3) := by decide +kernel
theorem d_Tag_copy_16 : decode k_Tag_copy 16 = .ok (.invokevirtual 33, 3) := by decide +kernel
theorem d_Tag_copy_19 : decode k_Tag_copy 19 = .ok (.return_, 1) := by decide +kernel
set_option maxHeartbeats 4000000 in
set_option maxRecDepth 100000 in
theorem c_Tag_copy (l : Launch) {B : Nat} {D : va_G} {cI cZ cQ : ClassId} {w : mm_M} {sz : Nat} {a c1 o : Nat} {u v : Int32} {a2 c2 o2 : Nat} {u2 v2 : Int32} (h_0 : w a = some (.inr (5, [.int (nI o), .ref c1]))) (h_1 : w c1 = some (.inr (6, [.int u, .int v]))) (h_2 : w a2 = some (.inr (5, [.int (nI o2), .ref c2]))) (h_3 : w c2 = some (.inr (6, [.int u2, .int v2]))) (hne0 : a ≠ c1) (hne1 : a2 ≠ a) (hne2 : a2 ≠ c1) (hne3 : c2 ≠ a) (hne4 : c2 ≠ c1) : Met l y_Tag_copy ws_Tag_copy (kk_rm 2 0 0) (kk_Pc B D cI cZ cQ [.ref a, .ref a2] w sz) (kk_Qv B D (fun w' sz' => w' = mm_up (mm_up w a (.inr (5, [.int (nI o2), .ref c1]))) c1 (.inr (6, [.int u2, .int v2])) ∧ sz' = sz)) 0 0 (fun q => B ≤ q) := by
  refine Met.ofW (cc := k_Tag_copy) (maxL := 2) (ret := none) (by decide) rfl ?_
  intro p e s m args below meth c s₁ BB hml hv
  obtain ⟨rfl, hK, hP, hz, hBz⟩ := hv
  have hx := BB.exec
  have hb := BB.bytes
  have hr := BB.returns
  have hts := atoms_spec (ws := ws_Tag_copy) BB.pre
  have hown : s.vm.findClass "DelegationClosure$Tag" = some m.cls := findClass_of_methodNamed BB.named
  have hlocks := BB.notSynchronized
  have hS : mm_S B s.heap s.heap [] := va_S.rf
  have hl := lv_entry ([.ref a, .ref a2]) (n := 2) (Nat.le_of_ble_eq_true rfl)
  rw [lg_entry_eq]
  generalize (lg_sl ([.ref a, .ref a2]) ++ List.replicate (2 - (lg_sl ([.ref a, .ref a2])).length) Slot.unset).toArray = ls at hl ⊢
  have hl : lv_has ls 2 [(0, .ref a), (1, .ref a2)] := hl
  refine lv_aload_n hx hb d_Tag_copy_0 rfl (lv_at hl 0 rfl) ?_
  refine lv_aload_n hx hb d_Tag_copy_1 rfl (lv_at hl 1 rfl) ?_
  refine mm_get (D := D) (C := n_Tag) (T := T_Tag) (N := 2) (v := .int (nI o2)) hx hb hts lay_Tag hown hK.1 hP h_2 rfl 0 (by decide) (hts _ (List.mem_cons_of_mem _ wd_96)) (fun _ h9 => h9) rfl d_Tag_copy_2 ?_
  refine mm_put (D := D) (C := n_Tag) (T := T_Tag) (N := 2) (v := .int (nI o2)) (ty := .int) hx hb hts lay_Tag t_Tag ty_Tag nm_Tag hown hK.1 hP hS h_0 rfl 0 (by decide) (hts _ (List.mem_cons_of_mem _ wd_96)) (fun _ h9 => h9) rfl (by decide +kernel) rfl rfl (Nat.le_of_ble_eq_true rfl) d_Tag_copy_5 (fun H locs hP hz1 hS => ?_)
  have hz : H.size = sz := hz1.trans hz
  obtain ⟨w1, hw1⟩ : ∃ z : mm_M, z = mm_up w a (.inr (5, [.int (nI o2), .ref c1])) := ⟨_, rfl⟩
  have hP : mm_P B D kc w1 H := by rw [hw1]; exact hP
  have fr1 : ∀ j, j ≠ a → w1 j = w j := fun j h9 => by rw [hw1]; exact mm_un h9
  have fa1 : w1 a = some (.inr (5, [.int (nI o2), .ref c1])) := by rw [hw1]; exact mm_us _ _ _
  refine lv_aload_n hx hb d_Tag_copy_8 rfl (lv_at hl 0 rfl) ?_
  refine mm_get (D := D) (C := n_Tag) (T := T_Tag) (N := 2) (v := .ref c1) hx hb hts lay_Tag hown hK.1 hP fa1 rfl 1 (by decide) (hts _ (List.mem_cons_of_mem _ wd_97)) (fun _ h9 => h9) rfl d_Tag_copy_9 ?_
  refine lv_aload_n hx hb d_Tag_copy_12 rfl (lv_at hl 1 rfl) ?_
  have f2 := (fr1 _ hne1).trans (h_2)
  refine mm_get (D := D) (C := n_Tag) (T := T_Tag) (N := 2) (v := .ref c2) hx hb hts lay_Tag hown hK.1 hP f2 rfl 1 (by decide) (hts _ (List.mem_cons_of_mem _ wd_97)) (fun _ h9 => h9) rfl d_Tag_copy_13 ?_
  have f3 := (fr1 _ hne0.symm).trans (h_1)
  have f4 := (fr1 _ hne3).trans (h_3)
  refine kk_callv (va_runV (As := [.ref c2]) (rest := []) ⟨hx, hb, hml, hown, hts⟩ (c_Spn_copy l f3 f4) (cwV 1 hts (gW_in (hd := [_, _, _, _, _]) (kk_5 wd_423 wd_424 wd_425 wd_7 cw_Spn_copy)) rfl rfl rfl ⟨rfl, ds_Spn_copy⟩ ⟨Nat.le_of_ble_eq_true rfl, Nat.le_of_ble_eq_true rfl⟩) (kk_preV hK hP hz hBz f3 rfl) rfl rfl hl.1 rfl (lv_room (Nat.le_of_ble_eq_true rfl)) d_Tag_copy_16 ⟨Nat.le_of_ble_eq_true rfl, Nat.le_of_ble_eq_true rfl⟩) hS (fun w5 sz5 H locs hp5 hP hz hS => ?_)
  obtain ⟨he5, hs5⟩ := hp5
  have hz : H.size = sz := hz.trans hs5
  have hw6 : w5 = mm_up w1 c1 (.inr (6, [.int u2, .int v2])) := he5
  have fr6 : ∀ j, j ≠ c1 → w5 j = w1 j := fun j h90 => by rw [hw6]; exact mm_un h90
  have fa6_0 : w5 c1 = some (.inr (6, [.int u2, .int v2])) := by rw [hw6]; exact mm_us _ _ _
  exact W.vret hx hb hr (fun t ht hW => ⟨⟨(w5, sz), rfl, ⟨mm_e2 ((fr6 _ hne0).trans (fa1)) fa6_0 (fun j g0 g1 => (fr6 j g1).trans (fr1 j g0)), rfl⟩, by rw [ht]; exact hP, by rw [ht]; exact hz⟩, hS.F ht⟩) hS.2.2 d_Tag_copy_19
theorem d_Tag_narrowTo_0 : decode k_Tag_narrowTo 0 = .ok (.aload_n 0, 1) := by decide +kernel
theorem d_Tag_narrowTo_1 : decode k_Tag_narrowTo 1 = .ok (.dup, 1) := by decide +kernel
theorem d_Tag_narrowTo_2 : decode k_Tag_narrowTo 2 = .ok (.getfield 9, 3) := by decide +kernel
theorem d_Tag_narrowTo_5 : decode k_Tag_narrowTo 5 = .ok (.aload_n 1, 1) := by decide +kernel
theorem d_Tag_narrowTo_6 : decode k_Tag_narrowTo 6 = .ok (.getfield 9, 3) := by decide +kernel
theorem d_Tag_narrowTo_9 : decode k_Tag_narrowTo 9 = .ok (.iand, 1) := by decide +kernel
theorem d_Tag_narrowTo_10 : decode k_Tag_narrowTo 10 = .ok (.putfield 9, 3) := by decide +kernel
theorem d_Tag_narrowTo_13 : decode k_Tag_narrowTo 13 = .ok (.aload_n 0, 1) := by decide +kernel
theorem d_Tag_narrowTo_14 : decode k_Tag_narrowTo 14 = .ok (.getfield 22, 3) := by decide +kernel
theorem d_Tag_narrowTo_17 : decode k_Tag_narrowTo 17 = .ok (.aload_n 1, 1) := by decide +kernel
theorem d_Tag_narrowTo_18 : decode k_Tag_narrowTo 18 = .ok (.getfield 22, 3) := by decide +kernel
theorem d_Tag_narrowTo_21 : decode k_Tag_narrowTo 21 = .ok (.invokevirtual 37, 3) := by decide +kernel
theorem d_Tag_narrowTo_24 : decode k_Tag_narrowTo 24 = .ok (.return_, 1) := by decide +kernel
set_option maxHeartbeats 4000000 in
set_option maxRecDepth 100000 in
theorem c_Tag_narrowTo (l : Launch) {B : Nat} {D : va_G} {cI cZ cQ : ClassId} {w : mm_M} {sz : Nat} {a c1 o : Nat} {u v : Int32} {a2 c2 o2 : Nat} {u2 v2 : Int32} (h_0 : w a = some (.inr (5, [.int (nI o), .ref c1]))) (h_1 : w c1 = some (.inr (6, [.int u, .int v]))) (h_2 : w a2 = some (.inr (5, [.int (nI o2), .ref c2]))) (h_3 : w c2 = some (.inr (6, [.int u2, .int v2]))) (hne0 : a ≠ c1) (hne1 : a2 ≠ a) (hne2 : a2 ≠ c1) (hne3 : c2 ≠ a) (hne4 : c2 ≠ c1) : Met l y_Tag_narrowTo ws_Tag_narrowTo (kk_rm 2 0 0) (kk_Pc B D cI cZ cQ [.ref a, .ref a2] w sz) (kk_Qv B D (fun w' sz' => w' = mm_up (mm_up w a (.inr (5, [.int (nI (o &&& o2)), .ref c1]))) c1 (.inr (6, [.int (if u < u2 then u2 else u), .int (if v2 < v then v2 else v)])) ∧ sz' = sz)) 0 0 (fun q => B ≤ q) := by
  refine Met.ofW (cc := k_Tag_narrowTo) (maxL := 2) (ret := none) (by decide) rfl ?_
  intro p e s m args below meth c s₁ BB hml hv
  obtain ⟨rfl, hK, hP, hz, hBz⟩ := hv
  have hx := BB.exec
  have hb := BB.bytes
  have hr := BB.returns
  have hts := atoms_spec (ws := ws_Tag_narrowTo) BB.pre
  have hown : s.vm.findClass "DelegationClosure$Tag" = some m.cls := findClass_of_methodNamed BB.named
  have hlocks := BB.notSynchronized
  have hS : mm_S B s.heap s.heap [] := va_S.rf
  have hl := lv_entry ([.ref a, .ref a2]) (n := 2) (Nat.le_of_ble_eq_true rfl)
  rw [lg_entry_eq]
  generalize (lg_sl ([.ref a, .ref a2]) ++ List.replicate (2 - (lg_sl ([.ref a, .ref a2])).length) Slot.unset).toArray = ls at hl ⊢
  have hl : lv_has ls 2 [(0, .ref a), (1, .ref a2)] := hl
  refine lv_aload_n hx hb d_Tag_narrowTo_0 rfl (lv_at hl 0 rfl) ?_
  refine lv_dup hx hb d_Tag_narrowTo_1 rfl ?_
  refine mm_get (D := D) (C := n_Tag) (T := T_Tag) (N := 2) (v := .int (nI o)) hx hb hts lay_Tag hown hK.1 hP h_0 rfl 0 (by decide) (hts _ (List.mem_cons_of_mem _ wd_96)) (fun _ h9 => h9) rfl d_Tag_narrowTo_2 ?_
  refine lv_aload_n hx hb d_Tag_narrowTo_5 rfl (lv_at hl 1 rfl) ?_
  refine mm_get (D := D) (C := n_Tag) (T := T_Tag) (N := 2) (v := .int (nI o2)) hx hb hts lay_Tag hown hK.1 hP h_2 rfl 0 (by decide) (hts _ (List.mem_cons_of_mem _ wd_96)) (fun _ h9 => h9) rfl d_Tag_narrowTo_6 ?_
  refine lv_iand hx hb d_Tag_narrowTo_9 ?_
  refine kk_top (bt_land _ _) ?_
  refine mm_put (D := D) (C := n_Tag) (T := T_Tag) (N := 2) (v := .int (nI (o &&& o2))) (ty := .int) hx hb hts lay_Tag t_Tag ty_Tag nm_Tag hown hK.1 hP hS h_0 rfl 0 (by decide) (hts _ (List.mem_cons_of_mem _ wd_96)) (fun _ h9 => h9) rfl (by decide +kernel) rfl rfl (Nat.le_of_ble_eq_true rfl) d_Tag_narrowTo_10 (fun H locs hP hz1 hS => ?_)
  have hz : H.size = sz := hz1.trans hz
  obtain ⟨w1, hw1⟩ : ∃ z : mm_M, z = mm_up w a (.inr (5, [.int (nI (o &&& o2)), .ref c1])) := ⟨_, rfl⟩
  have hP : mm_P B D kc w1 H := by rw [hw1]; exact hP
  have fr1 : ∀ j, j ≠ a → w1 j = w j := fun j h9 => by rw [hw1]; exact mm_un h9
  have fa1 : w1 a = some (.inr (5, [.int (nI (o &&& o2)), .ref c1])) := by rw [hw1]; exact mm_us _ _ _
  refine lv_aload_n hx hb d_Tag_narrowTo_13 rfl (lv_at hl 0 rfl) ?_
  refine mm_get (D := D) (C := n_Tag) (T := T_Tag) (N := 2) (v := .ref c1) hx hb hts lay_Tag hown hK.1 hP fa1 rfl 1 (by decide) (hts _ (List.mem_cons_of_mem _ wd_97)) (fun _ h9 => h9) rfl d_Tag_narrowTo_14 ?_
  refine lv_aload_n hx hb d_Tag_narrowTo_17 rfl (lv_at hl 1 rfl) ?_
  have f2 := (fr1 _ hne1).trans (h_2)
  refine mm_get (D := D) (C := n_Tag) (T := T_Tag) (N := 2) (v := .ref c2) hx hb hts lay_Tag hown hK.1 hP f2 rfl 1 (by decide) (hts _ (List.mem_cons_of_mem _ wd_97)) (fun _ h9 => h9) rfl d_Tag_narrowTo_18 ?_
  have f3 := (fr1 _ hne0.symm).trans (h_1)
  have f4 := (fr1 _ hne3).trans (h_3)
  refine kk_callv (va_runV (As := [.ref c2]) (rest := []) ⟨hx, hb, hml, hown, hts⟩ (c_Spn_narrowTo l f3 f4) (cwV 1 hts (gW_in (hd := [_, _, _, _, _]) (kk_5 wd_457 wd_442 wd_443 wd_7 cw_Spn_narrowTo)) rfl rfl rfl ⟨rfl, ds_Spn_narrowTo⟩ ⟨Nat.le_of_ble_eq_true rfl, Nat.le_of_ble_eq_true rfl⟩) (kk_preV hK hP hz hBz f3 rfl) rfl rfl hl.1 rfl (lv_room (Nat.le_of_ble_eq_true rfl)) d_Tag_narrowTo_21 ⟨Nat.le_of_ble_eq_true rfl, Nat.le_of_ble_eq_true rfl⟩) hS (fun w5 sz5 H locs hp5 hP hz hS => ?_)
  obtain ⟨he5, hs5⟩ := hp5
  have hz : H.size = sz := hz.trans hs5
  have hw6 : w5 = mm_up w1 c1 (.inr (6, [.int (if u < u2 then u2 else u), .int (if v2 < v then v2 else v)])) := he5
  have fr6 : ∀ j, j ≠ c1 → w5 j = w1 j := fun j h90 => by rw [hw6]; exact mm_un h90
  have fa6_0 : w5 c1 = some (.inr (6, [.int (if u < u2 then u2 else u), .int (if v2 < v then v2 else v)])) := by rw [hw6]; exact mm_us _ _ _
  exact W.vret hx hb hr (fun t ht hW => ⟨⟨(w5, sz), rfl, ⟨mm_e2 ((fr6 _ hne0).trans (fa1)) fa6_0 (fun j g0 g1 => (fr6 j g1).trans (fr1 j g0)), rfl⟩, by rw [ht]; exact hP, by rw [ht]; exact hz⟩, hS.F ht⟩) hS.2.2 d_Tag_narrowTo_24
theorem d_Tag_init_0 : decode k_Tag_init 0 = .ok (.aload_n 0, 1) := by decide +kernel
theorem d_Tag_init_1 : decode k_Tag_init 1 = .ok (.invokespecial 3, 3) := by decide +kernel
theorem d_Tag_init_4 : decode k_Tag_init 4 = .ok (.aload_n 0, 1) := by decide +kernel
theorem d_Tag_init_5 : decode k_Tag_init 5 = .ok (.sipush 255, 3) := by decide +kernel
theorem d_Tag_init_8 : decode k_Tag_init 8 = .ok (.putfield 9, 3) := by decide +kernel
theorem d_Tag_init_11 : decode k_Tag_init 11 = .ok (.aload_n 0, 1) := by decide +kernel
theorem d_Tag_init_12 : decode k_Tag_init 12 = .ok (.new 15, 3) := by decide +kernel
theorem d_Tag_init_15 : decode k_Tag_init 15 = .ok (.dup, 1) := by decide +kernel
theorem d_Tag_init_16 : decode k_Tag_init 16 = .ok (.ldc 17, 2) := by decide +kernel
theorem d_Tag_init_18 : decode k_Tag_init 18 = .ok (.ldc 18, 2) := by decide +kernel
theorem d_Tag_init_20 : decode k_Tag_init 20 = .ok (.invokespecial 19, 3) := by decide +kernel
theorem d_Tag_init_23 : decode k_Tag_init 23 = .ok (.putfield 22, 3) := by decide +kernel
theorem d_Tag_init_26 : decode k_Tag_init 26 = .ok (.return_, 1) := by decide +kernel
set_option maxHeartbeats 4000000 in
set_option maxRecDepth 100000 in
theorem c_Tag_init (l : Launch) {B : Nat} {D : va_G} {cI cZ cQ : ClassId} {w : mm_M} {sz : Nat} {a : Nat} (h_0 : w a = some (.inr (5, [.int 0, .null]))) (hasz : a < sz) : Met l y_Tag_init ws_Tag_init (kk_rm 2 1 2) (kk_Pc B D cI cZ cQ [.ref a] w sz) (kk_Qv B D (fun w' sz' => w' = mm_up (mm_up w a (.inr (5, [.int (nI 255), .ref sz]))) sz (.inr (6, [.int (-2147483648), .int 2147483647])) ∧ sz' = sz + 1)) 1 2 (fun q => B ≤ q) := by
  refine Met.ofW (cc := k_Tag_init) (maxL := 1) (ret := none) (by decide) rfl ?_
  intro p e s m args below meth c s₁ BB hml hv
  obtain ⟨rfl, hK, hP, hz, hBz⟩ := hv
  have hx := BB.exec
  have hb := BB.bytes
  have hr := BB.returns
  have hts := atoms_spec (ws := ws_Tag_init) BB.pre
  have hown : s.vm.findClass "DelegationClosure$Tag" = some m.cls := findClass_of_methodNamed BB.named
  have hlocks := BB.notSynchronized
  have hin : meth.name = "<init>" := (name_of_methodNamed BB.named BB.method).1
  have hS : mm_S B s.heap s.heap [] := va_S.rf
  have hl := lv_entry ([.ref a]) (n := 1) (Nat.le_of_ble_eq_true rfl)
  rw [lg_entry_eq]
  generalize (lg_sl ([.ref a]) ++ List.replicate (1 - (lg_sl ([.ref a])).length) Slot.unset).toArray = ls at hl ⊢
  have hl : lv_has ls 1 [(0, .ref a)] := hl
  refine lv_aload_n hx hb d_Tag_init_0 rfl (lv_at hl 0 rfl) ?_
  refine W.objInit hx hb hown (hts _ (List.mem_cons_of_mem _ wd_80)) (hts _ (List.mem_cons_of_mem _ wd_21)) (hts _ (List.mem_cons_of_mem _ wd_objcode)) rfl (by rw [hml]; exact hl.1) rfl d_Tag_init_1 (Nat.le_of_ble_eq_true rfl) (Nat.le_of_ble_eq_true rfl) ?_
  refine W.eq (g2 := F0 m 4 ls []) rfl ?_
  refine lv_aload_n hx hb d_Tag_init_4 rfl (lv_at hl 0 rfl) ?_
  refine lv_sipush (v := nI 255) hx hb d_Tag_init_5 (by decide) ?_
  refine mm_put (D := D) (C := n_Tag) (T := T_Tag) (N := 2) (v := .int (nI 255)) (ty := .int) hx hb hts lay_Tag t_Tag ty_Tag nm_Tag hown hK.1 hP hS h_0 rfl 0 (by decide) (hts _ (List.mem_cons_of_mem _ wd_96)) (fun _ h9 => h9) rfl (by decide +kernel) rfl rfl (Nat.le_of_ble_eq_true rfl) d_Tag_init_8 (fun H locs hP hz1 hS => ?_)
  have hz : H.size = sz := hz1.trans hz
  obtain ⟨w1, hw1⟩ : ∃ z : mm_M, z = mm_up w a (.inr (5, [.int (nI 255), .null])) := ⟨_, rfl⟩
  have hP : mm_P B D kc w1 H := by rw [hw1]; exact hP
  have fr1 : ∀ j, j ≠ a → w1 j = w j := fun j h9 => by rw [hw1]; exact mm_un h9
  have fa1 : w1 a = some (.inr (5, [.int (nI 255), .null])) := by rw [hw1]; exact mm_us _ _ _
  refine lv_aload_n hx hb d_Tag_init_11 rfl (lv_at hl 0 rfl) ?_
  refine mm_new (D := D) (C := n_Spn) (T := T_Spn) (N := 2) (ci := 6) (fs := [.int 0, .int 0]) (h := sz) hx hb hts lay_Spn t_Spn ty_Spn hown (hts _ (List.mem_cons_of_mem _ wd_81)) (hts _ (List.mem_cons_of_mem _ wd_82)) (hts _ (List.mem_cons_of_mem _ wd_7)) hK.1 hP hS rfl def_Spn (Nat.le_of_ble_eq_true rfl) (Nat.le_of_ble_eq_true rfl) hz (by omega) d_Tag_init_12 (fun H hP hz1 hS => ?_)
  have hz : H.size = sz + 1 := hz1
  obtain ⟨w2, hw2⟩ : ∃ z : mm_M, z = mm_up w1 sz (.inr (6, [.int 0, .int 0])) := ⟨_, rfl⟩
  have hP : mm_P B D kc w2 H := by rw [hw2]; exact hP
  have fr2 : ∀ j, j ≠ sz → w2 j = w1 j := fun j h9 => by rw [hw2]; exact mm_un h9
  have fa2 : w2 sz = some (.inr (6, [.int 0, .int 0])) := by rw [hw2]; exact mm_us _ _ _
  refine lv_dup hx hb d_Tag_init_15 rfl ?_
  refine lv_ldc hx hb hown (hts _ (List.mem_cons_of_mem _ wd_83)) d_Tag_init_16 ?_
  refine lv_ldc hx hb hown (hts _ (List.mem_cons_of_mem _ wd_84)) d_Tag_init_18 ?_
  refine kk_callv (va_runI (As := [.int (-2147483648), .int (2147483647)]) (rest := [.ref sz, .ref a]) ⟨hx, hb, hml, hown, hts⟩ (c_Spn_init l fa2) (cwI 2 hts (gW_in (hd := [_]) (kk_1 cw_Spn_init)) rfl rfl rfl (hts _ (List.mem_cons_of_mem _ wd_7)) (hts _ (List.mem_cons_of_mem _ wd_85)) (hts _ (List.mem_cons_of_mem _ wd_86)) rfl ds_Spn_init ⟨Nat.le_of_ble_eq_true rfl, Nat.le_of_ble_eq_true rfl⟩) (kk_preS hK hP hz (by omega)) rfl rfl hl.1 rfl (lv_room (Nat.le_of_ble_eq_true rfl)) d_Tag_init_20 ⟨Nat.le_of_ble_eq_true rfl, Nat.le_of_ble_eq_true rfl⟩) hS (fun w3 sz3 H locs hp3 hP hz hS => ?_)
  obtain ⟨he3, hs3⟩ := hp3
  have hz : H.size = sz + 1 := hz.trans hs3
  have hw4 : w3 = mm_up w2 sz (.inr (6, [.int (-2147483648), .int (2147483647)])) := he3
  have fr4 : ∀ j, j ≠ sz → w3 j = w2 j := fun j h90 => by rw [hw4]; exact mm_un h90
  have fa4_0 : w3 sz = some (.inr (6, [.int (-2147483648), .int (2147483647)])) := by rw [hw4]; exact mm_us _ _ _
  have f5 := (fr4 _ (by omega)).trans ((fr2 _ (by omega)).trans (fa1))
  refine mm_putF (D := D) (C := n_Tag) (T := T_Tag) (N := 2) (v := .ref sz) (ty := (.object "DelegationClosure$Span")) hx hb hts lay_Tag t_Tag ty_Tag nm_Tag hown hK.1 hP hS f5 rfl 1 (by decide) (hts _ (List.mem_cons_of_mem _ wd_97)) (fun _ h9 => h9) rfl hin rfl (by decide +kernel) rfl rfl (Nat.le_of_ble_eq_true rfl) d_Tag_init_23 (fun H locs hP hz1 hS => ?_)
  have hz : H.size = sz + 1 := hz1.trans hz
  obtain ⟨w6, hw6⟩ : ∃ z : mm_M, z = mm_up w3 a (.inr (5, [.int (nI 255), .ref sz])) := ⟨_, rfl⟩
  have hP : mm_P B D kc w6 H := by rw [hw6]; exact hP
  have fr6 : ∀ j, j ≠ a → w6 j = w3 j := fun j h9 => by rw [hw6]; exact mm_un h9
  have fa6 : w6 a = some (.inr (5, [.int (nI 255), .ref sz])) := by rw [hw6]; exact mm_us _ _ _
  exact W.vret hx hb hr (fun t ht hW => ⟨⟨(w6, sz + 1), rfl, ⟨mm_e2 fa6 ((fr6 _ (by omega)).trans (fa4_0)) (fun j g0 g1 => (fr6 j g0).trans ((fr4 j g1).trans ((fr2 j g1).trans (fr1 j g0)))), rfl⟩, by rw [ht]; exact hP, by rw [ht]; exact hz⟩, hS.F ht⟩) hS.2.2 d_Tag_init_26
