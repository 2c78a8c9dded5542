theorem d_Mod_init_0 : decode k_Mod_init 0 = .ok (.aload_n 0, 1) := by decide +kernel
theorem d_Mod_init_1 : decode k_Mod_init 1 = .ok (.invokespecial 1, 3) := by decide +kernel
theorem d_Mod_init_4 : decode k_Mod_init 4 = .ok (.aload_n 0, 1) := by decide +kernel
theorem d_Mod_init_5 : decode k_Mod_init 5 = .ok (.bipush 24, 2) := by decide +kernel
theorem d_Mod_init_7 : decode k_Mod_init 7 = .ok (.newarray .boolean, 2) := by decide +kernel
theorem d_Mod_init_9 : decode k_Mod_init 9 = .ok (.putfield 7, 3) := by decide +kernel
theorem d_Mod_init_12 : decode k_Mod_init 12 = .ok (.aload_n 0, 1) := by decide +kernel
theorem d_Mod_init_13 : decode k_Mod_init 13 = .ok (.bipush 24, 2) := by decide +kernel
theorem d_Mod_init_15 : decode k_Mod_init 15 = .ok (.newarray .boolean, 2) := by decide +kernel
theorem d_Mod_init_17 : decode k_Mod_init 17 = .ok (.putfield 13, 3) := by decide +kernel
theorem d_Mod_init_20 : decode k_Mod_init 20 = .ok (.aload_n 0, 1) := by decide +kernel
theorem d_Mod_init_21 : decode k_Mod_init 21 = .ok (.bipush 24, 2) := by decide +kernel
theorem d_Mod_init_23 : decode k_Mod_init 23 = .ok (.newarray .int, 2) := by decide +kernel
theorem d_Mod_init_25 : decode k_Mod_init 25 = .ok (.putfield 16, 3) := by decide +kernel
theorem d_Mod_init_28 : decode k_Mod_init 28 = .ok (.aload_n 0, 1) := by decide +kernel
theorem d_Mod_init_29 : decode k_Mod_init 29 = .ok (.bipush 24, 2) := by decide +kernel
theorem d_Mod_init_31 : decode k_Mod_init 31 = .ok (.newarray .int, 2) := by decide +kernel
theorem d_Mod_init_33 : decode k_Mod_init 33 = .ok (.putfield 20, 3) := by decide +kernel
theorem d_Mod_init_36 : decode k_Mod_init 36 = .ok (.aload_n 0, 1) := by decide +kernel
theorem d_Mod_init_37 : decode k_Mod_init 37 = .ok (.bipush 24, 2) := by decide +kernel
theorem d_Mod_init_39 : decode k_Mod_init 39 = .ok (.newarray .int, 2) := by decide +kernel
theorem d_Mod_init_41 : decode k_Mod_init 41 = .ok (.putfield 23, 3) := by decide +kernel
theorem d_Mod_init_44 : decode k_Mod_init 44 = .ok (.aload_n 0, 1) := by decide +kernel
theorem d_Mod_init_45 : decode k_Mod_init 45 = .ok (.bipush 24, 2) := by decide +kernel
theorem d_Mod_init_47 : decode k_Mod_init 47 = .ok (.newarray .int, 2) := by decide +kernel
theorem d_Mod_init_49 : decode k_Mod_init 49 = .ok (.putfield 26, 3) := by decide +kernel
theorem d_Mod_init_52 : decode k_Mod_init 52 = .ok (.aload_n 0, 1) := by decide +kernel
theorem d_Mod_init_53 : decode k_Mod_init 53 = .ok (.bipush 72, 2) := by decide +kernel
theorem d_Mod_init_55 : decode k_Mod_init 55 = .ok (.newarray .int, 2) := by decide +kernel
theorem d_Mod_init_57 : decode k_Mod_init 57 = .ok (.putfield 29, 3) := by decide +kernel
theorem d_Mod_init_60 : decode k_Mod_init 60 = .ok (.aload_n 0, 1) := by decide +kernel
theorem d_Mod_init_61 : decode k_Mod_init 61 = .ok (.bipush 24, 2) := by decide +kernel
theorem d_Mod_init_63 : decode k_Mod_init 63 = .ok (.newarray .int, 2) := by decide +kernel
theorem d_Mod_init_65 : decode k_Mod_init 65 = .ok (.putfield 32, 3) := by decide +kernel
theorem d_Mod_init_68 : decode k_Mod_init 68 = .ok (.aload_n 0, 1) := by decide +kernel
theorem d_Mod_init_69 : decode k_Mod_init 69 = .ok (.bipush 24, 2) := by decide +kernel
theorem d_Mod_init_71 : decode k_Mod_init 71 = .ok (.newarray .int, 2) := by decide +kernel
theorem d_Mod_init_73 : decode k_Mod_init 73 = .ok (.putfield 35, 3) := by decide +kernel
theorem d_Mod_init_76 : decode k_Mod_init 76 = .ok (.aload_n 0, 1) := by decide +kernel
theorem d_Mod_init_77 : decode k_Mod_init 77 = .ok (.bipush 24, 2) := by decide +kernel
theorem d_Mod_init_79 : decode k_Mod_init 79 = .ok (.newarray .int, 2) := by decide +kernel
theorem d_Mod_init_81 : decode k_Mod_init 81 = .ok (.putfield 38, 3) := by decide +kernel
theorem d_Mod_init_84 : decode k_Mod_init 84 = .ok (.aload_n 0, 1) := by decide +kernel
theorem d_Mod_init_85 : decode k_Mod_init 85 = .ok (.bipush 24, 2) := by decide +kernel
theorem d_Mod_init_87 : decode k_Mod_init 87 = .ok (.newarray .int, 2) := by decide +kernel
theorem d_Mod_init_89 : decode k_Mod_init 89 = .ok (.putfield 41, 3) := by decide +kernel
theorem d_Mod_init_92 : decode k_Mod_init 92 = .ok (.aload_n 0, 1) := by decide +kernel
theorem d_Mod_init_93 : decode k_Mod_init 93 = .ok (.bipush 24, 2) := by decide +kernel
theorem d_Mod_init_95 : decode k_Mod_init 95 = .ok (.newarray .int, 2) := by decide +kernel
theorem d_Mod_init_97 : decode k_Mod_init 97 = .ok (.putfield 44, 3) := by decide +kernel
theorem d_Mod_init_100 : decode k_Mod_init 100 = .ok (.aload_n 0, 1) := by decide +kernel
theorem d_Mod_init_101 : decode k_Mod_init 101 = .ok (.bipush 24, 2) := by decide +kernel
theorem d_Mod_init_103 : decode k_Mod_init 103 = .ok (.newarray .boolean, 2) := by decide +kernel
theorem d_Mod_init_105 : decode k_Mod_init 105 = .ok (.putfield 47, 3) := by decide +kernel
theorem d_Mod_init_108 : decode k_Mod_init 108 = .ok (.aload_n 0, 1) := by decide +kernel
theorem d_Mod_init_109 : decode k_Mod_init 109 = .ok (.sipush 256, 3) := by decide +kernel
theorem d_Mod_init_112 : decode k_Mod_init 112 = .ok (.newarray .int, 2) := by decide +kernel
theorem d_Mod_init_114 : decode k_Mod_init 114 = .ok (.putfield 50, 3) := by decide +kernel
theorem d_Mod_init_117 : decode k_Mod_init 117 = .ok (.aload_n 0, 1) := by decide +kernel
theorem d_Mod_init_118 : decode k_Mod_init 118 = .ok (.bipush 24, 2) := by decide +kernel
theorem d_Mod_init_120 : decode k_Mod_init 120 = .ok (.newarray .int, 2) := by decide +kernel
theorem d_Mod_init_122 : decode k_Mod_init 122 = .ok (.putfield 53, 3) := by decide +kernel
theorem d_Mod_init_125 : decode k_Mod_init 125 = .ok (.aload_n 0, 1) := by decide +kernel
theorem d_Mod_init_126 : decode k_Mod_init 126 = .ok (.iconst 5, 1) := by decide +kernel
theorem d_Mod_init_127 : decode k_Mod_init 127 = .ok (.newarray .int, 2) := by decide +kernel
theorem d_Mod_init_129 : decode k_Mod_init 129 = .ok (.putfield 56, 3) := by decide +kernel
theorem d_Mod_init_132 : decode k_Mod_init 132 = .ok (.return_, 1) := by decide +kernel
set_option maxHeartbeats 4000000 in
set_option maxRecDepth 100000 in
theorem c_Mod_init (l : Launch) {B : Nat} {D : va_G} {cI cZ cQ : ClassId} {w : mm_M} {sz : Nat} {a : Nat} (h_0 : w a = some (.inr (9, [.int 0, .null, .null, .null, .null, .null, .null, .null, .null, .null, .null, .null, .null, .null, .null, .null, .int 0, .int 0, .int 0, .null, .int 0, .int 0, .int 0, .int 0, .int 0, .int 0, .int 0]))) (hasz : a < sz) : Met l y_Mod_init ws_Mod_init (kk_rm 1 16 645) (kk_Pc B D cI cZ cQ [.ref a] w sz) (kk_Qv B D (fun w' sz' => w' = mm_up (mm_up (mm_up (mm_up (mm_up (mm_up (mm_up (mm_up (mm_up (mm_up (mm_up (mm_up (mm_up (mm_up (mm_up (mm_up (mm_up w a (.inr (9, [.int 0, .ref sz, .ref (sz + 1), .ref (sz + 2), .ref (sz + 3), .ref (sz + 4), .ref (sz + 5), .ref (sz + 6), .ref (sz + 7), .ref (sz + 8), .ref (sz + 9), .ref (sz + 10), .ref (sz + 11), .ref (sz + 12), .ref (sz + 13), .ref (sz + 14), .int 0, .int 0, .int 0, .ref (sz + 15), .int 0, .int 0, .int 0, .int 0, .int 0, .int 0, .int 0]))) sz (.inl (cZ, 24, .inl (fun i => nI ((fun _ => 0) i))))) (sz + 1) (.inl (cZ, 24, .inl (fun i => nI ((fun _ => 0) i))))) (sz + 2) (.inl (cI, 24, .inl (fun i => nI ((fun _ => 0) i))))) (sz + 3) (.inl (cI, 24, .inl (fun i => nI ((fun _ => 0) i))))) (sz + 4) (.inl (cI, 24, .inl (fun i => nI ((fun _ => 0) i))))) (sz + 5) (.inl (cI, 24, .inl (fun i => nI ((fun _ => 0) i))))) (sz + 6) (.inl (cI, 72, .inl (fun i => nI ((fun _ => 0) i))))) (sz + 7) (.inl (cI, 24, .inl (fun i => nI ((fun _ => 0) i))))) (sz + 8) (.inl (cI, 24, .inl (fun i => nI ((fun _ => 0) i))))) (sz + 9) (.inl (cI, 24, .inl (fun i => nI ((fun _ => 0) i))))) (sz + 10) (.inl (cI, 24, .inl (fun i => nI ((fun _ => 0) i))))) (sz + 11) (.inl (cI, 24, .inl (fun i => nI ((fun _ => 0) i))))) (sz + 12) (.inl (cZ, 24, .inl (fun i => nI ((fun _ => 0) i))))) (sz + 13) (.inl (cI, 256, .inl (fun i => nI ((fun _ => 0) i))))) (sz + 14) (.inl (cI, 24, .inl (fun i => nI ((fun _ => 0) i))))) (sz + 15) (.inl (cI, 5, .inl (fun i => nI ((fun _ => 0) i)))) ∧ sz' = sz + 16)) 16 645 (fun q => B ≤ q) := by
  refine Met.ofW (cc := k_Mod_init) (maxL := 1) (ret := none) (by decide) rfl ?_
  intro p e s m args below meth c s₁ BB hml hv
  obtain ⟨rfl, hK, hP, hz, hBz⟩ := hv
  have hx := BB.exec
  have hb := BB.bytes
  have hr := BB.returns
  have hts := atoms_spec (ws := ws_Mod_init) BB.pre
  have hown : s.vm.findClass "DelegationClosureModel" = some m.cls := findClass_of_methodNamed BB.named
  have hlocks := BB.notSynchronized
  have hin : meth.name = "<init>" := (name_of_methodNamed BB.named BB.method).1
  have hS : mm_S B s.heap s.heap [] := va_S.rf
  have hl := lv_entry ([.ref a]) (n := 1) (Nat.le_of_ble_eq_true rfl)
  rw [lg_entry_eq]
  generalize (lg_sl ([.ref a]) ++ List.replicate (1 - (lg_sl ([.ref a])).length) Slot.unset).toArray = ls at hl ⊢
  have hl : lv_has ls 1 [(0, .ref a)] := hl
  refine lv_aload_n hx hb d_Mod_init_0 rfl (lv_at hl 0 rfl) ?_
  refine W.objInit hx hb hown (hts _ (List.mem_cons_of_mem _ wd_490)) (hts _ (List.mem_cons_of_mem _ wd_21)) (hts _ (List.mem_cons_of_mem _ wd_objcode)) rfl (by rw [hml]; exact hl.1) rfl d_Mod_init_1 (Nat.le_of_ble_eq_true rfl) (Nat.le_of_ble_eq_true rfl) ?_
  refine W.eq (g2 := F0 m 4 ls []) rfl ?_
  refine lv_aload_n hx hb d_Mod_init_4 rfl (lv_at hl 0 rfl) ?_
  refine lv_bipush (v := nI 24) hx hb d_Mod_init_5 (by decide) ?_
  refine mm_newa (atype := .boolean) (cA := cZ) (a0 := (24, .inl (fun i => nI ((fun _ => 0) i)))) (h := sz) hx hb (hts _ (List.mem_cons_of_mem _ wd_68)) (va_nm_boolean (hK.1.2 1 _ rfl).2) hP hS (fun _ => rfl) (by decide) (by decide +kernel) (by decide) (show 1 ≤ 16 by decide) (show 24 ≤ 645 by decide) hz (by omega) d_Mod_init_7 (fun H hP hz1 hS => ?_)
  have hz : H.size = sz + 1 := hz1
  obtain ⟨w1, hw1⟩ : ∃ z : mm_M, z = mm_up w sz (.inl (cZ, 24, .inl (fun i => nI ((fun _ => 0) i)))) := ⟨_, rfl⟩
  have hP : mm_P B D kc w1 H := by rw [hw1]; exact hP
  have fr1 : ∀ j, j ≠ sz → w1 j = w j := fun j h9 => by rw [hw1]; exact mm_un h9
  have fa1 : w1 sz = some (.inl (cZ, 24, .inl (fun i => nI ((fun _ => 0) i)))) := by rw [hw1]; exact mm_us _ _ _
  refine W.widen (k := 1) (n := 24) (by decide) (by decide) ?_
  have f2 := (fr1 _ (by omega)).trans (h_0)
  refine mm_put (D := D) (C := n_Mod) (T := T_Mod) (N := 27) (v := .ref sz) (ty := (.array .boolean)) hx hb hts lay_Mod t_Mod ty_Mod nm_Mod hown hK.1 hP hS f2 rfl 1 (by decide) (hts _ (List.mem_cons_of_mem _ wd_492)) (fun _ h9 => h9) rfl (by decide +kernel) rfl rfl (Nat.le_of_ble_eq_true rfl) d_Mod_init_9 (fun H locs hP hz1 hS => ?_)
  have hz : H.size = sz + 1 := hz1.trans hz
  obtain ⟨w3, hw3⟩ : ∃ z : mm_M, z = mm_up w1 a (.inr (9, [.int 0, .ref sz, .null, .null, .null, .null, .null, .null, .null, .null, .null, .null, .null, .null, .null, .null, .int 0, .int 0, .int 0, .null, .int 0, .int 0, .int 0, .int 0, .int 0, .int 0, .int 0])) := ⟨_, rfl⟩
  have hP : mm_P B D kc w3 H := by rw [hw3]; exact hP
  have fr3 : ∀ j, j ≠ a → w3 j = w1 j := fun j h9 => by rw [hw3]; exact mm_un h9
  have fa3 : w3 a = some (.inr (9, [.int 0, .ref sz, .null, .null, .null, .null, .null, .null, .null, .null, .null, .null, .null, .null, .null, .null, .int 0, .int 0, .int 0, .null, .int 0, .int 0, .int 0, .int 0, .int 0, .int 0, .int 0])) := by rw [hw3]; exact mm_us _ _ _
  refine lv_aload_n hx hb d_Mod_init_12 rfl (lv_at hl 0 rfl) ?_
  refine lv_bipush (v := nI 24) hx hb d_Mod_init_13 (by decide) ?_
  refine mm_newa (atype := .boolean) (cA := cZ) (a0 := (24, .inl (fun i => nI ((fun _ => 0) i)))) (h := sz + 1) hx hb (hts _ (List.mem_cons_of_mem _ wd_68)) (va_nm_boolean (hK.1.2 1 _ rfl).2) hP hS (fun _ => rfl) (by decide) (by decide +kernel) (by decide) (show 2 ≤ 16 by decide) (show 48 ≤ 645 by decide) hz (by omega) d_Mod_init_15 (fun H hP hz1 hS => ?_)
  have hz : H.size = sz + 2 := hz1
  obtain ⟨w4, hw4⟩ : ∃ z : mm_M, z = mm_up w3 (sz + 1) (.inl (cZ, 24, .inl (fun i => nI ((fun _ => 0) i)))) := ⟨_, rfl⟩
  have hP : mm_P B D kc w4 H := by rw [hw4]; exact hP
  have fr4 : ∀ j, j ≠ sz + 1 → w4 j = w3 j := fun j h9 => by rw [hw4]; exact mm_un h9
  have fa4 : w4 (sz + 1) = some (.inl (cZ, 24, .inl (fun i => nI ((fun _ => 0) i)))) := by rw [hw4]; exact mm_us _ _ _
  refine W.widen (k := 2) (n := 48) (by decide) (by decide) ?_
  have f5 := (fr4 _ (by omega)).trans (fa3)
  refine mm_put (D := D) (C := n_Mod) (T := T_Mod) (N := 27) (v := .ref (sz + 1)) (ty := (.array .boolean)) hx hb hts lay_Mod t_Mod ty_Mod nm_Mod hown hK.1 hP hS f5 rfl 2 (by decide) (hts _ (List.mem_cons_of_mem _ wd_493)) (fun _ h9 => h9) rfl (by decide +kernel) rfl rfl (Nat.le_of_ble_eq_true rfl) d_Mod_init_17 (fun H locs hP hz1 hS => ?_)
  have hz : H.size = sz + 2 := hz1.trans hz
  obtain ⟨w6, hw6⟩ : ∃ z : mm_M, z = mm_up w4 a (.inr (9, [.int 0, .ref sz, .ref (sz + 1), .null, .null, .null, .null, .null, .null, .null, .null, .null, .null, .null, .null, .null, .int 0, .int 0, .int 0, .null, .int 0, .int 0, .int 0, .int 0, .int 0, .int 0, .int 0])) := ⟨_, rfl⟩
  have hP : mm_P B D kc w6 H := by rw [hw6]; exact hP
  have fr6 : ∀ j, j ≠ a → w6 j = w4 j := fun j h9 => by rw [hw6]; exact mm_un h9
  have fa6 : w6 a = some (.inr (9, [.int 0, .ref sz, .ref (sz + 1), .null, .null, .null, .null, .null, .null, .null, .null, .null, .null, .null, .null, .null, .int 0, .int 0, .int 0, .null, .int 0, .int 0, .int 0, .int 0, .int 0, .int 0, .int 0])) := by rw [hw6]; exact mm_us _ _ _
  refine lv_aload_n hx hb d_Mod_init_20 rfl (lv_at hl 0 rfl) ?_
  refine lv_bipush (v := nI 24) hx hb d_Mod_init_21 (by decide) ?_
  refine mm_newa (atype := .int) (cA := cI) (a0 := (24, .inl (fun i => nI ((fun _ => 0) i)))) (h := sz + 2) hx hb (hts _ (List.mem_cons_of_mem _ wd_51)) (va_nm_int (hK.1.2 0 _ rfl).2) hP hS (fun _ => rfl) (by decide) (by decide +kernel) (by decide) (show 3 ≤ 16 by decide) (show 72 ≤ 645 by decide) hz (by omega) d_Mod_init_23 (fun H hP hz1 hS => ?_)
  have hz : H.size = sz + 3 := hz1
  obtain ⟨w7, hw7⟩ : ∃ z : mm_M, z = mm_up w6 (sz + 2) (.inl (cI, 24, .inl (fun i => nI ((fun _ => 0) i)))) := ⟨_, rfl⟩
  have hP : mm_P B D kc w7 H := by rw [hw7]; exact hP
  have fr7 : ∀ j, j ≠ sz + 2 → w7 j = w6 j := fun j h9 => by rw [hw7]; exact mm_un h9
  have fa7 : w7 (sz + 2) = some (.inl (cI, 24, .inl (fun i => nI ((fun _ => 0) i)))) := by rw [hw7]; exact mm_us _ _ _
  refine W.widen (k := 3) (n := 72) (by decide) (by decide) ?_
  have f8 := (fr7 _ (by omega)).trans (fa6)
  refine mm_put (D := D) (C := n_Mod) (T := T_Mod) (N := 27) (v := .ref (sz + 2)) (ty := (.array .int)) hx hb hts lay_Mod t_Mod ty_Mod nm_Mod hown hK.1 hP hS f8 rfl 3 (by decide) (hts _ (List.mem_cons_of_mem _ wd_494)) (fun _ h9 => h9) rfl (by decide +kernel) rfl rfl (Nat.le_of_ble_eq_true rfl) d_Mod_init_25 (fun H locs hP hz1 hS => ?_)
  have hz : H.size = sz + 3 := hz1.trans hz
  obtain ⟨w9, hw9⟩ : ∃ z : mm_M, z = mm_up w7 a (.inr (9, [.int 0, .ref sz, .ref (sz + 1), .ref (sz + 2), .null, .null, .null, .null, .null, .null, .null, .null, .null, .null, .null, .null, .int 0, .int 0, .int 0, .null, .int 0, .int 0, .int 0, .int 0, .int 0, .int 0, .int 0])) := ⟨_, rfl⟩
  have hP : mm_P B D kc w9 H := by rw [hw9]; exact hP
  have fr9 : ∀ j, j ≠ a → w9 j = w7 j := fun j h9 => by rw [hw9]; exact mm_un h9
  have fa9 : w9 a = some (.inr (9, [.int 0, .ref sz, .ref (sz + 1), .ref (sz + 2), .null, .null, .null, .null, .null, .null, .null, .null, .null, .null, .null, .null, .int 0, .int 0, .int 0, .null, .int 0, .int 0, .int 0, .int 0, .int 0, .int 0, .int 0])) := by rw [hw9]; exact mm_us _ _ _
  refine lv_aload_n hx hb d_Mod_init_28 rfl (lv_at hl 0 rfl) ?_
  refine lv_bipush (v := nI 24) hx hb d_Mod_init_29 (by decide) ?_
  refine mm_newa (atype := .int) (cA := cI) (a0 := (24, .inl (fun i => nI ((fun _ => 0) i)))) (h := sz + 3) hx hb (hts _ (List.mem_cons_of_mem _ wd_51)) (va_nm_int (hK.1.2 0 _ rfl).2) hP hS (fun _ => rfl) (by decide) (by decide +kernel) (by decide) (show 4 ≤ 16 by decide) (show 96 ≤ 645 by decide) hz (by omega) d_Mod_init_31 (fun H hP hz1 hS => ?_)
  have hz : H.size = sz + 4 := hz1
  obtain ⟨w10, hw10⟩ : ∃ z : mm_M, z = mm_up w9 (sz + 3) (.inl (cI, 24, .inl (fun i => nI ((fun _ => 0) i)))) := ⟨_, rfl⟩
  have hP : mm_P B D kc w10 H := by rw [hw10]; exact hP
  have fr10 : ∀ j, j ≠ sz + 3 → w10 j = w9 j := fun j h9 => by rw [hw10]; exact mm_un h9
  have fa10 : w10 (sz + 3) = some (.inl (cI, 24, .inl (fun i => nI ((fun _ => 0) i)))) := by rw [hw10]; exact mm_us _ _ _
  refine W.widen (k := 4) (n := 96) (by decide) (by decide) ?_
  have f11 := (fr10 _ (by omega)).trans (fa9)
  refine mm_put (D := D) (C := n_Mod) (T := T_Mod) (N := 27) (v := .ref (sz + 3)) (ty := (.array .int)) hx hb hts lay_Mod t_Mod ty_Mod nm_Mod hown hK.1 hP hS f11 rfl 4 (by decide) (hts _ (List.mem_cons_of_mem _ wd_495)) (fun _ h9 => h9) rfl (by decide +kernel) rfl rfl (Nat.le_of_ble_eq_true rfl) d_Mod_init_33 (fun H locs hP hz1 hS => ?_)
  have hz : H.size = sz + 4 := hz1.trans hz
  obtain ⟨w12, hw12⟩ : ∃ z : mm_M, z = mm_up w10 a (.inr (9, [.int 0, .ref sz, .ref (sz + 1), .ref (sz + 2), .ref (sz + 3), .null, .null, .null, .null, .null, .null, .null, .null, .null, .null, .null, .int 0, .int 0, .int 0, .null, .int 0, .int 0, .int 0, .int 0, .int 0, .int 0, .int 0])) := ⟨_, rfl⟩
  have hP : mm_P B D kc w12 H := by rw [hw12]; exact hP
  have fr12 : ∀ j, j ≠ a → w12 j = w10 j := fun j h9 => by rw [hw12]; exact mm_un h9
  have fa12 : w12 a = some (.inr (9, [.int 0, .ref sz, .ref (sz + 1), .ref (sz + 2), .ref (sz + 3), .null, .null, .null, .null, .null, .null, .null, .null, .null, .null, .null, .int 0, .int 0, .int 0, .null, .int 0, .int 0, .int 0, .int 0, .int 0, .int 0, .int 0])) := by rw [hw12]; exact mm_us _ _ _
  refine lv_aload_n hx hb d_Mod_init_36 rfl (lv_at hl 0 rfl) ?_
  refine lv_bipush (v := nI 24) hx hb d_Mod_init_37 (by decide) ?_
  refine mm_newa (atype := .int) (cA := cI) (a0 := (24, .inl (fun i => nI ((fun _ => 0) i)))) (h := sz + 4) hx hb (hts _ (List.mem_cons_of_mem _ wd_51)) (va_nm_int (hK.1.2 0 _ rfl).2) hP hS (fun _ => rfl) (by decide) (by decide +kernel) (by decide) (show 5 ≤ 16 by decide) (show 120 ≤ 645 by decide) hz (by omega) d_Mod_init_39 (fun H hP hz1 hS => ?_)
  have hz : H.size = sz + 5 := hz1
  obtain ⟨w13, hw13⟩ : ∃ z : mm_M, z = mm_up w12 (sz + 4) (.inl (cI, 24, .inl (fun i => nI ((fun _ => 0) i)))) := ⟨_, rfl⟩
  have hP : mm_P B D kc w13 H := by rw [hw13]; exact hP
  have fr13 : ∀ j, j ≠ sz + 4 → w13 j = w12 j := fun j h9 => by rw [hw13]; exact mm_un h9
  have fa13 : w13 (sz + 4) = some (.inl (cI, 24, .inl (fun i => nI ((fun _ => 0) i)))) := by rw [hw13]; exact mm_us _ _ _
  refine W.widen (k := 5) (n := 120) (by decide) (by decide) ?_
  have f14 := (fr13 _ (by omega)).trans (fa12)
  refine mm_put (D := D) (C := n_Mod) (T := T_Mod) (N := 27) (v := .ref (sz + 4)) (ty := (.array .int)) hx hb hts lay_Mod t_Mod ty_Mod nm_Mod hown hK.1 hP hS f14 rfl 5 (by decide) (hts _ (List.mem_cons_of_mem _ wd_496)) (fun _ h9 => h9) rfl (by decide +kernel) rfl rfl (Nat.le_of_ble_eq_true rfl) d_Mod_init_41 (fun H locs hP hz1 hS => ?_)
  have hz : H.size = sz + 5 := hz1.trans hz
  obtain ⟨w15, hw15⟩ : ∃ z : mm_M, z = mm_up w13 a (.inr (9, [.int 0, .ref sz, .ref (sz + 1), .ref (sz + 2), .ref (sz + 3), .ref (sz + 4), .null, .null, .null, .null, .null, .null, .null, .null, .null, .null, .int 0, .int 0, .int 0, .null, .int 0, .int 0, .int 0, .int 0, .int 0, .int 0, .int 0])) := ⟨_, rfl⟩
  have hP : mm_P B D kc w15 H := by rw [hw15]; exact hP
  have fr15 : ∀ j, j ≠ a → w15 j = w13 j := fun j h9 => by rw [hw15]; exact mm_un h9
  have fa15 : w15 a = some (.inr (9, [.int 0, .ref sz, .ref (sz + 1), .ref (sz + 2), .ref (sz + 3), .ref (sz + 4), .null, .null, .null, .null, .null, .null, .null, .null, .null, .null, .int 0, .int 0, .int 0, .null, .int 0, .int 0, .int 0, .int 0, .int 0, .int 0, .int 0])) := by rw [hw15]; exact mm_us _ _ _
  refine lv_aload_n hx hb d_Mod_init_44 rfl (lv_at hl 0 rfl) ?_
  refine lv_bipush (v := nI 24) hx hb d_Mod_init_45 (by decide) ?_
  refine mm_newa (atype := .int) (cA := cI) (a0 := (24, .inl (fun i => nI ((fun _ => 0) i)))) (h := sz + 5) hx hb (hts _ (List.mem_cons_of_mem _ wd_51)) (va_nm_int (hK.1.2 0 _ rfl).2) hP hS (fun _ => rfl) (by decide) (by decide +kernel) (by decide) (show 6 ≤ 16 by decide) (show 144 ≤ 645 by decide) hz (by omega) d_Mod_init_47 (fun H hP hz1 hS => ?_)
  have hz : H.size = sz + 6 := hz1
  obtain ⟨w16, hw16⟩ : ∃ z : mm_M, z = mm_up w15 (sz + 5) (.inl (cI, 24, .inl (fun i => nI ((fun _ => 0) i)))) := ⟨_, rfl⟩
  have hP : mm_P B D kc w16 H := by rw [hw16]; exact hP
  have fr16 : ∀ j, j ≠ sz + 5 → w16 j = w15 j := fun j h9 => by rw [hw16]; exact mm_un h9
  have fa16 : w16 (sz + 5) = some (.inl (cI, 24, .inl (fun i => nI ((fun _ => 0) i)))) := by rw [hw16]; exact mm_us _ _ _
  refine W.widen (k := 6) (n := 144) (by decide) (by decide) ?_
  have f17 := (fr16 _ (by omega)).trans (fa15)
  refine mm_put (D := D) (C := n_Mod) (T := T_Mod) (N := 27) (v := .ref (sz + 5)) (ty := (.array .int)) hx hb hts lay_Mod t_Mod ty_Mod nm_Mod hown hK.1 hP hS f17 rfl 6 (by decide) (hts _ (List.mem_cons_of_mem _ wd_497)) (fun _ h9 => h9) rfl (by decide +kernel) rfl rfl (Nat.le_of_ble_eq_true rfl) d_Mod_init_49 (fun H locs hP hz1 hS => ?_)
  have hz : H.size = sz + 6 := hz1.trans hz
  obtain ⟨w18, hw18⟩ : ∃ z : mm_M, z = mm_up w16 a (.inr (9, [.int 0, .ref sz, .ref (sz + 1), .ref (sz + 2), .ref (sz + 3), .ref (sz + 4), .ref (sz + 5), .null, .null, .null, .null, .null, .null, .null, .null, .null, .int 0, .int 0, .int 0, .null, .int 0, .int 0, .int 0, .int 0, .int 0, .int 0, .int 0])) := ⟨_, rfl⟩
  have hP : mm_P B D kc w18 H := by rw [hw18]; exact hP
  have fr18 : ∀ j, j ≠ a → w18 j = w16 j := fun j h9 => by rw [hw18]; exact mm_un h9
  have fa18 : w18 a = some (.inr (9, [.int 0, .ref sz, .ref (sz + 1), .ref (sz + 2), .ref (sz + 3), .ref (sz + 4), .ref (sz + 5), .null, .null, .null, .null, .null, .null, .null, .null, .null, .int 0, .int 0, .int 0, .null, .int 0, .int 0, .int 0, .int 0, .int 0, .int 0, .int 0])) := by rw [hw18]; exact mm_us _ _ _
  refine lv_aload_n hx hb d_Mod_init_52 rfl (lv_at hl 0 rfl) ?_
  refine lv_bipush (v := nI 72) hx hb d_Mod_init_53 (by decide) ?_
  refine mm_newa (atype := .int) (cA := cI) (a0 := (72, .inl (fun i => nI ((fun _ => 0) i)))) (h := sz + 6) hx hb (hts _ (List.mem_cons_of_mem _ wd_51)) (va_nm_int (hK.1.2 0 _ rfl).2) hP hS (fun _ => rfl) (by decide) (by decide +kernel) (by decide) (show 7 ≤ 16 by decide) (show 216 ≤ 645 by decide) hz (by omega) d_Mod_init_55 (fun H hP hz1 hS => ?_)
  have hz : H.size = sz + 7 := hz1
  obtain ⟨w19, hw19⟩ : ∃ z : mm_M, z = mm_up w18 (sz + 6) (.inl (cI, 72, .inl (fun i => nI ((fun _ => 0) i)))) := ⟨_, rfl⟩
  have hP : mm_P B D kc w19 H := by rw [hw19]; exact hP
  have fr19 : ∀ j, j ≠ sz + 6 → w19 j = w18 j := fun j h9 => by rw [hw19]; exact mm_un h9
  have fa19 : w19 (sz + 6) = some (.inl (cI, 72, .inl (fun i => nI ((fun _ => 0) i)))) := by rw [hw19]; exact mm_us _ _ _
  refine W.widen (k := 7) (n := 216) (by decide) (by decide) ?_
  have f20 := (fr19 _ (by omega)).trans (fa18)
  refine mm_put (D := D) (C := n_Mod) (T := T_Mod) (N := 27) (v := .ref (sz + 6)) (ty := (.array .int)) hx hb hts lay_Mod t_Mod ty_Mod nm_Mod hown hK.1 hP hS f20 rfl 7 (by decide) (hts _ (List.mem_cons_of_mem _ wd_498)) (fun _ h9 => h9) rfl (by decide +kernel) rfl rfl (Nat.le_of_ble_eq_true rfl) d_Mod_init_57 (fun H locs hP hz1 hS => ?_)
  have hz : H.size = sz + 7 := hz1.trans hz
  obtain ⟨w21, hw21⟩ : ∃ z : mm_M, z = mm_up w19 a (.inr (9, [.int 0, .ref sz, .ref (sz + 1), .ref (sz + 2), .ref (sz + 3), .ref (sz + 4), .ref (sz + 5), .ref (sz + 6), .null, .null, .null, .null, .null, .null, .null, .null, .int 0, .int 0, .int 0, .null, .int 0, .int 0, .int 0, .int 0, .int 0, .int 0, .int 0])) := ⟨_, rfl⟩
  have hP : mm_P B D kc w21 H := by rw [hw21]; exact hP
  have fr21 : ∀ j, j ≠ a → w21 j = w19 j := fun j h9 => by rw [hw21]; exact mm_un h9
  have fa21 : w21 a = some (.inr (9, [.int 0, .ref sz, .ref (sz + 1), .ref (sz + 2), .ref (sz + 3), .ref (sz + 4), .ref (sz + 5), .ref (sz + 6), .null, .null, .null, .null, .null, .null, .null, .null, .int 0, .int 0, .int 0, .null, .int 0, .int 0, .int 0, .int 0, .int 0, .int 0, .int 0])) := by rw [hw21]; exact mm_us _ _ _
  refine lv_aload_n hx hb d_Mod_init_60 rfl (lv_at hl 0 rfl) ?_
  refine lv_bipush (v := nI 24) hx hb d_Mod_init_61 (by decide) ?_
  refine mm_newa (atype := .int) (cA := cI) (a0 := (24, .inl (fun i => nI ((fun _ => 0) i)))) (h := sz + 7) hx hb (hts _ (List.mem_cons_of_mem _ wd_51)) (va_nm_int (hK.1.2 0 _ rfl).2) hP hS (fun _ => rfl) (by decide) (by decide +kernel) (by decide) (show 8 ≤ 16 by decide) (show 240 ≤ 645 by decide) hz (by omega) d_Mod_init_63 (fun H hP hz1 hS => ?_)
  have hz : H.size = sz + 8 := hz1
  obtain ⟨w22, hw22⟩ : ∃ z : mm_M, z = mm_up w21 (sz + 7) (.inl (cI, 24, .inl (fun i => nI ((fun _ => 0) i)))) := ⟨_, rfl⟩
  have hP : mm_P B D kc w22 H := by rw [hw22]; exact hP
  have fr22 : ∀ j, j ≠ sz + 7 → w22 j = w21 j := fun j h9 => by rw [hw22]; exact mm_un h9
  have fa22 : w22 (sz + 7) = some (.inl (cI, 24, .inl (fun i => nI ((fun _ => 0) i)))) := by rw [hw22]; exact mm_us _ _ _
  refine W.widen (k := 8) (n := 240) (by decide) (by decide) ?_
  have f23 := (fr22 _ (by omega)).trans (fa21)
  refine mm_put (D := D) (C := n_Mod) (T := T_Mod) (N := 27) (v := .ref (sz + 7)) (ty := (.array .int)) hx hb hts lay_Mod t_Mod ty_Mod nm_Mod hown hK.1 hP hS f23 rfl 8 (by decide) (hts _ (List.mem_cons_of_mem _ wd_499)) (fun _ h9 => h9) rfl (by decide +kernel) rfl rfl (Nat.le_of_ble_eq_true rfl) d_Mod_init_65 (fun H locs hP hz1 hS => ?_)
  have hz : H.size = sz + 8 := hz1.trans hz
  obtain ⟨w24, hw24⟩ : ∃ z : mm_M, z = mm_up w22 a (.inr (9, [.int 0, .ref sz, .ref (sz + 1), .ref (sz + 2), .ref (sz + 3), .ref (sz + 4), .ref (sz + 5), .ref (sz + 6), .ref (sz + 7), .null, .null, .null, .null, .null, .null, .null, .int 0, .int 0, .int 0, .null, .int 0, .int 0, .int 0, .int 0, .int 0, .int 0, .int 0])) := ⟨_, rfl⟩
  have hP : mm_P B D kc w24 H := by rw [hw24]; exact hP
  have fr24 : ∀ j, j ≠ a → w24 j = w22 j := fun j h9 => by rw [hw24]; exact mm_un h9
  have fa24 : w24 a = some (.inr (9, [.int 0, .ref sz, .ref (sz + 1), .ref (sz + 2), .ref (sz + 3), .ref (sz + 4), .ref (sz + 5), .ref (sz + 6), .ref (sz + 7), .null, .null, .null, .null, .null, .null, .null, .int 0, .int 0, .int 0, .null, .int 0, .int 0, .int 0, .int 0, .int 0, .int 0, .int 0])) := by rw [hw24]; exact mm_us _ _ _
  refine lv_aload_n hx hb d_Mod_init_68 rfl (lv_at hl 0 rfl) ?_
  refine lv_bipush (v := nI 24) hx hb d_Mod_init_69 (by decide) ?_
  refine mm_newa (atype := .int) (cA := cI) (a0 := (24, .inl (fun i => nI ((fun _ => 0) i)))) (h := sz + 8) hx hb (hts _ (List.mem_cons_of_mem _ wd_51)) (va_nm_int (hK.1.2 0 _ rfl).2) hP hS (fun _ => rfl) (by decide) (by decide +kernel) (by decide) (show 9 ≤ 16 by decide) (show 264 ≤ 645 by decide) hz (by omega) d_Mod_init_71 (fun H hP hz1 hS => ?_)
  have hz : H.size = sz + 9 := hz1
  obtain ⟨w25, hw25⟩ : ∃ z : mm_M, z = mm_up w24 (sz + 8) (.inl (cI, 24, .inl (fun i => nI ((fun _ => 0) i)))) := ⟨_, rfl⟩
  have hP : mm_P B D kc w25 H := by rw [hw25]; exact hP
  have fr25 : ∀ j, j ≠ sz + 8 → w25 j = w24 j := fun j h9 => by rw [hw25]; exact mm_un h9
  have fa25 : w25 (sz + 8) = some (.inl (cI, 24, .inl (fun i => nI ((fun _ => 0) i)))) := by rw [hw25]; exact mm_us _ _ _
  refine W.widen (k := 9) (n := 264) (by decide) (by decide) ?_
  have f26 := (fr25 _ (by omega)).trans (fa24)
  refine mm_put (D := D) (C := n_Mod) (T := T_Mod) (N := 27) (v := .ref (sz + 8)) (ty := (.array .int)) hx hb hts lay_Mod t_Mod ty_Mod nm_Mod hown hK.1 hP hS f26 rfl 9 (by decide) (hts _ (List.mem_cons_of_mem _ wd_500)) (fun _ h9 => h9) rfl (by decide +kernel) rfl rfl (Nat.le_of_ble_eq_true rfl) d_Mod_init_73 (fun H locs hP hz1 hS => ?_)
  have hz : H.size = sz + 9 := hz1.trans hz
  obtain ⟨w27, hw27⟩ : ∃ z : mm_M, z = mm_up w25 a (.inr (9, [.int 0, .ref sz, .ref (sz + 1), .ref (sz + 2), .ref (sz + 3), .ref (sz + 4), .ref (sz + 5), .ref (sz + 6), .ref (sz + 7), .ref (sz + 8), .null, .null, .null, .null, .null, .null, .int 0, .int 0, .int 0, .null, .int 0, .int 0, .int 0, .int 0, .int 0, .int 0, .int 0])) := ⟨_, rfl⟩
  have hP : mm_P B D kc w27 H := by rw [hw27]; exact hP
  have fr27 : ∀ j, j ≠ a → w27 j = w25 j := fun j h9 => by rw [hw27]; exact mm_un h9
  have fa27 : w27 a = some (.inr (9, [.int 0, .ref sz, .ref (sz + 1), .ref (sz + 2), .ref (sz + 3), .ref (sz + 4), .ref (sz + 5), .ref (sz + 6), .ref (sz + 7), .ref (sz + 8), .null, .null, .null, .null, .null, .null, .int 0, .int 0, .int 0, .null, .int 0, .int 0, .int 0, .int 0, .int 0, .int 0, .int 0])) := by rw [hw27]; exact mm_us _ _ _
  refine lv_aload_n hx hb d_Mod_init_76 rfl (lv_at hl 0 rfl) ?_
  refine lv_bipush (v := nI 24) hx hb d_Mod_init_77 (by decide) ?_
  refine mm_newa (atype := .int) (cA := cI) (a0 := (24, .inl (fun i => nI ((fun _ => 0) i)))) (h := sz + 9) hx hb (hts _ (List.mem_cons_of_mem _ wd_51)) (va_nm_int (hK.1.2 0 _ rfl).2) hP hS (fun _ => rfl) (by decide) (by decide +kernel) (by decide) (show 10 ≤ 16 by decide) (show 288 ≤ 645 by decide) hz (by omega) d_Mod_init_79 (fun H hP hz1 hS => ?_)
  have hz : H.size = sz + 10 := hz1
  obtain ⟨w28, hw28⟩ : ∃ z : mm_M, z = mm_up w27 (sz + 9) (.inl (cI, 24, .inl (fun i => nI ((fun _ => 0) i)))) := ⟨_, rfl⟩
  have hP : mm_P B D kc w28 H := by rw [hw28]; exact hP
  have fr28 : ∀ j, j ≠ sz + 9 → w28 j = w27 j := fun j h9 => by rw [hw28]; exact mm_un h9
  have fa28 : w28 (sz + 9) = some (.inl (cI, 24, .inl (fun i => nI ((fun _ => 0) i)))) := by rw [hw28]; exact mm_us _ _ _
  refine W.widen (k := 10) (n := 288) (by decide) (by decide) ?_
  have f29 := (fr28 _ (by omega)).trans (fa27)
  refine mm_put (D := D) (C := n_Mod) (T := T_Mod) (N := 27) (v := .ref (sz + 9)) (ty := (.array .int)) hx hb hts lay_Mod t_Mod ty_Mod nm_Mod hown hK.1 hP hS f29 rfl 10 (by decide) (hts _ (List.mem_cons_of_mem _ wd_501)) (fun _ h9 => h9) rfl (by decide +kernel) rfl rfl (Nat.le_of_ble_eq_true rfl) d_Mod_init_81 (fun H locs hP hz1 hS => ?_)
  have hz : H.size = sz + 10 := hz1.trans hz
  obtain ⟨w30, hw30⟩ : ∃ z : mm_M, z = mm_up w28 a (.inr (9, [.int 0, .ref sz, .ref (sz + 1), .ref (sz + 2), .ref (sz + 3), .ref (sz + 4), .ref (sz + 5), .ref (sz + 6), .ref (sz + 7), .ref (sz + 8), .ref (sz + 9), .null, .null, .null, .null, .null, .int 0, .int 0, .int 0, .null, .int 0, .int 0, .int 0, .int 0, .int 0, .int 0, .int 0])) := ⟨_, rfl⟩
  have hP : mm_P B D kc w30 H := by rw [hw30]; exact hP
  have fr30 : ∀ j, j ≠ a → w30 j = w28 j := fun j h9 => by rw [hw30]; exact mm_un h9
  have fa30 : w30 a = some (.inr (9, [.int 0, .ref sz, .ref (sz + 1), .ref (sz + 2), .ref (sz + 3), .ref (sz + 4), .ref (sz + 5), .ref (sz + 6), .ref (sz + 7), .ref (sz + 8), .ref (sz + 9), .null, .null, .null, .null, .null, .int 0, .int 0, .int 0, .null, .int 0, .int 0, .int 0, .int 0, .int 0, .int 0, .int 0])) := by rw [hw30]; exact mm_us _ _ _
  refine lv_aload_n hx hb d_Mod_init_84 rfl (lv_at hl 0 rfl) ?_
  refine lv_bipush (v := nI 24) hx hb d_Mod_init_85 (by decide) ?_
  refine mm_newa (atype := .int) (cA := cI) (a0 := (24, .inl (fun i => nI ((fun _ => 0) i)))) (h := sz + 10) hx hb (hts _ (List.mem_cons_of_mem _ wd_51)) (va_nm_int (hK.1.2 0 _ rfl).2) hP hS (fun _ => rfl) (by decide) (by decide +kernel) (by decide) (show 11 ≤ 16 by decide) (show 312 ≤ 645 by decide) hz (by omega) d_Mod_init_87 (fun H hP hz1 hS => ?_)
  have hz : H.size = sz + 11 := hz1
  obtain ⟨w31, hw31⟩ : ∃ z : mm_M, z = mm_up w30 (sz + 10) (.inl (cI, 24, .inl (fun i => nI ((fun _ => 0) i)))) := ⟨_, rfl⟩
  have hP : mm_P B D kc w31 H := by rw [hw31]; exact hP
  have fr31 : ∀ j, j ≠ sz + 10 → w31 j = w30 j := fun j h9 => by rw [hw31]; exact mm_un h9
  have fa31 : w31 (sz + 10) = some (.inl (cI, 24, .inl (fun i => nI ((fun _ => 0) i)))) := by rw [hw31]; exact mm_us _ _ _
  refine W.widen (k := 11) (n := 312) (by decide) (by decide) ?_
  have f32 := (fr31 _ (by omega)).trans (fa30)
  refine mm_put (D := D) (C := n_Mod) (T := T_Mod) (N := 27) (v := .ref (sz + 10)) (ty := (.array .int)) hx hb hts lay_Mod t_Mod ty_Mod nm_Mod hown hK.1 hP hS f32 rfl 11 (by decide) (hts _ (List.mem_cons_of_mem _ wd_502)) (fun _ h9 => h9) rfl (by decide +kernel) rfl rfl (Nat.le_of_ble_eq_true rfl) d_Mod_init_89 (fun H locs hP hz1 hS => ?_)
  have hz : H.size = sz + 11 := hz1.trans hz
  obtain ⟨w33, hw33⟩ : ∃ z : mm_M, z = mm_up w31 a (.inr (9, [.int 0, .ref sz, .ref (sz + 1), .ref (sz + 2), .ref (sz + 3), .ref (sz + 4), .ref (sz + 5), .ref (sz + 6), .ref (sz + 7), .ref (sz + 8), .ref (sz + 9), .ref (sz + 10), .null, .null, .null, .null, .int 0, .int 0, .int 0, .null, .int 0, .int 0, .int 0, .int 0, .int 0, .int 0, .int 0])) := ⟨_, rfl⟩
  have hP : mm_P B D kc w33 H := by rw [hw33]; exact hP
  have fr33 : ∀ j, j ≠ a → w33 j = w31 j := fun j h9 => by rw [hw33]; exact mm_un h9
  have fa33 : w33 a = some (.inr (9, [.int 0, .ref sz, .ref (sz + 1), .ref (sz + 2), .ref (sz + 3), .ref (sz + 4), .ref (sz + 5), .ref (sz + 6), .ref (sz + 7), .ref (sz + 8), .ref (sz + 9), .ref (sz + 10), .null, .null, .null, .null, .int 0, .int 0, .int 0, .null, .int 0, .int 0, .int 0, .int 0, .int 0, .int 0, .int 0])) := by rw [hw33]; exact mm_us _ _ _
  refine lv_aload_n hx hb d_Mod_init_92 rfl (lv_at hl 0 rfl) ?_
  refine lv_bipush (v := nI 24) hx hb d_Mod_init_93 (by decide) ?_
  refine mm_newa (atype := .int) (cA := cI) (a0 := (24, .inl (fun i => nI ((fun _ => 0) i)))) (h := sz + 11) hx hb (hts _ (List.mem_cons_of_mem _ wd_51)) (va_nm_int (hK.1.2 0 _ rfl).2) hP hS (fun _ => rfl) (by decide) (by decide +kernel) (by decide) (show 12 ≤ 16 by decide) (show 336 ≤ 645 by decide) hz (by omega) d_Mod_init_95 (fun H hP hz1 hS => ?_)
  have hz : H.size = sz + 12 := hz1
  obtain ⟨w34, hw34⟩ : ∃ z : mm_M, z = mm_up w33 (sz + 11) (.inl (cI, 24, .inl (fun i => nI ((fun _ => 0) i)))) := ⟨_, rfl⟩
  have hP : mm_P B D kc w34 H := by rw [hw34]; exact hP
  have fr34 : ∀ j, j ≠ sz + 11 → w34 j = w33 j := fun j h9 => by rw [hw34]; exact mm_un h9
  have fa34 : w34 (sz + 11) = some (.inl (cI, 24, .inl (fun i => nI ((fun _ => 0) i)))) := by rw [hw34]; exact mm_us _ _ _
  refine W.widen (k := 12) (n := 336) (by decide) (by decide) ?_
  have f35 := (fr34 _ (by omega)).trans (fa33)
  refine mm_put (D := D) (C := n_Mod) (T := T_Mod) (N := 27) (v := .ref (sz + 11)) (ty := (.array .int)) hx hb hts lay_Mod t_Mod ty_Mod nm_Mod hown hK.1 hP hS f35 rfl 12 (by decide) (hts _ (List.mem_cons_of_mem _ wd_503)) (fun _ h9 => h9) rfl (by decide +kernel) rfl rfl (Nat.le_of_ble_eq_true rfl) d_Mod_init_97 (fun H locs hP hz1 hS => ?_)
  have hz : H.size = sz + 12 := hz1.trans hz
  obtain ⟨w36, hw36⟩ : ∃ z : mm_M, z = mm_up w34 a (.inr (9, [.int 0, .ref sz, .ref (sz + 1), .ref (sz + 2), .ref (sz + 3), .ref (sz + 4), .ref (sz + 5), .ref (sz + 6), .ref (sz + 7), .ref (sz + 8), .ref (sz + 9), .ref (sz + 10), .ref (sz + 11), .null, .null, .null, .int 0, .int 0, .int 0, .null, .int 0, .int 0, .int 0, .int 0, .int 0, .int 0, .int 0])) := ⟨_, rfl⟩
  have hP : mm_P B D kc w36 H := by rw [hw36]; exact hP
  have fr36 : ∀ j, j ≠ a → w36 j = w34 j := fun j h9 => by rw [hw36]; exact mm_un h9
  have fa36 : w36 a = some (.inr (9, [.int 0, .ref sz, .ref (sz + 1), .ref (sz + 2), .ref (sz + 3), .ref (sz + 4), .ref (sz + 5), .ref (sz + 6), .ref (sz + 7), .ref (sz + 8), .ref (sz + 9), .ref (sz + 10), .ref (sz + 11), .null, .null, .null, .int 0, .int 0, .int 0, .null, .int 0, .int 0, .int 0, .int 0, .int 0, .int 0, .int 0])) := by rw [hw36]; exact mm_us _ _ _
  refine lv_aload_n hx hb d_Mod_init_100 rfl (lv_at hl 0 rfl) ?_
  refine lv_bipush (v := nI 24) hx hb d_Mod_init_101 (by decide) ?_
  refine mm_newa (atype := .boolean) (cA := cZ) (a0 := (24, .inl (fun i => nI ((fun _ => 0) i)))) (h := sz + 12) hx hb (hts _ (List.mem_cons_of_mem _ wd_68)) (va_nm_boolean (hK.1.2 1 _ rfl).2) hP hS (fun _ => rfl) (by decide) (by decide +kernel) (by decide) (show 13 ≤ 16 by decide) (show 360 ≤ 645 by decide) hz (by omega) d_Mod_init_103 (fun H hP hz1 hS => ?_)
  have hz : H.size = sz + 13 := hz1
  obtain ⟨w37, hw37⟩ : ∃ z : mm_M, z = mm_up w36 (sz + 12) (.inl (cZ, 24, .inl (fun i => nI ((fun _ => 0) i)))) := ⟨_, rfl⟩
  have hP : mm_P B D kc w37 H := by rw [hw37]; exact hP
  have fr37 : ∀ j, j ≠ sz + 12 → w37 j = w36 j := fun j h9 => by rw [hw37]; exact mm_un h9
  have fa37 : w37 (sz + 12) = some (.inl (cZ, 24, .inl (fun i => nI ((fun _ => 0) i)))) := by rw [hw37]; exact mm_us _ _ _
  refine W.widen (k := 13) (n := 360) (by decide) (by decide) ?_
  have f38 := (fr37 _ (by omega)).trans (fa36)
  refine mm_put (D := D) (C := n_Mod) (T := T_Mod) (N := 27) (v := .ref (sz + 12)) (ty := (.array .boolean)) hx hb hts lay_Mod t_Mod ty_Mod nm_Mod hown hK.1 hP hS f38 rfl 13 (by decide) (hts _ (List.mem_cons_of_mem _ wd_504)) (fun _ h9 => h9) rfl (by decide +kernel) rfl rfl (Nat.le_of_ble_eq_true rfl) d_Mod_init_105 (fun H locs hP hz1 hS => ?_)
  have hz : H.size = sz + 13 := hz1.trans hz
  obtain ⟨w39, hw39⟩ : ∃ z : mm_M, z = mm_up w37 a (.inr (9, [.int 0, .ref sz, .ref (sz + 1), .ref (sz + 2), .ref (sz + 3), .ref (sz + 4), .ref (sz + 5), .ref (sz + 6), .ref (sz + 7), .ref (sz + 8), .ref (sz + 9), .ref (sz + 10), .ref (sz + 11), .ref (sz + 12), .null, .null, .int 0, .int 0, .int 0, .null, .int 0, .int 0, .int 0, .int 0, .int 0, .int 0, .int 0])) := ⟨_, rfl⟩
  have hP : mm_P B D kc w39 H := by rw [hw39]; exact hP
  have fr39 : ∀ j, j ≠ a → w39 j = w37 j := fun j h9 => by rw [hw39]; exact mm_un h9
  have fa39 : w39 a = some (.inr (9, [.int 0, .ref sz, .ref (sz + 1), .ref (sz + 2), .ref (sz + 3), .ref (sz + 4), .ref (sz + 5), .ref (sz + 6), .ref (sz + 7), .ref (sz + 8), .ref (sz + 9), .ref (sz + 10), .ref (sz + 11), .ref (sz + 12), .null, .null, .int 0, .int 0, .int 0, .null, .int 0, .int 0, .int 0, .int 0, .int 0, .int 0, .int 0])) := by rw [hw39]; exact mm_us _ _ _
  refine lv_aload_n hx hb d_Mod_init_108 rfl (lv_at hl 0 rfl) ?_
  refine lv_sipush (v := nI 256) hx hb d_Mod_init_109 (by decide) ?_
  refine mm_newa (atype := .int) (cA := cI) (a0 := (256, .inl (fun i => nI ((fun _ => 0) i)))) (h := sz + 13) hx hb (hts _ (List.mem_cons_of_mem _ wd_51)) (va_nm_int (hK.1.2 0 _ rfl).2) hP hS (fun _ => rfl) (by decide) (by decide +kernel) (by decide) (show 14 ≤ 16 by decide) (show 616 ≤ 645 by decide) hz (by omega) d_Mod_init_112 (fun H hP hz1 hS => ?_)
  have hz : H.size = sz + 14 := hz1
  obtain ⟨w40, hw40⟩ : ∃ z : mm_M, z = mm_up w39 (sz + 13) (.inl (cI, 256, .inl (fun i => nI ((fun _ => 0) i)))) := ⟨_, rfl⟩
  have hP : mm_P B D kc w40 H := by rw [hw40]; exact hP
  have fr40 : ∀ j, j ≠ sz + 13 → w40 j = w39 j := fun j h9 => by rw [hw40]; exact mm_un h9
  have fa40 : w40 (sz + 13) = some (.inl (cI, 256, .inl (fun i => nI ((fun _ => 0) i)))) := by rw [hw40]; exact mm_us _ _ _
  refine W.widen (k := 14) (n := 616) (by decide) (by decide) ?_
  have f41 := (fr40 _ (by omega)).trans (fa39)
  refine mm_put (D := D) (C := n_Mod) (T := T_Mod) (N := 27) (v := .ref (sz + 13)) (ty := (.array .int)) hx hb hts lay_Mod t_Mod ty_Mod nm_Mod hown hK.1 hP hS f41 rfl 14 (by decide) (hts _ (List.mem_cons_of_mem _ wd_505)) (fun _ h9 => h9) rfl (by decide +kernel) rfl rfl (Nat.le_of_ble_eq_true rfl) d_Mod_init_114 (fun H locs hP hz1 hS => ?_)
  have hz : H.size = sz + 14 := hz1.trans hz
  obtain ⟨w42, hw42⟩ : ∃ z : mm_M, z = mm_up w40 a (.inr (9, [.int 0, .ref sz, .ref (sz + 1), .ref (sz + 2), .ref (sz + 3), .ref (sz + 4), .ref (sz + 5), .ref (sz + 6), .ref (sz + 7), .ref (sz + 8), .ref (sz + 9), .ref (sz + 10), .ref (sz + 11), .ref (sz + 12), .ref (sz + 13), .null, .int 0, .int 0, .int 0, .null, .int 0, .int 0, .int 0, .int 0, .int 0, .int 0, .int 0])) := ⟨_, rfl⟩
  have hP : mm_P B D kc w42 H := by rw [hw42]; exact hP
  have fr42 : ∀ j, j ≠ a → w42 j = w40 j := fun j h9 => by rw [hw42]; exact mm_un h9
  have fa42 : w42 a = some (.inr (9, [.int 0, .ref sz, .ref (sz + 1), .ref (sz + 2), .ref (sz + 3), .ref (sz + 4), .ref (sz + 5), .ref (sz + 6), .ref (sz + 7), .ref (sz + 8), .ref (sz + 9), .ref (sz + 10), .ref (sz + 11), .ref (sz + 12), .ref (sz + 13), .null, .int 0, .int 0, .int 0, .null, .int 0, .int 0, .int 0, .int 0, .int 0, .int 0, .int 0])) := by rw [hw42]; exact mm_us _ _ _
  refine lv_aload_n hx hb d_Mod_init_117 rfl (lv_at hl 0 rfl) ?_
  refine lv_bipush (v := nI 24) hx hb d_Mod_init_118 (by decide) ?_
  refine mm_newa (atype := .int) (cA := cI) (a0 := (24, .inl (fun i => nI ((fun _ => 0) i)))) (h := sz + 14) hx hb (hts _ (List.mem_cons_of_mem _ wd_51)) (va_nm_int (hK.1.2 0 _ rfl).2) hP hS (fun _ => rfl) (by decide) (by decide +kernel) (by decide) (show 15 ≤ 16 by decide) (show 640 ≤ 645 by decide) hz (by omega) d_Mod_init_120 (fun H hP hz1 hS => ?_)
  have hz : H.size = sz + 15 := hz1
  obtain ⟨w43, hw43⟩ : ∃ z : mm_M, z = mm_up w42 (sz + 14) (.inl (cI, 24, .inl (fun i => nI ((fun _ => 0) i)))) := ⟨_, rfl⟩
  have hP : mm_P B D kc w43 H := by rw [hw43]; exact hP
  have fr43 : ∀ j, j ≠ sz + 14 → w43 j = w42 j := fun j h9 => by rw [hw43]; exact mm_un h9
  have fa43 : w43 (sz + 14) = some (.inl (cI, 24, .inl (fun i => nI ((fun _ => 0) i)))) := by rw [hw43]; exact mm_us _ _ _
  refine W.widen (k := 15) (n := 640) (by decide) (by decide) ?_
  have f44 := (fr43 _ (by omega)).trans (fa42)
  refine mm_put (D := D) (C := n_Mod) (T := T_Mod) (N := 27) (v := .ref (sz + 14)) (ty := (.array .int)) hx hb hts lay_Mod t_Mod ty_Mod nm_Mod hown hK.1 hP hS f44 rfl 15 (by decide) (hts _ (List.mem_cons_of_mem _ wd_506)) (fun _ h9 => h9) rfl (by decide +kernel) rfl rfl (Nat.le_of_ble_eq_true rfl) d_Mod_init_122 (fun H locs hP hz1 hS => ?_)
  have hz : H.size = sz + 15 := hz1.trans hz
  obtain ⟨w45, hw45⟩ : ∃ z : mm_M, z = mm_up w43 a (.inr (9, [.int 0, .ref sz, .ref (sz + 1), .ref (sz + 2), .ref (sz + 3), .ref (sz + 4), .ref (sz + 5), .ref (sz + 6), .ref (sz + 7), .ref (sz + 8), .ref (sz + 9), .ref (sz + 10), .ref (sz + 11), .ref (sz + 12), .ref (sz + 13), .ref (sz + 14), .int 0, .int 0, .int 0, .null, .int 0, .int 0, .int 0, .int 0, .int 0, .int 0, .int 0])) := ⟨_, rfl⟩
  have hP : mm_P B D kc w45 H := by rw [hw45]; exact hP
  have fr45 : ∀ j, j ≠ a → w45 j = w43 j := fun j h9 => by rw [hw45]; exact mm_un h9
  have fa45 : w45 a = some (.inr (9, [.int 0, .ref sz, .ref (sz + 1), .ref (sz + 2), .ref (sz + 3), .ref (sz + 4), .ref (sz + 5), .ref (sz + 6), .ref (sz + 7), .ref (sz + 8), .ref (sz + 9), .ref (sz + 10), .ref (sz + 11), .ref (sz + 12), .ref (sz + 13), .ref (sz + 14), .int 0, .int 0, .int 0, .null, .int 0, .int 0, .int 0, .int 0, .int 0, .int 0, .int 0])) := by rw [hw45]; exact mm_us _ _ _
  refine lv_aload_n hx hb d_Mod_init_125 rfl (lv_at hl 0 rfl) ?_
  refine lv_iconst (v := nI 5) hx hb d_Mod_init_126 (by decide) ?_
  refine mm_newa (atype := .int) (cA := cI) (a0 := (5, .inl (fun i => nI ((fun _ => 0) i)))) (h := sz + 15) hx hb (hts _ (List.mem_cons_of_mem _ wd_51)) (va_nm_int (hK.1.2 0 _ rfl).2) hP hS (fun _ => rfl) (by decide) (by decide +kernel) (by decide) (show 16 ≤ 16 by decide) (show 645 ≤ 645 by decide) hz (by omega) d_Mod_init_127 (fun H hP hz1 hS => ?_)
  have hz : H.size = sz + 16 := hz1
  obtain ⟨w46, hw46⟩ : ∃ z : mm_M, z = mm_up w45 (sz + 15) (.inl (cI, 5, .inl (fun i => nI ((fun _ => 0) i)))) := ⟨_, rfl⟩
  have hP : mm_P B D kc w46 H := by rw [hw46]; exact hP
  have fr46 : ∀ j, j ≠ sz + 15 → w46 j = w45 j := fun j h9 => by rw [hw46]; exact mm_un h9
  have fa46 : w46 (sz + 15) = some (.inl (cI, 5, .inl (fun i => nI ((fun _ => 0) i)))) := by rw [hw46]; exact mm_us _ _ _
  refine W.widen (k := 16) (n := 645) (by decide) (by decide) ?_
  have f47 := (fr46 _ (by omega)).trans (fa45)
  refine mm_put (D := D) (C := n_Mod) (T := T_Mod) (N := 27) (v := .ref (sz + 15)) (ty := (.array .int)) hx hb hts lay_Mod t_Mod ty_Mod nm_Mod hown hK.1 hP hS f47 rfl 19 (by decide) (hts _ (List.mem_cons_of_mem _ wd_510)) (fun _ h9 => h9) rfl (by decide +kernel) rfl rfl (Nat.le_of_ble_eq_true rfl) d_Mod_init_129 (fun H locs hP hz1 hS => ?_)
  have hz : H.size = sz + 16 := hz1.trans hz
  obtain ⟨w48, hw48⟩ : ∃ z : mm_M, z = mm_up w46 a (.inr (9, [.int 0, .ref sz, .ref (sz + 1), .ref (sz + 2), .ref (sz + 3), .ref (sz + 4), .ref (sz + 5), .ref (sz + 6), .ref (sz + 7), .ref (sz + 8), .ref (sz + 9), .ref (sz + 10), .ref (sz + 11), .ref (sz + 12), .ref (sz + 13), .ref (sz + 14), .int 0, .int 0, .int 0, .ref (sz + 15), .int 0, .int 0, .int 0, .int 0, .int 0, .int 0, .int 0])) := ⟨_, rfl⟩
  have hP : mm_P B D kc w48 H := by rw [hw48]; exact hP
  have fr48 : ∀ j, j ≠ a → w48 j = w46 j := fun j h9 => by rw [hw48]; exact mm_un h9
  have fa48 : w48 a = some (.inr (9, [.int 0, .ref sz, .ref (sz + 1), .ref (sz + 2), .ref (sz + 3), .ref (sz + 4), .ref (sz + 5), .ref (sz + 6), .ref (sz + 7), .ref (sz + 8), .ref (sz + 9), .ref (sz + 10), .ref (sz + 11), .ref (sz + 12), .ref (sz + 13), .ref (sz + 14), .int 0, .int 0, .int 0, .ref (sz + 15), .int 0, .int 0, .int 0, .int 0, .int 0, .int 0, .int 0])) := by rw [hw48]; exact mm_us _ _ _
  exact W.vret hx hb hr (fun t ht hW => ⟨⟨(w48, sz + 16), rfl, ⟨mm_e17 fa48 ((fr48 _ (by omega)).trans ((fr46 _ (by omega)).trans ((fr45 _ (by omega)).trans ((fr43 _ (by omega)).trans ((fr42 _ (by omega)).trans ((fr40 _ (by omega)).trans ((fr39 _ (by omega)).trans ((fr37 _ (by omega)).trans ((fr36 _ (by omega)).trans ((fr34 _ (by omega)).trans ((fr33 _ (by omega)).trans ((fr31 _ (by omega)).trans ((fr30 _ (by omega)).trans ((fr28 _ (by omega)).trans ((fr27 _ (by omega)).trans ((fr25 _ (by omega)).trans ((fr24 _ (by omega)).trans ((fr22 _ (by omega)).trans ((fr21 _ (by omega)).trans ((fr19 _ (by omega)).trans ((fr18 _ (by omega)).trans ((fr16 _ (by omega)).trans ((fr15 _ (by omega)).trans ((fr13 _ (by omega)).trans ((fr12 _ (by omega)).trans ((fr10 _ (by omega)).trans ((fr9 _ (by omega)).trans ((fr7 _ (by omega)).trans ((fr6 _ (by omega)).trans ((fr4 _ (by omega)).trans ((fr3 _ (by omega)).trans (fa1)))))))))))))))))))))))))))))))) ((fr48 _ (by omega)).trans ((fr46 _ (by omega)).trans ((fr45 _ (by omega)).trans ((fr43 _ (by omega)).trans ((fr42 _ (by omega)).trans ((fr40 _ (by omega)).trans ((fr39 _ (by omega)).trans ((fr37 _ (by omega)).trans ((fr36 _ (by omega)).trans ((fr34 _ (by omega)).trans ((fr33 _ (by omega)).trans ((fr31 _ (by omega)).trans ((fr30 _ (by omega)).trans ((fr28 _ (by omega)).trans ((fr27 _ (by omega)).trans ((fr25 _ (by omega)).trans ((fr24 _ (by omega)).trans ((fr22 _ (by omega)).trans ((fr21 _ (by omega)).trans ((fr19 _ (by omega)).trans ((fr18 _ (by omega)).trans ((fr16 _ (by omega)).trans ((fr15 _ (by omega)).trans ((fr13 _ (by omega)).trans ((fr12 _ (by omega)).trans ((fr10 _ (by omega)).trans ((fr9 _ (by omega)).trans ((fr7 _ (by omega)).trans ((fr6 _ (by omega)).trans (fa4)))))))))))))))))))))))))))))) ((fr48 _ (by omega)).trans ((fr46 _ (by omega)).trans ((fr45 _ (by omega)).trans ((fr43 _ (by omega)).trans ((fr42 _ (by omega)).trans ((fr40 _ (by omega)).trans ((fr39 _ (by omega)).trans ((fr37 _ (by omega)).trans ((fr36 _ (by omega)).trans ((fr34 _ (by omega)).trans ((fr33 _ (by omega)).trans ((fr31 _ (by omega)).trans ((fr30 _ (by omega)).trans ((fr28 _ (by omega)).trans ((fr27 _ (by omega)).trans ((fr25 _ (by omega)).trans ((fr24 _ (by omega)).trans ((fr22 _ (by omega)).trans ((fr21 _ (by omega)).trans ((fr19 _ (by omega)).trans ((fr18 _ (by omega)).trans ((fr16 _ (by omega)).trans ((fr15 _ (by omega)).trans ((fr13 _ (by omega)).trans ((fr12 _ (by omega)).trans ((fr10 _ (by omega)).trans ((fr9 _ (by omega)).trans (fa7)))))))))))))))))))))))))))) ((fr48 _ (by omega)).trans ((fr46 _ (by omega)).trans ((fr45 _ (by omega)).trans ((fr43 _ (by omega)).trans ((fr42 _ (by omega)).trans ((fr40 _ (by omega)).trans ((fr39 _ (by omega)).trans ((fr37 _ (by omega)).trans ((fr36 _ (by omega)).trans ((fr34 _ (by omega)).trans ((fr33 _ (by omega)).trans ((fr31 _ (by omega)).trans ((fr30 _ (by omega)).trans ((fr28 _ (by omega)).trans ((fr27 _ (by omega)).trans ((fr25 _ (by omega)).trans ((fr24 _ (by omega)).trans ((fr22 _ (by omega)).trans ((fr21 _ (by omega)).trans ((fr19 _ (by omega)).trans ((fr18 _ (by omega)).trans ((fr16 _ (by omega)).trans ((fr15 _ (by omega)).trans ((fr13 _ (by omega)).trans ((fr12 _ (by omega)).trans (fa10)))))))))))))))))))))))))) ((fr48 _ (by omega)).trans ((fr46 _ (by omega)).trans ((fr45 _ (by omega)).trans ((fr43 _ (by omega)).trans ((fr42 _ (by omega)).trans ((fr40 _ (by omega)).trans ((fr39 _ (by omega)).trans ((fr37 _ (by omega)).trans ((fr36 _ (by omega)).trans ((fr34 _ (by omega)).trans ((fr33 _ (by omega)).trans ((fr31 _ (by omega)).trans ((fr30 _ (by omega)).trans ((fr28 _ (by omega)).trans ((fr27 _ (by omega)).trans ((fr25 _ (by omega)).trans ((fr24 _ (by omega)).trans ((fr22 _ (by omega)).trans ((fr21 _ (by omega)).trans ((fr19 _ (by omega)).trans ((fr18 _ (by omega)).trans ((fr16 _ (by omega)).trans ((fr15 _ (by omega)).trans (fa13)))))))))))))))))))))))) ((fr48 _ (by omega)).trans ((fr46 _ (by omega)).trans ((fr45 _ (by omega)).trans ((fr43 _ (by omega)).trans ((fr42 _ (by omega)).trans ((fr40 _ (by omega)).trans ((fr39 _ (by omega)).trans ((fr37 _ (by omega)).trans ((fr36 _ (by omega)).trans ((fr34 _ (by omega)).trans ((fr33 _ (by omega)).trans ((fr31 _ (by omega)).trans ((fr30 _ (by omega)).trans ((fr28 _ (by omega)).trans ((fr27 _ (by omega)).trans ((fr25 _ (by omega)).trans ((fr24 _ (by omega)).trans ((fr22 _ (by omega)).trans ((fr21 _ (by omega)).trans ((fr19 _ (by omega)).trans ((fr18 _ (by omega)).trans (fa16)))))))))))))))))))))) ((fr48 _ (by omega)).trans ((fr46 _ (by omega)).trans ((fr45 _ (by omega)).trans ((fr43 _ (by omega)).trans ((fr42 _ (by omega)).trans ((fr40 _ (by omega)).trans ((fr39 _ (by omega)).trans ((fr37 _ (by omega)).trans ((fr36 _ (by omega)).trans ((fr34 _ (by omega)).trans ((fr33 _ (by omega)).trans ((fr31 _ (by omega)).trans ((fr30 _ (by omega)).trans ((fr28 _ (by omega)).trans ((fr27 _ (by omega)).trans ((fr25 _ (by omega)).trans ((fr24 _ (by omega)).trans ((fr22 _ (by omega)).trans ((fr21 _ (by omega)).trans (fa19)))))))))))))))))))) ((fr48 _ (by omega)).trans ((fr46 _ (by omega)).trans ((fr45 _ (by omega)).trans ((fr43 _ (by omega)).trans ((fr42 _ (by omega)).trans ((fr40 _ (by omega)).trans ((fr39 _ (by omega)).trans ((fr37 _ (by omega)).trans ((fr36 _ (by omega)).trans ((fr34 _ (by omega)).trans ((fr33 _ (by omega)).trans ((fr31 _ (by omega)).trans ((fr30 _ (by omega)).trans ((fr28 _ (by omega)).trans ((fr27 _ (by omega)).trans ((fr25 _ (by omega)).trans ((fr24 _ (by omega)).trans (fa22)))))))))))))))))) ((fr48 _ (by omega)).trans ((fr46 _ (by omega)).trans ((fr45 _ (by omega)).trans ((fr43 _ (by omega)).trans ((fr42 _ (by omega)).trans ((fr40 _ (by omega)).trans ((fr39 _ (by omega)).trans ((fr37 _ (by omega)).trans ((fr36 _ (by omega)).trans ((fr34 _ (by omega)).trans ((fr33 _ (by omega)).trans ((fr31 _ (by omega)).trans ((fr30 _ (by omega)).trans ((fr28 _ (by omega)).trans ((fr27 _ (by omega)).trans (fa25)))))))))))))))) ((fr48 _ (by omega)).trans ((fr46 _ (by omega)).trans ((fr45 _ (by omega)).trans ((fr43 _ (by omega)).trans ((fr42 _ (by omega)).trans ((fr40 _ (by omega)).trans ((fr39 _ (by omega)).trans ((fr37 _ (by omega)).trans ((fr36 _ (by omega)).trans ((fr34 _ (by omega)).trans ((fr33 _ (by omega)).trans ((fr31 _ (by omega)).trans ((fr30 _ (by omega)).trans (fa28)))))))))))))) ((fr48 _ (by omega)).trans ((fr46 _ (by omega)).trans ((fr45 _ (by omega)).trans ((fr43 _ (by omega)).trans ((fr42 _ (by omega)).trans ((fr40 _ (by omega)).trans ((fr39 _ (by omega)).trans ((fr37 _ (by omega)).trans ((fr36 _ (by omega)).trans ((fr34 _ (by omega)).trans ((fr33 _ (by omega)).trans (fa31)))))))))))) ((fr48 _ (by omega)).trans ((fr46 _ (by omega)).trans ((fr45 _ (by omega)).trans ((fr43 _ (by omega)).trans ((fr42 _ (by omega)).trans ((fr40 _ (by omega)).trans ((fr39 _ (by omega)).trans ((fr37 _ (by omega)).trans ((fr36 _ (by omega)).trans (fa34)))))))))) ((fr48 _ (by omega)).trans ((fr46 _ (by omega)).trans ((fr45 _ (by omega)).trans ((fr43 _ (by omega)).trans ((fr42 _ (by omega)).trans ((fr40 _ (by omega)).trans ((fr39 _ (by omega)).trans (fa37)))))))) ((fr48 _ (by omega)).trans ((fr46 _ (by omega)).trans ((fr45 _ (by omega)).trans ((fr43 _ (by omega)).trans ((fr42 _ (by omega)).trans (fa40)))))) ((fr48 _ (by omega)).trans ((fr46 _ (by omega)).trans ((fr45 _ (by omega)).trans (fa43)))) ((fr48 _ (by omega)).trans (fa46)) (fun j g0 g1 g2 g3 g4 g5 g6 g7 g8 g9 g10 g11 g12 g13 g14 g15 g16 => (fr48 j g0).trans ((fr46 j g16).trans ((fr45 j g0).trans ((fr43 j g15).trans ((fr42 j g0).trans ((fr40 j g14).trans ((fr39 j g0).trans ((fr37 j g13).trans ((fr36 j g0).trans ((fr34 j g12).trans ((fr33 j g0).trans ((fr31 j g11).trans ((fr30 j g0).trans ((fr28 j g10).trans ((fr27 j g0).trans ((fr25 j g9).trans ((fr24 j g0).trans ((fr22 j g8).trans ((fr21 j g0).trans ((fr19 j g7).trans ((fr18 j g0).trans ((fr16 j g6).trans ((fr15 j g0).trans ((fr13 j g5).trans ((fr12 j g0).trans ((fr10 j g4).trans ((fr9 j g0).trans ((fr7 j g3).trans ((fr6 j g0).trans ((fr4 j g2).trans ((fr3 j g0).trans (fr1 j g1)))))))))))))))))))))))))))))))), rfl⟩, by rw [ht]; exact hP, by rw [ht]; exact hz⟩, hS.F ht⟩) hS.2.2 d_Mod_init_132
