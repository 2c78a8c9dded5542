theorem d_Mod_init_0 : decode k_Mod_init 0 = .ok (.aload_n 0, 1) := by decide +kernel
theorem d_Mod_init_1 : decode k_Mod_init 1 = .ok (.invokespecial 1, 3) := by decide +kernel
theorem d_Mod_init_4 : decode k_Mod_init 4 = .ok (.aload_n 0, 1) := by decide +kernel
theorem d_Mod_init_5 : decode k_Mod_init 5 = .ok (.bipush 24, 2) := by decide +kernel
theorem d_Mod_init_7 : decode k_Mod_init 7 = .ok (.newarray .boolean, 2) := by decide +kernel
theorem d_Mod_init_9 : decode k_Mod_init 9 = .ok (.putfield 7, 3) := by decide +kernel
theorem d_Mod_init_12 : decode k_Mod_init 12 = .ok (.aload_n 0, 1) := by decide +kernel
theorem d_Mod_init_13 : decode k_Mod_init 13 = .ok (.bipush 24, 2) := by decide +kernel
theorem d_Mod_init_15 : decode k_Mod_init 15 = .ok (.newarray .boolean, 2) := by decide +kernel
theorem d_Mod_init_17 : decode k_Mod_init 17 = .ok (.putfield 13, 3) := by decide +kernel
theorem d_Mod_init_20 : decode k_Mod_init 20 = .ok (.aload_n 0, 1) := by decide +kernel
theorem d_Mod_init_21 : decode k_Mod_init 21 = .ok (.bipush 24, 2) := by decide +kernel
theorem d_Mod_init_23 : decode k_Mod_init 23 = .ok (.newarray .int, 2) := by decide +kernel
theorem d_Mod_init_25 : decode k_Mod_init 25 = .ok (.putfield 16, 3) := by decide +kernel
theorem d_Mod_init_28 : decode k_Mod_init 28 = .ok (.aload_n 0, 1) := by decide +kernel
theorem d_Mod_init_29 : decode k_Mod_init 29 = .ok (.bipush 24, 2) := by decide +kernel
theorem d_Mod_init_31 : decode k_Mod_init 31 = .ok (.newarray .int, 2) := by decide +kernel
theorem d_Mod_init_33 : decode k_Mod_init 33 = .ok (.putfield 20, 3) := by decide +kernel
theorem d_Mod_init_36 : decode k_Mod_init 36 = .ok (.aload_n 0, 1) := by decide +kernel
theorem d_Mod_init_37 : decode k_Mod_init 37 = .ok (.bipush 24, 2) := by decide +kernel
theorem d_Mod_init_39 : decode k_Mod_init 39 = .ok (.newarray .int, 2) := by decide +kernel
theorem d_Mod_init_41 : decode k_Mod_init 41 = .ok (.putfield 23, 3) := by decide +kernel
theorem d_Mod_init_44 : decode k_Mod_init 44 = .ok (.aload_n 0, 1) := by decide +kernel
theorem d_Mod_init_45 : decode k_Mod_init 45 = .ok (.bipush 24, 2) := by decide +kernel
theorem d_Mod_init_47 : decode k_Mod_init 47 = .ok (.newarray .int, 2) := by decide +kernel
theorem d_Mod_init_49 : decode k_Mod_init 49 = .ok (.putfield 26, 3) := by decide +kernel
theorem d_Mod_init_52 : decode k_Mod_init 52 = .ok (.aload_n 0, 1) := by decide +kernel
theorem d_Mod_init_53 : decode k_Mod_init 53 = .ok (.bipush 72, 2) := by decide +kernel
theorem d_Mod_init_55 : decode k_Mod_init 55 = .ok (.newarray .int, 2) := by decide +kernel
theorem d_Mod_init_57 : decode k_Mod_init 57 = .ok (.putfield 29, 3) := by decide +kernel
theorem d_Mod_init_60 : decode k_Mod_init 60 = .ok (.aload_n 0, 1) := by decide +kernel
theorem d_Mod_init_61 : decode k_Mod_init 61 = .ok (.bipush 24, 2) := by decide +kernel
theorem d_Mod_init_63 : decode k_Mod_init 63 = .ok (.newarray .int, 2) := by decide +kernel
theorem d_Mod_init_65 : decode k_Mod_init 65 = .ok (.putfield 32, 3) := by decide +kernel
theorem d_Mod_init_68 : decode k_Mod_init 68 = .ok (.aload_n 0, 1) := by decide +kernel
theorem d_Mod_init_69 : decode k_Mod_init 69 = .ok (.bipush 24, 2) := by decide +kernel
theorem d_Mod_init_71 : decode k_Mod_init 71 = .ok (.newarray .int, 2) := by decide +kernel
theorem d_Mod_init_73 : decode k_Mod_init 73 = .ok (.putfield 35, 3) := by decide +kernel
theorem d_Mod_init_76 : decode k_Mod_init 76 = .ok (.aload_n 0, 1) := by decide +kernel
theorem d_Mod_init_77 : decode k_Mod_init 77 = .ok (.bipush 24, 2) := by decide +kernel
theorem d_Mod_init_79 : decode k_Mod_init 79 = .ok (.newarray .int, 2) := by decide +kernel
theorem d_Mod_init_81 : decode k_Mod_init 81 = .ok (.putfield 38, 3) := by decide +kernel
theorem d_Mod_init_84 : decode k_Mod_init 84 = .ok (.aload_n 0, 1) := by decide +kernel
theorem d_Mod_init_85 : decode k_Mod_init 85 = .ok (.bipush 24, 2) := by decide +kernel
theorem d_Mod_init_87 : decode k_Mod_init 87 = .ok (.newarray .int, 2) := by decide +kernel
theorem d_Mod_init_89 : decode k_Mod_init 89 = .ok (.putfield 41, 3) := by decide +kernel
theorem d_Mod_init_92 : decode k_Mod_init 92 = .ok (.aload_n 0, 1) := by decide +kernel
theorem d_Mod_init_93 : decode k_Mod_init 93 = .ok (.bipush 24, 2) := by decide +kernel
theorem d_Mod_init_95 : decode k_Mod_init 95 = .ok (.newarray .int, 2) := by decide +kernel
theorem d_Mod_init_97 : decode k_Mod_init 97 = .ok (.putfield 44, 3) := by decide +kernel
theorem d_Mod_init_100 : decode k_Mod_init 100 = .ok (.aload_n 0, 1) := by decide +kernel
theorem d_Mod_init_101 : decode k_Mod_init 101 = .ok (.bipush 24, 2) := by decide +kernel
theorem d_Mod_init_103 : decode k_Mod_init 103 = .ok (.newarray .boolean, 2) := by decide +kernel
theorem d_Mod_init_105 : decode k_Mod_init 105 = .ok (.putfield 47, 3) := by decide +kernel
theorem d_Mod_init_108 : decode k_Mod_init 108 = .ok (.aload_n 0, 1) := by decide +kernel
theorem d_Mod_init_109 : decode k_Mod_init 109 = .ok (.sipush 256, 3) := by decide +kernel
theorem d_Mod_init_112 : decode k_Mod_init 112 = .ok (.newarray .int, 2) := by decide +kernel
theorem d_Mod_init_114 : decode k_Mod_init 114 = .ok (.putfield 50, 3) := by decide +kernel
theorem d_Mod_init_117 : decode k_Mod_init 117 = .ok (.aload_n 0, 1) := by decide +kernel
theorem d_Mod_init_118 : decode k_Mod_init 118 = .ok (.bipush 24, 2) := by decide +kernel
theorem d_Mod_init_120 : decode k_Mod_init 120 = .ok (.newarray .int, 2) := by decide +kernel
theorem d_Mod_init_122 : decode k_Mod_init 122 = .ok (.putfield 53, 3) := by decide +kernel
theorem d_Mod_init_125 : decode k_Mod_init 125 = .ok (.aload_n 0, 1) := by decide +kernel
theorem d_Mod_init_126 : decode k_Mod_init 126 = .ok (.iconst 5, 1) := by decide +kernel
theorem d_Mod_init_127 : decode k_Mod_init 127 = .ok (.newarray .int, 2) := by decide +kernel
theorem d_Mod_init_129 : decode k_Mod_init 129 = .ok (.putfield 56, 3) := by decide +kernel
theorem d_Mod_init_132 : decode k_Mod_init 132 = .ok (.return_, 1) := by decide +kernel
set_option maxHeartbeats 4000000 in
set_option maxRecDepth 100000 in
theorem c_Mod_init (l : Launch) {B : Nat} {D : va_G} {cI cZ cQ : ClassId} {w : mm_M} {sz : Nat} {a : Nat} (h_0 : w a = some (.inr (9, [.int 0, .null, .null, .null, .null, .null, .null, .null, .null, .null, .null, .null, .null, .null, .null, .null, .int 0, .int 0, .int 0, .null, .int 0, .int 0, .int 0, .int 0, .int 0, .int 0, .int 0]))) (hasz : a < sz) : Met l y_Mod_init ws_Mod_init (kk_rm 1 16 645) (kk_Pc B D cI cZ cQ [.ref a] w sz) (kk_Qv B D (fun w' sz' => w' = mm_up (mm_up (mm_up (mm_up (mm_up (mm_up (mm_up (mm_up (mm_up (mm_up (mm_up (mm_up (mm_up (mm_up (mm_up (mm_up (mm_up w sz (.inl (cZ, 24, .inl (fun i => nI ((fun _ => 0) i))))) (sz + 1) (.inl (cZ, 24, .inl (fun i => nI ((fun _ => 0) i))))) (sz + 2) (.inl (cI, 24, .inl (fun i => nI ((fun _ => 0) i))))) (sz + 3) (.inl (cI, 24, .inl (fun i => nI ((fun _ => 0) i))))) (sz + 4) (.inl (cI, 24, .inl (fun i => nI ((fun _ => 0) i))))) (sz + 5) (.inl (cI, 24, .inl (fun i => nI ((fun _ => 0) i))))) (sz + 6) (.inl (cI, 72, .inl (fun i => nI ((fun _ => 0) i))))) (sz + 7) (.inl (cI, 24, .inl (fun i => nI ((fun _ => 0) i))))) (sz + 8) (.inl (cI, 24, .inl (fun i => nI ((fun _ => 0) i))))) (sz + 9) (.inl (cI, 24, .inl (fun i => nI ((fun _ => 0) i))))) (sz + 10) (.inl (cI, 24, .inl (fun i => nI ((fun _ => 0) i))))) (sz + 11) (.inl (cI, 24, .inl (fun i => nI ((fun _ => 0) i))))) (sz + 12) (.inl (cZ, 24, .inl (fun i => nI ((fun _ => 0) i))))) (sz + 13) (.inl (cI, 256, .inl (fun i => nI ((fun _ => 0) i))))) (sz + 14) (.inl (cI, 24, .inl (fun i => nI ((fun _ => 0) i))))) (sz + 15) (.inl (cI, 5, .inl (fun i => nI ((fun _ => 0) i))))) a (.inr (9, [.int 0, .ref sz, .ref (sz + 1), .ref (sz + 2), .ref (sz + 3), .ref (sz + 4), .ref (sz + 5), .ref (sz + 6), .ref (sz + 7), .ref (sz + 8), .ref (sz + 9), .ref (sz + 10), .ref (sz + 11), .ref (sz + 12), .ref (sz + 13), .ref (sz + 14), .int 0, .int 0, .int 0, .ref (sz + 15), .int 0, .int 0, .int 0, .int 0, .int 0, .int 0, .int 0])) ∧ sz' = sz + 16)) 16 645 (fun q => B ≤ q) := by
  refine Met.ofW (cc := k_Mod_init) (maxL := 1) (ret := none) (by decide) rfl ?_
  intro p e s m args below meth c s₁ BB hml hv
  obtain ⟨rfl, hK, hP, hz, hBz⟩ := hv
  have hx := BB.exec
  have hb := BB.bytes
  have hr := BB.returns
  have hts := atoms_spec (ws := ws_Mod_init) BB.pre
  have hown : s.vm.findClass "DelegationClosureModel" = some m.cls := findClass_of_methodNamed BB.named
  have hlocks := BB.notSynchronized
  have hin : meth.name = "<init>" := (name_of_methodNamed BB.named BB.method).1
  have hS : mm_S B s.heap s.heap [] := va_S.rf
  have hl := lv_entry ([.ref a]) (n := 1) (Nat.le_of_ble_eq_true rfl)
  rw [lg_entry_eq]
  generalize (lg_sl ([.ref a]) ++ List.replicate (1 - (lg_sl ([.ref a])).length) Slot.unset).toArray = ls at hl ⊢
  have hl : lv_has ls 1 [(0, .ref a)] := hl
  have hP0 : mm_P B D kc (mm_up w a (.inr (9, [.int 0, .null, .null, .null, .null, .null, .null, .null, .null, .null, .null, .null, .null, .null, .null, .null, .int 0, .int 0, .int 0, .null, .int 0, .int 0, .int 0, .int 0, .int 0, .int 0, .int 0]))) s.heap := by rw [mm_self h_0]; exact hP
  have hn0 : ([.int 0, .null, .null, .null, .null, .null, .null, .null, .null, .null, .null, .null, .null, .null, .null, .null, .int 0, .int 0, .int 0, .null, .int 0, .int 0, .int 0, .int 0, .int 0, .int 0, .int 0] : List Value).length = 27 := rfl
  have hz0 : s.heap.size = sz := hz
  have hS0 := hS
  clear hP hz hS h_0
  refine lv_aload_n hx hb d_Mod_init_0 rfl (lv_at hl 0 rfl) ?_
  refine W.objInit hx hb hown (hts _ (List.mem_cons_of_mem _ wd_490)) (hts _ (List.mem_cons_of_mem _ wd_21)) (hts _ (List.mem_cons_of_mem _ wd_objcode)) rfl (by rw [hml]; exact hl.1) rfl d_Mod_init_1 (Nat.le_of_ble_eq_true rfl) (Nat.le_of_ble_eq_true rfl) ?_
  refine W.eq (g2 := F0 m 4 ls []) rfl ?_
  refine lv_aload_n hx hb d_Mod_init_4 rfl (lv_at hl 0 rfl) ?_
  refine lv_bipush (v := nI 24) hx hb d_Mod_init_5 (by decide) ?_
  refine md_rowZ (z := sz) hx hb hts lay_Mod hown hK.1 hn0 hP0 hS0 hz0 hBz hasz (hts _ (List.mem_cons_of_mem _ wd_68)) 24 (by decide) (Nat.le_of_ble_eq_true rfl) (Nat.le_of_ble_eq_true rfl) d_Mod_init_7 1 (by decide) (hts _ (List.mem_cons_of_mem _ wd_492)) rfl rfl (by decide +kernel) d_Mod_init_9 (fun A1 f1 H locs hA1 hf1 hn1 hP1 hz1 hS1 => ?_)
  clear hP0 hz0 hS0 hn0
  refine W.widen (k := 1) (n := 24) (Nat.le_of_ble_eq_true rfl) (Nat.le_of_ble_eq_true rfl) ?_
  refine lv_aload_n hx hb d_Mod_init_12 rfl (lv_at hl 0 rfl) ?_
  refine lv_bipush (v := nI 24) hx hb d_Mod_init_13 (by decide) ?_
  refine md_rowZ (z := sz + 1) hx hb hts lay_Mod hown hK.1 hn1 hP1 hS1 hz1 (Nat.le_trans hBz (Nat.le_add_right sz 1)) (Nat.lt_of_lt_of_le hasz (Nat.le_add_right sz 1)) (hts _ (List.mem_cons_of_mem _ wd_68)) 24 (by decide) (Nat.le_of_ble_eq_true rfl) (Nat.le_of_ble_eq_true rfl) d_Mod_init_15 2 (by decide) (hts _ (List.mem_cons_of_mem _ wd_493)) rfl rfl (by decide +kernel) d_Mod_init_17 (fun A2 f2 H locs hA2 hf2 hn2 hP2 hz2 hS2 => ?_)
  clear hP1 hz1 hS1 hn1
  refine W.widen (k := 2) (n := 48) (Nat.le_of_ble_eq_true rfl) (Nat.le_of_ble_eq_true rfl) ?_
  refine lv_aload_n hx hb d_Mod_init_20 rfl (lv_at hl 0 rfl) ?_
  refine lv_bipush (v := nI 24) hx hb d_Mod_init_21 (by decide) ?_
  refine md_rowI (z := sz + 2) hx hb hts lay_Mod hown hK.1 hn2 hP2 hS2 hz2 (Nat.le_trans hBz (Nat.le_add_right sz 2)) (Nat.lt_of_lt_of_le hasz (Nat.le_add_right sz 2)) (hts _ (List.mem_cons_of_mem _ wd_51)) 24 (by decide) (Nat.le_of_ble_eq_true rfl) (Nat.le_of_ble_eq_true rfl) d_Mod_init_23 3 (by decide) (hts _ (List.mem_cons_of_mem _ wd_494)) rfl rfl (by decide +kernel) d_Mod_init_25 (fun A3 f3 H locs hA3 hf3 hn3 hP3 hz3 hS3 => ?_)
  clear hP2 hz2 hS2 hn2
  refine W.widen (k := 3) (n := 72) (Nat.le_of_ble_eq_true rfl) (Nat.le_of_ble_eq_true rfl) ?_
  refine lv_aload_n hx hb d_Mod_init_28 rfl (lv_at hl 0 rfl) ?_
  refine lv_bipush (v := nI 24) hx hb d_Mod_init_29 (by decide) ?_
  refine md_rowI (z := sz + 3) hx hb hts lay_Mod hown hK.1 hn3 hP3 hS3 hz3 (Nat.le_trans hBz (Nat.le_add_right sz 3)) (Nat.lt_of_lt_of_le hasz (Nat.le_add_right sz 3)) (hts _ (List.mem_cons_of_mem _ wd_51)) 24 (by decide) (Nat.le_of_ble_eq_true rfl) (Nat.le_of_ble_eq_true rfl) d_Mod_init_31 4 (by decide) (hts _ (List.mem_cons_of_mem _ wd_495)) rfl rfl (by decide +kernel) d_Mod_init_33 (fun A4 f4 H locs hA4 hf4 hn4 hP4 hz4 hS4 => ?_)
  clear hP3 hz3 hS3 hn3
  refine W.widen (k := 4) (n := 96) (Nat.le_of_ble_eq_true rfl) (Nat.le_of_ble_eq_true rfl) ?_
  refine lv_aload_n hx hb d_Mod_init_36 rfl (lv_at hl 0 rfl) ?_
  refine lv_bipush (v := nI 24) hx hb d_Mod_init_37 (by decide) ?_
  refine md_rowI (z := sz + 4) hx hb hts lay_Mod hown hK.1 hn4 hP4 hS4 hz4 (Nat.le_trans hBz (Nat.le_add_right sz 4)) (Nat.lt_of_lt_of_le hasz (Nat.le_add_right sz 4)) (hts _ (List.mem_cons_of_mem _ wd_51)) 24 (by decide) (Nat.le_of_ble_eq_true rfl) (Nat.le_of_ble_eq_true rfl) d_Mod_init_39 5 (by decide) (hts _ (List.mem_cons_of_mem _ wd_496)) rfl rfl (by decide +kernel) d_Mod_init_41 (fun A5 f5 H locs hA5 hf5 hn5 hP5 hz5 hS5 => ?_)
  clear hP4 hz4 hS4 hn4
  refine W.widen (k := 5) (n := 120) (Nat.le_of_ble_eq_true rfl) (Nat.le_of_ble_eq_true rfl) ?_
  refine lv_aload_n hx hb d_Mod_init_44 rfl (lv_at hl 0 rfl) ?_
  refine lv_bipush (v := nI 24) hx hb d_Mod_init_45 (by decide) ?_
  refine md_rowI (z := sz + 5) hx hb hts lay_Mod hown hK.1 hn5 hP5 hS5 hz5 (Nat.le_trans hBz (Nat.le_add_right sz 5)) (Nat.lt_of_lt_of_le hasz (Nat.le_add_right sz 5)) (hts _ (List.mem_cons_of_mem _ wd_51)) 24 (by decide) (Nat.le_of_ble_eq_true rfl) (Nat.le_of_ble_eq_true rfl) d_Mod_init_47 6 (by decide) (hts _ (List.mem_cons_of_mem _ wd_497)) rfl rfl (by decide +kernel) d_Mod_init_49 (fun A6 f6 H locs hA6 hf6 hn6 hP6 hz6 hS6 => ?_)
  clear hP5 hz5 hS5 hn5
  refine W.widen (k := 6) (n := 144) (Nat.le_of_ble_eq_true rfl) (Nat.le_of_ble_eq_true rfl) ?_
  refine lv_aload_n hx hb d_Mod_init_52 rfl (lv_at hl 0 rfl) ?_
  refine lv_bipush (v := nI 72) hx hb d_Mod_init_53 (by decide) ?_
  refine md_rowI (z := sz + 6) hx hb hts lay_Mod hown hK.1 hn6 hP6 hS6 hz6 (Nat.le_trans hBz (Nat.le_add_right sz 6)) (Nat.lt_of_lt_of_le hasz (Nat.le_add_right sz 6)) (hts _ (List.mem_cons_of_mem _ wd_51)) 72 (by decide) (Nat.le_of_ble_eq_true rfl) (Nat.le_of_ble_eq_true rfl) d_Mod_init_55 7 (by decide) (hts _ (List.mem_cons_of_mem _ wd_498)) rfl rfl (by decide +kernel) d_Mod_init_57 (fun A7 f7 H locs hA7 hf7 hn7 hP7 hz7 hS7 => ?_)
  clear hP6 hz6 hS6 hn6
  refine W.widen (k := 7) (n := 216) (Nat.le_of_ble_eq_true rfl) (Nat.le_of_ble_eq_true rfl) ?_
  refine lv_aload_n hx hb d_Mod_init_60 rfl (lv_at hl 0 rfl) ?_
  refine lv_bipush (v := nI 24) hx hb d_Mod_init_61 (by decide) ?_
  refine md_rowI (z := sz + 7) hx hb hts lay_Mod hown hK.1 hn7 hP7 hS7 hz7 (Nat.le_trans hBz (Nat.le_add_right sz 7)) (Nat.lt_of_lt_of_le hasz (Nat.le_add_right sz 7)) (hts _ (List.mem_cons_of_mem _ wd_51)) 24 (by decide) (Nat.le_of_ble_eq_true rfl) (Nat.le_of_ble_eq_true rfl) d_Mod_init_63 8 (by decide) (hts _ (List.mem_cons_of_mem _ wd_499)) rfl rfl (by decide +kernel) d_Mod_init_65 (fun A8 f8 H locs hA8 hf8 hn8 hP8 hz8 hS8 => ?_)
  clear hP7 hz7 hS7 hn7
  refine W.widen (k := 8) (n := 240) (Nat.le_of_ble_eq_true rfl) (Nat.le_of_ble_eq_true rfl) ?_
  refine lv_aload_n hx hb d_Mod_init_68 rfl (lv_at hl 0 rfl) ?_
  refine lv_bipush (v := nI 24) hx hb d_Mod_init_69 (by decide) ?_
  refine md_rowI (z := sz + 8) hx hb hts lay_Mod hown hK.1 hn8 hP8 hS8 hz8 (Nat.le_trans hBz (Nat.le_add_right sz 8)) (Nat.lt_of_lt_of_le hasz (Nat.le_add_right sz 8)) (hts _ (List.mem_cons_of_mem _ wd_51)) 24 (by decide) (Nat.le_of_ble_eq_true rfl) (Nat.le_of_ble_eq_true rfl) d_Mod_init_71 9 (by decide) (hts _ (List.mem_cons_of_mem _ wd_500)) rfl rfl (by decide +kernel) d_Mod_init_73 (fun A9 f9 H locs hA9 hf9 hn9 hP9 hz9 hS9 => ?_)
  clear hP8 hz8 hS8 hn8
  refine W.widen (k := 9) (n := 264) (Nat.le_of_ble_eq_true rfl) (Nat.le_of_ble_eq_true rfl) ?_
  refine lv_aload_n hx hb d_Mod_init_76 rfl (lv_at hl 0 rfl) ?_
  refine lv_bipush (v := nI 24) hx hb d_Mod_init_77 (by decide) ?_
  refine md_rowI (z := sz + 9) hx hb hts lay_Mod hown hK.1 hn9 hP9 hS9 hz9 (Nat.le_trans hBz (Nat.le_add_right sz 9)) (Nat.lt_of_lt_of_le hasz (Nat.le_add_right sz 9)) (hts _ (List.mem_cons_of_mem _ wd_51)) 24 (by decide) (Nat.le_of_ble_eq_true rfl) (Nat.le_of_ble_eq_true rfl) d_Mod_init_79 10 (by decide) (hts _ (List.mem_cons_of_mem _ wd_501)) rfl rfl (by decide +kernel) d_Mod_init_81 (fun A10 f10 H locs hA10 hf10 hn10 hP10 hz10 hS10 => ?_)
  clear hP9 hz9 hS9 hn9
  refine W.widen (k := 10) (n := 288) (Nat.le_of_ble_eq_true rfl) (Nat.le_of_ble_eq_true rfl) ?_
  refine lv_aload_n hx hb d_Mod_init_84 rfl (lv_at hl 0 rfl) ?_
  refine lv_bipush (v := nI 24) hx hb d_Mod_init_85 (by decide) ?_
  refine md_rowI (z := sz + 10) hx hb hts lay_Mod hown hK.1 hn10 hP10 hS10 hz10 (Nat.le_trans hBz (Nat.le_add_right sz 10)) (Nat.lt_of_lt_of_le hasz (Nat.le_add_right sz 10)) (hts _ (List.mem_cons_of_mem _ wd_51)) 24 (by decide) (Nat.le_of_ble_eq_true rfl) (Nat.le_of_ble_eq_true rfl) d_Mod_init_87 11 (by decide) (hts _ (List.mem_cons_of_mem _ wd_502)) rfl rfl (by decide +kernel) d_Mod_init_89 (fun A11 f11 H locs hA11 hf11 hn11 hP11 hz11 hS11 => ?_)
  clear hP10 hz10 hS10 hn10
  refine W.widen (k := 11) (n := 312) (Nat.le_of_ble_eq_true rfl) (Nat.le_of_ble_eq_true rfl) ?_
  refine lv_aload_n hx hb d_Mod_init_92 rfl (lv_at hl 0 rfl) ?_
  refine lv_bipush (v := nI 24) hx hb d_Mod_init_93 (by decide) ?_
  refine md_rowI (z := sz + 11) hx hb hts lay_Mod hown hK.1 hn11 hP11 hS11 hz11 (Nat.le_trans hBz (Nat.le_add_right sz 11)) (Nat.lt_of_lt_of_le hasz (Nat.le_add_right sz 11)) (hts _ (List.mem_cons_of_mem _ wd_51)) 24 (by decide) (Nat.le_of_ble_eq_true rfl) (Nat.le_of_ble_eq_true rfl) d_Mod_init_95 12 (by decide) (hts _ (List.mem_cons_of_mem _ wd_503)) rfl rfl (by decide +kernel) d_Mod_init_97 (fun A12 f12 H locs hA12 hf12 hn12 hP12 hz12 hS12 => ?_)
  clear hP11 hz11 hS11 hn11
  refine W.widen (k := 12) (n := 336) (Nat.le_of_ble_eq_true rfl) (Nat.le_of_ble_eq_true rfl) ?_
  refine lv_aload_n hx hb d_Mod_init_100 rfl (lv_at hl 0 rfl) ?_
  refine lv_bipush (v := nI 24) hx hb d_Mod_init_101 (by decide) ?_
  refine md_rowZ (z := sz + 12) hx hb hts lay_Mod hown hK.1 hn12 hP12 hS12 hz12 (Nat.le_trans hBz (Nat.le_add_right sz 12)) (Nat.lt_of_lt_of_le hasz (Nat.le_add_right sz 12)) (hts _ (List.mem_cons_of_mem _ wd_68)) 24 (by decide) (Nat.le_of_ble_eq_true rfl) (Nat.le_of_ble_eq_true rfl) d_Mod_init_103 13 (by decide) (hts _ (List.mem_cons_of_mem _ wd_504)) rfl rfl (by decide +kernel) d_Mod_init_105 (fun A13 f13 H locs hA13 hf13 hn13 hP13 hz13 hS13 => ?_)
  clear hP12 hz12 hS12 hn12
  refine W.widen (k := 13) (n := 360) (Nat.le_of_ble_eq_true rfl) (Nat.le_of_ble_eq_true rfl) ?_
  refine lv_aload_n hx hb d_Mod_init_108 rfl (lv_at hl 0 rfl) ?_
  refine lv_sipush (v := nI 256) hx hb d_Mod_init_109 (by decide) ?_
  refine md_rowI (z := sz + 13) hx hb hts lay_Mod hown hK.1 hn13 hP13 hS13 hz13 (Nat.le_trans hBz (Nat.le_add_right sz 13)) (Nat.lt_of_lt_of_le hasz (Nat.le_add_right sz 13)) (hts _ (List.mem_cons_of_mem _ wd_51)) 256 (by decide) (Nat.le_of_ble_eq_true rfl) (Nat.le_of_ble_eq_true rfl) d_Mod_init_112 14 (by decide) (hts _ (List.mem_cons_of_mem _ wd_505)) rfl rfl (by decide +kernel) d_Mod_init_114 (fun A14 f14 H locs hA14 hf14 hn14 hP14 hz14 hS14 => ?_)
  clear hP13 hz13 hS13 hn13
  refine W.widen (k := 14) (n := 616) (Nat.le_of_ble_eq_true rfl) (Nat.le_of_ble_eq_true rfl) ?_
  refine lv_aload_n hx hb d_Mod_init_117 rfl (lv_at hl 0 rfl) ?_
  refine lv_bipush (v := nI 24) hx hb d_Mod_init_118 (by decide) ?_
  refine md_rowI (z := sz + 14) hx hb hts lay_Mod hown hK.1 hn14 hP14 hS14 hz14 (Nat.le_trans hBz (Nat.le_add_right sz 14)) (Nat.lt_of_lt_of_le hasz (Nat.le_add_right sz 14)) (hts _ (List.mem_cons_of_mem _ wd_51)) 24 (by decide) (Nat.le_of_ble_eq_true rfl) (Nat.le_of_ble_eq_true rfl) d_Mod_init_120 15 (by decide) (hts _ (List.mem_cons_of_mem _ wd_506)) rfl rfl (by decide +kernel) d_Mod_init_122 (fun A15 f15 H locs hA15 hf15 hn15 hP15 hz15 hS15 => ?_)
  clear hP14 hz14 hS14 hn14
  refine W.widen (k := 15) (n := 640) (Nat.le_of_ble_eq_true rfl) (Nat.le_of_ble_eq_true rfl) ?_
  refine lv_aload_n hx hb d_Mod_init_125 rfl (lv_at hl 0 rfl) ?_
  refine lv_iconst (v := nI 5) hx hb d_Mod_init_126 (by decide) ?_
  refine md_rowI (z := sz + 15) hx hb hts lay_Mod hown hK.1 hn15 hP15 hS15 hz15 (Nat.le_trans hBz (Nat.le_add_right sz 15)) (Nat.lt_of_lt_of_le hasz (Nat.le_add_right sz 15)) (hts _ (List.mem_cons_of_mem _ wd_51)) 5 (by decide) (Nat.le_of_ble_eq_true rfl) (Nat.le_of_ble_eq_true rfl) d_Mod_init_127 19 (by decide) (hts _ (List.mem_cons_of_mem _ wd_510)) rfl rfl (by decide +kernel) d_Mod_init_129 (fun A16 f16 H locs hA16 hf16 hn16 hP16 hz16 hS16 => ?_)
  clear hP15 hz15 hS15 hn15
  refine W.widen (k := 16) (n := 645) (Nat.le_of_ble_eq_true rfl) (Nat.le_of_ble_eq_true rfl) ?_
  have hff : f16 = [.int 0, .ref sz, .ref (sz + 1), .ref (sz + 2), .ref (sz + 3), .ref (sz + 4), .ref (sz + 5), .ref (sz + 6), .ref (sz + 7), .ref (sz + 8), .ref (sz + 9), .ref (sz + 10), .ref (sz + 11), .ref (sz + 12), .ref (sz + 13), .ref (sz + 14), .int 0, .int 0, .int 0, .ref (sz + 15), .int 0, .int 0, .int 0, .int 0, .int 0, .int 0, .int 0] := by
    rw [hf16]
    rw [hf15]
    rw [hf14]
    rw [hf13]
    rw [hf12]
    rw [hf11]
    rw [hf10]
    rw [hf9]
    rw [hf8]
    rw [hf7]
    rw [hf6]
    rw [hf5]
    rw [hf4]
    rw [hf3]
    rw [hf2]
    rw [hf1]
    first | done | rfl
  have hAA : A16 = mm_up (mm_up (mm_up (mm_up (mm_up (mm_up (mm_up (mm_up (mm_up (mm_up (mm_up (mm_up (mm_up (mm_up (mm_up (mm_up w sz (.inl (cZ, 24, .inl (fun i => nI ((fun _ => 0) i))))) (sz + 1) (.inl (cZ, 24, .inl (fun i => nI ((fun _ => 0) i))))) (sz + 2) (.inl (cI, 24, .inl (fun i => nI ((fun _ => 0) i))))) (sz + 3) (.inl (cI, 24, .inl (fun i => nI ((fun _ => 0) i))))) (sz + 4) (.inl (cI, 24, .inl (fun i => nI ((fun _ => 0) i))))) (sz + 5) (.inl (cI, 24, .inl (fun i => nI ((fun _ => 0) i))))) (sz + 6) (.inl (cI, 72, .inl (fun i => nI ((fun _ => 0) i))))) (sz + 7) (.inl (cI, 24, .inl (fun i => nI ((fun _ => 0) i))))) (sz + 8) (.inl (cI, 24, .inl (fun i => nI ((fun _ => 0) i))))) (sz + 9) (.inl (cI, 24, .inl (fun i => nI ((fun _ => 0) i))))) (sz + 10) (.inl (cI, 24, .inl (fun i => nI ((fun _ => 0) i))))) (sz + 11) (.inl (cI, 24, .inl (fun i => nI ((fun _ => 0) i))))) (sz + 12) (.inl (cZ, 24, .inl (fun i => nI ((fun _ => 0) i))))) (sz + 13) (.inl (cI, 256, .inl (fun i => nI ((fun _ => 0) i))))) (sz + 14) (.inl (cI, 24, .inl (fun i => nI ((fun _ => 0) i))))) (sz + 15) (.inl (cI, 5, .inl (fun i => nI ((fun _ => 0) i)))) := by
    rw [hA16]
    rw [hA15]
    rw [hA14]
    rw [hA13]
    rw [hA12]
    rw [hA11]
    rw [hA10]
    rw [hA9]
    rw [hA8]
    rw [hA7]
    rw [hA6]
    rw [hA5]
    rw [hA4]
    rw [hA3]
    rw [hA2]
    rw [hA1]
  exact W.vret hx hb hr (fun t ht hW => ⟨⟨(mm_up A16 a (.inr (9, f16)), sz + 16), rfl, ⟨by rw [hAA, hff], rfl⟩, by rw [ht]; exact hP16, by rw [ht]; exact hz16⟩, hS16.F ht⟩) hS16.2.2 d_Mod_init_132
