theorem d_Mod_make_0 : decode k_Mod_make 0 = .ok (.aload_n 0, 1) := by decide +kernel
theorem d_Mod_make_1 : decode k_Mod_make 1 = .ok (.getfield 63, 3) := by decide +kernel
theorem d_Mod_make_4 : decode k_Mod_make 4 = .ok (.istore 6, 2) := by decide +kernel
theorem d_Mod_make_6 : decode k_Mod_make 6 = .ok (.aload_n 0, 1) := by decide +kernel
theorem d_Mod_make_7 : decode k_Mod_make 7 = .ok (.dup, 1) := by decide +kernel
theorem d_Mod_make_8 : decode k_Mod_make 8 = .ok (.getfield 63, 3) := by decide +kernel
theorem d_Mod_make_11 : decode k_Mod_make 11 = .ok (.iconst 1, 1) := by decide +kernel
theorem d_Mod_make_12 : decode k_Mod_make 12 = .ok (.iadd, 1) := by decide +kernel
theorem d_Mod_make_13 : decode k_Mod_make 13 = .ok (.putfield 63, 3) := by decide +kernel
theorem d_Mod_make_16 : decode k_Mod_make 16 = .ok (.aload_n 0, 1) := by decide +kernel
theorem d_Mod_make_17 : decode k_Mod_make 17 = .ok (.getfield 7, 3) := by decide +kernel
theorem d_Mod_make_20 : decode k_Mod_make 20 = .ok (.iload 6, 2) := by decide +kernel
theorem d_Mod_make_22 : decode k_Mod_make 22 = .ok (.iconst 0, 1) := by decide +kernel
theorem d_Mod_make_23 : decode k_Mod_make 23 = .ok (.bastore, 1) := by decide +kernel
theorem d_Mod_make_24 : decode k_Mod_make 24 = .ok (.aload_n 0, 1) := by decide +kernel
theorem d_Mod_make_25 : decode k_Mod_make 25 = .ok (.getfield 13, 3) := by decide +kernel
theorem d_Mod_make_28 : decode k_Mod_make 28 = .ok (.iload 6, 2) := by decide +kernel
theorem d_Mod_make_30 : decode k_Mod_make 30 = .ok (.iload_n 1, 1) := by decide +kernel
theorem d_Mod_make_31 : decode k_Mod_make 31 = .ok (.bastore, 1) := by decide +kernel
theorem d_Mod_make_32 : decode k_Mod_make 32 = .ok (.aload_n 0, 1) := by decide +kernel
theorem d_Mod_make_33 : decode k_Mod_make 33 = .ok (.getfield 16, 3) := by decide +kernel
theorem d_Mod_make_36 : decode k_Mod_make 36 = .ok (.iload 6, 2) := by decide +kernel
theorem d_Mod_make_38 : decode k_Mod_make 38 = .ok (.iload_n 2, 1) := by decide +kernel
theorem d_Mod_make_39 : decode k_Mod_make 39 = .ok (.iastore, 1) := by decide +kernel
theorem d_Mod_make_40 : decode k_Mod_make 40 = .ok (.aload_n 0, 1) := by decide +kernel
theorem d_Mod_make_41 : decode k_Mod_make 41 = .ok (.getfield 29, 3) := by decide +kernel
theorem d_Mod_make_44 : decode k_Mod_make 44 = .ok (.iconst 3, 1) := by decide +kernel
theorem d_Mod_make_45 : decode k_Mod_make 45 = .ok (.iload 6, 2) := by decide +kernel
theorem d_Mod_make_47 : decode k_Mod_make 47 = .ok (.imul, 1) := by decide +kernel
theorem d_Mod_make_48 : decode k_Mod_make 48 = .ok (.iload_n 3, 1) := by decide +kernel
theorem d_Mod_make_49 : decode k_Mod_make 49 = .ok (.iastore, 1) := by decide +kernel
theorem d_Mod_make_50 : decode k_Mod_make 50 = .ok (.aload_n 0, 1) := by decide +kernel
theorem d_Mod_make_51 : decode k_Mod_make 51 = .ok (.getfield 32, 3) := by decide +kernel
theorem d_Mod_make_54 : decode k_Mod_make 54 = .ok (.iload 6, 2) := by decide +kernel
theorem d_Mod_make_56 : decode k_Mod_make 56 = .ok (.iconst 1, 1) := by decide +kernel
theorem d_Mod_make_57 : decode k_Mod_make 57 = .ok (.iastore, 1) := by decide +kernel
theorem d_Mod_make_58 : decode k_Mod_make 58 = .ok (.aload_n 0, 1) := by decide +kernel
theorem d_Mod_make_59 : decode k_Mod_make 59 = .ok (.getfield 35, 3) := by decide +kernel
theorem d_Mod_make_62 : decode k_Mod_make 62 = .ok (.iload 6, 2) := by decide +kernel
theorem d_Mod_make_64 : decode k_Mod_make 64 = .ok (.iconst 1, 1) := by decide +kernel
theorem d_Mod_make_65 : decode k_Mod_make 65 = .ok (.iastore, 1) := by decide +kernel
theorem d_Mod_make_66 : decode k_Mod_make 66 = .ok (.aload_n 0, 1) := by decide +kernel
theorem d_Mod_make_67 : decode k_Mod_make 67 = .ok (.getfield 23, 3) := by decide +kernel
theorem d_Mod_make_70 : decode k_Mod_make 70 = .ok (.iload 6, 2) := by decide +kernel
theorem d_Mod_make_72 : decode k_Mod_make 72 = .ok (.iload 4, 2) := by decide +kernel
theorem d_Mod_make_74 : decode k_Mod_make 74 = .ok (.iastore, 1) := by decide +kernel
theorem d_Mod_make_75 : decode k_Mod_make 75 = .ok (.aload_n 0, 1) := by decide +kernel
theorem d_Mod_make_76 : decode k_Mod_make 76 = .ok (.getfield 26, 3) := by decide +kernel
theorem d_Mod_make_79 : decode k_Mod_make 79 = .ok (.iload 6, 2) := by decide +kernel
theorem d_Mod_make_81 : decode k_Mod_make 81 = .ok (.iload 5, 2) := by decide +kernel
theorem d_Mod_make_83 : decode k_Mod_make 83 = .ok (.iastore, 1) := by decide +kernel
theorem d_Mod_make_84 : decode k_Mod_make 84 = .ok (.aload_n 0, 1) := by decide +kernel
theorem d_Mod_make_85 : decode k_Mod_make 85 = .ok (.getfield 38, 3) := by decide +kernel
theorem d_Mod_make_88 : decode k_Mod_make 88 = .ok (.iload 6, 2) := by decide +kernel
theorem d_Mod_make_90 : decode k_Mod_make 90 = .ok (.sipush 255, 3) := by decide +kernel
theorem d_Mod_make_93 : decode k_Mod_make 93 = .ok (.iastore, 1) := by decide +kernel
theorem d_Mod_make_94 : decode k_Mod_make 94 = .ok (.aload_n 0, 1) := by decide +kernel
theorem d_Mod_make_95 : decode k_Mod_make 95 = .ok (.getfield 41, 3) := by decide +kernel
theorem d_Mod_make_98 : decode k_Mod_make 98 = .ok (.iload 6, 2) := by decide +kernel
theorem d_Mod_make_100 : decode k_Mod_make 100 = .ok (.ldc 67, 2) := by decide +kernel
theorem d_Mod_make_102 : decode k_Mod_make 102 = .ok (.iastore, 1) := by decide +kernel
theorem d_Mod_make_103 : decode k_Mod_make 103 = .ok (.aload_n 0, 1) := by decide +kernel
theorem d_Mod_make_104 : decode k_Mod_make 104 = .ok (.getfield 44, 3) := by decide +kernel
theorem d_Mod_make_107 : decode k_Mod_make 107 = .ok (.iload 6, 2) := by decide +kernel
theorem d_Mod_make_109 : decode k_Mod_make 109 = .ok (.ldc 68, 2) := by decide +kernel
theorem d_Mod_make_111 : decode k_Mod_make 111 = .ok (.iastore, 1) := by decide +kernel
theorem d_Mod_make_112 : decode k_Mod_make 112 = .ok (.iload 6, 2) := by decide +kernel
theorem d_Mod_make_114 : decode k_Mod_make 114 = .ok (.ireturn, 1) := by decide +kernel
set_option maxHeartbeats 4000000 in
set_option maxRecDepth 100000 in
theorem c_Mod_make (l : Launch) {B : Nat} {D : va_G} {cI cZ cQ : ClassId} {w : mm_M} {sz : Nat} {b : Nat} {N : Nat → Nat → Nat} {S : Nat → Nat → Int32} {zz iss su : Nat} {fr to : Int32} (hM : mo_I b cI cZ N S w) (hn : N 0 0 < 24) (hz0 : zz ≤ 1) : Met l y_Mod_make ws_Mod_make (kk_rm 0 0 0) (kk_Pc B D cI cZ cQ [.ref (b + 14), .int (nI zz), .int (nI iss), .int (nI su), .int fr, .int to] w sz) (kk_Qi B D (fun r w' sz' => r = nI (N 0 0) ∧ mo_I b cI cZ (mk_N N zz iss su) (mk_S S (N 0 0) fr to) w' ∧ (∀ j, ¬ (b + 14 ≤ j ∧ j < b + 31) → w' j = w j) ∧ sz' = sz)) 0 0 (fun q => B ≤ q) := by
  refine Met.ofW (cc := k_Mod_make) (maxL := 7) (ret := (some .int)) (by decide) rfl ?_
  intro p e s m args below meth c s₁ BB hml hv
  obtain ⟨rfl, hK, hP, hz, hBz⟩ := hv
  have hx := BB.exec
  have hb := BB.bytes
  have hr := BB.returns
  have hts := atoms_spec (ws := ws_Mod_make) BB.pre
  have hown : s.vm.findClass "DelegationClosureModel" = some m.cls := findClass_of_methodNamed BB.named
  have hlocks := BB.notSynchronized
  have hS : mm_S B s.heap s.heap [] := va_S.rf
  have hl := lv_entry ([.ref (b + 14), .int (nI zz), .int (nI iss), .int (nI su), .int fr, .int to]) (n := 7) (Nat.le_of_ble_eq_true rfl)
  rw [lg_entry_eq]
  generalize (lg_sl ([.ref (b + 14), .int (nI zz), .int (nI iss), .int (nI su), .int fr, .int to]) ++ List.replicate (7 - (lg_sl ([.ref (b + 14), .int (nI zz), .int (nI iss), .int (nI su), .int fr, .int to])).length) Slot.unset).toArray = ls at hl ⊢
  have hl : lv_has ls 7 [(0, .ref (b + 14)), (1, .int (nI zz)), (2, .int (nI iss)), (3, .int (nI su)), (4, .int fr), (5, .int to)] := hl
  have m0 : w (b + 14) = some (.inr (9, [.int (nI (N 0 0)), .ref (b + 15), .ref (b + 16), .ref (b + 17), .ref (b + 18), .ref (b + 19), .ref (b + 20), .ref (b + 21), .ref (b + 22), .ref (b + 23), .ref (b + 24), .ref (b + 25), .ref (b + 26), .ref (b + 27), .ref (b + 28), .ref (b + 29), .int (nI (N 16 0)), .int (nI (N 17 0)), .int (nI (N 18 0)), .ref (b + 30), .int (nI (N 20 0)), .int (S 21 0), .int (S 22 0), .int (S 23 0), .int (S 24 0), .int (nI (N 25 0)), .int (nI (N 26 0))])) := hM.1
  have m1 : w (b + 15) = some (.inl (cZ, 24, .inl (fun i => nI ((N 1) i)))) := hM.2 1 (by decide) (by decide)
  have m2 : w (b + 16) = some (.inl (cZ, 24, .inl (fun i => nI ((N 2) i)))) := hM.2 2 (by decide) (by decide)
  have m3 : w (b + 17) = some (.inl (cI, 24, .inl (fun i => nI ((N 3) i)))) := hM.2 3 (by decide) (by decide)
  have m4 : w (b + 18) = some (.inl (cI, 24, .inl (fun i => nI ((N 4) i)))) := hM.2 4 (by decide) (by decide)
  have m5 : w (b + 19) = some (.inl (cI, 24, .inl (S 5))) := hM.2 5 (by decide) (by decide)
  have m6 : w (b + 20) = some (.inl (cI, 24, .inl (S 6))) := hM.2 6 (by decide) (by decide)
  have m7 : w (b + 21) = some (.inl (cI, 72, .inl (fun i => nI ((N 7) i)))) := hM.2 7 (by decide) (by decide)
  have m8 : w (b + 22) = some (.inl (cI, 24, .inl (fun i => nI ((N 8) i)))) := hM.2 8 (by decide) (by decide)
  have m9 : w (b + 23) = some (.inl (cI, 24, .inl (fun i => nI ((N 9) i)))) := hM.2 9 (by decide) (by decide)
  have m10 : w (b + 24) = some (.inl (cI, 24, .inl (fun i => nI ((N 10) i)))) := hM.2 10 (by decide) (by decide)
  have m11 : w (b + 25) = some (.inl (cI, 24, .inl (S 11))) := hM.2 11 (by decide) (by decide)
  have m12 : w (b + 26) = some (.inl (cI, 24, .inl (S 12))) := hM.2 12 (by decide) (by decide)
  have m13 : w (b + 27) = some (.inl (cZ, 24, .inl (fun i => nI ((N 13) i)))) := hM.2 13 (by decide) (by decide)
  have m14 : w (b + 28) = some (.inl (cI, 256, .inl (fun i => nI ((N 14) i)))) := hM.2 14 (by decide) (by decide)
  have m15 : w (b + 29) = some (.inl (cI, 24, .inl (fun i => nI ((N 15) i)))) := hM.2 15 (by decide) (by decide)
  have m16 : w (b + 30) = some (.inl (cI, 5, .inl (fun i => nI ((N 19) i)))) := hM.2 16 (by decide) (by decide)
  refine lv_aload_n hx hb d_Mod_make_0 rfl (lv_at hl 0 rfl) ?_
  refine mm_get (D := D) (C := n_Mod) (T := T_Mod) (N := 27) (v := .int (nI (N 0 0))) hx hb hts lay_Mod hown hK.1 hP m0 rfl 0 (by decide) (hts _ (List.mem_cons_of_mem _ wd_491)) (fun _ h9 => h9) rfl d_Mod_make_1 ?_
  refine lv_istore hx hb d_Mod_make_4 hl (by decide) rfl (fun ls hl => ?_)
  have hl : lv_has ls 7 [(6, .int (nI (N 0 0))), (0, .ref (b + 14)), (1, .int (nI zz)), (2, .int (nI iss)), (3, .int (nI su)), (4, .int fr), (5, .int to)] := hl
  refine lv_aload_n hx hb d_Mod_make_6 rfl (lv_at hl 1 rfl) ?_
  refine lv_dup hx hb d_Mod_make_7 rfl ?_
  refine mm_get (D := D) (C := n_Mod) (T := T_Mod) (N := 27) (v := .int (nI (N 0 0))) hx hb hts lay_Mod hown hK.1 hP m0 rfl 0 (by decide) (hts _ (List.mem_cons_of_mem _ wd_491)) (fun _ h9 => h9) rfl d_Mod_make_8 ?_
  refine lv_iconst (v := nI 1) hx hb d_Mod_make_11 (by decide) ?_
  refine lv_iadd hx hb d_Mod_make_12 ?_
  refine kk_top (nI_add _ _) ?_
  refine mm_put (D := D) (C := n_Mod) (T := T_Mod) (N := 27) (v := .int (nI ((N 0 0) + 1))) (ty := .int) hx hb hts lay_Mod t_Mod ty_Mod nm_Mod hown hK.1 hP hS m0 rfl 0 (by decide) (hts _ (List.mem_cons_of_mem _ wd_491)) (fun _ h9 => h9) rfl (by decide +kernel) rfl rfl (Nat.le_of_ble_eq_true rfl) d_Mod_make_13 (fun H locs hP hz1 hS => ?_)
  have hz : H.size = sz := hz1.trans hz
  obtain ⟨w1, hw1⟩ : ∃ z : mm_M, z = mm_up w (b + 14) (.inr (9, [.int (nI ((N 0 0) + 1)), .ref (b + 15), .ref (b + 16), .ref (b + 17), .ref (b + 18), .ref (b + 19), .ref (b + 20), .ref (b + 21), .ref (b + 22), .ref (b + 23), .ref (b + 24), .ref (b + 25), .ref (b + 26), .ref (b + 27), .ref (b + 28), .ref (b + 29), .int (nI (N 16 0)), .int (nI (N 17 0)), .int (nI (N 18 0)), .ref (b + 30), .int (nI (N 20 0)), .int (S 21 0), .int (S 22 0), .int (S 23 0), .int (S 24 0), .int (nI (N 25 0)), .int (nI (N 26 0))])) := ⟨_, rfl⟩
  have hP : mm_P B D kc w1 H := by rw [hw1]; exact hP
  have fr1 : ∀ j, j ≠ b + 14 → w1 j = w j := fun j h9 => by rw [hw1]; exact mm_un h9
  have fa1 : w1 (b + 14) = some (.inr (9, [.int (nI ((N 0 0) + 1)), .ref (b + 15), .ref (b + 16), .ref (b + 17), .ref (b + 18), .ref (b + 19), .ref (b + 20), .ref (b + 21), .ref (b + 22), .ref (b + 23), .ref (b + 24), .ref (b + 25), .ref (b + 26), .ref (b + 27), .ref (b + 28), .ref (b + 29), .int (nI (N 16 0)), .int (nI (N 17 0)), .int (nI (N 18 0)), .ref (b + 30), .int (nI (N 20 0)), .int (S 21 0), .int (S 22 0), .int (S 23 0), .int (S 24 0), .int (nI (N 25 0)), .int (nI (N 26 0))])) := by rw [hw1]; exact mm_us _ _ _
  refine lv_aload_n hx hb d_Mod_make_16 rfl (lv_at hl 1 rfl) ?_
  refine mm_get (D := D) (C := n_Mod) (T := T_Mod) (N := 27) (v := .ref (b + 15)) hx hb hts lay_Mod hown hK.1 hP fa1 rfl 1 (by decide) (hts _ (List.mem_cons_of_mem _ wd_492)) (fun _ h9 => h9) rfl d_Mod_make_17 ?_
  refine lv_iload hx hb d_Mod_make_20 (lv_at hl 0 rfl) ?_
  refine lv_iconst (v := nI 0) hx hb d_Mod_make_22 (by decide) ?_
  have f2 := (fr1 _ (by omega)).trans (m1)
  refine mm_zast hx hb hK.1 hP hS 1 f2 rfl (N 0 0) rfl (by omega) (by decide) rfl d_Mod_make_23 (fun H locs hP hz1 hS => ?_)
  rw [show upd (fun i => nI ((N 1) i)) (N 0 0) (nI 0) = fun i => nI ((va_up (N 1) (N 0 0) 0) i) from kk_upn _ _ _] at hP
  have hz : H.size = sz := hz1.trans hz
  obtain ⟨w3, hw3⟩ : ∃ z : mm_M, z = mm_up w1 (b + 15) (.inl (cZ, 24, .inl (fun i => nI ((va_up (N 1) (N 0 0) 0) i)))) := ⟨_, rfl⟩
  have hP : mm_P B D kc w3 H := by rw [hw3]; exact hP
  have fr3 : ∀ j, j ≠ b + 15 → w3 j = w1 j := fun j h9 => by rw [hw3]; exact mm_un h9
  have fa3 : w3 (b + 15) = some (.inl (cZ, 24, .inl (fun i => nI ((va_up (N 1) (N 0 0) 0) i)))) := by rw [hw3]; exact mm_us _ _ _
  refine lv_aload_n hx hb d_Mod_make_24 rfl (lv_at hl 1 rfl) ?_
  have f4 := (fr3 _ (by omega)).trans (fa1)
  refine mm_get (D := D) (C := n_Mod) (T := T_Mod) (N := 27) (v := .ref (b + 16)) hx hb hts lay_Mod hown hK.1 hP f4 rfl 2 (by decide) (hts _ (List.mem_cons_of_mem _ wd_493)) (fun _ h9 => h9) rfl d_Mod_make_25 ?_
  refine lv_iload hx hb d_Mod_make_28 (lv_at hl 0 rfl) ?_
  refine lv_iload_n hx hb d_Mod_make_30 rfl (lv_at hl 2 rfl) ?_
  have f5 := (fr3 _ (by omega)).trans ((fr1 _ (by omega)).trans (m2))
  refine mm_zast hx hb hK.1 hP hS 1 f5 rfl (N 0 0) rfl (by omega) (by decide) (kk_nar1 hz0) d_Mod_make_31 (fun H locs hP hz1 hS => ?_)
  rw [show upd (fun i => nI ((N 2) i)) (N 0 0) (nI zz) = fun i => nI ((va_up (N 2) (N 0 0) zz) i) from kk_upn _ _ _] at hP
  have hz : H.size = sz := hz1.trans hz
  obtain ⟨w6, hw6⟩ : ∃ z : mm_M, z = mm_up w3 (b + 16) (.inl (cZ, 24, .inl (fun i => nI ((va_up (N 2) (N 0 0) zz) i)))) := ⟨_, rfl⟩
  have hP : mm_P B D kc w6 H := by rw [hw6]; exact hP
  have fr6 : ∀ j, j ≠ b + 16 → w6 j = w3 j := fun j h9 => by rw [hw6]; exact mm_un h9
  have fa6 : w6 (b + 16) = some (.inl (cZ, 24, .inl (fun i => nI ((va_up (N 2) (N 0 0) zz) i)))) := by rw [hw6]; exact mm_us _ _ _
  refine lv_aload_n hx hb d_Mod_make_32 rfl (lv_at hl 1 rfl) ?_
  have f7 := (fr6 _ (by omega)).trans (f4)
  refine mm_get (D := D) (C := n_Mod) (T := T_Mod) (N := 27) (v := .ref (b + 17)) hx hb hts lay_Mod hown hK.1 hP f7 rfl 3 (by decide) (hts _ (List.mem_cons_of_mem _ wd_494)) (fun _ h9 => h9) rfl d_Mod_make_33 ?_
  refine lv_iload hx hb d_Mod_make_36 (lv_at hl 0 rfl) ?_
  refine lv_iload_n hx hb d_Mod_make_38 rfl (lv_at hl 3 rfl) ?_
  have f8 := (fr6 _ (by omega)).trans ((fr3 _ (by omega)).trans ((fr1 _ (by omega)).trans (m3)))
  refine mm_iast hx hb hK.1 hP hS 0 f8 rfl (N 0 0) rfl (by omega) (by decide) d_Mod_make_39 (fun H locs hP hz1 hS => ?_)
  rw [show upd (fun i => nI ((N 3) i)) (N 0 0) (nI iss) = fun i => nI ((va_up (N 3) (N 0 0) iss) i) from kk_upn _ _ _] at hP
  have hz : H.size = sz := hz1.trans hz
  obtain ⟨w9, hw9⟩ : ∃ z : mm_M, z = mm_up w6 (b + 17) (.inl (cI, 24, .inl (fun i => nI ((va_up (N 3) (N 0 0) iss) i)))) := ⟨_, rfl⟩
  have hP : mm_P B D kc w9 H := by rw [hw9]; exact hP
  have fr9 : ∀ j, j ≠ b + 17 → w9 j = w6 j := fun j h9 => by rw [hw9]; exact mm_un h9
  have fa9 : w9 (b + 17) = some (.inl (cI, 24, .inl (fun i => nI ((va_up (N 3) (N 0 0) iss) i)))) := by rw [hw9]; exact mm_us _ _ _
  refine lv_aload_n hx hb d_Mod_make_40 rfl (lv_at hl 1 rfl) ?_
  have f10 := (fr9 _ (by omega)).trans (f7)
  refine mm_get (D := D) (C := n_Mod) (T := T_Mod) (N := 27) (v := .ref (b + 21)) hx hb hts lay_Mod hown hK.1 hP f10 rfl 7 (by decide) (hts _ (List.mem_cons_of_mem _ wd_498)) (fun _ h9 => h9) rfl d_Mod_make_41 ?_
  refine lv_iconst (v := nI 3) hx hb d_Mod_make_44 (by decide) ?_
  refine lv_iload hx hb d_Mod_make_45 (lv_at hl 0 rfl) ?_
  refine lv_imul hx hb d_Mod_make_47 ?_
  refine kk_top (pk_mul _ _) ?_
  refine lv_iload_n hx hb d_Mod_make_48 rfl (lv_at hl 4 rfl) ?_
  have f11 := (fr9 _ (by omega)).trans ((fr6 _ (by omega)).trans ((fr3 _ (by omega)).trans ((fr1 _ (by omega)).trans (m7))))
  refine mm_iast hx hb hK.1 hP hS 0 f11 rfl (3 * (N 0 0)) rfl (by omega) (by decide) d_Mod_make_49 (fun H locs hP hz1 hS => ?_)
  rw [show upd (fun i => nI ((N 7) i)) (3 * (N 0 0)) (nI su) = fun i => nI ((va_up (N 7) (3 * (N 0 0)) su) i) from kk_upn _ _ _] at hP
  have hz : H.size = sz := hz1.trans hz
  obtain ⟨w12, hw12⟩ : ∃ z : mm_M, z = mm_up w9 (b + 21) (.inl (cI, 72, .inl (fun i => nI ((va_up (N 7) (3 * (N 0 0)) su) i)))) := ⟨_, rfl⟩
  have hP : mm_P B D kc w12 H := by rw [hw12]; exact hP
  have fr12 : ∀ j, j ≠ b + 21 → w12 j = w9 j := fun j h9 => by rw [hw12]; exact mm_un h9
  have fa12 : w12 (b + 21) = some (.inl (cI, 72, .inl (fun i => nI ((va_up (N 7) (3 * (N 0 0)) su) i)))) := by rw [hw12]; exact mm_us _ _ _
  refine lv_aload_n hx hb d_Mod_make_50 rfl (lv_at hl 1 rfl) ?_
  have f13 := (fr12 _ (by omega)).trans (f10)
  refine mm_get (D := D) (C := n_Mod) (T := T_Mod) (N := 27) (v := .ref (b + 22)) hx hb hts lay_Mod hown hK.1 hP f13 rfl 8 (by decide) (hts _ (List.mem_cons_of_mem _ wd_499)) (fun _ h9 => h9) rfl d_Mod_make_51 ?_
  refine lv_iload hx hb d_Mod_make_54 (lv_at hl 0 rfl) ?_
  refine lv_iconst (v := nI 1) hx hb d_Mod_make_56 (by decide) ?_
  have f14 := (fr12 _ (by omega)).trans ((fr9 _ (by omega)).trans ((fr6 _ (by omega)).trans ((fr3 _ (by omega)).trans ((fr1 _ (by omega)).trans (m8)))))
  refine mm_iast hx hb hK.1 hP hS 0 f14 rfl (N 0 0) rfl (by omega) (by decide) d_Mod_make_57 (fun H locs hP hz1 hS => ?_)
  rw [show upd (fun i => nI ((N 8) i)) (N 0 0) (nI 1) = fun i => nI ((va_up (N 8) (N 0 0) 1) i) from kk_upn _ _ _] at hP
  have hz : H.size = sz := hz1.trans hz
  obtain ⟨w15, hw15⟩ : ∃ z : mm_M, z = mm_up w12 (b + 22) (.inl (cI, 24, .inl (fun i => nI ((va_up (N 8) (N 0 0) 1) i)))) := ⟨_, rfl⟩
  have hP : mm_P B D kc w15 H := by rw [hw15]; exact hP
  have fr15 : ∀ j, j ≠ b + 22 → w15 j = w12 j := fun j h9 => by rw [hw15]; exact mm_un h9
  have fa15 : w15 (b + 22) = some (.inl (cI, 24, .inl (fun i => nI ((va_up (N 8) (N 0 0) 1) i)))) := by rw [hw15]; exact mm_us _ _ _
  refine lv_aload_n hx hb d_Mod_make_58 rfl (lv_at hl 1 rfl) ?_
  have f16 := (fr15 _ (by omega)).trans (f13)
  refine mm_get (D := D) (C := n_Mod) (T := T_Mod) (N := 27) (v := .ref (b + 23)) hx hb hts lay_Mod hown hK.1 hP f16 rfl 9 (by decide) (hts _ (List.mem_cons_of_mem _ wd_500)) (fun _ h9 => h9) rfl d_Mod_make_59 ?_
  refine lv_iload hx hb d_Mod_make_62 (lv_at hl 0 rfl) ?_
  refine lv_iconst (v := nI 1) hx hb d_Mod_make_64 (by decide) ?_
  have f17 := (fr15 _ (by omega)).trans ((fr12 _ (by omega)).trans ((fr9 _ (by omega)).trans ((fr6 _ (by omega)).trans ((fr3 _ (by omega)).trans ((fr1 _ (by omega)).trans (m9))))))
  refine mm_iast hx hb hK.1 hP hS 0 f17 rfl (N 0 0) rfl (by omega) (by decide) d_Mod_make_65 (fun H locs hP hz1 hS => ?_)
  rw [show upd (fun i => nI ((N 9) i)) (N 0 0) (nI 1) = fun i => nI ((va_up (N 9) (N 0 0) 1) i) from kk_upn _ _ _] at hP
  have hz : H.size = sz := hz1.trans hz
  obtain ⟨w18, hw18⟩ : ∃ z : mm_M, z = mm_up w15 (b + 23) (.inl (cI, 24, .inl (fun i => nI ((va_up (N 9) (N 0 0) 1) i)))) := ⟨_, rfl⟩
  have hP : mm_P B D kc w18 H := by rw [hw18]; exact hP
  have fr18 : ∀ j, j ≠ b + 23 → w18 j = w15 j := fun j h9 => by rw [hw18]; exact mm_un h9
  have fa18 : w18 (b + 23) = some (.inl (cI, 24, .inl (fun i => nI ((va_up (N 9) (N 0 0) 1) i)))) := by rw [hw18]; exact mm_us _ _ _
  refine lv_aload_n hx hb d_Mod_make_66 rfl (lv_at hl 1 rfl) ?_
  have f19 := (fr18 _ (by omega)).trans (f16)
  refine mm_get (D := D) (C := n_Mod) (T := T_Mod) (N := 27) (v := .ref (b + 19)) hx hb hts lay_Mod hown hK.1 hP f19 rfl 5 (by decide) (hts _ (List.mem_cons_of_mem _ wd_496)) (fun _ h9 => h9) rfl d_Mod_make_67 ?_
  refine lv_iload hx hb d_Mod_make_70 (lv_at hl 0 rfl) ?_
  refine lv_iload hx hb d_Mod_make_72 (lv_at hl 5 rfl) ?_
  have f20 := (fr18 _ (by omega)).trans ((fr15 _ (by omega)).trans ((fr12 _ (by omega)).trans ((fr9 _ (by omega)).trans ((fr6 _ (by omega)).trans ((fr3 _ (by omega)).trans ((fr1 _ (by omega)).trans (m5)))))))
  refine mm_iast hx hb hK.1 hP hS 0 f20 rfl (N 0 0) rfl (by omega) (by decide) d_Mod_make_74 (fun H locs hP hz1 hS => ?_)
  have hz : H.size = sz := hz1.trans hz
  obtain ⟨w21, hw21⟩ : ∃ z : mm_M, z = mm_up w18 (b + 19) (.inl (cI, 24, .inl (upd (S 5) (N 0 0) fr))) := ⟨_, rfl⟩
  have hP : mm_P B D kc w21 H := by rw [hw21]; exact hP
  have fr21 : ∀ j, j ≠ b + 19 → w21 j = w18 j := fun j h9 => by rw [hw21]; exact mm_un h9
  have fa21 : w21 (b + 19) = some (.inl (cI, 24, .inl (upd (S 5) (N 0 0) fr))) := by rw [hw21]; exact mm_us _ _ _
  refine lv_aload_n hx hb d_Mod_make_75 rfl (lv_at hl 1 rfl) ?_
  have f22 := (fr21 _ (by omega)).trans (f19)
  refine mm_get (D := D) (C := n_Mod) (T := T_Mod) (N := 27) (v := .ref (b + 20)) hx hb hts lay_Mod hown hK.1 hP f22 rfl 6 (by decide) (hts _ (List.mem_cons_of_mem _ wd_497)) (fun _ h9 => h9) rfl d_Mod_make_76 ?_
  refine lv_iload hx hb d_Mod_make_79 (lv_at hl 0 rfl) ?_
  refine lv_iload hx hb d_Mod_make_81 (lv_at hl 6 rfl) ?_
  have f23 := (fr21 _ (by omega)).trans ((fr18 _ (by omega)).trans ((fr15 _ (by omega)).trans ((fr12 _ (by omega)).trans ((fr9 _ (by omega)).trans ((fr6 _ (by omega)).trans ((fr3 _ (by omega)).trans ((fr1 _ (by omega)).trans (m6))))))))
  refine mm_iast hx hb hK.1 hP hS 0 f23 rfl (N 0 0) rfl (by omega) (by decide) d_Mod_make_83 (fun H locs hP hz1 hS => ?_)
  have hz : H.size = sz := hz1.trans hz
  obtain ⟨w24, hw24⟩ : ∃ z : mm_M, z = mm_up w21 (b + 20) (.inl (cI, 24, .inl (upd (S 6) (N 0 0) to))) := ⟨_, rfl⟩
  have hP : mm_P B D kc w24 H := by rw [hw24]; exact hP
  have fr24 : ∀ j, j ≠ b + 20 → w24 j = w21 j := fun j h9 => by rw [hw24]; exact mm_un h9
  have fa24 : w24 (b + 20) = some (.inl (cI, 24, .inl (upd (S 6) (N 0 0) to))) := by rw [hw24]; exact mm_us _ _ _
  refine lv_aload_n hx hb d_Mod_make_84 rfl (lv_at hl 1 rfl) ?_
  have f25 := (fr24 _ (by omega)).trans (f22)
  refine mm_get (D := D) (C := n_Mod) (T := T_Mod) (N := 27) (v := .ref (b + 24)) hx hb hts lay_Mod hown hK.1 hP f25 rfl 10 (by decide) (hts _ (List.mem_cons_of_mem _ wd_501)) (fun _ h9 => h9) rfl d_Mod_make_85 ?_
  refine lv_iload hx hb d_Mod_make_88 (lv_at hl 0 rfl) ?_
  refine lv_sipush (v := nI 255) hx hb d_Mod_make_90 (by decide) ?_
  have f26 := (fr24 _ (by omega)).trans ((fr21 _ (by omega)).trans ((fr18 _ (by omega)).trans ((fr15 _ (by omega)).trans ((fr12 _ (by omega)).trans ((fr9 _ (by omega)).trans ((fr6 _ (by omega)).trans ((fr3 _ (by omega)).trans ((fr1 _ (by omega)).trans (m10)))))))))
  refine mm_iast hx hb hK.1 hP hS 0 f26 rfl (N 0 0) rfl (by omega) (by decide) d_Mod_make_93 (fun H locs hP hz1 hS => ?_)
  rw [show upd (fun i => nI ((N 10) i)) (N 0 0) (nI 255) = fun i => nI ((va_up (N 10) (N 0 0) 255) i) from kk_upn _ _ _] at hP
  have hz : H.size = sz := hz1.trans hz
  obtain ⟨w27, hw27⟩ : ∃ z : mm_M, z = mm_up w24 (b + 24) (.inl (cI, 24, .inl (fun i => nI ((va_up (N 10) (N 0 0) 255) i)))) := ⟨_, rfl⟩
  have hP : mm_P B D kc w27 H := by rw [hw27]; exact hP
  have fr27 : ∀ j, j ≠ b + 24 → w27 j = w24 j := fun j h9 => by rw [hw27]; exact mm_un h9
  have fa27 : w27 (b + 24) = some (.inl (cI, 24, .inl (fun i => nI ((va_up (N 10) (N 0 0) 255) i)))) := by rw [hw27]; exact mm_us _ _ _
  refine lv_aload_n hx hb d_Mod_make_94 rfl (lv_at hl 1 rfl) ?_
  have f28 := (fr27 _ (by omega)).trans (f25)
  refine mm_get (D := D) (C := n_Mod) (T := T_Mod) (N := 27) (v := .ref (b + 25)) hx hb hts lay_Mod hown hK.1 hP f28 rfl 11 (by decide) (hts _ (List.mem_cons_of_mem _ wd_502)) (fun _ h9 => h9) rfl d_Mod_make_95 ?_
  refine lv_iload hx hb d_Mod_make_98 (lv_at hl 0 rfl) ?_
  refine lv_ldc hx hb hown (hts _ (List.mem_cons_of_mem _ wd_587)) d_Mod_make_100 ?_
  have f29 := (fr27 _ (by omega)).trans ((fr24 _ (by omega)).trans ((fr21 _ (by omega)).trans ((fr18 _ (by omega)).trans ((fr15 _ (by omega)).trans ((fr12 _ (by omega)).trans ((fr9 _ (by omega)).trans ((fr6 _ (by omega)).trans ((fr3 _ (by omega)).trans ((fr1 _ (by omega)).trans (m11))))))))))
  refine mm_iast hx hb hK.1 hP hS 0 f29 rfl (N 0 0) rfl (by omega) (by decide) d_Mod_make_102 (fun H locs hP hz1 hS => ?_)
  have hz : H.size = sz := hz1.trans hz
  obtain ⟨w30, hw30⟩ : ∃ z : mm_M, z = mm_up w27 (b + 25) (.inl (cI, 24, .inl (upd (S 11) (N 0 0) (-2147483648)))) := ⟨_, rfl⟩
  have hP : mm_P B D kc w30 H := by rw [hw30]; exact hP
  have fr30 : ∀ j, j ≠ b + 25 → w30 j = w27 j := fun j h9 => by rw [hw30]; exact mm_un h9
  have fa30 : w30 (b + 25) = some (.inl (cI, 24, .inl (upd (S 11) (N 0 0) (-2147483648)))) := by rw [hw30]; exact mm_us _ _ _
  refine lv_aload_n hx hb d_Mod_make_103 rfl (lv_at hl 1 rfl) ?_
  have f31 := (fr30 _ (by omega)).trans (f28)
  refine mm_get (D := D) (C := n_Mod) (T := T_Mod) (N := 27) (v := .ref (b + 26)) hx hb hts lay_Mod hown hK.1 hP f31 rfl 12 (by decide) (hts _ (List.mem_cons_of_mem _ wd_503)) (fun _ h9 => h9) rfl d_Mod_make_104 ?_
  refine lv_iload hx hb d_Mod_make_107 (lv_at hl 0 rfl) ?_
  refine lv_ldc hx hb hown (hts _ (List.mem_cons_of_mem _ wd_588)) d_Mod_make_109 ?_
  have f32 := (fr30 _ (by omega)).trans ((fr27 _ (by omega)).trans ((fr24 _ (by omega)).trans ((fr21 _ (by omega)).trans ((fr18 _ (by omega)).trans ((fr15 _ (by omega)).trans ((fr12 _ (by omega)).trans ((fr9 _ (by omega)).trans ((fr6 _ (by omega)).trans ((fr3 _ (by omega)).trans ((fr1 _ (by omega)).trans (m12)))))))))))
  refine mm_iast hx hb hK.1 hP hS 0 f32 rfl (N 0 0) rfl (by omega) (by decide) d_Mod_make_111 (fun H locs hP hz1 hS => ?_)
  have hz : H.size = sz := hz1.trans hz
  obtain ⟨w33, hw33⟩ : ∃ z : mm_M, z = mm_up w30 (b + 26) (.inl (cI, 24, .inl (upd (S 12) (N 0 0) (2147483647)))) := ⟨_, rfl⟩
  have hP : mm_P B D kc w33 H := by rw [hw33]; exact hP
  have fr33 : ∀ j, j ≠ b + 26 → w33 j = w30 j := fun j h9 => by rw [hw33]; exact mm_un h9
  have fa33 : w33 (b + 26) = some (.inl (cI, 24, .inl (upd (S 12) (N 0 0) (2147483647)))) := by rw [hw33]; exact mm_us _ _ _
  refine lv_iload hx hb d_Mod_make_112 (lv_at hl 0 rfl) ?_
  exact W.iret hx hb hr (fun t ht hW => ⟨⟨_, (w33, sz), rfl, ⟨rfl, (mo_mk ((fr33 _ (by omega)).trans (f31)) ((fr33 _ (by omega)).trans ((fr30 _ (by omega)).trans ((fr27 _ (by omega)).trans ((fr24 _ (by omega)).trans ((fr21 _ (by omega)).trans ((fr18 _ (by omega)).trans ((fr15 _ (by omega)).trans ((fr12 _ (by omega)).trans ((fr9 _ (by omega)).trans ((fr6 _ (by omega)).trans (fa3))))))))))) ((fr33 _ (by omega)).trans ((fr30 _ (by omega)).trans ((fr27 _ (by omega)).trans ((fr24 _ (by omega)).trans ((fr21 _ (by omega)).trans ((fr18 _ (by omega)).trans ((fr15 _ (by omega)).trans ((fr12 _ (by omega)).trans ((fr9 _ (by omega)).trans (fa6)))))))))) ((fr33 _ (by omega)).trans ((fr30 _ (by omega)).trans ((fr27 _ (by omega)).trans ((fr24 _ (by omega)).trans ((fr21 _ (by omega)).trans ((fr18 _ (by omega)).trans ((fr15 _ (by omega)).trans ((fr12 _ (by omega)).trans (fa9))))))))) ((fr33 _ (by omega)).trans ((fr30 _ (by omega)).trans ((fr27 _ (by omega)).trans ((fr24 _ (by omega)).trans ((fr21 _ (by omega)).trans ((fr18 _ (by omega)).trans ((fr15 _ (by omega)).trans ((fr12 _ (by omega)).trans ((fr9 _ (by omega)).trans ((fr6 _ (by omega)).trans ((fr3 _ (by omega)).trans ((fr1 _ (by omega)).trans (m4))))))))))))) ((fr33 _ (by omega)).trans ((fr30 _ (by omega)).trans ((fr27 _ (by omega)).trans ((fr24 _ (by omega)).trans (fa21))))) ((fr33 _ (by omega)).trans ((fr30 _ (by omega)).trans ((fr27 _ (by omega)).trans (fa24)))) ((fr33 _ (by omega)).trans ((fr30 _ (by omega)).trans ((fr27 _ (by omega)).trans ((fr24 _ (by omega)).trans ((fr21 _ (by omega)).trans ((fr18 _ (by omega)).trans ((fr15 _ (by omega)).trans (fa12)))))))) ((fr33 _ (by omega)).trans ((fr30 _ (by omega)).trans ((fr27 _ (by omega)).trans ((fr24 _ (by omega)).trans ((fr21 _ (by omega)).trans ((fr18 _ (by omega)).trans (fa15))))))) ((fr33 _ (by omega)).trans ((fr30 _ (by omega)).trans ((fr27 _ (by omega)).trans ((fr24 _ (by omega)).trans ((fr21 _ (by omega)).trans (fa18)))))) ((fr33 _ (by omega)).trans ((fr30 _ (by omega)).trans (fa27))) ((fr33 _ (by omega)).trans (fa30)) fa33 ((fr33 _ (by omega)).trans ((fr30 _ (by omega)).trans ((fr27 _ (by omega)).trans ((fr24 _ (by omega)).trans ((fr21 _ (by omega)).trans ((fr18 _ (by omega)).trans ((fr15 _ (by omega)).trans ((fr12 _ (by omega)).trans ((fr9 _ (by omega)).trans ((fr6 _ (by omega)).trans ((fr3 _ (by omega)).trans ((fr1 _ (by omega)).trans (m13))))))))))))) ((fr33 _ (by omega)).trans ((fr30 _ (by omega)).trans ((fr27 _ (by omega)).trans ((fr24 _ (by omega)).trans ((fr21 _ (by omega)).trans ((fr18 _ (by omega)).trans ((fr15 _ (by omega)).trans ((fr12 _ (by omega)).trans ((fr9 _ (by omega)).trans ((fr6 _ (by omega)).trans ((fr3 _ (by omega)).trans ((fr1 _ (by omega)).trans (m14))))))))))))) ((fr33 _ (by omega)).trans ((fr30 _ (by omega)).trans ((fr27 _ (by omega)).trans ((fr24 _ (by omega)).trans ((fr21 _ (by omega)).trans ((fr18 _ (by omega)).trans ((fr15 _ (by omega)).trans ((fr12 _ (by omega)).trans ((fr9 _ (by omega)).trans ((fr6 _ (by omega)).trans ((fr3 _ (by omega)).trans ((fr1 _ (by omega)).trans (m15))))))))))))) ((fr33 _ (by omega)).trans ((fr30 _ (by omega)).trans ((fr27 _ (by omega)).trans ((fr24 _ (by omega)).trans ((fr21 _ (by omega)).trans ((fr18 _ (by omega)).trans ((fr15 _ (by omega)).trans ((fr12 _ (by omega)).trans ((fr9 _ (by omega)).trans ((fr6 _ (by omega)).trans ((fr3 _ (by omega)).trans ((fr1 _ (by omega)).trans (m16)))))))))))))), (fun j hj => (fr33 j (by omega)).trans ((fr30 j (by omega)).trans ((fr27 j (by omega)).trans ((fr24 j (by omega)).trans ((fr21 j (by omega)).trans ((fr18 j (by omega)).trans ((fr15 j (by omega)).trans ((fr12 j (by omega)).trans ((fr9 j (by omega)).trans ((fr6 j (by omega)).trans ((fr3 j (by omega)).trans (fr1 j (by omega))))))))))))), rfl⟩, by rw [ht]; exact hP, by rw [ht]; exact hz⟩, hS.F ht⟩) hS.2.2 d_Mod_make_114
theorem d_Mod_isThere_0 : decode k_Mod_isThere 0 = .ok (.iload_n 1, 1) := by decide +kernel
theorem d_Mod_isThere_1 : decode k_Mod_isThere 1 = .ok (.ifCond .lt 24, 3) := by decide +kernel
theorem d_Mod_isThere_4 : decode k_Mod_isThere 4 = .ok (.iload_n 1, 1) := by decide +kernel
theorem d_Mod_isThere_5 : decode k_Mod_isThere 5 = .ok (.aload_n 0, 1) := by decide +kernel
theorem d_Mod_isThere_6 : decode k_Mod_isThere 6 = .ok (.getfield 63, 3) := by decide +kernel
theorem d_Mod_isThere_9 : decode k_Mod_isThere 9 = .ok (.if_icmp .ge 16, 3) := by decide +kernel
theorem d_Mod_isThere_12 : decode k_Mod_isThere 12 = .ok (.aload_n 0, 1) := by decide +kernel
theorem d_Mod_isThere_13 : decode k_Mod_isThere 13 = .ok (.getfield 7, 3) := by decide +kernel
theorem d_Mod_isThere_16 : decode k_Mod_isThere 16 = .ok (.iload_n 1, 1) := by decide +kernel
theorem d_Mod_isThere_17 : decode k_Mod_isThere 17 = .ok (.baload, 1) := by decide +kernel
theorem d_Mod_isThere_18 : decode k_Mod_isThere 18 = .ok (.ifCond .ne 7, 3) := by decide +kernel
theorem d_Mod_isThere_21 : decode k_Mod_isThere 21 = .ok (.iconst 1, 1) := by decide +kernel
theorem d_Mod_isThere_22 : decode k_Mod_isThere 22 = .ok (.goto 4, 3) := by decide +kernel
theorem d_Mod_isThere_25 : decode k_Mod_isThere 25 = .ok (.iconst 0, 1) := by decide +kernel
theorem d_Mod_isThere_26 : decode k_Mod_isThere 26 = .ok (.ireturn, 1) := by decide +kernel
set_option maxHeartbeats 4000000 in
set_option maxRecDepth 100000 in
theorem c_Mod_isThere (l : Launch) {B : Nat} {D : va_G} {cI cZ cQ : ClassId} {w : mm_M} {sz : Nat} {b : Nat} {N : Nat → Nat → Nat} {S : Nat → Nat → Int32} {nr : Int32} (hM : mo_I b cI cZ N S w) (hn : N 0 0 ≤ 24) (hR : rg_I N) : Met l y_Mod_isThere ws_Mod_isThere (kk_rm 0 0 0) (kk_Pc B D cI cZ cQ [.ref (b + 14), .int nr] w sz) (vp_Si (fun r => r = nI (if re_th N nr then 1 else 0))) 0 0 (fun _ => False) := by
  refine Met.ofW (cc := k_Mod_isThere) (maxL := 2) (ret := (some .boolean)) (by decide) rfl ?_
  intro p e s m args below meth c s₁ BB hml hv
  obtain ⟨rfl, hK, hP, hz, hBz⟩ := hv
  have hx := BB.exec
  have hb := BB.bytes
  have hr := BB.returns
  have hts := atoms_spec (ws := ws_Mod_isThere) BB.pre
  have hown : s.vm.findClass "DelegationClosureModel" = some m.cls := findClass_of_methodNamed BB.named
  have hlocks := BB.notSynchronized
  have hS : mm_S B s.heap s.heap [] := va_S.rf
  have hl := lv_entry ([.ref (b + 14), .int nr]) (n := 2) (Nat.le_of_ble_eq_true rfl)
  rw [lg_entry_eq]
  generalize (lg_sl ([.ref (b + 14), .int nr]) ++ List.replicate (2 - (lg_sl ([.ref (b + 14), .int nr])).length) Slot.unset).toArray = ls at hl ⊢
  have hl : lv_has ls 2 [(0, .ref (b + 14)), (1, .int nr)] := hl
  have m0 : w (b + 14) = some (.inr (9, [.int (nI (N 0 0)), .ref (b + 15), .ref (b + 16), .ref (b + 17), .ref (b + 18), .ref (b + 19), .ref (b + 20), .ref (b + 21), .ref (b + 22), .ref (b + 23), .ref (b + 24), .ref (b + 25), .ref (b + 26), .ref (b + 27), .ref (b + 28), .ref (b + 29), .int (nI (N 16 0)), .int (nI (N 17 0)), .int (nI (N 18 0)), .ref (b + 30), .int (nI (N 20 0)), .int (S 21 0), .int (S 22 0), .int (S 23 0), .int (S 24 0), .int (nI (N 25 0)), .int (nI (N 26 0))])) := hM.1
  have m1 : w (b + 15) = some (.inl (cZ, 24, .inl (fun i => nI ((N 1) i)))) := hM.2 1 (by decide) (by decide)
  have m2 : w (b + 16) = some (.inl (cZ, 24, .inl (fun i => nI ((N 2) i)))) := hM.2 2 (by decide) (by decide)
  have m3 : w (b + 17) = some (.inl (cI, 24, .inl (fun i => nI ((N 3) i)))) := hM.2 3 (by decide) (by decide)
  have m4 : w (b + 18) = some (.inl (cI, 24, .inl (fun i => nI ((N 4) i)))) := hM.2 4 (by decide) (by decide)
  have m5 : w (b + 19) = some (.inl (cI, 24, .inl (S 5))) := hM.2 5 (by decide) (by decide)
  have m6 : w (b + 20) = some (.inl (cI, 24, .inl (S 6))) := hM.2 6 (by decide) (by decide)
  have m7 : w (b + 21) = some (.inl (cI, 72, .inl (fun i => nI ((N 7) i)))) := hM.2 7 (by decide) (by decide)
  have m8 : w (b + 22) = some (.inl (cI, 24, .inl (fun i => nI ((N 8) i)))) := hM.2 8 (by decide) (by decide)
  have m9 : w (b + 23) = some (.inl (cI, 24, .inl (fun i => nI ((N 9) i)))) := hM.2 9 (by decide) (by decide)
  have m10 : w (b + 24) = some (.inl (cI, 24, .inl (fun i => nI ((N 10) i)))) := hM.2 10 (by decide) (by decide)
  have m11 : w (b + 25) = some (.inl (cI, 24, .inl (S 11))) := hM.2 11 (by decide) (by decide)
  have m12 : w (b + 26) = some (.inl (cI, 24, .inl (S 12))) := hM.2 12 (by decide) (by decide)
  have m13 : w (b + 27) = some (.inl (cZ, 24, .inl (fun i => nI ((N 13) i)))) := hM.2 13 (by decide) (by decide)
  have m14 : w (b + 28) = some (.inl (cI, 256, .inl (fun i => nI ((N 14) i)))) := hM.2 14 (by decide) (by decide)
  have m15 : w (b + 29) = some (.inl (cI, 24, .inl (fun i => nI ((N 15) i)))) := hM.2 15 (by decide) (by decide)
  have m16 : w (b + 30) = some (.inl (cI, 5, .inl (fun i => nI ((N 19) i)))) := hM.2 16 (by decide) (by decide)
  rcases re_split hn nr with hc | ⟨j, hj, hcj⟩
  · refine lv_iload_n hx hb d_Mod_isThere_0 rfl (lv_at hl 1 rfl) ?_
    refine lv_if_lt (tgt := 25) hx hb d_Mod_isThere_1 (by decide) (fun cc1 => ?_) (fun cc1 => ?_)
    · refine lv_iconst (v := nI 0) hx hb d_Mod_isThere_25 (by decide) ?_
      exact W.zret hx hb hr rfl (fun t ht hW => ⟨_, rfl, kk_iff (re_th_out hc), ht⟩) (fun q hq => by cases hq) d_Mod_isThere_26
    · refine lv_iload_n hx hb d_Mod_isThere_4 rfl (lv_at hl 1 rfl) ?_
      refine lv_aload_n hx hb d_Mod_isThere_5 rfl (lv_at hl 0 rfl) ?_
      refine mm_get (D := D) (C := n_Mod) (T := T_Mod) (N := 27) (v := .int (nI (N 0 0))) hx hb hts lay_Mod hown hK.1 hP m0 rfl 0 (by decide) (hts _ (List.mem_cons_of_mem _ wd_491)) (fun _ h9 => h9) rfl d_Mod_isThere_6 ?_
      refine lv_icmp_ge (tgt := 25) hx hb d_Mod_isThere_9 (by decide) (fun cc2 => ?_) (fun cc2 => ?_)
      · refine lv_iconst (v := nI 0) hx hb d_Mod_isThere_25 (by decide) ?_
        exact W.zret hx hb hr rfl (fun t ht hW => ⟨_, rfl, kk_iff (re_th_out hc), ht⟩) (fun q hq => by cases hq) d_Mod_isThere_26
      · exact (hc.elim cc1 cc2).elim
  · have hRj := hR j hj
    refine lv_iload_n hx hb d_Mod_isThere_0 rfl (lv_at hl 1 rfl) ?_
    refine kk_top (hcj) ?_
    refine lv_if_lt (tgt := 25) hx hb d_Mod_isThere_1 (by decide) (fun cc3 => ?_) (fun cc3 => ?_)
    · rw [← nI_0] at cc3
      have cc3 : j < 0 := (nI_ltI (by omega) (by omega)).mp cc3
      exact absurd cc3 (by omega)
    · rw [← nI_0] at cc3
      have cc3 : ¬ (j < 0) := fun q => cc3 ((nI_ltI (by omega) (by omega)).mpr q)
      refine lv_iload_n hx hb d_Mod_isThere_4 rfl (lv_at hl 1 rfl) ?_
      refine kk_top (hcj) ?_
      refine lv_aload_n hx hb d_Mod_isThere_5 rfl (lv_at hl 0 rfl) ?_
      refine mm_get (D := D) (C := n_Mod) (T := T_Mod) (N := 27) (v := .int (nI (N 0 0))) hx hb hts lay_Mod hown hK.1 hP m0 rfl 0 (by decide) (hts _ (List.mem_cons_of_mem _ wd_491)) (fun _ h9 => h9) rfl d_Mod_isThere_6 ?_
      refine lv_icmp_ge (tgt := 25) hx hb d_Mod_isThere_9 (by decide) (fun cc4 => ?_) (fun cc4 => ?_)
      · have cc4 : N 0 0 ≤ j := (nI_leI (by omega) (by omega)).mp cc4
        exact absurd cc4 (by omega)
      · have cc4 : ¬ (N 0 0 ≤ j) := fun q => cc4 ((nI_leI (by omega) (by omega)).mpr q)
        refine lv_aload_n hx hb d_Mod_isThere_12 rfl (lv_at hl 0 rfl) ?_
        refine mm_get (D := D) (C := n_Mod) (T := T_Mod) (N := 27) (v := .ref (b + 15)) hx hb hts lay_Mod hown hK.1 hP m0 rfl 1 (by decide) (hts _ (List.mem_cons_of_mem _ wd_492)) (fun _ h9 => h9) rfl d_Mod_isThere_13 ?_
        refine lv_iload_n hx hb d_Mod_isThere_16 rfl (lv_at hl 1 rfl) ?_
        refine kk_top (hcj) ?_
        refine mm_zald hx hb hK.1 hP 1 m1 rfl j rfl (by omega) (by decide) d_Mod_isThere_17 ?_
        refine W.eq (g2 := F0 m 18 ls [.int (nI ((N 1) j))]) rfl ?_
        refine lv_if_ne (tgt := 25) hx hb d_Mod_isThere_18 (by decide) (fun cc5 => ?_) (fun cc5 => ?_)
        · rw [← nI_0] at cc5
          have cc5 : ¬ ((N 1) j = 0) := fun q => cc5 ((nI_eq (by omega) (by omega)).mpr q)
          refine lv_iconst (v := nI 0) hx hb d_Mod_isThere_25 (by decide) ?_
          exact W.zret hx hb hr rfl (fun t ht hW => ⟨_, rfl, kk_iff (by rw [hcj, re_th_in hj hn]; omega), ht⟩) (fun q hq => by cases hq) d_Mod_isThere_26
        · rw [← nI_0] at cc5
          have cc5 : (N 1) j = 0 := (nI_eq (by omega) (by omega)).mp cc5
          refine lv_iconst (v := nI 1) hx hb d_Mod_isThere_21 (by decide) ?_
          refine lv_goto (tgt := 26) hx hb d_Mod_isThere_22 (by decide) ?_
          exact W.zret hx hb hr rfl (fun t ht hW => ⟨_, rfl, kk_ift (by rw [hcj, re_th_in hj hn]; omega), ht⟩) (fun q hq => by cases hq) d_Mod_isThere_26
