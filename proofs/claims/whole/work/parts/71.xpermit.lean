theorem d_X_permit_0 : decode k_X_permit 0 = .ok (.iload_n 1, 1) := by decide +kernel
theorem d_X_permit_1 : decode k_X_permit 1 = .ok (.invokestatic 37, 3) := by decide +kernel
theorem d_X_permit_4 : decode k_X_permit 4 = .ok (.ifCond .ne 9, 3) := by decide +kernel
theorem d_X_permit_7 : decode k_X_permit 7 = .ok (.iload_n 1, 1) := by decide +kernel
theorem d_X_permit_8 : decode k_X_permit 8 = .ok (.bipush 8, 2) := by decide +kernel
theorem d_X_permit_10 : decode k_X_permit 10 = .ok (.if_icmp .ne 7, 3) := by decide +kernel
theorem d_X_permit_13 : decode k_X_permit 13 = .ok (.iconst 1, 1) := by decide +kernel
theorem d_X_permit_14 : decode k_X_permit 14 = .ok (.goto 4, 3) := by decide +kernel
theorem d_X_permit_17 : decode k_X_permit 17 = .ok (.iconst 0, 1) := by decide +kernel
theorem d_X_permit_18 : decode k_X_permit 18 = .ok (.istore 6, 2) := by decide +kernel
theorem d_X_permit_20 : decode k_X_permit 20 = .ok (.iload 6, 2) := by decide +kernel
theorem d_X_permit_22 : decode k_X_permit 22 = .ok (.ifCond .eq 20, 3) := by decide +kernel
theorem d_X_permit_25 : decode k_X_permit 25 = .ok (.iload_n 2, 1) := by decide +kernel
theorem d_X_permit_26 : decode k_X_permit 26 = .ok (.invokestatic 41, 3) := by decide +kernel
theorem d_X_permit_29 : decode k_X_permit 29 = .ok (.ifCond .eq 13, 3) := by decide +kernel
theorem d_X_permit_32 : decode k_X_permit 32 = .ok (.aload_n 0, 1) := by decide +kernel
theorem d_X_permit_33 : decode k_X_permit 33 = .ok (.getfield 12, 3) := by decide +kernel
theorem d_X_permit_36 : decode k_X_permit 36 = .ok (.invokevirtual 44, 3) := by decide +kernel
theorem d_X_permit_39 : decode k_X_permit 39 = .ok (.ifCond .eq 5, 3) := by decide +kernel
theorem d_X_permit_42 : decode k_X_permit 42 = .ok (.iconst (-1), 1) := by decide +kernel
theorem d_X_permit_43 : decode k_X_permit 43 = .ok (.ireturn, 1) := by decide +kernel
theorem d_X_permit_44 : decode k_X_permit 44 = .ok (.aload_n 0, 1) := by decide +kernel
theorem d_X_permit_45 : decode k_X_permit 45 = .ok (.getfield 12, 3) := by decide +kernel
theorem d_X_permit_48 : decode k_X_permit 48 = .ok (.new 57, 3) := by decide +kernel
theorem d_X_permit_51 : decode k_X_permit 51 = .ok (.dup, 1) := by decide +kernel
theorem d_X_permit_52 : decode k_X_permit 52 = .ok (.iload_n 1, 1) := by decide +kernel
theorem d_X_permit_53 : decode k_X_permit 53 = .ok (.iload_n 2, 1) := by decide +kernel
theorem d_X_permit_54 : decode k_X_permit 54 = .ok (.iload_n 3, 1) := by decide +kernel
theorem d_X_permit_55 : decode k_X_permit 55 = .ok (.iload 4, 2) := by decide +kernel
theorem d_X_permit_57 : decode k_X_permit 57 = .ok (.iload 5, 2) := by decide +kernel
theorem d_X_permit_59 : decode k_X_permit 59 = .ok (.invokespecial 59, 3) := by decide +kernel
theorem d_X_permit_62 : decode k_X_permit 62 = .ok (.invokevirtual 53, 3) := by decide +kernel
theorem d_X_permit_65 : decode k_X_permit 65 = .ok (.ireturn, 1) := by decide +kernel
set_option maxHeartbeats 4000000 in
set_option maxRecDepth 100000 in
theorem c_X_permit (l : Launch) {B : Nat} {D : va_G} {cI cZ cQ : ClassId} {w : mm_M} {sz : Nat} {b : Nat} {N : Nat → Nat → Nat} {S : Nat → Nat → Int32} {ir sr : Int32} {dl : Nat} {fr to : Int32} (hXI : xs_I b cI cZ cQ sz N S w) (hR : rg_I N) (hC : ch_I N) (hsz : b + 31 ≤ sz) (hdl : dl ≤ 1) (h7 : ∀ k, 3 * N 0 0 ≤ k → N 7 k = 0) : Met l y_X_permit ws_X_permit (kk_rm 4 5 17) (kk_Pc B D cI cZ cQ [.ref b, .int ir, .int sr, .int (nI dl), .int fr, .int to] w sz) (kk_Qi B D (fun r w' sz' => r = (if pe_ok N ir sr then nI (N 0 0) else -1) ∧ xs_I b cI cZ cQ sz' (pe_N N ir sr (nI dl)) (pe_S N S ir sr fr to) w' ∧ (∀ j, b + 14 ≤ j → j < b + 31 → w' j = w j) ∧ sz' = (if pe_ok N ir sr then sz + 5 else sz))) 5 17 (fun q => B ≤ q) := by
  refine Met.ofW (cc := k_X_permit) (maxL := 7) (ret := (some .int)) (by decide) rfl ?_
  intro p e s m args below meth c s₁ BB hml hv
  obtain ⟨rfl, hK, hP, hz, hBz⟩ := hv
  have hx := BB.exec
  have hb := BB.bytes
  have hr := BB.returns
  have hts := atoms_spec (ws := ws_X_permit) BB.pre
  have hown : s.vm.findClass "DelegationClosure" = some m.cls := findClass_of_methodNamed BB.named
  have hlocks := BB.notSynchronized
  have hS : mm_S B s.heap s.heap [] := va_S.rf
  have hl := lv_entry ([.ref b, .int ir, .int sr, .int (nI dl), .int fr, .int to]) (n := 7) (Nat.le_of_ble_eq_true rfl)
  rw [lg_entry_eq]
  generalize (lg_sl ([.ref b, .int ir, .int sr, .int (nI dl), .int fr, .int to]) ++ List.replicate (7 - (lg_sl ([.ref b, .int ir, .int sr, .int (nI dl), .int fr, .int to])).length) Slot.unset).toArray = ls at hl ⊢
  have hl : lv_has ls 7 [(0, .ref b), (1, .int ir), (2, .int sr), (3, .int (nI dl)), (4, .int fr), (5, .int to)] := hl
  obtain ⟨T, U, ad, ⟨hRe, x0, x3, x4, x5, x6, x7, x8, x9, x10, x11, x12, x13⟩, hXr, hLa⟩ := hXI
  have hn := hRe.2.2.1
  have hC1 := hC.1
  have hC2 := hC.2.1
  have hC3 := hC.2.2.1
  have hC4 := hC.2.2.2.1
  have hC5 := hC.2.2.2.2.1
  have hC6 := hC.2.2.2.2.2.1
  by_cases hok : pe_ok N ir sr
  · obtain ⟨a9, ha9, rfl⟩ := kk_lim_of hok.1 (by omega)
    obtain ⟨s9, rfl, hs9⟩ := wf_sub_of hok.2.1
    have hk4 := hok.2.2
    refine lv_iload_n hx hb d_X_permit_0 rfl (lv_at hl 1 rfl) ?_
    refine vp_callSi (va_Run.run (va_runS (As := [.int (nI a9)]) (rest := []) ⟨hx, hb, hml, hown, hts⟩ (c_X_isKey l ) (va_cwS 1 hts (gW_in (hd := [_, _, _, _]) (kk_4 wd_149 wd_150 wd_1 cw_X_isKey)) rfl rfl rfl ds_X_isKey ⟨Nat.le_of_ble_eq_true rfl, Nat.le_of_ble_eq_true rfl⟩) (kk_preS hK hP hz hBz) rfl rfl hl.1 rfl (lv_room (Nat.le_of_ble_eq_true rfl)) d_X_permit_1 ⟨Nat.le_of_ble_eq_true rfl, Nat.le_of_ble_eq_true rfl⟩)) (fun r1 hr1 => ?_)
    subst hr1
    refine lv_if_ne (tgt := 13) hx hb d_X_permit_4 (by decide) (fun cc2 => ?_) (fun cc2 => ?_)
    · have cc2 := kk_b1 cc2
      refine lv_iconst (v := nI 1) hx hb d_X_permit_13 (by decide) ?_
      refine lv_goto (tgt := 18) hx hb d_X_permit_14 (by decide) ?_
      refine lv_istore hx hb d_X_permit_18 hl (by decide) rfl (fun ls hl => ?_)
      have hl : lv_has ls 7 [(6, .int (nI 1)), (0, .ref b), (1, .int (nI a9)), (2, .int (nI s9)), (3, .int (nI dl)), (4, .int fr), (5, .int to)] := hl
      refine lv_iload hx hb d_X_permit_20 (lv_at hl 0 rfl) ?_
      refine lv_if_eq (tgt := 42) hx hb d_X_permit_22 (by decide) (fun cc3 => ?_) (fun cc3 => ?_)
      · rw [← nI_0] at cc3
        have cc3 : 1 = 0 := (nI_eq (by omega) (by omega)).mp cc3
        exact absurd cc3 (by omega)
      · rw [← nI_0] at cc3
        have cc3 : ¬ (1 = 0) := fun q => cc3 ((nI_eq (by omega) (by omega)).mpr q)
        refine lv_iload_n hx hb d_X_permit_25 rfl (lv_at hl 3 rfl) ?_
        refine vp_callSi (va_Run.run (va_runS (As := [.int (nI s9)]) (rest := []) ⟨hx, hb, hml, hown, hts⟩ (c_X_isSubject l ) (va_cwS 1 hts (gW_in (hd := [_, _, _, _]) (kk_4 wd_152 wd_153 wd_1 cw_X_isSubject)) rfl rfl rfl ds_X_isSubject ⟨Nat.le_of_ble_eq_true rfl, Nat.le_of_ble_eq_true rfl⟩) (kk_preS hK hP hz hBz) rfl rfl hl.1 rfl (lv_room (Nat.le_of_ble_eq_true rfl)) d_X_permit_26 ⟨Nat.le_of_ble_eq_true rfl, Nat.le_of_ble_eq_true rfl⟩)) (fun r4 hr4 => ?_)
        subst hr4
        refine lv_if_eq (tgt := 42) hx hb d_X_permit_29 (by decide) (fun cc5 => ?_) (fun cc5 => ?_)
        · have cc5 := kk_b0 cc5
          exact absurd hok.2.1 cc5
        · have cc5 := kk_b1 cc5
          refine lv_aload_n hx hb d_X_permit_32 rfl (lv_at hl 1 rfl) ?_
          refine mm_get (D := D) (C := n_X) (T := T_X) (N := 4) (v := .ref (b + 1)) hx hb hts lay_X hown hK.1 hP x0 rfl 0 (by decide) (hts _ (List.mem_cons_of_mem _ wd_132)) (fun _ h9 => h9) rfl d_X_permit_33 ?_
          refine vp_callSi (va_Run.run (va_runV (As := []) (rest := []) ⟨hx, hb, hml, hown, hts⟩ (c_Reg_isFull l hRe.1 (by omega)) (cwV 0 hts (gW_in (hd := [_, _, _, _, _]) (kk_5 wd_161 wd_162 wd_163 wd_2 cw_Reg_isFull)) rfl rfl rfl ⟨rfl, ds_Reg_isFull⟩ ⟨Nat.le_of_ble_eq_true rfl, Nat.le_of_ble_eq_true rfl⟩) (kk_preV hK hP hz hBz hRe.1 rfl) rfl rfl hl.1 rfl (lv_room (Nat.le_of_ble_eq_true rfl)) d_X_permit_36 ⟨Nat.le_of_ble_eq_true rfl, Nat.le_of_ble_eq_true rfl⟩)) (fun r6 hr6 => ?_)
          subst hr6
          refine lv_if_eq (tgt := 44) hx hb d_X_permit_39 (by decide) (fun cc7 => ?_) (fun cc7 => ?_)
          · have cc7 := kk_b0 cc7
            refine lv_aload_n hx hb d_X_permit_44 rfl (lv_at hl 1 rfl) ?_
            refine mm_get (D := D) (C := n_X) (T := T_X) (N := 4) (v := .ref (b + 1)) hx hb hts lay_X hown hK.1 hP x0 rfl 0 (by decide) (hts _ (List.mem_cons_of_mem _ wd_132)) (fun _ h9 => h9) rfl d_X_permit_45 ?_
            refine mm_new (D := D) (C := n_Prm) (T := T_Prm) (N := 8) (ci := 8) (fs := [.int 0, .null, .int 0, .null, .null, .int 0, .int 0, .int 0]) (h := sz) hx hb hts lay_Prm t_Prm ty_Prm hown (hts _ (List.mem_cons_of_mem _ wd_220)) (hts _ (List.mem_cons_of_mem _ wd_221)) (hts _ (List.mem_cons_of_mem _ wd_11)) hK.1 hP hS rfl def_Prm (Nat.le_of_ble_eq_true rfl) (Nat.le_of_ble_eq_true rfl) hz (by omega) d_X_permit_48 (fun H hP hz1 hS => ?_)
            have hz : H.size = sz + 1 := hz1
            obtain ⟨w8, hw8⟩ : ∃ z : mm_M, z = mm_up w sz (.inr (8, [.int 0, .null, .int 0, .null, .null, .int 0, .int 0, .int 0])) := ⟨_, rfl⟩
            have hP : mm_P B D kc w8 H := by rw [hw8]; exact hP
            have fr8 : ∀ j, j ≠ sz → w8 j = w j := fun j h9 => by rw [hw8]; exact mm_un h9
            have fa8 : w8 sz = some (.inr (8, [.int 0, .null, .int 0, .null, .null, .int 0, .int 0, .int 0])) := by rw [hw8]; exact mm_us _ _ _
            refine lv_dup hx hb d_X_permit_51 rfl ?_
            refine lv_iload_n hx hb d_X_permit_52 rfl (lv_at hl 2 rfl) ?_
            refine lv_iload_n hx hb d_X_permit_53 rfl (lv_at hl 3 rfl) ?_
            refine lv_iload_n hx hb d_X_permit_54 rfl (lv_at hl 4 rfl) ?_
            refine lv_iload hx hb d_X_permit_55 (lv_at hl 5 rfl) ?_
            refine lv_iload hx hb d_X_permit_57 (lv_at hl 6 rfl) ?_
            refine kk_callv (va_runI (As := [.int (nI a9), .int (nI s9), .int (nI dl), .int fr, .int to]) (rest := [.ref sz, .ref (b + 1)]) ⟨hx, hb, hml, hown, hts⟩ (c_Prm_init l fa8 (by omega) (by omega)) (cwI 5 hts (gW_in (hd := [_]) (kk_1 cw_Prm_init)) rfl rfl rfl (hts _ (List.mem_cons_of_mem _ wd_11)) (hts _ (List.mem_cons_of_mem _ wd_222)) (hts _ (List.mem_cons_of_mem _ wd_223)) rfl ds_Prm_init ⟨Nat.le_of_ble_eq_true rfl, Nat.le_of_ble_eq_true rfl⟩) (kk_preS hK hP hz (by omega)) rfl rfl hl.1 rfl (lv_room (Nat.le_of_ble_eq_true rfl)) d_X_permit_59 ⟨Nat.le_of_ble_eq_true rfl, Nat.le_of_ble_eq_true rfl⟩) hS (fun w9 sz9 H locs hp9 hP hz hS => ?_)
            obtain ⟨he9, hs9⟩ := hp9
            have hz : H.size = sz + 5 := hz.trans hs9
            have hw10 : w9 = mm_up (mm_up (mm_up (mm_up (mm_up w8 sz (.inr (8, [.int (nI a9), .ref (sz + 1), .int (nI 0), .ref (sz + 2), .ref (sz + 3), .int (nI dl), .int (nI 1), .int (nI 1)]))) (sz + 1) (.inr (6, [.int fr, .int to]))) (sz + 2) (.inl (cI, 3, .inl (fun i => nI ((va_up (fun _ => 0) 0 s9) i))))) (sz + 3) (.inr (5, [.int (nI 255), .ref (sz + 4)]))) (sz + 4) (.inr (6, [.int (-2147483648), .int 2147483647])) := he9
            have fr10 : ∀ j, j ≠ sz → j ≠ sz + 1 → j ≠ sz + 2 → j ≠ sz + 3 → j ≠ sz + 4 → w9 j = w8 j := fun j h90 h91 h92 h93 h94 => by rw [hw10]; exact (mm_un h94).trans ((mm_un h93).trans ((mm_un h92).trans ((mm_un h91).trans (mm_un h90))))
            have fa10_0 : w9 sz = some (.inr (8, [.int (nI a9), .ref (sz + 1), .int (nI 0), .ref (sz + 2), .ref (sz + 3), .int (nI dl), .int (nI 1), .int (nI 1)])) := by rw [hw10]; exact (mm_un (by omega)).trans ((mm_un (by omega)).trans ((mm_un (by omega)).trans ((mm_un (by omega)).trans (mm_us _ _ _))))
            have fa10_1 : w9 (sz + 1) = some (.inr (6, [.int fr, .int to])) := by rw [hw10]; exact (mm_un (by omega)).trans ((mm_un (by omega)).trans ((mm_un (by omega)).trans (mm_us _ _ _)))
            have fa10_2 : w9 (sz + 2) = some (.inl (cI, 3, .inl (fun i => nI ((va_up (fun _ => 0) 0 s9) i)))) := by rw [hw10]; exact (mm_un (by omega)).trans ((mm_un (by omega)).trans (mm_us _ _ _))
            have fa10_3 : w9 (sz + 3) = some (.inr (5, [.int (nI 255), .ref (sz + 4)])) := by rw [hw10]; exact (mm_un (by omega)).trans (mm_us _ _ _)
            have fa10_4 : w9 (sz + 4) = some (.inr (6, [.int (-2147483648), .int 2147483647])) := by rw [hw10]; exact mm_us _ _ _
            have f11 := (fr10 _ (by omega) (by omega) (by omega) (by omega) (by omega)).trans ((fr8 _ (by omega)).trans (hRe.1))
            have f12 := (fr10 _ (by omega) (by omega) (by omega) (by omega) (by omega)).trans ((fr8 _ (by omega)).trans (hRe.2.1))
            refine kk_calli (va_runV (As := [.ref sz]) (rest := []) ⟨hx, hb, hml, hown, hts⟩ (c_Reg_add8 l f11 f12 fa10_0 (by omega) (by omega)) (cwV 1 hts (gW_in (hd := [_, _, _, _, _]) (kk_5 wd_211 wd_212 wd_213 wd_2 cw_Reg_add)) rfl rfl rfl ⟨rfl, ds_Reg_add⟩ ⟨Nat.le_of_ble_eq_true rfl, Nat.le_of_ble_eq_true rfl⟩) (kk_preV hK hP hz (by omega) f11 rfl) rfl rfl hl.1 rfl (lv_room (Nat.le_of_ble_eq_true rfl)) d_X_permit_62 ⟨Nat.le_of_ble_eq_true rfl, Nat.le_of_ble_eq_true rfl⟩) hS (fun r13 w13 sz13 H locs hp13 hP hz hS => ?_)
            obtain ⟨hr13, he13, hs13⟩ := hp13
            subst hr13
            have hz : H.size = sz + 5 := hz.trans hs13
            have hw14 : w13 = mm_up (mm_up w9 (b + 1) (.inr (1, [.ref (b + 2), .int (nI (N 0 0 + 1))]))) (b + 2) (.inl (cQ, 24, .inr (.inr (.inr (.inr (va_up (fun i => if i < N 0 0 then some (ad i) else none) (N 0 0) (some sz))))))) := he13
            have fr14 : ∀ j, j ≠ b + 1 → j ≠ b + 2 → w13 j = w9 j := fun j h90 h91 => by rw [hw14]; exact (mm_un h91).trans (mm_un h90)
            have fa14_0 : w13 (b + 1) = some (.inr (1, [.ref (b + 2), .int (nI (N 0 0 + 1))])) := by rw [hw14]; exact (mm_un (by omega)).trans (mm_us _ _ _)
            have fa14_1 : w13 (b + 2) = some (.inl (cQ, 24, .inr (.inr (.inr (.inr (va_up (fun i => if i < N 0 0 then some (ad i) else none) (N 0 0) (some sz))))))) := by rw [hw14]; exact mm_us _ _ _
            exact W.iret hx hb hr (fun t ht hW => ⟨⟨_, (w13, sz + 5), rfl, ⟨(if_pos hok).symm, (by rw [pe_N_pos (by omega) (by omega) (by omega) hok, show pe_S N S _ _ _ _ = mk_S S (N 0 0) fr to from if_pos hok]; exact ⟨T, U, va_up ad (N 0 0) sz, ⟨hRe.add (z := sz) (by omega) rfl (fun c hc => ⟨if_neg (by omega), if_neg (by omega), if_neg (by omega), if_neg (by omega), if_neg (by omega), if_neg (by omega), if_neg (by omega), if_neg (by omega), fun i hi => if_neg (by omega), if_neg (by omega), if_neg (by omega), if_neg (by omega), if_neg (by omega)⟩) (fun x9 hx9 => (fr14 x9 (by obtain ⟨c9, h, h7, h6⟩ := hx9; have q2 := hLa c9 h; have q3 := q2.1; have q4 := q2.2.1; omega) (by obtain ⟨c9, h, h7, h6⟩ := hx9; have q2 := hLa c9 h; have q3 := q2.1; have q4 := q2.2.1; omega)).trans ((fr10 x9 (by obtain ⟨c9, h, h7, h6⟩ := hx9; have q2 := hLa c9 h; have q3 := q2.1; have q4 := q2.2.1; omega) (by obtain ⟨c9, h, h7, h6⟩ := hx9; have q2 := hLa c9 h; have q3 := q2.1; have q4 := q2.2.1; omega) (by obtain ⟨c9, h, h7, h6⟩ := hx9; have q2 := hLa c9 h; have q3 := q2.1; have q4 := q2.2.1; omega) (by obtain ⟨c9, h, h7, h6⟩ := hx9; have q2 := hLa c9 h; have q3 := q2.1; have q4 := q2.2.1; omega) (by obtain ⟨c9, h, h7, h6⟩ := hx9; have q2 := hLa c9 h; have q3 := q2.1; have q4 := q2.2.1; omega)).trans (fr8 x9 (by obtain ⟨c9, h, h7, h6⟩ := hx9; have q2 := hLa c9 h; have q3 := q2.1; have q4 := q2.2.1; omega)))) fa14_0 fa14_1 (ce_new_prm h7 ((fr14 _ (by omega) (by omega)).trans (fa10_0)) ((fr14 _ (by omega) (by omega)).trans (fa10_1)) ((fr14 _ (by omega) (by omega)).trans (fa10_2)) ((fr14 _ (by omega) (by omega)).trans (fa10_3)) ((fr14 _ (by omega) (by omega)).trans (fa10_4))), ((fr14 _ (by omega) (by omega)).trans ((fr10 _ (by omega) (by omega) (by omega) (by omega) (by omega)).trans ((fr8 _ (by omega)).trans (x0)))), ((fr14 _ (by omega) (by omega)).trans ((fr10 _ (by omega) (by omega) (by omega) (by omega) (by omega)).trans ((fr8 _ (by omega)).trans (x3)))), ((fr14 _ (by omega) (by omega)).trans ((fr10 _ (by omega) (by omega) (by omega) (by omega) (by omega)).trans ((fr8 _ (by omega)).trans (x4)))), ((fr14 _ (by omega) (by omega)).trans ((fr10 _ (by omega) (by omega) (by omega) (by omega) (by omega)).trans ((fr8 _ (by omega)).trans (x5)))), ((fr14 _ (by omega) (by omega)).trans ((fr10 _ (by omega) (by omega) (by omega) (by omega) (by omega)).trans ((fr8 _ (by omega)).trans (x6)))), ((fr14 _ (by omega) (by omega)).trans ((fr10 _ (by omega) (by omega) (by omega) (by omega) (by omega)).trans ((fr8 _ (by omega)).trans (x7)))), ((fr14 _ (by omega) (by omega)).trans ((fr10 _ (by omega) (by omega) (by omega) (by omega) (by omega)).trans ((fr8 _ (by omega)).trans (x8)))), ((fr14 _ (by omega) (by omega)).trans ((fr10 _ (by omega) (by omega) (by omega) (by omega) (by omega)).trans ((fr8 _ (by omega)).trans (x9)))), ((fr14 _ (by omega) (by omega)).trans ((fr10 _ (by omega) (by omega) (by omega) (by omega) (by omega)).trans ((fr8 _ (by omega)).trans (x10)))), ((fr14 _ (by omega) (by omega)).trans ((fr10 _ (by omega) (by omega) (by omega) (by omega) (by omega)).trans ((fr8 _ (by omega)).trans (x11)))), ((fr14 _ (by omega) (by omega)).trans ((fr10 _ (by omega) (by omega) (by omega) (by omega) (by omega)).trans ((fr8 _ (by omega)).trans (x12)))), ((fr14 _ (by omega) (by omega)).trans ((fr10 _ (by omega) (by omega) (by omega) (by omega) (by omega)).trans ((fr8 _ (by omega)).trans (x13))))⟩, hXr, la_add hLa hsz rfl (fun c hc => if_neg (by omega)) (by rw [show cm_N N 0 a9 s9 0 dl 2 (N 0 0) = 0 from if_pos rfl]; decide)⟩), (fun j9 hj1 hj2 => (fr14 j9 (by omega) (by omega)).trans ((fr10 j9 (by omega) (by omega) (by omega) (by omega) (by omega)).trans (fr8 j9 (by omega)))), (if_pos hok).symm⟩, by rw [ht]; exact hP, by rw [ht]; exact hz⟩, hS.F ht⟩) hS.2.2 d_X_permit_65
          · have cc7 := kk_b1 cc7
            exact absurd cc7 hk4
    · have cc2 := kk_b0 cc2
      refine lv_iload_n hx hb d_X_permit_7 rfl (lv_at hl 1 rfl) ?_
      refine lv_bipush (v := nI 8) hx hb d_X_permit_8 (by decide) ?_
      refine lv_icmp_ne (tgt := 17) hx hb d_X_permit_10 (by decide) (fun cc15 => ?_) (fun cc15 => ?_)
      · have cc15 : ¬ (a9 = 8) := fun q => cc15 ((nI_eq (by omega) (by omega)).mpr q)
        exact absurd (kk_lim_n (by omega) (by decide)) cc2
      · have cc15 : a9 = 8 := (nI_eq (by omega) (by omega)).mp cc15
        refine lv_iconst (v := nI 1) hx hb d_X_permit_13 (by decide) ?_
        refine lv_goto (tgt := 18) hx hb d_X_permit_14 (by decide) ?_
        refine lv_istore hx hb d_X_permit_18 hl (by decide) rfl (fun ls hl => ?_)
        have hl : lv_has ls 7 [(6, .int (nI 1)), (0, .ref b), (1, .int (nI a9)), (2, .int (nI s9)), (3, .int (nI dl)), (4, .int fr), (5, .int to)] := hl
        refine lv_iload hx hb d_X_permit_20 (lv_at hl 0 rfl) ?_
        refine lv_if_eq (tgt := 42) hx hb d_X_permit_22 (by decide) (fun cc16 => ?_) (fun cc16 => ?_)
        · rw [← nI_0] at cc16
          have cc16 : 1 = 0 := (nI_eq (by omega) (by omega)).mp cc16
          exact absurd cc16 (by omega)
        · rw [← nI_0] at cc16
          have cc16 : ¬ (1 = 0) := fun q => cc16 ((nI_eq (by omega) (by omega)).mpr q)
          refine lv_iload_n hx hb d_X_permit_25 rfl (lv_at hl 3 rfl) ?_
          refine vp_callSi (va_Run.run (va_runS (As := [.int (nI s9)]) (rest := []) ⟨hx, hb, hml, hown, hts⟩ (c_X_isSubject l ) (va_cwS 1 hts (gW_in (hd := [_, _, _, _]) (kk_4 wd_152 wd_153 wd_1 cw_X_isSubject)) rfl rfl rfl ds_X_isSubject ⟨Nat.le_of_ble_eq_true rfl, Nat.le_of_ble_eq_true rfl⟩) (kk_preS hK hP hz hBz) rfl rfl hl.1 rfl (lv_room (Nat.le_of_ble_eq_true rfl)) d_X_permit_26 ⟨Nat.le_of_ble_eq_true rfl, Nat.le_of_ble_eq_true rfl⟩)) (fun r17 hr17 => ?_)
          subst hr17
          refine lv_if_eq (tgt := 42) hx hb d_X_permit_29 (by decide) (fun cc18 => ?_) (fun cc18 => ?_)
          · have cc18 := kk_b0 cc18
            exact absurd hok.2.1 cc18
          · have cc18 := kk_b1 cc18
            refine lv_aload_n hx hb d_X_permit_32 rfl (lv_at hl 1 rfl) ?_
            refine mm_get (D := D) (C := n_X) (T := T_X) (N := 4) (v := .ref (b + 1)) hx hb hts lay_X hown hK.1 hP x0 rfl 0 (by decide) (hts _ (List.mem_cons_of_mem _ wd_132)) (fun _ h9 => h9) rfl d_X_permit_33 ?_
            refine vp_callSi (va_Run.run (va_runV (As := []) (rest := []) ⟨hx, hb, hml, hown, hts⟩ (c_Reg_isFull l hRe.1 (by omega)) (cwV 0 hts (gW_in (hd := [_, _, _, _, _]) (kk_5 wd_161 wd_162 wd_163 wd_2 cw_Reg_isFull)) rfl rfl rfl ⟨rfl, ds_Reg_isFull⟩ ⟨Nat.le_of_ble_eq_true rfl, Nat.le_of_ble_eq_true rfl⟩) (kk_preV hK hP hz hBz hRe.1 rfl) rfl rfl hl.1 rfl (lv_room (Nat.le_of_ble_eq_true rfl)) d_X_permit_36 ⟨Nat.le_of_ble_eq_true rfl, Nat.le_of_ble_eq_true rfl⟩)) (fun r19 hr19 => ?_)
            subst hr19
            refine lv_if_eq (tgt := 44) hx hb d_X_permit_39 (by decide) (fun cc20 => ?_) (fun cc20 => ?_)
            · have cc20 := kk_b0 cc20
              refine lv_aload_n hx hb d_X_permit_44 rfl (lv_at hl 1 rfl) ?_
              refine mm_get (D := D) (C := n_X) (T := T_X) (N := 4) (v := .ref (b + 1)) hx hb hts lay_X hown hK.1 hP x0 rfl 0 (by decide) (hts _ (List.mem_cons_of_mem _ wd_132)) (fun _ h9 => h9) rfl d_X_permit_45 ?_
              refine mm_new (D := D) (C := n_Prm) (T := T_Prm) (N := 8) (ci := 8) (fs := [.int 0, .null, .int 0, .null, .null, .int 0, .int 0, .int 0]) (h := sz) hx hb hts lay_Prm t_Prm ty_Prm hown (hts _ (List.mem_cons_of_mem _ wd_220)) (hts _ (List.mem_cons_of_mem _ wd_221)) (hts _ (List.mem_cons_of_mem _ wd_11)) hK.1 hP hS rfl def_Prm (Nat.le_of_ble_eq_true rfl) (Nat.le_of_ble_eq_true rfl) hz (by omega) d_X_permit_48 (fun H hP hz1 hS => ?_)
              have hz : H.size = sz + 1 := hz1
              obtain ⟨w21, hw21⟩ : ∃ z : mm_M, z = mm_up w sz (.inr (8, [.int 0, .null, .int 0, .null, .null, .int 0, .int 0, .int 0])) := ⟨_, rfl⟩
              have hP : mm_P B D kc w21 H := by rw [hw21]; exact hP
              have fr21 : ∀ j, j ≠ sz → w21 j = w j := fun j h9 => by rw [hw21]; exact mm_un h9
              have fa21 : w21 sz = some (.inr (8, [.int 0, .null, .int 0, .null, .null, .int 0, .int 0, .int 0])) := by rw [hw21]; exact mm_us _ _ _
              refine lv_dup hx hb d_X_permit_51 rfl ?_
              refine lv_iload_n hx hb d_X_permit_52 rfl (lv_at hl 2 rfl) ?_
              refine lv_iload_n hx hb d_X_permit_53 rfl (lv_at hl 3 rfl) ?_
              refine lv_iload_n hx hb d_X_permit_54 rfl (lv_at hl 4 rfl) ?_
              refine lv_iload hx hb d_X_permit_55 (lv_at hl 5 rfl) ?_
              refine lv_iload hx hb d_X_permit_57 (lv_at hl 6 rfl) ?_
              refine kk_callv (va_runI (As := [.int (nI a9), .int (nI s9), .int (nI dl), .int fr, .int to]) (rest := [.ref sz, .ref (b + 1)]) ⟨hx, hb, hml, hown, hts⟩ (c_Prm_init l fa21 (by omega) (by omega)) (cwI 5 hts (gW_in (hd := [_]) (kk_1 cw_Prm_init)) rfl rfl rfl (hts _ (List.mem_cons_of_mem _ wd_11)) (hts _ (List.mem_cons_of_mem _ wd_222)) (hts _ (List.mem_cons_of_mem _ wd_223)) rfl ds_Prm_init ⟨Nat.le_of_ble_eq_true rfl, Nat.le_of_ble_eq_true rfl⟩) (kk_preS hK hP hz (by omega)) rfl rfl hl.1 rfl (lv_room (Nat.le_of_ble_eq_true rfl)) d_X_permit_59 ⟨Nat.le_of_ble_eq_true rfl, Nat.le_of_ble_eq_true rfl⟩) hS (fun w22 sz22 H locs hp22 hP hz hS => ?_)
              obtain ⟨he22, hs22⟩ := hp22
              have hz : H.size = sz + 5 := hz.trans hs22
              have hw23 : w22 = mm_up (mm_up (mm_up (mm_up (mm_up w21 sz (.inr (8, [.int (nI a9), .ref (sz + 1), .int (nI 0), .ref (sz + 2), .ref (sz + 3), .int (nI dl), .int (nI 1), .int (nI 1)]))) (sz + 1) (.inr (6, [.int fr, .int to]))) (sz + 2) (.inl (cI, 3, .inl (fun i => nI ((va_up (fun _ => 0) 0 s9) i))))) (sz + 3) (.inr (5, [.int (nI 255), .ref (sz + 4)]))) (sz + 4) (.inr (6, [.int (-2147483648), .int 2147483647])) := he22
              have fr23 : ∀ j, j ≠ sz → j ≠ sz + 1 → j ≠ sz + 2 → j ≠ sz + 3 → j ≠ sz + 4 → w22 j = w21 j := fun j h90 h91 h92 h93 h94 => by rw [hw23]; exact (mm_un h94).trans ((mm_un h93).trans ((mm_un h92).trans ((mm_un h91).trans (mm_un h90))))
              have fa23_0 : w22 sz = some (.inr (8, [.int (nI a9), .ref (sz + 1), .int (nI 0), .ref (sz + 2), .ref (sz + 3), .int (nI dl), .int (nI 1), .int (nI 1)])) := by rw [hw23]; exact (mm_un (by omega)).trans ((mm_un (by omega)).trans ((mm_un (by omega)).trans ((mm_un (by omega)).trans (mm_us _ _ _))))
              have fa23_1 : w22 (sz + 1) = some (.inr (6, [.int fr, .int to])) := by rw [hw23]; exact (mm_un (by omega)).trans ((mm_un (by omega)).trans ((mm_un (by omega)).trans (mm_us _ _ _)))
              have fa23_2 : w22 (sz + 2) = some (.inl (cI, 3, .inl (fun i => nI ((va_up (fun _ => 0) 0 s9) i)))) := by rw [hw23]; exact (mm_un (by omega)).trans ((mm_un (by omega)).trans (mm_us _ _ _))
              have fa23_3 : w22 (sz + 3) = some (.inr (5, [.int (nI 255), .ref (sz + 4)])) := by rw [hw23]; exact (mm_un (by omega)).trans (mm_us _ _ _)
              have fa23_4 : w22 (sz + 4) = some (.inr (6, [.int (-2147483648), .int 2147483647])) := by rw [hw23]; exact mm_us _ _ _
              have f24 := (fr23 _ (by omega) (by omega) (by omega) (by omega) (by omega)).trans ((fr21 _ (by omega)).trans (hRe.1))
              have f25 := (fr23 _ (by omega) (by omega) (by omega) (by omega) (by omega)).trans ((fr21 _ (by omega)).trans (hRe.2.1))
              refine kk_calli (va_runV (As := [.ref sz]) (rest := []) ⟨hx, hb, hml, hown, hts⟩ (c_Reg_add8 l f24 f25 fa23_0 (by omega) (by omega)) (cwV 1 hts (gW_in (hd := [_, _, _, _, _]) (kk_5 wd_211 wd_212 wd_213 wd_2 cw_Reg_add)) rfl rfl rfl ⟨rfl, ds_Reg_add⟩ ⟨Nat.le_of_ble_eq_true rfl, Nat.le_of_ble_eq_true rfl⟩) (kk_preV hK hP hz (by omega) f24 rfl) rfl rfl hl.1 rfl (lv_room (Nat.le_of_ble_eq_true rfl)) d_X_permit_62 ⟨Nat.le_of_ble_eq_true rfl, Nat.le_of_ble_eq_true rfl⟩) hS (fun r26 w26 sz26 H locs hp26 hP hz hS => ?_)
              obtain ⟨hr26, he26, hs26⟩ := hp26
              subst hr26
              have hz : H.size = sz + 5 := hz.trans hs26
              have hw27 : w26 = mm_up (mm_up w22 (b + 1) (.inr (1, [.ref (b + 2), .int (nI (N 0 0 + 1))]))) (b + 2) (.inl (cQ, 24, .inr (.inr (.inr (.inr (va_up (fun i => if i < N 0 0 then some (ad i) else none) (N 0 0) (some sz))))))) := he26
              have fr27 : ∀ j, j ≠ b + 1 → j ≠ b + 2 → w26 j = w22 j := fun j h90 h91 => by rw [hw27]; exact (mm_un h91).trans (mm_un h90)
              have fa27_0 : w26 (b + 1) = some (.inr (1, [.ref (b + 2), .int (nI (N 0 0 + 1))])) := by rw [hw27]; exact (mm_un (by omega)).trans (mm_us _ _ _)
              have fa27_1 : w26 (b + 2) = some (.inl (cQ, 24, .inr (.inr (.inr (.inr (va_up (fun i => if i < N 0 0 then some (ad i) else none) (N 0 0) (some sz))))))) := by rw [hw27]; exact mm_us _ _ _
              exact W.iret hx hb hr (fun t ht hW => ⟨⟨_, (w26, sz + 5), rfl, ⟨(if_pos hok).symm, (by rw [pe_N_pos (by omega) (by omega) (by omega) hok, show pe_S N S _ _ _ _ = mk_S S (N 0 0) fr to from if_pos hok]; exact ⟨T, U, va_up ad (N 0 0) sz, ⟨hRe.add (z := sz) (by omega) rfl (fun c hc => ⟨if_neg (by omega), if_neg (by omega), if_neg (by omega), if_neg (by omega), if_neg (by omega), if_neg (by omega), if_neg (by omega), if_neg (by omega), fun i hi => if_neg (by omega), if_neg (by omega), if_neg (by omega), if_neg (by omega), if_neg (by omega)⟩) (fun x9 hx9 => (fr27 x9 (by obtain ⟨c9, h, h7, h6⟩ := hx9; have q2 := hLa c9 h; have q3 := q2.1; have q4 := q2.2.1; omega) (by obtain ⟨c9, h, h7, h6⟩ := hx9; have q2 := hLa c9 h; have q3 := q2.1; have q4 := q2.2.1; omega)).trans ((fr23 x9 (by obtain ⟨c9, h, h7, h6⟩ := hx9; have q2 := hLa c9 h; have q3 := q2.1; have q4 := q2.2.1; omega) (by obtain ⟨c9, h, h7, h6⟩ := hx9; have q2 := hLa c9 h; have q3 := q2.1; have q4 := q2.2.1; omega) (by obtain ⟨c9, h, h7, h6⟩ := hx9; have q2 := hLa c9 h; have q3 := q2.1; have q4 := q2.2.1; omega) (by obtain ⟨c9, h, h7, h6⟩ := hx9; have q2 := hLa c9 h; have q3 := q2.1; have q4 := q2.2.1; omega) (by obtain ⟨c9, h, h7, h6⟩ := hx9; have q2 := hLa c9 h; have q3 := q2.1; have q4 := q2.2.1; omega)).trans (fr21 x9 (by obtain ⟨c9, h, h7, h6⟩ := hx9; have q2 := hLa c9 h; have q3 := q2.1; have q4 := q2.2.1; omega)))) fa27_0 fa27_1 (ce_new_prm h7 ((fr27 _ (by omega) (by omega)).trans (fa23_0)) ((fr27 _ (by omega) (by omega)).trans (fa23_1)) ((fr27 _ (by omega) (by omega)).trans (fa23_2)) ((fr27 _ (by omega) (by omega)).trans (fa23_3)) ((fr27 _ (by omega) (by omega)).trans (fa23_4))), ((fr27 _ (by omega) (by omega)).trans ((fr23 _ (by omega) (by omega) (by omega) (by omega) (by omega)).trans ((fr21 _ (by omega)).trans (x0)))), ((fr27 _ (by omega) (by omega)).trans ((fr23 _ (by omega) (by omega) (by omega) (by omega) (by omega)).trans ((fr21 _ (by omega)).trans (x3)))), ((fr27 _ (by omega) (by omega)).trans ((fr23 _ (by omega) (by omega) (by omega) (by omega) (by omega)).trans ((fr21 _ (by omega)).trans (x4)))), ((fr27 _ (by omega) (by omega)).trans ((fr23 _ (by omega) (by omega) (by omega) (by omega) (by omega)).trans ((fr21 _ (by omega)).trans (x5)))), ((fr27 _ (by omega) (by omega)).trans ((fr23 _ (by omega) (by omega) (by omega) (by omega) (by omega)).trans ((fr21 _ (by omega)).trans (x6)))), ((fr27 _ (by omega) (by omega)).trans ((fr23 _ (by omega) (by omega) (by omega) (by omega) (by omega)).trans ((fr21 _ (by omega)).trans (x7)))), ((fr27 _ (by omega) (by omega)).trans ((fr23 _ (by omega) (by omega) (by omega) (by omega) (by omega)).trans ((fr21 _ (by omega)).trans (x8)))), ((fr27 _ (by omega) (by omega)).trans ((fr23 _ (by omega) (by omega) (by omega) (by omega) (by omega)).trans ((fr21 _ (by omega)).trans (x9)))), ((fr27 _ (by omega) (by omega)).trans ((fr23 _ (by omega) (by omega) (by omega) (by omega) (by omega)).trans ((fr21 _ (by omega)).trans (x10)))), ((fr27 _ (by omega) (by omega)).trans ((fr23 _ (by omega) (by omega) (by omega) (by omega) (by omega)).trans ((fr21 _ (by omega)).trans (x11)))), ((fr27 _ (by omega) (by omega)).trans ((fr23 _ (by omega) (by omega) (by omega) (by omega) (by omega)).trans ((fr21 _ (by omega)).trans (x12)))), ((fr27 _ (by omega) (by omega)).trans ((fr23 _ (by omega) (by omega) (by omega) (by omega) (by omega)).trans ((fr21 _ (by omega)).trans (x13))))⟩, hXr, la_add hLa hsz rfl (fun c hc => if_neg (by omega)) (by rw [show cm_N N 0 a9 s9 0 dl 2 (N 0 0) = 0 from if_pos rfl]; decide)⟩), (fun j9 hj1 hj2 => (fr27 j9 (by omega) (by omega)).trans ((fr23 j9 (by omega) (by omega) (by omega) (by omega) (by omega)).trans (fr21 j9 (by omega)))), (if_pos hok).symm⟩, by rw [ht]; exact hP, by rw [ht]; exact hz⟩, hS.F ht⟩) hS.2.2 d_X_permit_65
            · have cc20 := kk_b1 cc20
              exact absurd cc20 hk4
  · refine lv_iload_n hx hb d_X_permit_0 rfl (lv_at hl 1 rfl) ?_
    refine vp_callSi (va_Run.run (va_runS (As := [.int ir]) (rest := []) ⟨hx, hb, hml, hown, hts⟩ (c_X_isKey l ) (va_cwS 1 hts (gW_in (hd := [_, _, _, _]) (kk_4 wd_149 wd_150 wd_1 cw_X_isKey)) rfl rfl rfl ds_X_isKey ⟨Nat.le_of_ble_eq_true rfl, Nat.le_of_ble_eq_true rfl⟩) (kk_preS hK hP hz hBz) rfl rfl hl.1 rfl (lv_room (Nat.le_of_ble_eq_true rfl)) d_X_permit_1 ⟨Nat.le_of_ble_eq_true rfl, Nat.le_of_ble_eq_true rfl⟩)) (fun r28 hr28 => ?_)
    subst hr28
    refine lv_if_ne (tgt := 13) hx hb d_X_permit_4 (by decide) (fun cc29 => ?_) (fun cc29 => ?_)
    · have cc29 := kk_b1 cc29
      refine lv_iconst (v := nI 1) hx hb d_X_permit_13 (by decide) ?_
      refine lv_goto (tgt := 18) hx hb d_X_permit_14 (by decide) ?_
      refine lv_istore hx hb d_X_permit_18 hl (by decide) rfl (fun ls hl => ?_)
      have hl : lv_has ls 7 [(6, .int (nI 1)), (0, .ref b), (1, .int ir), (2, .int sr), (3, .int (nI dl)), (4, .int fr), (5, .int to)] := hl
      refine lv_iload hx hb d_X_permit_20 (lv_at hl 0 rfl) ?_
      refine lv_if_eq (tgt := 42) hx hb d_X_permit_22 (by decide) (fun cc30 => ?_) (fun cc30 => ?_)
      · rw [← nI_0] at cc30
        have cc30 : 1 = 0 := (nI_eq (by omega) (by omega)).mp cc30
        exact absurd cc30 (by omega)
      · rw [← nI_0] at cc30
        have cc30 : ¬ (1 = 0) := fun q => cc30 ((nI_eq (by omega) (by omega)).mpr q)
        refine lv_iload_n hx hb d_X_permit_25 rfl (lv_at hl 3 rfl) ?_
        refine vp_callSi (va_Run.run (va_runS (As := [.int sr]) (rest := []) ⟨hx, hb, hml, hown, hts⟩ (c_X_isSubject l ) (va_cwS 1 hts (gW_in (hd := [_, _, _, _]) (kk_4 wd_152 wd_153 wd_1 cw_X_isSubject)) rfl rfl rfl ds_X_isSubject ⟨Nat.le_of_ble_eq_true rfl, Nat.le_of_ble_eq_true rfl⟩) (kk_preS hK hP hz hBz) rfl rfl hl.1 rfl (lv_room (Nat.le_of_ble_eq_true rfl)) d_X_permit_26 ⟨Nat.le_of_ble_eq_true rfl, Nat.le_of_ble_eq_true rfl⟩)) (fun r31 hr31 => ?_)
        subst hr31
        refine lv_if_eq (tgt := 42) hx hb d_X_permit_29 (by decide) (fun cc32 => ?_) (fun cc32 => ?_)
        · have cc32 := kk_b0 cc32
          refine lv_iconst (v := (-1)) hx hb d_X_permit_42 (by decide) ?_
          refine W.widen (k := 5) (n := 17) (Nat.le_of_ble_eq_true rfl) (Nat.le_of_ble_eq_true rfl) ?_
          exact W.iret hx hb hr (fun t ht hW => ⟨⟨_, (w, sz), rfl, ⟨(if_neg hok).symm, (by rw [show pe_N N ir sr (nI dl) = N from if_neg hok, show pe_S N S ir sr fr to = S from if_neg hok]; exact ⟨T, U, ad, ⟨hRe, x0, x3, x4, x5, x6, x7, x8, x9, x10, x11, x12, x13⟩, hXr, hLa⟩), (fun j9 hj1 hj2 => rfl), (if_neg hok).symm⟩, by rw [ht]; exact hP, by rw [ht]; exact hz⟩, hS.F ht⟩) hS.2.2 d_X_permit_43
        · have cc32 := kk_b1 cc32
          refine lv_aload_n hx hb d_X_permit_32 rfl (lv_at hl 1 rfl) ?_
          refine mm_get (D := D) (C := n_X) (T := T_X) (N := 4) (v := .ref (b + 1)) hx hb hts lay_X hown hK.1 hP x0 rfl 0 (by decide) (hts _ (List.mem_cons_of_mem _ wd_132)) (fun _ h9 => h9) rfl d_X_permit_33 ?_
          refine vp_callSi (va_Run.run (va_runV (As := []) (rest := []) ⟨hx, hb, hml, hown, hts⟩ (c_Reg_isFull l hRe.1 (by omega)) (cwV 0 hts (gW_in (hd := [_, _, _, _, _]) (kk_5 wd_161 wd_162 wd_163 wd_2 cw_Reg_isFull)) rfl rfl rfl ⟨rfl, ds_Reg_isFull⟩ ⟨Nat.le_of_ble_eq_true rfl, Nat.le_of_ble_eq_true rfl⟩) (kk_preV hK hP hz hBz hRe.1 rfl) rfl rfl hl.1 rfl (lv_room (Nat.le_of_ble_eq_true rfl)) d_X_permit_36 ⟨Nat.le_of_ble_eq_true rfl, Nat.le_of_ble_eq_true rfl⟩)) (fun r33 hr33 => ?_)
          subst hr33
          refine lv_if_eq (tgt := 44) hx hb d_X_permit_39 (by decide) (fun cc34 => ?_) (fun cc34 => ?_)
          · have cc34 := kk_b0 cc34
            exact absurd ⟨kk_lim98 cc29, cc32, cc34⟩ hok
          · have cc34 := kk_b1 cc34
            refine lv_iconst (v := (-1)) hx hb d_X_permit_42 (by decide) ?_
            refine W.widen (k := 5) (n := 17) (Nat.le_of_ble_eq_true rfl) (Nat.le_of_ble_eq_true rfl) ?_
            exact W.iret hx hb hr (fun t ht hW => ⟨⟨_, (w, sz), rfl, ⟨(if_neg hok).symm, (by rw [show pe_N N ir sr (nI dl) = N from if_neg hok, show pe_S N S ir sr fr to = S from if_neg hok]; exact ⟨T, U, ad, ⟨hRe, x0, x3, x4, x5, x6, x7, x8, x9, x10, x11, x12, x13⟩, hXr, hLa⟩), (fun j9 hj1 hj2 => rfl), (if_neg hok).symm⟩, by rw [ht]; exact hP, by rw [ht]; exact hz⟩, hS.F ht⟩) hS.2.2 d_X_permit_43
    · have cc29 := kk_b0 cc29
      refine lv_iload_n hx hb d_X_permit_7 rfl (lv_at hl 1 rfl) ?_
      refine lv_bipush (v := nI 8) hx hb d_X_permit_8 (by decide) ?_
      refine lv_icmp_ne (tgt := 17) hx hb d_X_permit_10 (by decide) (fun cc35 => ?_) (fun cc35 => ?_)
      · refine lv_iconst (v := nI 0) hx hb d_X_permit_17 (by decide) ?_
        refine lv_istore hx hb d_X_permit_18 hl (by decide) rfl (fun ls hl => ?_)
        have hl : lv_has ls 7 [(6, .int (nI 0)), (0, .ref b), (1, .int ir), (2, .int sr), (3, .int (nI dl)), (4, .int fr), (5, .int to)] := hl
        refine lv_iload hx hb d_X_permit_20 (lv_at hl 0 rfl) ?_
        refine lv_if_eq (tgt := 42) hx hb d_X_permit_22 (by decide) (fun cc36 => ?_) (fun cc36 => ?_)
        · rw [← nI_0] at cc36
          have cc36 : 0 = 0 := (nI_eq (by omega) (by omega)).mp cc36
          refine lv_iconst (v := (-1)) hx hb d_X_permit_42 (by decide) ?_
          refine W.widen (k := 5) (n := 17) (Nat.le_of_ble_eq_true rfl) (Nat.le_of_ble_eq_true rfl) ?_
          exact W.iret hx hb hr (fun t ht hW => ⟨⟨_, (w, sz), rfl, ⟨(if_neg hok).symm, (by rw [show pe_N N ir sr (nI dl) = N from if_neg hok, show pe_S N S ir sr fr to = S from if_neg hok]; exact ⟨T, U, ad, ⟨hRe, x0, x3, x4, x5, x6, x7, x8, x9, x10, x11, x12, x13⟩, hXr, hLa⟩), (fun j9 hj1 hj2 => rfl), (if_neg hok).symm⟩, by rw [ht]; exact hP, by rw [ht]; exact hz⟩, hS.F ht⟩) hS.2.2 d_X_permit_43
        · rw [← nI_0] at cc36
          have cc36 : ¬ (0 = 0) := fun q => cc36 ((nI_eq (by omega) (by omega)).mpr q)
          exact absurd cc36 (by omega)
      · refine lv_iconst (v := nI 1) hx hb d_X_permit_13 (by decide) ?_
        refine lv_goto (tgt := 18) hx hb d_X_permit_14 (by decide) ?_
        refine lv_istore hx hb d_X_permit_18 hl (by decide) rfl (fun ls hl => ?_)
        have hl : lv_has ls 7 [(6, .int (nI 1)), (0, .ref b), (1, .int ir), (2, .int sr), (3, .int (nI dl)), (4, .int fr), (5, .int to)] := hl
        refine lv_iload hx hb d_X_permit_20 (lv_at hl 0 rfl) ?_
        refine lv_if_eq (tgt := 42) hx hb d_X_permit_22 (by decide) (fun cc37 => ?_) (fun cc37 => ?_)
        · rw [← nI_0] at cc37
          have cc37 : 1 = 0 := (nI_eq (by omega) (by omega)).mp cc37
          exact absurd cc37 (by omega)
        · rw [← nI_0] at cc37
          have cc37 : ¬ (1 = 0) := fun q => cc37 ((nI_eq (by omega) (by omega)).mpr q)
          refine lv_iload_n hx hb d_X_permit_25 rfl (lv_at hl 3 rfl) ?_
          refine vp_callSi (va_Run.run (va_runS (As := [.int sr]) (rest := []) ⟨hx, hb, hml, hown, hts⟩ (c_X_isSubject l ) (va_cwS 1 hts (gW_in (hd := [_, _, _, _]) (kk_4 wd_152 wd_153 wd_1 cw_X_isSubject)) rfl rfl rfl ds_X_isSubject ⟨Nat.le_of_ble_eq_true rfl, Nat.le_of_ble_eq_true rfl⟩) (kk_preS hK hP hz hBz) rfl rfl hl.1 rfl (lv_room (Nat.le_of_ble_eq_true rfl)) d_X_permit_26 ⟨Nat.le_of_ble_eq_true rfl, Nat.le_of_ble_eq_true rfl⟩)) (fun r38 hr38 => ?_)
          subst hr38
          refine lv_if_eq (tgt := 42) hx hb d_X_permit_29 (by decide) (fun cc39 => ?_) (fun cc39 => ?_)
          · have cc39 := kk_b0 cc39
            refine lv_iconst (v := (-1)) hx hb d_X_permit_42 (by decide) ?_
            refine W.widen (k := 5) (n := 17) (Nat.le_of_ble_eq_true rfl) (Nat.le_of_ble_eq_true rfl) ?_
            exact W.iret hx hb hr (fun t ht hW => ⟨⟨_, (w, sz), rfl, ⟨(if_neg hok).symm, (by rw [show pe_N N ir sr (nI dl) = N from if_neg hok, show pe_S N S ir sr fr to = S from if_neg hok]; exact ⟨T, U, ad, ⟨hRe, x0, x3, x4, x5, x6, x7, x8, x9, x10, x11, x12, x13⟩, hXr, hLa⟩), (fun j9 hj1 hj2 => rfl), (if_neg hok).symm⟩, by rw [ht]; exact hP, by rw [ht]; exact hz⟩, hS.F ht⟩) hS.2.2 d_X_permit_43
          · have cc39 := kk_b1 cc39
            refine lv_aload_n hx hb d_X_permit_32 rfl (lv_at hl 1 rfl) ?_
            refine mm_get (D := D) (C := n_X) (T := T_X) (N := 4) (v := .ref (b + 1)) hx hb hts lay_X hown hK.1 hP x0 rfl 0 (by decide) (hts _ (List.mem_cons_of_mem _ wd_132)) (fun _ h9 => h9) rfl d_X_permit_33 ?_
            refine vp_callSi (va_Run.run (va_runV (As := []) (rest := []) ⟨hx, hb, hml, hown, hts⟩ (c_Reg_isFull l hRe.1 (by omega)) (cwV 0 hts (gW_in (hd := [_, _, _, _, _]) (kk_5 wd_161 wd_162 wd_163 wd_2 cw_Reg_isFull)) rfl rfl rfl ⟨rfl, ds_Reg_isFull⟩ ⟨Nat.le_of_ble_eq_true rfl, Nat.le_of_ble_eq_true rfl⟩) (kk_preV hK hP hz hBz hRe.1 rfl) rfl rfl hl.1 rfl (lv_room (Nat.le_of_ble_eq_true rfl)) d_X_permit_36 ⟨Nat.le_of_ble_eq_true rfl, Nat.le_of_ble_eq_true rfl⟩)) (fun r40 hr40 => ?_)
            subst hr40
            refine lv_if_eq (tgt := 44) hx hb d_X_permit_39 (by decide) (fun cc41 => ?_) (fun cc41 => ?_)
            · have cc41 := kk_b0 cc41
              exact absurd ⟨kk_lim89 cc35, cc39, cc41⟩ hok
            · have cc41 := kk_b1 cc41
              refine lv_iconst (v := (-1)) hx hb d_X_permit_42 (by decide) ?_
              refine W.widen (k := 5) (n := 17) (Nat.le_of_ble_eq_true rfl) (Nat.le_of_ble_eq_true rfl) ?_
              exact W.iret hx hb hr (fun t ht hW => ⟨⟨_, (w, sz), rfl, ⟨(if_neg hok).symm, (by rw [show pe_N N ir sr (nI dl) = N from if_neg hok, show pe_S N S ir sr fr to = S from if_neg hok]; exact ⟨T, U, ad, ⟨hRe, x0, x3, x4, x5, x6, x7, x8, x9, x10, x11, x12, x13⟩, hXr, hLa⟩), (fun j9 hj1 hj2 => rfl), (if_neg hok).symm⟩, by rw [ht]; exact hP, by rw [ht]; exact hz⟩, hS.F ht⟩) hS.2.2 d_X_permit_43
