theorem d_X_name_0 : decode k_X_name 0 = .ok (.iload_n 2, 1) := by decide +kernel
theorem d_X_name_1 : decode k_X_name 1 = .ok (.ifCond .lt 12, 3) := by decide +kernel
theorem d_X_name_4 : decode k_X_name 4 = .ok (.iload_n 2, 1) := by decide +kernel
theorem d_X_name_5 : decode k_X_name 5 = .ok (.iconst 4, 1) := by decide +kernel
theorem d_X_name_6 : decode k_X_name 6 = .ok (.if_icmp .ge 7, 3) := by decide +kernel
theorem d_X_name_9 : decode k_X_name 9 = .ok (.iconst 1, 1) := by decide +kernel
theorem d_X_name_10 : decode k_X_name 10 = .ok (.goto 4, 3) := by decide +kernel
theorem d_X_name_13 : decode k_X_name 13 = .ok (.iconst 0, 1) := by decide +kernel
theorem d_X_name_14 : decode k_X_name 14 = .ok (.istore 6, 2) := by decide +kernel
theorem d_X_name_16 : decode k_X_name 16 = .ok (.iload_n 1, 1) := by decide +kernel
theorem d_X_name_17 : decode k_X_name 17 = .ok (.invokestatic 37, 3) := by decide +kernel
theorem d_X_name_20 : decode k_X_name 20 = .ok (.ifCond .eq 25, 3) := by decide +kernel
theorem d_X_name_23 : decode k_X_name 23 = .ok (.iload 6, 2) := by decide +kernel
theorem d_X_name_25 : decode k_X_name 25 = .ok (.ifCond .eq 20, 3) := by decide +kernel
theorem d_X_name_28 : decode k_X_name 28 = .ok (.iload_n 3, 1) := by decide +kernel
theorem d_X_name_29 : decode k_X_name 29 = .ok (.invokestatic 41, 3) := by decide +kernel
theorem d_X_name_32 : decode k_X_name 32 = .ok (.ifCond .eq 13, 3) := by decide +kernel
theorem d_X_name_35 : decode k_X_name 35 = .ok (.aload_n 0, 1) := by decide +kernel
theorem d_X_name_36 : decode k_X_name 36 = .ok (.getfield 12, 3) := by decide +kernel
theorem d_X_name_39 : decode k_X_name 39 = .ok (.invokevirtual 44, 3) := by decide +kernel
theorem d_X_name_42 : decode k_X_name 42 = .ok (.ifCond .eq 5, 3) := by decide +kernel
theorem d_X_name_45 : decode k_X_name 45 = .ok (.iconst (-1), 1) := by decide +kernel
theorem d_X_name_46 : decode k_X_name 46 = .ok (.ireturn, 1) := by decide +kernel
theorem d_X_name_47 : decode k_X_name 47 = .ok (.aload_n 0, 1) := by decide +kernel
theorem d_X_name_48 : decode k_X_name 48 = .ok (.getfield 12, 3) := by decide +kernel
theorem d_X_name_51 : decode k_X_name 51 = .ok (.new 48, 3) := by decide +kernel
theorem d_X_name_54 : decode k_X_name 54 = .ok (.dup, 1) := by decide +kernel
theorem d_X_name_55 : decode k_X_name 55 = .ok (.iload_n 1, 1) := by decide +kernel
theorem d_X_name_56 : decode k_X_name 56 = .ok (.iload_n 2, 1) := by decide +kernel
theorem d_X_name_57 : decode k_X_name 57 = .ok (.iload_n 3, 1) := by decide +kernel
theorem d_X_name_58 : decode k_X_name 58 = .ok (.iload 4, 2) := by decide +kernel
theorem d_X_name_60 : decode k_X_name 60 = .ok (.iload 5, 2) := by decide +kernel
theorem d_X_name_62 : decode k_X_name 62 = .ok (.invokespecial 50, 3) := by decide +kernel
theorem d_X_name_65 : decode k_X_name 65 = .ok (.invokevirtual 53, 3) := by decide +kernel
theorem d_X_name_68 : decode k_X_name 68 = .ok (.ireturn, 1) := by decide +kernel
set_option maxHeartbeats 4000000 in
set_option maxRecDepth 100000 in
theorem c_X_name (l : Launch) {B : Nat} {D : va_G} {cI cZ cQ : ClassId} {w : mm_M} {sz : Nat} {b : Nat} {N : Nat → Nat → Nat} {S : Nat → Nat → Int32} {ir mr sr fr to : Int32} (hXI : xs_I b cI cZ cQ sz N S w) (hR : rg_I N) (hC : ch_I N) (hsz : b + 31 ≤ sz) : Met l y_X_name ws_X_name (kk_rm 4 2 7) (kk_Pc B D cI cZ cQ [.ref b, .int ir, .int mr, .int sr, .int fr, .int to] w sz) (kk_Qi B D (fun r w' sz' => r = (if na_ok N ir mr sr then nI (N 0 0) else -1) ∧ xs_I b cI cZ cQ sz' (na_N N ir mr sr) (na_S N S ir mr sr fr to) w' ∧ (∀ j, b + 14 ≤ j → j < b + 31 → w' j = w j) ∧ sz' = (if na_ok N ir mr sr then sz + 2 else sz))) 2 7 (fun q => B ≤ q) := by
  refine Met.ofW (cc := k_X_name) (maxL := 7) (ret := (some .int)) (by decide) rfl ?_
  intro p e s m args below meth c s₁ BB hml hv
  obtain ⟨rfl, hK, hP, hz, hBz⟩ := hv
  have hx := BB.exec
  have hb := BB.bytes
  have hr := BB.returns
  have hts := atoms_spec (ws := ws_X_name) BB.pre
  have hown : s.vm.findClass "DelegationClosure" = some m.cls := findClass_of_methodNamed BB.named
  have hlocks := BB.notSynchronized
  have hS : mm_S B s.heap s.heap [] := va_S.rf
  have hl := lv_entry ([.ref b, .int ir, .int mr, .int sr, .int fr, .int to]) (n := 7) (Nat.le_of_ble_eq_true rfl)
  rw [lg_entry_eq]
  generalize (lg_sl ([.ref b, .int ir, .int mr, .int sr, .int fr, .int to]) ++ List.replicate (7 - (lg_sl ([.ref b, .int ir, .int mr, .int sr, .int fr, .int to])).length) Slot.unset).toArray = ls at hl ⊢
  have hl : lv_has ls 7 [(0, .ref b), (1, .int ir), (2, .int mr), (3, .int sr), (4, .int fr), (5, .int to)] := hl
  obtain ⟨T, U, ad, ⟨hRe, x0, x3, x4, x5, x6, x7, x8, x9, x10, x11, x12, x13⟩, hXr, hLa⟩ := hXI
  have hn := hRe.2.2.1
  have hC1 := hC.1
  have hC2 := hC.2.1
  have hC3 := hC.2.2.1
  have hC4 := hC.2.2.2.1
  have hC5 := hC.2.2.2.2.1
  have hC6 := hC.2.2.2.2.2.1
  by_cases hok : na_ok N ir mr sr
  · obtain ⟨a9, ha9, rfl⟩ := kk_lim_of hok.1 (by omega)
    obtain ⟨b9, hb9, rfl⟩ := kk_lim_of hok.2.1 (by omega)
    obtain ⟨s9, rfl, hs9⟩ := wf_sub_of hok.2.2.1
    have hk4 := hok.2.2.2
    refine lv_iload_n hx hb d_X_name_0 rfl (lv_at hl 2 rfl) ?_
    refine lv_if_lt (tgt := 13) hx hb d_X_name_1 (by decide) (fun cc1 => ?_) (fun cc1 => ?_)
    · rw [← nI_0] at cc1
      have cc1 : b9 < 0 := (nI_ltI (by omega) (by omega)).mp cc1
      exact absurd cc1 (by omega)
    · rw [← nI_0] at cc1
      have cc1 : ¬ (b9 < 0) := fun q => cc1 ((nI_ltI (by omega) (by omega)).mpr q)
      refine lv_iload_n hx hb d_X_name_4 rfl (lv_at hl 2 rfl) ?_
      refine lv_iconst (v := nI 4) hx hb d_X_name_5 (by decide) ?_
      refine lv_icmp_ge (tgt := 13) hx hb d_X_name_6 (by decide) (fun cc2 => ?_) (fun cc2 => ?_)
      · have cc2 : 4 ≤ b9 := (nI_leI (by omega) (by omega)).mp cc2
        exact absurd cc2 (by omega)
      · have cc2 : ¬ (4 ≤ b9) := fun q => cc2 ((nI_leI (by omega) (by omega)).mpr q)
        refine lv_iconst (v := nI 1) hx hb d_X_name_9 (by decide) ?_
        refine lv_goto (tgt := 14) hx hb d_X_name_10 (by decide) ?_
        refine lv_istore hx hb d_X_name_14 hl (by decide) rfl (fun ls hl => ?_)
        have hl : lv_has ls 7 [(6, .int (nI 1)), (0, .ref b), (1, .int (nI a9)), (2, .int (nI b9)), (3, .int (nI s9)), (4, .int fr), (5, .int to)] := hl
        refine lv_iload_n hx hb d_X_name_16 rfl (lv_at hl 2 rfl) ?_
        refine vp_callSi (va_Run.run (va_runS (As := [.int (nI a9)]) (rest := []) ⟨hx, hb, hml, hown, hts⟩ (c_X_isKey l ) (va_cwS 1 hts (gW_in (hd := [_, _, _, _]) (kk_4 wd_149 wd_150 wd_1 cw_X_isKey)) rfl rfl rfl ds_X_isKey ⟨Nat.le_of_ble_eq_true rfl, Nat.le_of_ble_eq_true rfl⟩) (kk_preS hK hP hz hBz) rfl rfl hl.1 rfl (lv_room (Nat.le_of_ble_eq_true rfl)) d_X_name_17 ⟨Nat.le_of_ble_eq_true rfl, Nat.le_of_ble_eq_true rfl⟩)) (fun r3 hr3 => ?_)
        subst hr3
        refine lv_if_eq (tgt := 45) hx hb d_X_name_20 (by decide) (fun cc4 => ?_) (fun cc4 => ?_)
        · have cc4 := kk_b0 cc4
          exact absurd hok.1 cc4
        · have cc4 := kk_b1 cc4
          refine lv_iload hx hb d_X_name_23 (lv_at hl 0 rfl) ?_
          refine lv_if_eq (tgt := 45) hx hb d_X_name_25 (by decide) (fun cc5 => ?_) (fun cc5 => ?_)
          · rw [← nI_0] at cc5
            have cc5 : 1 = 0 := (nI_eq (by omega) (by omega)).mp cc5
            exact absurd cc5 (by omega)
          · rw [← nI_0] at cc5
            have cc5 : ¬ (1 = 0) := fun q => cc5 ((nI_eq (by omega) (by omega)).mpr q)
            refine lv_iload_n hx hb d_X_name_28 rfl (lv_at hl 4 rfl) ?_
            refine vp_callSi (va_Run.run (va_runS (As := [.int (nI s9)]) (rest := []) ⟨hx, hb, hml, hown, hts⟩ (c_X_isSubject l ) (va_cwS 1 hts (gW_in (hd := [_, _, _, _]) (kk_4 wd_152 wd_153 wd_1 cw_X_isSubject)) rfl rfl rfl ds_X_isSubject ⟨Nat.le_of_ble_eq_true rfl, Nat.le_of_ble_eq_true rfl⟩) (kk_preS hK hP hz hBz) rfl rfl hl.1 rfl (lv_room (Nat.le_of_ble_eq_true rfl)) d_X_name_29 ⟨Nat.le_of_ble_eq_true rfl, Nat.le_of_ble_eq_true rfl⟩)) (fun r6 hr6 => ?_)
            subst hr6
            refine lv_if_eq (tgt := 45) hx hb d_X_name_32 (by decide) (fun cc7 => ?_) (fun cc7 => ?_)
            · have cc7 := kk_b0 cc7
              exact absurd hok.2.2.1 cc7
            · have cc7 := kk_b1 cc7
              refine lv_aload_n hx hb d_X_name_35 rfl (lv_at hl 1 rfl) ?_
              refine mm_get (D := D) (C := n_X) (T := T_X) (N := 4) (v := .ref (b + 1)) hx hb hts lay_X hown hK.1 hP x0 rfl 0 (by decide) (hts _ (List.mem_cons_of_mem _ wd_132)) (fun _ h9 => h9) rfl d_X_name_36 ?_
              refine vp_callSi (va_Run.run (va_runV (As := []) (rest := []) ⟨hx, hb, hml, hown, hts⟩ (c_Reg_isFull l hRe.1 (by omega)) (cwV 0 hts (gW_in (hd := [_, _, _, _, _]) (kk_5 wd_161 wd_162 wd_163 wd_2 cw_Reg_isFull)) rfl rfl rfl ⟨rfl, ds_Reg_isFull⟩ ⟨Nat.le_of_ble_eq_true rfl, Nat.le_of_ble_eq_true rfl⟩) (kk_preV hK hP hz hBz hRe.1 rfl) rfl rfl hl.1 rfl (lv_room (Nat.le_of_ble_eq_true rfl)) d_X_name_39 ⟨Nat.le_of_ble_eq_true rfl, Nat.le_of_ble_eq_true rfl⟩)) (fun r8 hr8 => ?_)
              subst hr8
              refine lv_if_eq (tgt := 47) hx hb d_X_name_42 (by decide) (fun cc9 => ?_) (fun cc9 => ?_)
              · have cc9 := kk_b0 cc9
                refine lv_aload_n hx hb d_X_name_47 rfl (lv_at hl 1 rfl) ?_
                refine mm_get (D := D) (C := n_X) (T := T_X) (N := 4) (v := .ref (b + 1)) hx hb hts lay_X hown hK.1 hP x0 rfl 0 (by decide) (hts _ (List.mem_cons_of_mem _ wd_132)) (fun _ h9 => h9) rfl d_X_name_48 ?_
                refine mm_new (D := D) (C := n_Nam) (T := T_Nam) (N := 5) (ci := 7) (fs := [.int 0, .null, .int 0, .int 0, .int 0]) (h := sz) hx hb hts lay_Nam t_Nam ty_Nam hown (hts _ (List.mem_cons_of_mem _ wd_165)) (hts _ (List.mem_cons_of_mem _ wd_166)) (hts _ (List.mem_cons_of_mem _ wd_10)) hK.1 hP hS rfl def_Nam (Nat.le_of_ble_eq_true rfl) (Nat.le_of_ble_eq_true rfl) hz (by omega) d_X_name_51 (fun H hP hz1 hS => ?_)
                have hz : H.size = sz + 1 := hz1
                obtain ⟨w10, hw10⟩ : ∃ z : mm_M, z = mm_up w sz (.inr (7, [.int 0, .null, .int 0, .int 0, .int 0])) := ⟨_, rfl⟩
                have hP : mm_P B D kc w10 H := by rw [hw10]; exact hP
                have fr10 : ∀ j, j ≠ sz → w10 j = w j := fun j h9 => by rw [hw10]; exact mm_un h9
                have fa10 : w10 sz = some (.inr (7, [.int 0, .null, .int 0, .int 0, .int 0])) := by rw [hw10]; exact mm_us _ _ _
                refine lv_dup hx hb d_X_name_54 rfl ?_
                refine lv_iload_n hx hb d_X_name_55 rfl (lv_at hl 2 rfl) ?_
                refine lv_iload_n hx hb d_X_name_56 rfl (lv_at hl 3 rfl) ?_
                refine lv_iload_n hx hb d_X_name_57 rfl (lv_at hl 4 rfl) ?_
                refine lv_iload hx hb d_X_name_58 (lv_at hl 5 rfl) ?_
                refine lv_iload hx hb d_X_name_60 (lv_at hl 6 rfl) ?_
                refine kk_callv (va_runI (As := [.int (nI a9), .int (nI b9), .int (nI s9), .int fr, .int to]) (rest := [.ref sz, .ref (b + 1)]) ⟨hx, hb, hml, hown, hts⟩ (c_Nam_init l fa10 (by omega)) (cwI 5 hts (gW_in (hd := [_]) (kk_1 cw_Nam_init)) rfl rfl rfl (hts _ (List.mem_cons_of_mem _ wd_10)) (hts _ (List.mem_cons_of_mem _ wd_167)) (hts _ (List.mem_cons_of_mem _ wd_168)) rfl ds_Nam_init ⟨Nat.le_of_ble_eq_true rfl, Nat.le_of_ble_eq_true rfl⟩) (kk_preS hK hP hz (by omega)) rfl rfl hl.1 rfl (lv_room (Nat.le_of_ble_eq_true rfl)) d_X_name_62 ⟨Nat.le_of_ble_eq_true rfl, Nat.le_of_ble_eq_true rfl⟩) hS (fun w11 sz11 H locs hp11 hP hz hS => ?_)
                obtain ⟨he11, hs11⟩ := hp11
                have hz : H.size = sz + 2 := hz.trans hs11
                have hw12 : w11 = mm_up (mm_up w10 sz (.inr (7, [.int (nI a9), .ref (sz + 1), .int (nI 0), .int (nI b9), .int (nI s9)]))) (sz + 1) (.inr (6, [.int fr, .int to])) := he11
                have fr12 : ∀ j, j ≠ sz → j ≠ sz + 1 → w11 j = w10 j := fun j h90 h91 => by rw [hw12]; exact (mm_un h91).trans (mm_un h90)
                have fa12_0 : w11 sz = some (.inr (7, [.int (nI a9), .ref (sz + 1), .int (nI 0), .int (nI b9), .int (nI s9)])) := by rw [hw12]; exact (mm_un (by omega)).trans (mm_us _ _ _)
                have fa12_1 : w11 (sz + 1) = some (.inr (6, [.int fr, .int to])) := by rw [hw12]; exact mm_us _ _ _
                have f13 := (fr12 _ (by omega) (by omega)).trans ((fr10 _ (by omega)).trans (hRe.1))
                have f14 := (fr12 _ (by omega) (by omega)).trans ((fr10 _ (by omega)).trans (hRe.2.1))
                refine kk_calli (va_runV (As := [.ref sz]) (rest := []) ⟨hx, hb, hml, hown, hts⟩ (c_Reg_add7 l f13 f14 fa12_0 (by omega) (by omega)) (cwV 1 hts (gW_in (hd := [_, _, _, _, _]) (kk_5 wd_211 wd_212 wd_213 wd_2 cw_Reg_add)) rfl rfl rfl ⟨rfl, ds_Reg_add⟩ ⟨Nat.le_of_ble_eq_true rfl, Nat.le_of_ble_eq_true rfl⟩) (kk_preV hK hP hz (by omega) f13 rfl) rfl rfl hl.1 rfl (lv_room (Nat.le_of_ble_eq_true rfl)) d_X_name_65 ⟨Nat.le_of_ble_eq_true rfl, Nat.le_of_ble_eq_true rfl⟩) hS (fun r15 w15 sz15 H locs hp15 hP hz hS => ?_)
                obtain ⟨hr15, he15, hs15⟩ := hp15
                subst hr15
                have hz : H.size = sz + 2 := hz.trans hs15
                have hw16 : w15 = mm_up (mm_up w11 (b + 1) (.inr (1, [.ref (b + 2), .int (nI (N 0 0 + 1))]))) (b + 2) (.inl (cQ, 24, .inr (.inr (.inr (.inr (va_up (fun i => if i < N 0 0 then some (ad i) else none) (N 0 0) (some sz))))))) := he15
                have fr16 : ∀ j, j ≠ b + 1 → j ≠ b + 2 → w15 j = w11 j := fun j h90 h91 => by rw [hw16]; exact (mm_un h91).trans (mm_un h90)
                have fa16_0 : w15 (b + 1) = some (.inr (1, [.ref (b + 2), .int (nI (N 0 0 + 1))])) := by rw [hw16]; exact (mm_un (by omega)).trans (mm_us _ _ _)
                have fa16_1 : w15 (b + 2) = some (.inl (cQ, 24, .inr (.inr (.inr (.inr (va_up (fun i => if i < N 0 0 then some (ad i) else none) (N 0 0) (some sz))))))) := by rw [hw16]; exact mm_us _ _ _
                exact W.iret hx hb hr (fun t ht hW => ⟨⟨_, (w15, sz + 2), rfl, ⟨(if_pos hok).symm, (by rw [na_N_pos (by omega) (by omega) (by omega) hok, show na_S N S _ _ _ _ _ = mk_S S (N 0 0) fr to from if_pos hok]; exact ⟨T, U, va_up ad (N 0 0) sz, ⟨hRe.add (z := sz) (by omega) rfl (fun c hc => ⟨if_neg (by omega), if_neg (by omega), if_neg (by omega), if_neg (by omega), if_neg (by omega), if_neg (by omega), if_neg (by omega), if_neg (by omega), fun i hi => if_neg (by omega), if_neg (by omega), if_neg (by omega), if_neg (by omega), if_neg (by omega)⟩) (fun x9 hx9 => (fr16 x9 (by obtain ⟨c9, h, h7, h6⟩ := hx9; have q2 := hLa c9 h; have q3 := q2.1; have q4 := q2.2.1; omega) (by obtain ⟨c9, h, h7, h6⟩ := hx9; have q2 := hLa c9 h; have q3 := q2.1; have q4 := q2.2.1; omega)).trans ((fr12 x9 (by obtain ⟨c9, h, h7, h6⟩ := hx9; have q2 := hLa c9 h; have q3 := q2.1; have q4 := q2.2.1; omega) (by obtain ⟨c9, h, h7, h6⟩ := hx9; have q2 := hLa c9 h; have q3 := q2.1; have q4 := q2.2.1; omega)).trans (fr10 x9 (by obtain ⟨c9, h, h7, h6⟩ := hx9; have q2 := hLa c9 h; have q3 := q2.1; have q4 := q2.2.1; omega)))) fa16_0 fa16_1 (ce_new_nam ((fr16 _ (by omega) (by omega)).trans (fa12_0)) ((fr16 _ (by omega) (by omega)).trans (fa12_1))), ((fr16 _ (by omega) (by omega)).trans ((fr12 _ (by omega) (by omega)).trans ((fr10 _ (by omega)).trans (x0)))), ((fr16 _ (by omega) (by omega)).trans ((fr12 _ (by omega) (by omega)).trans ((fr10 _ (by omega)).trans (x3)))), ((fr16 _ (by omega) (by omega)).trans ((fr12 _ (by omega) (by omega)).trans ((fr10 _ (by omega)).trans (x4)))), ((fr16 _ (by omega) (by omega)).trans ((fr12 _ (by omega) (by omega)).trans ((fr10 _ (by omega)).trans (x5)))), ((fr16 _ (by omega) (by omega)).trans ((fr12 _ (by omega) (by omega)).trans ((fr10 _ (by omega)).trans (x6)))), ((fr16 _ (by omega) (by omega)).trans ((fr12 _ (by omega) (by omega)).trans ((fr10 _ (by omega)).trans (x7)))), ((fr16 _ (by omega) (by omega)).trans ((fr12 _ (by omega) (by omega)).trans ((fr10 _ (by omega)).trans (x8)))), ((fr16 _ (by omega) (by omega)).trans ((fr12 _ (by omega) (by omega)).trans ((fr10 _ (by omega)).trans (x9)))), ((fr16 _ (by omega) (by omega)).trans ((fr12 _ (by omega) (by omega)).trans ((fr10 _ (by omega)).trans (x10)))), ((fr16 _ (by omega) (by omega)).trans ((fr12 _ (by omega) (by omega)).trans ((fr10 _ (by omega)).trans (x11)))), ((fr16 _ (by omega) (by omega)).trans ((fr12 _ (by omega) (by omega)).trans ((fr10 _ (by omega)).trans (x12)))), ((fr16 _ (by omega) (by omega)).trans ((fr12 _ (by omega) (by omega)).trans ((fr10 _ (by omega)).trans (x13))))⟩, hXr, la_add hLa hsz rfl (fun c hc => if_neg (by omega)) (by rw [show cm_N N 1 a9 s9 b9 0 2 (N 0 0) = 1 from if_pos rfl]; decide)⟩), (fun j9 hj1 hj2 => (fr16 j9 (by omega) (by omega)).trans ((fr12 j9 (by omega) (by omega)).trans (fr10 j9 (by omega)))), (if_pos hok).symm⟩, by rw [ht]; exact hP, by rw [ht]; exact hz⟩, hS.F ht⟩) hS.2.2 d_X_name_68
              · have cc9 := kk_b1 cc9
                exact absurd cc9 hk4
  · refine lv_iload_n hx hb d_X_name_0 rfl (lv_at hl 2 rfl) ?_
    refine lv_if_lt (tgt := 13) hx hb d_X_name_1 (by decide) (fun cc17 => ?_) (fun cc17 => ?_)
    · refine lv_iconst (v := nI 0) hx hb d_X_name_13 (by decide) ?_
      refine lv_istore hx hb d_X_name_14 hl (by decide) rfl (fun ls hl => ?_)
      have hl : lv_has ls 7 [(6, .int (nI 0)), (0, .ref b), (1, .int ir), (2, .int mr), (3, .int sr), (4, .int fr), (5, .int to)] := hl
      refine lv_iload_n hx hb d_X_name_16 rfl (lv_at hl 2 rfl) ?_
      refine vp_callSi (va_Run.run (va_runS (As := [.int ir]) (rest := []) ⟨hx, hb, hml, hown, hts⟩ (c_X_isKey l ) (va_cwS 1 hts (gW_in (hd := [_, _, _, _]) (kk_4 wd_149 wd_150 wd_1 cw_X_isKey)) rfl rfl rfl ds_X_isKey ⟨Nat.le_of_ble_eq_true rfl, Nat.le_of_ble_eq_true rfl⟩) (kk_preS hK hP hz hBz) rfl rfl hl.1 rfl (lv_room (Nat.le_of_ble_eq_true rfl)) d_X_name_17 ⟨Nat.le_of_ble_eq_true rfl, Nat.le_of_ble_eq_true rfl⟩)) (fun r18 hr18 => ?_)
      subst hr18
      refine lv_if_eq (tgt := 45) hx hb d_X_name_20 (by decide) (fun cc19 => ?_) (fun cc19 => ?_)
      · have cc19 := kk_b0 cc19
        refine lv_iconst (v := (-1)) hx hb d_X_name_45 (by decide) ?_
        refine W.widen (k := 2) (n := 7) (Nat.le_of_ble_eq_true rfl) (Nat.le_of_ble_eq_true rfl) ?_
        exact W.iret hx hb hr (fun t ht hW => ⟨⟨_, (w, sz), rfl, ⟨(if_neg hok).symm, (by rw [show na_N N ir mr sr = N from if_neg hok, show na_S N S ir mr sr fr to = S from if_neg hok]; exact ⟨T, U, ad, ⟨hRe, x0, x3, x4, x5, x6, x7, x8, x9, x10, x11, x12, x13⟩, hXr, hLa⟩), (fun j9 hj1 hj2 => rfl), (if_neg hok).symm⟩, by rw [ht]; exact hP, by rw [ht]; exact hz⟩, hS.F ht⟩) hS.2.2 d_X_name_46
      · have cc19 := kk_b1 cc19
        refine lv_iload hx hb d_X_name_23 (lv_at hl 0 rfl) ?_
        refine lv_if_eq (tgt := 45) hx hb d_X_name_25 (by decide) (fun cc20 => ?_) (fun cc20 => ?_)
        · rw [← nI_0] at cc20
          have cc20 : 0 = 0 := (nI_eq (by omega) (by omega)).mp cc20
          refine lv_iconst (v := (-1)) hx hb d_X_name_45 (by decide) ?_
          refine W.widen (k := 2) (n := 7) (Nat.le_of_ble_eq_true rfl) (Nat.le_of_ble_eq_true rfl) ?_
          exact W.iret hx hb hr (fun t ht hW => ⟨⟨_, (w, sz), rfl, ⟨(if_neg hok).symm, (by rw [show na_N N ir mr sr = N from if_neg hok, show na_S N S ir mr sr fr to = S from if_neg hok]; exact ⟨T, U, ad, ⟨hRe, x0, x3, x4, x5, x6, x7, x8, x9, x10, x11, x12, x13⟩, hXr, hLa⟩), (fun j9 hj1 hj2 => rfl), (if_neg hok).symm⟩, by rw [ht]; exact hP, by rw [ht]; exact hz⟩, hS.F ht⟩) hS.2.2 d_X_name_46
        · rw [← nI_0] at cc20
          have cc20 : ¬ (0 = 0) := fun q => cc20 ((nI_eq (by omega) (by omega)).mpr q)
          exact absurd cc20 (by omega)
    · refine lv_iload_n hx hb d_X_name_4 rfl (lv_at hl 2 rfl) ?_
      refine lv_iconst (v := nI 4) hx hb d_X_name_5 (by decide) ?_
      refine lv_icmp_ge (tgt := 13) hx hb d_X_name_6 (by decide) (fun cc21 => ?_) (fun cc21 => ?_)
      · refine lv_iconst (v := nI 0) hx hb d_X_name_13 (by decide) ?_
        refine lv_istore hx hb d_X_name_14 hl (by decide) rfl (fun ls hl => ?_)
        have hl : lv_has ls 7 [(6, .int (nI 0)), (0, .ref b), (1, .int ir), (2, .int mr), (3, .int sr), (4, .int fr), (5, .int to)] := hl
        refine lv_iload_n hx hb d_X_name_16 rfl (lv_at hl 2 rfl) ?_
        refine vp_callSi (va_Run.run (va_runS (As := [.int ir]) (rest := []) ⟨hx, hb, hml, hown, hts⟩ (c_X_isKey l ) (va_cwS 1 hts (gW_in (hd := [_, _, _, _]) (kk_4 wd_149 wd_150 wd_1 cw_X_isKey)) rfl rfl rfl ds_X_isKey ⟨Nat.le_of_ble_eq_true rfl, Nat.le_of_ble_eq_true rfl⟩) (kk_preS hK hP hz hBz) rfl rfl hl.1 rfl (lv_room (Nat.le_of_ble_eq_true rfl)) d_X_name_17 ⟨Nat.le_of_ble_eq_true rfl, Nat.le_of_ble_eq_true rfl⟩)) (fun r22 hr22 => ?_)
        subst hr22
        refine lv_if_eq (tgt := 45) hx hb d_X_name_20 (by decide) (fun cc23 => ?_) (fun cc23 => ?_)
        · have cc23 := kk_b0 cc23
          refine lv_iconst (v := (-1)) hx hb d_X_name_45 (by decide) ?_
          refine W.widen (k := 2) (n := 7) (Nat.le_of_ble_eq_true rfl) (Nat.le_of_ble_eq_true rfl) ?_
          exact W.iret hx hb hr (fun t ht hW => ⟨⟨_, (w, sz), rfl, ⟨(if_neg hok).symm, (by rw [show na_N N ir mr sr = N from if_neg hok, show na_S N S ir mr sr fr to = S from if_neg hok]; exact ⟨T, U, ad, ⟨hRe, x0, x3, x4, x5, x6, x7, x8, x9, x10, x11, x12, x13⟩, hXr, hLa⟩), (fun j9 hj1 hj2 => rfl), (if_neg hok).symm⟩, by rw [ht]; exact hP, by rw [ht]; exact hz⟩, hS.F ht⟩) hS.2.2 d_X_name_46
        · have cc23 := kk_b1 cc23
          refine lv_iload hx hb d_X_name_23 (lv_at hl 0 rfl) ?_
          refine lv_if_eq (tgt := 45) hx hb d_X_name_25 (by decide) (fun cc24 => ?_) (fun cc24 => ?_)
          · rw [← nI_0] at cc24
            have cc24 : 0 = 0 := (nI_eq (by omega) (by omega)).mp cc24
            refine lv_iconst (v := (-1)) hx hb d_X_name_45 (by decide) ?_
            refine W.widen (k := 2) (n := 7) (Nat.le_of_ble_eq_true rfl) (Nat.le_of_ble_eq_true rfl) ?_
            exact W.iret hx hb hr (fun t ht hW => ⟨⟨_, (w, sz), rfl, ⟨(if_neg hok).symm, (by rw [show na_N N ir mr sr = N from if_neg hok, show na_S N S ir mr sr fr to = S from if_neg hok]; exact ⟨T, U, ad, ⟨hRe, x0, x3, x4, x5, x6, x7, x8, x9, x10, x11, x12, x13⟩, hXr, hLa⟩), (fun j9 hj1 hj2 => rfl), (if_neg hok).symm⟩, by rw [ht]; exact hP, by rw [ht]; exact hz⟩, hS.F ht⟩) hS.2.2 d_X_name_46
          · rw [← nI_0] at cc24
            have cc24 : ¬ (0 = 0) := fun q => cc24 ((nI_eq (by omega) (by omega)).mpr q)
            exact absurd cc24 (by omega)
      · refine lv_iconst (v := nI 1) hx hb d_X_name_9 (by decide) ?_
        refine lv_goto (tgt := 14) hx hb d_X_name_10 (by decide) ?_
        refine lv_istore hx hb d_X_name_14 hl (by decide) rfl (fun ls hl => ?_)
        have hl : lv_has ls 7 [(6, .int (nI 1)), (0, .ref b), (1, .int ir), (2, .int mr), (3, .int sr), (4, .int fr), (5, .int to)] := hl
        refine lv_iload_n hx hb d_X_name_16 rfl (lv_at hl 2 rfl) ?_
        refine vp_callSi (va_Run.run (va_runS (As := [.int ir]) (rest := []) ⟨hx, hb, hml, hown, hts⟩ (c_X_isKey l ) (va_cwS 1 hts (gW_in (hd := [_, _, _, _]) (kk_4 wd_149 wd_150 wd_1 cw_X_isKey)) rfl rfl rfl ds_X_isKey ⟨Nat.le_of_ble_eq_true rfl, Nat.le_of_ble_eq_true rfl⟩) (kk_preS hK hP hz hBz) rfl rfl hl.1 rfl (lv_room (Nat.le_of_ble_eq_true rfl)) d_X_name_17 ⟨Nat.le_of_ble_eq_true rfl, Nat.le_of_ble_eq_true rfl⟩)) (fun r25 hr25 => ?_)
        subst hr25
        refine lv_if_eq (tgt := 45) hx hb d_X_name_20 (by decide) (fun cc26 => ?_) (fun cc26 => ?_)
        · have cc26 := kk_b0 cc26
          refine lv_iconst (v := (-1)) hx hb d_X_name_45 (by decide) ?_
          refine W.widen (k := 2) (n := 7) (Nat.le_of_ble_eq_true rfl) (Nat.le_of_ble_eq_true rfl) ?_
          exact W.iret hx hb hr (fun t ht hW => ⟨⟨_, (w, sz), rfl, ⟨(if_neg hok).symm, (by rw [show na_N N ir mr sr = N from if_neg hok, show na_S N S ir mr sr fr to = S from if_neg hok]; exact ⟨T, U, ad, ⟨hRe, x0, x3, x4, x5, x6, x7, x8, x9, x10, x11, x12, x13⟩, hXr, hLa⟩), (fun j9 hj1 hj2 => rfl), (if_neg hok).symm⟩, by rw [ht]; exact hP, by rw [ht]; exact hz⟩, hS.F ht⟩) hS.2.2 d_X_name_46
        · have cc26 := kk_b1 cc26
          refine lv_iload hx hb d_X_name_23 (lv_at hl 0 rfl) ?_
          refine lv_if_eq (tgt := 45) hx hb d_X_name_25 (by decide) (fun cc27 => ?_) (fun cc27 => ?_)
          · rw [← nI_0] at cc27
            have cc27 : 1 = 0 := (nI_eq (by omega) (by omega)).mp cc27
            exact absurd cc27 (by omega)
          · rw [← nI_0] at cc27
            have cc27 : ¬ (1 = 0) := fun q => cc27 ((nI_eq (by omega) (by omega)).mpr q)
            refine lv_iload_n hx hb d_X_name_28 rfl (lv_at hl 4 rfl) ?_
            refine vp_callSi (va_Run.run (va_runS (As := [.int sr]) (rest := []) ⟨hx, hb, hml, hown, hts⟩ (c_X_isSubject l ) (va_cwS 1 hts (gW_in (hd := [_, _, _, _]) (kk_4 wd_152 wd_153 wd_1 cw_X_isSubject)) rfl rfl rfl ds_X_isSubject ⟨Nat.le_of_ble_eq_true rfl, Nat.le_of_ble_eq_true rfl⟩) (kk_preS hK hP hz hBz) rfl rfl hl.1 rfl (lv_room (Nat.le_of_ble_eq_true rfl)) d_X_name_29 ⟨Nat.le_of_ble_eq_true rfl, Nat.le_of_ble_eq_true rfl⟩)) (fun r28 hr28 => ?_)
            subst hr28
            refine lv_if_eq (tgt := 45) hx hb d_X_name_32 (by decide) (fun cc29 => ?_) (fun cc29 => ?_)
            · have cc29 := kk_b0 cc29
              refine lv_iconst (v := (-1)) hx hb d_X_name_45 (by decide) ?_
              refine W.widen (k := 2) (n := 7) (Nat.le_of_ble_eq_true rfl) (Nat.le_of_ble_eq_true rfl) ?_
              exact W.iret hx hb hr (fun t ht hW => ⟨⟨_, (w, sz), rfl, ⟨(if_neg hok).symm, (by rw [show na_N N ir mr sr = N from if_neg hok, show na_S N S ir mr sr fr to = S from if_neg hok]; exact ⟨T, U, ad, ⟨hRe, x0, x3, x4, x5, x6, x7, x8, x9, x10, x11, x12, x13⟩, hXr, hLa⟩), (fun j9 hj1 hj2 => rfl), (if_neg hok).symm⟩, by rw [ht]; exact hP, by rw [ht]; exact hz⟩, hS.F ht⟩) hS.2.2 d_X_name_46
            · have cc29 := kk_b1 cc29
              refine lv_aload_n hx hb d_X_name_35 rfl (lv_at hl 1 rfl) ?_
              refine mm_get (D := D) (C := n_X) (T := T_X) (N := 4) (v := .ref (b + 1)) hx hb hts lay_X hown hK.1 hP x0 rfl 0 (by decide) (hts _ (List.mem_cons_of_mem _ wd_132)) (fun _ h9 => h9) rfl d_X_name_36 ?_
              refine vp_callSi (va_Run.run (va_runV (As := []) (rest := []) ⟨hx, hb, hml, hown, hts⟩ (c_Reg_isFull l hRe.1 (by omega)) (cwV 0 hts (gW_in (hd := [_, _, _, _, _]) (kk_5 wd_161 wd_162 wd_163 wd_2 cw_Reg_isFull)) rfl rfl rfl ⟨rfl, ds_Reg_isFull⟩ ⟨Nat.le_of_ble_eq_true rfl, Nat.le_of_ble_eq_true rfl⟩) (kk_preV hK hP hz hBz hRe.1 rfl) rfl rfl hl.1 rfl (lv_room (Nat.le_of_ble_eq_true rfl)) d_X_name_39 ⟨Nat.le_of_ble_eq_true rfl, Nat.le_of_ble_eq_true rfl⟩)) (fun r30 hr30 => ?_)
              subst hr30
              refine lv_if_eq (tgt := 47) hx hb d_X_name_42 (by decide) (fun cc31 => ?_) (fun cc31 => ?_)
              · have cc31 := kk_b0 cc31
                exact absurd ⟨cc26, ⟨cc17, cc21⟩, cc29, cc31⟩ hok
              · have cc31 := kk_b1 cc31
                refine lv_iconst (v := (-1)) hx hb d_X_name_45 (by decide) ?_
                refine W.widen (k := 2) (n := 7) (Nat.le_of_ble_eq_true rfl) (Nat.le_of_ble_eq_true rfl) ?_
                exact W.iret hx hb hr (fun t ht hW => ⟨⟨_, (w, sz), rfl, ⟨(if_neg hok).symm, (by rw [show na_N N ir mr sr = N from if_neg hok, show na_S N S ir mr sr fr to = S from if_neg hok]; exact ⟨T, U, ad, ⟨hRe, x0, x3, x4, x5, x6, x7, x8, x9, x10, x11, x12, x13⟩, hXr, hLa⟩), (fun j9 hj1 hj2 => rfl), (if_neg hok).symm⟩, by rw [ht]; exact hP, by rw [ht]; exact hz⟩, hS.F ht⟩) hS.2.2 d_X_name_46
