theorem d_X_meant_0 : decode k_X_meant 0 = .ok (.iload_n 1, 1) := by decide +kernel
theorem d_X_meant_1 : decode k_X_meant 1 = .ok (.invokestatic 41, 3) := by decide +kernel
theorem d_X_meant_4 : decode k_X_meant 4 = .ok (.ifCond .ne 5, 3) := by decide +kernel
theorem d_X_meant_7 : decode k_X_meant 7 = .ok (.iconst (-1), 1) := by decide +kernel
theorem d_X_meant_8 : decode k_X_meant 8 = .ok (.ireturn, 1) := by decide +kernel
theorem d_X_meant_9 : decode k_X_meant 9 = .ok (.aload_n 0, 1) := by decide +kernel
theorem d_X_meant_10 : decode k_X_meant 10 = .ok (.getfield 19, 3) := by decide +kernel
theorem d_X_meant_13 : decode k_X_meant 13 = .ok (.aload_n 0, 1) := by decide +kernel
theorem d_X_meant_14 : decode k_X_meant 14 = .ok (.getfield 12, 3) := by decide +kernel
theorem d_X_meant_17 : decode k_X_meant 17 = .ok (.iload_n 2, 1) := by decide +kernel
theorem d_X_meant_18 : decode k_X_meant 18 = .ok (.invokevirtual 98, 3) := by decide +kernel
theorem d_X_meant_21 : decode k_X_meant 21 = .ok (.iconst 0, 1) := by decide +kernel
theorem d_X_meant_22 : decode k_X_meant 22 = .ok (.istore_n 3, 1) := by decide +kernel
theorem d_X_meant_23 : decode k_X_meant 23 = .ok (.iconst 0, 1) := by decide +kernel
theorem d_X_meant_24 : decode k_X_meant 24 = .ok (.istore 4, 2) := by decide +kernel
theorem d_X_meant_26 : decode k_X_meant 26 = .ok (.iload 4, 2) := by decide +kernel
theorem d_X_meant_28 : decode k_X_meant 28 = .ok (.bipush 8, 2) := by decide +kernel
theorem d_X_meant_30 : decode k_X_meant 30 = .ok (.if_icmp .ge 32, 3) := by decide +kernel
theorem d_X_meant_33 : decode k_X_meant 33 = .ok (.aload_n 0, 1) := by decide +kernel
theorem d_X_meant_34 : decode k_X_meant 34 = .ok (.getfield 19, 3) := by decide +kernel
theorem d_X_meant_37 : decode k_X_meant 37 = .ok (.iload_n 1, 1) := by decide +kernel
theorem d_X_meant_38 : decode k_X_meant 38 = .ok (.iload 4, 2) := by decide +kernel
theorem d_X_meant_40 : decode k_X_meant 40 = .ok (.invokevirtual 102, 3) := by decide +kernel
theorem d_X_meant_43 : decode k_X_meant 43 = .ok (.sipush 1000, 3) := by decide +kernel
theorem d_X_meant_46 : decode k_X_meant 46 = .ok (.if_icmp .eq 10, 3) := by decide +kernel
theorem d_X_meant_49 : decode k_X_meant 49 = .ok (.iload_n 3, 1) := by decide +kernel
theorem d_X_meant_50 : decode k_X_meant 50 = .ok (.iconst 1, 1) := by decide +kernel
theorem d_X_meant_51 : decode k_X_meant 51 = .ok (.iload 4, 2) := by decide +kernel
theorem d_X_meant_53 : decode k_X_meant 53 = .ok (.ishl, 1) := by decide +kernel
theorem d_X_meant_54 : decode k_X_meant 54 = .ok (.ior, 1) := by decide +kernel
theorem d_X_meant_55 : decode k_X_meant 55 = .ok (.istore_n 3, 1) := by decide +kernel
theorem d_X_meant_56 : decode k_X_meant 56 = .ok (.iinc 4 1, 3) := by decide +kernel
theorem d_X_meant_59 : decode k_X_meant 59 = .ok (.goto (-33), 3) := by decide +kernel
theorem d_X_meant_62 : decode k_X_meant 62 = .ok (.iload_n 3, 1) := by decide +kernel
theorem d_X_meant_63 : decode k_X_meant 63 = .ok (.ireturn, 1) := by decide +kernel
set_option maxHeartbeats 4000000 in
set_option maxRecDepth 100000 in
theorem c_X_meant (l : Launch) {B : Nat} {D : va_G} {cI cZ cQ : ClassId} {w : mm_M} {sz : Nat} {b : Nat} {N : Nat → Nat → Nat} {S : Nat → Nat → Int32} {sr t9 : Int32} (hXI : xs_I b cI cZ cQ sz N S w) (hR : rg_I N) (hC : ch_I N)  : Met l y_X_meant ws_X_meant (kk_rm 5 0 0) (kk_Pc B D cI cZ cQ [.ref b, .int sr, .int t9] w sz) (kk_Qi B D (fun r w' sz' => r = me_r N S sr t9 ∧ xs_I b cI cZ cQ sz' N S w' ∧ (∀ j, b + 14 ≤ j → j < b + 31 → w' j = w j) ∧ sz' = sz)) 0 0 (fun q => B ≤ q) := by
  refine Met.ofW (cc := k_X_meant) (maxL := 5) (ret := (some .int)) (by decide) rfl ?_
  intro p e s m args below meth c s₁ BB hml hv
  obtain ⟨rfl, hK, hP, hz, hBz⟩ := hv
  have hx := BB.exec
  have hb := BB.bytes
  have hr := BB.returns
  have hts := atoms_spec (ws := ws_X_meant) BB.pre
  have hown : s.vm.findClass "DelegationClosure" = some m.cls := findClass_of_methodNamed BB.named
  have hlocks := BB.notSynchronized
  have hS : mm_S B s.heap s.heap [] := va_S.rf
  have hl := lv_entry ([.ref b, .int sr, .int t9]) (n := 5) (Nat.le_of_ble_eq_true rfl)
  rw [lg_entry_eq]
  generalize (lg_sl ([.ref b, .int sr, .int t9]) ++ List.replicate (5 - (lg_sl ([.ref b, .int sr, .int t9])).length) Slot.unset).toArray = ls at hl ⊢
  have hl : lv_has ls 5 [(0, .ref b), (1, .int sr), (2, .int t9)] := hl
  obtain ⟨T, U, ad, ⟨hRe, x0, x3, x4, x5, x6, x7, x8, x9, x10, x11, x12, x13⟩, hXr, hLa⟩ := hXI
  have hn := hRe.2.2.1
  have hC1 := hC.1
  have hC2 := hC.2.1
  have hC3 := hC.2.2.1
  have hC4 := hC.2.2.2.1
  have hC5 := hC.2.2.2.2.1
  have hC6 := hC.2.2.2.2.2.1
  refine lv_iload_n hx hb d_X_meant_0 rfl (lv_at hl 1 rfl) ?_
  refine vp_callSi (va_Run.run (va_runS (As := [.int sr]) (rest := []) ⟨hx, hb, hml, hown, hts⟩ (c_X_isSubject l ) (va_cwS 1 hts (gW_in (hd := [_, _, _, _]) (kk_4 wd_152 wd_153 wd_1 cw_X_isSubject)) rfl rfl rfl ds_X_isSubject ⟨Nat.le_of_ble_eq_true rfl, Nat.le_of_ble_eq_true rfl⟩) (kk_preS hK hP hz hBz) rfl rfl hl.1 rfl (lv_room (Nat.le_of_ble_eq_true rfl)) d_X_meant_1 ⟨Nat.le_of_ble_eq_true rfl, Nat.le_of_ble_eq_true rfl⟩)) (fun r1 hr1 => ?_)
  subst hr1
  refine lv_if_ne (tgt := 9) hx hb d_X_meant_4 (by decide) (fun cc2 => ?_) (fun cc2 => ?_)
  · have cc2 := kk_b1 cc2
    obtain ⟨n9, hsn, hn9⟩ := wf_sub_of cc2
    refine lv_aload_n hx hb d_X_meant_9 rfl (lv_at hl 0 rfl) ?_
    refine mm_get (D := D) (C := n_X) (T := T_X) (N := 4) (v := .ref (b + 3)) hx hb hts lay_X hown hK.1 hP x0 rfl 1 (by decide) (hts _ (List.mem_cons_of_mem _ wd_133)) (fun _ h9 => h9) rfl d_X_meant_10 ?_
    refine lv_aload_n hx hb d_X_meant_13 rfl (lv_at hl 0 rfl) ?_
    refine mm_get (D := D) (C := n_X) (T := T_X) (N := 4) (v := .ref (b + 1)) hx hb hts lay_X hown hK.1 hP x0 rfl 0 (by decide) (hts _ (List.mem_cons_of_mem _ wd_132)) (fun _ h9 => h9) rfl d_X_meant_14 ?_
    refine lv_iload_n hx hb d_X_meant_17 rfl (lv_at hl 2 rfl) ?_
    refine kk_callv (va_runV (As := [.ref (b + 1), .int t9]) (rest := []) ⟨hx, hb, hml, hown, hts⟩ (c_Mea_workOut l (N := N) (S := S) (ad := ad) x3 x4 hRe hR (by omega) (fun j hj => by have := (hLa j hj).1; omega)) (cwV 2 hts (gW_in (hd := [_, _, _, _, _]) (kk_5 wd_305 wd_306 wd_307 wd_3 cw_Mea_workOut)) rfl rfl rfl ⟨rfl, ds_Mea_workOut⟩ ⟨Nat.le_of_ble_eq_true rfl, Nat.le_of_ble_eq_true rfl⟩) (kk_preV hK hP hz hBz x3 rfl) rfl rfl hl.1 rfl (lv_room (Nat.le_of_ble_eq_true rfl)) d_X_meant_18 ⟨Nat.le_of_ble_eq_true rfl, Nat.le_of_ble_eq_true rfl⟩) hS (fun w3 sz3 H locs hp3 hP hz hS => ?_)
    obtain ⟨he3, hs3⟩ := hp3
    have hz : H.size = sz := hz.trans hs3
    have hw4 : w3 = mm_up w (b + 4) (.inl (cI, 256, .inl (fun i => nI ((dm_run (ru_M N S t9) 257 (fun _ => 1000)) i)))) := he3
    have fr4 : ∀ j, j ≠ b + 4 → w3 j = w j := fun j h90 => by rw [hw4]; exact mm_un h90
    have fa4_0 : w3 (b + 4) = some (.inl (cI, 256, .inl (fun i => nI ((dm_run (ru_M N S t9) 257 (fun _ => 1000)) i)))) := by rw [hw4]; exact mm_us _ _ _
    rw [me_V_eq S t9 hR] at fa4_0
    refine lv_iconst (v := nI 0) hx hb d_X_meant_21 (by decide) ?_
    refine lv_istore_n hx hb d_X_meant_22 rfl hl (by decide) rfl (fun ls hl => ?_)
    have hl : lv_has ls 5 [(3, .int (nI 0)), (0, .ref b), (1, .int sr), (2, .int t9)] := hl
    refine lv_iconst (v := nI 0) hx hb d_X_meant_23 (by decide) ?_
    refine lv_istore hx hb d_X_meant_24 hl (by decide) rfl (fun ls hl => ?_)
    have hl : lv_has ls 5 [(4, .int (nI 0)), (3, .int (nI 0)), (0, .ref b), (1, .int sr), (2, .int t9)] := hl
    have lp5 : ∀ (d : Nat) (k : Nat) (ls : Array Slot), d = 8 - k → (k ≤ 8) → lv_has ls 5 [(4, .int (nI k)), (3, .int (nI (dm_set (me_P (me_V N S t9) n9) k))), (0, .ref b), (1, .int sr), (2, .int t9)] → W p l e (headSpec ws_X_meant (kk_rm 5 0 0)).room s m ([.ref b, .int sr, .int t9]).toArray below meth c H locs 0 0 (MQ below (kk_Qi B D (fun r w' sz' => r = me_r N S sr t9 ∧ xs_I b cI cZ cQ sz' N S w' ∧ (∀ j, b + 14 ≤ j → j < b + 31 → w' j = w j) ∧ sz' = sz)) ([.ref b, .int sr, .int t9]).toArray s 0 0 (fun q => B ≤ q)) (F0 m 26 ls []) := by
      intro d
      induction d using Nat.strongRecOn with
      | ind d ih =>
        intro k ls hd hk hl
        refine lv_iload hx hb d_X_meant_26 (lv_at hl 0 rfl) ?_
        refine lv_bipush (v := nI 8) hx hb d_X_meant_28 (by decide) ?_
        refine lv_icmp_ge (tgt := 62) hx hb d_X_meant_30 (by decide) (fun cc6 => ?_) (fun cc6 => ?_)
        · have cc6 : 8 ≤ k := (nI_leI (by omega) (by omega)).mp cc6
          refine lv_iload_n hx hb d_X_meant_62 rfl (lv_at hl 1 rfl) ?_
          exact W.iret hx hb hr (fun t ht hW => ⟨⟨_, (w3, sz), rfl, ⟨(by rw [me_r_pos cc2 hsn (by omega)]; obtain rfl : k = 8 := (by omega); rfl), ⟨va_up T 0 (me_V N S t9), U, ad, ⟨hRe.keep (fun i9 hi9 => fr4 i9 (by rcases hi9 with h | h | ⟨c9, h, h8, h7⟩ <;> (try have := (hLa c9 h).1) <;> omega)), ((fr4 _ (by omega)).trans (x0)), ((fr4 _ (by omega)).trans (x3)), fa4_0, ((fr4 _ (by omega)).trans (x5)), ((fr4 _ (by omega)).trans (x6)), ((fr4 _ (by omega)).trans (x7)), ((fr4 _ (by omega)).trans (x8)), ((fr4 _ (by omega)).trans (x9)), ((fr4 _ (by omega)).trans (x10)), ((fr4 _ (by omega)).trans (x11)), ((fr4 _ (by omega)).trans (x12)), ((fr4 _ (by omega)).trans (x13))⟩, hXr, hLa⟩, (fun j hj1 hj2 => fr4 j (by omega)), rfl⟩, by rw [ht]; exact hP, by rw [ht]; exact hz⟩, hS.F ht⟩) hS.2.2 d_X_meant_63
        · have cc6 : ¬ (8 ≤ k) := fun q => cc6 ((nI_leI (by omega) (by omega)).mpr q)
          refine lv_aload_n hx hb d_X_meant_33 rfl (lv_at hl 2 rfl) ?_
          have f7 := (fr4 _ (by omega)).trans (x0)
          refine mm_get (D := D) (C := n_X) (T := T_X) (N := 4) (v := .ref (b + 3)) hx hb hts lay_X hown hK.1 hP f7 rfl 1 (by decide) (hts _ (List.mem_cons_of_mem _ wd_133)) (fun _ h9 => h9) rfl d_X_meant_34 ?_
          refine lv_iload_n hx hb d_X_meant_37 rfl (lv_at hl 3 rfl) ?_
          refine kk_top (hsn) ?_
          refine lv_iload hx hb d_X_meant_38 (lv_at hl 0 rfl) ?_
          have f8 := (fr4 _ (by omega)).trans (x3)
          refine vp_callSi (va_Run.run (va_runV (As := [.int (nI n9), .int (nI k)]) (rest := []) ⟨hx, hb, hml, hown, hts⟩ (c_Mea_ofSubject l f8 fa4_0 (by omega) (by omega) (me_V_le N S t9)) (cwV 2 hts (gW_in (hd := [_, _, _, _, _]) (kk_5 wd_344 wd_330 wd_331 wd_3 cw_Mea_ofSubject)) rfl rfl rfl ⟨rfl, ds_Mea_ofSubject⟩ ⟨Nat.le_of_ble_eq_true rfl, Nat.le_of_ble_eq_true rfl⟩) (kk_preV hK hP hz hBz f8 rfl) rfl rfl hl.1 rfl (lv_room (Nat.le_of_ble_eq_true rfl)) d_X_meant_40 ⟨Nat.le_of_ble_eq_true rfl, Nat.le_of_ble_eq_true rfl⟩)) (fun r9 hr9 => ?_)
          subst hr9
          refine lv_sipush (v := nI 1000) hx hb d_X_meant_43 (by decide) ?_
          have hq2 := dm_ofs_le (me_V_le N S t9) n9 k
          refine lv_icmp_eq (tgt := 56) hx hb d_X_meant_46 (by decide) (fun cc10 => ?_) (fun cc10 => ?_)
          · have cc10 : dm_ofs (me_V N S t9) n9 k = 1000 := (nI_eq (by omega) (by omega)).mp cc10
            rw [show dm_set (me_P (me_V N S t9) n9) k = dm_set (me_P (me_V N S t9) n9) (k + 1) from dm_set_f (fun q => of_decide_eq_true q cc10)] at hl
            refine lv_iinc (k := 0) (v := nI (k + 1)) hx hb d_X_meant_56 hl rfl (kk_inc _) (by decide) rfl (fun ls hl => ?_)
            have hl : lv_has ls 5 [(4, .int (nI (k + 1))), (3, .int (nI (dm_set (me_P (me_V N S t9) n9) (k + 1)))), (0, .ref b), (1, .int sr), (2, .int t9)] := hl
            refine lv_goto (tgt := 26) hx hb d_X_meant_59 (by decide) ?_
            exact ih _ (by omega) (k + 1) ls rfl (by omega) (lv_sub hl [0, 1, 2, 3, 4] rfl)
          · have cc10 : ¬ (dm_ofs (me_V N S t9) n9 k = 1000) := fun q => cc10 ((nI_eq (by omega) (by omega)).mpr q)
            refine lv_iload_n hx hb d_X_meant_49 rfl (lv_at hl 1 rfl) ?_
            refine lv_iconst (v := nI 1) hx hb d_X_meant_50 (by decide) ?_
            refine lv_iload hx hb d_X_meant_51 (lv_at hl 0 rfl) ?_
            refine lv_ishl hx hb d_X_meant_53 ?_
            refine kk_top (y := nI (2 ^ k)) (bt_shl _ (by omega)) ?_
            refine lv_ior hx hb d_X_meant_54 ?_
            refine kk_top (y := nI (dm_set (me_P (me_V N S t9) n9) (k + 1))) ((bt_or _ (by omega) _ (dm_set_lt _ _)).trans (congrArg nI (dm_set_t (decide_eq_true cc10)))) ?_
            refine lv_istore_n hx hb d_X_meant_55 rfl hl (by decide) rfl (fun ls hl => ?_)
            have hl : lv_has ls 5 [(3, .int (nI (dm_set (me_P (me_V N S t9) n9) (k + 1)))), (4, .int (nI k)), (0, .ref b), (1, .int sr), (2, .int t9)] := hl
            refine lv_iinc (k := 1) (v := nI (k + 1)) hx hb d_X_meant_56 hl rfl (kk_inc _) (by decide) rfl (fun ls hl => ?_)
            have hl : lv_has ls 5 [(4, .int (nI (k + 1))), (3, .int (nI (dm_set (me_P (me_V N S t9) n9) (k + 1)))), (0, .ref b), (1, .int sr), (2, .int t9)] := hl
            refine lv_goto (tgt := 26) hx hb d_X_meant_59 (by decide) ?_
            exact ih _ (by omega) (k + 1) ls rfl (by omega) (lv_sub hl [0, 1, 2, 3, 4] rfl)
    exact lp5 _ 0 _ rfl (by omega) (lv_sub hl [0, 1, 2, 3, 4] rfl)
  · have cc2 := kk_b0 cc2
    refine lv_iconst (v := (-1)) hx hb d_X_meant_7 (by decide) ?_
    exact W.iret hx hb hr (fun t ht hW => ⟨⟨_, (w, sz), rfl, ⟨(if_neg cc2).symm, ⟨T, U, ad, ⟨hRe, x0, x3, x4, x5, x6, x7, x8, x9, x10, x11, x12, x13⟩, hXr, hLa⟩, (fun j hj1 hj2 => rfl), rfl⟩, by rw [ht]; exact hP, by rw [ht]; exact hz⟩, hS.F ht⟩) hS.2.2 d_X_meant_8
theorem d_X_cost_0 : decode k_X_cost 0 = .ok (.iload_n 1, 1) := by decide +kernel
theorem d_X_cost_1 : decode k_X_cost 1 = .ok (.invokestatic 41, 3) := by decide +kernel
theorem d_X_cost_4 : decode k_X_cost 4 = .ok (.ifCond .eq 10, 3) := by decide +kernel
theorem d_X_cost_7 : decode k_X_cost 7 = .ok (.iload_n 2, 1) := by decide +kernel
theorem d_X_cost_8 : decode k_X_cost 8 = .ok (.invokestatic 37, 3) := by decide +kernel
theorem d_X_cost_11 : decode k_X_cost 11 = .ok (.ifCond .ne 5, 3) := by decide +kernel
theorem d_X_cost_14 : decode k_X_cost 14 = .ok (.iconst (-1), 1) := by decide +kernel
theorem d_X_cost_15 : decode k_X_cost 15 = .ok (.ireturn, 1) := by decide +kernel
theorem d_X_cost_16 : decode k_X_cost 16 = .ok (.aload_n 0, 1) := by decide +kernel
theorem d_X_cost_17 : decode k_X_cost 17 = .ok (.getfield 19, 3) := by decide +kernel
theorem d_X_cost_20 : decode k_X_cost 20 = .ok (.aload_n 0, 1) := by decide +kernel
theorem d_X_cost_21 : decode k_X_cost 21 = .ok (.getfield 12, 3) := by decide +kernel
theorem d_X_cost_24 : decode k_X_cost 24 = .ok (.iload_n 3, 1) := by decide +kernel
theorem d_X_cost_25 : decode k_X_cost 25 = .ok (.invokevirtual 98, 3) := by decide +kernel
theorem d_X_cost_28 : decode k_X_cost 28 = .ok (.aload_n 0, 1) := by decide +kernel
theorem d_X_cost_29 : decode k_X_cost 29 = .ok (.getfield 19, 3) := by decide +kernel
theorem d_X_cost_32 : decode k_X_cost 32 = .ok (.iload_n 1, 1) := by decide +kernel
theorem d_X_cost_33 : decode k_X_cost 33 = .ok (.iload_n 2, 1) := by decide +kernel
theorem d_X_cost_34 : decode k_X_cost 34 = .ok (.invokevirtual 102, 3) := by decide +kernel
theorem d_X_cost_37 : decode k_X_cost 37 = .ok (.invokestatic 106, 3) := by decide +kernel
theorem d_X_cost_40 : decode k_X_cost 40 = .ok (.ireturn, 1) := by decide +kernel
set_option maxHeartbeats 4000000 in
set_option maxRecDepth 100000 in
theorem c_X_cost (l : Launch) {B : Nat} {D : va_G} {cI cZ cQ : ClassId} {w : mm_M} {sz : Nat} {b : Nat} {N : Nat → Nat → Nat} {S : Nat → Nat → Int32} {sr kr t9 : Int32} (hXI : xs_I b cI cZ cQ sz N S w) (hR : rg_I N) (hC : ch_I N)  : Met l y_X_cost ws_X_cost (kk_rm 5 0 0) (kk_Pc B D cI cZ cQ [.ref b, .int sr, .int kr, .int t9] w sz) (kk_Qi B D (fun r w' sz' => r = co_r N S sr kr t9 ∧ xs_I b cI cZ cQ sz' N S w' ∧ (∀ j, b + 14 ≤ j → j < b + 31 → w' j = w j) ∧ sz' = sz)) 0 0 (fun q => B ≤ q) := by
  refine Met.ofW (cc := k_X_cost) (maxL := 4) (ret := (some .int)) (by decide) rfl ?_
  intro p e s m args below meth c s₁ BB hml hv
  obtain ⟨rfl, hK, hP, hz, hBz⟩ := hv
  have hx := BB.exec
  have hb := BB.bytes
  have hr := BB.returns
  have hts := atoms_spec (ws := ws_X_cost) BB.pre
  have hown : s.vm.findClass "DelegationClosure" = some m.cls := findClass_of_methodNamed BB.named
  have hlocks := BB.notSynchronized
  have hS : mm_S B s.heap s.heap [] := va_S.rf
  have hl := lv_entry ([.ref b, .int sr, .int kr, .int t9]) (n := 4) (Nat.le_of_ble_eq_true rfl)
  rw [lg_entry_eq]
  generalize (lg_sl ([.ref b, .int sr, .int kr, .int t9]) ++ List.replicate (4 - (lg_sl ([.ref b, .int sr, .int kr, .int t9])).length) Slot.unset).toArray = ls at hl ⊢
  have hl : lv_has ls 4 [(0, .ref b), (1, .int sr), (2, .int kr), (3, .int t9)] := hl
  obtain ⟨T, U, ad, ⟨hRe, x0, x3, x4, x5, x6, x7, x8, x9, x10, x11, x12, x13⟩, hXr, hLa⟩ := hXI
  have hn := hRe.2.2.1
  have hC1 := hC.1
  have hC2 := hC.2.1
  have hC3 := hC.2.2.1
  have hC4 := hC.2.2.2.1
  have hC5 := hC.2.2.2.2.1
  have hC6 := hC.2.2.2.2.2.1
  by_cases hok : co_ok sr kr
  · obtain ⟨n9, rfl, hn9⟩ := wf_sub_of hok.1
    obtain ⟨y9, hy9, rfl⟩ := kk_lim_of hok.2 (by omega)
    refine lv_iload_n hx hb d_X_cost_0 rfl (lv_at hl 1 rfl) ?_
    refine vp_callSi (va_Run.run (va_runS (As := [.int (nI n9)]) (rest := []) ⟨hx, hb, hml, hown, hts⟩ (c_X_isSubject l ) (va_cwS 1 hts (gW_in (hd := [_, _, _, _]) (kk_4 wd_152 wd_153 wd_1 cw_X_isSubject)) rfl rfl rfl ds_X_isSubject ⟨Nat.le_of_ble_eq_true rfl, Nat.le_of_ble_eq_true rfl⟩) (kk_preS hK hP hz hBz) rfl rfl hl.1 rfl (lv_room (Nat.le_of_ble_eq_true rfl)) d_X_cost_1 ⟨Nat.le_of_ble_eq_true rfl, Nat.le_of_ble_eq_true rfl⟩)) (fun r1 hr1 => ?_)
    subst hr1
    refine lv_if_eq (tgt := 14) hx hb d_X_cost_4 (by decide) (fun cc2 => ?_) (fun cc2 => ?_)
    · have cc2 := kk_b0 cc2
      exact absurd hok.1 cc2
    · have cc2 := kk_b1 cc2
      refine lv_iload_n hx hb d_X_cost_7 rfl (lv_at hl 2 rfl) ?_
      refine vp_callSi (va_Run.run (va_runS (As := [.int (nI y9)]) (rest := []) ⟨hx, hb, hml, hown, hts⟩ (c_X_isKey l ) (va_cwS 1 hts (gW_in (hd := [_, _, _, _]) (kk_4 wd_149 wd_150 wd_1 cw_X_isKey)) rfl rfl rfl ds_X_isKey ⟨Nat.le_of_ble_eq_true rfl, Nat.le_of_ble_eq_true rfl⟩) (kk_preS hK hP hz hBz) rfl rfl hl.1 rfl (lv_room (Nat.le_of_ble_eq_true rfl)) d_X_cost_8 ⟨Nat.le_of_ble_eq_true rfl, Nat.le_of_ble_eq_true rfl⟩)) (fun r3 hr3 => ?_)
      subst hr3
      refine lv_if_ne (tgt := 16) hx hb d_X_cost_11 (by decide) (fun cc4 => ?_) (fun cc4 => ?_)
      · have cc4 := kk_b1 cc4
        refine lv_aload_n hx hb d_X_cost_16 rfl (lv_at hl 0 rfl) ?_
        refine mm_get (D := D) (C := n_X) (T := T_X) (N := 4) (v := .ref (b + 3)) hx hb hts lay_X hown hK.1 hP x0 rfl 1 (by decide) (hts _ (List.mem_cons_of_mem _ wd_133)) (fun _ h9 => h9) rfl d_X_cost_17 ?_
        refine lv_aload_n hx hb d_X_cost_20 rfl (lv_at hl 0 rfl) ?_
        refine mm_get (D := D) (C := n_X) (T := T_X) (N := 4) (v := .ref (b + 1)) hx hb hts lay_X hown hK.1 hP x0 rfl 0 (by decide) (hts _ (List.mem_cons_of_mem _ wd_132)) (fun _ h9 => h9) rfl d_X_cost_21 ?_
        refine lv_iload_n hx hb d_X_cost_24 rfl (lv_at hl 3 rfl) ?_
        refine kk_callv (va_runV (As := [.ref (b + 1), .int t9]) (rest := []) ⟨hx, hb, hml, hown, hts⟩ (c_Mea_workOut l (N := N) (S := S) (ad := ad) x3 x4 hRe hR (by omega) (fun j hj => by have := (hLa j hj).1; omega)) (cwV 2 hts (gW_in (hd := [_, _, _, _, _]) (kk_5 wd_305 wd_306 wd_307 wd_3 cw_Mea_workOut)) rfl rfl rfl ⟨rfl, ds_Mea_workOut⟩ ⟨Nat.le_of_ble_eq_true rfl, Nat.le_of_ble_eq_true rfl⟩) (kk_preV hK hP hz hBz x3 rfl) rfl rfl hl.1 rfl (lv_room (Nat.le_of_ble_eq_true rfl)) d_X_cost_25 ⟨Nat.le_of_ble_eq_true rfl, Nat.le_of_ble_eq_true rfl⟩) hS (fun w5 sz5 H locs hp5 hP hz hS => ?_)
        obtain ⟨he5, hs5⟩ := hp5
        have hz : H.size = sz := hz.trans hs5
        have hw6 : w5 = mm_up w (b + 4) (.inl (cI, 256, .inl (fun i => nI ((dm_run (ru_M N S t9) 257 (fun _ => 1000)) i)))) := he5
        have fr6 : ∀ j, j ≠ b + 4 → w5 j = w j := fun j h90 => by rw [hw6]; exact mm_un h90
        have fa6_0 : w5 (b + 4) = some (.inl (cI, 256, .inl (fun i => nI ((dm_run (ru_M N S t9) 257 (fun _ => 1000)) i)))) := by rw [hw6]; exact mm_us _ _ _
        rw [me_V_eq S t9 hR] at fa6_0
        refine lv_aload_n hx hb d_X_cost_28 rfl (lv_at hl 0 rfl) ?_
        have f7 := (fr6 _ (by omega)).trans (x0)
        refine mm_get (D := D) (C := n_X) (T := T_X) (N := 4) (v := .ref (b + 3)) hx hb hts lay_X hown hK.1 hP f7 rfl 1 (by decide) (hts _ (List.mem_cons_of_mem _ wd_133)) (fun _ h9 => h9) rfl d_X_cost_29 ?_
        refine lv_iload_n hx hb d_X_cost_32 rfl (lv_at hl 1 rfl) ?_
        refine lv_iload_n hx hb d_X_cost_33 rfl (lv_at hl 2 rfl) ?_
        have f8 := (fr6 _ (by omega)).trans (x3)
        refine vp_callSi (va_Run.run (va_runV (As := [.int (nI n9), .int (nI y9)]) (rest := []) ⟨hx, hb, hml, hown, hts⟩ (c_Mea_ofSubject l f8 fa6_0 (by omega) (by omega) (me_V_le N S t9)) (cwV 2 hts (gW_in (hd := [_, _, _, _, _]) (kk_5 wd_344 wd_330 wd_331 wd_3 cw_Mea_ofSubject)) rfl rfl rfl ⟨rfl, ds_Mea_ofSubject⟩ ⟨Nat.le_of_ble_eq_true rfl, Nat.le_of_ble_eq_true rfl⟩) (kk_preV hK hP hz hBz f8 rfl) rfl rfl hl.1 rfl (lv_room (Nat.le_of_ble_eq_true rfl)) d_X_cost_34 ⟨Nat.le_of_ble_eq_true rfl, Nat.le_of_ble_eq_true rfl⟩)) (fun r9 hr9 => ?_)
        subst hr9
        have hq2 := dm_ofs_le (me_V_le N S t9) n9 y9
        refine vp_callSi (va_Run.run (va_runS (As := [.int (nI (dm_ofs (me_V N S t9) n9 y9))]) (rest := []) ⟨hx, hb, hml, hown, hts⟩ (c_X_costOrNone l (by omega)) (va_cwS 1 hts (gW_in (hd := [_, _, _, _]) (kk_4 wd_349 wd_350 wd_1 cw_X_costOrNone)) rfl rfl rfl ds_X_costOrNone ⟨Nat.le_of_ble_eq_true rfl, Nat.le_of_ble_eq_true rfl⟩) (kk_preS hK hP hz hBz) rfl rfl hl.1 rfl (lv_room (Nat.le_of_ble_eq_true rfl)) d_X_cost_37 ⟨Nat.le_of_ble_eq_true rfl, Nat.le_of_ble_eq_true rfl⟩)) (fun r10 hr10 => ?_)
        subst hr10
        exact W.iret hx hb hr (fun t ht hW => ⟨⟨_, (w5, sz), rfl, ⟨(co_r_pos hok (by omega) (by omega)).symm, ⟨va_up T 0 (me_V N S t9), U, ad, ⟨hRe.keep (fun i9 hi9 => fr6 i9 (by rcases hi9 with h | h | ⟨c9, h, h8, h7⟩ <;> (try have := (hLa c9 h).1) <;> omega)), f7, f8, fa6_0, ((fr6 _ (by omega)).trans (x5)), ((fr6 _ (by omega)).trans (x6)), ((fr6 _ (by omega)).trans (x7)), ((fr6 _ (by omega)).trans (x8)), ((fr6 _ (by omega)).trans (x9)), ((fr6 _ (by omega)).trans (x10)), ((fr6 _ (by omega)).trans (x11)), ((fr6 _ (by omega)).trans (x12)), ((fr6 _ (by omega)).trans (x13))⟩, hXr, hLa⟩, (fun j hj1 hj2 => fr6 j (by omega)), rfl⟩, by rw [ht]; exact hP, by rw [ht]; exact hz⟩, hS.F ht⟩) hS.2.2 d_X_cost_40
      · have cc4 := kk_b0 cc4
        exact absurd hok.2 cc4
  · refine lv_iload_n hx hb d_X_cost_0 rfl (lv_at hl 1 rfl) ?_
    refine vp_callSi (va_Run.run (va_runS (As := [.int sr]) (rest := []) ⟨hx, hb, hml, hown, hts⟩ (c_X_isSubject l ) (va_cwS 1 hts (gW_in (hd := [_, _, _, _]) (kk_4 wd_152 wd_153 wd_1 cw_X_isSubject)) rfl rfl rfl ds_X_isSubject ⟨Nat.le_of_ble_eq_true rfl, Nat.le_of_ble_eq_true rfl⟩) (kk_preS hK hP hz hBz) rfl rfl hl.1 rfl (lv_room (Nat.le_of_ble_eq_true rfl)) d_X_cost_1 ⟨Nat.le_of_ble_eq_true rfl, Nat.le_of_ble_eq_true rfl⟩)) (fun r11 hr11 => ?_)
    subst hr11
    refine lv_if_eq (tgt := 14) hx hb d_X_cost_4 (by decide) (fun cc12 => ?_) (fun cc12 => ?_)
    · have cc12 := kk_b0 cc12
      refine lv_iconst (v := (-1)) hx hb d_X_cost_14 (by decide) ?_
      exact W.iret hx hb hr (fun t ht hW => ⟨⟨_, (w, sz), rfl, ⟨(if_neg hok).symm, ⟨T, U, ad, ⟨hRe, x0, x3, x4, x5, x6, x7, x8, x9, x10, x11, x12, x13⟩, hXr, hLa⟩, (fun j hj1 hj2 => rfl), rfl⟩, by rw [ht]; exact hP, by rw [ht]; exact hz⟩, hS.F ht⟩) hS.2.2 d_X_cost_15
    · have cc12 := kk_b1 cc12
      refine lv_iload_n hx hb d_X_cost_7 rfl (lv_at hl 2 rfl) ?_
      refine vp_callSi (va_Run.run (va_runS (As := [.int kr]) (rest := []) ⟨hx, hb, hml, hown, hts⟩ (c_X_isKey l ) (va_cwS 1 hts (gW_in (hd := [_, _, _, _]) (kk_4 wd_149 wd_150 wd_1 cw_X_isKey)) rfl rfl rfl ds_X_isKey ⟨Nat.le_of_ble_eq_true rfl, Nat.le_of_ble_eq_true rfl⟩) (kk_preS hK hP hz hBz) rfl rfl hl.1 rfl (lv_room (Nat.le_of_ble_eq_true rfl)) d_X_cost_8 ⟨Nat.le_of_ble_eq_true rfl, Nat.le_of_ble_eq_true rfl⟩)) (fun r13 hr13 => ?_)
      subst hr13
      refine lv_if_ne (tgt := 16) hx hb d_X_cost_11 (by decide) (fun cc14 => ?_) (fun cc14 => ?_)
      · have cc14 := kk_b1 cc14
        exact absurd ⟨cc12, cc14⟩ hok
      · have cc14 := kk_b0 cc14
        refine lv_iconst (v := (-1)) hx hb d_X_cost_14 (by decide) ?_
        exact W.iret hx hb hr (fun t ht hW => ⟨⟨_, (w, sz), rfl, ⟨(if_neg hok).symm, ⟨T, U, ad, ⟨hRe, x0, x3, x4, x5, x6, x7, x8, x9, x10, x11, x12, x13⟩, hXr, hLa⟩, (fun j hj1 hj2 => rfl), rfl⟩, by rw [ht]; exact hP, by rw [ht]; exact hz⟩, hS.F ht⟩) hS.2.2 d_X_cost_15
