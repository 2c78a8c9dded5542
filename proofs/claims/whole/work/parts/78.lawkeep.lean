-- what the law's loop keeps
theorem xs_keep {b sz : Nat} {cI cZ cQ : ClassId} {N : Nat → Nat → Nat} {S : Nat → Nat → Int32} {w w' : mm_M} (h : xs_I b cI cZ cQ sz N S w) (hk : ∀ j, ¬ (b + 14 ≤ j ∧ j < b + 31) → w' j = w j) : xs_I b cI cZ cQ sz N S w' := by
  obtain ⟨T, U, ad, ⟨h0, h1, h2, h3, h4, h5, h6, h7, h8, h9, h10, h11, h12⟩, hr, hla⟩ := h
  have g : ∀ j, j < b + 14 → w' j = w j := fun j hj => hk j (by omega)
  refine ⟨T, U, ad, ⟨h0.keep (fun j hj => hk j ?_), (g _ (by omega)).trans h1, (g _ (by omega)).trans h2, (g _ (by omega)).trans h3, (g _ (by omega)).trans h4, (g _ (by omega)).trans h5, (g _ (by omega)).trans h6, (g _ (by omega)).trans h7, (g _ (by omega)).trans h8, (g _ (by omega)).trans h9, (g _ (by omega)).trans h10, (g _ (by omega)).trans h11, (g _ (by omega)).trans h12⟩, hr, hla⟩
  rintro ⟨q1, q2⟩
  rcases hj with e | e | ⟨c, hc, e1, e2⟩
  · omega
  · omega
  · have := (hla c hc).1
    omega
theorem xs_14 {b sz : Nat} {cI cZ cQ : ClassId} {N : Nat → Nat → Nat} {S : Nat → Nat → Int32} {w : mm_M} (a1 : Nat → Nat) (h : xs_I b cI cZ cQ sz N S w) : xs_I b cI cZ cQ sz (va_up N 14 a1) S w := by
  obtain ⟨T, U, ad, h1, h2, h3⟩ := h
  exact ⟨T, U, ad, h1, h2, h3⟩
theorem xs_15 {b sz : Nat} {cI cZ cQ : ClassId} {N : Nat → Nat → Nat} {S : Nat → Nat → Int32} {w : mm_M} (a1 : Nat → Nat) (h : xs_I b cI cZ cQ sz N S w) : xs_I b cI cZ cQ sz (va_up N 15 a1) S w := by
  obtain ⟨T, U, ad, h1, h2, h3⟩ := h
  exact ⟨T, U, ad, h1, h2, h3⟩
theorem xs_me {b sz : Nat} {cI cZ cQ : ClassId} {N : Nat → Nat → Nat} {S : Nat → Nat → Int32} {w : mm_M} (su t : Int32) (h : xs_I b cI cZ cQ sz N S w) : xs_I b cI cZ cQ sz (me_N N S su t) S w := by
  unfold me_N
  split
  · exact xs_14 _ h
  · exact h
theorem xs_co {b sz : Nat} {cI cZ cQ : ClassId} {N : Nat → Nat → Nat} {S : Nat → Nat → Int32} {w : mm_M} (su ky t : Int32) (h : xs_I b cI cZ cQ sz N S w) : xs_I b cI cZ cQ sz (co_N N S su ky t) S w := by
  unfold co_N
  split
  · exact xs_14 _ h
  · exact h
theorem xs_ma {b sz : Nat} {cI cZ cQ : ClassId} {N : Nat → Nat → Nat} {S : Nat → Nat → Int32} {w : mm_M} (ky op z t : Int32) (h : xs_I b cI cZ cQ sz N S w) : xs_I b cI cZ cQ sz (ma_N N S ky op z t) S w := by
  unfold ma_N
  split
  · exact xs_15 _ (xs_14 _ h)
  · exact h
/-- the numbers' ranges, after k9 calls -/
def lw_G (k9 : Nat) (N : Nat → Nat → Nat) : Prop := rg_I N ∧ ch_I N ∧ z7_I N ∧ N 0 0 ≤ 24 ∧ N 25 0 ≤ k9
theorem lw_G.up {k9 : Nat} {N : Nat → Nat → Nat} (h : lw_G k9 N) : lw_G (k9 + 1) N := ⟨h.1, h.2.1, h.2.2.1, h.2.2.2.1, Nat.le_succ_of_le h.2.2.2.2⟩
theorem lw_G.f14 {k9 : Nat} {N : Nat → Nat → Nat} (a1 : Nat → Nat) (h : lw_G k9 N) : lw_G k9 (va_up N 14 a1) := ⟨h.1, h.2.1, h.2.2.1, h.2.2.2.1, h.2.2.2.2⟩
theorem lw_G.f15 {k9 : Nat} {N : Nat → Nat → Nat} (a1 : Nat → Nat) (h : lw_G k9 N) : lw_G k9 (va_up N 15 a1) := ⟨h.1, h.2.1, h.2.2.1, h.2.2.2.1, h.2.2.2.2⟩
theorem lw_G.me {k9 : Nat} {N : Nat → Nat → Nat} {S : Nat → Nat → Int32} (su t : Int32) (h : lw_G k9 N) : lw_G (k9 + 1) (me_N N S su t) := by
  unfold me_N
  split
  · exact h.up.f14 _
  · exact h.up
theorem lw_G.co {k9 : Nat} {N : Nat → Nat → Nat} {S : Nat → Nat → Int32} (su ky t : Int32) (h : lw_G k9 N) : lw_G (k9 + 1) (co_N N S su ky t) := by
  unfold co_N
  split
  · exact h.up.f14 _
  · exact h.up
theorem lw_G.ma {k9 : Nat} {N : Nat → Nat → Nat} {S : Nat → Nat → Int32} (ky op z t : Int32) (h : lw_G k9 N) : lw_G (k9 + 1) (ma_N N S ky op z t) := by
  unfold ma_N
  split
  · exact (h.up.f14 _).f15 _
  · exact h.up
theorem lw_G.ho {k9 : Nat} {N : Nat → Nat → Nat} (a1 b1 : Nat → Nat) (h : lw_G k9 N) : lw_G (k9 + 1) (va_up (va_up N 14 a1) 15 b1) := (h.up.f14 _).f15 _
theorem lw_G.cm {k9 : Nat} {N : Nat → Nat → Nat} {z is su nm dl : Nat} (h : lw_G k9 N) (hz : z ≤ 1) (his : is ≤ 8) (hz7 : z = 1 → is ≤ 7) (hsu : wf_subn su) (hnm : nm ≤ 3) (hdl : dl ≤ 1) (hf : ¬ 24 ≤ N 0 0) : lw_G (k9 + 1) (cm_N N z is su nm dl) := by
  obtain ⟨hR, hC, h7, hn, hu⟩ := h
  refine ⟨rg_cm hR h7 hz his hz7 hsu hnm hdl, hC, z7_cm h7, ?_, ?_⟩
  · show N 0 0 + 1 ≤ 24
    omega
  · show N 25 0 ≤ k9 + 1
    omega
theorem lw_G.na {k9 : Nat} {N : Nat → Nat → Nat} (ir mr sr : Int32) (h : lw_G k9 N) : lw_G (k9 + 1) (na_N N ir mr sr) := by
  by_cases ho : na_ok N ir mr sr
  · obtain ⟨i, hi, rfl⟩ := kk_lim_of ho.1 (by decide)
    obtain ⟨j, hj, rfl⟩ := kk_lim_of ho.2.1 (by decide)
    obtain ⟨q, rfl, hq⟩ := wf_sub_of ho.2.2.1
    have hq1 := hq.1
    rw [na_N_pos (by omega) (by omega) (by omega) ho]
    exact h.cm (by omega) (by omega) (fun _ => by omega) hq (by omega) (by omega) ho.2.2.2
  · rw [show na_N N ir mr sr = N from if_neg ho]
    exact h.up
theorem lw_G.pe {k9 : Nat} {N : Nat → Nat → Nat} (ir sr : Int32) {dl : Nat} (hdl : dl ≤ 1) (h : lw_G k9 N) : lw_G (k9 + 1) (pe_N N ir sr (nI dl)) := by
  by_cases ho : pe_ok N ir sr
  · obtain ⟨i, hi, rfl⟩ := kk_lim_of ho.1 (by decide)
    obtain ⟨q, rfl, hq⟩ := wf_sub_of ho.2.1
    have hq1 := hq.1
    rw [pe_N_pos (by omega) (by omega) (by omega) ho]
    exact h.cm (by omega) (by omega) (fun e => by omega) hq (by omega) hdl ho.2.2
  · rw [show pe_N N ir sr (nI dl) = N from if_neg ho]
    exact h.up
theorem lw_G.tg {k9 : Nat} {N : Nat → Nat → Nat} (c o lo hi : Int32) (h : lw_G k9 N) : lw_G (k9 + 1) (tg_N N c o lo hi) := by
  obtain ⟨hR, hC, h7, hn, hu⟩ := h.up
  have hR2 := rg_tg (c := c) (o := o) (lo := lo) (hi := hi) hR
  unfold tg_N at hR2 ⊢
  split
  · rename_i ho
    rw [if_pos ho] at hR2
    exact ⟨hR2, hC, h7, hn, hu⟩
  · exact ⟨hR, hC, h7, hn, hu⟩
theorem lw_G.al {k9 : Nat} {N : Nat → Nat → Nat} (c su : Int32) (h : lw_G k9 N) : lw_G (k9 + 1) (al_N N c su) := by
  obtain ⟨hR, hC, h7, hn, hu⟩ := h.up
  have hR2 := rg_al (c := c) (su := su) hn hR
  have h72 := z7_al (c := c) (su := su) hn h7
  unfold al_N at hR2 h72 ⊢
  split
  · rename_i ho
    rw [if_pos ho] at hR2 h72
    exact ⟨hR2, hC, h72, hn, hu⟩
  · exact ⟨hR, hC, h7, hn, hu⟩
theorem lw_G.qu {k9 : Nat} {N : Nat → Nat → Nat} (c k : Int32) (h : lw_G k9 N) : lw_G (k9 + 1) (qu_N N c k) := by
  obtain ⟨hR, hC, h7, hn, hu⟩ := h.up
  have hR2 := rg_qu (c := c) (k := k) hn hR
  unfold qu_N at hR2 ⊢
  split
  · rename_i ho
    rw [if_pos ho] at hR2
    exact ⟨hR2, hC, h7, hn, hu⟩
  · exact ⟨hR, hC, h7, hn, hu⟩
theorem lw_G.rv {k9 : Nat} {N : Nat → Nat → Nat} (c : Int32) (h : lw_G k9 N) : lw_G (k9 + 1) (rv_N N c) := by
  obtain ⟨hR, hC, h7, hn, hu⟩ := h.up
  have hR2 := rg_rv (c := c) hR
  unfold rv_N at hR2 ⊢
  split
  · rename_i ho
    rw [if_pos ho] at hR2
    exact ⟨hR2, hC, h7, hn, hu⟩
  · exact ⟨hR, hC, h7, hn, hu⟩
theorem lw_G.be {k9 : Nat} {N : Nat → Nat → Nat} (c : Int32) (h : lw_G k9 N) : lw_G (k9 + 1) (be_N N c) := by
  obtain ⟨hR, hC, h7, hn, hu⟩ := h.up
  have hC2 := ch_be (c := c) hn hR hC
  unfold be_N at hC2 ⊢
  split
  · rename_i ho
    rw [if_pos ho] at hC2
    refine ⟨hR, hC2, h7, hn, ?_⟩
    show 1 ≤ k9 + 1
    omega
  · exact ⟨hR, hC, h7, hn, hu⟩
theorem lw_G.fo {k9 : Nat} {N : Nat → Nat → Nat} (hk : k9 ≤ 1000) (c : Int32) (h : lw_G k9 N) : lw_G (k9 + 1) (fo_N N c) := by
  obtain ⟨hR, hC, h7, hn, hu⟩ := h
  have hC2 := ch_fo (c := c) hn hR hC (by omega)
  by_cases ho : fo_ok N c
  · have e : fo_N N c = f1_N (pl_N (if N 2 c.toNatClampNeg = 0 then f0_N N c.toNatClampNeg else dr_N N) (N 7 (3 * c.toNatClampNeg))) := if_pos ho
    rw [e] at hC2 ⊢
    by_cases h2 : N 2 c.toNatClampNeg = 0
    · rw [if_pos h2] at hC2 ⊢
      exact ⟨hR, hC2, h7, hn, Nat.succ_le_succ hu⟩
    · rw [if_neg h2] at hC2 ⊢
      exact ⟨hR, hC2, h7, hn, Nat.succ_le_succ hu⟩
  · rw [show fo_N N c = N from if_neg ho]
    exact ⟨hR, hC, h7, hn, by omega⟩
/-- both sides hold the same numbers -/
def lw_J (b : Nat) (cI cZ cQ : ClassId) (k9 sz : Nat) (N : Nat → Nat → Nat) (S : Nat → Nat → Int32) (w : mm_M) : Prop := xs_I b cI cZ cQ sz N S w ∧ mo_I b cI cZ N S w ∧ b + 31 ≤ sz ∧ lw_G k9 N
theorem lw_le {L a : Nat} (hL : L ≤ 3072) (ha : a ≤ 4000) (h : ¬ nI L - nI 6 < nI a) : a + 6 ≤ L := by
  rw [Int32.lt_iff_toInt_lt, pk_sub_toInt (by omega) (by omega), nI_toInt (by omega)] at h
  omega
theorem lw_six (k9 : Nat) : nI (6 * k9) + Int32.ofInt 6 = nI (6 * (k9 + 1)) := by
  have e6 : Int32.ofInt 6 = nI 6 := by decide
  rw [e6, nI_add]
  rfl
theorem lw_vin {a L : Nat} (ha : a < L) (hL : L ≤ 3072) : vp_in (nI a) L := by
  rintro (h | h)
  · exact nI_pos (by omega) h
  · rw [nI_clamp (by omega)] at h
    omega
