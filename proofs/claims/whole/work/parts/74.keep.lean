theorem rg_al {N : Nat → Nat → Nat} {c su : Int32} (hn : N 0 0 ≤ 24) (hR : rg_I N) : rg_I (al_N N c su) := by
  by_cases h : al_ok N c su
  · obtain ⟨i, hi, rfl⟩ := re_in hn h.1.1.1
    obtain ⟨q, rfl, hq⟩ := wf_sub_of h.2.1
    have hq2 := hq.1
    have h3 := h.2.2
    rw [nI_clamp (by omega)] at h3
    rw [al_N_pos (by omega) (by omega) h]
    intro j hj
    have g := hR j hj
    have e8 : va_up (va_up N 7 (va_up (N 7) (3 * i + N 8 i) q)) 8 (va_up (N 8) i (N 8 i + 1)) 8 j = if j = i then N 8 i + 1 else N 8 j := rfl
    have e7 : ∀ k, va_up (va_up N 7 (va_up (N 7) (3 * i + N 8 i) q)) 8 (va_up (N 8) i (N 8 i + 1)) 7 k = if k = 3 * i + N 8 i then q else N 7 k := fun k => rfl
    refine ⟨g.1, g.2.1, g.2.2.1, g.2.2.2.1, g.2.2.2.2.1, fun k hk => ?_, ?_, ?_, g.2.2.2.2.2.2.2.2.1, ?_, g.2.2.2.2.2.2.2.2.2.2⟩
    · rw [e7]
      split
      · exact hq
      · exact g.2.2.2.2.2.1 k hk
    · rw [e8]
      have := g.2.2.2.2.2.2.1
      split <;> omega
    · rw [e8]
      have := g.2.2.2.2.2.2.2.1
      split <;> omega
    · have g10 := g.2.2.2.2.2.2.2.2.2.1
      show N 9 j ≤ _
      rw [e8]
      split
      · rename_i e; rw [e] at g10 ⊢; omega
      · exact g10
  · rw [show al_N N c su = N from if_neg h]
    exact hR
theorem z7_al {N : Nat → Nat → Nat} {c su : Int32} (hn : N 0 0 ≤ 24) (h7 : z7_I N) : z7_I (al_N N c su) := by
  by_cases h : al_ok N c su
  · obtain ⟨i, hi, rfl⟩ := re_in hn h.1.1.1
    obtain ⟨q, rfl, hq⟩ := wf_sub_of h.2.1
    have hq2 := hq.1
    have h3 := h.2.2
    rw [nI_clamp (by omega)] at h3
    rw [al_N_pos (by omega) (by omega) h]
    intro k hk
    have hk : 3 * N 0 0 ≤ k := hk
    show (if k = 3 * i + N 8 i then q else N 7 k) = 0
    rw [if_neg (by omega)]
    exact h7 k hk
  · rw [show al_N N c su = N from if_neg h]
    exact h7
theorem ch_be {N : Nat → Nat → Nat} {c : Int32} (hn : N 0 0 ≤ 24) (hR : rg_I N) (hC : ch_I N) : ch_I (be_N N c) := by
  by_cases h : be_ok N c
  · obtain ⟨i, hi, rfl⟩ := re_in hn h.1.1.1
    rw [be_N_pos (by omega) h]
    have g := hR i hi
    have hs : wf_subn (N 7 (3 * i)) := g.2.2.2.2.2.1 0 (by omega)
    have ha := ch_a_le (N 7 (3 * i))
    refine ⟨Nat.le_refl 1, ?_, ?_, ?_, ?_, ?_, ch_put3 hC.2.2.2.2.2.2 hs.1 _ _⟩
    · show N 7 (3 * i) % 8 ≤ 7
      omega
    · show 0 + ch_a (N 7 (3 * i)) ≤ 4
      omega
    · show N 10 i < 256
      omega
    · show 1 < 2 ^ 20
      decide
    · show N 13 i ≤ 1
      omega
  · rw [show be_N N c = N from if_neg h]
    exact hC
theorem ch_dr3 {g : Nat → Nat} (hg : ∀ j, g j ≤ 3) (p : Nat) : ∀ j, ch_dr g p j ≤ 3 := fun j => by
  unfold ch_dr
  split
  · exact hg _
  · exact hg _
theorem ch_fo {N : Nat → Nat → Nat} {c : Int32} (hn : N 0 0 ≤ 24) (hR : rg_I N) (hC : ch_I N) (hu : N 25 0 + 1 < 2 ^ 20) : ch_I (fo_N N c) := by
  by_cases h : fo_ok N c
  · obtain ⟨i, hi, rfl⟩ := re_in hn h.2.1.1
    have g := hR i hi
    have hs : wf_subn (N 7 (3 * i)) := g.2.2.2.2.2.1 0 (by omega)
    have ha := ch_a_le (N 7 (3 * i))
    have hft : ft_ok N i := by have h9 := h.2.2; rw [nI_clamp (by omega)] at h9; exact h9
    by_cases h2 : N 2 i = 0
    · rw [fo_N_prm (by omega) h h2]
      refine ⟨hC.1, ?_, ?_, ?_, hu, ?_, ch_put3 hC.2.2.2.2.2.2 hs.1 _ _⟩
      · show N 7 (3 * i) % 8 ≤ 7
        omega
      · show N 18 0 + ch_a (N 7 (3 * i)) ≤ 4
        omega
      · show N 20 0 &&& N 10 i < 256
        exact bt_land_lt (by omega)
      · show N 13 i ≤ 1
        omega
    · rw [fo_N_nam (by omega) h h2]
      refine ⟨hC.1, ?_, ?_, hC.2.2.2.1, hu, hC.2.2.2.2.2.1, ch_put3 (ch_dr3 hC.2.2.2.2.2.2 _) hs.1 _ _⟩
      · show N 7 (3 * i) % 8 ≤ 7
        omega
      · show N 18 0 - 1 + ch_a (N 7 (3 * i)) ≤ 4
        omega
  · rw [show fo_N N c = N from if_neg h]
    exact hC
