-- ranges are kept
def z7_I (N : Nat → Nat → Nat) : Prop := ∀ k, 3 * N 0 0 ≤ k → N 7 k = 0
theorem rg_cm {N : Nat → Nat → Nat} {z is su nm dl : Nat} (hR : rg_I N) (h7 : z7_I N) (hz : z ≤ 1) (his : is ≤ 8) (hz7 : z = 1 → is ≤ 7) (hsu : wf_subn su) (hnm : nm ≤ 3) (hdl : dl ≤ 1) : rg_I (cm_N N z is su nm dl) := by
  intro j hj
  have hj : j < N 0 0 + 1 := hj
  by_cases e : j = N 0 0
  · subst e
    have e1 : cm_N N z is su nm dl 1 (N 0 0) = 0 := if_pos rfl
    have e2 : cm_N N z is su nm dl 2 (N 0 0) = z := if_pos rfl
    have e3 : cm_N N z is su nm dl 3 (N 0 0) = is := if_pos rfl
    have e4 : cm_N N z is su nm dl 4 (N 0 0) = nm := if_pos rfl
    have e8 : cm_N N z is su nm dl 8 (N 0 0) = 1 := if_pos rfl
    have e9 : cm_N N z is su nm dl 9 (N 0 0) = 1 := if_pos rfl
    have e10 : cm_N N z is su nm dl 10 (N 0 0) = 255 := if_pos rfl
    have e13 : cm_N N z is su nm dl 13 (N 0 0) = dl := if_pos rfl
    rw [e1, e2, e3, e4, e8, e9, e10, e13]
    refine ⟨by omega, hz, his, hz7, hnm, fun i hi => ?_, by omega, by omega, by omega, by omega, by omega, hdl⟩
    by_cases e7 : i = 0
    · subst e7
      rw [show cm_N N z is su nm dl 7 (3 * N 0 0 + 0) = su from if_pos rfl]
      exact hsu
    · rw [show cm_N N z is su nm dl 7 (3 * N 0 0 + i) = N 7 (3 * N 0 0 + i) from if_neg (by omega), h7 _ (by omega)]
      exact ⟨by omega, Or.inr (by omega)⟩
  · have hj2 : j < N 0 0 := by omega
    have h := hR j hj2
    have e1 : cm_N N z is su nm dl 1 j = N 1 j := if_neg e
    have e2 : cm_N N z is su nm dl 2 j = N 2 j := if_neg e
    have e3 : cm_N N z is su nm dl 3 j = N 3 j := if_neg e
    have e4 : cm_N N z is su nm dl 4 j = N 4 j := if_neg e
    have e8 : cm_N N z is su nm dl 8 j = N 8 j := if_neg e
    have e9 : cm_N N z is su nm dl 9 j = N 9 j := if_neg e
    have e10 : cm_N N z is su nm dl 10 j = N 10 j := if_neg e
    have e13 : cm_N N z is su nm dl 13 j = N 13 j := if_neg e
    rw [e1, e2, e3, e4, e8, e9, e10, e13]
    refine ⟨h.1, h.2.1, h.2.2.1, h.2.2.2.1, h.2.2.2.2.1, fun i hi => ?_, h.2.2.2.2.2.2⟩
    rw [show cm_N N z is su nm dl 7 (3 * j + i) = N 7 (3 * j + i) from if_neg (by omega)]
    exact h.2.2.2.2.2.1 i hi
theorem z7_cm {N : Nat → Nat → Nat} {z is su nm dl : Nat} (h7 : z7_I N) : z7_I (cm_N N z is su nm dl) := by
  intro k hk
  have hk : 3 * (N 0 0 + 1) ≤ k := hk
  rw [show cm_N N z is su nm dl 7 k = N 7 k from if_neg (by omega)]
  exact h7 k (by omega)
theorem rg_tg {N : Nat → Nat → Nat} {c o lo hi : Int32} (hR : rg_I N) : rg_I (tg_N N c o lo hi) := by
  unfold tg_N
  split
  · rename_i h
    obtain ⟨q, hq, rfl⟩ := kk_lim_of h.2.1 (by decide)
    intro j hj
    have g := hR j hj
    refine ⟨g.1, g.2.1, g.2.2.1, g.2.2.2.1, g.2.2.2.2.1, g.2.2.2.2.2.1, g.2.2.2.2.2.2.1, g.2.2.2.2.2.2.2.1, g.2.2.2.2.2.2.2.2.1, g.2.2.2.2.2.2.2.2.2.1, ?_, g.2.2.2.2.2.2.2.2.2.2.2⟩
    show (if j = c.toNatClampNeg then (nI q).toNatClampNeg else N 10 j) < 256
    rw [nI_clamp (by omega)]
    split
    · exact hq
    · exact g.2.2.2.2.2.2.2.2.2.2.1
  · exact hR
theorem rg_rv {N : Nat → Nat → Nat} {c : Int32} (hR : rg_I N) : rg_I (rv_N N c) := by
  unfold rv_N
  split
  · intro j hj
    have g := hR j hj
    refine ⟨?_, g.2⟩
    show (if j = c.toNatClampNeg then 1 else N 1 j) ≤ 1
    split
    · omega
    · exact g.1
  · exact hR
theorem rg_qu {N : Nat → Nat → Nat} {c k : Int32} (hn : N 0 0 ≤ 24) (hR : rg_I N) : rg_I (qu_N N c k) := by
  unfold qu_N
  split
  · rename_i h
    obtain ⟨i, hi, rfl⟩ := re_in hn h.1.1.1
    have gi := hR i hi
    have h3 := h.2.2
    rw [nI_clamp (by omega)] at h3
    obtain ⟨q, hq1, hq2, rfl⟩ := kk_rng h.2.1 (Int32.not_lt.mp h3) (by decide) (by omega)
    intro j hj
    have g := hR j hj
    have e : va_up N 9 (va_up (N 9) (nI i).toNatClampNeg (nI q).toNatClampNeg) 9 j = if j = i then q else N 9 j := by
      rw [nI_clamp (by omega), nI_clamp (by omega)]
      rfl
    refine ⟨g.1, g.2.1, g.2.2.1, g.2.2.2.1, g.2.2.2.2.1, g.2.2.2.2.2.1, g.2.2.2.2.2.2.1, g.2.2.2.2.2.2.2.1, ?_, ?_, g.2.2.2.2.2.2.2.2.2.2⟩
    · rw [e]
      split
      · omega
      · exact g.2.2.2.2.2.2.2.2.1
    · rw [e]
      show (if j = i then q else N 9 j) ≤ N 8 j
      split
      · rename_i e2
        subst e2
        exact hq2
      · exact g.2.2.2.2.2.2.2.2.2.1
  · exact hR
