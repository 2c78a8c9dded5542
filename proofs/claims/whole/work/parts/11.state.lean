-- the reference's cells: N: its numbers, S: its times and ranges; field k's array lies at b + 14 + k, the chain's names at b + 30
def mo_fs (b : Nat) (N : Nat → Nat → Nat) (S : Nat → Nat → Int32) : List Value := [.int (nI (N 0 0)), .ref (b + 15), .ref (b + 16), .ref (b + 17), .ref (b + 18), .ref (b + 19), .ref (b + 20), .ref (b + 21), .ref (b + 22), .ref (b + 23), .ref (b + 24), .ref (b + 25), .ref (b + 26), .ref (b + 27), .ref (b + 28), .ref (b + 29), .int (nI (N 16 0)), .int (nI (N 17 0)), .int (nI (N 18 0)), .ref (b + 30), .int (nI (N 20 0)), .int (S 21 0), .int (S 22 0), .int (S 23 0), .int (S 24 0), .int (nI (N 25 0)), .int (nI (N 26 0))]
def mo_A (cI cZ : ClassId) (N : Nat → Nat → Nat) (S : Nat → Nat → Int32) (k : Nat) : va_E := match k with
  | 1 => .inl (cZ, 24, .inl (fun i => nI (N 1 i)))
  | 2 => .inl (cZ, 24, .inl (fun i => nI (N 2 i)))
  | 5 => .inl (cI, 24, .inl (S 5))
  | 6 => .inl (cI, 24, .inl (S 6))
  | 7 => .inl (cI, 72, .inl (fun i => nI (N 7 i)))
  | 11 => .inl (cI, 24, .inl (S 11))
  | 12 => .inl (cI, 24, .inl (S 12))
  | 13 => .inl (cZ, 24, .inl (fun i => nI (N 13 i)))
  | 14 => .inl (cI, 256, .inl (fun i => nI (N 14 i)))
  | 16 => .inl (cI, 5, .inl (fun i => nI (N 19 i)))
  | k => .inl (cI, 24, .inl (fun i => nI (N k i)))
def mo_I (b : Nat) (cI cZ : ClassId) (N : Nat → Nat → Nat) (S : Nat → Nat → Int32) (w : mm_M) : Prop :=
  w (b + 14) = some (.inr (9, mo_fs b N S)) ∧ ∀ k, 1 ≤ k → k ≤ 16 → w (b + 14 + k) = some (mo_A cI cZ N S k)
theorem mo_I.keep {b : Nat} {cI cZ : ClassId} {N : Nat → Nat → Nat} {S : Nat → Nat → Int32} {w w' : mm_M} (h : mo_I b cI cZ N S w) (hk : ∀ j, b + 14 ≤ j → j < b + 31 → w' j = w j) : mo_I b cI cZ N S w' :=
  ⟨(hk _ (by omega) (by omega)).trans h.1, fun k h1 h2 => (hk _ (by omega) (by omega)).trans (h.2 k h1 h2)⟩
-- the class's cells: certificate j at ad j, with the reference's numbers in its fields
def ce_sub (N : Nat → Nat → Nat) (j i : Nat) : Nat := if i < 3 then N 7 (3 * j + i) else 0
def ce_nam (N : Nat → Nat → Nat) (S : Nat → Nat → Int32) (w : mm_M) (a j : Nat) : Prop :=
  w a = some (.inr (7, [.int (nI (N 3 j)), .ref (a + 1), .int (nI (N 1 j)), .int (nI (N 4 j)), .int (nI (N 7 (3 * j)))])) ∧ w (a + 1) = some (.inr (6, [.int (S 5 j), .int (S 6 j)]))
def ce_prm (cI : ClassId) (N : Nat → Nat → Nat) (S : Nat → Nat → Int32) (w : mm_M) (a j : Nat) : Prop :=
  w a = some (.inr (8, [.int (nI (N 3 j)), .ref (a + 1), .int (nI (N 1 j)), .ref (a + 2), .ref (a + 3), .int (nI (N 13 j)), .int (nI (N 8 j)), .int (nI (N 9 j))])) ∧ w (a + 1) = some (.inr (6, [.int (S 5 j), .int (S 6 j)])) ∧ w (a + 2) = some (.inl (cI, 3, .inl (fun i => nI (ce_sub N j i)))) ∧ w (a + 3) = some (.inr (5, [.int (nI (N 10 j)), .ref (a + 4)])) ∧ w (a + 4) = some (.inr (6, [.int (S 11 j), .int (S 12 j)]))
def ce_I (cI : ClassId) (N : Nat → Nat → Nat) (S : Nat → Nat → Int32) (ad : Nat → Nat) (w : mm_M) (j : Nat) : Prop :=
  (N 2 j = 1 ∧ ce_nam N S w (ad j) j) ∨ (N 2 j = 0 ∧ ce_prm cI N S w (ad j) j)
def re_I (a : Nat) (cI cQ : ClassId) (N : Nat → Nat → Nat) (S : Nat → Nat → Int32) (ad : Nat → Nat) (w : mm_M) : Prop :=
  w a = some (.inr (1, [.ref (a + 1), .int (nI (N 0 0))])) ∧ w (a + 1) = some (.inl (cQ, 24, .inr (.inr (.inr (.inr (fun i => if i < N 0 0 then some (ad i) else none)))))) ∧ N 0 0 ≤ 24 ∧ ∀ j, j < N 0 0 → ce_I cI N S ad w j
-- ranges
def rg_I (N : Nat → Nat → Nat) : Prop := ∀ j, j < N 0 0 → N 1 j ≤ 1 ∧ N 2 j ≤ 1 ∧ N 3 j ≤ 8 ∧ (N 2 j = 1 → N 3 j ≤ 7) ∧ N 4 j ≤ 3 ∧ (∀ i, i < 3 → wf_subn (N 7 (3 * j + i))) ∧ 1 ≤ N 8 j ∧ N 8 j ≤ 3 ∧ 1 ≤ N 9 j ∧ N 9 j ≤ N 8 j ∧ N 10 j < 256 ∧ N 13 j ≤ 1
abbrev re_th (N : Nat → Nat → Nat) (c : Int32) : Prop := ¬ (c < 0 ∨ nI (N 0 0) ≤ c) ∧ N 1 c.toNatClampNeg = 0
abbrev re_tp (N : Nat → Nat → Nat) (c : Int32) : Prop := re_th N c ∧ N 2 c.toNatClampNeg = 0
def re_st (N : Nat → Nat → Nat) (ad : Nat → Nat) (c : Int32) : Option Nat := if re_th N c then some (ad c.toNatClampNeg) else none
def re_pm (N : Nat → Nat → Nat) (ad : Nat → Nat) (c : Int32) : Option Nat := if re_tp N c then some (ad c.toNatClampNeg) else none
theorem re_out {N : Nat → Nat → Nat} {j : Nat} (hj : j < N 0 0) (hn : N 0 0 ≤ 24) : ¬ (nI j < 0 ∨ nI (N 0 0) ≤ nI j) := by
  rintro (h | h)
  · exact nI_pos (by omega) h
  · have := (nI_leI (by omega) (by omega)).mp h
    omega
theorem re_th_in {N : Nat → Nat → Nat} {j : Nat} (hj : j < N 0 0) (hn : N 0 0 ≤ 24) : re_th N (nI j) ↔ N 1 j = 0 := by
  unfold re_th
  rw [nI_clamp (by omega)]
  exact ⟨fun h => h.2, fun h => ⟨re_out hj hn, h⟩⟩
theorem re_tp_in {N : Nat → Nat → Nat} {j : Nat} (hj : j < N 0 0) (hn : N 0 0 ≤ 24) : re_tp N (nI j) ↔ N 1 j = 0 ∧ N 2 j = 0 := by
  unfold re_tp
  rw [re_th_in hj hn, nI_clamp (by omega)]
theorem re_th_out {N : Nat → Nat → Nat} {c : Int32} (h : c < 0 ∨ nI (N 0 0) ≤ c) : ¬ re_th N c := fun q => q.1 h
theorem re_tp_out {N : Nat → Nat → Nat} {c : Int32} (h : c < 0 ∨ nI (N 0 0) ≤ c) : ¬ re_tp N c := fun q => q.1.1 h
theorem re_st_out {N : Nat → Nat → Nat} {ad : Nat → Nat} {c : Int32} (h : c < 0 ∨ nI (N 0 0) ≤ c) : re_st N ad c = none := if_neg (re_th_out h)
theorem re_pm_out {N : Nat → Nat → Nat} {ad : Nat → Nat} {c : Int32} (h : c < 0 ∨ nI (N 0 0) ≤ c) : re_pm N ad c = none := if_neg (re_tp_out h)
theorem re_st_in {N : Nat → Nat → Nat} {ad : Nat → Nat} {j : Nat} (hj : j < N 0 0) (hn : N 0 0 ≤ 24) (h : N 1 j = 0) : re_st N ad (nI j) = some (ad j) := by
  unfold re_st
  rw [if_pos ((re_th_in hj hn).mpr h), nI_clamp (by omega)]
theorem re_st_no {N : Nat → Nat → Nat} {ad : Nat → Nat} {j : Nat} (hj : j < N 0 0) (hn : N 0 0 ≤ 24) (h : ¬ N 1 j = 0) : re_st N ad (nI j) = none := by
  unfold re_st
  rw [if_neg (fun q => h ((re_th_in hj hn).mp q))]
theorem re_pm_in {N : Nat → Nat → Nat} {ad : Nat → Nat} {j : Nat} (hj : j < N 0 0) (hn : N 0 0 ≤ 24) (h : N 1 j = 0) (h2 : N 2 j = 0) : re_pm N ad (nI j) = some (ad j) := by
  unfold re_pm
  rw [if_pos ((re_tp_in hj hn).mpr ⟨h, h2⟩), nI_clamp (by omega)]
theorem re_pm_no {N : Nat → Nat → Nat} {ad : Nat → Nat} {j : Nat} (hj : j < N 0 0) (hn : N 0 0 ≤ 24) (h : ¬ (N 1 j = 0 ∧ N 2 j = 0)) : re_pm N ad (nI j) = none := by
  unfold re_pm
  rw [if_neg (fun q => h ((re_tp_in hj hn).mp q))]
theorem re_split {N : Nat → Nat → Nat} (hn : N 0 0 ≤ 24) (c : Int32) : (c < 0 ∨ nI (N 0 0) ≤ c) ∨ ∃ j, j < N 0 0 ∧ c = nI j := by
  rcases pk_ix c (n := N 0 0) (by omega) with h | h | h
  · exact Or.inl (Or.inl h)
  · exact Or.inl (Or.inr h)
  · exact Or.inr h
theorem mo_mk {b : Nat} {cI cZ : ClassId} {N : Nat → Nat → Nat} {S : Nat → Nat → Int32} {w : mm_M} (h0 : w (b + 14) = some (.inr (9, mo_fs b N S))) (h1 : w (b + 15) = some (mo_A cI cZ N S 1)) (h2 : w (b + 16) = some (mo_A cI cZ N S 2)) (h3 : w (b + 17) = some (mo_A cI cZ N S 3)) (h4 : w (b + 18) = some (mo_A cI cZ N S 4)) (h5 : w (b + 19) = some (mo_A cI cZ N S 5)) (h6 : w (b + 20) = some (mo_A cI cZ N S 6)) (h7 : w (b + 21) = some (mo_A cI cZ N S 7)) (h8 : w (b + 22) = some (mo_A cI cZ N S 8)) (h9 : w (b + 23) = some (mo_A cI cZ N S 9)) (h10 : w (b + 24) = some (mo_A cI cZ N S 10)) (h11 : w (b + 25) = some (mo_A cI cZ N S 11)) (h12 : w (b + 26) = some (mo_A cI cZ N S 12)) (h13 : w (b + 27) = some (mo_A cI cZ N S 13)) (h14 : w (b + 28) = some (mo_A cI cZ N S 14)) (h15 : w (b + 29) = some (mo_A cI cZ N S 15)) (h16 : w (b + 30) = some (mo_A cI cZ N S 16)) : mo_I b cI cZ N S w := by
  refine ⟨h0, fun k e1 e2 => ?_⟩
  rcases (show k = 1 ∨ k = 2 ∨ k = 3 ∨ k = 4 ∨ k = 5 ∨ k = 6 ∨ k = 7 ∨ k = 8 ∨ k = 9 ∨ k = 10 ∨ k = 11 ∨ k = 12 ∨ k = 13 ∨ k = 14 ∨ k = 15 ∨ k = 16 by omega) with rfl | rfl | rfl | rfl | rfl | rfl | rfl | rfl | rfl | rfl | rfl | rfl | rfl | rfl | rfl | rfl
  · exact h1
  · exact h2
  · exact h3
  · exact h4
  · exact h5
  · exact h6
  · exact h7
  · exact h8
  · exact h9
  · exact h10
  · exact h11
  · exact h12
  · exact h13
  · exact h14
  · exact h15
  · exact h16
theorem re_I.keep {a : Nat} {cI cQ : ClassId} {N : Nat → Nat → Nat} {S : Nat → Nat → Int32} {ad : Nat → Nat} {w w' : mm_M} (h : re_I a cI cQ N S ad w) (hk : ∀ j, (j = a ∨ j = a + 1 ∨ ∃ c, c < N 0 0 ∧ ad c ≤ j ∧ j ≤ ad c + 4) → w' j = w j) : re_I a cI cQ N S ad w' := by
  obtain ⟨h1, h2, h3, h4⟩ := h
  refine ⟨(hk _ (Or.inl rfl)).trans h1, (hk _ (Or.inr (Or.inl rfl))).trans h2, h3, fun j hj => ?_⟩
  have hc : ∀ i, i ≤ 4 → w' (ad j + i) = w (ad j + i) := fun i hi => hk _ (Or.inr (Or.inr ⟨j, hj, by omega, by omega⟩))
  rcases h4 j hj with ⟨e, g1, g2⟩ | ⟨e, g1, g2, g3, g4, g5⟩
  · exact Or.inl ⟨e, (hc 0 (by omega)).trans g1, (hc 1 (by omega)).trans g2⟩
  · exact Or.inr ⟨e, (hc 0 (by omega)).trans g1, (hc 1 (by omega)).trans g2, (hc 2 (by omega)).trans g3, (hc 3 (by omega)).trans g4, (hc 4 (by omega)).trans g5⟩
