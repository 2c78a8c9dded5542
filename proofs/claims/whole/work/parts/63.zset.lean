theorem la_apart {b sz : Nat} {N : Nat → Nat → Nat} {ad : Nat → Nat} (h : la_I b sz N ad) {j c : Nat} (hj : j < N 0 0) (hc : c < N 0 0) (e : c ≠ j) : ad c + (if N 2 c = 1 then 2 else 5) ≤ ad j ∨ ad j + (if N 2 j = 1 then 2 else 5) ≤ ad c := by
  rcases (show c < j ∨ j < c by omega) with q | q
  · exact Or.inl ((h j hj).2.2 c q)
  · exact Or.inr ((h c hc).2.2 j q)
theorem re_I.set {a : Nat} {cI cQ : ClassId} {N N' : Nat → Nat → Nat} {S S' : Nat → Nat → Int32} {ad : Nat → Nat} {w w' : mm_M} {j : Nat} (h : re_I a cI cQ N S ad w) (h0 : N' 0 0 = N 0 0)
    (hN : ∀ c, c < N 0 0 → c ≠ j → N' 1 c = N 1 c ∧ N' 2 c = N 2 c ∧ N' 3 c = N 3 c ∧ N' 4 c = N 4 c ∧ N' 8 c = N 8 c ∧ N' 9 c = N 9 c ∧ N' 10 c = N 10 c ∧ N' 13 c = N 13 c ∧ (∀ i, i < 3 → N' 7 (3 * c + i) = N 7 (3 * c + i)) ∧ S' 5 c = S 5 c ∧ S' 6 c = S 6 c ∧ S' 11 c = S 11 c ∧ S' 12 c = S 12 c)
    (hw : ∀ x, (x = a ∨ x = a + 1 ∨ ∃ c, c < N 0 0 ∧ c ≠ j ∧ ad c ≤ x ∧ x < ad c + (if N 2 c = 1 then 2 else 5)) → w' x = w x) (hc : ce_I cI N' S' ad w' j) : re_I a cI cQ N' S' ad w' := by
  obtain ⟨h1, h2, h3, h4⟩ := h
  refine ⟨(hw _ (Or.inl rfl)).trans (by rw [h0]; exact h1), (hw _ (Or.inr (Or.inl rfl))).trans (by rw [h0]; exact h2), by rw [h0]; exact h3, fun c hc9 => ?_⟩
  rw [h0] at hc9
  by_cases e : c = j
  · rw [e]; exact hc
  obtain ⟨n1, n2, n3, n4, n8, n9, n10, n13, n7, s5, s6, s11, s12⟩ := hN c hc9 e
  have n70 := n7 0 (by omega)
  rw [Nat.add_zero] at n70
  have hs : (fun i => nI (ce_sub N' c i)) = fun i => nI (ce_sub N c i) := by
    funext i
    unfold ce_sub
    split
    · rename_i hi
      rw [n7 i hi]
    · rfl
  rcases h4 c hc9 with ⟨q, g1, g2⟩ | ⟨q, g1, g2, g3, g4, g5⟩
  · have hx : ∀ i, i < 2 → w' (ad c + i) = w (ad c + i) := fun i hi => hw _ (Or.inr (Or.inr ⟨c, hc9, e, by omega, by rw [if_pos q]; omega⟩))
    refine Or.inl ⟨by rw [n2]; exact q, ?_, ?_⟩
    · rw [n1, n3, n4, n70]; exact (hx 0 (by omega)).trans g1
    · rw [s5, s6]; exact (hx 1 (by omega)).trans g2
  · have hx : ∀ i, i < 5 → w' (ad c + i) = w (ad c + i) := fun i hi => hw _ (Or.inr (Or.inr ⟨c, hc9, e, by omega, by rw [if_neg (by omega)]; omega⟩))
    refine Or.inr ⟨by rw [n2]; exact q, ?_, ?_, ?_, ?_, ?_⟩
    · rw [n1, n3, n13, n8, n9]; exact (hx 0 (by omega)).trans g1
    · rw [s5, s6]; exact (hx 1 (by omega)).trans g2
    · rw [hs]; exact (hx 2 (by omega)).trans g3
    · rw [n10]; exact (hx 3 (by omega)).trans g4
    · rw [s11, s12]; exact (hx 4 (by omega)).trans g5
theorem ce_sub_up {N : Nat → Nat → Nat} {j m q : Nat} (hm : m < 3) (M8 : Nat → Nat) : (fun i => nI (ce_sub (va_up (va_up N 7 (va_up (N 7) (3 * j + m) q)) 8 M8) j i)) = fun i => nI (va_up (ce_sub N j) m q i) := by
  funext i
  congr 1
  show (if i < 3 then (if 3 * j + i = 3 * j + m then q else N 7 (3 * j + i)) else 0) = (if i = m then q else (if i < 3 then N 7 (3 * j + i) else 0))
  by_cases e : i = m
  · rw [if_pos e, if_pos (by omega), if_pos (by omega)]
  · rw [if_neg e]
    by_cases e2 : i < 3
    · rw [if_pos e2, if_pos e2, if_neg (by omega)]
    · rw [if_neg e2, if_neg e2]
