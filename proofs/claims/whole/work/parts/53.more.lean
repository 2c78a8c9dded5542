theorem ce_sub_lt {N : Nat → Nat → Nat} {k : Nat} (h : ∀ i, i < 3 → wf_subn (N 7 (3 * k + i))) : ∀ i, i < 3 → ce_sub N k i < 200 := fun i hi => by
  unfold ce_sub
  rw [if_pos hi]
  exact (h i hi).1
