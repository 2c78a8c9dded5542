theorem ad_up (ad : Nat → Nat) (n z : Nat) : va_up (fun i => if i < n then some (ad i) else none) n (some z) = fun i => if i < n + 1 then some (va_up ad n z i) else none := by
  funext i
  show (if i = n then some z else (if i < n then some (ad i) else none)) = (if i < n + 1 then some (if i = n then z else ad i) else none)
  by_cases e : i = n
  · rw [if_pos e, if_pos (by omega), if_pos e]
  · rw [if_neg e, if_neg e]
    by_cases e2 : i < n
    · rw [if_pos e2, if_pos (by omega)]
    · rw [if_neg e2, if_neg (by omega)]
theorem re_I.add {a z : Nat} {cI cQ : ClassId} {N N' : Nat → Nat → Nat} {S S' : Nat → Nat → Int32} {ad : Nat → Nat} {w w' : mm_M} (h : re_I a cI cQ N S ad w) (hn : N 0 0 < 24) (h0 : N' 0 0 = N 0 0 + 1)
    (hN : ∀ c, c < N 0 0 → N' 1 c = N 1 c ∧ N' 2 c = N 2 c ∧ N' 3 c = N 3 c ∧ N' 4 c = N 4 c ∧ N' 8 c = N 8 c ∧ N' 9 c = N 9 c ∧ N' 10 c = N 10 c ∧ N' 13 c = N 13 c ∧ (∀ i, i < 3 → N' 7 (3 * c + i) = N 7 (3 * c + i)) ∧ S' 5 c = S 5 c ∧ S' 6 c = S 6 c ∧ S' 11 c = S 11 c ∧ S' 12 c = S 12 c)
    (hw : ∀ x, (∃ c, c < N 0 0 ∧ ad c ≤ x ∧ x < ad c + (if N 2 c = 1 then 2 else 5)) → w' x = w x) (g1 : w' a = some (.inr (1, [.ref (a + 1), .int (nI (N 0 0 + 1))]))) (g2 : w' (a + 1) = some (.inl (cQ, 24, .inr (.inr (.inr (.inr (va_up (fun i => if i < N 0 0 then some (ad i) else none) (N 0 0) (some z))))))))
    (hc : ce_I cI N' S' (va_up ad (N 0 0) z) w' (N 0 0)) : re_I a cI cQ N' S' (va_up ad (N 0 0) z) w' := by
  obtain ⟨h1, h2, h3, h4⟩ := h
  rw [ad_up] at g2
  refine ⟨by rw [h0]; exact g1, by rw [h0]; exact g2, by rw [h0]; omega, fun c hc9 => ?_⟩
  rw [h0] at hc9
  by_cases e : c = N 0 0
  · rw [e]; exact hc
  have hc8 : c < N 0 0 := by omega
  obtain ⟨n1, n2, n3, n4, n8, n9, n10, n13, n7, s5, s6, s11, s12⟩ := hN c hc8
  have n70 := n7 0 (by omega)
  rw [Nat.add_zero] at n70
  have ea : va_up ad (N 0 0) z c = ad c := if_neg e
  have hs : (fun i => nI (ce_sub N' c i)) = fun i => nI (ce_sub N c i) := by
    funext i
    unfold ce_sub
    split
    · rename_i hi
      rw [n7 i hi]
    · rfl
  unfold ce_I
  rw [ea]
  rcases h4 c hc8 with ⟨q, f1, f2⟩ | ⟨q, f1, f2, f3, f4, f5⟩
  · have hx : ∀ i, i < 2 → w' (ad c + i) = w (ad c + i) := fun i hi => hw _ ⟨c, hc8, by omega, by rw [if_pos q]; omega⟩
    refine Or.inl ⟨by rw [n2]; exact q, ?_, ?_⟩
    · rw [n1, n3, n4, n70]; exact (hx 0 (by omega)).trans f1
    · rw [s5, s6]; exact (hx 1 (by omega)).trans f2
  · have hx : ∀ i, i < 5 → w' (ad c + i) = w (ad c + i) := fun i hi => hw _ ⟨c, hc8, by omega, by rw [if_neg (by omega)]; omega⟩
    refine Or.inr ⟨by rw [n2]; exact q, ?_, ?_, ?_, ?_, ?_⟩
    · rw [n1, n3, n13, n8, n9]; exact (hx 0 (by omega)).trans f1
    · rw [s5, s6]; exact (hx 1 (by omega)).trans f2
    · rw [hs]; exact (hx 2 (by omega)).trans f3
    · rw [n10]; exact (hx 3 (by omega)).trans f4
    · rw [s11, s12]; exact (hx 4 (by omega)).trans f5
theorem la_add {b sz k : Nat} {N N' : Nat → Nat → Nat} {ad : Nat → Nat} (h : la_I b sz N ad) (hs : b + 31 ≤ sz) (h0 : N' 0 0 = N 0 0 + 1) (h2 : ∀ c, c < N 0 0 → N' 2 c = N 2 c) (hk : (if N' 2 (N 0 0) = 1 then 2 else 5) ≤ k) : la_I b (sz + k) N' (va_up ad (N 0 0) sz) := by
  intro j hj
  rw [h0] at hj
  have ea : ∀ c, c < N 0 0 → va_up ad (N 0 0) sz c = ad c := fun c hc => if_neg (by omega)
  have eb : va_up ad (N 0 0) sz (N 0 0) = sz := if_pos rfl
  by_cases e : j = N 0 0
  · subst e
    rw [eb]
    refine ⟨hs, by omega, fun i hi => ?_⟩
    rw [ea i hi, h2 i hi]
    exact (h i hi).2.1
  · have hj2 : j < N 0 0 := by omega
    obtain ⟨q1, q2, q3⟩ := h j hj2
    rw [ea j hj2, h2 j hj2]
    refine ⟨q1, by omega, fun i hi => ?_⟩
    rw [ea i (by omega), h2 i (by omega)]
    exact q3 i hi
theorem ce_new_nam {cI : ClassId} {N : Nat → Nat → Nat} {S : Nat → Nat → Int32} {ad : Nat → Nat} {w : mm_M} {z is nm su : Nat} {fr to : Int32} (h1 : w z = some (.inr (7, [.int (nI is), .ref (z + 1), .int (nI 0), .int (nI nm), .int (nI su)]))) (h2 : w (z + 1) = some (.inr (6, [.int fr, .int to]))) : ce_I cI (cm_N N 1 is su nm 0) (mk_S S (N 0 0) fr to) (va_up ad (N 0 0) z) w (N 0 0) := by
  unfold ce_I
  rw [show va_up ad (N 0 0) z (N 0 0) = z from if_pos rfl]
  refine Or.inl ⟨if_pos rfl, ?_, ?_⟩
  · rw [show cm_N N 1 is su nm 0 3 (N 0 0) = is from if_pos rfl, show cm_N N 1 is su nm 0 1 (N 0 0) = 0 from if_pos rfl, show cm_N N 1 is su nm 0 4 (N 0 0) = nm from if_pos rfl, show cm_N N 1 is su nm 0 7 (3 * N 0 0) = su from if_pos rfl]
    exact h1
  · rw [show mk_S S (N 0 0) fr to 5 (N 0 0) = fr from if_pos rfl, show mk_S S (N 0 0) fr to 6 (N 0 0) = to from if_pos rfl]
    exact h2
theorem ce_sub_new {N : Nat → Nat → Nat} {is su nm dl : Nat} (h : ∀ k, 3 * N 0 0 ≤ k → N 7 k = 0) : (fun i => nI (ce_sub (cm_N N 0 is su nm dl) (N 0 0) i)) = fun i => nI (va_up (fun _ => 0) 0 su i) := by
  funext i
  congr 1
  show (if i < 3 then (if 3 * N 0 0 + i = 3 * N 0 0 then su else N 7 (3 * N 0 0 + i)) else 0) = (if i = 0 then su else 0)
  by_cases e : i = 0
  · rw [if_pos e, if_pos (by omega), if_pos (by omega)]
  · rw [if_neg e]
    by_cases e2 : i < 3
    · rw [if_pos e2, if_neg (by omega)]; exact h _ (by omega)
    · rw [if_neg e2]
theorem ce_new_prm {cI : ClassId} {N : Nat → Nat → Nat} {S : Nat → Nat → Int32} {ad : Nat → Nat} {w : mm_M} {z is su dl : Nat} {fr to : Int32} (h7 : ∀ k, 3 * N 0 0 ≤ k → N 7 k = 0) (h1 : w z = some (.inr (8, [.int (nI is), .ref (z + 1), .int (nI 0), .ref (z + 2), .ref (z + 3), .int (nI dl), .int (nI 1), .int (nI 1)]))) (h2 : w (z + 1) = some (.inr (6, [.int fr, .int to]))) (h3 : w (z + 2) = some (.inl (cI, 3, .inl (fun i => nI (va_up (fun _ => 0) 0 su i))))) (h4 : w (z + 3) = some (.inr (5, [.int (nI 255), .ref (z + 4)]))) (h5 : w (z + 4) = some (.inr (6, [.int (-2147483648), .int 2147483647]))) : ce_I cI (cm_N N 0 is su 0 dl) (mk_S S (N 0 0) fr to) (va_up ad (N 0 0) z) w (N 0 0) := by
  unfold ce_I
  rw [show va_up ad (N 0 0) z (N 0 0) = z from if_pos rfl]
  refine Or.inr ⟨if_pos rfl, ?_, ?_, ?_, ?_, ?_⟩
  · rw [show cm_N N 0 is su 0 dl 3 (N 0 0) = is from if_pos rfl, show cm_N N 0 is su 0 dl 1 (N 0 0) = 0 from if_pos rfl, show cm_N N 0 is su 0 dl 13 (N 0 0) = dl from if_pos rfl, show cm_N N 0 is su 0 dl 8 (N 0 0) = 1 from if_pos rfl, show cm_N N 0 is su 0 dl 9 (N 0 0) = 1 from if_pos rfl]
    exact h1
  · rw [show mk_S S (N 0 0) fr to 5 (N 0 0) = fr from if_pos rfl, show mk_S S (N 0 0) fr to 6 (N 0 0) = to from if_pos rfl]
    exact h2
  · rw [ce_sub_new h7]; exact h3
  · rw [show cm_N N 0 is su 0 dl 10 (N 0 0) = 255 from if_pos rfl]
    exact h4
  · rw [show mk_S S (N 0 0) fr to 11 (N 0 0) = -2147483648 from if_pos rfl, show mk_S S (N 0 0) fr to 12 (N 0 0) = 2147483647 from if_pos rfl]
    exact h5
