theorem ch_put_lt {g : Nat → Nat} {n sp kp j : Nat} (h : j < ch_a n) : ch_put g n sp kp j = if j = 0 then n / 8 % 5 - 1 else n / 40 - 1 := by
  have h2 := ch_a_le n
  unfold ch_put
  rcases (show ch_a n = 1 ∨ ch_a n = 2 by omega) with e | e
  · rw [if_neg (by omega), if_pos e]
    obtain rfl : j = 0 := by omega
    rfl
  · rw [if_neg (by omega), if_neg (by omega)]
    rcases (show j = 0 ∨ j = 1 by omega) with rfl | rfl <;> rfl
theorem ch_put_ge {g : Nat → Nat} {n sp kp j : Nat} (h : ch_a n ≤ j) (h2 : j < ch_a n + kp) : ch_put g n sp kp j = g (sp + (j - ch_a n)) := by
  have h3 := ch_a_le n
  unfold ch_put
  rcases (show ch_a n = 0 ∨ ch_a n = 1 ∨ ch_a n = 2 by omega) with e | e | e <;> rw [e] at h h2 ⊢
  · exact if_pos ⟨h, h2⟩
  · show (if j = 0 then _ else (if 1 ≤ j ∧ j < 1 + kp then g (sp + (j - 1)) else g j)) = _
    rw [if_neg (by omega), if_pos ⟨h, h2⟩]
  · show (if j = 1 then _ else (if j = 0 then _ else (if 2 ≤ j ∧ j < 2 + kp then g (sp + (j - 2)) else g j))) = _
    rw [if_neg (by omega), if_neg (by omega), if_pos ⟨h, h2⟩]
theorem ch_cpy3 {g : Nat → Nat} (hg : ∀ j, g j ≤ 3) (sp dp k : Nat) : ∀ j, va_cpy g g sp dp k j ≤ 3 := fun j => by
  unfold va_cpy
  split
  · exact hg _
  · exact hg _
theorem ch_put3 {g : Nat → Nat} (hg : ∀ j, g j ≤ 3) {n : Nat} (hn : n < 200) (sp kp : Nat) : ∀ j, ch_put g n sp kp j ≤ 3 := by
  unfold ch_put
  split
  · exact ch_cpy3 hg _ _ _
  · split
    · exact kk_upb (ch_cpy3 hg _ _ _) (by omega)
    · exact kk_upb (kk_upb (ch_cpy3 hg _ _ _) (by omega)) (by omega)
theorem ch_nam {t g : Nat → Nat} {n k j : Nat} (h : ∀ i, i < k → t i = g i) (hk : 1 ≤ k) (hj : j < k - 1 + ch_a n) : ch_put t n (k - (k - 1)) (k - 1) j = ch_put (ch_dr g (k - 1)) n 0 (k - 1) j := by
  by_cases e : j < ch_a n
  · rw [ch_put_lt e, ch_put_lt e]
  · rw [ch_put_ge (by omega) (by omega), ch_put_ge (by omega) (by omega), h _ (by omega)]
    show g (k - (k - 1) + (j - ch_a n)) = (if 0 + (j - ch_a n) < k - 1 then g (0 + (j - ch_a n) + 1) else g (0 + (j - ch_a n)))
    rw [if_pos (by omega)]
    congr 1
    omega
