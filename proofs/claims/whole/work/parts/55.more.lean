theorem cx_put0 {g : Nat → Nat} {n sp k : Nat} (h : ch_a n = 0) : va_cpy g g sp (ch_a n) k = ch_put g n sp k := by
  unfold ch_put
  rw [if_pos h, h]
theorem cx_put1 {g : Nat → Nat} {n sp k : Nat} (h : ch_a n = 1) : va_up (va_cpy g g sp (ch_a n) k) 0 (n / 8 % 5 - 1) = ch_put g n sp k := by
  unfold ch_put
  rw [if_neg (by omega), if_pos h, h]
theorem cx_put2 {g : Nat → Nat} {n sp k : Nat} (h : ch_a n = 2) : va_up (va_up (va_cpy g g sp (ch_a n) k) 0 (n / 8 % 5 - 1)) 1 (n / 40 - 1) = ch_put g n sp k := by
  unfold ch_put
  rw [if_neg (by omega), if_neg (by omega), h]
