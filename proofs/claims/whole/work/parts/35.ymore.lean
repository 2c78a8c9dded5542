theorem va_uu {α : Type} (f : Nat → α) (k : Nat) (x y : α) : va_up (va_up f k x) k y = va_up f k y := by
  funext j
  unfold va_up
  by_cases h : j = k
  · rw [if_pos h, if_pos h]
  · rw [if_neg h, if_neg h, if_neg h]
theorem ru_M_14 (N : Nat → Nat → Nat) (S : Nat → Nat → Int32) (t : Int32) (x : Nat → Nat) : ru_M (va_up N 14 x) S t = ru_M N S t := rfl
