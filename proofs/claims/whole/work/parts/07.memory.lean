-- A memory: contents by address. mm_P: what it names stands in the heap, at B or above.
abbrev mm_M : Type := Nat → Option va_E
def mm_up (w : mm_M) (a : Nat) (x : va_E) : mm_M := fun j => if j = a then some x else w j
theorem mm_us (w : mm_M) (a : Nat) (x : va_E) : mm_up w a x a = some x := if_pos rfl
theorem mm_un {w : mm_M} {a j : Nat} {x : va_E} (h : j ≠ a) : mm_up w a x j = w j := if_neg h
theorem mm_uu (w : mm_M) (a : Nat) (x y : va_E) : mm_up (mm_up w a x) a y = mm_up w a y := funext fun j => by
  by_cases h : j = a
  · rw [h, mm_us, mm_us]
  · rw [mm_un h, mm_un h, mm_un h]
theorem mm_e1 {w w' : mm_M} {a0 : Nat} {x0 : va_E} (h0 : w' a0 = some x0) (hf : ∀ j, j ≠ a0 → w' j = w j) : w' = mm_up w a0 x0 := by
  funext j
  by_cases e0 : j = a0
  · subst e0; rw [mm_us]; exact h0
  rw [mm_un e0]
  exact hf j e0
theorem mm_e2 {w w' : mm_M} {a0 a1 : Nat} {x0 x1 : va_E} (h0 : w' a0 = some x0) (h1 : w' a1 = some x1) (hf : ∀ j, j ≠ a0 → j ≠ a1 → w' j = w j) : w' = mm_up (mm_up w a0 x0) a1 x1 := by
  funext j
  by_cases e1 : j = a1
  · subst e1; rw [mm_us]; exact h1
  by_cases e0 : j = a0
  · subst e0; rw [mm_un e1, mm_us]; exact h0
  rw [mm_un e1, mm_un e0]
  exact hf j e0 e1
theorem mm_e3 {w w' : mm_M} {a0 a1 a2 : Nat} {x0 x1 x2 : va_E} (h0 : w' a0 = some x0) (h1 : w' a1 = some x1) (h2 : w' a2 = some x2) (hf : ∀ j, j ≠ a0 → j ≠ a1 → j ≠ a2 → w' j = w j) : w' = mm_up (mm_up (mm_up w a0 x0) a1 x1) a2 x2 := by
  funext j
  by_cases e2 : j = a2
  · subst e2; rw [mm_us]; exact h2
  by_cases e1 : j = a1
  · subst e1; rw [mm_un e2, mm_us]; exact h1
  by_cases e0 : j = a0
  · subst e0; rw [mm_un e2, mm_un e1, mm_us]; exact h0
  rw [mm_un e2, mm_un e1, mm_un e0]
  exact hf j e0 e1 e2
theorem mm_e4 {w w' : mm_M} {a0 a1 a2 a3 : Nat} {x0 x1 x2 x3 : va_E} (h0 : w' a0 = some x0) (h1 : w' a1 = some x1) (h2 : w' a2 = some x2) (h3 : w' a3 = some x3) (hf : ∀ j, j ≠ a0 → j ≠ a1 → j ≠ a2 → j ≠ a3 → w' j = w j) : w' = mm_up (mm_up (mm_up (mm_up w a0 x0) a1 x1) a2 x2) a3 x3 := by
  funext j
  by_cases e3 : j = a3
  · subst e3; rw [mm_us]; exact h3
  by_cases e2 : j = a2
  · subst e2; rw [mm_un e3, mm_us]; exact h2
  by_cases e1 : j = a1
  · subst e1; rw [mm_un e3, mm_un e2, mm_us]; exact h1
  by_cases e0 : j = a0
  · subst e0; rw [mm_un e3, mm_un e2, mm_un e1, mm_us]; exact h0
  rw [mm_un e3, mm_un e2, mm_un e1, mm_un e0]
  exact hf j e0 e1 e2 e3
theorem mm_e5 {w w' : mm_M} {a0 a1 a2 a3 a4 : Nat} {x0 x1 x2 x3 x4 : va_E} (h0 : w' a0 = some x0) (h1 : w' a1 = some x1) (h2 : w' a2 = some x2) (h3 : w' a3 = some x3) (h4 : w' a4 = some x4) (hf : ∀ j, j ≠ a0 → j ≠ a1 → j ≠ a2 → j ≠ a3 → j ≠ a4 → w' j = w j) : w' = mm_up (mm_up (mm_up (mm_up (mm_up w a0 x0) a1 x1) a2 x2) a3 x3) a4 x4 := by
  funext j
  by_cases e4 : j = a4
  · subst e4; rw [mm_us]; exact h4
  by_cases e3 : j = a3
  · subst e3; rw [mm_un e4, mm_us]; exact h3
  by_cases e2 : j = a2
  · subst e2; rw [mm_un e4, mm_un e3, mm_us]; exact h2
  by_cases e1 : j = a1
  · subst e1; rw [mm_un e4, mm_un e3, mm_un e2, mm_us]; exact h1
  by_cases e0 : j = a0
  · subst e0; rw [mm_un e4, mm_un e3, mm_un e2, mm_un e1, mm_us]; exact h0
  rw [mm_un e4, mm_un e3, mm_un e2, mm_un e1, mm_un e0]
  exact hf j e0 e1 e2 e3 e4
theorem mm_e6 {w w' : mm_M} {a0 a1 a2 a3 a4 a5 : Nat} {x0 x1 x2 x3 x4 x5 : va_E} (h0 : w' a0 = some x0) (h1 : w' a1 = some x1) (h2 : w' a2 = some x2) (h3 : w' a3 = some x3) (h4 : w' a4 = some x4) (h5 : w' a5 = some x5) (hf : ∀ j, j ≠ a0 → j ≠ a1 → j ≠ a2 → j ≠ a3 → j ≠ a4 → j ≠ a5 → w' j = w j) : w' = mm_up (mm_up (mm_up (mm_up (mm_up (mm_up w a0 x0) a1 x1) a2 x2) a3 x3) a4 x4) a5 x5 := by
  funext j
  by_cases e5 : j = a5
  · subst e5; rw [mm_us]; exact h5
  by_cases e4 : j = a4
  · subst e4; rw [mm_un e5, mm_us]; exact h4
  by_cases e3 : j = a3
  · subst e3; rw [mm_un e5, mm_un e4, mm_us]; exact h3
  by_cases e2 : j = a2
  · subst e2; rw [mm_un e5, mm_un e4, mm_un e3, mm_us]; exact h2
  by_cases e1 : j = a1
  · subst e1; rw [mm_un e5, mm_un e4, mm_un e3, mm_un e2, mm_us]; exact h1
  by_cases e0 : j = a0
  · subst e0; rw [mm_un e5, mm_un e4, mm_un e3, mm_un e2, mm_un e1, mm_us]; exact h0
  rw [mm_un e5, mm_un e4, mm_un e3, mm_un e2, mm_un e1, mm_un e0]
  exact hf j e0 e1 e2 e3 e4 e5
theorem mm_e7 {w w' : mm_M} {a0 a1 a2 a3 a4 a5 a6 : Nat} {x0 x1 x2 x3 x4 x5 x6 : va_E} (h0 : w' a0 = some x0) (h1 : w' a1 = some x1) (h2 : w' a2 = some x2) (h3 : w' a3 = some x3) (h4 : w' a4 = some x4) (h5 : w' a5 = some x5) (h6 : w' a6 = some x6) (hf : ∀ j, j ≠ a0 → j ≠ a1 → j ≠ a2 → j ≠ a3 → j ≠ a4 → j ≠ a5 → j ≠ a6 → w' j = w j) : w' = mm_up (mm_up (mm_up (mm_up (mm_up (mm_up (mm_up w a0 x0) a1 x1) a2 x2) a3 x3) a4 x4) a5 x5) a6 x6 := by
  funext j
  by_cases e6 : j = a6
  · subst e6; rw [mm_us]; exact h6
  by_cases e5 : j = a5
  · subst e5; rw [mm_un e6, mm_us]; exact h5
  by_cases e4 : j = a4
  · subst e4; rw [mm_un e6, mm_un e5, mm_us]; exact h4
  by_cases e3 : j = a3
  · subst e3; rw [mm_un e6, mm_un e5, mm_un e4, mm_us]; exact h3
  by_cases e2 : j = a2
  · subst e2; rw [mm_un e6, mm_un e5, mm_un e4, mm_un e3, mm_us]; exact h2
  by_cases e1 : j = a1
  · subst e1; rw [mm_un e6, mm_un e5, mm_un e4, mm_un e3, mm_un e2, mm_us]; exact h1
  by_cases e0 : j = a0
  · subst e0; rw [mm_un e6, mm_un e5, mm_un e4, mm_un e3, mm_un e2, mm_un e1, mm_us]; exact h0
  rw [mm_un e6, mm_un e5, mm_un e4, mm_un e3, mm_un e2, mm_un e1, mm_un e0]
  exact hf j e0 e1 e2 e3 e4 e5 e6
theorem mm_e8 {w w' : mm_M} {a0 a1 a2 a3 a4 a5 a6 a7 : Nat} {x0 x1 x2 x3 x4 x5 x6 x7 : va_E} (h0 : w' a0 = some x0) (h1 : w' a1 = some x1) (h2 : w' a2 = some x2) (h3 : w' a3 = some x3) (h4 : w' a4 = some x4) (h5 : w' a5 = some x5) (h6 : w' a6 = some x6) (h7 : w' a7 = some x7) (hf : ∀ j, j ≠ a0 → j ≠ a1 → j ≠ a2 → j ≠ a3 → j ≠ a4 → j ≠ a5 → j ≠ a6 → j ≠ a7 → w' j = w j) : w' = mm_up (mm_up (mm_up (mm_up (mm_up (mm_up (mm_up (mm_up w a0 x0) a1 x1) a2 x2) a3 x3) a4 x4) a5 x5) a6 x6) a7 x7 := by
  funext j
  by_cases e7 : j = a7
  · subst e7; rw [mm_us]; exact h7
  by_cases e6 : j = a6
  · subst e6; rw [mm_un e7, mm_us]; exact h6
  by_cases e5 : j = a5
  · subst e5; rw [mm_un e7, mm_un e6, mm_us]; exact h5
  by_cases e4 : j = a4
  · subst e4; rw [mm_un e7, mm_un e6, mm_un e5, mm_us]; exact h4
  by_cases e3 : j = a3
  · subst e3; rw [mm_un e7, mm_un e6, mm_un e5, mm_un e4, mm_us]; exact h3
  by_cases e2 : j = a2
  · subst e2; rw [mm_un e7, mm_un e6, mm_un e5, mm_un e4, mm_un e3, mm_us]; exact h2
  by_cases e1 : j = a1
  · subst e1; rw [mm_un e7, mm_un e6, mm_un e5, mm_un e4, mm_un e3, mm_un e2, mm_us]; exact h1
  by_cases e0 : j = a0
  · subst e0; rw [mm_un e7, mm_un e6, mm_un e5, mm_un e4, mm_un e3, mm_un e2, mm_un e1, mm_us]; exact h0
  rw [mm_un e7, mm_un e6, mm_un e5, mm_un e4, mm_un e3, mm_un e2, mm_un e1, mm_un e0]
  exact hf j e0 e1 e2 e3 e4 e5 e6 e7
theorem mm_e9 {w w' : mm_M} {a0 a1 a2 a3 a4 a5 a6 a7 a8 : Nat} {x0 x1 x2 x3 x4 x5 x6 x7 x8 : va_E} (h0 : w' a0 = some x0) (h1 : w' a1 = some x1) (h2 : w' a2 = some x2) (h3 : w' a3 = some x3) (h4 : w' a4 = some x4) (h5 : w' a5 = some x5) (h6 : w' a6 = some x6) (h7 : w' a7 = some x7) (h8 : w' a8 = some x8) (hf : ∀ j, j ≠ a0 → j ≠ a1 → j ≠ a2 → j ≠ a3 → j ≠ a4 → j ≠ a5 → j ≠ a6 → j ≠ a7 → j ≠ a8 → w' j = w j) : w' = mm_up (mm_up (mm_up (mm_up (mm_up (mm_up (mm_up (mm_up (mm_up w a0 x0) a1 x1) a2 x2) a3 x3) a4 x4) a5 x5) a6 x6) a7 x7) a8 x8 := by
  funext j
  by_cases e8 : j = a8
  · subst e8; rw [mm_us]; exact h8
  by_cases e7 : j = a7
  · subst e7; rw [mm_un e8, mm_us]; exact h7
  by_cases e6 : j = a6
  · subst e6; rw [mm_un e8, mm_un e7, mm_us]; exact h6
  by_cases e5 : j = a5
  · subst e5; rw [mm_un e8, mm_un e7, mm_un e6, mm_us]; exact h5
  by_cases e4 : j = a4
  · subst e4; rw [mm_un e8, mm_un e7, mm_un e6, mm_un e5, mm_us]; exact h4
  by_cases e3 : j = a3
  · subst e3; rw [mm_un e8, mm_un e7, mm_un e6, mm_un e5, mm_un e4, mm_us]; exact h3
  by_cases e2 : j = a2
  · subst e2; rw [mm_un e8, mm_un e7, mm_un e6, mm_un e5, mm_un e4, mm_un e3, mm_us]; exact h2
  by_cases e1 : j = a1
  · subst e1; rw [mm_un e8, mm_un e7, mm_un e6, mm_un e5, mm_un e4, mm_un e3, mm_un e2, mm_us]; exact h1
  by_cases e0 : j = a0
  · subst e0; rw [mm_un e8, mm_un e7, mm_un e6, mm_un e5, mm_un e4, mm_un e3, mm_un e2, mm_un e1, mm_us]; exact h0
  rw [mm_un e8, mm_un e7, mm_un e6, mm_un e5, mm_un e4, mm_un e3, mm_un e2, mm_un e1, mm_un e0]
  exact hf j e0 e1 e2 e3 e4 e5 e6 e7 e8
theorem mm_e10 {w w' : mm_M} {a0 a1 a2 a3 a4 a5 a6 a7 a8 a9 : Nat} {x0 x1 x2 x3 x4 x5 x6 x7 x8 x9 : va_E} (h0 : w' a0 = some x0) (h1 : w' a1 = some x1) (h2 : w' a2 = some x2) (h3 : w' a3 = some x3) (h4 : w' a4 = some x4) (h5 : w' a5 = some x5) (h6 : w' a6 = some x6) (h7 : w' a7 = some x7) (h8 : w' a8 = some x8) (h9 : w' a9 = some x9) (hf : ∀ j, j ≠ a0 → j ≠ a1 → j ≠ a2 → j ≠ a3 → j ≠ a4 → j ≠ a5 → j ≠ a6 → j ≠ a7 → j ≠ a8 → j ≠ a9 → w' j = w j) : w' = mm_up (mm_up (mm_up (mm_up (mm_up (mm_up (mm_up (mm_up (mm_up (mm_up w a0 x0) a1 x1) a2 x2) a3 x3) a4 x4) a5 x5) a6 x6) a7 x7) a8 x8) a9 x9 := by
  funext j
  by_cases e9 : j = a9
  · subst e9; rw [mm_us]; exact h9
  by_cases e8 : j = a8
  · subst e8; rw [mm_un e9, mm_us]; exact h8
  by_cases e7 : j = a7
  · subst e7; rw [mm_un e9, mm_un e8, mm_us]; exact h7
  by_cases e6 : j = a6
  · subst e6; rw [mm_un e9, mm_un e8, mm_un e7, mm_us]; exact h6
  by_cases e5 : j = a5
  · subst e5; rw [mm_un e9, mm_un e8, mm_un e7, mm_un e6, mm_us]; exact h5
  by_cases e4 : j = a4
  · subst e4; rw [mm_un e9, mm_un e8, mm_un e7, mm_un e6, mm_un e5, mm_us]; exact h4
  by_cases e3 : j = a3
  · subst e3; rw [mm_un e9, mm_un e8, mm_un e7, mm_un e6, mm_un e5, mm_un e4, mm_us]; exact h3
  by_cases e2 : j = a2
  · subst e2; rw [mm_un e9, mm_un e8, mm_un e7, mm_un e6, mm_un e5, mm_un e4, mm_un e3, mm_us]; exact h2
  by_cases e1 : j = a1
  · subst e1; rw [mm_un e9, mm_un e8, mm_un e7, mm_un e6, mm_un e5, mm_un e4, mm_un e3, mm_un e2, mm_us]; exact h1
  by_cases e0 : j = a0
  · subst e0; rw [mm_un e9, mm_un e8, mm_un e7, mm_un e6, mm_un e5, mm_un e4, mm_un e3, mm_un e2, mm_un e1, mm_us]; exact h0
  rw [mm_un e9, mm_un e8, mm_un e7, mm_un e6, mm_un e5, mm_un e4, mm_un e3, mm_un e2, mm_un e1, mm_un e0]
  exact hf j e0 e1 e2 e3 e4 e5 e6 e7 e8 e9
theorem mm_e11 {w w' : mm_M} {a0 a1 a2 a3 a4 a5 a6 a7 a8 a9 a10 : Nat} {x0 x1 x2 x3 x4 x5 x6 x7 x8 x9 x10 : va_E} (h0 : w' a0 = some x0) (h1 : w' a1 = some x1) (h2 : w' a2 = some x2) (h3 : w' a3 = some x3) (h4 : w' a4 = some x4) (h5 : w' a5 = some x5) (h6 : w' a6 = some x6) (h7 : w' a7 = some x7) (h8 : w' a8 = some x8) (h9 : w' a9 = some x9) (h10 : w' a10 = some x10) (hf : ∀ j, j ≠ a0 → j ≠ a1 → j ≠ a2 → j ≠ a3 → j ≠ a4 → j ≠ a5 → j ≠ a6 → j ≠ a7 → j ≠ a8 → j ≠ a9 → j ≠ a10 → w' j = w j) : w' = mm_up (mm_up (mm_up (mm_up (mm_up (mm_up (mm_up (mm_up (mm_up (mm_up (mm_up w a0 x0) a1 x1) a2 x2) a3 x3) a4 x4) a5 x5) a6 x6) a7 x7) a8 x8) a9 x9) a10 x10 := by
  funext j
  by_cases e10 : j = a10
  · subst e10; rw [mm_us]; exact h10
  by_cases e9 : j = a9
  · subst e9; rw [mm_un e10, mm_us]; exact h9
  by_cases e8 : j = a8
  · subst e8; rw [mm_un e10, mm_un e9, mm_us]; exact h8
  by_cases e7 : j = a7
  · subst e7; rw [mm_un e10, mm_un e9, mm_un e8, mm_us]; exact h7
  by_cases e6 : j = a6
  · subst e6; rw [mm_un e10, mm_un e9, mm_un e8, mm_un e7, mm_us]; exact h6
  by_cases e5 : j = a5
  · subst e5; rw [mm_un e10, mm_un e9, mm_un e8, mm_un e7, mm_un e6, mm_us]; exact h5
  by_cases e4 : j = a4
  · subst e4; rw [mm_un e10, mm_un e9, mm_un e8, mm_un e7, mm_un e6, mm_un e5, mm_us]; exact h4
  by_cases e3 : j = a3
  · subst e3; rw [mm_un e10, mm_un e9, mm_un e8, mm_un e7, mm_un e6, mm_un e5, mm_un e4, mm_us]; exact h3
  by_cases e2 : j = a2
  · subst e2; rw [mm_un e10, mm_un e9, mm_un e8, mm_un e7, mm_un e6, mm_un e5, mm_un e4, mm_un e3, mm_us]; exact h2
  by_cases e1 : j = a1
  · subst e1; rw [mm_un e10, mm_un e9, mm_un e8, mm_un e7, mm_un e6, mm_un e5, mm_un e4, mm_un e3, mm_un e2, mm_us]; exact h1
  by_cases e0 : j = a0
  · subst e0; rw [mm_un e10, mm_un e9, mm_un e8, mm_un e7, mm_un e6, mm_un e5, mm_un e4, mm_un e3, mm_un e2, mm_un e1, mm_us]; exact h0
  rw [mm_un e10, mm_un e9, mm_un e8, mm_un e7, mm_un e6, mm_un e5, mm_un e4, mm_un e3, mm_un e2, mm_un e1, mm_un e0]
  exact hf j e0 e1 e2 e3 e4 e5 e6 e7 e8 e9 e10
theorem mm_e12 {w w' : mm_M} {a0 a1 a2 a3 a4 a5 a6 a7 a8 a9 a10 a11 : Nat} {x0 x1 x2 x3 x4 x5 x6 x7 x8 x9 x10 x11 : va_E} (h0 : w' a0 = some x0) (h1 : w' a1 = some x1) (h2 : w' a2 = some x2) (h3 : w' a3 = some x3) (h4 : w' a4 = some x4) (h5 : w' a5 = some x5) (h6 : w' a6 = some x6) (h7 : w' a7 = some x7) (h8 : w' a8 = some x8) (h9 : w' a9 = some x9) (h10 : w' a10 = some x10) (h11 : w' a11 = some x11) (hf : ∀ j, j ≠ a0 → j ≠ a1 → j ≠ a2 → j ≠ a3 → j ≠ a4 → j ≠ a5 → j ≠ a6 → j ≠ a7 → j ≠ a8 → j ≠ a9 → j ≠ a10 → j ≠ a11 → w' j = w j) : w' = mm_up (mm_up (mm_up (mm_up (mm_up (mm_up (mm_up (mm_up (mm_up (mm_up (mm_up (mm_up w a0 x0) a1 x1) a2 x2) a3 x3) a4 x4) a5 x5) a6 x6) a7 x7) a8 x8) a9 x9) a10 x10) a11 x11 := by
  funext j
  by_cases e11 : j = a11
  · subst e11; rw [mm_us]; exact h11
  by_cases e10 : j = a10
  · subst e10; rw [mm_un e11, mm_us]; exact h10
  by_cases e9 : j = a9
  · subst e9; rw [mm_un e11, mm_un e10, mm_us]; exact h9
  by_cases e8 : j = a8
  · subst e8; rw [mm_un e11, mm_un e10, mm_un e9, mm_us]; exact h8
  by_cases e7 : j = a7
  · subst e7; rw [mm_un e11, mm_un e10, mm_un e9, mm_un e8, mm_us]; exact h7
  by_cases e6 : j = a6
  · subst e6; rw [mm_un e11, mm_un e10, mm_un e9, mm_un e8, mm_un e7, mm_us]; exact h6
  by_cases e5 : j = a5
  · subst e5; rw [mm_un e11, mm_un e10, mm_un e9, mm_un e8, mm_un e7, mm_un e6, mm_us]; exact h5
  by_cases e4 : j = a4
  · subst e4; rw [mm_un e11, mm_un e10, mm_un e9, mm_un e8, mm_un e7, mm_un e6, mm_un e5, mm_us]; exact h4
  by_cases e3 : j = a3
  · subst e3; rw [mm_un e11, mm_un e10, mm_un e9, mm_un e8, mm_un e7, mm_un e6, mm_un e5, mm_un e4, mm_us]; exact h3
  by_cases e2 : j = a2
  · subst e2; rw [mm_un e11, mm_un e10, mm_un e9, mm_un e8, mm_un e7, mm_un e6, mm_un e5, mm_un e4, mm_un e3, mm_us]; exact h2
  by_cases e1 : j = a1
  · subst e1; rw [mm_un e11, mm_un e10, mm_un e9, mm_un e8, mm_un e7, mm_un e6, mm_un e5, mm_un e4, mm_un e3, mm_un e2, mm_us]; exact h1
  by_cases e0 : j = a0
  · subst e0; rw [mm_un e11, mm_un e10, mm_un e9, mm_un e8, mm_un e7, mm_un e6, mm_un e5, mm_un e4, mm_un e3, mm_un e2, mm_un e1, mm_us]; exact h0
  rw [mm_un e11, mm_un e10, mm_un e9, mm_un e8, mm_un e7, mm_un e6, mm_un e5, mm_un e4, mm_un e3, mm_un e2, mm_un e1, mm_un e0]
  exact hf j e0 e1 e2 e3 e4 e5 e6 e7 e8 e9 e10 e11
theorem mm_e13 {w w' : mm_M} {a0 a1 a2 a3 a4 a5 a6 a7 a8 a9 a10 a11 a12 : Nat} {x0 x1 x2 x3 x4 x5 x6 x7 x8 x9 x10 x11 x12 : va_E} (h0 : w' a0 = some x0) (h1 : w' a1 = some x1) (h2 : w' a2 = some x2) (h3 : w' a3 = some x3) (h4 : w' a4 = some x4) (h5 : w' a5 = some x5) (h6 : w' a6 = some x6) (h7 : w' a7 = some x7) (h8 : w' a8 = some x8) (h9 : w' a9 = some x9) (h10 : w' a10 = some x10) (h11 : w' a11 = some x11) (h12 : w' a12 = some x12) (hf : ∀ j, j ≠ a0 → j ≠ a1 → j ≠ a2 → j ≠ a3 → j ≠ a4 → j ≠ a5 → j ≠ a6 → j ≠ a7 → j ≠ a8 → j ≠ a9 → j ≠ a10 → j ≠ a11 → j ≠ a12 → w' j = w j) : w' = mm_up (mm_up (mm_up (mm_up (mm_up (mm_up (mm_up (mm_up (mm_up (mm_up (mm_up (mm_up (mm_up w a0 x0) a1 x1) a2 x2) a3 x3) a4 x4) a5 x5) a6 x6) a7 x7) a8 x8) a9 x9) a10 x10) a11 x11) a12 x12 := by
  funext j
  by_cases e12 : j = a12
  · subst e12; rw [mm_us]; exact h12
  by_cases e11 : j = a11
  · subst e11; rw [mm_un e12, mm_us]; exact h11
  by_cases e10 : j = a10
  · subst e10; rw [mm_un e12, mm_un e11, mm_us]; exact h10
  by_cases e9 : j = a9
  · subst e9; rw [mm_un e12, mm_un e11, mm_un e10, mm_us]; exact h9
  by_cases e8 : j = a8
  · subst e8; rw [mm_un e12, mm_un e11, mm_un e10, mm_un e9, mm_us]; exact h8
  by_cases e7 : j = a7
  · subst e7; rw [mm_un e12, mm_un e11, mm_un e10, mm_un e9, mm_un e8, mm_us]; exact h7
  by_cases e6 : j = a6
  · subst e6; rw [mm_un e12, mm_un e11, mm_un e10, mm_un e9, mm_un e8, mm_un e7, mm_us]; exact h6
  by_cases e5 : j = a5
  · subst e5; rw [mm_un e12, mm_un e11, mm_un e10, mm_un e9, mm_un e8, mm_un e7, mm_un e6, mm_us]; exact h5
  by_cases e4 : j = a4
  · subst e4; rw [mm_un e12, mm_un e11, mm_un e10, mm_un e9, mm_un e8, mm_un e7, mm_un e6, mm_un e5, mm_us]; exact h4
  by_cases e3 : j = a3
  · subst e3; rw [mm_un e12, mm_un e11, mm_un e10, mm_un e9, mm_un e8, mm_un e7, mm_un e6, mm_un e5, mm_un e4, mm_us]; exact h3
  by_cases e2 : j = a2
  · subst e2; rw [mm_un e12, mm_un e11, mm_un e10, mm_un e9, mm_un e8, mm_un e7, mm_un e6, mm_un e5, mm_un e4, mm_un e3, mm_us]; exact h2
  by_cases e1 : j = a1
  · subst e1; rw [mm_un e12, mm_un e11, mm_un e10, mm_un e9, mm_un e8, mm_un e7, mm_un e6, mm_un e5, mm_un e4, mm_un e3, mm_un e2, mm_us]; exact h1
  by_cases e0 : j = a0
  · subst e0; rw [mm_un e12, mm_un e11, mm_un e10, mm_un e9, mm_un e8, mm_un e7, mm_un e6, mm_un e5, mm_un e4, mm_un e3, mm_un e2, mm_un e1, mm_us]; exact h0
  rw [mm_un e12, mm_un e11, mm_un e10, mm_un e9, mm_un e8, mm_un e7, mm_un e6, mm_un e5, mm_un e4, mm_un e3, mm_un e2, mm_un e1, mm_un e0]
  exact hf j e0 e1 e2 e3 e4 e5 e6 e7 e8 e9 e10 e11 e12
theorem mm_e14 {w w' : mm_M} {a0 a1 a2 a3 a4 a5 a6 a7 a8 a9 a10 a11 a12 a13 : Nat} {x0 x1 x2 x3 x4 x5 x6 x7 x8 x9 x10 x11 x12 x13 : va_E} (h0 : w' a0 = some x0) (h1 : w' a1 = some x1) (h2 : w' a2 = some x2) (h3 : w' a3 = some x3) (h4 : w' a4 = some x4) (h5 : w' a5 = some x5) (h6 : w' a6 = some x6) (h7 : w' a7 = some x7) (h8 : w' a8 = some x8) (h9 : w' a9 = some x9) (h10 : w' a10 = some x10) (h11 : w' a11 = some x11) (h12 : w' a12 = some x12) (h13 : w' a13 = some x13) (hf : ∀ j, j ≠ a0 → j ≠ a1 → j ≠ a2 → j ≠ a3 → j ≠ a4 → j ≠ a5 → j ≠ a6 → j ≠ a7 → j ≠ a8 → j ≠ a9 → j ≠ a10 → j ≠ a11 → j ≠ a12 → j ≠ a13 → w' j = w j) : w' = mm_up (mm_up (mm_up (mm_up (mm_up (mm_up (mm_up (mm_up (mm_up (mm_up (mm_up (mm_up (mm_up (mm_up w a0 x0) a1 x1) a2 x2) a3 x3) a4 x4) a5 x5) a6 x6) a7 x7) a8 x8) a9 x9) a10 x10) a11 x11) a12 x12) a13 x13 := by
  funext j
  by_cases e13 : j = a13
  · subst e13; rw [mm_us]; exact h13
  by_cases e12 : j = a12
  · subst e12; rw [mm_un e13, mm_us]; exact h12
  by_cases e11 : j = a11
  · subst e11; rw [mm_un e13, mm_un e12, mm_us]; exact h11
  by_cases e10 : j = a10
  · subst e10; rw [mm_un e13, mm_un e12, mm_un e11, mm_us]; exact h10
  by_cases e9 : j = a9
  · subst e9; rw [mm_un e13, mm_un e12, mm_un e11, mm_un e10, mm_us]; exact h9
  by_cases e8 : j = a8
  · subst e8; rw [mm_un e13, mm_un e12, mm_un e11, mm_un e10, mm_un e9, mm_us]; exact h8
  by_cases e7 : j = a7
  · subst e7; rw [mm_un e13, mm_un e12, mm_un e11, mm_un e10, mm_un e9, mm_un e8, mm_us]; exact h7
  by_cases e6 : j = a6
  · subst e6; rw [mm_un e13, mm_un e12, mm_un e11, mm_un e10, mm_un e9, mm_un e8, mm_un e7, mm_us]; exact h6
  by_cases e5 : j = a5
  · subst e5; rw [mm_un e13, mm_un e12, mm_un e11, mm_un e10, mm_un e9, mm_un e8, mm_un e7, mm_un e6, mm_us]; exact h5
  by_cases e4 : j = a4
  · subst e4; rw [mm_un e13, mm_un e12, mm_un e11, mm_un e10, mm_un e9, mm_un e8, mm_un e7, mm_un e6, mm_un e5, mm_us]; exact h4
  by_cases e3 : j = a3
  · subst e3; rw [mm_un e13, mm_un e12, mm_un e11, mm_un e10, mm_un e9, mm_un e8, mm_un e7, mm_un e6, mm_un e5, mm_un e4, mm_us]; exact h3
  by_cases e2 : j = a2
  · subst e2; rw [mm_un e13, mm_un e12, mm_un e11, mm_un e10, mm_un e9, mm_un e8, mm_un e7, mm_un e6, mm_un e5, mm_un e4, mm_un e3, mm_us]; exact h2
  by_cases e1 : j = a1
  · subst e1; rw [mm_un e13, mm_un e12, mm_un e11, mm_un e10, mm_un e9, mm_un e8, mm_un e7, mm_un e6, mm_un e5, mm_un e4, mm_un e3, mm_un e2, mm_us]; exact h1
  by_cases e0 : j = a0
  · subst e0; rw [mm_un e13, mm_un e12, mm_un e11, mm_un e10, mm_un e9, mm_un e8, mm_un e7, mm_un e6, mm_un e5, mm_un e4, mm_un e3, mm_un e2, mm_un e1, mm_us]; exact h0
  rw [mm_un e13, mm_un e12, mm_un e11, mm_un e10, mm_un e9, mm_un e8, mm_un e7, mm_un e6, mm_un e5, mm_un e4, mm_un e3, mm_un e2, mm_un e1, mm_un e0]
  exact hf j e0 e1 e2 e3 e4 e5 e6 e7 e8 e9 e10 e11 e12 e13
theorem mm_e15 {w w' : mm_M} {a0 a1 a2 a3 a4 a5 a6 a7 a8 a9 a10 a11 a12 a13 a14 : Nat} {x0 x1 x2 x3 x4 x5 x6 x7 x8 x9 x10 x11 x12 x13 x14 : va_E} (h0 : w' a0 = some x0) (h1 : w' a1 = some x1) (h2 : w' a2 = some x2) (h3 : w' a3 = some x3) (h4 : w' a4 = some x4) (h5 : w' a5 = some x5) (h6 : w' a6 = some x6) (h7 : w' a7 = some x7) (h8 : w' a8 = some x8) (h9 : w' a9 = some x9) (h10 : w' a10 = some x10) (h11 : w' a11 = some x11) (h12 : w' a12 = some x12) (h13 : w' a13 = some x13) (h14 : w' a14 = some x14) (hf : ∀ j, j ≠ a0 → j ≠ a1 → j ≠ a2 → j ≠ a3 → j ≠ a4 → j ≠ a5 → j ≠ a6 → j ≠ a7 → j ≠ a8 → j ≠ a9 → j ≠ a10 → j ≠ a11 → j ≠ a12 → j ≠ a13 → j ≠ a14 → w' j = w j) : w' = mm_up (mm_up (mm_up (mm_up (mm_up (mm_up (mm_up (mm_up (mm_up (mm_up (mm_up (mm_up (mm_up (mm_up (mm_up w a0 x0) a1 x1) a2 x2) a3 x3) a4 x4) a5 x5) a6 x6) a7 x7) a8 x8) a9 x9) a10 x10) a11 x11) a12 x12) a13 x13) a14 x14 := by
  funext j
  by_cases e14 : j = a14
  · subst e14; rw [mm_us]; exact h14
  by_cases e13 : j = a13
  · subst e13; rw [mm_un e14, mm_us]; exact h13
  by_cases e12 : j = a12
  · subst e12; rw [mm_un e14, mm_un e13, mm_us]; exact h12
  by_cases e11 : j = a11
  · subst e11; rw [mm_un e14, mm_un e13, mm_un e12, mm_us]; exact h11
  by_cases e10 : j = a10
  · subst e10; rw [mm_un e14, mm_un e13, mm_un e12, mm_un e11, mm_us]; exact h10
  by_cases e9 : j = a9
  · subst e9; rw [mm_un e14, mm_un e13, mm_un e12, mm_un e11, mm_un e10, mm_us]; exact h9
  by_cases e8 : j = a8
  · subst e8; rw [mm_un e14, mm_un e13, mm_un e12, mm_un e11, mm_un e10, mm_un e9, mm_us]; exact h8
  by_cases e7 : j = a7
  · subst e7; rw [mm_un e14, mm_un e13, mm_un e12, mm_un e11, mm_un e10, mm_un e9, mm_un e8, mm_us]; exact h7
  by_cases e6 : j = a6
  · subst e6; rw [mm_un e14, mm_un e13, mm_un e12, mm_un e11, mm_un e10, mm_un e9, mm_un e8, mm_un e7, mm_us]; exact h6
  by_cases e5 : j = a5
  · subst e5; rw [mm_un e14, mm_un e13, mm_un e12, mm_un e11, mm_un e10, mm_un e9, mm_un e8, mm_un e7, mm_un e6, mm_us]; exact h5
  by_cases e4 : j = a4
  · subst e4; rw [mm_un e14, mm_un e13, mm_un e12, mm_un e11, mm_un e10, mm_un e9, mm_un e8, mm_un e7, mm_un e6, mm_un e5, mm_us]; exact h4
  by_cases e3 : j = a3
  · subst e3; rw [mm_un e14, mm_un e13, mm_un e12, mm_un e11, mm_un e10, mm_un e9, mm_un e8, mm_un e7, mm_un e6, mm_un e5, mm_un e4, mm_us]; exact h3
  by_cases e2 : j = a2
  · subst e2; rw [mm_un e14, mm_un e13, mm_un e12, mm_un e11, mm_un e10, mm_un e9, mm_un e8, mm_un e7, mm_un e6, mm_un e5, mm_un e4, mm_un e3, mm_us]; exact h2
  by_cases e1 : j = a1
  · subst e1; rw [mm_un e14, mm_un e13, mm_un e12, mm_un e11, mm_un e10, mm_un e9, mm_un e8, mm_un e7, mm_un e6, mm_un e5, mm_un e4, mm_un e3, mm_un e2, mm_us]; exact h1
  by_cases e0 : j = a0
  · subst e0; rw [mm_un e14, mm_un e13, mm_un e12, mm_un e11, mm_un e10, mm_un e9, mm_un e8, mm_un e7, mm_un e6, mm_un e5, mm_un e4, mm_un e3, mm_un e2, mm_un e1, mm_us]; exact h0
  rw [mm_un e14, mm_un e13, mm_un e12, mm_un e11, mm_un e10, mm_un e9, mm_un e8, mm_un e7, mm_un e6, mm_un e5, mm_un e4, mm_un e3, mm_un e2, mm_un e1, mm_un e0]
  exact hf j e0 e1 e2 e3 e4 e5 e6 e7 e8 e9 e10 e11 e12 e13 e14
theorem mm_e16 {w w' : mm_M} {a0 a1 a2 a3 a4 a5 a6 a7 a8 a9 a10 a11 a12 a13 a14 a15 : Nat} {x0 x1 x2 x3 x4 x5 x6 x7 x8 x9 x10 x11 x12 x13 x14 x15 : va_E} (h0 : w' a0 = some x0) (h1 : w' a1 = some x1) (h2 : w' a2 = some x2) (h3 : w' a3 = some x3) (h4 : w' a4 = some x4) (h5 : w' a5 = some x5) (h6 : w' a6 = some x6) (h7 : w' a7 = some x7) (h8 : w' a8 = some x8) (h9 : w' a9 = some x9) (h10 : w' a10 = some x10) (h11 : w' a11 = some x11) (h12 : w' a12 = some x12) (h13 : w' a13 = some x13) (h14 : w' a14 = some x14) (h15 : w' a15 = some x15) (hf : ∀ j, j ≠ a0 → j ≠ a1 → j ≠ a2 → j ≠ a3 → j ≠ a4 → j ≠ a5 → j ≠ a6 → j ≠ a7 → j ≠ a8 → j ≠ a9 → j ≠ a10 → j ≠ a11 → j ≠ a12 → j ≠ a13 → j ≠ a14 → j ≠ a15 → w' j = w j) : w' = mm_up (mm_up (mm_up (mm_up (mm_up (mm_up (mm_up (mm_up (mm_up (mm_up (mm_up (mm_up (mm_up (mm_up (mm_up (mm_up w a0 x0) a1 x1) a2 x2) a3 x3) a4 x4) a5 x5) a6 x6) a7 x7) a8 x8) a9 x9) a10 x10) a11 x11) a12 x12) a13 x13) a14 x14) a15 x15 := by
  funext j
  by_cases e15 : j = a15
  · subst e15; rw [mm_us]; exact h15
  by_cases e14 : j = a14
  · subst e14; rw [mm_un e15, mm_us]; exact h14
  by_cases e13 : j = a13
  · subst e13; rw [mm_un e15, mm_un e14, mm_us]; exact h13
  by_cases e12 : j = a12
  · subst e12; rw [mm_un e15, mm_un e14, mm_un e13, mm_us]; exact h12
  by_cases e11 : j = a11
  · subst e11; rw [mm_un e15, mm_un e14, mm_un e13, mm_un e12, mm_us]; exact h11
  by_cases e10 : j = a10
  · subst e10; rw [mm_un e15, mm_un e14, mm_un e13, mm_un e12, mm_un e11, mm_us]; exact h10
  by_cases e9 : j = a9
  · subst e9; rw [mm_un e15, mm_un e14, mm_un e13, mm_un e12, mm_un e11, mm_un e10, mm_us]; exact h9
  by_cases e8 : j = a8
  · subst e8; rw [mm_un e15, mm_un e14, mm_un e13, mm_un e12, mm_un e11, mm_un e10, mm_un e9, mm_us]; exact h8
  by_cases e7 : j = a7
  · subst e7; rw [mm_un e15, mm_un e14, mm_un e13, mm_un e12, mm_un e11, mm_un e10, mm_un e9, mm_un e8, mm_us]; exact h7
  by_cases e6 : j = a6
  · subst e6; rw [mm_un e15, mm_un e14, mm_un e13, mm_un e12, mm_un e11, mm_un e10, mm_un e9, mm_un e8, mm_un e7, mm_us]; exact h6
  by_cases e5 : j = a5
  · subst e5; rw [mm_un e15, mm_un e14, mm_un e13, mm_un e12, mm_un e11, mm_un e10, mm_un e9, mm_un e8, mm_un e7, mm_un e6, mm_us]; exact h5
  by_cases e4 : j = a4
  · subst e4; rw [mm_un e15, mm_un e14, mm_un e13, mm_un e12, mm_un e11, mm_un e10, mm_un e9, mm_un e8, mm_un e7, mm_un e6, mm_un e5, mm_us]; exact h4
  by_cases e3 : j = a3
  · subst e3; rw [mm_un e15, mm_un e14, mm_un e13, mm_un e12, mm_un e11, mm_un e10, mm_un e9, mm_un e8, mm_un e7, mm_un e6, mm_un e5, mm_un e4, mm_us]; exact h3
  by_cases e2 : j = a2
  · subst e2; rw [mm_un e15, mm_un e14, mm_un e13, mm_un e12, mm_un e11, mm_un e10, mm_un e9, mm_un e8, mm_un e7, mm_un e6, mm_un e5, mm_un e4, mm_un e3, mm_us]; exact h2
  by_cases e1 : j = a1
  · subst e1; rw [mm_un e15, mm_un e14, mm_un e13, mm_un e12, mm_un e11, mm_un e10, mm_un e9, mm_un e8, mm_un e7, mm_un e6, mm_un e5, mm_un e4, mm_un e3, mm_un e2, mm_us]; exact h1
  by_cases e0 : j = a0
  · subst e0; rw [mm_un e15, mm_un e14, mm_un e13, mm_un e12, mm_un e11, mm_un e10, mm_un e9, mm_un e8, mm_un e7, mm_un e6, mm_un e5, mm_un e4, mm_un e3, mm_un e2, mm_un e1, mm_us]; exact h0
  rw [mm_un e15, mm_un e14, mm_un e13, mm_un e12, mm_un e11, mm_un e10, mm_un e9, mm_un e8, mm_un e7, mm_un e6, mm_un e5, mm_un e4, mm_un e3, mm_un e2, mm_un e1, mm_un e0]
  exact hf j e0 e1 e2 e3 e4 e5 e6 e7 e8 e9 e10 e11 e12 e13 e14 e15
theorem mm_e17 {w w' : mm_M} {a0 a1 a2 a3 a4 a5 a6 a7 a8 a9 a10 a11 a12 a13 a14 a15 a16 : Nat} {x0 x1 x2 x3 x4 x5 x6 x7 x8 x9 x10 x11 x12 x13 x14 x15 x16 : va_E} (h0 : w' a0 = some x0) (h1 : w' a1 = some x1) (h2 : w' a2 = some x2) (h3 : w' a3 = some x3) (h4 : w' a4 = some x4) (h5 : w' a5 = some x5) (h6 : w' a6 = some x6) (h7 : w' a7 = some x7) (h8 : w' a8 = some x8) (h9 : w' a9 = some x9) (h10 : w' a10 = some x10) (h11 : w' a11 = some x11) (h12 : w' a12 = some x12) (h13 : w' a13 = some x13) (h14 : w' a14 = some x14) (h15 : w' a15 = some x15) (h16 : w' a16 = some x16) (hf : ∀ j, j ≠ a0 → j ≠ a1 → j ≠ a2 → j ≠ a3 → j ≠ a4 → j ≠ a5 → j ≠ a6 → j ≠ a7 → j ≠ a8 → j ≠ a9 → j ≠ a10 → j ≠ a11 → j ≠ a12 → j ≠ a13 → j ≠ a14 → j ≠ a15 → j ≠ a16 → w' j = w j) : w' = mm_up (mm_up (mm_up (mm_up (mm_up (mm_up (mm_up (mm_up (mm_up (mm_up (mm_up (mm_up (mm_up (mm_up (mm_up (mm_up (mm_up w a0 x0) a1 x1) a2 x2) a3 x3) a4 x4) a5 x5) a6 x6) a7 x7) a8 x8) a9 x9) a10 x10) a11 x11) a12 x12) a13 x13) a14 x14) a15 x15) a16 x16 := by
  funext j
  by_cases e16 : j = a16
  · subst e16; rw [mm_us]; exact h16
  by_cases e15 : j = a15
  · subst e15; rw [mm_un e16, mm_us]; exact h15
  by_cases e14 : j = a14
  · subst e14; rw [mm_un e16, mm_un e15, mm_us]; exact h14
  by_cases e13 : j = a13
  · subst e13; rw [mm_un e16, mm_un e15, mm_un e14, mm_us]; exact h13
  by_cases e12 : j = a12
  · subst e12; rw [mm_un e16, mm_un e15, mm_un e14, mm_un e13, mm_us]; exact h12
  by_cases e11 : j = a11
  · subst e11; rw [mm_un e16, mm_un e15, mm_un e14, mm_un e13, mm_un e12, mm_us]; exact h11
  by_cases e10 : j = a10
  · subst e10; rw [mm_un e16, mm_un e15, mm_un e14, mm_un e13, mm_un e12, mm_un e11, mm_us]; exact h10
  by_cases e9 : j = a9
  · subst e9; rw [mm_un e16, mm_un e15, mm_un e14, mm_un e13, mm_un e12, mm_un e11, mm_un e10, mm_us]; exact h9
  by_cases e8 : j = a8
  · subst e8; rw [mm_un e16, mm_un e15, mm_un e14, mm_un e13, mm_un e12, mm_un e11, mm_un e10, mm_un e9, mm_us]; exact h8
  by_cases e7 : j = a7
  · subst e7; rw [mm_un e16, mm_un e15, mm_un e14, mm_un e13, mm_un e12, mm_un e11, mm_un e10, mm_un e9, mm_un e8, mm_us]; exact h7
  by_cases e6 : j = a6
  · subst e6; rw [mm_un e16, mm_un e15, mm_un e14, mm_un e13, mm_un e12, mm_un e11, mm_un e10, mm_un e9, mm_un e8, mm_un e7, mm_us]; exact h6
  by_cases e5 : j = a5
  · subst e5; rw [mm_un e16, mm_un e15, mm_un e14, mm_un e13, mm_un e12, mm_un e11, mm_un e10, mm_un e9, mm_un e8, mm_un e7, mm_un e6, mm_us]; exact h5
  by_cases e4 : j = a4
  · subst e4; rw [mm_un e16, mm_un e15, mm_un e14, mm_un e13, mm_un e12, mm_un e11, mm_un e10, mm_un e9, mm_un e8, mm_un e7, mm_un e6, mm_un e5, mm_us]; exact h4
  by_cases e3 : j = a3
  · subst e3; rw [mm_un e16, mm_un e15, mm_un e14, mm_un e13, mm_un e12, mm_un e11, mm_un e10, mm_un e9, mm_un e8, mm_un e7, mm_un e6, mm_un e5, mm_un e4, mm_us]; exact h3
  by_cases e2 : j = a2
  · subst e2; rw [mm_un e16, mm_un e15, mm_un e14, mm_un e13, mm_un e12, mm_un e11, mm_un e10, mm_un e9, mm_un e8, mm_un e7, mm_un e6, mm_un e5, mm_un e4, mm_un e3, mm_us]; exact h2
  by_cases e1 : j = a1
  · subst e1; rw [mm_un e16, mm_un e15, mm_un e14, mm_un e13, mm_un e12, mm_un e11, mm_un e10, mm_un e9, mm_un e8, mm_un e7, mm_un e6, mm_un e5, mm_un e4, mm_un e3, mm_un e2, mm_us]; exact h1
  by_cases e0 : j = a0
  · subst e0; rw [mm_un e16, mm_un e15, mm_un e14, mm_un e13, mm_un e12, mm_un e11, mm_un e10, mm_un e9, mm_un e8, mm_un e7, mm_un e6, mm_un e5, mm_un e4, mm_un e3, mm_un e2, mm_un e1, mm_us]; exact h0
  rw [mm_un e16, mm_un e15, mm_un e14, mm_un e13, mm_un e12, mm_un e11, mm_un e10, mm_un e9, mm_un e8, mm_un e7, mm_un e6, mm_un e5, mm_un e4, mm_un e3, mm_un e2, mm_un e1, mm_un e0]
  exact hf j e0 e1 e2 e3 e4 e5 e6 e7 e8 e9 e10 e11 e12 e13 e14 e15 e16
def mm_P (B : Nat) (D : va_G) (cl : List vw_C) (w : mm_M) (H : Heap) : Prop := ∀ (a : Nat) (x : va_E), w a = some x → B ≤ a ∧ va_at D cl (a, x) H
abbrev mm_S (B : Nat) (H0 H : Heap) (locs : List Loc) : Prop := va_S (fun q => B ≤ q) H0 H locs
theorem mm_one {D : va_G} {cl : List vw_C} {a : Nat} {x : va_E} {H : Heap} (h : va_at D cl (a, x) H) : va_P D cl [(a, x)] H := fun k q hk => by
  have hz : k < 1 := (List.getElem?_eq_some_iff.mp hk).1
  rw [show k = 0 by omega] at hk
  cases hk
  exact h
theorem mm_P.set {B : Nat} {D : va_G} {cl : List vw_C} {w : mm_M} {H H1 : Heap} {a : Nat} {x : va_E} (h : mm_P B D cl w H) (hB : B ≤ a) (hx : va_at D cl (a, x) H1) (oq : ∀ q : Nat, q ≠ a → H1[q]? = H[q]?) : mm_P B D cl (mm_up w a x) H1 := by
  intro b y hb
  by_cases hba : b = a
  · subst hba
    rw [mm_us] at hb
    cases hb
    exact ⟨hB, hx⟩
  · rw [mm_un hba] at hb
    exact ⟨(h b y hb).1, (h b y hb).2.kept (oq b hba)⟩
theorem mm_P.lt {B : Nat} {D : va_G} {cl : List vw_C} {w : mm_M} {H : Heap} {a : Nat} {x : va_E} (h : mm_P B D cl w H) (hx : w a = some x) : a < H.size := (h a x hx).2.lt
theorem mm_P.new {B : Nat} {D : va_G} {cl : List vw_C} {w : mm_M} {H H1 : Heap} {a : Nat} {x : va_E} (h : mm_P B D cl w H) (ha : H.size = a) (hB : B ≤ a) (hx : va_at D cl (a, x) H1) (oq : ∀ q : Nat, q < a → H1[q]? = H[q]?) : mm_P B D cl (mm_up w a x) H1 := by
  intro b y hb
  by_cases hba : b = a
  · subst hba
    rw [mm_us] at hb
    cases hb
    exact ⟨hB, hx⟩
  · rw [mm_un hba] at hb
    have hl := h.lt hb
    exact ⟨(h b y hb).1, (h b y hb).2.kept (oq b (by omega))⟩
-- an array's contents count only below its length
theorem mm_arr {cA : ClassId} {n : Nat} {f g : Nat → Int32} (h : ∀ j, j < n → f j = g j) : vp_cell cA (n, .inl f) = vp_cell cA (n, .inl g) := by
  rw [vp_cell_i, vp_cell_i]
  unfold arrV
  rw [show (fun j : Fin n => Value.int (f j.val)) = (fun j : Fin n => Value.int (g j.val)) from funext fun j => by rw [h j.val j.isLt]]
theorem mm_P.norm {B : Nat} {D : va_G} {cl : List vw_C} {w : mm_M} {H : Heap} {a : Nat} {cA : ClassId} {n : Nat} {f g : Nat → Int32} (hP : mm_P B D cl w H) (he : w a = some (.inl (cA, n, .inl f))) (h : ∀ j, j < n → f j = g j) : mm_P B D cl (mm_up w a (.inl (cA, n, .inl g))) H :=
  hP.set (hP _ _ he).1 (show H[a]? = some (vp_cell _ _) by rw [← mm_arr h]; exact (hP _ _ he).2) (fun _ _ => rfl)
section MMrows
variable {p : Program} {l : Launch} {e : Env} {R : Room} {s : State} {m : MethodId} {args : Array Value} {below : List Frame} {meth : Method} {c : Code} {H : Heap} {locs : List Loc} {cells slots : Nat} {Q : State → Prop}
variable {cc : ByteArray} {pc : Nat} {ls : Array Slot} {rest : List Value} {D : va_G} {cl : List vw_C} {a : Nat} {tys : List (ClassId × FieldType)} {H0 : Heap} {B : Nat} {w : mm_M}
theorem mm_get (hexec : p.tables.exec = Jvm.exec) (hb : c.code = cc) {own ref C : String} {T : u_T} {N ci index : Nat} {Ts : List Cond} (hts : ∀ w ∈ Ts, w.before args s = true) (hin : ∀ w ∈ u_ws C T N, w ∈ Ts) (hown : s.vm.findClass own = some m.cls) (hK : va_K D cl tys s) (hP : mm_P B D cl w H) {fs : List Value} (he : w a = some (.inr (ci, fs))) (hc : cl[ci]? = some (C, T, N)) (k : Nat) (hk : k < N) (hlink : (Cond.fieldLink own index ref (T k).2.1 (T k).2.2.1).before args s = true) (hsame : ∀ x, s.fieldFound? (T k).1 (T k).2.1 (T k).2.2.1 = some x → s.fieldFound? ref (T k).2.1 (T k).2.2.1 = some x) {v : Value} (hv : fs[k]? = some v) (hdg : decode cc pc = .ok (.getfield index, 3))
    (kk : W p l e R s m args below meth c H locs cells slots Q (F0 m (pc + 3) ls (v :: rest))) : W p l e R s m args below meth c H locs cells slots Q (F0 m pc ls (.ref a :: rest)) :=
  va_get hexec hb hts hin hown hK (mm_one (hP _ _ he).2) 0 rfl hc k hk hlink hsame hv hdg kk
theorem mm_getN (hexec : p.tables.exec = Jvm.exec) (hb : c.code = cc) {own ref C host : String} {T : u_T} {N ci index : Nat} {Ts : List Cond} (hts : ∀ w ∈ Ts, w.before args s = true) (hin : ∀ w ∈ u_ws C T N, w ∈ Ts) (hown : s.vm.findClass own = some m.cls) (hK : va_K D cl tys s) (hP : mm_P B D cl w H) {fs : List Value} (he : w a = some (.inr (ci, fs))) (hc : cl[ci]? = some (C, T, N)) (k : Nat) (hk : k < N) (hlink : va_Nw (.fieldLinkNest own index ref (T k).2.1 (T k).2.2.1 host) s) (hsame : ∀ x, s.fieldFound? (T k).1 (T k).2.1 (T k).2.2.1 = some x → s.fieldFound? ref (T k).2.1 (T k).2.2.1 = some x) {v : Value} (hv : fs[k]? = some v) (hdg : decode cc pc = .ok (.getfield index, 3))
    (kk : W p l e R s m args below meth c H locs cells slots Q (F0 m (pc + 3) ls (v :: rest))) : W p l e R s m args below meth c H locs cells slots Q (F0 m pc ls (.ref a :: rest)) :=
  va_getN hexec hb hts hin hown hK (mm_one (hP _ _ he).2) 0 rfl hc k hk (va_Nw.use rfl hlink) hsame hv hdg kk
theorem mm_iald (hexec : p.tables.exec = Jvm.exec) (hb : c.code = cc) (hK : va_K D cl tys s) (hP : mm_P B D cl w H) (t0 : Nat) {cA : ClassId} {n : Nat} {f : Nat → Int32} (ha : w a = some (.inl (cA, n, .inl f))) (ht : tys[t0]? = some (cA, .int)) {i : Int32} (k : Nat) (hi : i = nI k) (hk : k < n) (hn : n < 2 ^ 31) (hdg : decode cc pc = .ok (.iaload, 1))
    (kk : W p l e R s m args below meth c H locs cells slots Q (F0 m (pc + 1) ls (.int (f k) :: rest))) : W p l e R s m args below meth c H locs cells slots Q (F0 m pc ls (.int i :: .ref a :: rest)) := by
  subst hi
  refine va_iald hexec hb hK (mm_one (hP _ _ ha).2) 0 t0 rfl ht (vp_in_nI hk hn) hdg ?_
  rw [nI_clamp (by omega)]
  exact kk
theorem mm_zald (hexec : p.tables.exec = Jvm.exec) (hb : c.code = cc) (hK : va_K D cl tys s) (hP : mm_P B D cl w H) (t0 : Nat) {cA : ClassId} {n : Nat} {f : Nat → Int32} (ha : w a = some (.inl (cA, n, .inl f))) (ht : tys[t0]? = some (cA, .boolean)) {i : Int32} (k : Nat) (hi : i = nI k) (hk : k < n) (hn : n < 2 ^ 31) (hdg : decode cc pc = .ok (.baload, 1))
    (kk : W p l e R s m args below meth c H locs cells slots Q (F0 m (pc + 1) ls (.int (f k) :: rest))) : W p l e R s m args below meth c H locs cells slots Q (F0 m pc ls (.int i :: .ref a :: rest)) := by
  subst hi
  refine va_zald hexec hb hK (mm_one (hP _ _ ha).2) 0 t0 rfl ht (vp_in_nI hk hn) hdg ?_
  rw [nI_clamp (by omega)]
  exact kk
theorem mm_aald (hexec : p.tables.exec = Jvm.exec) (hb : c.code = cc) (hK : va_K D cl tys s) (hP : mm_P B D cl w H) (t0 : Nat) {cA : ClassId} {C : String} {n : Nat} {f : Nat → Option Nat} (ha : w a = some (.inl (cA, n, .inr (.inr (.inr (.inr f)))))) (ht : tys[t0]? = some (cA, .object C)) {i : Int32} (k : Nat) (hi : i = nI k) (hk : k < n) (hn : n < 2 ^ 31) (hdg : decode cc pc = .ok (.aaload, 1))
    (kk : W p l e R s m args below meth c H locs cells slots Q (F0 m (pc + 1) ls (va_rf (f k) :: rest))) : W p l e R s m args below meth c H locs cells slots Q (F0 m pc ls (.int i :: .ref a :: rest)) := by
  subst hi
  refine va_aldq hexec hb hK (mm_one (hP _ _ ha).2) 0 t0 rfl ht (vp_in_nI hk hn) hdg ?_
  rw [nI_clamp (by omega)]
  exact kk
theorem mm_alen (hexec : p.tables.exec = Jvm.exec) (hb : c.code = cc) (hK : va_K D cl tys s) (hP : mm_P B D cl w H) (t0 : Nat) {cA : ClassId} {x : vp_A} (ha : w a = some (.inl (cA, x))) {ty : FieldType} (ht : tys[t0]? = some (cA, ty)) (hdg : decode cc pc = .ok (.arraylength, 1))
    (kk : W p l e R s m args below meth c H locs cells slots Q (F0 m (pc + 1) ls (.int (nI x.1) :: rest))) : W p l e R s m args below meth c H locs cells slots Q (F0 m pc ls (.ref a :: rest)) :=
  va_alen hexec hb hK (mm_one (hP _ _ ha).2) 0 t0 rfl ht rfl hdg kk
-- writes: by the kit's low rows, which say the heap's size and that all else stays
theorem mm_S.put {locs : List Loc} {H1 : Heap} {k : Nat} (h : mm_S B H0 H locs) (z : H1.size = H.size) (oq : ∀ q : Nat, q ≠ a → H1[q]? = H[q]?) (ha : B ≤ a) : mm_S B H0 H1 (locs ++ [⟨a, k⟩]) := va_S.put h z oq ha
theorem mm_iast (hexec : p.tables.exec = Jvm.exec) (hb : c.code = cc) (hK : va_K D cl tys s) (hP : mm_P B D cl w H) (hS : mm_S B H0 H locs) (t0 : Nat) {cA : ClassId} {n : Nat} {f : Nat → Int32} (ha : w a = some (.inl (cA, n, .inl f))) (ht : tys[t0]? = some (cA, .int)) {i x : Int32} (k : Nat) (hi : i = nI k) (hk : k < n) (hn : n < 2 ^ 31) (hdg : decode cc pc = .ok (.iastore, 1))
    (kk : ∀ (H1 : Heap) (locs1 : List Loc), mm_P B D cl (mm_up w a (.inl (cA, n, .inl (upd f k x)))) H1 → H1.size = H.size → mm_S B H0 H1 locs1 → W p l e R s m args below meth c H1 locs1 cells slots Q (F0 m (pc + 1) ls rest)) : W p l e R s m args below meth c H locs cells slots Q (F0 m pc ls (.int x :: .int i :: .ref a :: rest)) := by
  subst hi
  obtain ⟨hB, hc0⟩ := hP _ _ ha
  have hc0 : H[a]? = some (vp_cell cA (n, .inl f)) := hc0
  refine W.iast hexec hb hc0 ((hK.2 t0 _ ht).1 n (fun j => .int (f j))) (fun q => by cases q) (by show ¬ (nI k < 0 ∨ (arrV _ _ _).slots.size ≤ _); rw [arrV_size]; exact vp_in_nI hk hn) rfl rfl hdg fun H1 e1 z oq => ?_
  refine kk H1 _ (hP.set hB ?_ oq) z (va_S.put hS z oq hB)
  show H1[a]? = some (vp_cell _ _)
  rw [e1, vp_cell_i, vp_cell_i, arrV_store, nI_clamp (by omega)]
  congr 2
  funext q
  by_cases hq : q = k
  · subst hq; simp [updV, upd]
  · simp [updV, upd, hq]
theorem mm_zast (hexec : p.tables.exec = Jvm.exec) (hb : c.code = cc) (hK : va_K D cl tys s) (hP : mm_P B D cl w H) (hS : mm_S B H0 H locs) (t0 : Nat) {cA : ClassId} {n : Nat} {f : Nat → Int32} (ha : w a = some (.inl (cA, n, .inl f))) (ht : tys[t0]? = some (cA, .boolean)) {i x : Int32} (k : Nat) (hi : i = nI k) (hk : k < n) (hn : n < 2 ^ 31) (hx : narrow .boolean (.int x) = .int x) (hdg : decode cc pc = .ok (.bastore, 1))
    (kk : ∀ (H1 : Heap) (locs1 : List Loc), mm_P B D cl (mm_up w a (.inl (cA, n, .inl (upd f k x)))) H1 → H1.size = H.size → mm_S B H0 H1 locs1 → W p l e R s m args below meth c H1 locs1 cells slots Q (F0 m (pc + 1) ls rest)) : W p l e R s m args below meth c H locs cells slots Q (F0 m pc ls (.int x :: .int i :: .ref a :: rest)) := by
  subst hi
  obtain ⟨hB, hc0⟩ := hP _ _ ha
  have hc0 : H[a]? = some (vp_cell cA (n, .inl f)) := hc0
  refine W.zast hexec hb hc0 ((hK.2 t0 _ ht).1 n (fun j => .int (f j))) (fun q => by cases q) (by show ¬ (nI k < 0 ∨ (arrV _ _ _).slots.size ≤ _); rw [arrV_size]; exact vp_in_nI hk hn) rfl rfl hdg fun H1 e1 z oq => ?_
  refine kk H1 _ (hP.set hB ?_ oq) z (va_S.put hS z oq hB)
  show H1[a]? = some (vp_cell _ _)
  rw [e1, hx, vp_cell_i, vp_cell_i, arrV_store, nI_clamp (by omega)]
  congr 2
  funext q
  by_cases hq : q = k
  · subst hq; simp [updV, upd]
  · simp [updV, upd, hq]
theorem mm_S.new {locs : List Loc} {H1 : Heap} {h : Nat} (hS : mm_S B H0 H locs) (hh : H.size = h) (z : H1.size = h + 1) (oq : ∀ q : Nat, q < h → H1[q]? = H[q]?) : mm_S B H0 H1 locs :=
  ⟨Nat.le_trans hS.1 (by omega), fun x h1 h2 => (oq x (by have := hS.1; omega)).trans (hS.2.1 x h1 h2), hS.2.2⟩
theorem mm_put (hexec : p.tables.exec = Jvm.exec) (hb : c.code = cc) {own ref C : String} {T : u_T} {N ci index : Nat} {Ts : List Cond} (hts : ∀ w ∈ Ts, w.before args s = true) (hin : ∀ w ∈ u_ws C T N, w ∈ Ts) (ty0 : Nat → FieldType) (hty : ∀ k, k < N → parseFieldDescriptor (T k).2.2.1 = some (ty0 k)) (hnm : ∀ a, a < N → ∀ b, b < N → a ≠ b → (T a).2.1 ≠ (T b).2.1) (hown : s.vm.findClass own = some m.cls) (hK : va_K D cl tys s) (hP : mm_P B D cl w H) (hS0 : mm_S B H0 H locs) {fs : List Value} (he : w a = some (.inr (ci, fs))) (hc : cl[ci]? = some (C, T, N)) (k : Nat) (hk : k < N) (hlink : (Cond.fieldLink own index ref (T k).2.1 (T k).2.2.1).before args s = true) (hsame : ∀ x, s.fieldFound? (T k).1 (T k).2.1 (T k).2.2.1 = some x → s.fieldFound? ref (T k).2.1 (T k).2.2.1 = some x) (hfin : (T k).2.2.2 = false) {ty : FieldType} {v : Value} (hd : parseFieldDescriptor (T k).2.2.1 = some ty) (hn : narrow ty v = v) (hfit : fits ty v = true) (hl : k < fs.length)
    (hdg : decode cc pc = .ok (.putfield index, 3)) (kk : ∀ (H1 : Heap) (locs1 : List Loc), mm_P B D cl (mm_up w a (.inr (ci, fs.set k v))) H1 → H1.size = H.size → mm_S B H0 H1 locs1 → W p l e R s m args below meth c H1 locs1 cells slots Q (F0 m (pc + 3) ls rest)) : W p l e R s m args below meth c H locs cells slots Q (F0 m pc ls (v :: .ref a :: rest)) := by
  have hap := va_apart (own := own) hts hin ty0 hty hnm hK hc
  obtain ⟨hB, r, h1, cell, q1, q2, q3, q4⟩ := hP _ _ he
  have hr : r = (C, T, N) := Option.some.inj (h1.symm.trans hc)
  subst hr
  obtain ⟨hS, hfc, kC, hkC, hkind⟩ := hK.1 ci _ hc
  obtain ⟨cf, kf, fi, f, hi, hsl⟩ := hS k hk
  have hlay := hts _ (hin _ (u_in_lay hk))
  unfold u_lay at hlay
  rw [if_neg (by rw [hfin]; decide)] at hlay
  have hst := (u_facts hfc hkC (u_lays hts hin hk) hi).1
  have h6 := u_store hfc hkC hkind hlay hi hd hn hfit
  refine W.putK hexec hb (f := f) ⟨hown, hlink, ⟨_, _, _, hsame _ hi⟩, hst⟩ (by rw [q2]; exact h6) q1 q3 (by rw [hsl]; exact k2_hasslot (q4 k hk)) rfl rfl hdg fun H' e1 e2 e3 => ?_
  rw [hsl] at e1 ⊢
  exact kk H' _ (hP.set hB ⟨_, hc, t_OB.to (V := updV (vp_V fs) k v) ⟨_, e1, q2, q3, t_set q4 hap hk v⟩ (fun j _ => vp_updV_set hl v j)⟩ e3) e2 (va_S.put hS0 e2 e3 hB)
theorem mm_putN (hexec : p.tables.exec = Jvm.exec) (hb : c.code = cc) {own ref C host : String} {T : u_T} {N ci index : Nat} {Ts : List Cond} (hts : ∀ w ∈ Ts, w.before args s = true) (hin : ∀ w ∈ u_ws C T N, w ∈ Ts) (ty0 : Nat → FieldType) (hty : ∀ k, k < N → parseFieldDescriptor (T k).2.2.1 = some (ty0 k)) (hnm : ∀ a, a < N → ∀ b, b < N → a ≠ b → (T a).2.1 ≠ (T b).2.1) (hown : s.vm.findClass own = some m.cls) (hK : va_K D cl tys s) (hP : mm_P B D cl w H) (hS0 : mm_S B H0 H locs) {fs : List Value} (he : w a = some (.inr (ci, fs))) (hc : cl[ci]? = some (C, T, N)) (k : Nat) (hk : k < N) (hlink : va_Nw (.fieldLinkNest own index ref (T k).2.1 (T k).2.2.1 host) s) (hsame : ∀ x, s.fieldFound? (T k).1 (T k).2.1 (T k).2.2.1 = some x → s.fieldFound? ref (T k).2.1 (T k).2.2.1 = some x) (hfin : (T k).2.2.2 = false) {ty : FieldType} {v : Value} (hd : parseFieldDescriptor (T k).2.2.1 = some ty) (hn : narrow ty v = v) (hfit : fits ty v = true) (hl : k < fs.length)
    (hdg : decode cc pc = .ok (.putfield index, 3)) (kk : ∀ (H1 : Heap) (locs1 : List Loc), mm_P B D cl (mm_up w a (.inr (ci, fs.set k v))) H1 → H1.size = H.size → mm_S B H0 H1 locs1 → W p l e R s m args below meth c H1 locs1 cells slots Q (F0 m (pc + 3) ls rest)) : W p l e R s m args below meth c H locs cells slots Q (F0 m pc ls (v :: .ref a :: rest)) := by
  have hap := va_apart (own := own) hts hin ty0 hty hnm hK hc
  obtain ⟨hB, r, h1, cell, q1, q2, q3, q4⟩ := hP _ _ he
  have hr : r = (C, T, N) := Option.some.inj (h1.symm.trans hc)
  subst hr
  obtain ⟨hS, hfc, kC, hkC, hkind⟩ := hK.1 ci _ hc
  obtain ⟨cf, kf, fi, f, hi, hsl⟩ := hS k hk
  have hlay := hts _ (hin _ (u_in_lay hk))
  unfold u_lay at hlay
  rw [if_neg (by rw [hfin]; decide)] at hlay
  have hst := (u_facts hfc hkC (u_lays hts hin hk) hi).1
  have h6 := u_store hfc hkC hkind hlay hi hd hn hfit
  refine va_WputK hexec hb (f := f) hown (va_Nw.use rfl hlink) (hsame _ hi) hst (by rw [q2]; exact h6) q1 q3 (by rw [hsl]; exact k2_hasslot (q4 k hk)) rfl rfl hdg fun H' e1 e2 e3 => ?_
  rw [hsl] at e1 ⊢
  exact kk H' _ (hP.set hB ⟨_, hc, t_OB.to (V := updV (vp_V fs) k v) ⟨_, e1, q2, q3, t_set q4 hap hk v⟩ (fun j _ => vp_updV_set hl v j)⟩ e3) e2 (va_S.put hS0 e2 e3 hB)
theorem mm_putF (hexec : p.tables.exec = Jvm.exec) (hb : c.code = cc) {own ref C : String} {T : u_T} {N ci index : Nat} {Ts : List Cond} (hts : ∀ w ∈ Ts, w.before args s = true) (hin : ∀ w ∈ u_ws C T N, w ∈ Ts) (ty0 : Nat → FieldType) (hty : ∀ k, k < N → parseFieldDescriptor (T k).2.2.1 = some (ty0 k)) (hnm : ∀ a, a < N → ∀ b, b < N → a ≠ b → (T a).2.1 ≠ (T b).2.1) (hown : s.vm.findClass own = some m.cls) (hK : va_K D cl tys s) (hP : mm_P B D cl w H) (hS0 : mm_S B H0 H locs) {fs : List Value} (he : w a = some (.inr (ci, fs))) (hc : cl[ci]? = some (C, T, N)) (k : Nat) (hk : k < N) (hlink : (Cond.fieldLink own index ref (T k).2.1 (T k).2.2.1).before args s = true) (hsame : ∀ x, s.fieldFound? (T k).1 (T k).2.1 (T k).2.2.1 = some x → s.fieldFound? ref (T k).2.1 (T k).2.2.1 = some x) (hfin : (T k).2.2.2 = true) (hin2 : meth.name = "<init>") (hdecl : (T k).1 = own) {ty : FieldType} {v : Value} (hd : parseFieldDescriptor (T k).2.2.1 = some ty) (hn : narrow ty v = v) (hfit : fits ty v = true) (hl : k < fs.length)
    (hdg : decode cc pc = .ok (.putfield index, 3)) (kk : ∀ (H1 : Heap) (locs1 : List Loc), mm_P B D cl (mm_up w a (.inr (ci, fs.set k v))) H1 → H1.size = H.size → mm_S B H0 H1 locs1 → W p l e R s m args below meth c H1 locs1 cells slots Q (F0 m (pc + 3) ls rest)) : W p l e R s m args below meth c H locs cells slots Q (F0 m pc ls (v :: .ref a :: rest)) := by
  have hap := va_apart (own := own) hts hin ty0 hty hnm hK hc
  obtain ⟨hB, r, h1, cell, q1, q2, q3, q4⟩ := hP _ _ he
  have hr : r = (C, T, N) := Option.some.inj (h1.symm.trans hc)
  subst hr
  obtain ⟨hS, hfc, kC, hkC, hkind⟩ := hK.1 ci _ hc
  obtain ⟨cf, kf, fi, f, hi, hsl⟩ := hS k hk
  have hlay := hts _ (hin _ (u_in_lay hk))
  unfold u_lay at hlay
  rw [if_pos hfin] at hlay
  have hst := (u_facts hfc hkC (u_lays hts hin hk) hi).1
  have hcf : m.cls = cf := by
    obtain ⟨_, _, c', _, _, _, -, -, hf', -, -, -, hown2, -⟩ := Cond.laysFinal_spec hlay
    have e1 : c' = cf := by have := hi.symm.trans hf'; simp at this; exact this.1.symm
    rw [hdecl] at hown2
    rw [← e1]; exact Option.some.inj (hown.symm.trans hown2)
  have h6 := u_fits hfc hkC hkind (Or.inr hlay) hi hd hn hfit
  refine W.putFinK hexec hb hown hlink (hsame _ hi) hst hcf hin2 (by rw [q2]; exact h6) q1 q3 (by rw [hsl]; exact k2_hasslot (q4 k hk)) rfl rfl hdg fun H' e1 e2 e3 => ?_
  rw [hsl] at e1 ⊢
  exact kk H' _ (hP.set hB ⟨_, hc, t_OB.to (V := updV (vp_V fs) k v) ⟨_, e1, q2, q3, t_set q4 hap hk v⟩ (fun j _ => vp_updV_set hl v j)⟩ e3) e2 (va_S.put hS0 e2 e3 hB)
theorem mm_new (hexec : p.tables.exec = Jvm.exec) (hb : c.code = cc) {own C : String} {T : u_T} {N ci index : Nat} {Ts : List Cond} (hts : ∀ w ∈ Ts, w.before args s = true) (hin : ∀ w ∈ u_ws C T N, w ∈ Ts) (ty : Nat → FieldType) (hty : ∀ k, k < N → parseFieldDescriptor (T k).2.2.1 = some (ty k)) (hown : s.vm.findClass own = some m.cls) (hcl : (Cond.classLink own index C).before args s = true) (hinst : (Cond.instantiable C N).before args s = true) (hini : (Cond.initialized C).before args s = true)
    (hK : va_K D cl tys s) (hP : mm_P B D cl w H) (hS : mm_S B H0 H locs) (hc : cl[ci]? = some (C, T, N)) {fs : List Value} (hfs : ∀ j, j < N → defaultValue (ty j) = vp_V fs j) (hcells : cells + 1 ≤ R.cells) (hslots : slots + N ≤ R.slots) {h : Nat} (hh : H.size = h) (hB : B ≤ h) (hdg : decode cc pc = .ok (.new index, 3))
    (kk : ∀ H1 : Heap, mm_P B D cl (mm_up w h (.inr (ci, fs))) H1 → H1.size = h + 1 → mm_S B H0 H1 locs →
      W p l e R s m args below meth c H1 locs (cells + 1) (slots + N) Q (F0 m (pc + 3) ls (.ref h :: rest))) : W p l e R s m args below meth c H locs cells slots Q (F0 m pc ls rest) := by
  have hKn := hK.1 ci _ hc
  refine W.newcK hexec hb hown hcl hinst hini rfl hdg hcells hslots hKn.2.1 hh fun H1 kC hkC e1 z1 o1 => ?_
  exact kk H1 (hP.new hh hB ⟨_, hc, (u_born ty hts hin hKn hkC e1 hty).to hfs⟩ o1) z1 (mm_S.new hS hh z1 o1)
theorem mm_newa (hexec : p.tables.exec = Jvm.exec) (hb : c.code = cc) {atype : ArrayType} (harr : (Cond.arrayClass (newarray.typeOf atype)).before args s = true) {cA : ClassId} (hnm : s.vm.findClass ("[" ++ (newarray.typeOf atype).toString) = some cA) (hP : mm_P B D cl w H) (hS : mm_S B H0 H locs)
    {n : Int32} {N' : Nat} {a0 : vp_A} (ha : ∀ cA : ClassId, vp_cell cA a0 = arrV cA N' (fun _ => defaultValue (newarray.typeOf atype))) (hn : ¬ n < 0) (hN : n.toNatClampNeg = N') (hbytes : N' * componentBytes (newarray.typeOf atype) ≤ 536870912) (hcells : cells + 1 ≤ R.cells) (hslots : slots + N' ≤ R.slots) {h : Nat} (hh : H.size = h) (hB : B ≤ h) (hdg : decode cc pc = .ok (.newarray atype, 2))
    (kk : ∀ H1 : Heap, mm_P B D cl (mm_up w h (.inl (cA, a0))) H1 → H1.size = h + 1 → mm_S B H0 H1 locs →
      W p l e R s m args below meth c H1 locs (cells + 1) (slots + N') Q (F0 m (pc + 2) ls (.ref h :: rest))) : W p l e R s m args below meth c H locs cells slots Q (F0 m pc ls (.int n :: rest)) := by
  refine va_newaK hexec hb harr rfl hdg rfl hn hN hbytes hcells hslots hh fun H1 cA' e1 z1 o1 _ hNm => ?_
  cases hnm.symm.trans hNm
  exact kk H1 (hP.new hh hB (show H1[h]? = some (vp_cell _ _) by rw [ha]; exact e1) o1) z1 (mm_S.new hS hh z1 o1)
theorem mm_newq (hexec : p.tables.exec = Jvm.exec) (hb : c.code = cc) {own C : String} {index : Nat} (hown : s.vm.findClass own = some m.cls) (hclink : (Cond.classLink own index C).before args s = true) (hover : va_AO C s) {cA : ClassId} (hRA : va_RA s cA (.object C)) (hP : mm_P B D cl w H) (hS : mm_S B H0 H locs)
    {n : Int32} {N' : Nat} (hn : ¬ n < 0) (hN : n.toNatClampNeg = N') (hbytes : N' * 4 ≤ 536870912) (hcells : cells + 1 ≤ R.cells) (hslots : slots + N' ≤ R.slots) {h : Nat} (hh : H.size = h) (hB : B ≤ h) (hdg : decode cc pc = .ok (.anewarray index, 3))
    (kk : ∀ H1 : Heap, mm_P B D cl (mm_up w h (.inl (cA, N', .inr (.inr (.inr (.inr (fun _ => none))))))) H1 → H1.size = h + 1 → mm_S B H0 H1 locs →
      W p l e R s m args below meth c H1 locs (cells + 1) (slots + N') Q (F0 m (pc + 3) ls (.ref h :: rest))) : W p l e R s m args below meth c H locs cells slots Q (F0 m pc ls (.int n :: rest)) := by
  subst hN
  subst hh
  refine W.anew hexec hb hown hclink (va_AO.use hover) rfl hdg rfl hn hbytes hcells hslots fun cA' kA comp f1 f2 f3 f4 => ?_
  obtain ⟨kA0, comp0, g1, g2, g3, g4⟩ := hRA
  cases g4.symm.trans f1
  generalize hH1 : H.push ({ cls := cA, slots := Array.replicate n.toNatClampNeg .null, vm := .none } : Cell) = H1
  have z1 : H1.size = H.size + 1 := by rw [← hH1, Array.size_push]
  have e1 : H1[H.size]? = some (arrV cA n.toNatClampNeg (fun _ => .null)) := by rw [← hH1, Array.getElem?_push_size, ← arrV_new]
  have o1 : ∀ q : Nat, q < H.size → H1[q]? = H[q]? := fun q hq => by rw [← hH1, Array.getElem?_push, if_neg (Nat.ne_of_lt hq)]
  exact kk H1 (hP.new rfl hB (show H1[H.size]? = some (vp_cell _ _) by rw [vp_cell_q]; exact e1) o1) z1 (mm_S.new hS rfl z1 o1)
theorem mm_any {v ci : Nat} {fs : List Value} {r : vw_C} {E : String} (hK : va_K D cl tys s) (hP : mm_P B D cl w H) (he : w v = some (.inr (ci, fs))) (hc : cl[ci]? = some r) (hcs : va_Nw (.castable r.1 E) s) : va_Any E s H v :=
  va_rAny (q0 := 0) hK (mm_one (hP _ _ he).2) rfl hc (fun comp c0 h1 h2 => by
    obtain ⟨c1, t1, f1, f2, f3⟩ := Cond.castable_spec (va_Nw.use (A := #[]) rfl hcs)
    cases f1.symm.trans h2
    cases f2.symm.trans h1
    exact f3)
theorem mm_recv {v ci : Nat} {fs : List Value} {r : vw_C} (hK : va_K D cl tys s) (hP : mm_P B D cl w H) (he : w v = some (.inr (ci, fs))) (hc : cl[ci]? = some r) : ∃ cell : Cell, H[v]? = some cell ∧ cell.vm.isStatics = false ∧ s.vm.findClass r.1 = some cell.cls :=
  va_recv (q0 := 0) hK (mm_one (hP _ _ he).2) hc rfl
theorem mm_aast (hexec : p.tables.exec = Jvm.exec) (hb : c.code = cc) (hK : va_K D cl tys s) (hP : mm_P B D cl w H) (hS : mm_S B H0 H locs) (t0 : Nat) {E : String} {cA : ClassId} {n v : Nat} {f : Nat → Option Nat} (ha : w a = some (.inl (cA, n, .inr (.inr (.inr (.inr f)))))) (ht : tys[t0]? = some (cA, .object E)) (hr : va_Any E s H v) {i : Int32} (k : Nat) (hi : i = nI k) (hk : k < n) (hn : n < 2 ^ 31) (hdg : decode cc pc = .ok (.aastore, 1))
    (kk : ∀ (H1 : Heap) (locs1 : List Loc), mm_P B D cl (mm_up w a (.inl (cA, n, .inr (.inr (.inr (.inr (va_up f k (some v)))))))) H1 → H1.size = H.size → mm_S B H0 H1 locs1 → W p l e R s m args below meth c H1 locs1 cells slots Q (F0 m (pc + 1) ls rest)) : W p l e R s m args below meth c H locs cells slots Q (F0 m pc ls (.ref v :: .int i :: .ref a :: rest)) := by
  subst hi
  obtain ⟨hB, hc0⟩ := hP _ _ ha
  have hc0 : H[a]? = some (vp_cell cA (n, .inr (.inr (.inr (.inr f))))) := hc0
  have hcl := nI_clamp (n := k) (by omega)
  obtain ⟨cellV, g1, g3, ⟨kC, hkC⟩, hasg⟩ := hr
  obtain ⟨kA, comp, k1, k2, k3, -⟩ := (hK.2 t0 _ ht).2
  obtain ⟨kE, hkE, -⟩ := Vm.findClass_spec k3
  refine W.aast hexec hb hc0 (fun q h => by cases h) (fun h => by cases h) k1 k2 rfl hkE ⟨nI_pos (by omega), by show _ < (arrV _ _ _).slots.size; rw [arrV_size, hcl]; exact hk⟩ g1 (fun q h => by rw [h] at g3; cases g3) hkC (hasg _ k3) rfl rfl hdg fun H1 e1 z oq => ?_
  refine kk H1 _ (hP.set hB ?_ oq) z (va_S.put hS z oq hB)
  show H1[a]? = some (vp_cell _ _)
  rw [e1, vp_cell_q, vp_cell_q, arrV_store, hcl]
  congr 2
  funext q
  by_cases hq : q = k
  · subst hq; simp [updV, va_up, va_rf]
  · simp [updV, va_up, hq]
-- a part of an array of ints moved within it
theorem mm_copyi (hexec : p.tables.exec = Jvm.exec) (hb : c.code = cc) (hml : c.maxLocals = ls.size) {own : String} {index : Nat} (hown : s.vm.findClass own = some m.cls) (hlink : (Cond.methodLink own index arraycopyName).before args s = true) (hnat : (Cond.native arraycopyName).before args s = true) (hstat : (Cond.static arraycopyName).before args s = true) (hini : (Cond.initialized "java/lang/System").before args s = true)
    (hK : va_K D cl tys s) (hP : mm_P B D cl w H) (hS : mm_S B H0 H locs) (t0 : Nat) {cA : ClassId} {n0 : Nat} {f : Nat → Int32} (ha : w a = some (.inl (cA, n0, .inl f))) (ht : tys[t0]? = some (cA, .int))
    {i j k : Int32} (sp dp n : Nat) (hi : i = nI sp) (hj : j = nI dp) (hk : k = nI n) (h4 : sp + n ≤ n0) (h5 : dp + n ≤ n0) (hn0 : n0 < 2 ^ 31)
    (hframes : 1 ≤ R.frames) (hlocals : (rest.map fun v => v.category).sum + (nativeFrameWords "java/lang/System" "arraycopy" 5 + 11) ≤ R.locals) (hdg : decode cc pc = .ok (.invokestatic index, 3))
    (kk : ∀ (H1 : Heap) (locs1 : List Loc), mm_P B D cl (mm_up w a (.inl (cA, n0, .inl (va_cpy f f sp dp n)))) H1 → H1.size = H.size → mm_S B H0 H1 locs1 → W p l e R s m args below meth c H1 locs1 cells slots Q (F0 m (pc + 3) ls rest)) : W p l e R s m args below meth c H locs cells slots Q (F0 m pc ls (.int k :: .int j :: .ref a :: .int i :: .ref a :: rest)) := by
  subst hi; subst hj; subst hk
  have c1 := nI_clamp (n := sp) (by omega)
  have c2 := nI_clamp (n := dp) (by omega)
  have c3 := nI_clamp (n := n) (by omega)
  have t1 := nI_toInt (n := sp) (by omega)
  have t2 := nI_toInt (n := dp) (by omega)
  have t3 := nI_toInt (n := n) (by omega)
  obtain ⟨hB, hc0⟩ := hP _ _ ha
  have hc0 : H[a]? = some (vp_cell cA (n0, .inl f)) := hc0
  intro T hT X
  obtain ⟨-, k0, hk0, cm0, hkk0⟩ := (hK.2 t0 _ ht).1 n0 (fun j => .int (f j))
  obtain ⟨vm', X', step⟩ := X.arraycopy hexec hown hlink hnat hstat hini (src := a) (dst := a) (cs := vp_cell cA (n0, .inl f)) (cd := vp_cell cA (n0, .inl f)) (srcPos := nI sp) (destPos := nI dp) (n := nI n) (by rw [hT]; exact hc0) (by rw [hT]; exact hc0)
    (fun _ h => by cases h) (fun _ h => by cases h) (fun h => by cases h) (fun h => by cases h) hk0 hk0 hkk0 hkk0 (by simp [refKind]) (nI_pos (by omega)) (nI_pos (by omega)) (nI_pos (by omega))
    (by rw [t1, t3]; show ¬ _ > ((arrV cA n0 (fun j => .int (f j))).slots.size : Int); rw [arrV_size]; omega)
    (by rw [t2, t3]; show ¬ _ > ((arrV cA n0 (fun j => .int (f j))).slots.size : Int); rw [arrV_size]; omega)
    (fun vm₁ _ q hq => by
      have e0 : (vp_cell cA (n0, .inl f)).slots.getD ((nI sp).toNatClampNeg + q) .null = .int (f ((nI sp).toNatClampNeg + q)) := by
        show (arrV cA n0 (fun j => .int (f j))).slots.getD _ _ = _
        rw [Array.getD_eq_getD_getElem?, arrV_read _ _ (by omega)]
        rfl
      refine ⟨?_, ?_⟩
      · rw [e0]; rfl
      · rw [e0]; exact trivial)
    (g := F0 m pc ls (.int (nI n) :: .int (nI dp) :: .ref a :: .int (nI sp) :: .ref a :: rest)) rfl (by rw [hml]) (rest := rest) rfl (by rw [hb]; exact hdg) hframes (by show 2 * 0 + _ + _ ≤ _; omega)
  have e1 : copied (vp_cell cA (n0, .inl f)) (vp_cell cA (n0, .inl f)) (nI sp) (nI dp) (nI n) = vp_cell cA (n0, .inl (va_cpy f f (nI sp).toNatClampNeg (nI dp).toNatClampNeg (nI n).toNatClampNeg)) := va_copied (fun z => .int z) cA cA f f (by rw [c1, c3]; exact h4)
  rw [c1, c2, c3] at e1
  rw [e1] at X' step
  have hl : a < H.size := (Array.getElem?_eq_some_iff.mp hc0).1
  have hheap : ((T.setVm vm').setCell a (vp_cell cA (n0, .inl (va_cpy f f sp dp n)))).heap = H.setIfInBounds a (vp_cell cA (n0, .inl (va_cpy f f sp dp n))) := by rw [← hT]; rfl
  have oq : ∀ q : Nat, q ≠ a → (H.setIfInBounds a (vp_cell cA (n0, .inl (va_cpy f f sp dp n))))[q]? = H[q]? := fun q hq => by simp [Array.getElem?_setIfInBounds, Ne.symm hq]
  obtain ⟨t, a1, b1⟩ := kk _ _ (hP.set hB (show (H.setIfInBounds a _)[a]? = some _ by simp [Array.getElem?_setIfInBounds, hl]) oq) (by simp) ⟨by simp; exact hS.1, fun q g1 g2 => by
      rw [oq q (fun e => g2 (by rw [e]; exact hB))]
      exact hS.2.1 q g1 g2, fun q hq => by
      rcases List.mem_append.mp hq with h | h
      · exact hS.2.2 q h
      · obtain ⟨z, -, hz⟩ := List.mem_map.mp h
        rw [← hz]
        exact hB⟩ _ hheap X'
  exact ⟨t, step t a1, b1⟩
end MMrows
