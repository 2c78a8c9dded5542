theorem ld_R_14 (N : Nat → Nat → Nat) (S : Nat → Nat → Int32) (a v : Nat → Nat) (x o : Nat) (z t : Int32) : ld_R (va_up N 14 a) S v x o z t = ld_R N S v x o z t := rfl
theorem ld_U_14 (N : Nat → Nat → Nat) (S : Nat → Nat → Int32) (a v : Nat → Nat) (x o : Nat) (z t : Int32) : ld_U (va_up N 14 a) S v x o z t = ld_U N S v x o z t := rfl
theorem ld_U_le (N : Nat → Nat → Nat) (S : Nat → Nat → Int32) (v : Nat → Nat) (x o : Nat) (z t : Int32) : ∀ j, ld_U N S v x o z t j ≤ 1000 := dm_run_1000 _ _ _ (fun _ => Nat.le_refl _)
abbrev ma_ok (ky op : Int32) : Prop := kk_lim ky 8 ∧ kk_lim op 8
def ma_u (N : Nat → Nat → Nat) (S : Nat → Nat → Int32) (ky op z t : Int32) : Nat → Nat := ld_U N S (me_V N S t) ky.toNatClampNeg op.toNatClampNeg z t
def ma_c (N : Nat → Nat → Nat) (S : Nat → Nat → Int32) (ky op z t : Int32) : Nat := dm_L (N 3) (ma_u N S ky op z t) (N 0 0) 8
def ma_r (N : Nat → Nat → Nat) (S : Nat → Nat → Int32) (ky op z t : Int32) : Int32 := if ma_ok ky op then (if ma_c N S ky op z t = 1000 then -1 else nI (ma_c N S ky op z t)) else -1
def ma_N (N : Nat → Nat → Nat) (S : Nat → Nat → Int32) (ky op z t : Int32) : Nat → Nat → Nat := if ma_ok ky op then va_up (va_up N 14 (fun j => dm_ph (me_V N S t j))) 15 (fun j => dm_ph (ma_u N S ky op z t j)) else N
theorem ma_u_n {N : Nat → Nat → Nat} {S : Nat → Nat → Int32} {y o : Nat} {z t : Int32} (hy : y < 2 ^ 31) (ho : o < 2 ^ 31) : ma_u N S (nI y) (nI o) z t = ld_U N S (me_V N S t) y o z t := by
  unfold ma_u
  rw [nI_clamp hy, nI_clamp ho]
theorem ma_r_pos {N : Nat → Nat → Nat} {S : Nat → Nat → Int32} {y o : Nat} {z t : Int32} (h : ma_ok (nI y) (nI o)) (hy : y < 2 ^ 31) (ho : o < 2 ^ 31) : ma_r N S (nI y) (nI o) z t = (if dm_L (N 3) (ld_U N S (me_V N S t) y o z t) (N 0 0) 8 = 1000 then -1 else nI (dm_L (N 3) (ld_U N S (me_V N S t) y o z t) (N 0 0) 8)) := by
  unfold ma_r ma_c
  rw [if_pos h, ma_u_n hy ho]
theorem ma_N_pos {N : Nat → Nat → Nat} {S : Nat → Nat → Int32} {y o : Nat} {z t : Int32} (h : ma_ok (nI y) (nI o)) (hy : y < 2 ^ 31) (ho : o < 2 ^ 31) : ma_N N S (nI y) (nI o) z t = va_up (va_up N 14 (fun j => dm_ph (me_V N S t j))) 15 (fun j => dm_ph (ld_U N S (me_V N S t) y o z t j)) := by
  unfold ma_N
  rw [if_pos h, ma_u_n hy ho]
