def ho_P (N : Nat → Nat → Nat) (S : Nat → Nat → Int32) (o : Nat) (z t : Int32) : Nat → Bool := fun y => decide (¬ dm_L (N 3) (ld_U N S (me_V N S t) y o z t) (N 0 0) 8 = 1000)
def ho_r (N : Nat → Nat → Nat) (S : Nat → Nat → Int32) (op z t : Int32) : Int32 := if kk_lim op 8 then nI (dm_set (ho_P N S op.toNatClampNeg z t) 8) else nI 0
theorem ho_r_pos {N : Nat → Nat → Nat} {S : Nat → Nat → Int32} {op z t : Int32} {o : Nat} (h : kk_lim op 8) (e : op = nI o) (ho : o < 2 ^ 31) : ho_r N S op z t = nI (dm_set (ho_P N S o z t) 8) := by
  unfold ho_r
  rw [if_pos h, e, nI_clamp ho]
