theorem dm_L_1000 {iss u : Nat → Nat} : ∀ n i, dm_L iss u n i ≤ 1000
  | 0, _ => Nat.le_refl _
  | n + 1, i => by
    have ih := dm_L_1000 (iss := iss) (u := u) n i
    show (if iss n = i then min (dm_L iss u n i) (u n) else dm_L iss u n i) ≤ 1000
    split <;> omega
theorem dm_ph_eq {x y : Nat} (h : x = y) : nI (dm_ph x) = nI (dm_ph y) := by rw [h]
theorem kk_m2 (x : Nat) : x % 2 < 2 ^ 31 := by omega
def ld_f (N : Nat → Nat → Nat) (S : Nat → Nat → Int32) (v : Nat → Nat) (x o : Nat) (z t : Int32) : Nat → dm_R := fun c => if ld_ok N S o z t c then [(c, fun u => ld_v N v x c (dm_L (N 3) u (N 0 0)))] else []
def ld_R (N : Nat → Nat → Nat) (S : Nat → Nat → Int32) (v : Nat → Nat) (x o : Nat) (z t : Int32) : dm_R := dm_upto (ld_f N S v x o z t) (N 0 0)
def ld_U (N : Nat → Nat → Nat) (S : Nat → Nat → Int32) (v : Nat → Nat) (x o : Nat) (z t : Int32) : Nat → Nat := dm_run (ld_R N S v x o z t) 100 (fun _ => 1000)
theorem ld_v_le (N : Nat → Nat → Nat) (g : Nat → Nat) (x c : Nat) (l : Nat → Nat) : ld_v N g x c l ≤ 1000 := dm_s_le _ _
