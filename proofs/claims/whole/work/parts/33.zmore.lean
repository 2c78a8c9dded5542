theorem kk_upp (v : Nat → Nat) (k x : Nat) : upd (fun i => nI (dm_ph (v i))) k (nI (dm_ph x)) = fun i => nI (dm_ph (va_up v k x i)) := by
  funext j
  unfold upd va_up
  by_cases h : j = k
  · rw [if_pos h, if_pos h]
  · rw [if_neg h, if_neg h]
theorem dm_ph_m1 {x y : Nat} (hx : x ≤ 1000) (hy : y ≤ 1000) (h : dm_ph x ≤ dm_ph y) : dm_ph x = dm_ph (min x y) := by
  unfold dm_ph at *
  (repeat' split) <;> (repeat' split at h) <;> omega
theorem dm_ph_m2 {x y : Nat} (hx : x ≤ 1000) (hy : y ≤ 1000) (h : ¬ dm_ph x ≤ dm_ph y) : dm_ph y = dm_ph (min x y) := by
  unfold dm_ph at *
  (repeat' split) <;> (repeat' split at h) <;> omega
theorem dm_ph_le_iff {x y : Nat} (hx : x ≤ 1000) (hy : y ≤ 1000) : dm_ph x ≤ dm_ph y ↔ x ≤ y := by
  unfold dm_ph
  (repeat' split) <;> omega
