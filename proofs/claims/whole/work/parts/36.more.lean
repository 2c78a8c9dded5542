-- what the questions answer
def me_V (N : Nat → Nat → Nat) (S : Nat → Nat → Int32) (t : Int32) : Nat → Nat := dm_run (ru_M N S t) 300 (fun _ => 1000)
theorem me_V_le (N : Nat → Nat → Nat) (S : Nat → Nat → Int32) (t : Int32) : ∀ j, me_V N S t j ≤ 1000 := dm_run_1000 _ _ _ (fun _ => Nat.le_refl _)
def me_P (v : Nat → Nat) (n : Nat) : Nat → Bool := fun y => decide (¬ dm_ofs v n y = 1000)
def me_r (N : Nat → Nat → Nat) (S : Nat → Nat → Int32) (su t : Int32) : Int32 := if wf_sub su then nI (dm_set (me_P (me_V N S t) su.toNatClampNeg) 8) else -1
def me_N (N : Nat → Nat → Nat) (S : Nat → Nat → Int32) (su t : Int32) : Nat → Nat → Nat := if wf_sub su then va_up N 14 (fun j => dm_ph (me_V N S t j)) else N
theorem me_r_pos {N : Nat → Nat → Nat} {S : Nat → Nat → Int32} {su t : Int32} {n : Nat} (h : wf_sub su) (e : su = nI n) (hn : n < 2 ^ 31) : me_r N S su t = nI (dm_set (me_P (me_V N S t) n) 8) := by
  unfold me_r
  rw [if_pos h, e, nI_clamp hn]
abbrev co_ok (su ky : Int32) : Prop := wf_sub su ∧ kk_lim ky 8
def co_r (N : Nat → Nat → Nat) (S : Nat → Nat → Int32) (su ky t : Int32) : Int32 := if co_ok su ky then (if dm_ofs (me_V N S t) su.toNatClampNeg ky.toNatClampNeg = 1000 then -1 else nI (dm_ofs (me_V N S t) su.toNatClampNeg ky.toNatClampNeg)) else -1
def co_N (N : Nat → Nat → Nat) (S : Nat → Nat → Int32) (su ky t : Int32) : Nat → Nat → Nat := if co_ok su ky then va_up N 14 (fun j => dm_ph (me_V N S t j)) else N
theorem co_r_pos {N : Nat → Nat → Nat} {S : Nat → Nat → Int32} {t : Int32} {n y : Nat} (h : co_ok (nI n) (nI y)) (hn : n < 2 ^ 31) (hy : y < 2 ^ 31) : co_r N S (nI n) (nI y) t = (if dm_ofs (me_V N S t) n y = 1000 then -1 else nI (dm_ofs (me_V N S t) n y)) := by
  unfold co_r
  rw [if_pos h, nI_clamp hn, nI_clamp hy]
theorem me_t {x : Nat} (hx : x ≤ 1000) (h : 5000 ≤ dm_ph x) : x = 1000 := by
  unfold dm_ph at h
  split at h <;> omega
theorem me_f {x : Nat} (hx : x ≤ 1000) (h : ¬ 5000 ≤ dm_ph x) : ¬ x = 1000 := by
  unfold dm_ph at h
  split at h <;> omega
theorem dm_ph_id {x : Nat} (hx : x ≤ 1000) (h : ¬ x = 1000) : dm_ph x = x := by
  unfold dm_ph
  split <;> omega
theorem dm_set_t {P : Nat → Bool} {k : Nat} (h : P k = true) : dm_set P k + 2 ^ k = dm_set P (k + 1) := (if_pos h).symm
theorem dm_set_f {P : Nat → Bool} {k : Nat} (h : ¬ P k = true) : dm_set P k = dm_set P (k + 1) := (if_neg h).symm
