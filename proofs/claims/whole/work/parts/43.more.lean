def f0_N (N : Nat → Nat → Nat) (j : Nat) : Nat → Nat → Nat := fun k => match k with
  | 20 => va_up (N 20) 0 (N 20 0 &&& N 10 j)
  | 26 => va_up (N 26) 0 (N 13 j)
  | k => N k
def f1_N (M : Nat → Nat → Nat) : Nat → Nat → Nat := fun k => match k with
  | 25 => va_up (M 25) 0 (M 25 0 + 1)
  | k => M k
def f0_S (S : Nat → Nat → Int32) (j : Nat) : Nat → Nat → Int32 := fun k => match k with
  | 21 => upd (S 21) 0 (if S 21 0 < S 11 j then S 11 j else S 21 0)
  | 22 => upd (S 22) 0 (if S 12 j < S 22 0 then S 12 j else S 22 0)
  | k => S k
def f1_S (S : Nat → Nat → Int32) (j : Nat) : Nat → Nat → Int32 := fun k => match k with
  | 23 => upd (S 23) 0 (if S 23 0 < S 5 j then S 5 j else S 23 0)
  | 24 => upd (S 24) 0 (if S 6 j < S 24 0 then S 6 j else S 24 0)
  | k => S k
def fo_N (N : Nat → Nat → Nat) (c : Int32) : Nat → Nat → Nat := if fo_ok N c then f1_N (pl_N (if N 2 c.toNatClampNeg = 0 then f0_N N c.toNatClampNeg else dr_N N) (N 7 (3 * c.toNatClampNeg))) else N
def fo_S (N : Nat → Nat → Nat) (S : Nat → Nat → Int32) (c : Int32) : Nat → Nat → Int32 := if fo_ok N c then f1_S (if N 2 c.toNatClampNeg = 0 then f0_S S c.toNatClampNeg else S) c.toNatClampNeg else S
theorem fo_N_prm {N : Nat → Nat → Nat} {j : Nat} (hj : j < 2 ^ 31) (h : fo_ok N (nI j)) (h2 : N 2 j = 0) : fo_N N (nI j) = f1_N (pl_N (f0_N N j) (N 7 (3 * j))) := by
  unfold fo_N
  rw [if_pos h, nI_clamp hj, if_pos h2]
theorem fo_N_nam {N : Nat → Nat → Nat} {j : Nat} (hj : j < 2 ^ 31) (h : fo_ok N (nI j)) (h2 : ¬ N 2 j = 0) : fo_N N (nI j) = f1_N (pl_N (dr_N N) (N 7 (3 * j))) := by
  unfold fo_N
  rw [if_pos h, nI_clamp hj, if_neg h2]
theorem fo_S_prm {N : Nat → Nat → Nat} {S : Nat → Nat → Int32} {j : Nat} (hj : j < 2 ^ 31) (h : fo_ok N (nI j)) (h2 : N 2 j = 0) : fo_S N S (nI j) = f1_S (f0_S S j) j := by
  unfold fo_S
  rw [if_pos h, nI_clamp hj, if_pos h2]
theorem fo_S_nam {N : Nat → Nat → Nat} {S : Nat → Nat → Int32} {j : Nat} (hj : j < 2 ^ 31) (h : fo_ok N (nI j)) (h2 : ¬ N 2 j = 0) : fo_S N S (nI j) = f1_S S j := by
  unfold fo_S
  rw [if_pos h, nI_clamp hj, if_neg h2]
