-- the chain
def ch_sh (g : Nat → Nat) (a p n : Nat) : Nat → Nat := fun j => if a + p ≤ j ∧ j < a + n then g (j - a) else g j
theorem ch_sh_n (g : Nat → Nat) (a n : Nat) : ch_sh g a n n = g := by
  funext j
  exact if_neg (by omega)
theorem ch_sh_step {g : Nat → Nat} {a p n : Nat} (h : 1 ≤ p) (hn : p ≤ n) : (fun i => nI (va_up (ch_sh g a p n) (p - 1 + a) (ch_sh g a p n (p - 1)) i)) = fun i => nI (ch_sh g a (p - 1) n i) := by
  funext j
  congr 1
  show (if j = p - 1 + a then (if a + p ≤ p - 1 ∧ p - 1 < a + n then g (p - 1 - a) else g (p - 1)) else (if a + p ≤ j ∧ j < a + n then g (j - a) else g j)) = (if a + (p - 1) ≤ j ∧ j < a + n then g (j - a) else g j)
  by_cases e : j = p - 1 + a
  · rw [if_pos e, if_neg (by omega), if_pos (by omega), show j - a = p - 1 by omega]
  · rw [if_neg e]
    by_cases e2 : a + p ≤ j ∧ j < a + n
    · rw [if_pos e2, if_pos (by omega)]
    · rw [if_neg e2, if_neg (by omega)]
theorem ch_sh_0 (g : Nat → Nat) (a n : Nat) : ch_sh g a 0 n = va_cpy g g 0 a n := by
  funext j
  show (if a + 0 ≤ j ∧ j < a + n then g (j - a) else g j) = (if a ≤ j ∧ j < a + n then g (0 + (j - a)) else g j)
  rw [Nat.add_zero, Nat.zero_add]
theorem ch_put0 {g : Nat → Nat} {n k : Nat} (h : ch_a n = 0) : ch_sh g (ch_a n) 0 k = ch_put g n 0 k := by
  unfold ch_put
  rw [if_pos h, h, ch_sh_0]
theorem ch_put1 {g : Nat → Nat} {n k : Nat} (h : ch_a n = 1) : va_up (ch_sh g (ch_a n) 0 k) 0 (n / 8 % 5 - 1) = ch_put g n 0 k := by
  unfold ch_put
  rw [if_neg (by omega), if_pos h, h, ch_sh_0]
theorem ch_put2 {g : Nat → Nat} {n k : Nat} (h : ch_a n = 2) : va_up (va_up (ch_sh g (ch_a n) 0 k) 0 (n / 8 % 5 - 1)) 1 (n / 40 - 1) = ch_put g n 0 k := by
  unfold ch_put
  rw [if_neg (by omega), if_neg (by omega), h, ch_sh_0]
theorem ch_a_1 {n : Nat} (h : 0 < ch_a n) : ¬ n / 8 % 5 = 0 := fun q => by
  unfold ch_a at h
  rw [if_pos q] at h
  omega
theorem ch_a_2 {n : Nat} (h : 1 < ch_a n) : ¬ n / 40 = 0 := fun q => by
  unfold ch_a at h
  split at h <;> (try split at h) <;> omega
def ch_dr (g : Nat → Nat) (p : Nat) : Nat → Nat := fun j => if j < p then g (j + 1) else g j
theorem ch_dr_0 (g : Nat → Nat) : ch_dr g 0 = g := by
  funext j
  exact if_neg (by omega)
theorem ch_dr_step {g : Nat → Nat} {p : Nat} : (fun i => nI (va_up (ch_dr g p) p (ch_dr g p (p + 1)) i)) = fun i => nI (ch_dr g (p + 1) i) := by
  funext j
  congr 1
  show (if j = p then (if p + 1 < p then g (p + 1 + 1) else g (p + 1)) else (if j < p then g (j + 1) else g j)) = (if j < p + 1 then g (j + 1) else g j)
  by_cases e : j = p
  · rw [if_pos e, if_neg (by omega), if_pos (by omega), e]
  · rw [if_neg e]
    by_cases e2 : j < p
    · rw [if_pos e2, if_pos (by omega)]
    · rw [if_neg e2, if_neg (by omega)]
def pl_N (N : Nat → Nat → Nat) (n : Nat) : Nat → Nat → Nat := fun k => match k with
  | 17 => va_up (N 17) 0 (n % 8)
  | 18 => va_up (N 18) 0 (N 18 0 + ch_a n)
  | 19 => ch_put (N 19) n 0 (N 18 0)
  | k => N k
def dr_N (N : Nat → Nat → Nat) : Nat → Nat → Nat := fun k => match k with
  | 18 => va_up (N 18) 0 (N 18 0 - 1)
  | 19 => ch_dr (N 19) (N 18 0 - 1)
  | k => N k
def ch_I (N : Nat → Nat → Nat) : Prop := N 16 0 ≤ 1 ∧ N 17 0 ≤ 7 ∧ N 18 0 ≤ 4 ∧ N 20 0 < 256 ∧ N 25 0 < 2 ^ 20 ∧ N 26 0 ≤ 1 ∧ ∀ j, N 19 j ≤ 3
abbrev ft_ok (N : Nat → Nat → Nat) (j : Nat) : Prop := N 3 j = N 17 0 ∧ ((N 2 j = 0 ∧ N 8 j = 1 ∧ N 18 0 = 0 ∧ N 26 0 = 1) ∨ (¬ N 2 j = 0 ∧ 0 < N 18 0 ∧ N 19 0 = N 4 j ∧ N 18 0 - 1 + ch_a (N 7 (3 * j)) ≤ 4))
abbrev be_ok (N : Nat → Nat → Nat) (c : Int32) : Prop := re_tp N c ∧ N 3 c.toNatClampNeg = 8 ∧ N 8 c.toNatClampNeg = 1
abbrev fo_ok (N : Nat → Nat → Nat) (c : Int32) : Prop := N 16 0 = 1 ∧ re_th N c ∧ ft_ok N c.toNatClampNeg
abbrev gt_ok (N : Nat → Nat → Nat) (S : Nat → Nat → Int32) (o z t : Int32) : Prop := N 16 0 = 1 ∧ N 18 0 = 0 ∧ kk_lim o 8 ∧ N 20 0 / 2 ^ o.toNatClampNeg % 2 = 1 ∧ ¬ z < S 21 0 ∧ ¬ S 22 0 < z ∧ ¬ t < S 23 0 ∧ ¬ S 24 0 < t
abbrev bh_ok (N : Nat → Nat → Nat) (i : Int32) : Prop := N 16 0 = 1 ∧ ¬ i < 0 ∧ ¬ nI (N 18 0) ≤ i
-- begin: the chain as it stands behind it
def b0_N (N : Nat → Nat → Nat) : Nat → Nat → Nat := fun k => match k with
  | 16 => va_up (N 16) 0 1
  | 18 => va_up (N 18) 0 0
  | k => N k
def b1_N (N M : Nat → Nat → Nat) (j : Nat) : Nat → Nat → Nat := fun k => match k with
  | 20 => va_up (M 20) 0 (N 10 j)
  | 25 => va_up (M 25) 0 1
  | 26 => va_up (M 26) 0 (N 13 j)
  | k => M k
def b1_S (S : Nat → Nat → Int32) (j : Nat) : Nat → Nat → Int32 := fun k => match k with
  | 21 => upd (S 21) 0 (S 11 j)
  | 22 => upd (S 22) 0 (S 12 j)
  | 23 => upd (S 23) 0 (S 5 j)
  | 24 => upd (S 24) 0 (S 6 j)
  | k => S k
def be_N (N : Nat → Nat → Nat) (c : Int32) : Nat → Nat → Nat := if be_ok N c then b1_N N (pl_N (b0_N N) (N 7 (3 * c.toNatClampNeg))) c.toNatClampNeg else N
def be_S (N : Nat → Nat → Nat) (S : Nat → Nat → Int32) (c : Int32) : Nat → Nat → Int32 := if be_ok N c then b1_S S c.toNatClampNeg else S
theorem be_N_pos {N : Nat → Nat → Nat} {j : Nat} (hj : j < 2 ^ 31) (h : be_ok N (nI j)) : be_N N (nI j) = b1_N N (pl_N (b0_N N) (N 7 (3 * j))) j := by
  unfold be_N
  rw [if_pos h, nI_clamp hj]
theorem be_S_pos {N : Nat → Nat → Nat} {S : Nat → Nat → Int32} {j : Nat} (hj : j < 2 ^ 31) (h : be_ok N (nI j)) : be_S N S (nI j) = b1_S S j := by
  unfold be_S
  rw [if_pos h, nI_clamp hj]
theorem kk_m1dec {p : Nat} (h : 1 ≤ p) : nI p - nI 1 + Int32.ofInt (-1) = nI (p - 1) - nI 1 := by
  rw [pk_sub h]
  obtain ⟨q, rfl⟩ : ∃ q, p = q + 1 := ⟨p - 1, by omega⟩
  rw [show q + 1 - 1 = q by omega]
  show nI q + (-1) = nI q - nI 1
  rw [Int32.sub_eq_add_neg]
  rfl
