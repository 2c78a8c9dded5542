-- what each call does to the numbers, for class and reference alike
def mk_N (N : Nat → Nat → Nat) (z is su : Nat) : Nat → Nat → Nat := fun k => match k with
  | 0 => va_up (N 0) 0 (N 0 0 + 1)
  | 1 => va_up (N 1) (N 0 0) 0
  | 2 => va_up (N 2) (N 0 0) z
  | 3 => va_up (N 3) (N 0 0) is
  | 7 => va_up (N 7) (3 * N 0 0) su
  | 8 => va_up (N 8) (N 0 0) 1
  | 9 => va_up (N 9) (N 0 0) 1
  | 10 => va_up (N 10) (N 0 0) 255
  | k => N k
def mk_S (S : Nat → Nat → Int32) (c : Nat) (fr to : Int32) : Nat → Nat → Int32 := fun k => match k with
  | 5 => upd (S 5) c fr
  | 6 => upd (S 6) c to
  | 11 => upd (S 11) c (-2147483648)
  | 12 => upd (S 12) c 2147483647
  | k => S k
-- a naming, a permission
def cm_N (N : Nat → Nat → Nat) (z is su nm dl : Nat) : Nat → Nat → Nat := fun k => match k with
  | 4 => va_up (N 4) (N 0 0) nm
  | 13 => va_up (N 13) (N 0 0) dl
  | k => mk_N N z is su k
abbrev kk_lim (x : Int32) (n : Nat) : Prop := ¬ x < 0 ∧ ¬ nI n ≤ x
abbrev na_ok (N : Nat → Nat → Nat) (is nm su : Int32) : Prop := kk_lim is 8 ∧ kk_lim nm 4 ∧ wf_sub su ∧ ¬ 24 ≤ N 0 0
abbrev pe_ok (N : Nat → Nat → Nat) (is su : Int32) : Prop := kk_lim is 9 ∧ wf_sub su ∧ ¬ 24 ≤ N 0 0
def na_N (N : Nat → Nat → Nat) (is nm su : Int32) : Nat → Nat → Nat := if na_ok N is nm su then cm_N N 1 is.toNatClampNeg su.toNatClampNeg nm.toNatClampNeg 0 else N
def na_S (N : Nat → Nat → Nat) (S : Nat → Nat → Int32) (is nm su fr to : Int32) : Nat → Nat → Int32 := if na_ok N is nm su then mk_S S (N 0 0) fr to else S
def pe_N (N : Nat → Nat → Nat) (is su dl : Int32) : Nat → Nat → Nat := if pe_ok N is su then cm_N N 0 is.toNatClampNeg su.toNatClampNeg 0 dl.toNatClampNeg else N
def pe_S (N : Nat → Nat → Nat) (S : Nat → Nat → Int32) (is su fr to : Int32) : Nat → Nat → Int32 := if pe_ok N is su then mk_S S (N 0 0) fr to else S
abbrev tg_ok (N : Nat → Nat → Nat) (c o lo hi : Int32) : Prop := re_tp N c ∧ kk_lim o 256 ∧ ¬ hi < lo
def tg_N (N : Nat → Nat → Nat) (c o lo hi : Int32) : Nat → Nat → Nat := if tg_ok N c o lo hi then va_up N 10 (va_up (N 10) c.toNatClampNeg o.toNatClampNeg) else N
def tg_S (N : Nat → Nat → Nat) (S : Nat → Nat → Int32) (c o lo hi : Int32) : Nat → Nat → Int32 := if tg_ok N c o lo hi then (fun k => match k with | 11 => upd (S 11) c.toNatClampNeg lo | 12 => upd (S 12) c.toNatClampNeg hi | k => S k) else S
abbrev al_ok (N : Nat → Nat → Nat) (c su : Int32) : Prop := re_tp N c ∧ wf_sub su ∧ N 8 c.toNatClampNeg < 3
def al_N (N : Nat → Nat → Nat) (c su : Int32) : Nat → Nat → Nat := if al_ok N c su then va_up (va_up N 7 (va_up (N 7) (3 * c.toNatClampNeg + N 8 c.toNatClampNeg) su.toNatClampNeg)) 8 (va_up (N 8) c.toNatClampNeg (N 8 c.toNatClampNeg + 1)) else N
abbrev qu_ok (N : Nat → Nat → Nat) (c k : Int32) : Prop := re_tp N c ∧ ¬ k < nI 1 ∧ ¬ nI (N 8 c.toNatClampNeg) < k
def qu_N (N : Nat → Nat → Nat) (c k : Int32) : Nat → Nat → Nat := if qu_ok N c k then va_up N 9 (va_up (N 9) c.toNatClampNeg k.toNatClampNeg) else N
def rv_N (N : Nat → Nat → Nat) (c : Int32) : Nat → Nat → Nat := if re_th N c then va_up N 1 (va_up (N 1) c.toNatClampNeg 1) else N
theorem kk_gt {x : Int32} {n : Nat} (hn : n + 1 < 2 ^ 31) : nI n < x ↔ nI (n + 1) ≤ x := by
  rw [Int32.lt_iff_toInt_lt, Int32.le_iff_toInt_le, nI_toInt (by omega), nI_toInt hn]
  omega
theorem kk_lim_of {x : Int32} {n : Nat} (h : kk_lim x n) (hn : n < 2 ^ 31) : ∃ k, k < n ∧ x = nI k := kk_ofn h.1 h.2 hn
