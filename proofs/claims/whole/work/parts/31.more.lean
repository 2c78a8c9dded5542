theorem re_in {N : Nat → Nat → Nat} (hn : N 0 0 ≤ 24) {nr : Int32} (h : ¬ (nr < 0 ∨ nI (N 0 0) ≤ nr)) : ∃ j, j < N 0 0 ∧ nr = nI j := (re_split hn nr).elim (fun q => absurd q h) id
theorem kk_gtm {x : Int32} (n k : Nat) (h : k = n + 1) (hk : k < 2 ^ 31) : nI n < x ↔ nI k ≤ x := by
  subst h; exact kk_gt hk
theorem kk_rng {x : Int32} {a b : Nat} (h1 : ¬ x < nI a) (h2 : x ≤ nI b) (ha : a < 2 ^ 31) (hb : b < 2 ^ 31) : ∃ q, a ≤ q ∧ q ≤ b ∧ x = nI q := by
  have h0 : ¬ x < 0 := by
    rw [← nI_0]
    intro q
    rw [Int32.lt_iff_toInt_lt, nI_toInt (by omega)] at *
    omega
  obtain ⟨j, hj, rfl⟩ := nI_of h0
  exact ⟨j, Nat.le_of_not_lt (fun q => h1 ((nI_ltI hj ha).mpr q)), (nI_leI hj hb).mp h2, rfl⟩
def sp_S (S : Nat → Nat → Int32) (j : Nat) (lo hi : Int32) : Nat → Nat → Int32 := fun k => match k with
  | 11 => upd (S 11) j lo
  | 12 => upd (S 12) j hi
  | k => S k
theorem tg_S_pos {N : Nat → Nat → Nat} {S : Nat → Nat → Int32} {j : Nat} {o lo hi : Int32} (hj : j < 2 ^ 31) (h : tg_ok N (nI j) o lo hi) : tg_S N S (nI j) o lo hi = sp_S S j lo hi := by
  unfold tg_S
  rw [if_pos h, nI_clamp hj]
  rfl
theorem tg_N_pos {N : Nat → Nat → Nat} {j o : Nat} {lo hi : Int32} (hj : j < 2 ^ 31) (ho : o < 2 ^ 31) (h : tg_ok N (nI j) (nI o) lo hi) : tg_N N (nI j) (nI o) lo hi = va_up N 10 (va_up (N 10) j o) := by
  unfold tg_N
  rw [if_pos h, nI_clamp hj, nI_clamp ho]
theorem al_N_pos {N : Nat → Nat → Nat} {j q : Nat} (hj : j < 2 ^ 31) (hq : q < 2 ^ 31) (h : al_ok N (nI j) (nI q)) : al_N N (nI j) (nI q) = va_up (va_up N 7 (va_up (N 7) (3 * j + N 8 j) q)) 8 (va_up (N 8) j (N 8 j + 1)) := by
  unfold al_N
  rw [if_pos h, nI_clamp hj, nI_clamp hq]
theorem qu_N_pos {N : Nat → Nat → Nat} {j q : Nat} (hj : j < 2 ^ 31) (hq : q < 2 ^ 31) (h : qu_ok N (nI j) (nI q)) : qu_N N (nI j) (nI q) = va_up N 9 (va_up (N 9) j q) := by
  unfold qu_N
  rw [if_pos h, nI_clamp hj, nI_clamp hq]
theorem rv_N_pos {N : Nat → Nat → Nat} {j : Nat} (hj : j < 2 ^ 31) (h : re_th N (nI j)) : rv_N N (nI j) = va_up N 1 (va_up (N 1) j 1) := by
  unfold rv_N
  rw [if_pos h, nI_clamp hj]
theorem na_N_pos {N : Nat → Nat → Nat} {a b d : Nat} (ha : a < 2 ^ 31) (hb : b < 2 ^ 31) (hd : d < 2 ^ 31) (h : na_ok N (nI a) (nI b) (nI d)) : na_N N (nI a) (nI b) (nI d) = cm_N N 1 a d b 0 := by
  unfold na_N
  rw [if_pos h, nI_clamp ha, nI_clamp hb, nI_clamp hd]
theorem pe_N_pos {N : Nat → Nat → Nat} {a b d : Nat} (ha : a < 2 ^ 31) (hb : b < 2 ^ 31) (hd : d < 2 ^ 31) (h : pe_ok N (nI a) (nI b)) : pe_N N (nI a) (nI b) (nI d) = cm_N N 0 a b 0 d := by
  unfold pe_N
  rw [if_pos h, nI_clamp ha, nI_clamp hb, nI_clamp hd]
