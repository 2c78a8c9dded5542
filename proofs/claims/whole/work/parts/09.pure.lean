-- the reference's numbers: 5000 where the class has 1000
def dm_ph (x : Nat) : Nat := if 1000 ≤ x then 5000 else x
theorem dm_ph_le (x : Nat) : dm_ph x ≤ 5000 := by
  unfold dm_ph
  split <;> omega
theorem dm_ph_lt {x y : Nat} (hx : x ≤ 1000) (hy : y ≤ 1000) : dm_ph x < dm_ph y ↔ x < y := by
  unfold dm_ph
  split <;> split <;> omega
theorem dm_ph_n {x : Nat} (hx : x ≤ 1000) : dm_ph x = 5000 ↔ x = 1000 := by
  unfold dm_ph
  split <;> omega
theorem dm_ph_s {x y : Nat} (hx : x ≤ 1000) (hy : y ≤ 1000) : dm_ph (dm_s x y) = if dm_ph x = 5000 then 5000 else if dm_ph y = 5000 then 5000 else if 999 < dm_ph x + dm_ph y then 999 else dm_ph x + dm_ph y := by
  unfold dm_s dm_ph
  (repeat' split) <;> omega
theorem dm_ph_min {x y : Nat} (hx : x ≤ 1000) (hy : y ≤ 1000) : (if dm_ph y < dm_ph x then dm_ph y else dm_ph x) = dm_ph (min x y) := by
  unfold dm_ph
  (repeat' split) <;> omega
theorem dm_s_if (x y : Nat) (hx : x ≤ 1000) (hy : y ≤ 1000) : dm_s x y = if x = 1000 then 1000 else if y = 1000 then 1000 else if 999 < x + y then 999 else x + y := by
  unfold dm_s
  (repeat' split) <;> omega
-- the class's sorting in
def dm_ins (g : Nat → Nat) : Nat → Nat → Nat → Nat
  | 0, x => va_up g 0 x
  | i + 1, x => if x < g i then dm_ins (va_up g (i + 1) (g i)) i x else va_up g (i + 1) x
def dm_sum (g : Nat → Nat) : Nat → Nat
  | 0 => 1
  | k + 1 => dm_s (dm_sum g k) (g k)
theorem dm_ins1 (g : Nat → Nat) (a q : Nat) (ha : a ≤ 1000) (h1 : 1 ≤ q) (h2 : q ≤ 1) : dm_sum (dm_ins g 0 a) q = dm_s (dm_q a 1000 1000 q) 1 := by
  obtain rfl : q = 1 := by omega
  simp [dm_ins, dm_sum, va_up, dm_q, dm_s]
  (repeat' split) <;> omega
theorem dm_ins2 (g : Nat → Nat) (a b q : Nat) (ha : a ≤ 1000) (hb : b ≤ 1000) (h1 : 1 ≤ q) (h2 : q ≤ 2) : dm_sum (dm_ins (dm_ins g 0 a) 1 b) q = dm_s (dm_q a b 1000 q) 1 := by
  rcases (show q = 1 ∨ q = 2 by omega) with rfl | rfl <;> by_cases h : b < a <;> simp [dm_ins, dm_sum, va_up, dm_q, dm_s, h] <;> (repeat' split) <;> omega
theorem dm_s_mono {x y z : Nat} (h : y ≤ z) : dm_s x y ≤ dm_s x z := by
  unfold dm_s
  (repeat' split) <;> omega
theorem dm_ins3o (g : Nat → Nat) (a b c : Nat) : ∃ x y z, (dm_ins (dm_ins (dm_ins g 0 a) 1 b) 2 c 0 = x ∧ dm_ins (dm_ins (dm_ins g 0 a) 1 b) 2 c 1 = y ∧ dm_ins (dm_ins (dm_ins g 0 a) 1 b) 2 c 2 = z) ∧ (x ≤ y ∧ y ≤ z) ∧ ((a = x ∧ b = y ∧ c = z) ∨ (a = x ∧ c = y ∧ b = z) ∨ (b = x ∧ a = y ∧ c = z) ∨ (b = x ∧ c = y ∧ a = z) ∨ (c = x ∧ a = y ∧ b = z) ∨ (c = x ∧ b = y ∧ a = z)) := by
  by_cases h : b < a <;> by_cases h3 : c < a <;> by_cases h4 : c < b <;> refine ⟨_, _, _, ⟨rfl, rfl, rfl⟩, ?_⟩ <;> simp [dm_ins, va_up, h, h3, h4] <;> omega
theorem dm_ins3 (g : Nat → Nat) (a b c q : Nat) (h1 : 1 ≤ q) (h2 : q ≤ 3) : dm_sum (dm_ins (dm_ins (dm_ins g 0 a) 1 b) 2 c) q = dm_s (dm_q a b c q) 1 := by
  obtain ⟨x, y, z, ⟨e1, e2, e3⟩, ⟨hxy, hyz⟩, hp⟩ := dm_ins3o g a b c
  generalize dm_ins (dm_ins (dm_ins g 0 a) 1 b) 2 c = H at e1 e2 e3
  rcases (show q = 1 ∨ q = 2 ∨ q = 3 by omega) with rfl | rfl | rfl
  · show dm_s 1 (H 0) = dm_s (min (min a b) c) 1
    rw [dm_s_comm 1, e1, show min (min a b) c = x by omega]
  · show dm_s (dm_s 1 (H 0)) (H 1) = dm_s (min (min (dm_s a b) (dm_s a c)) (dm_s b c)) 1
    rw [dm_s_assoc, dm_s_comm 1, e1, e2]
    have m1 := dm_s_mono (x := x) hyz
    have m2 : dm_s x y ≤ dm_s y z := by rw [dm_s_comm x y]; exact dm_s_mono (Nat.le_trans hxy hyz)
    have c1 := dm_s_comm y x
    have c2 := dm_s_comm z x
    have c3 := dm_s_comm z y
    congr 1
    rcases hp with ⟨rfl, rfl, rfl⟩ | ⟨rfl, rfl, rfl⟩ | ⟨rfl, rfl, rfl⟩ | ⟨rfl, rfl, rfl⟩ | ⟨rfl, rfl, rfl⟩ | ⟨rfl, rfl, rfl⟩ <;> omega
  · show dm_s (dm_s (dm_s 1 (H 0)) (H 1)) (H 2) = dm_s (dm_s (dm_s a b) c) 1
    have i1 : Std.Associative dm_s := ⟨dm_s_assoc⟩
    have i2 : Std.Commutative dm_s := ⟨dm_s_comm⟩
    rw [e1, e2, e3]
    rcases hp with ⟨rfl, rfl, rfl⟩ | ⟨rfl, rfl, rfl⟩ | ⟨rfl, rfl, rfl⟩ | ⟨rfl, rfl, rfl⟩ | ⟨rfl, rfl, rfl⟩ | ⟨rfl, rfl, rfl⟩ <;> ac_rfl
-- sets of the first k
def dm_set (P : Nat → Bool) : Nat → Nat
  | 0 => 0
  | k + 1 => if P k = true then dm_set P k + 2 ^ k else dm_set P k
theorem dm_set_lt (P : Nat → Bool) : ∀ k, dm_set P k < 2 ^ k
  | 0 => Nat.one_pos
  | k + 1 => by
    have h := dm_set_lt P k
    show (if P k = true then dm_set P k + 2 ^ k else dm_set P k) < 2 ^ (k + 1)
    rw [Nat.pow_succ]
    split <;> omega
theorem bt_shl : ∀ k, k < 8 → nI 1 <<< (nI k &&& 31) = nI (2 ^ k) := by decide +kernel
theorem bt_or : ∀ k, k < 8 → ∀ a, a < 2 ^ k → nI a ||| nI (2 ^ k) = nI (a + 2 ^ k) := by decide +kernel
theorem bt_and : ∀ k, k < 8 → ∀ a, a < 256 → ((nI a &&& nI (2 ^ k) = 0) ↔ ¬ a / 2 ^ k % 2 = 1) := by decide +kernel
theorem bt_shr : ∀ k, k < 8 → ∀ a, a < 256 → ((nI a >>> (nI k &&& 31)) &&& nI 1 = nI (a / 2 ^ k % 2)) := by decide +kernel
theorem bt_land (a b : Nat) : nI a &&& nI b = nI (a &&& b) := by
  unfold nI
  rw [← Int32.toBitVec_inj, Int32.toBitVec_and, Int32.toBitVec_ofNat', Int32.toBitVec_ofNat', Int32.toBitVec_ofNat', BitVec.ofNat_and]
theorem bt_land_lt {a b : Nat} (h : b < 256) : a &&& b < 256 := Nat.and_lt_two_pow a (n := 8) h
-- what counts as a subject
abbrev wf_sub (x : Int32) : Prop := ¬ x < 0 ∧ ¬ nI 200 ≤ x ∧ (x.toNatClampNeg / 8 % 5 ≠ 0 ∨ x.toNatClampNeg / 40 = 0)
abbrev wf_subn (n : Nat) : Prop := n < 200 ∧ (n / 8 % 5 ≠ 0 ∨ n / 40 = 0)
theorem wf_sub_n {n : Nat} (hn : n < 2 ^ 31) : wf_sub (nI n) ↔ wf_subn n := by
  unfold wf_sub wf_subn
  rw [nI_clamp hn, nI_leI (by omega) hn]
  constructor
  · rintro ⟨-, h1, h2⟩
    exact ⟨by omega, h2⟩
  · rintro ⟨h1, h2⟩
    exact ⟨nI_pos hn, by omega, h2⟩
theorem wf_sub_of {x : Int32} (h : wf_sub x) : ∃ n, x = nI n ∧ wf_subn n := by
  obtain ⟨j, hj, rfl⟩ := nI_of h.1
  exact ⟨j, rfl, (wf_sub_n hj).mp h⟩
theorem kk_nm {a : Nat} (h : a < 2 ^ 30) : nI a - nI 1 = -1 ↔ a = 0 := by
  constructor
  · intro q
    have h1 := pk_sub_toInt (a := a) (b := 1) h (by omega)
    rw [q] at h1
    have h2 : (-1 : Int32).toInt = -1 := by decide
    rw [h2] at h1
    omega
  · intro q
    rw [q]
    decide
theorem kk_nmlt {a : Nat} (h : a < 2 ^ 30) : nI a - nI 1 < 0 ↔ a = 0 := by
  constructor
  · intro q
    by_cases h0 : a = 0
    · exact h0
    · rw [pk_sub (by omega)] at q
      exact absurd q (nI_pos (by omega))
  · intro q
    rw [q]
    decide
theorem dm_ins_z {g : Nat → Nat} {p x : Nat} (h : p = 0) : dm_ins g p x = va_up g p x := by
  subst h; rfl
theorem dm_ins_t {g : Nat → Nat} {p x : Nat} (h : 1 ≤ p) (c : x < g (p - 1)) : dm_ins g p x = dm_ins (va_up g p (g (p - 1))) (p - 1) x := by
  obtain ⟨q, rfl⟩ : ∃ q, p = q + 1 := ⟨p - 1, by omega⟩
  exact if_pos c
theorem dm_ins_f {g : Nat → Nat} {p x : Nat} (h : 1 ≤ p) (c : ¬ x < g (p - 1)) : dm_ins g p x = va_up g p x := by
  obtain ⟨q, rfl⟩ : ∃ q, p = q + 1 := ⟨p - 1, by omega⟩
  exact if_neg c
theorem kk_upb {g : Nat → Nat} {k x B : Nat} (h : ∀ j, g j ≤ B) (hx : x ≤ B) : ∀ j, va_up g k x j ≤ B := fun j => by
  unfold va_up
  split
  · exact hx
  · exact h j
-- the chain's names
def ch_a (n : Nat) : Nat := if n / 8 % 5 = 0 then 0 else if n / 40 = 0 then 1 else 2
theorem ch_a_le (n : Nat) : ch_a n ≤ 2 := by
  unfold ch_a
  (repeat' split) <;> omega
def ch_put (g : Nat → Nat) (n sp kp : Nat) : Nat → Nat := if ch_a n = 0 then va_cpy g g sp 0 kp else if ch_a n = 1 then va_up (va_cpy g g sp 1 kp) 0 (n / 8 % 5 - 1) else va_up (va_up (va_cpy g g sp 2 kp) 0 (n / 8 % 5 - 1)) 1 (n / 40 - 1)
theorem ch_cpy (g : Nat → Nat) (sp dp n : Nat) : va_cpy (fun i => nI (g i)) (fun i => nI (g i)) sp dp n = fun i => nI (va_cpy g g sp dp n i) := by
  funext j
  unfold va_cpy
  split <;> rfl
