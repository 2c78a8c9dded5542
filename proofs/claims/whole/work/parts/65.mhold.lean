def hm_P (N : Nat → Nat → Nat) (S : Nat → Nat → Int32) (op z t : Int32) : Nat → Bool := fun y => decide (ma_ok (nI y) op ∧ ¬ ma_c N S (nI y) op z t = 1000)
theorem ma_c_le (N : Nat → Nat → Nat) (S : Nat → Nat → Int32) (ky op z t : Int32) : ma_c N S ky op z t ≤ 1000 := dm_L_1000 _ _
theorem ma_r_neg {N : Nat → Nat → Nat} {S : Nat → Nat → Int32} {ky op z t : Int32} : ma_r N S ky op z t < 0 ↔ ¬ (ma_ok ky op ∧ ¬ ma_c N S ky op z t = 1000) := by
  have hl := ma_c_le N S ky op z t
  unfold ma_r
  by_cases h : ma_ok ky op
  · rw [if_pos h]
    by_cases h2 : ma_c N S ky op z t = 1000
    · rw [if_pos h2]
      exact ⟨fun _ q => q.2 h2, fun _ => by decide⟩
    · rw [if_neg h2]
      exact ⟨fun q => absurd q (nI_pos (by omega)), fun q => absurd ⟨h, h2⟩ q⟩
  · rw [if_neg h]
    exact ⟨fun _ q => h q.1, fun _ => by decide⟩
theorem va_cm {α : Type} (f : Nat → α) (x y : α) : va_up (va_up f 15 y) 14 x = va_up (va_up f 14 x) 15 y := by
  funext j
  unfold va_up
  by_cases h : j = 14
  · rw [if_pos h, if_neg (by omega), if_pos h]
  · rw [if_neg h]
    by_cases h2 : j = 15
    · rw [if_pos h2, if_pos h2]
    · rw [if_neg h2, if_neg h2, if_neg h]
theorem ma_N_form (N : Nat → Nat → Nat) (S : Nat → Nat → Int32) (a1 b1 : Nat → Nat) (ky op z t : Int32) : ∃ a2 b2, ma_N (va_up (va_up N 14 a1) 15 b1) S ky op z t = va_up (va_up N 14 a2) 15 b2 := by
  unfold ma_N
  split
  · rw [va_cm, va_uu, va_uu]
    exact ⟨_, _, rfl⟩
  · exact ⟨a1, b1, rfl⟩
theorem dm_set_eq {P Q : Nat → Bool} : ∀ k, (∀ y, y < k → P y = Q y) → dm_set P k = dm_set Q k
  | 0, _ => rfl
  | k + 1, h => by
    show (if P k = true then dm_set P k + 2 ^ k else dm_set P k) = (if Q k = true then dm_set Q k + 2 ^ k else dm_set Q k)
    rw [dm_set_eq k (fun y hy => h y (by omega)), h k (by omega)]
theorem hm_eq (N : Nat → Nat → Nat) (S : Nat → Nat → Int32) (op z t : Int32) : nI (dm_set (hm_P N S op z t) 8) = ho_r N S op z t := by
  unfold ho_r
  by_cases h : kk_lim op 8
  · rw [if_pos h]
    obtain ⟨o, ho, rfl⟩ := kk_lim_of h (by decide)
    rw [nI_clamp (by omega)]
    congr 1
    refine dm_set_eq 8 (fun y hy => ?_)
    have e : ma_c N S (nI y) (nI o) z t = dm_L (N 3) (ld_U N S (me_V N S t) y o z t) (N 0 0) 8 := by
      unfold ma_c
      rw [ma_u_n (by omega) (by omega)]
    have hy2 : kk_lim (nI y) 8 := ⟨nI_pos (by omega), fun q => by have := (nI_leI (by omega) (by omega)).mp q; omega⟩
    unfold hm_P ho_P
    rw [e]
    exact decide_eq_decide.mpr ⟨fun q => q.2, fun q => ⟨⟨hy2, h⟩, q⟩⟩
  · rw [if_neg h]
    have e : dm_set (hm_P N S op z t) 8 = dm_set (fun _ => false) 8 := dm_set_eq 8 (fun y _ => decide_eq_false (fun q => h q.1.2))
    rw [e]
    rfl
