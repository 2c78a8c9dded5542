-- the class's object and all its cells but those of the reference: T: its own arrays, U: its chain's range of numbers
def xi_I (b : Nat) (cI cZ cQ : ClassId) (N : Nat → Nat → Nat) (S : Nat → Nat → Int32) (T : Nat → Nat → Nat) (U : Nat → Int32) (ad : Nat → Nat) (w : mm_M) : Prop :=
  re_I (b + 1) cI cQ N S ad w ∧ w b = some (.inr (0, [.ref (b + 1), .ref (b + 3), .ref (b + 5), .ref (b + 9)])) ∧ w (b + 3) = some (.inr (2, [.ref (b + 4)])) ∧ w (b + 4) = some (.inl (cI, 256, .inl (fun i => nI (T 0 i)))) ∧ w (b + 5) = some (.inr (3, [.ref (b + 6), .ref (b + 7), .ref (b + 8)])) ∧ w (b + 6) = some (.inl (cZ, 24, .inl (fun i => nI (T 1 i)))) ∧ w (b + 7) = some (.inl (cI, 9, .inl (fun i => nI (T 2 i)))) ∧ w (b + 8) = some (.inl (cI, 3, .inl (fun i => nI (T 3 i)))) ∧ w (b + 9) = some (.inr (4, [.int (nI (N 17 0)), .ref (b + 10), .int (nI (N 18 0)), .ref (b + 11), .ref (b + 13), .int (nI (N 25 0)), .int (nI (N 26 0))])) ∧ w (b + 10) = some (.inl (cI, 4, .inl (fun i => nI (T 4 i)))) ∧ w (b + 11) = some (.inr (5, [.int (nI (T 5 0)), .ref (b + 12)])) ∧ w (b + 12) = some (.inr (6, [.int (U 0), .int (U 1)])) ∧ w (b + 13) = some (.inr (6, [.int (S 23 0), .int (S 24 0)]))
-- how its chain and the reference's hang together
def xr_I (N : Nat → Nat → Nat) (S : Nat → Nat → Int32) (T : Nat → Nat → Nat) (U : Nat → Int32) : Prop :=
  (N 16 0 = 1 ↔ 0 < N 25 0) ∧ (N 16 0 = 1 → T 5 0 = N 20 0 ∧ U 0 = S 21 0 ∧ U 1 = S 22 0) ∧ T 5 0 < 256 ∧ (∀ j, j < N 18 0 → T 4 j = N 19 j) ∧ (∀ j, T 4 j ≤ 3) ∧ (∀ j, T 1 j ≤ 1) ∧ (∀ j, T 3 j ≤ 1000)
-- where the certificates lie
def la_I (b sz : Nat) (N : Nat → Nat → Nat) (ad : Nat → Nat) : Prop := ∀ j, j < N 0 0 → b + 31 ≤ ad j ∧ ad j + (if N 2 j = 1 then 2 else 5) ≤ sz ∧ ∀ i, i < j → ad i + (if N 2 i = 1 then 2 else 5) ≤ ad j
def xs_I (b : Nat) (cI cZ cQ : ClassId) (sz : Nat) (N : Nat → Nat → Nat) (S : Nat → Nat → Int32) (w : mm_M) : Prop := ∃ (T : Nat → Nat → Nat) (U : Nat → Int32) (ad : Nat → Nat), xi_I b cI cZ cQ N S T U ad w ∧ xr_I N S T U ∧ la_I b sz N ad
theorem ru_M_in {N : Nat → Nat → Nat} (S : Nat → Nat → Int32) (t : Int32) (hR : rg_I N) : dm_in (ru_M N S t) 256 := dm_upto_in (fun c hc => by
  unfold ru_m
  split
  · rename_i h
    have h1 := hR c hc
    have h2 := h1.2.2.2.1 h.2.1
    refine dm_upto_in (fun y hy x hx => ?_)
    rw [List.mem_singleton.mp hx]
    show 32 * N 3 c + 8 * N 4 c + y < 256
    omega
  · intro x hx; cases hx)
theorem me_V_eq {N : Nat → Nat → Nat} (S : Nat → Nat → Int32) (t : Int32) (hR : rg_I N) : dm_run (ru_M N S t) 257 (fun _ => 1000) = me_V N S t := by
  unfold me_V
  rw [dm_run_eq (ru_M_ok N S t) (ru_M_in S t hR) (by decide), dm_run_eq (ru_M_ok N S t) (ru_M_in S t hR) (by decide)]
-- the leads by issuer and by certificate
def lb_f (N : Nat → Nat → Nat) (S : Nat → Nat → Int32) (v : Nat → Nat) (x o : Nat) (z t : Int32) (k : Nat) : dm_R := dm_Rx (N 3) (fun c => decide (ld_ok N S o z t c)) (fun c l => ld_v N v x c l) k
theorem ld_R_eq (N : Nat → Nat → Nat) (S : Nat → Nat → Int32) (v : Nat → Nat) (x o : Nat) (z t : Int32) : ld_R N S v x o z t = dm_Rm (N 3) (N 0 0) (fun c => decide (ld_ok N S o z t c)) (fun c l => ld_v N v x c l) (N 0 0) := by
  unfold ld_R dm_Rm
  congr 1
  funext c
  unfold ld_f
  by_cases h : ld_ok N S o z t c
  · rw [if_pos h, if_pos (decide_eq_true h)]
  · rw [if_neg h, if_neg (fun q => h (of_decide_eq_true q))]
theorem dm_upto_eq {f g : Nat → dm_R} : ∀ n, (∀ c, c < n → f c = g c) → dm_upto f n = dm_upto g n
  | 0, _ => rfl
  | n + 1, h => by
    show dm_upto f n ++ f n = dm_upto g n ++ g n
    rw [dm_upto_eq n (fun c hc => h c (by omega)), h n (by omega)]
theorem lx_R_eq (N : Nat → Nat → Nat) (S : Nat → Nat → Int32) (v cn : Nat → Nat) (x o : Nat) (z t : Int32) : lx_R N (ld_cn N S o z t cn (N 0 0)) v x = lb_f N S v x o z t (N 0 0) := by
  unfold lx_R lb_f dm_Rx
  refine dm_upto_eq _ (fun c hc => ?_)
  unfold lx_f
  have e : ld_cn N S o z t cn (N 0 0) c = if ld_ok N S o z t c then 1 else 0 := if_pos hc
  by_cases h : ld_ok N S o z t c
  · rw [if_pos ⟨⟨h.1, h.2.1⟩, by rw [e, if_pos h]⟩, if_pos (decide_eq_true h)]
  · rw [if_neg (fun q => by have h9 := q.2; rw [e, if_neg h] at h9; omega), if_neg (fun q => h (of_decide_eq_true q))]
theorem lb_ok (N : Nat → Nat → Nat) (S : Nat → Nat → Int32) (v : Nat → Nat) (x o : Nat) (z t : Int32) (k : Nat) : dm_ok (lb_f N S v x o z t k) := dm_upto_ok (fun c _ y hy => by
  split at hy
  · rw [List.mem_singleton.mp hy]; exact ld_v_sup N v x c
  · cases hy)
theorem lb_in {N : Nat → Nat → Nat} (S : Nat → Nat → Int32) (v : Nat → Nat) (x o : Nat) (z t : Int32) (hR : rg_I N) : dm_in (lb_f N S v x o z t (N 0 0)) 9 := dm_upto_in (fun c hc y hy => by
  have h1 := (hR c hc).2.2.1
  split at hy
  · rw [List.mem_singleton.mp hy]; show N 3 c < 9; omega
  · cases hy)
theorem ma_eq {N : Nat → Nat → Nat} (S : Nat → Nat → Int32) (v cn : Nat → Nat) (x o : Nat) (z t : Int32) (hR : rg_I N) : dm_run (lx_R N (ld_cn N S o z t cn (N 0 0)) v x) 10 (fun _ => 1000) 8 = dm_L (N 3) (ld_U N S v x o z t) (N 0 0) 8 := by
  unfold ld_U
  rw [lx_R_eq, ld_R_eq, dm_run_eq (lb_ok N S v x o z t _) (lb_in S v x o z t hR) (by decide)]
  have h := dm_L_eq (iss := N 3) (n := N 0 0) (N := 9) (k := 100) (ok := fun c => decide (ld_ok N S o z t c)) (g := fun c l => ld_v N v x c l) (lb_ok N S v x o z t _) (lb_in S v x o z t hR) (by decide)
  rw [h]
  rfl
theorem ld_cn_le {N : Nat → Nat → Nat} {S : Nat → Nat → Int32} {o : Nat} {z t : Int32} {cn : Nat → Nat} (h : ∀ j, cn j ≤ 1) (k : Nat) : ∀ j, ld_cn N S o z t cn k j ≤ 1 := fun j => by
  unfold ld_cn
  split
  · split <;> omega
  · exact h j
