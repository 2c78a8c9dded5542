-- a certificate's costs: by its subjects, sorted in, summed up
def dm_srt (c so : Nat → Nat) : Nat → Nat → Nat
  | 0 => so
  | k + 1 => dm_ins (dm_srt c so k) k (c k)
theorem dm_srt_q (c so : Nat → Nat) {m q : Nat} (hc : ∀ i, c i ≤ 1000) (hm : 1 ≤ m) (hm3 : m ≤ 3) (hq : 1 ≤ q) (hqm : q ≤ m) : dm_sum (dm_srt c so m) q = dm_s (dm_q (c 0) (if 1 < m then c 1 else 1000) (if 2 < m then c 2 else 1000) q) 1 := by
  rcases (show m = 1 ∨ m = 2 ∨ m = 3 by omega) with rfl | rfl | rfl
  · exact dm_ins1 so _ q (hc 0) hq hqm
  · exact dm_ins2 so _ _ q (hc 0) (hc 1) hq hqm
  · exact dm_ins3 so _ _ _ q hq hqm
theorem dm_bys_le {o l : Nat → Nat} (ho : ∀ y, o y ≤ 1000) (x : Nat) : ∀ n, dm_bys o l x n ≤ 1000
  | 0 => ho x
  | n + 1 => by
    have ih := dm_bys_le ho (l := l) x n
    show (if n = x then dm_bys o l x n else min (dm_bys o l x n) (dm_s (o n) (l n))) ≤ 1000
    split
    · exact ih
    · omega
theorem dm_by1_le {d : Bool} {o l : Nat → Nat} (ho : ∀ y, o y ≤ 1000) (x : Nat) : dm_by1 d o l x ≤ 1000 := by
  unfold dm_by1
  split
  · exact dm_bys_le ho x 8
  · exact ho x
theorem dm_q_le {a b c : Nat} (ha : a ≤ 1000) (n : Nat) : dm_q a b c n ≤ 1000 := by
  unfold dm_q
  have := dm_s_le a b
  have := dm_s_le (dm_s a b) c
  split
  · omega
  · split <;> omega
def ld_c (N : Nat → Nat → Nat) (g : Nat → Nat) (x c : Nat) (l : Nat → Nat) (i : Nat) : Nat := dm_by1 (N 13 c == 1) (fun y => dm_ofs g (N 7 (3 * c + i)) y) l x
def ld_v (N : Nat → Nat → Nat) (g : Nat → Nat) (x c : Nat) (l : Nat → Nat) : Nat := dm_s (dm_q (ld_c N g x c l 0) (if 1 < N 8 c then ld_c N g x c l 1 else 1000) (if 2 < N 8 c then ld_c N g x c l 2 else 1000) (N 9 c)) 1
theorem ld_c_sup (N : Nat → Nat → Nat) (g : Nat → Nat) (x c i : Nat) : dm_Sup (fun l => ld_c N g x c l i) := dm_by1_sup _ _ _
theorem ld_v_sup (N : Nat → Nat → Nat) (g : Nat → Nat) (x c : Nat) : dm_Sup (fun l => ld_v N g x c l) :=
  (dm_q_sup _ (ld_c_sup N g x c 0) (dm_Sup.ite _ (ld_c_sup N g x c 1) (dm_Sup.cst _)) (dm_Sup.ite _ (ld_c_sup N g x c 2) (dm_Sup.cst _))).sm (dm_Sup.cst 1)
theorem ld_c_le {N : Nat → Nat → Nat} {g : Nat → Nat} (hg : ∀ j, g j ≤ 1000) (x c : Nat) (l : Nat → Nat) (i : Nat) : ld_c N g x c l i ≤ 1000 := dm_by1_le (fun y => dm_ofs_le hg _ y) x
-- which permissions count
abbrev ld_ok (N : Nat → Nat → Nat) (S : Nat → Nat → Int32) (o : Nat) (z t : Int32) (c : Nat) : Prop := N 1 c = 0 ∧ N 2 c = 0 ∧ (¬ t < S 5 c ∧ ¬ S 6 c < t) ∧ N 10 c / 2 ^ o % 2 = 1 ∧ ¬ z < S 11 c ∧ ¬ S 12 c < z
theorem ru_M_ok (N : Nat → Nat → Nat) (S : Nat → Nat → Int32) (t : Int32) : dm_ok (ru_M N S t) := dm_upto_ok (fun c _ => by
  unfold ru_m
  split
  · refine dm_upto_ok (fun y _ x hx => ?_)
    rw [List.mem_singleton.mp hx]
    exact (dm_Sup.cst 1).sm (dm_ofs_sup _ _)
  · intro x hx; cases hx)
