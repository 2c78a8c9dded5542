theorem dm_ins_le {g : Nat → Nat} (hg : ∀ j, g j ≤ 1000) : ∀ (i x : Nat), x ≤ 1000 → ∀ j, dm_ins g i x j ≤ 1000 := by
  intro i
  induction i generalizing g with
  | zero => exact fun x hx => kk_upb hg hx
  | succ i ih =>
    intro x hx j
    show (if x < g i then dm_ins (va_up g (i + 1) (g i)) i x else va_up g (i + 1) x) j ≤ 1000
    split
    · exact ih (kk_upb hg (hg i)) x hx j
    · exact kk_upb hg hx j
theorem dm_srt_le {c so : Nat → Nat} (hc : ∀ i, c i ≤ 1000) (hs : ∀ j, so j ≤ 1000) : ∀ k j, dm_srt c so k j ≤ 1000
  | 0 => hs
  | k + 1 => dm_ins_le (dm_srt_le hc hs k) k (c k) (hc k)
theorem dm_sum_le (g : Nat → Nat) : ∀ k, dm_sum g k ≤ 1000
  | 0 => (by decide : 1 ≤ 1000)
  | k + 1 => dm_s_le _ _
abbrev bc_c (dl : Nat) (su g l : Nat → Nat) (x : Nat) : Nat → Nat := fun i => dm_by1 (dl == 1) (fun y => dm_ofs g (su i) y) l x
theorem bc_le {dl : Nat} {su g l : Nat → Nat} {x : Nat} (hg : ∀ j, g j ≤ 1000) : ∀ i, bc_c dl su g l x i ≤ 1000 := fun i => dm_by1_le (fun y => dm_ofs_le hg _ y) x
theorem ld_v_srt {N : Nat → Nat → Nat} {g l so : Nat → Nat} {x c : Nat} (hg : ∀ j, g j ≤ 1000) (h1 : 1 ≤ N 8 c) (h2 : N 8 c ≤ 3) (h3 : 1 ≤ N 9 c) (h4 : N 9 c ≤ N 8 c) : dm_sum (dm_srt (bc_c (N 13 c) (ce_sub N c) g l x) so (N 8 c)) (N 9 c) = ld_v N g x c l := by
  rw [dm_srt_q _ so (bc_le hg) h1 h2 h3 h4]
  rfl
def ld_cn (N : Nat → Nat → Nat) (S : Nat → Nat → Int32) (o : Nat) (z t : Int32) (cn : Nat → Nat) (k : Nat) : Nat → Nat := fun j => if j < k then (if ld_ok N S o z t j then 1 else 0) else cn j
theorem ld_cn_0 {N : Nat → Nat → Nat} {S : Nat → Nat → Int32} {o : Nat} {z t : Int32} {cn : Nat → Nat} : ld_cn N S o z t cn 0 = cn := by
  funext j
  exact if_neg (by omega)
theorem ld_cn_step {N : Nat → Nat → Nat} {S : Nat → Nat → Int32} {o : Nat} {z t : Int32} {cn : Nat → Nat} {k : Nat} : (fun i => nI (va_up (ld_cn N S o z t cn k) k (if ld_ok N S o z t k then 1 else 0) i)) = fun i => nI (ld_cn N S o z t cn (k + 1) i) := by
  funext j
  congr 1
  show (if j = k then (if ld_ok N S o z t k then 1 else 0) else (if j < k then (if ld_ok N S o z t j then 1 else 0) else cn j)) = (if j < k + 1 then (if ld_ok N S o z t j then 1 else 0) else cn j)
  by_cases e : j = k
  · subst e; rw [if_pos rfl, if_pos (show j < j + 1 by omega)]
  · rw [if_neg e]
    by_cases e2 : j < k
    · rw [if_pos e2, if_pos (show j < k + 1 by omega)]
    · rw [if_neg e2, if_neg (show ¬ j < k + 1 by omega)]
abbrev lx_ok (N : Nat → Nat → Nat) (cn : Nat → Nat) (c : Nat) : Prop := (N 1 c = 0 ∧ N 2 c = 0) ∧ cn c = 1
def lx_f (N : Nat → Nat → Nat) (cn g : Nat → Nat) (x : Nat) : Nat → dm_R := fun c => if lx_ok N cn c then [(N 3 c, fun l => ld_v N g x c l)] else []
def lx_R (N : Nat → Nat → Nat) (cn g : Nat → Nat) (x : Nat) : dm_R := dm_upto (lx_f N cn g x) (N 0 0)
