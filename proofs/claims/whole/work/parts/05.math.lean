-- Costs 0 .. 999, and 1000 in place of a cost where there is none. Sums cut off at 999.
def dm_s (a b : Nat) : Nat := if 1000 ≤ a ∨ 1000 ≤ b then 1000 else if 999 < a + b then 999 else a + b
theorem dm_s_le (a b : Nat) : dm_s a b ≤ 1000 := by
  unfold dm_s
  split
  · omega
  · split <;> omega
theorem dm_s_comm (a b : Nat) : dm_s a b = dm_s b a := by
  unfold dm_s
  split <;> split <;> (try split) <;> (try split) <;> omega
theorem dm_s_assoc (a b c : Nat) : dm_s (dm_s a b) c = dm_s a (dm_s b c) := by
  unfold dm_s
  (repeat' split) <;> omega
-- a function of costs that never gives less than what it is made of
def dm_Sup (F : (Nat → Nat) → Nat) : Prop := ∀ (v w : Nat → Nat) (q : Nat), (∀ j, min (w j) q ≤ v j) → min (F w) q ≤ F v
theorem dm_Sup.mono {F : (Nat → Nat) → Nat} (h : dm_Sup F) {v w : Nat → Nat} (hw : ∀ j, w j ≤ v j) : F w ≤ F v := by
  have h1 := h v w (F w) (fun j => Nat.le_trans (Nat.min_le_left _ _) (hw j))
  rwa [Nat.min_self] at h1
theorem dm_Sup.cst (k : Nat) : dm_Sup (fun _ => k) := fun _ _ _ _ => Nat.min_le_left _ _
theorem dm_Sup.var (j : Nat) : dm_Sup (fun v => v j) := fun _ _ _ h => h j
theorem dm_Sup.mn {F G : (Nat → Nat) → Nat} (hF : dm_Sup F) (hG : dm_Sup G) : dm_Sup (fun v => min (F v) (G v)) := by
  intro v w q h
  have h1 := hF v w q h
  have h2 := hG v w q h
  show min (min (F w) (G w)) q ≤ min (F v) (G v)
  omega
theorem dm_Sup.sm {F G : (Nat → Nat) → Nat} (hF : dm_Sup F) (hG : dm_Sup G) : dm_Sup (fun v => dm_s (F v) (G v)) := by
  intro v w q h
  have h1 := hF v w q h
  have h2 := hG v w q h
  show min (dm_s (F w) (G w)) q ≤ dm_s (F v) (G v)
  unfold dm_s
  (repeat' split) <;> omega
theorem dm_Sup.ite {F G : (Nat → Nat) → Nat} (p : Prop) [Decidable p] (hF : dm_Sup F) (hG : dm_Sup G) : dm_Sup (fun v => if p then F v else G v) := by
  by_cases h : p
  · simp only [if_pos h]; exact hF
  · simp only [if_neg h]; exact hG
theorem dm_Sup.eq {F G : (Nat → Nat) → Nat} (hF : dm_Sup F) (h : ∀ v, G v = F v) : dm_Sup G := by
  have e : G = F := funext h
  rw [e]; exact hF
-- rules: a target, and what the rule gives
abbrev dm_R : Type := List (Nat × ((Nat → Nat) → Nat))
def dm_pass : dm_R → (Nat → Nat) → (Nat → Nat)
  | [], v => v
  | r :: R, v => dm_pass R (va_up v r.1 (min (v r.1) (r.2 v)))
def dm_flag : dm_R → (Nat → Nat) → Bool
  | [], _ => false
  | r :: R, v => decide (r.2 v < v r.1) || dm_flag R (va_up v r.1 (min (v r.1) (r.2 v)))
def dm_F : dm_R → Nat → (Nat → Nat) → Nat
  | [], _, _ => 1000
  | r :: R, i, v => if r.1 = i then min (r.2 v) (dm_F R i v) else dm_F R i v
def dm_D (R : dm_R) : Nat → Nat → Nat
  | 0, _ => 1000
  | r + 1, i => min (dm_D R r i) (dm_F R i (dm_D R r))
def dm_ok (R : dm_R) : Prop := ∀ r, r ∈ R → dm_Sup r.2
def dm_in (R : dm_R) (n : Nat) : Prop := ∀ r, r ∈ R → r.1 < n
def dm_post (R : dm_R) (v : Nat → Nat) : Prop := ∀ r, r ∈ R → v r.1 ≤ r.2 v
theorem dm_up_le (v : Nat → Nat) (t x j : Nat) : va_up v t (min (v t) x) j ≤ v j := by
  unfold va_up
  by_cases h : j = t
  · rw [if_pos h, h]; exact Nat.min_le_left _ _
  · rw [if_neg h]; exact Nat.le_refl _
theorem dm_pass_le : ∀ (R : dm_R) (v : Nat → Nat) (j : Nat), dm_pass R v j ≤ v j
  | [], _, _ => Nat.le_refl _
  | r :: R, v, j => Nat.le_trans (dm_pass_le R _ j) (dm_up_le v r.1 (r.2 v) j)
theorem dm_pass_ge : ∀ (R : dm_R) (v P : Nat → Nat), dm_ok R → dm_post R P → (∀ j, P j ≤ v j) → ∀ j, P j ≤ dm_pass R v j
  | [], _, _, _, _, h, j => h j
  | r :: R, v, P, hR, hp, h, j => by
    refine dm_pass_ge R _ P (fun x hx => hR x (List.mem_cons_of_mem _ hx)) (fun x hx => hp x (List.mem_cons_of_mem _ hx)) (fun i => ?_) j
    unfold va_up
    by_cases hi : i = r.1
    · rw [if_pos hi, hi]
      have h1 := h r.1
      have h2 := hp r List.mem_cons_self
      have h3 := (hR r List.mem_cons_self).mono h
      omega
    · rw [if_neg hi]; exact h i
theorem dm_F_le : ∀ (R : dm_R) (v : Nat → Nat) (r : Nat × ((Nat → Nat) → Nat)), r ∈ R → dm_F R r.1 v ≤ r.2 v
  | [], _, _, h => by cases h
  | x :: R, v, r, h => by
    unfold dm_F
    rcases List.mem_cons.mp h with e | e
    · subst e; rw [if_pos rfl]; exact Nat.min_le_left _ _
    · have h1 := dm_F_le R v r e
      by_cases hx : x.1 = r.1
      · rw [if_pos hx]; exact Nat.le_trans (Nat.min_le_right _ _) h1
      · rw [if_neg hx]; exact h1
theorem dm_F_ge : ∀ (R : dm_R) (v : Nat → Nat) (i b : Nat), b ≤ 1000 → (∀ r, r ∈ R → r.1 = i → b ≤ r.2 v) → b ≤ dm_F R i v
  | [], _, _, _, hb, _ => hb
  | x :: R, v, i, b, hb, h => by
    unfold dm_F
    have h1 := dm_F_ge R v i b hb (fun r hr => h r (List.mem_cons_of_mem _ hr))
    by_cases hx : x.1 = i
    · rw [if_pos hx]
      have h2 := h x List.mem_cons_self hx
      omega
    · rw [if_neg hx]; exact h1
theorem dm_F_sup : ∀ (R : dm_R) (i : Nat), dm_ok R → dm_Sup (dm_F R i)
  | [], _, _ => dm_Sup.cst 1000
  | x :: R, i, h => by
    have h1 := dm_F_sup R i (fun r hr => h r (List.mem_cons_of_mem _ hr))
    by_cases hx : x.1 = i
    · refine ((h x List.mem_cons_self).mn h1).eq (fun v => ?_)
      show (if x.1 = i then min (x.2 v) (dm_F R i v) else dm_F R i v) = _
      rw [if_pos hx]
    · refine h1.eq (fun v => ?_)
      show (if x.1 = i then min (x.2 v) (dm_F R i v) else dm_F R i v) = _
      rw [if_neg hx]
theorem dm_D_le (R : dm_R) : ∀ (r i : Nat), dm_D R r i ≤ 1000
  | 0, _ => Nat.le_refl _
  | r + 1, i => Nat.le_trans (Nat.min_le_left _ _) (dm_D_le R r i)
theorem dm_D_anti1 (R : dm_R) (r i : Nat) : dm_D R (r + 1) i ≤ dm_D R r i := Nat.min_le_left _ _
theorem dm_D_anti (R : dm_R) {a b : Nat} (h : a ≤ b) (i : Nat) : dm_D R b i ≤ dm_D R a i := by
  induction h with
  | refl => exact Nat.le_refl _
  | step _ ih => exact Nat.le_trans (dm_D_anti1 R _ i) ih
theorem dm_D_out {R : dm_R} {n : Nat} (hn : dm_in R n) {i : Nat} (hi : n ≤ i) : ∀ r, dm_D R r i = 1000
  | 0 => rfl
  | r + 1 => by
    have h1 := dm_D_out hn hi r
    have h2 : 1000 ≤ dm_F R i (dm_D R r) := dm_F_ge R _ i 1000 (Nat.le_refl _) (fun x hx e => by have := hn x hx; omega)
    show min (dm_D R r i) (dm_F R i (dm_D R r)) = 1000
    omega
-- what a post-fixed point is below stays above it
theorem dm_D_ge {R : dm_R} {P : Nat → Nat} (hR : dm_ok R) (hp : dm_post R P) (h : ∀ j, P j ≤ 1000) : ∀ r j, P j ≤ dm_D R r j
  | 0, j => h j
  | r + 1, j => by
    have ih := dm_D_ge hR hp h r
    have h1 : P j ≤ dm_F R j (dm_D R r) := dm_F_ge R _ j (P j) (h j) (fun x hx e => by
      subst e
      exact Nat.le_trans (hp x hx) ((hR x hx).mono ih))
    have h2 := ih j
    show P j ≤ min (dm_D R r j) (dm_F R j (dm_D R r))
    omega
-- counting
noncomputable def dm_cnt (p : Nat → Prop) : Nat → Nat
  | 0 => 0
  | n + 1 => dm_cnt p n + @ite Nat (p n) (Classical.propDecidable (p n)) 1 0
theorem dm_cnt_t {p : Nat → Prop} {n : Nat} (h : p n) : dm_cnt p (n + 1) = dm_cnt p n + 1 := by
  show dm_cnt p n + @ite Nat (p n) (Classical.propDecidable (p n)) 1 0 = _
  rw [if_pos h]
theorem dm_cnt_f {p : Nat → Prop} {n : Nat} (h : ¬ p n) : dm_cnt p (n + 1) = dm_cnt p n := by
  show dm_cnt p n + @ite Nat (p n) (Classical.propDecidable (p n)) 1 0 = _
  rw [if_neg h]; rfl
theorem dm_cnt_le (p : Nat → Prop) : ∀ n, dm_cnt p n ≤ n
  | 0 => Nat.le_refl _
  | n + 1 => by
    have ih := dm_cnt_le p n
    by_cases h : p n
    · rw [dm_cnt_t h]; omega
    · rw [dm_cnt_f h]; omega
theorem dm_cnt_mono {p q : Nat → Prop} : ∀ n, (∀ i, i < n → p i → q i) → dm_cnt p n ≤ dm_cnt q n
  | 0, _ => Nat.le_refl _
  | n + 1, h => by
    have ih := dm_cnt_mono (p := p) (q := q) n (fun i hi => h i (by omega))
    by_cases hp : p n
    · rw [dm_cnt_t hp, dm_cnt_t (h n (by omega) hp)]; omega
    · rw [dm_cnt_f hp]
      by_cases hq : q n
      · rw [dm_cnt_t hq]; omega
      · rw [dm_cnt_f hq]; exact ih
theorem dm_cnt_lt {p q : Nat → Prop} : ∀ n, (∀ i, i < n → p i → q i) → ∀ k, k < n → q k → ¬ p k → dm_cnt p n + 1 ≤ dm_cnt q n
  | 0, _, k, hk, _, _ => by omega
  | n + 1, h, k, hk, hq, hp => by
    by_cases e : k = n
    · subst e
      rw [dm_cnt_t hq, dm_cnt_f hp]
      have := dm_cnt_mono (p := p) (q := q) k (fun i hi => h i (by omega))
      omega
    · have ih := dm_cnt_lt (p := p) (q := q) n (fun i hi => h i (by omega)) k (by omega) hq hp
      by_cases hpn : p n
      · rw [dm_cnt_t hpn, dm_cnt_t (h n (by omega) hpn)]; omega
      · rw [dm_cnt_f hpn]
        by_cases hqn : q n
        · rw [dm_cnt_t hqn]; omega
        · rw [dm_cnt_f hqn]; exact ih
theorem dm_cnt_all {p : Nat → Prop} : ∀ n, n ≤ dm_cnt p n → ∀ i, i < n → p i
  | 0, _, i, hi => by omega
  | n + 1, h, i, hi => by
    have h1 := dm_cnt_le p n
    by_cases hp : p n
    · rw [dm_cnt_t hp] at h
      by_cases e : i = n
      · rw [e]; exact hp
      · exact dm_cnt_all n (by omega) i (by omega)
    · rw [dm_cnt_f hp] at h; omega
-- a least value among those that hold p, where one holds it
theorem dm_min {p : Nat → Prop} (f : Nat → Nat) : ∀ b k, p k → f k ≤ b → ∃ i, p i ∧ ∀ j, p j → f i ≤ f j
  | 0, k, hk, hb => ⟨k, hk, fun j _ => by omega⟩
  | b + 1, k, hk, hb => by
    by_cases h : ∃ j, p j ∧ f j < f k
    · obtain ⟨j, hj, hlt⟩ := h
      exact dm_min f b j hj (by omega)
    · exact ⟨k, hk, fun j hj => by
        rcases Nat.lt_or_ge (f j) (f k) with h1 | h1
        · exact absurd ⟨j, hj, h1⟩ h
        · exact h1⟩
-- final at r
def dm_fin (R : dm_R) (r i : Nat) : Prop := ∀ t, r ≤ t → dm_D R t i = dm_D R r i
theorem dm_fin_up {R : dm_R} {r i : Nat} (h : dm_fin R r i) : dm_fin R (r + 1) i := fun t ht => by
  rw [h t (by omega), h (r + 1) (by omega)]
theorem dm_next {R : dm_R} {n r k : Nat} (hR : dm_ok R) (hn : dm_in R n) (hk : k < n) (hf : ¬ dm_fin R r k) : ∃ i, i < n ∧ ¬ dm_fin R r i ∧ dm_fin R (r + 1) i := by
  obtain ⟨i, ⟨hi, hfi⟩, hmin⟩ := dm_min (p := fun j => j < n ∧ ¬ dm_fin R r j) (fun j => dm_D R (r + 1) j) _ k ⟨hk, hf⟩ (Nat.le_refl _)
  have key : ∀ t, ∀ j, j < n → ¬ dm_fin R r j → dm_D R (r + 1) i ≤ dm_D R (r + 1 + t) j := by
    intro t
    induction t with
    | zero => exact fun j hj hfj => hmin j ⟨hj, hfj⟩
    | succ t ih =>
      intro j hj hfj
      have hle : ∀ x, min (dm_D R r x) (dm_D R (r + 1) i) ≤ dm_D R (r + 1 + t) x := by
        intro x
        rcases Nat.lt_or_ge x n with hx | hx
        · by_cases hfx : dm_fin R r x
          · rw [hfx (r + 1 + t) (by omega)]; exact Nat.min_le_left _ _
          · exact Nat.le_trans (Nat.min_le_right _ _) (ih x hx hfx)
        · rw [dm_D_out hn hx, dm_D_out hn hx]; exact Nat.min_le_left _ _
      have h1 := dm_F_sup R j hR _ _ _ hle
      have h2 : dm_D R (r + 1) i ≤ dm_F R j (dm_D R r) := Nat.le_trans (hmin j ⟨hj, hfj⟩) (Nat.min_le_right _ _)
      have h3 := ih j hj hfj
      show dm_D R (r + 1) i ≤ min (dm_D R (r + 1 + t) j) (dm_F R j (dm_D R (r + 1 + t)))
      omega
  refine ⟨i, hi, hfi, fun t ht => ?_⟩
  have h1 := key (t - (r + 1)) i hi hfi
  rw [show r + 1 + (t - (r + 1)) = t by omega] at h1
  have h2 := dm_D_anti R ht i
  omega
theorem dm_many {R : dm_R} {n : Nat} (hR : dm_ok R) (hn : dm_in R n) : ∀ r, r ≤ n → r ≤ dm_cnt (dm_fin R r) n
  | 0, _ => Nat.zero_le _
  | r + 1, hr => by
    have ih := dm_many hR hn r (by omega)
    by_cases h : ∃ k, k < n ∧ ¬ dm_fin R r k
    · obtain ⟨k, hk, hf⟩ := h
      obtain ⟨i, hi, h1, h2⟩ := dm_next hR hn hk hf
      have := dm_cnt_lt (p := dm_fin R r) (q := dm_fin R (r + 1)) n (fun _ _ => dm_fin_up) i hi h2 h1
      omega
    · have hall : ∀ i, i < n → dm_fin R (r + 1) i := fun i hi => by
        by_cases hf : dm_fin R r i
        · exact dm_fin_up hf
        · exact absurd ⟨i, hi, hf⟩ h
      have : dm_cnt (fun _ => True) n ≤ dm_cnt (dm_fin R (r + 1)) n := dm_cnt_mono n (fun i hi _ => hall i hi)
      have h0 : ∀ m, dm_cnt (fun _ => True) m = m := fun m => by
        induction m with
        | zero => rfl
        | succ m ihm => rw [dm_cnt_t trivial, ihm]
      rw [h0] at this
      omega
theorem dm_fixed {R : dm_R} {n : Nat} (hR : dm_ok R) (hn : dm_in R n) : dm_post R (dm_D R n) := by
  intro x hx
  have h1 := dm_cnt_all n (dm_many hR hn n (Nat.le_refl _)) x.1 (hn x hx) (n + 1) (Nat.le_succ n)
  have h2 : dm_D R (n + 1) x.1 ≤ dm_F R x.1 (dm_D R n) := Nat.min_le_right _ _
  have h3 := dm_F_le R (dm_D R n) x hx
  omega
-- rounds in place
theorem dm_pass_rule : ∀ (R : dm_R) (v d : Nat → Nat), dm_ok R → (∀ j, v j ≤ d j) → ∀ r, r ∈ R → dm_pass R v r.1 ≤ r.2 d
  | [], _, _, _, _, r, h => by cases h
  | x :: R, v, d, hR, hv, r, h => by
    have hu : ∀ j, va_up v x.1 (min (v x.1) (x.2 v)) j ≤ d j := fun j => Nat.le_trans (dm_up_le v x.1 (x.2 v) j) (hv j)
    rcases List.mem_cons.mp h with e | e
    · subst e
      refine Nat.le_trans (dm_pass_le R _ r.1) ?_
      have h1 := (hR r List.mem_cons_self).mono hv
      unfold va_up
      rw [if_pos rfl]
      omega
    · exact dm_pass_rule R _ d (fun y hy => hR y (List.mem_cons_of_mem _ hy)) hu r e
theorem dm_pass_D {R : dm_R} {v : Nat → Nat} {r : Nat} (hR : dm_ok R) (hv : ∀ j, v j ≤ dm_D R r j) : ∀ j, dm_pass R v j ≤ dm_D R (r + 1) j := by
  intro j
  have h1 := dm_pass_le R v j
  have h2 := hv j
  have h3 : dm_pass R v j ≤ dm_F R j (dm_D R r) := dm_F_ge R _ j _ (by have := dm_D_le R r j; omega) (fun x hx e => by
    subst e
    exact dm_pass_rule R v _ hR hv x hx)
  show dm_pass R v j ≤ min (dm_D R r j) (dm_F R j (dm_D R r))
  omega
theorem dm_flag_f : ∀ (R : dm_R) (v : Nat → Nat), dm_flag R v = false → dm_pass R v = v ∧ dm_post R v
  | [], _, _ => ⟨rfl, fun _ h => by cases h⟩
  | r :: R, v, h => by
    unfold dm_flag at h
    rw [Bool.or_eq_false_iff] at h
    obtain ⟨h1, h2⟩ := h
    have h1 : ¬ r.2 v < v r.1 := of_decide_eq_false h1
    have e : va_up v r.1 (min (v r.1) (r.2 v)) = v := funext fun j => by
      unfold va_up
      by_cases hj : j = r.1
      · rw [if_pos hj, hj]; omega
      · rw [if_neg hj]
    rw [e] at h2
    obtain ⟨h3, h4⟩ := dm_flag_f R v h2
    refine ⟨?_, fun x hx => ?_⟩
    · show dm_pass R (va_up v r.1 (min (v r.1) (r.2 v))) = v
      rw [e]; exact h3
    · rcases List.mem_cons.mp hx with e1 | e1
      · rw [e1]; omega
      · exact h4 x e1
def dm_run (R : dm_R) : Nat → (Nat → Nat) → (Nat → Nat)
  | 0, v => v
  | k + 1, v => if dm_flag R v = true then dm_run R k (dm_pass R v) else dm_pass R v
theorem dm_run_go {R : dm_R} {n : Nat} (hR : dm_ok R) (hn : dm_in R n) : ∀ (k r : Nat) (v : Nat → Nat), (∀ j, v j ≤ dm_D R r j) → (∀ j, dm_D R n j ≤ v j) → n ≤ r + k → dm_run R k v = dm_D R n
  | 0, r, v, h1, h2, h3 => funext fun j => by
    have e1 := h1 j
    have e2 := h2 j
    have e3 := dm_D_anti R (show n ≤ r by omega) j
    show v j = dm_D R n j
    omega
  | k + 1, r, v, h1, h2, h3 => by
    unfold dm_run
    by_cases hf : dm_flag R v = true
    · rw [if_pos hf]
      exact dm_run_go hR hn k (r + 1) _ (dm_pass_D hR h1) (dm_pass_ge R v _ hR (dm_fixed hR hn) h2) (by omega)
    · rw [if_neg hf]
      obtain ⟨e1, e2⟩ := dm_flag_f R v (by cases h : dm_flag R v <;> simp_all)
      rw [e1]
      funext j
      have e3 := dm_D_ge hR e2 (fun i => Nat.le_trans (h1 i) (dm_D_le R r i)) n j
      have e4 := h2 j
      omega
/-- k rounds in place from nothing known, stopped early where one changes nothing: the same for every k that is no less than the number of targets -/
theorem dm_run_eq {R : dm_R} {n k : Nat} (hR : dm_ok R) (hn : dm_in R n) (hk : n ≤ k) : dm_run R k (fun _ => 1000) = dm_D R n :=
  dm_run_go hR hn k 0 _ (fun _ => Nat.le_refl _) (fun j => dm_D_le R n j) (by omega)
