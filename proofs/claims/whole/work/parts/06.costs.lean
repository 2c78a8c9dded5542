-- rules in the order of a counting loop
def dm_upto (f : Nat → dm_R) : Nat → dm_R
  | 0 => []
  | n + 1 => dm_upto f n ++ f n
theorem dm_pass_app : ∀ (A B : dm_R) (v : Nat → Nat), dm_pass (A ++ B) v = dm_pass B (dm_pass A v)
  | [], _, _ => rfl
  | r :: A, B, v => dm_pass_app A B (va_up v r.1 (min (v r.1) (r.2 v)))
theorem dm_flag_app : ∀ (A B : dm_R) (v : Nat → Nat), dm_flag (A ++ B) v = (dm_flag A v || dm_flag B (dm_pass A v))
  | [], _, _ => rfl
  | r :: A, B, v => by
    show (decide (r.2 v < v r.1) || dm_flag (A ++ B) (va_up v r.1 (min (v r.1) (r.2 v)))) = _
    rw [dm_flag_app A B]
    show _ = ((decide (r.2 v < v r.1) || dm_flag A (va_up v r.1 (min (v r.1) (r.2 v)))) || _)
    rw [Bool.or_assoc]; rfl
theorem dm_upto_mem {f : Nat → dm_R} {x : Nat × ((Nat → Nat) → Nat)} : ∀ {n : Nat}, x ∈ dm_upto f n → ∃ c, c < n ∧ x ∈ f c
  | 0, h => by cases h
  | n + 1, h => by
    rcases List.mem_append.mp h with h1 | h1
    · obtain ⟨c, hc, hx⟩ := dm_upto_mem h1
      exact ⟨c, by omega, hx⟩
    · exact ⟨n, by omega, h1⟩
theorem dm_upto_ok {f : Nat → dm_R} {n : Nat} (h : ∀ c, c < n → dm_ok (f c)) : dm_ok (dm_upto f n) := fun x hx => by
  obtain ⟨c, hc, h1⟩ := dm_upto_mem hx
  exact h c hc x h1
theorem dm_upto_in {f : Nat → dm_R} {n k : Nat} (h : ∀ c, c < n → dm_in (f c) k) : dm_in (dm_upto f n) k := fun x hx => by
  obtain ⟨c, hc, h1⟩ := dm_upto_mem hx
  exact h c hc x h1
-- the least of the first n
def dm_mins (f : Nat → Nat) : Nat → Nat
  | 0 => 1000
  | n + 1 => min (dm_mins f n) (f n)
theorem dm_mins_sup {f : Nat → (Nat → Nat) → Nat} (h : ∀ z, dm_Sup (f z)) : ∀ n, dm_Sup (fun v => dm_mins (fun z => f z v) n)
  | 0 => dm_Sup.cst 1000
  | n + 1 => (dm_mins_sup h n).mn (h n)
theorem dm_mins_le (f : Nat → Nat) : ∀ n, dm_mins f n ≤ 1000
  | 0 => Nat.le_refl _
  | n + 1 => Nat.le_trans (Nat.min_le_left _ _) (dm_mins_le f n)
-- what a subject costs, by what the keys with one name cost
def dm_ofs (v : Nat → Nat) (s y : Nat) : Nat :=
  if s / 8 % 5 = 0 then (if s % 8 = y then 0 else 1000)
  else if s / 40 = 0 then v (32 * (s % 8) + 8 * (s / 8 % 5 - 1) + y)
  else dm_mins (fun z => dm_s (v (32 * (s % 8) + 8 * (s / 8 % 5 - 1) + z)) (v (32 * z + 8 * (s / 40 - 1) + y))) 8
theorem dm_ofs_sup (s y : Nat) : dm_Sup (fun v => dm_ofs v s y) := by
  unfold dm_ofs
  exact dm_Sup.ite _ (dm_Sup.cst _) (dm_Sup.ite _ (dm_Sup.var _) (dm_mins_sup (fun z => (dm_Sup.var _).sm (dm_Sup.var _)) 8))
theorem dm_ofs_le {v : Nat → Nat} (hv : ∀ j, v j ≤ 1000) (s y : Nat) : dm_ofs v s y ≤ 1000 := by
  unfold dm_ofs
  split
  · split <;> omega
  · split
    · exact hv _
    · exact dm_mins_le _ _
-- by one subject of a certificate: o y: what the subject costs as y; d: it passes on
def dm_bys (o l : Nat → Nat) (x : Nat) : Nat → Nat
  | 0 => o x
  | n + 1 => if n = x then dm_bys o l x n else min (dm_bys o l x n) (dm_s (o n) (l n))
theorem dm_bys_sup (o : Nat → Nat) (x : Nat) : ∀ n, dm_Sup (fun l => dm_bys o l x n)
  | 0 => dm_Sup.cst _
  | n + 1 => by
    by_cases h : n = x
    · refine (dm_bys_sup o x n).eq (fun l => ?_)
      show (if n = x then dm_bys o l x n else _) = _
      rw [if_pos h]
    · refine ((dm_bys_sup o x n).mn ((dm_Sup.cst (o n)).sm (dm_Sup.var n))).eq (fun l => ?_)
      show (if n = x then dm_bys o l x n else _) = _
      rw [if_neg h]
def dm_by1 (d : Bool) (o l : Nat → Nat) (x : Nat) : Nat := if d = true then dm_bys o l x 8 else o x
theorem dm_by1_sup (d : Bool) (o : Nat → Nat) (x : Nat) : dm_Sup (fun l => dm_by1 d o l x) := by
  unfold dm_by1
  exact dm_Sup.ite _ (dm_bys_sup o x 8) (dm_Sup.cst _)
-- n of three
def dm_q (a b c n : Nat) : Nat :=
  if n = 1 then min (min a b) c else if n = 3 then dm_s (dm_s a b) c else min (min (dm_s a b) (dm_s a c)) (dm_s b c)
theorem dm_q_sup {F G K : (Nat → Nat) → Nat} (n : Nat) (hF : dm_Sup F) (hG : dm_Sup G) (hK : dm_Sup K) : dm_Sup (fun v => dm_q (F v) (G v) (K v) n) := by
  unfold dm_q
  exact dm_Sup.ite _ ((hF.mn hG).mn hK) (dm_Sup.ite _ ((hF.sm hG).sm hK) (((hF.sm hG).mn (hF.sm hK)).mn (hG.sm hK)))
-- the leads by certificate, drawn together by issuer
def dm_L (iss u : Nat → Nat) : Nat → Nat → Nat
  | 0, _ => 1000
  | n + 1, i => if iss n = i then min (dm_L iss u n i) (u n) else dm_L iss u n i
theorem dm_L_same {iss u w : Nat → Nat} : ∀ n, (∀ c, c < n → u c = w c) → ∀ i, dm_L iss u n i = dm_L iss w n i
  | 0, _, _ => rfl
  | n + 1, h, i => by
    have ih := dm_L_same (iss := iss) n (fun c hc => h c (by omega)) i
    show (if iss n = i then min (dm_L iss u n i) (u n) else dm_L iss u n i) = (if iss n = i then min (dm_L iss w n i) (w n) else dm_L iss w n i)
    rw [ih, h n (by omega)]
theorem dm_L_le {iss u : Nat → Nat} : ∀ n c, c < n → dm_L iss u n (iss c) ≤ u c
  | 0, c, h => by omega
  | n + 1, c, h => by
    show (if iss n = iss c then min (dm_L iss u n (iss c)) (u n) else dm_L iss u n (iss c)) ≤ u c
    by_cases e : c = n
    · subst e; rw [if_pos rfl]; exact Nat.min_le_right _ _
    · have ih := dm_L_le (iss := iss) (u := u) n c (by omega)
      split
      · exact Nat.le_trans (Nat.min_le_left _ _) ih
      · exact ih
theorem dm_L_up {iss u : Nat → Nat} {c x : Nat} : ∀ n, c < n → dm_L iss (va_up u c (min (u c) x)) n = va_up (dm_L iss u n) (iss c) (min (dm_L iss u n (iss c)) x)
  | 0, h => by omega
  | n + 1, h => by
    funext i
    by_cases e : c = n
    · subst e
      have h0 : dm_L iss (va_up u c (min (u c) x)) c i = dm_L iss u c i := dm_L_same c (fun k hk => by unfold va_up; rw [if_neg (by omega)]) i
      show (if iss c = i then min (dm_L iss (va_up u c (min (u c) x)) c i) (va_up u c (min (u c) x) c) else dm_L iss (va_up u c (min (u c) x)) c i) = _
      rw [h0]
      unfold va_up
      by_cases hi : i = iss c
      · subst hi
        rw [if_pos rfl, if_pos rfl, if_pos rfl]
        show _ = min (if iss c = iss c then min (dm_L iss u c (iss c)) (u c) else dm_L iss u c (iss c)) x
        rw [if_pos rfl]
        omega
      · rw [if_neg (fun h => hi h.symm), if_neg hi]
        show _ = (if iss c = i then _ else _)
        rw [if_neg (fun h => hi h.symm)]
    · have ih := dm_L_up (iss := iss) (u := u) (c := c) (x := x) n (by omega)
      have hu : va_up u c (min (u c) x) n = u n := by unfold va_up; rw [if_neg (fun h => e h.symm)]
      show (if iss n = i then min (dm_L iss (va_up u c (min (u c) x)) n i) (va_up u c (min (u c) x) n) else dm_L iss (va_up u c (min (u c) x)) n i) = _
      rw [hu, ih]
      unfold va_up
      by_cases hi : i = iss c
      · subst hi
        rw [if_pos rfl, if_pos rfl]
        show _ = min (if iss n = iss c then min (dm_L iss u n (iss c)) (u n) else dm_L iss u n (iss c)) x
        split <;> omega
      · rw [if_neg hi, if_neg hi]
        rfl
-- the rules by certificate follow those by issuer
def dm_Rm (iss : Nat → Nat) (n : Nat) (ok : Nat → Bool) (g : Nat → (Nat → Nat) → Nat) (k : Nat) : dm_R := dm_upto (fun c => if ok c = true then [(c, fun u => g c (dm_L iss u n))] else []) k
def dm_Rx (iss : Nat → Nat) (ok : Nat → Bool) (g : Nat → (Nat → Nat) → Nat) (k : Nat) : dm_R := dm_upto (fun c => if ok c = true then [(iss c, g c)] else []) k
theorem dm_L_pass {iss : Nat → Nat} {n : Nat} {ok : Nat → Bool} {g : Nat → (Nat → Nat) → Nat} (u : Nat → Nat) : ∀ k, k ≤ n → dm_L iss (dm_pass (dm_Rm iss n ok g k) u) n = dm_pass (dm_Rx iss ok g k) (dm_L iss u n)
  | 0, _ => rfl
  | k + 1, h => by
    have ih := dm_L_pass (iss := iss) (n := n) (ok := ok) (g := g) u k (by omega)
    show dm_L iss (dm_pass (dm_Rm iss n ok g k ++ (if ok k = true then [(k, fun u => g k (dm_L iss u n))] else [])) u) n = dm_pass (dm_Rx iss ok g k ++ (if ok k = true then [(iss k, g k)] else [])) (dm_L iss u n)
    rw [dm_pass_app, dm_pass_app, ← ih]
    by_cases hk : ok k = true
    · rw [if_pos hk, if_pos hk]
      show dm_L iss (va_up _ k (min _ (g k _))) n = va_up _ (iss k) (min _ (g k _))
      exact dm_L_up n (by omega)
    · rw [if_neg hk, if_neg hk]
      rfl
theorem dm_L_post {iss : Nat → Nat} {n : Nat} {ok : Nat → Bool} {g : Nat → (Nat → Nat) → Nat} {u : Nat → Nat} (h : dm_post (dm_Rm iss n ok g n) u) : dm_post (dm_Rx iss ok g n) (dm_L iss u n) := by
  have key : ∀ c, c < n → ok c = true → u c ≤ g c (dm_L iss u n) := by
    intro c hc ho
    have hm : (c, fun u => g c (dm_L iss u n)) ∈ dm_Rm iss n ok g n := by
      have : ∀ k, c < k → (c, fun u => g c (dm_L iss u n)) ∈ dm_Rm iss n ok g k := by
        intro k
        induction k with
        | zero => intro hk; omega
        | succ k ih =>
          intro hk
          refine List.mem_append.mpr ?_
          by_cases e : c = k
          · subst e
            refine Or.inr ?_
            show _ ∈ (if ok c = true then [(c, fun u => g c (dm_L iss u n))] else [])
            rw [if_pos ho]
            exact List.mem_singleton.mpr rfl
          · exact Or.inl (ih (by omega))
      exact this n hc
    exact h _ hm
  intro x hx
  obtain ⟨c, hc, h1⟩ := dm_upto_mem hx
  by_cases ho : ok c = true
  · rw [if_pos ho] at h1
    rw [List.mem_singleton.mp h1]
    exact Nat.le_trans (dm_L_le n c hc) (key c hc ho)
  · rw [if_neg ho] at h1
    cases h1
theorem dm_L_top (iss : Nat → Nat) : ∀ n i, dm_L iss (fun _ => 1000) n i = 1000
  | 0, _ => rfl
  | n + 1, i => by
    show (if iss n = i then min (dm_L iss (fun _ => 1000) n i) 1000 else dm_L iss (fun _ => 1000) n i) = 1000
    rw [dm_L_top iss n i]
    split <;> rfl
theorem dm_L_go {iss : Nat → Nat} {n N : Nat} {ok : Nat → Bool} {g : Nat → (Nat → Nat) → Nat} (hR : dm_ok (dm_Rx iss ok g n)) (hN : dm_in (dm_Rx iss ok g n) N) : ∀ (k r : Nat) (u : Nat → Nat), (∀ j, dm_L iss u n j ≤ dm_D (dm_Rx iss ok g n) r j) → (∀ j, dm_D (dm_Rx iss ok g n) N j ≤ dm_L iss u n j) → N ≤ r + k → dm_L iss (dm_run (dm_Rm iss n ok g n) k u) n = dm_D (dm_Rx iss ok g n) N
  | 0, r, u, h1, h2, h3 => funext fun j => by
    have e1 := h1 j
    have e2 := h2 j
    have e3 := dm_D_anti (dm_Rx iss ok g n) (show N ≤ r by omega) j
    show dm_L iss u n j = _
    omega
  | k + 1, r, u, h1, h2, h3 => by
    unfold dm_run
    by_cases hf : dm_flag (dm_Rm iss n ok g n) u = true
    · rw [if_pos hf]
      refine dm_L_go hR hN k (r + 1) _ (fun j => ?_) (fun j => ?_) (by omega)
      · rw [dm_L_pass u n (Nat.le_refl _)]
        exact dm_pass_D hR h1 j
      · rw [dm_L_pass u n (Nat.le_refl _)]
        exact dm_pass_ge _ _ _ hR (dm_fixed hR hN) h2 j
    · rw [if_neg hf]
      obtain ⟨e1, e2⟩ := dm_flag_f _ u (by cases h : dm_flag (dm_Rm iss n ok g n) u <;> simp_all)
      rw [e1]
      funext j
      have e3 := dm_D_ge hR (dm_L_post e2) (fun i => Nat.le_trans (h1 i) (dm_D_le _ r i)) N j
      have e4 := h2 j
      omega
theorem dm_L_eq {iss : Nat → Nat} {n N k : Nat} {ok : Nat → Bool} {g : Nat → (Nat → Nat) → Nat} (hR : dm_ok (dm_Rx iss ok g n)) (hN : dm_in (dm_Rx iss ok g n) N) (hk : N ≤ k) : dm_L iss (dm_run (dm_Rm iss n ok g n) k (fun _ => 1000)) n = dm_D (dm_Rx iss ok g n) N :=
  dm_L_go hR hN k 0 _ (fun j => by rw [dm_L_top]; exact Nat.le_refl _) (fun j => by rw [dm_L_top]; exact dm_D_le _ N j) (by omega)
-- one rule more of a counting loop
theorem dm_one_t {f : Nat → dm_R} {g : Nat → Nat} {k t : Nat} {F : (Nat → Nat) → Nat} (hf : f k = [(t, F)]) (h : F (dm_pass (dm_upto f k) g) < dm_pass (dm_upto f k) g t) : dm_pass (dm_upto f (k + 1)) g = va_up (dm_pass (dm_upto f k) g) t (F (dm_pass (dm_upto f k) g)) ∧ dm_flag (dm_upto f (k + 1)) g = true := by
  show dm_pass (dm_upto f k ++ f k) g = _ ∧ dm_flag (dm_upto f k ++ f k) g = true
  rw [hf, dm_pass_app, dm_flag_app]
  refine ⟨?_, ?_⟩
  · show va_up _ t (min _ _) = _
    rw [Nat.min_eq_right (Nat.le_of_lt h)]
  · show (_ || (decide (_ < _) || false)) = true
    rw [decide_eq_true h]; simp
theorem dm_one_f {f : Nat → dm_R} {g : Nat → Nat} {k t : Nat} {F : (Nat → Nat) → Nat} (hf : f k = [(t, F)]) (h : ¬ F (dm_pass (dm_upto f k) g) < dm_pass (dm_upto f k) g t) : dm_pass (dm_upto f (k + 1)) g = dm_pass (dm_upto f k) g ∧ dm_flag (dm_upto f (k + 1)) g = dm_flag (dm_upto f k) g := by
  show dm_pass (dm_upto f k ++ f k) g = _ ∧ dm_flag (dm_upto f k ++ f k) g = _
  rw [hf, dm_pass_app, dm_flag_app]
  refine ⟨?_, ?_⟩
  · show va_up _ t (min _ _) = _
    rw [Nat.min_eq_left (Nat.le_of_not_lt h)]
    funext j
    unfold va_up
    by_cases e : j = t
    · rw [if_pos e, e]
    · rw [if_neg e]
  · show (_ || (decide (_ < _) || false)) = _
    rw [decide_eq_false h]; simp
theorem dm_none {f : Nat → dm_R} {g : Nat → Nat} {k : Nat} (hf : f k = []) : dm_pass (dm_upto f (k + 1)) g = dm_pass (dm_upto f k) g ∧ dm_flag (dm_upto f (k + 1)) g = dm_flag (dm_upto f k) g := by
  show dm_pass (dm_upto f k ++ f k) g = _ ∧ dm_flag (dm_upto f k ++ f k) g = _
  rw [hf, List.append_nil]
  exact ⟨rfl, rfl⟩
theorem dm_some {f : Nat → dm_R} {g : Nat → Nat} {k : Nat} {A : dm_R} (hf : f k = A) : dm_pass (dm_upto f (k + 1)) g = dm_pass A (dm_pass (dm_upto f k) g) ∧ dm_flag (dm_upto f (k + 1)) g = (dm_flag (dm_upto f k) g || dm_flag A (dm_pass (dm_upto f k) g)) := by
  show dm_pass (dm_upto f k ++ f k) g = _ ∧ dm_flag (dm_upto f k ++ f k) g = _
  rw [hf, dm_pass_app, dm_flag_app]
  exact ⟨rfl, rfl⟩
theorem dm_pass_1000 {R : dm_R} {g : Nat → Nat} (h : ∀ j, g j ≤ 1000) : ∀ j, dm_pass R g j ≤ 1000 := fun j => Nat.le_trans (dm_pass_le R g j) (h j)
theorem dm_run_1000 (R : dm_R) : ∀ (k : Nat) (g : Nat → Nat), (∀ j, g j ≤ 1000) → ∀ j, dm_run R k g j ≤ 1000
  | 0, _, h, j => h j
  | k + 1, g, h, j => by
    unfold dm_run
    split
    · exact dm_run_1000 R k _ (dm_pass_1000 h) j
    · exact dm_pass_1000 h j
-- the rules of a naming; of all namings that stand at a time
def ru_n (is nm su : Nat) : Nat → dm_R := fun y => [(32 * is + 8 * nm + y, fun v => dm_s 1 (dm_ofs v su y))]
abbrev ru_ok (N : Nat → Nat → Nat) (S : Nat → Nat → Int32) (t : Int32) (c : Nat) : Prop := N 1 c = 0 ∧ N 2 c = 1 ∧ ¬ t < S 5 c ∧ ¬ S 6 c < t
def ru_m (N : Nat → Nat → Nat) (S : Nat → Nat → Int32) (t : Int32) : Nat → dm_R := fun c => if ru_ok N S t c then dm_upto (ru_n (N 3 c) (N 4 c) (N 7 (3 * c))) 8 else []
def ru_M (N : Nat → Nat → Nat) (S : Nat → Nat → Int32) (t : Int32) : dm_R := dm_upto (ru_m N S t) (N 0 0)
