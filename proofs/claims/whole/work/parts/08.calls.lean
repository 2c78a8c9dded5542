-- (behind the names: kc, gW, lw_tbl) what every method's start knows of the tables; its start and end over a memory; calls
def kk_nest : Cond → Bool
  | .fieldLinkNest .. => true
  | .methodLinkNest .. => true
  | .castable .. => true
  | _ => false
def kk_K (D : va_G) (cI cZ cQ : ClassId) (U : State) : Prop := va_K D kc [(cI, .int), (cZ, .boolean), (cQ, .object "DelegationClosure$Certificate")] U ∧ (∀ w, w ∈ lw_tbl → kk_nest w = true → va_Nw w U) ∧ va_AO "DelegationClosure$Certificate" U ∧ va_Nc "DelegationClosure$Naming" "DelegationClosure$Permission" U ∧ va_Nc "DelegationClosure$Permission" "DelegationClosure$Naming" U
theorem kk_K.warm {D : va_G} {cI cZ cQ : ClassId} {s U : State} (hW : s.WarmedH U.vm) (h : kk_K D cI cZ cQ s) : kk_K D cI cZ cQ U := by
  obtain ⟨h1, h2, h3, h4, h5⟩ := h
  refine ⟨va_K.moved hW.alike h1, fun w hw hn => ?_, va_AO.moved hW.alike h3, va_Nc.moved hW.alike h4, va_Nc.moved hW.alike h5⟩
  have h6 := h2 w hw hn
  cases w <;> first | (cases hn; done) | exact va_Nw.warmF hW h6 | exact va_Nw.warmM hW h6 | exact va_Nw.warmC hW h6
theorem kk_K.same {D : va_G} {cI cZ cQ : ClassId} {s U : State} (hv : s.vm = U.vm) (h : kk_K D cI cZ cQ s) : kk_K D cI cZ cQ U := by
  obtain ⟨h1, h2, h3, h4, h5⟩ := h
  have ha : s.vm.Alike U.vm := by rw [hv]; exact Vm.Alike.refl U.vm
  refine ⟨va_K.moved ha h1, fun w hw hn => ?_, va_AO.moved ha h3, va_Nc.moved ha h4, va_Nc.moved ha h5⟩
  have h6 := h2 w hw hn
  cases w <;> first | (cases hn; done) | exact va_Nw.same rfl hv h6
def kk_rm (f cells slots : Nat) : Room := { frames := f, cells := cells, slots := slots, locals := 40 * f }
def kk_Pc (B : Nat) (D : va_G) (cI cZ cQ : ClassId) (av : List Value) (w : mm_M) (sz : Nat) : Array Value → State → Prop := fun v U => v = av.toArray ∧ kk_K D cI cZ cQ U ∧ mm_P B D kc w U.heap ∧ U.heap.size = sz ∧ B ≤ sz
abbrev kk_E (B : Nat) (D : va_G) (u : mm_M × Nat) (t : State) : Prop := mm_P B D kc u.1 t.heap ∧ t.heap.size = u.2
abbrev kk_Qi (B : Nat) (D : va_G) (post : Int32 → mm_M → Nat → Prop) : Array Value → State → Outcome → State → Prop := va_Qi (fun r (u : mm_M × Nat) => post r u.1 u.2) (kk_E B D) (fun q => B ≤ q)
abbrev kk_Qv (B : Nat) (D : va_G) (post : mm_M → Nat → Prop) : Array Value → State → Outcome → State → Prop := va_Qv (fun (u : mm_M × Nat) => post u.1 u.2) (kk_E B D) (fun q => B ≤ q)
theorem kk_blind {B : Nat} {D : va_G} {cI cZ cQ : ClassId} {av : List Value} {w : mm_M} {sz : Nat} : FrameBlind (kk_Pc B D cI cZ cQ av w sz) := fun a U g mk h => by
  obtain ⟨h1, h2, h3, h4, h5⟩ := h
  exact ⟨h1, kk_K.same (s := U) (U := U.calling g mk a) rfl h2, h3, h4, h5⟩
theorem kk_preS {B : Nat} {D : va_G} {cI cZ cQ : ClassId} {As : List Value} {w : mm_M} {sz : Nat} {s : State} {H : Heap} (hK : kk_K D cI cZ cQ s) (hP : mm_P B D kc w H) (hz : H.size = sz) (hB : B ≤ sz) : PreS s H (kk_Pc B D cI cZ cQ As w sz) As :=
  ⟨kk_blind, fun U hU hW => ⟨rfl, hK.warm hW, by rw [hU]; exact hP, by rw [hU]; exact hz, hB⟩⟩
theorem kk_preV {B : Nat} {D : va_G} {cI cZ cQ : ClassId} {As : List Value} {w : mm_M} {sz b ci : Nat} {fs : List Value} {q : vw_C} {s : State} {H : Heap} (hK : kk_K D cI cZ cQ s) (hP : mm_P B D kc w H) (hz : H.size = sz) (hB : B ≤ sz) (hb : w b = some (.inr (ci, fs))) (hc : kc[ci]? = some q) : PreV s H q.1 b (kk_Pc B D cI cZ cQ (.ref b :: As) w sz) As :=
  ⟨kk_blind, va_recv (q0 := 0) hK.1 (mm_one (hP _ _ hb).2) hc rfl, fun U hU hW => ⟨rfl, hK.warm hW, by rw [hU]; exact hP, by rw [hU]; exact hz, hB⟩⟩
theorem kk_1 {a : Cond} (ha : a ∈ gW) : ∀ w, w ∈ [a] → w ∈ gW := fun w h => by rw [List.mem_singleton.mp h]; exact ha
theorem kk_c {a : Cond} {l : List Cond} (ha : a ∈ gW) (h : ∀ w, w ∈ l → w ∈ gW) : ∀ w, w ∈ a :: l → w ∈ gW := fun w hw => (List.mem_cons.mp hw).elim (fun q => by rw [q]; exact ha) (h w)
theorem kk_4 {a b c d : Cond} (ha : a ∈ gW) (hb : b ∈ gW) (hc : c ∈ gW) (hd : d ∈ gW) : ∀ w, w ∈ [a, b, c, d] → w ∈ gW := kk_c ha (kk_c hb (kk_c hc (kk_1 hd)))
theorem kk_5 {a b c d e : Cond} (ha : a ∈ gW) (hb : b ∈ gW) (hc : c ∈ gW) (hd : d ∈ gW) (he : e ∈ gW) : ∀ w, w ∈ [a, b, c, d, e] → w ∈ gW := kk_c ha (kk_4 hb hc hd he)
theorem kk_b0 {P : Prop} [Decidable P] (h : nI (if P then 1 else 0) = 0) : ¬ P := fun p => by rw [if_pos p] at h; exact absurd h (by decide)
theorem kk_b1 {P : Prop} [Decidable P] (h : ¬ nI (if P then 1 else 0) = 0) : P := by
  by_cases p : P
  · exact p
  · rw [if_neg p] at h; exact absurd rfl h
theorem kk_nar1 {n : Nat} (h : n ≤ 1) : narrow .boolean (.int (nI n)) = .int (nI n) := by
  rcases (show n = 0 ∨ n = 1 by omega) with rfl | rfl <;> rfl
theorem kk_fit1 {n : Nat} (h : n ≤ 1) : fits .boolean (.int (nI n)) = true := by
  rcases (show n = 0 ∨ n = 1 by omega) with rfl | rfl <;> rfl
theorem kk_nar (P : Prop) [Decidable P] : narrow .boolean (.int (nI (if P then 1 else 0))) = .int (nI (if P then 1 else 0)) := kk_nar1 (by split <;> omega)
theorem kk_inc (i : Nat) : nI i + Int32.ofInt 1 = nI (i + 1) := nI_1 i
theorem kk_dec {i : Nat} (h : 1 ≤ i) : nI i + Int32.ofInt (-1) = nI (i - 1) := by
  obtain ⟨j, rfl⟩ : ∃ j, i = j + 1 := ⟨i - 1, by omega⟩
  exact pk_m1 j
theorem kk_m1 {n : Nat} (h : n < 2 ^ 31) : nI n ≠ -1 := fun q => by
  have h1 := nI_toInt h
  rw [q] at h1
  have h2 : (-1 : Int32).toInt = -1 := by decide
  rw [h2] at h1
  omega
theorem kk_upn (g : Nat → Nat) (k x : Nat) : upd (fun i => nI (g i)) k (nI x) = fun i => nI (va_up g k x i) := by
  funext j
  unfold upd va_up
  by_cases h : j = k
  · rw [if_pos h, if_pos h]
  · rw [if_neg h, if_neg h]
theorem kk_ift {P : Prop} [Decidable P] (h : P) : nI 1 = nI (if P then 1 else 0) := by rw [if_pos h]
theorem kk_iff {P : Prop} [Decidable P] (h : ¬ P) : nI 0 = nI (if P then 1 else 0) := by rw [if_neg h]
theorem kk_ofn {x : Int32} {N : Nat} (h1 : ¬ x < 0) (h2 : ¬ nI N ≤ x) (hN : N < 2 ^ 31) : ∃ n, n < N ∧ x = nI n := by
  obtain ⟨j, hj, rfl⟩ := nI_of h1
  exact ⟨j, Nat.lt_of_not_le (fun q => h2 ((nI_leI hN hj).mpr q)), rfl⟩
theorem kk_min {a b : Nat} (ha : a < 2 ^ 31) (hb : b < 2 ^ 31) : (if nI b < nI a then nI b else nI a) = nI (min a b) := by
  by_cases h : b < a
  · rw [if_pos ((nI_ltI hb ha).mpr h), Nat.min_eq_right (Nat.le_of_lt h)]
  · rw [if_neg (fun q => h ((nI_ltI hb ha).mp q)), Nat.min_eq_left (Nat.le_of_not_lt h)]
section KKrows
variable {p : Program} {l : Launch} {e : Env} {R : Room} {s : State} {m : MethodId} {args : Array Value} {below : List Frame} {meth : Method} {c : Code} {H : Heap} {locs : List Loc} {cells slots : Nat} {Q : State → Prop}
variable {pc : Nat} {ls : Array Slot} {rest st0 : List Value} {a : Array Value} {H0 : Heap} {mc ms : Nat} {B : Nat} {D : va_G}
theorem kk_top {x y : Int32} (h : x = y) (k : W p l e R s m args below meth c H locs cells slots Q (F0 m pc ls (.int y :: rest))) : W p l e R s m args below meth c H locs cells slots Q (F0 m pc ls (.int x :: rest)) := by
  rw [h]; exact k
theorem kk_topv {x y : Value} (h : x = y) (k : W p l e R s m args below meth c H locs cells slots Q (F0 m pc ls (y :: rest))) : W p l e R s m args below meth c H locs cells slots Q (F0 m pc ls (x :: rest)) := by
  rw [h]; exact k
theorem kk_calli {post : Int32 → mm_M → Nat → Prop} (hr : va_Run p l e R s m args below meth c H locs cells slots mc ms (F0 m pc ls st0) rest (kk_Qi B D post a) (fun q => B ≤ q)) (hS : mm_S B H0 H locs)
    (kk : ∀ (r : Int32) (w' : mm_M) (sz' : Nat) (H1 : Heap) (locs1 : List Loc), post r w' sz' → mm_P B D kc w' H1 → H1.size = sz' → mm_S B H0 H1 locs1 → W p l e R s m args below meth c H1 locs1 (cells + mc) (slots + ms) Q (F0 m (pc + 3) ls (.int r :: rest))) : W p l e R s m args below meth c H locs cells slots Q (F0 m pc ls st0) :=
  va_calli hr hS (fun _ _ h => h) (fun _ h => h) (fun r u t H1 locs1 ht _ hp hE _ _ hS1 => by
    subst ht
    exact kk r u.1 u.2 _ locs1 hp hE.1 hE.2 hS1)
theorem kk_callv {post : mm_M → Nat → Prop} (hr : va_Run p l e R s m args below meth c H locs cells slots mc ms (F0 m pc ls st0) rest (kk_Qv B D post a) (fun q => B ≤ q)) (hS : mm_S B H0 H locs)
    (kk : ∀ (w' : mm_M) (sz' : Nat) (H1 : Heap) (locs1 : List Loc), post w' sz' → mm_P B D kc w' H1 → H1.size = sz' → mm_S B H0 H1 locs1 → W p l e R s m args below meth c H1 locs1 (cells + mc) (slots + ms) Q (F0 m (pc + 3) ls rest)) : W p l e R s m args below meth c H locs cells slots Q (F0 m pc ls st0) :=
  va_callv hr hS (fun _ _ h => h) (fun _ h => h) (fun u t H1 locs1 ht _ hp hE _ _ hS1 => by
    subst ht
    exact kk u.1 u.2 _ locs1 hp hE.1 hE.2 hS1)
end KKrows
theorem kk_or (P Q : Prop) [Decidable P] [Decidable Q] : nI (if P then 1 else 0) ||| nI (if Q then 1 else 0) = nI (if P ∨ Q then 1 else 0) := by
  by_cases p : P <;> by_cases q : Q <;> simp [p, q] <;> decide
theorem kk_iteq {P Q : Prop} [Decidable P] [Decidable Q] (h : P ↔ Q) : nI (if P then 1 else 0) = nI (if Q then 1 else 0) := by
  by_cases q : Q
  · rw [if_pos q, if_pos (h.mpr q)]
  · rw [if_neg q, if_neg (fun p => q (h.mp p))]
theorem ru_fill {k x : Nat} {g : Nat → Nat} : (fun i => nI (va_up (fun j => if j < k then x else g j) k x i)) = fun i => nI ((fun j => if j < k + 1 then x else g j) i) := by
  funext i
  show nI (if i = k then x else (if i < k then x else g i)) = nI (if i < k + 1 then x else g i)
  by_cases h : i = k
  · rw [if_pos h, if_pos (by omega)]
  · rw [if_neg h]
    by_cases h1 : i < k
    · rw [if_pos h1, if_pos (by omega)]
    · rw [if_neg h1, if_neg (by omega)]
