-- what the tables say, for every method below the law
theorem lw_gw {v : Array Value} {s : State} (hts : ∀ w ∈ lw_tbl, w.before v s = true) : ∀ w ∈ Cond.initialized "DelegationClosureLaw" :: gW, w.before v s = true := fun w hw => by
  have h1 : w ∈ gW := (List.mem_cons.mp hw).elim (fun e => by rw [e]; exact wd_0) id
  exact hts w (List.mem_filter.mp h1).1
theorem lw_Ka {U : State} {c0 c1 c2 c3 c4 c5 c6 c7 c8 c9 : ClassId} {i0 i1 i2 i3 i4 i5 i6 i7 i8 i9 : Nat → Nat} (k0 : u_Kn U n_X T_X 4 c0 i0) (k1 : u_Kn U n_Reg T_Reg 2 c1 i1) (k2 : u_Kn U n_Mea T_Mea 1 c2 i2) (k3 : u_Kn U n_Led T_Led 3 c3 i3) (k4 : u_Kn U n_Chn T_Chn 7 c4 i4) (k5 : u_Kn U n_Tag T_Tag 2 c5 i5) (k6 : u_Kn U n_Spn T_Spn 2 c6 i6) (k7 : u_Kn U n_Nam T_Nam 5 c7 i7) (k8 : u_Kn U n_Prm T_Prm 8 c8 i8) (k9 : u_Kn U n_Mod T_Mod 27 c9 i9) : ∃ D : va_G, ∀ (c : Nat) (q : vw_C), kc[c]? = some q → u_Kn U q.1 q.2.1 q.2.2 (D.1 c) (D.2 c) := by
  refine ⟨(fun k => match k with | 0 => c0 | 1 => c1 | 2 => c2 | 3 => c3 | 4 => c4 | 5 => c5 | 6 => c6 | 7 => c7 | 8 => c8 | _ => c9, fun k => match k with | 0 => i0 | 1 => i1 | 2 => i2 | 3 => i3 | 4 => i4 | 5 => i5 | 6 => i6 | 7 => i7 | 8 => i8 | _ => i9), fun c q hq => ?_⟩
  have hc : c < 10 := (List.getElem?_eq_some_iff.mp hq).1
  rcases (show c = 0 ∨ c = 1 ∨ c = 2 ∨ c = 3 ∨ c = 4 ∨ c = 5 ∨ c = 6 ∨ c = 7 ∨ c = 8 ∨ c = 9 by omega) with rfl | rfl | rfl | rfl | rfl | rfl | rfl | rfl | rfl | rfl
  · have e : (n_X, T_X, 4) = q := Option.some.inj hq
    subst e
    exact k0
  · have e : (n_Reg, T_Reg, 2) = q := Option.some.inj hq
    subst e
    exact k1
  · have e : (n_Mea, T_Mea, 1) = q := Option.some.inj hq
    subst e
    exact k2
  · have e : (n_Led, T_Led, 3) = q := Option.some.inj hq
    subst e
    exact k3
  · have e : (n_Chn, T_Chn, 7) = q := Option.some.inj hq
    subst e
    exact k4
  · have e : (n_Tag, T_Tag, 2) = q := Option.some.inj hq
    subst e
    exact k5
  · have e : (n_Spn, T_Spn, 2) = q := Option.some.inj hq
    subst e
    exact k6
  · have e : (n_Nam, T_Nam, 5) = q := Option.some.inj hq
    subst e
    exact k7
  · have e : (n_Prm, T_Prm, 8) = q := Option.some.inj hq
    subst e
    exact k8
  · have e : (n_Mod, T_Mod, 27) = q := Option.some.inj hq
    subst e
    exact k9
theorem lw_K {v : Array Value} {s : State} (hts : ∀ w ∈ lw_tbl, w.before v s = true) (n1 : (Cond.not (.castable "DelegationClosure$Naming" "DelegationClosure$Permission")).before v s = true) (n2 : (Cond.not (.castable "DelegationClosure$Permission" "DelegationClosure$Naming")).before v s = true) : ∃ (D : va_G) (cI cZ cQ : ClassId), kk_K D cI cZ cQ s := by
  have hg := lw_gw hts
  obtain ⟨c0, i0, k0⟩ := u_known hg lay_X (hg _ (List.mem_cons_of_mem _ wd_16))
  obtain ⟨c1, i1, k1⟩ := u_known hg lay_Reg (hg _ (List.mem_cons_of_mem _ wd_24))
  obtain ⟨c2, i2, k2⟩ := u_known hg lay_Mea (hg _ (List.mem_cons_of_mem _ wd_42))
  obtain ⟨c3, i3, k3⟩ := u_known hg lay_Led (hg _ (List.mem_cons_of_mem _ wd_53))
  obtain ⟨c4, i4, k4⟩ := u_known hg lay_Chn (hg _ (List.mem_cons_of_mem _ wd_70))
  obtain ⟨c5, i5, k5⟩ := u_known hg lay_Tag (hg _ (List.mem_cons_of_mem _ wd_76))
  obtain ⟨c6, i6, k6⟩ := u_known hg lay_Spn (hg _ (List.mem_cons_of_mem _ wd_82))
  obtain ⟨c7, i7, k7⟩ := u_known hg lay_Nam (hg _ (List.mem_cons_of_mem _ wd_166))
  obtain ⟨c8, i8, k8⟩ := u_known hg lay_Prm (hg _ (List.mem_cons_of_mem _ wd_221))
  obtain ⟨c9, i9, k9⟩ := u_known hg lay_Mod (hg _ (List.mem_cons_of_mem _ wd_486))
  obtain ⟨D, hD⟩ := lw_Ka k0 k1 k2 k3 k4 k5 k6 k7 k8 k9
  obtain ⟨cI, kI, pI, a1, a2, a3⟩ := Cond.arrayClass_spec (hg _ (List.mem_cons_of_mem _ wd_51))
  obtain ⟨cZ, kZ, pZ, b1, b2, b3⟩ := Cond.arrayClass_spec (hg _ (List.mem_cons_of_mem _ wd_68))
  have ho : (Cond.arrayOver (.object "DelegationClosure$Certificate")).before v s = true := hts _ (List.mem_append_right _ (List.mem_of_getElem? (i := 30) rfl))
  obtain ⟨pQ, cQ, kQ, d1, -, d2, d3, d4⟩ := Cond.arrayOver_spec ho
  refine ⟨D, cI, cZ, cQ, ⟨hD, fun k q hq => ?_⟩, fun w hw hn => ?_, va_AO.of ho, va_Nc.of n1, va_Nc.of n2⟩
  · have hc : k < 3 := (List.getElem?_eq_some_iff.mp hq).1
    rcases (show k = 0 ∨ k = 1 ∨ k = 2 by omega) with rfl | rfl | rfl
    · have e : (cI, FieldType.int) = q := Option.some.inj hq
      subst e
      exact ⟨fun n z => ⟨fun k h => (by cases h), kI, a2, pI, a3⟩, a1⟩
    · have e : (cZ, FieldType.boolean) = q := Option.some.inj hq
      subst e
      exact ⟨fun n z => ⟨fun k h => (by cases h), kZ, b2, pZ, b3⟩, b1⟩
    · have e : (cQ, FieldType.object "DelegationClosure$Certificate") = q := Option.some.inj hq
      subst e
      exact ⟨fun n z => ⟨fun k h => (by cases h), kQ, d2, pQ, d3⟩, kQ, pQ, d2, d3, d1, d4⟩
  · have h6 := hts w hw
    cases w <;> first | (cases hn; done) | exact va_Nw.of rfl h6
