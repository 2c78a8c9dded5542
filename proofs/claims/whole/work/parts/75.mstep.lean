theorem mm_self {w : mm_M} {a : Nat} {x : va_E} (h : w a = some x) : mm_up w a x = w := by
  funext j
  by_cases e : j = a
  · subst e; rw [mm_us]; exact h.symm
  · exact mm_un e
theorem mm_over {A : mm_M} {a z : Nat} (h : z ≠ a) (o o2 r : va_E) : mm_up (mm_up (mm_up A a o) z r) a o2 = mm_up (mm_up A z r) a o2 := by
  funext j
  by_cases e : j = a
  · subst e; rw [mm_us, mm_us]
  · rw [mm_un e, mm_un e]
    by_cases e2 : j = z
    · subst e2; rw [mm_us, mm_us]
    · rw [mm_un e2, mm_un e2, mm_un e]
section MDrow
variable {p : Program} {l : Launch} {e : Env} {R : Room} {s : State} {m : MethodId} {args : Array Value} {below : List Frame} {meth : Method} {c : Code} {H : Heap} {locs : List Loc} {cells slots : Nat} {Q : State → Prop}
variable {cc : ByteArray} {pc : Nat} {ls : Array Slot} {rest : List Value} {D : va_G} {a : Nat} {tys : List (ClassId × FieldType)} {H0 : Heap} {B : Nat} {A : mm_M}
/-- an array made, and laid into a field of the reference -/
theorem md_step (hexec : p.tables.exec = Jvm.exec) (hb : c.code = cc) {Ts : List Cond} (hts : ∀ w ∈ Ts, w.before args s = true) (hin : ∀ w ∈ u_ws n_Mod T_Mod 27, w ∈ Ts) {own : String} (hown : s.vm.findClass own = some m.cls) (hK : va_K D kc tys s) {fs : List Value} (hP : mm_P B D kc (mm_up A a (.inr (9, fs))) H) (hS : mm_S B H0 H locs) {z : Nat} (hz : H.size = z) (hB : B ≤ z) (haz : a < z)
    {atype : ArrayType} (harr : (Cond.arrayClass (newarray.typeOf atype)).before args s = true) {cA : ClassId} (hnm : s.vm.findClass ("[" ++ (newarray.typeOf atype).toString) = some cA) {n : Int32} {N' : Nat} {a0 : vp_A} (ha : ∀ cA : ClassId, vp_cell cA a0 = arrV cA N' (fun _ => defaultValue (newarray.typeOf atype))) (hn : ¬ n < 0) (hN : n.toNatClampNeg = N') (hbytes : N' * componentBytes (newarray.typeOf atype) ≤ 536870912) (hcells : cells + 1 ≤ R.cells) (hslots : slots + N' ≤ R.slots) (hdg : decode cc pc = .ok (.newarray atype, 2))
    {index : Nat} (k : Nat) (hk : k < 27) (hlink : (Cond.fieldLink own index "DelegationClosureModel" (T_Mod k).2.1 (T_Mod k).2.2.1).before args s = true) (hsame : (T_Mod k).1 = "DelegationClosureModel") (hfin : (T_Mod k).2.2.2 = false) {ty : FieldType} (hd : parseFieldDescriptor (T_Mod k).2.2.1 = some ty) (hnar : narrow ty (.ref z) = .ref z) (hfit : fits ty (.ref z) = true) (hl : k < fs.length) (hdg2 : decode cc (pc + 2) = .ok (.putfield index, 3))
    (kk : ∀ (H1 : Heap) (locs1 : List Loc), mm_P B D kc (mm_up (mm_up A z (.inl (cA, a0))) a (.inr (9, fs.set k (.ref z)))) H1 → H1.size = z + 1 → mm_S B H0 H1 locs1 → W p l e R s m args below meth c H1 locs1 (cells + 1) (slots + N') Q (F0 m (pc + 5) ls rest)) : W p l e R s m args below meth c H locs cells slots Q (F0 m pc ls (.int n :: .ref a :: rest)) := by
  refine mm_newa hexec hb harr hnm hP hS ha hn hN hbytes hcells hslots hz hB hdg (fun H1 hP1 hz1 hS1 => ?_)
  have hf : mm_up (mm_up A a (.inr (9, fs))) z (.inl (cA, a0)) a = some (.inr (9, fs)) := (mm_un (by omega)).trans (mm_us _ _ _)
  refine mm_put (D := D) (C := n_Mod) (T := T_Mod) (N := 27) (v := .ref z) (ty := ty) hexec hb hts hin t_Mod ty_Mod nm_Mod hown hK hP1 hS1 hf rfl k hk hlink (fun x h9 => by rw [hsame] at h9; exact h9) hfin hd hnar hfit hl hdg2 (fun H2 locs2 hP2 hz2 hS2 => ?_)
  refine kk H2 locs2 ?_ (hz2.trans hz1) hS2
  rw [mm_over (by omega)] at hP2
  exact hP2
end MDrow
