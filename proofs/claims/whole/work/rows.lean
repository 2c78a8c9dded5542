section
/-- a private method of a class that the tables say can be made, by its rows of tables_1 -/
def lw_okq (q : MethodName × Nat) : Prop := (q.1.cls ≠ "java/lang/invoke/MethodHandle" ∧ q.1.cls ≠ "java/lang/invoke/VarHandle") ∧ Cond.instantiable q.1.cls q.2 ∈ tables_1 ∧ Cond.privateMethod q.1 ∈ tables_1 ∧ Cond.instanceMethod q.1 ∈ tables_1
theorem lw_p0 : lw_okq (⟨"DelegationClosure$Meanings", "improve", "(LDelegationClosure$Register;I)Z"⟩, 1) := ⟨⟨by decide +kernel, by decide +kernel⟩, List.mem_of_getElem? (i := 42) (by decide +kernel), List.mem_of_getElem? (i := 313) (by decide +kernel), List.mem_of_getElem? (i := 314) (by decide +kernel)⟩
theorem lw_p1 : lw_okq (⟨"DelegationClosure$Meanings", "improveBy", "(LDelegationClosure$Naming;)Z"⟩, 1) := ⟨⟨by decide +kernel, by decide +kernel⟩, List.mem_of_getElem? (i := 42) (by decide +kernel), List.mem_of_getElem? (i := 323) (by decide +kernel), List.mem_of_getElem? (i := 324) (by decide +kernel)⟩
theorem lw_p2 : lw_okq (⟨"DelegationClosure$Leads", "improve", "(LDelegationClosure$Register;LDelegationClosure$Meanings;I)Z"⟩, 3) := ⟨⟨by decide +kernel, by decide +kernel⟩, List.mem_of_getElem? (i := 53) (by decide +kernel), List.mem_of_getElem? (i := 376) (by decide +kernel), List.mem_of_getElem? (i := 377) (by decide +kernel)⟩
theorem lw_p3 : lw_okq (⟨"DelegationClosure$Leads", "byCertificate", "(LDelegationClosure$Meanings;LDelegationClosure$Permission;I)I"⟩, 3) := ⟨⟨by decide +kernel, by decide +kernel⟩, List.mem_of_getElem? (i := 53) (by decide +kernel), List.mem_of_getElem? (i := 380) (by decide +kernel), List.mem_of_getElem? (i := 381) (by decide +kernel)⟩
theorem lw_p4 : lw_okq (⟨"DelegationClosure$Leads", "bySubject", "(LDelegationClosure$Meanings;IZI)I"⟩, 3) := ⟨⟨by decide +kernel, by decide +kernel⟩, List.mem_of_getElem? (i := 53) (by decide +kernel), List.mem_of_getElem? (i := 384) (by decide +kernel), List.mem_of_getElem? (i := 385) (by decide +kernel)⟩
theorem lw_p5 : lw_okq (⟨"DelegationClosure$Leads", "sortIn", "(II)V"⟩, 3) := ⟨⟨by decide +kernel, by decide +kernel⟩, List.mem_of_getElem? (i := 53) (by decide +kernel), List.mem_of_getElem? (i := 391) (by decide +kernel), List.mem_of_getElem? (i := 392) (by decide +kernel)⟩
theorem lw_p6 : lw_okq (⟨"DelegationClosure$Chain", "putAhead", "(II)V"⟩, 7) := ⟨⟨by decide +kernel, by decide +kernel⟩, List.mem_of_getElem? (i := 70) (by decide +kernel), List.mem_of_getElem? (i := 407) (by decide +kernel), List.mem_of_getElem? (i := 408) (by decide +kernel)⟩
theorem lw_p7 : lw_okq (⟨"DelegationClosureModel", "make", "(ZIIII)I"⟩, 27) := ⟨⟨by decide +kernel, by decide +kernel⟩, List.mem_of_getElem? (i := 486) (by decide +kernel), List.mem_of_getElem? (i := 584) (by decide +kernel), List.mem_of_getElem? (i := 585) (by decide +kernel)⟩
theorem lw_p8 : lw_okq (⟨"DelegationClosureModel", "isPermission", "(I)Z"⟩, 27) := ⟨⟨by decide +kernel, by decide +kernel⟩, List.mem_of_getElem? (i := 486) (by decide +kernel), List.mem_of_getElem? (i := 598) (by decide +kernel), List.mem_of_getElem? (i := 599) (by decide +kernel)⟩
theorem lw_p9 : lw_okq (⟨"DelegationClosureModel", "isThere", "(I)Z"⟩, 27) := ⟨⟨by decide +kernel, by decide +kernel⟩, List.mem_of_getElem? (i := 486) (by decide +kernel), List.mem_of_getElem? (i := 602) (by decide +kernel), List.mem_of_getElem? (i := 603) (by decide +kernel)⟩
theorem lw_p10 : lw_okq (⟨"DelegationClosureModel", "findMeanings", "(I)V"⟩, 27) := ⟨⟨by decide +kernel, by decide +kernel⟩, List.mem_of_getElem? (i := 486) (by decide +kernel), List.mem_of_getElem? (i := 626) (by decide +kernel), List.mem_of_getElem? (i := 627) (by decide +kernel)⟩
theorem lw_p11 : lw_okq (⟨"DelegationClosureModel", "useNames", "(I)Z"⟩, 27) := ⟨⟨by decide +kernel, by decide +kernel⟩, List.mem_of_getElem? (i := 486) (by decide +kernel), List.mem_of_getElem? (i := 630) (by decide +kernel), List.mem_of_getElem? (i := 631) (by decide +kernel)⟩
theorem lw_p12 : lw_okq (⟨"DelegationClosureModel", "isValid", "(II)Z"⟩, 27) := ⟨⟨by decide +kernel, by decide +kernel⟩, List.mem_of_getElem? (i := 486) (by decide +kernel), List.mem_of_getElem? (i := 634) (by decide +kernel), List.mem_of_getElem? (i := 635) (by decide +kernel)⟩
theorem lw_p13 : lw_okq (⟨"DelegationClosureModel", "costOf", "(II)I"⟩, 27) := ⟨⟨by decide +kernel, by decide +kernel⟩, List.mem_of_getElem? (i := 486) (by decide +kernel), List.mem_of_getElem? (i := 638) (by decide +kernel), List.mem_of_getElem? (i := 639) (by decide +kernel)⟩
theorem lw_p14 : lw_okq (⟨"DelegationClosureModel", "findLeading", "(IIII)V"⟩, 27) := ⟨⟨by decide +kernel, by decide +kernel⟩, List.mem_of_getElem? (i := 486) (by decide +kernel), List.mem_of_getElem? (i := 656) (by decide +kernel), List.mem_of_getElem? (i := 657) (by decide +kernel)⟩
theorem lw_p15 : lw_okq (⟨"DelegationClosureModel", "counts", "(IIII)Z"⟩, 27) := ⟨⟨by decide +kernel, by decide +kernel⟩, List.mem_of_getElem? (i := 486) (by decide +kernel), List.mem_of_getElem? (i := 660) (by decide +kernel), List.mem_of_getElem? (i := 661) (by decide +kernel)⟩
def lw_privs_1 : List (MethodName × Nat) := [(⟨"DelegationClosure$Meanings", "improve", "(LDelegationClosure$Register;I)Z"⟩, 1), (⟨"DelegationClosure$Meanings", "improveBy", "(LDelegationClosure$Naming;)Z"⟩, 1), (⟨"DelegationClosure$Leads", "improve", "(LDelegationClosure$Register;LDelegationClosure$Meanings;I)Z"⟩, 3), (⟨"DelegationClosure$Leads", "byCertificate", "(LDelegationClosure$Meanings;LDelegationClosure$Permission;I)I"⟩, 3), (⟨"DelegationClosure$Leads", "bySubject", "(LDelegationClosure$Meanings;IZI)I"⟩, 3), (⟨"DelegationClosure$Leads", "sortIn", "(II)V"⟩, 3), (⟨"DelegationClosure$Chain", "putAhead", "(II)V"⟩, 7), (⟨"DelegationClosureModel", "make", "(ZIIII)I"⟩, 27), (⟨"DelegationClosureModel", "isPermission", "(I)Z"⟩, 27), (⟨"DelegationClosureModel", "isThere", "(I)Z"⟩, 27), (⟨"DelegationClosureModel", "findMeanings", "(I)V"⟩, 27), (⟨"DelegationClosureModel", "useNames", "(I)Z"⟩, 27), (⟨"DelegationClosureModel", "isValid", "(II)Z"⟩, 27), (⟨"DelegationClosureModel", "costOf", "(II)I"⟩, 27), (⟨"DelegationClosureModel", "findLeading", "(IIII)V"⟩, 27), (⟨"DelegationClosureModel", "counts", "(IIII)Z"⟩, 27)]
theorem lw_r1 : ∀ q ∈ lw_privs_1, lw_okq q := List.forall_mem_cons.mpr ⟨lw_p0, List.forall_mem_cons.mpr ⟨lw_p1, List.forall_mem_cons.mpr ⟨lw_p2, List.forall_mem_cons.mpr ⟨lw_p3, List.forall_mem_cons.mpr ⟨lw_p4, List.forall_mem_cons.mpr ⟨lw_p5, List.forall_mem_cons.mpr ⟨lw_p6, List.forall_mem_cons.mpr ⟨lw_p7, List.forall_mem_cons.mpr ⟨lw_p8, List.forall_mem_cons.mpr ⟨lw_p9, List.forall_mem_cons.mpr ⟨lw_p10, List.forall_mem_cons.mpr ⟨lw_p11, List.forall_mem_cons.mpr ⟨lw_p12, List.forall_mem_cons.mpr ⟨lw_p13, List.forall_mem_cons.mpr ⟨lw_p14, List.forall_mem_cons.mpr ⟨lw_p15, fun _ h => absurd h List.not_mem_nil⟩⟩⟩⟩⟩⟩⟩⟩⟩⟩⟩⟩⟩⟩⟩⟩
theorem lw_p16 : lw_okq (⟨"DelegationClosureModel", "byCertificate", "(II)I"⟩, 27) := ⟨⟨by decide +kernel, by decide +kernel⟩, List.mem_of_getElem? (i := 486) (by decide +kernel), List.mem_of_getElem? (i := 664) (by decide +kernel), List.mem_of_getElem? (i := 665) (by decide +kernel)⟩
theorem lw_p17 : lw_okq (⟨"DelegationClosureModel", "bySubject", "(III)I"⟩, 27) := ⟨⟨by decide +kernel, by decide +kernel⟩, List.mem_of_getElem? (i := 486) (by decide +kernel), List.mem_of_getElem? (i := 668) (by decide +kernel), List.mem_of_getElem? (i := 669) (by decide +kernel)⟩
theorem lw_p18 : lw_okq (⟨"DelegationClosureModel", "leadOf", "(I)I"⟩, 27) := ⟨⟨by decide +kernel, by decide +kernel⟩, List.mem_of_getElem? (i := 486) (by decide +kernel), List.mem_of_getElem? (i := 672) (by decide +kernel), List.mem_of_getElem? (i := 673) (by decide +kernel)⟩
theorem lw_p19 : lw_okq (⟨"DelegationClosureModel", "place", "(I)V"⟩, 27) := ⟨⟨by decide +kernel, by decide +kernel⟩, List.mem_of_getElem? (i := 486) (by decide +kernel), List.mem_of_getElem? (i := 688) (by decide +kernel), List.mem_of_getElem? (i := 689) (by decide +kernel)⟩
theorem lw_p20 : lw_okq (⟨"DelegationClosureModel", "fits", "(I)Z"⟩, 27) := ⟨⟨by decide +kernel, by decide +kernel⟩, List.mem_of_getElem? (i := 486) (by decide +kernel), List.mem_of_getElem? (i := 699) (by decide +kernel), List.mem_of_getElem? (i := 700) (by decide +kernel)⟩
theorem lw_p21 : lw_okq (⟨"DelegationClosureModel", "dropName", "()V"⟩, 27) := ⟨⟨by decide +kernel, by decide +kernel⟩, List.mem_of_getElem? (i := 486) (by decide +kernel), List.mem_of_getElem? (i := 703) (by decide +kernel), List.mem_of_getElem? (i := 704) (by decide +kernel)⟩
def lw_privs_2 : List (MethodName × Nat) := [(⟨"DelegationClosureModel", "byCertificate", "(II)I"⟩, 27), (⟨"DelegationClosureModel", "bySubject", "(III)I"⟩, 27), (⟨"DelegationClosureModel", "leadOf", "(I)I"⟩, 27), (⟨"DelegationClosureModel", "place", "(I)V"⟩, 27), (⟨"DelegationClosureModel", "fits", "(I)Z"⟩, 27), (⟨"DelegationClosureModel", "dropName", "()V"⟩, 27)]
theorem lw_r2 : ∀ q ∈ lw_privs_2, lw_okq q := List.forall_mem_cons.mpr ⟨lw_p16, List.forall_mem_cons.mpr ⟨lw_p17, List.forall_mem_cons.mpr ⟨lw_p18, List.forall_mem_cons.mpr ⟨lw_p19, List.forall_mem_cons.mpr ⟨lw_p20, List.forall_mem_cons.mpr ⟨lw_p21, fun _ h => absurd h List.not_mem_nil⟩⟩⟩⟩⟩⟩
def lw_privs : List (MethodName × Nat) := lw_privs_1 ++ (lw_privs_2)
def lw_tbl : List Cond := k2_sels lw_privs ++ tables_1
theorem lw_privs_ok : ∀ q ∈ lw_privs, lw_okq q := by
  show ∀ q ∈ lw_privs_1 ++ (lw_privs_2), lw_okq q
  exact List.forall_mem_append.mpr ⟨lw_r1, lw_r2⟩
end
section
def n_X : String := "DelegationClosure"
def T_X : u_T := fun k => match k with
  | 0 => ("DelegationClosure", "register", "LDelegationClosure$Register;", true)
  | 1 => ("DelegationClosure", "meanings", "LDelegationClosure$Meanings;", true)
  | 2 => ("DelegationClosure", "leads", "LDelegationClosure$Leads;", true)
  | _ => ("DelegationClosure", "chain", "LDelegationClosure$Chain;", true)
def t_X : Nat → FieldType := fun k => match k with
  | 0 => (.object "DelegationClosure$Register")
  | 1 => (.object "DelegationClosure$Meanings")
  | 2 => (.object "DelegationClosure$Leads")
  | _ => (.object "DelegationClosure$Chain")
theorem nm_X : ∀ a, a < 4 → ∀ b, b < 4 → a ≠ b → (T_X a).2.1 ≠ (T_X b).2.1 := by decide +kernel
theorem ty_X : ∀ k, k < 4 → parseFieldDescriptor (T_X k).2.2.1 = some (t_X k) := by decide +kernel
def n_Reg : String := "DelegationClosure$Register"
def T_Reg : u_T := fun k => match k with
  | 0 => ("DelegationClosure$Register", "made", "[LDelegationClosure$Certificate;", true)
  | _ => ("DelegationClosure$Register", "size", "I", false)
def t_Reg : Nat → FieldType := fun k => match k with
  | 0 => (.array (.object "DelegationClosure$Certificate"))
  | _ => .int
theorem nm_Reg : ∀ a, a < 2 → ∀ b, b < 2 → a ≠ b → (T_Reg a).2.1 ≠ (T_Reg b).2.1 := by decide +kernel
theorem ty_Reg : ∀ k, k < 2 → parseFieldDescriptor (T_Reg k).2.2.1 = some (t_Reg k) := by decide +kernel
def n_Mea : String := "DelegationClosure$Meanings"
def T_Mea : u_T := fun k => match k with
  | _ => ("DelegationClosure$Meanings", "least", "[I", true)
def t_Mea : Nat → FieldType := fun k => match k with
  | _ => (.array .int)
theorem nm_Mea : ∀ a, a < 1 → ∀ b, b < 1 → a ≠ b → (T_Mea a).2.1 ≠ (T_Mea b).2.1 := by decide +kernel
theorem ty_Mea : ∀ k, k < 1 → parseFieldDescriptor (T_Mea k).2.2.1 = some (t_Mea k) := by decide +kernel
def n_Led : String := "DelegationClosure$Leads"
def T_Led : u_T := fun k => match k with
  | 0 => ("DelegationClosure$Leads", "counts", "[Z", true)
  | 1 => ("DelegationClosure$Leads", "least", "[I", true)
  | _ => ("DelegationClosure$Leads", "sorted", "[I", true)
def t_Led : Nat → FieldType := fun k => match k with
  | 0 => (.array .boolean)
  | 1 => (.array .int)
  | _ => (.array .int)
theorem nm_Led : ∀ a, a < 3 → ∀ b, b < 3 → a ≠ b → (T_Led a).2.1 ≠ (T_Led b).2.1 := by decide +kernel
theorem ty_Led : ∀ k, k < 3 → parseFieldDescriptor (T_Led k).2.2.1 = some (t_Led k) := by decide +kernel
def n_Chn : String := "DelegationClosure$Chain"
def T_Chn : u_T := fun k => match k with
  | 0 => ("DelegationClosure$Chain", "key", "I", false)
  | 1 => ("DelegationClosure$Chain", "names", "[I", true)
  | 2 => ("DelegationClosure$Chain", "size", "I", false)
  | 3 => ("DelegationClosure$Chain", "tag", "LDelegationClosure$Tag;", true)
  | 4 => ("DelegationClosure$Chain", "times", "LDelegationClosure$Span;", true)
  | 5 => ("DelegationClosure$Chain", "used", "I", false)
  | _ => ("DelegationClosure$Chain", "delegates", "Z", false)
def t_Chn : Nat → FieldType := fun k => match k with
  | 0 => .int
  | 1 => (.array .int)
  | 2 => .int
  | 3 => (.object "DelegationClosure$Tag")
  | 4 => (.object "DelegationClosure$Span")
  | 5 => .int
  | _ => .boolean
theorem nm_Chn : ∀ a, a < 7 → ∀ b, b < 7 → a ≠ b → (T_Chn a).2.1 ≠ (T_Chn b).2.1 := by decide +kernel
theorem ty_Chn : ∀ k, k < 7 → parseFieldDescriptor (T_Chn k).2.2.1 = some (t_Chn k) := by decide +kernel
def n_Tag : String := "DelegationClosure$Tag"
def T_Tag : u_T := fun k => match k with
  | 0 => ("DelegationClosure$Tag", "operations", "I", false)
  | _ => ("DelegationClosure$Tag", "numbers", "LDelegationClosure$Span;", true)
def t_Tag : Nat → FieldType := fun k => match k with
  | 0 => .int
  | _ => (.object "DelegationClosure$Span")
theorem nm_Tag : ∀ a, a < 2 → ∀ b, b < 2 → a ≠ b → (T_Tag a).2.1 ≠ (T_Tag b).2.1 := by decide +kernel
theorem ty_Tag : ∀ k, k < 2 → parseFieldDescriptor (T_Tag k).2.2.1 = some (t_Tag k) := by decide +kernel
def n_Spn : String := "DelegationClosure$Span"
def T_Spn : u_T := fun k => match k with
  | 0 => ("DelegationClosure$Span", "low", "I", false)
  | _ => ("DelegationClosure$Span", "high", "I", false)
def t_Spn : Nat → FieldType := fun k => match k with
  | 0 => .int
  | _ => .int
theorem nm_Spn : ∀ a, a < 2 → ∀ b, b < 2 → a ≠ b → (T_Spn a).2.1 ≠ (T_Spn b).2.1 := by decide +kernel
theorem ty_Spn : ∀ k, k < 2 → parseFieldDescriptor (T_Spn k).2.2.1 = some (t_Spn k) := by decide +kernel
def n_Nam : String := "DelegationClosure$Naming"
def T_Nam : u_T := fun k => match k with
  | 0 => ("DelegationClosure$Certificate", "issuer", "I", true)
  | 1 => ("DelegationClosure$Certificate", "times", "LDelegationClosure$Span;", true)
  | 2 => ("DelegationClosure$Certificate", "revoked", "Z", false)
  | 3 => ("DelegationClosure$Naming", "name", "I", true)
  | _ => ("DelegationClosure$Naming", "subject", "I", true)
def t_Nam : Nat → FieldType := fun k => match k with
  | 0 => .int
  | 1 => (.object "DelegationClosure$Span")
  | 2 => .boolean
  | 3 => .int
  | _ => .int
theorem nm_Nam : ∀ a, a < 5 → ∀ b, b < 5 → a ≠ b → (T_Nam a).2.1 ≠ (T_Nam b).2.1 := by decide +kernel
theorem ty_Nam : ∀ k, k < 5 → parseFieldDescriptor (T_Nam k).2.2.1 = some (t_Nam k) := by decide +kernel
def n_Prm : String := "DelegationClosure$Permission"
def T_Prm : u_T := fun k => match k with
  | 0 => ("DelegationClosure$Certificate", "issuer", "I", true)
  | 1 => ("DelegationClosure$Certificate", "times", "LDelegationClosure$Span;", true)
  | 2 => ("DelegationClosure$Certificate", "revoked", "Z", false)
  | 3 => ("DelegationClosure$Permission", "subjects", "[I", true)
  | 4 => ("DelegationClosure$Permission", "tag", "LDelegationClosure$Tag;", true)
  | 5 => ("DelegationClosure$Permission", "delegates", "Z", true)
  | 6 => ("DelegationClosure$Permission", "size", "I", false)
  | _ => ("DelegationClosure$Permission", "quorum", "I", false)
def t_Prm : Nat → FieldType := fun k => match k with
  | 0 => .int
  | 1 => (.object "DelegationClosure$Span")
  | 2 => .boolean
  | 3 => (.array .int)
  | 4 => (.object "DelegationClosure$Tag")
  | 5 => .boolean
  | 6 => .int
  | _ => .int
theorem nm_Prm : ∀ a, a < 8 → ∀ b, b < 8 → a ≠ b → (T_Prm a).2.1 ≠ (T_Prm b).2.1 := by decide +kernel
theorem ty_Prm : ∀ k, k < 8 → parseFieldDescriptor (T_Prm k).2.2.1 = some (t_Prm k) := by decide +kernel
def n_Mod : String := "DelegationClosureModel"
def T_Mod : u_T := fun k => match k with
  | 0 => ("DelegationClosureModel", "made", "I", false)
  | 1 => ("DelegationClosureModel", "gone", "[Z", false)
  | 2 => ("DelegationClosureModel", "names", "[Z", false)
  | 3 => ("DelegationClosureModel", "issuer", "[I", false)
  | 4 => ("DelegationClosureModel", "named", "[I", false)
  | 5 => ("DelegationClosureModel", "from", "[I", false)
  | 6 => ("DelegationClosureModel", "to", "[I", false)
  | 7 => ("DelegationClosureModel", "subjects", "[I", false)
  | 8 => ("DelegationClosureModel", "many", "[I", false)
  | 9 => ("DelegationClosureModel", "needed", "[I", false)
  | 10 => ("DelegationClosureModel", "operations", "[I", false)
  | 11 => ("DelegationClosureModel", "low", "[I", false)
  | 12 => ("DelegationClosureModel", "high", "[I", false)
  | 13 => ("DelegationClosureModel", "passes", "[Z", false)
  | 14 => ("DelegationClosureModel", "means", "[I", false)
  | 15 => ("DelegationClosureModel", "leads", "[I", false)
  | 16 => ("DelegationClosureModel", "chain", "Z", false)
  | 17 => ("DelegationClosureModel", "chainKey", "I", false)
  | 18 => ("DelegationClosureModel", "chainNames", "I", false)
  | 19 => ("DelegationClosureModel", "chainName", "[I", false)
  | 20 => ("DelegationClosureModel", "chainOperations", "I", false)
  | 21 => ("DelegationClosureModel", "chainLow", "I", false)
  | 22 => ("DelegationClosureModel", "chainHigh", "I", false)
  | 23 => ("DelegationClosureModel", "chainFrom", "I", false)
  | 24 => ("DelegationClosureModel", "chainTo", "I", false)
  | 25 => ("DelegationClosureModel", "chainUsed", "I", false)
  | _ => ("DelegationClosureModel", "chainPasses", "Z", false)
def t_Mod : Nat → FieldType := fun k => match k with
  | 0 => .int
  | 1 => (.array .boolean)
  | 2 => (.array .boolean)
  | 3 => (.array .int)
  | 4 => (.array .int)
  | 5 => (.array .int)
  | 6 => (.array .int)
  | 7 => (.array .int)
  | 8 => (.array .int)
  | 9 => (.array .int)
  | 10 => (.array .int)
  | 11 => (.array .int)
  | 12 => (.array .int)
  | 13 => (.array .boolean)
  | 14 => (.array .int)
  | 15 => (.array .int)
  | 16 => .boolean
  | 17 => .int
  | 18 => .int
  | 19 => (.array .int)
  | 20 => .int
  | 21 => .int
  | 22 => .int
  | 23 => .int
  | 24 => .int
  | 25 => .int
  | _ => .boolean
theorem nm_Mod : ∀ a, a < 27 → ∀ b, b < 27 → a ≠ b → (T_Mod a).2.1 ≠ (T_Mod b).2.1 := by decide +kernel
theorem ty_Mod : ∀ k, k < 27 → parseFieldDescriptor (T_Mod k).2.2.1 = some (t_Mod k) := by decide +kernel
abbrev kc : List vw_C := [(n_X, T_X, 4), (n_Reg, T_Reg, 2), (n_Mea, T_Mea, 1), (n_Led, T_Led, 3), (n_Chn, T_Chn, 7), (n_Tag, T_Tag, 2), (n_Spn, T_Spn, 2), (n_Nam, T_Nam, 5), (n_Prm, T_Prm, 8), (n_Mod, T_Mod, 27)]
/-- all words that every method may use -/
def gW : List Cond := lw_tbl.filter goodWord
theorem gW_t {w : Cond} (i : Nat) (h : tables_1[i]? = some w) (hg : goodWord w = true) : w ∈ gW := List.mem_filter.mpr ⟨List.mem_append_right _ (List.mem_of_getElem? h), hg⟩
theorem gW_s {w : Cond} (i : Nat) (h : (k2_sels lw_privs)[i]? = some w) (hg : goodWord w = true) : w ∈ gW := List.mem_filter.mpr ⟨List.mem_append_left _ (List.mem_of_getElem? h), hg⟩
theorem gW_in {c : Cond} {hd : List Cond} (h : ∀ w, w ∈ hd → w ∈ gW) : GoodIn (c :: gW) (hd ++ gW) := fun w hw => by
  have h1 : w ∈ gW := (List.mem_append.mp hw).elim (h w) id
  exact ⟨List.mem_cons_of_mem _ h1, good_of_word (List.mem_filter.mp h1).2⟩
theorem def_X : ∀ j, j < 4 → defaultValue (t_X j) = vp_V [.null, .null, .null, .null] j := by
  intro j hj
  rcases (show j = 0 ∨ j = 1 ∨ j = 2 ∨ j = 3 by omega) with rfl | rfl | rfl | rfl <;> rfl
theorem def_Reg : ∀ j, j < 2 → defaultValue (t_Reg j) = vp_V [.null, .int 0] j := by
  intro j hj
  rcases (show j = 0 ∨ j = 1 by omega) with rfl | rfl <;> rfl
theorem def_Mea : ∀ j, j < 1 → defaultValue (t_Mea j) = vp_V [.null] j := by
  intro j hj
  rcases (show j = 0 by omega) with rfl <;> rfl
theorem def_Led : ∀ j, j < 3 → defaultValue (t_Led j) = vp_V [.null, .null, .null] j := by
  intro j hj
  rcases (show j = 0 ∨ j = 1 ∨ j = 2 by omega) with rfl | rfl | rfl <;> rfl
theorem def_Chn : ∀ j, j < 7 → defaultValue (t_Chn j) = vp_V [.int 0, .null, .int 0, .null, .null, .int 0, .int 0] j := by
  intro j hj
  rcases (show j = 0 ∨ j = 1 ∨ j = 2 ∨ j = 3 ∨ j = 4 ∨ j = 5 ∨ j = 6 by omega) with rfl | rfl | rfl | rfl | rfl | rfl | rfl <;> rfl
theorem def_Tag : ∀ j, j < 2 → defaultValue (t_Tag j) = vp_V [.int 0, .null] j := by
  intro j hj
  rcases (show j = 0 ∨ j = 1 by omega) with rfl | rfl <;> rfl
theorem def_Spn : ∀ j, j < 2 → defaultValue (t_Spn j) = vp_V [.int 0, .int 0] j := by
  intro j hj
  rcases (show j = 0 ∨ j = 1 by omega) with rfl | rfl <;> rfl
theorem def_Nam : ∀ j, j < 5 → defaultValue (t_Nam j) = vp_V [.int 0, .null, .int 0, .int 0, .int 0] j := by
  intro j hj
  rcases (show j = 0 ∨ j = 1 ∨ j = 2 ∨ j = 3 ∨ j = 4 by omega) with rfl | rfl | rfl | rfl | rfl <;> rfl
theorem def_Prm : ∀ j, j < 8 → defaultValue (t_Prm j) = vp_V [.int 0, .null, .int 0, .null, .null, .int 0, .int 0, .int 0] j := by
  intro j hj
  rcases (show j = 0 ∨ j = 1 ∨ j = 2 ∨ j = 3 ∨ j = 4 ∨ j = 5 ∨ j = 6 ∨ j = 7 by omega) with rfl | rfl | rfl | rfl | rfl | rfl | rfl | rfl <;> rfl
theorem def_Mod : ∀ j, j < 27 → defaultValue (t_Mod j) = vp_V [.int 0, .null, .null, .null, .null, .null, .null, .null, .null, .null, .null, .null, .null, .null, .null, .null, .int 0, .int 0, .int 0, .null, .int 0, .int 0, .int 0, .int 0, .int 0, .int 0, .int 0] j := by
  intro j hj
  rcases (show j = 0 ∨ j = 1 ∨ j = 2 ∨ j = 3 ∨ j = 4 ∨ j = 5 ∨ j = 6 ∨ j = 7 ∨ j = 8 ∨ j = 9 ∨ j = 10 ∨ j = 11 ∨ j = 12 ∨ j = 13 ∨ j = 14 ∨ j = 15 ∨ j = 16 ∨ j = 17 ∨ j = 18 ∨ j = 19 ∨ j = 20 ∨ j = 21 ∨ j = 22 ∨ j = 23 ∨ j = 24 ∨ j = 25 ∨ j = 26 by omega) with rfl | rfl | rfl | rfl | rfl | rfl | rfl | rfl | rfl | rfl | rfl | rfl | rfl | rfl | rfl | rfl | rfl | rfl | rfl | rfl | rfl | rfl | rfl | rfl | rfl | rfl | rfl <;> rfl
abbrev k_X_init : ByteArray := prog_1_method_1_code
def y_X_init : MethodName := ⟨"DelegationClosure", "<init>", "()V"⟩
def ws_X_init : List Cond := .code y_X_init k_X_init 1 none :: gW
theorem ds_X_init : y_X_init.cls ≠ "java/lang/invoke/MethodHandle" ∧ y_X_init.cls ≠ "java/lang/invoke/VarHandle" ∧ (parseMethodDescriptor y_X_init.desc).map (fun d => d.parameters.length) = some 0 := by decide +kernel
abbrev k_Obj_init : ByteArray := object_method_1_code
def y_Obj_init : MethodName := ⟨"java/lang/Object", "<init>", "()V"⟩
def ws_Obj_init : List Cond := .code y_Obj_init k_Obj_init 1 none :: gW
theorem ds_Obj_init : y_Obj_init.cls ≠ "java/lang/invoke/MethodHandle" ∧ y_Obj_init.cls ≠ "java/lang/invoke/VarHandle" ∧ (parseMethodDescriptor y_Obj_init.desc).map (fun d => d.parameters.length) = some 0 := by decide +kernel
abbrev k_Reg_init : ByteArray := prog_8_method_1_code
def y_Reg_init : MethodName := ⟨"DelegationClosure$Register", "<init>", "()V"⟩
def ws_Reg_init : List Cond := .code y_Reg_init k_Reg_init 1 none :: gW
theorem ds_Reg_init : y_Reg_init.cls ≠ "java/lang/invoke/MethodHandle" ∧ y_Reg_init.cls ≠ "java/lang/invoke/VarHandle" ∧ (parseMethodDescriptor y_Reg_init.desc).map (fun d => d.parameters.length) = some 0 := by decide +kernel
abbrev k_Mea_init : ByteArray := prog_5_method_1_code
def y_Mea_init : MethodName := ⟨"DelegationClosure$Meanings", "<init>", "()V"⟩
def ws_Mea_init : List Cond := .code y_Mea_init k_Mea_init 1 none :: gW
theorem ds_Mea_init : y_Mea_init.cls ≠ "java/lang/invoke/MethodHandle" ∧ y_Mea_init.cls ≠ "java/lang/invoke/VarHandle" ∧ (parseMethodDescriptor y_Mea_init.desc).map (fun d => d.parameters.length) = some 0 := by decide +kernel
abbrev k_Led_init : ByteArray := prog_4_method_1_code
def y_Led_init : MethodName := ⟨"DelegationClosure$Leads", "<init>", "()V"⟩
def ws_Led_init : List Cond := .code y_Led_init k_Led_init 1 none :: gW
theorem ds_Led_init : y_Led_init.cls ≠ "java/lang/invoke/MethodHandle" ∧ y_Led_init.cls ≠ "java/lang/invoke/VarHandle" ∧ (parseMethodDescriptor y_Led_init.desc).map (fun d => d.parameters.length) = some 0 := by decide +kernel
abbrev k_Chn_init : ByteArray := prog_3_method_1_code
def y_Chn_init : MethodName := ⟨"DelegationClosure$Chain", "<init>", "()V"⟩
def ws_Chn_init : List Cond := .code y_Chn_init k_Chn_init 1 none :: gW
theorem ds_Chn_init : y_Chn_init.cls ≠ "java/lang/invoke/MethodHandle" ∧ y_Chn_init.cls ≠ "java/lang/invoke/VarHandle" ∧ (parseMethodDescriptor y_Chn_init.desc).map (fun d => d.parameters.length) = some 0 := by decide +kernel
abbrev k_Tag_init : ByteArray := prog_10_method_1_code
def y_Tag_init : MethodName := ⟨"DelegationClosure$Tag", "<init>", "()V"⟩
def ws_Tag_init : List Cond := .code y_Tag_init k_Tag_init 1 none :: gW
theorem ds_Tag_init : y_Tag_init.cls ≠ "java/lang/invoke/MethodHandle" ∧ y_Tag_init.cls ≠ "java/lang/invoke/VarHandle" ∧ (parseMethodDescriptor y_Tag_init.desc).map (fun d => d.parameters.length) = some 0 := by decide +kernel
abbrev k_Spn_init : ByteArray := prog_9_method_1_code
def y_Spn_init : MethodName := ⟨"DelegationClosure$Span", "<init>", "(II)V"⟩
def ws_Spn_init : List Cond := .code y_Spn_init k_Spn_init 3 none :: gW
theorem ds_Spn_init : y_Spn_init.cls ≠ "java/lang/invoke/MethodHandle" ∧ y_Spn_init.cls ≠ "java/lang/invoke/VarHandle" ∧ (parseMethodDescriptor y_Spn_init.desc).map (fun d => d.parameters.length) = some 2 := by decide +kernel
abbrev k_X_name : ByteArray := prog_1_method_2_code
def y_X_name : MethodName := ⟨"DelegationClosure", "name", "(IIIII)I"⟩
def ws_X_name : List Cond := .code y_X_name k_X_name 7 (some .int) :: gW
theorem ds_X_name : y_X_name.cls ≠ "java/lang/invoke/MethodHandle" ∧ y_X_name.cls ≠ "java/lang/invoke/VarHandle" ∧ (parseMethodDescriptor y_X_name.desc).map (fun d => d.parameters.length) = some 5 := by decide +kernel
abbrev k_X_isKey : ByteArray := prog_1_method_20_code
def y_X_isKey : MethodName := ⟨"DelegationClosure", "isKey", "(I)Z"⟩
def ws_X_isKey : List Cond := .code y_X_isKey k_X_isKey 1 (some .boolean) :: gW
theorem ds_X_isKey : y_X_isKey.cls ≠ "java/lang/invoke/MethodHandle" ∧ y_X_isKey.cls ≠ "java/lang/invoke/VarHandle" ∧ (parseMethodDescriptor y_X_isKey.desc).map (fun d => d.parameters.length) = some 1 := by decide +kernel
abbrev k_X_isSubject : ByteArray := prog_1_method_22_code
def y_X_isSubject : MethodName := ⟨"DelegationClosure", "isSubject", "(I)Z"⟩
def ws_X_isSubject : List Cond := .code y_X_isSubject k_X_isSubject 1 (some .boolean) :: gW
theorem ds_X_isSubject : y_X_isSubject.cls ≠ "java/lang/invoke/MethodHandle" ∧ y_X_isSubject.cls ≠ "java/lang/invoke/VarHandle" ∧ (parseMethodDescriptor y_X_isSubject.desc).map (fun d => d.parameters.length) = some 1 := by decide +kernel
abbrev k_X_firstNameOf : ByteArray := prog_1_method_24_code
def y_X_firstNameOf : MethodName := ⟨"DelegationClosure", "firstNameOf", "(I)I"⟩
def ws_X_firstNameOf : List Cond := .code y_X_firstNameOf k_X_firstNameOf 1 (some .int) :: gW
theorem ds_X_firstNameOf : y_X_firstNameOf.cls ≠ "java/lang/invoke/MethodHandle" ∧ y_X_firstNameOf.cls ≠ "java/lang/invoke/VarHandle" ∧ (parseMethodDescriptor y_X_firstNameOf.desc).map (fun d => d.parameters.length) = some 1 := by decide +kernel
abbrev k_X_secondNameOf : ByteArray := prog_1_method_25_code
def y_X_secondNameOf : MethodName := ⟨"DelegationClosure", "secondNameOf", "(I)I"⟩
def ws_X_secondNameOf : List Cond := .code y_X_secondNameOf k_X_secondNameOf 1 (some .int) :: gW
theorem ds_X_secondNameOf : y_X_secondNameOf.cls ≠ "java/lang/invoke/MethodHandle" ∧ y_X_secondNameOf.cls ≠ "java/lang/invoke/VarHandle" ∧ (parseMethodDescriptor y_X_secondNameOf.desc).map (fun d => d.parameters.length) = some 1 := by decide +kernel
abbrev k_Reg_isFull : ByteArray := prog_8_method_2_code
def y_Reg_isFull : MethodName := ⟨"DelegationClosure$Register", "isFull", "()Z"⟩
def ws_Reg_isFull : List Cond := .code y_Reg_isFull k_Reg_isFull 1 (some .boolean) :: gW
theorem ds_Reg_isFull : y_Reg_isFull.cls ≠ "java/lang/invoke/MethodHandle" ∧ y_Reg_isFull.cls ≠ "java/lang/invoke/VarHandle" ∧ (parseMethodDescriptor y_Reg_isFull.desc).map (fun d => d.parameters.length) = some 0 := by decide +kernel
abbrev k_Nam_init : ByteArray := prog_6_method_1_code
def y_Nam_init : MethodName := ⟨"DelegationClosure$Naming", "<init>", "(IIIII)V"⟩
def ws_Nam_init : List Cond := .code y_Nam_init k_Nam_init 6 none :: gW
theorem ds_Nam_init : y_Nam_init.cls ≠ "java/lang/invoke/MethodHandle" ∧ y_Nam_init.cls ≠ "java/lang/invoke/VarHandle" ∧ (parseMethodDescriptor y_Nam_init.desc).map (fun d => d.parameters.length) = some 5 := by decide +kernel
abbrev k_Cer_init : ByteArray := prog_2_method_1_code
def y_Cer_init : MethodName := ⟨"DelegationClosure$Certificate", "<init>", "(III)V"⟩
def ws_Cer_init : List Cond := .code y_Cer_init k_Cer_init 4 none :: gW
theorem ds_Cer_init : y_Cer_init.cls ≠ "java/lang/invoke/MethodHandle" ∧ y_Cer_init.cls ≠ "java/lang/invoke/VarHandle" ∧ (parseMethodDescriptor y_Cer_init.desc).map (fun d => d.parameters.length) = some 3 := by decide +kernel
abbrev k_Reg_add : ByteArray := prog_8_method_3_code
def y_Reg_add : MethodName := ⟨"DelegationClosure$Register", "add", "(LDelegationClosure$Certificate;)I"⟩
def ws_Reg_add : List Cond := .code y_Reg_add k_Reg_add 2 (some .int) :: gW
theorem ds_Reg_add : y_Reg_add.cls ≠ "java/lang/invoke/MethodHandle" ∧ y_Reg_add.cls ≠ "java/lang/invoke/VarHandle" ∧ (parseMethodDescriptor y_Reg_add.desc).map (fun d => d.parameters.length) = some 1 := by decide +kernel
abbrev k_X_permit : ByteArray := prog_1_method_3_code
def y_X_permit : MethodName := ⟨"DelegationClosure", "permit", "(IIZII)I"⟩
def ws_X_permit : List Cond := .code y_X_permit k_X_permit 7 (some .int) :: gW
theorem ds_X_permit : y_X_permit.cls ≠ "java/lang/invoke/MethodHandle" ∧ y_X_permit.cls ≠ "java/lang/invoke/VarHandle" ∧ (parseMethodDescriptor y_X_permit.desc).map (fun d => d.parameters.length) = some 5 := by decide +kernel
abbrev k_Prm_init : ByteArray := prog_7_method_1_code
def y_Prm_init : MethodName := ⟨"DelegationClosure$Permission", "<init>", "(IIZII)V"⟩
def ws_Prm_init : List Cond := .code y_Prm_init k_Prm_init 6 none :: gW
theorem ds_Prm_init : y_Prm_init.cls ≠ "java/lang/invoke/MethodHandle" ∧ y_Prm_init.cls ≠ "java/lang/invoke/VarHandle" ∧ (parseMethodDescriptor y_Prm_init.desc).map (fun d => d.parameters.length) = some 5 := by decide +kernel
abbrev k_X_tag : ByteArray := prog_1_method_4_code
def y_X_tag : MethodName := ⟨"DelegationClosure", "tag", "(IIII)Z"⟩
def ws_X_tag : List Cond := .code y_X_tag k_X_tag 6 (some .boolean) :: gW
theorem ds_X_tag : y_X_tag.cls ≠ "java/lang/invoke/MethodHandle" ∧ y_X_tag.cls ≠ "java/lang/invoke/VarHandle" ∧ (parseMethodDescriptor y_X_tag.desc).map (fun d => d.parameters.length) = some 4 := by decide +kernel
abbrev k_Reg_permission : ByteArray := prog_8_method_5_code
def y_Reg_permission : MethodName := ⟨"DelegationClosure$Register", "permission", "(I)LDelegationClosure$Permission;"⟩
def ws_Reg_permission : List Cond := .code y_Reg_permission k_Reg_permission 4 (some (.object "DelegationClosure$Permission")) :: gW
theorem ds_Reg_permission : y_Reg_permission.cls ≠ "java/lang/invoke/MethodHandle" ∧ y_Reg_permission.cls ≠ "java/lang/invoke/VarHandle" ∧ (parseMethodDescriptor y_Reg_permission.desc).map (fun d => d.parameters.length) = some 1 := by decide +kernel
abbrev k_Reg_standing : ByteArray := prog_8_method_4_code
def y_Reg_standing : MethodName := ⟨"DelegationClosure$Register", "standing", "(I)LDelegationClosure$Certificate;"⟩
def ws_Reg_standing : List Cond := .code y_Reg_standing k_Reg_standing 3 (some (.object "DelegationClosure$Certificate")) :: gW
theorem ds_Reg_standing : y_Reg_standing.cls ≠ "java/lang/invoke/MethodHandle" ∧ y_Reg_standing.cls ≠ "java/lang/invoke/VarHandle" ∧ (parseMethodDescriptor y_Reg_standing.desc).map (fun d => d.parameters.length) = some 1 := by decide +kernel
abbrev k_Tag_set : ByteArray := prog_10_method_3_code
def y_Tag_set : MethodName := ⟨"DelegationClosure$Tag", "set", "(III)V"⟩
def ws_Tag_set : List Cond := .code y_Tag_set k_Tag_set 4 none :: gW
theorem ds_Tag_set : y_Tag_set.cls ≠ "java/lang/invoke/MethodHandle" ∧ y_Tag_set.cls ≠ "java/lang/invoke/VarHandle" ∧ (parseMethodDescriptor y_Tag_set.desc).map (fun d => d.parameters.length) = some 3 := by decide +kernel
abbrev k_Spn_set : ByteArray := prog_9_method_3_code
def y_Spn_set : MethodName := ⟨"DelegationClosure$Span", "set", "(II)V"⟩
def ws_Spn_set : List Cond := .code y_Spn_set k_Spn_set 3 none :: gW
theorem ds_Spn_set : y_Spn_set.cls ≠ "java/lang/invoke/MethodHandle" ∧ y_Spn_set.cls ≠ "java/lang/invoke/VarHandle" ∧ (parseMethodDescriptor y_Spn_set.desc).map (fun d => d.parameters.length) = some 2 := by decide +kernel
abbrev k_X_also : ByteArray := prog_1_method_5_code
def y_X_also : MethodName := ⟨"DelegationClosure", "also", "(II)I"⟩
def ws_X_also : List Cond := .code y_X_also k_X_also 4 (some .int) :: gW
theorem ds_X_also : y_X_also.cls ≠ "java/lang/invoke/MethodHandle" ∧ y_X_also.cls ≠ "java/lang/invoke/VarHandle" ∧ (parseMethodDescriptor y_X_also.desc).map (fun d => d.parameters.length) = some 2 := by decide +kernel
abbrev k_Prm_addSubject : ByteArray := prog_7_method_2_code
def y_Prm_addSubject : MethodName := ⟨"DelegationClosure$Permission", "addSubject", "(I)V"⟩
def ws_Prm_addSubject : List Cond := .code y_Prm_addSubject k_Prm_addSubject 2 none :: gW
theorem ds_Prm_addSubject : y_Prm_addSubject.cls ≠ "java/lang/invoke/MethodHandle" ∧ y_Prm_addSubject.cls ≠ "java/lang/invoke/VarHandle" ∧ (parseMethodDescriptor y_Prm_addSubject.desc).map (fun d => d.parameters.length) = some 1 := by decide +kernel
abbrev k_X_quorum : ByteArray := prog_1_method_6_code
def y_X_quorum : MethodName := ⟨"DelegationClosure", "quorum", "(II)Z"⟩
def ws_X_quorum : List Cond := .code y_X_quorum k_X_quorum 4 (some .boolean) :: gW
theorem ds_X_quorum : y_X_quorum.cls ≠ "java/lang/invoke/MethodHandle" ∧ y_X_quorum.cls ≠ "java/lang/invoke/VarHandle" ∧ (parseMethodDescriptor y_X_quorum.desc).map (fun d => d.parameters.length) = some 2 := by decide +kernel
abbrev k_X_revoke : ByteArray := prog_1_method_7_code
def y_X_revoke : MethodName := ⟨"DelegationClosure", "revoke", "(I)Z"⟩
def ws_X_revoke : List Cond := .code y_X_revoke k_X_revoke 3 (some .boolean) :: gW
theorem ds_X_revoke : y_X_revoke.cls ≠ "java/lang/invoke/MethodHandle" ∧ y_X_revoke.cls ≠ "java/lang/invoke/VarHandle" ∧ (parseMethodDescriptor y_X_revoke.desc).map (fun d => d.parameters.length) = some 1 := by decide +kernel
abbrev k_X_certificates : ByteArray := prog_1_method_8_code
def y_X_certificates : MethodName := ⟨"DelegationClosure", "certificates", "()I"⟩
def ws_X_certificates : List Cond := .code y_X_certificates k_X_certificates 1 (some .int) :: gW
theorem ds_X_certificates : y_X_certificates.cls ≠ "java/lang/invoke/MethodHandle" ∧ y_X_certificates.cls ≠ "java/lang/invoke/VarHandle" ∧ (parseMethodDescriptor y_X_certificates.desc).map (fun d => d.parameters.length) = some 0 := by decide +kernel
abbrev k_X_meant : ByteArray := prog_1_method_9_code
def y_X_meant : MethodName := ⟨"DelegationClosure", "meant", "(II)I"⟩
def ws_X_meant : List Cond := .code y_X_meant k_X_meant 5 (some .int) :: gW
theorem ds_X_meant : y_X_meant.cls ≠ "java/lang/invoke/MethodHandle" ∧ y_X_meant.cls ≠ "java/lang/invoke/VarHandle" ∧ (parseMethodDescriptor y_X_meant.desc).map (fun d => d.parameters.length) = some 2 := by decide +kernel
abbrev k_Mea_workOut : ByteArray := prog_5_method_2_code
def y_Mea_workOut : MethodName := ⟨"DelegationClosure$Meanings", "workOut", "(LDelegationClosure$Register;I)V"⟩
def ws_Mea_workOut : List Cond := .code y_Mea_workOut k_Mea_workOut 5 none :: gW
theorem ds_Mea_workOut : y_Mea_workOut.cls ≠ "java/lang/invoke/MethodHandle" ∧ y_Mea_workOut.cls ≠ "java/lang/invoke/VarHandle" ∧ (parseMethodDescriptor y_Mea_workOut.desc).map (fun d => d.parameters.length) = some 2 := by decide +kernel
abbrev k_Arr_fill : ByteArray := prog_15_method_103_code
def y_Arr_fill : MethodName := ⟨"java/util/Arrays", "fill", "([II)V"⟩
def ws_Arr_fill : List Cond := .code y_Arr_fill k_Arr_fill 4 none :: gW
theorem ds_Arr_fill : y_Arr_fill.cls ≠ "java/lang/invoke/MethodHandle" ∧ y_Arr_fill.cls ≠ "java/lang/invoke/VarHandle" ∧ (parseMethodDescriptor y_Arr_fill.desc).map (fun d => d.parameters.length) = some 2 := by decide +kernel
abbrev k_Mea_improve : ByteArray := prog_5_method_3_code
def y_Mea_improve : MethodName := ⟨"DelegationClosure$Meanings", "improve", "(LDelegationClosure$Register;I)Z"⟩
def ws_Mea_improve : List Cond := .code y_Mea_improve k_Mea_improve 7 (some .boolean) :: gW
theorem ds_Mea_improve : y_Mea_improve.cls ≠ "java/lang/invoke/MethodHandle" ∧ y_Mea_improve.cls ≠ "java/lang/invoke/VarHandle" ∧ (parseMethodDescriptor y_Mea_improve.desc).map (fun d => d.parameters.length) = some 2 := by decide +kernel
abbrev k_Spn_contains : ByteArray := prog_9_method_2_code
def y_Spn_contains : MethodName := ⟨"DelegationClosure$Span", "contains", "(I)Z"⟩
def ws_Spn_contains : List Cond := .code y_Spn_contains k_Spn_contains 2 (some .boolean) :: gW
theorem ds_Spn_contains : y_Spn_contains.cls ≠ "java/lang/invoke/MethodHandle" ∧ y_Spn_contains.cls ≠ "java/lang/invoke/VarHandle" ∧ (parseMethodDescriptor y_Spn_contains.desc).map (fun d => d.parameters.length) = some 1 := by decide +kernel
abbrev k_Mea_improveBy : ByteArray := prog_5_method_4_code
def y_Mea_improveBy : MethodName := ⟨"DelegationClosure$Meanings", "improveBy", "(LDelegationClosure$Naming;)Z"⟩
def ws_Mea_improveBy : List Cond := .code y_Mea_improveBy k_Mea_improveBy 6 (some .boolean) :: gW
theorem ds_Mea_improveBy : y_Mea_improveBy.cls ≠ "java/lang/invoke/MethodHandle" ∧ y_Mea_improveBy.cls ≠ "java/lang/invoke/VarHandle" ∧ (parseMethodDescriptor y_Mea_improveBy.desc).map (fun d => d.parameters.length) = some 1 := by decide +kernel
abbrev k_Mea_placeOf : ByteArray := prog_5_method_6_code
def y_Mea_placeOf : MethodName := ⟨"DelegationClosure$Meanings", "placeOf", "(III)I"⟩
def ws_Mea_placeOf : List Cond := .code y_Mea_placeOf k_Mea_placeOf 3 (some .int) :: gW
theorem ds_Mea_placeOf : y_Mea_placeOf.cls ≠ "java/lang/invoke/MethodHandle" ∧ y_Mea_placeOf.cls ≠ "java/lang/invoke/VarHandle" ∧ (parseMethodDescriptor y_Mea_placeOf.desc).map (fun d => d.parameters.length) = some 3 := by decide +kernel
abbrev k_Mea_ofSubject : ByteArray := prog_5_method_5_code
def y_Mea_ofSubject : MethodName := ⟨"DelegationClosure$Meanings", "ofSubject", "(II)I"⟩
def ws_Mea_ofSubject : List Cond := .code y_Mea_ofSubject k_Mea_ofSubject 10 (some .int) :: gW
theorem ds_Mea_ofSubject : y_Mea_ofSubject.cls ≠ "java/lang/invoke/MethodHandle" ∧ y_Mea_ofSubject.cls ≠ "java/lang/invoke/VarHandle" ∧ (parseMethodDescriptor y_Mea_ofSubject.desc).map (fun d => d.parameters.length) = some 2 := by decide +kernel
abbrev k_X_keyOf : ByteArray := prog_1_method_23_code
def y_X_keyOf : MethodName := ⟨"DelegationClosure", "keyOf", "(I)I"⟩
def ws_X_keyOf : List Cond := .code y_X_keyOf k_X_keyOf 1 (some .int) :: gW
theorem ds_X_keyOf : y_X_keyOf.cls ≠ "java/lang/invoke/MethodHandle" ∧ y_X_keyOf.cls ≠ "java/lang/invoke/VarHandle" ∧ (parseMethodDescriptor y_X_keyOf.desc).map (fun d => d.parameters.length) = some 1 := by decide +kernel
abbrev k_X_sumOf : ByteArray := prog_1_method_27_code
def y_X_sumOf : MethodName := ⟨"DelegationClosure", "sumOf", "(II)I"⟩
def ws_X_sumOf : List Cond := .code y_X_sumOf k_X_sumOf 3 (some .int) :: gW
theorem ds_X_sumOf : y_X_sumOf.cls ≠ "java/lang/invoke/MethodHandle" ∧ y_X_sumOf.cls ≠ "java/lang/invoke/VarHandle" ∧ (parseMethodDescriptor y_X_sumOf.desc).map (fun d => d.parameters.length) = some 2 := by decide +kernel
abbrev k_Mat_min : ByteArray := prog_13_method_69_code
def y_Mat_min : MethodName := ⟨"java/lang/Math", "min", "(II)I"⟩
def ws_Mat_min : List Cond := .code y_Mat_min k_Mat_min 2 (some .int) :: gW
theorem ds_Mat_min : y_Mat_min.cls ≠ "java/lang/invoke/MethodHandle" ∧ y_Mat_min.cls ≠ "java/lang/invoke/VarHandle" ∧ (parseMethodDescriptor y_Mat_min.desc).map (fun d => d.parameters.length) = some 2 := by decide +kernel
abbrev k_X_cost : ByteArray := prog_1_method_10_code
def y_X_cost : MethodName := ⟨"DelegationClosure", "cost", "(III)I"⟩
def ws_X_cost : List Cond := .code y_X_cost k_X_cost 4 (some .int) :: gW
theorem ds_X_cost : y_X_cost.cls ≠ "java/lang/invoke/MethodHandle" ∧ y_X_cost.cls ≠ "java/lang/invoke/VarHandle" ∧ (parseMethodDescriptor y_X_cost.desc).map (fun d => d.parameters.length) = some 3 := by decide +kernel
abbrev k_X_costOrNone : ByteArray := prog_1_method_28_code
def y_X_costOrNone : MethodName := ⟨"DelegationClosure", "costOrNone", "(I)I"⟩
def ws_X_costOrNone : List Cond := .code y_X_costOrNone k_X_costOrNone 1 (some .int) :: gW
theorem ds_X_costOrNone : y_X_costOrNone.cls ≠ "java/lang/invoke/MethodHandle" ∧ y_X_costOrNone.cls ≠ "java/lang/invoke/VarHandle" ∧ (parseMethodDescriptor y_X_costOrNone.desc).map (fun d => d.parameters.length) = some 1 := by decide +kernel
abbrev k_X_may : ByteArray := prog_1_method_11_code
def y_X_may : MethodName := ⟨"DelegationClosure", "may", "(IIII)I"⟩
def ws_X_may : List Cond := .code y_X_may k_X_may 5 (some .int) :: gW
theorem ds_X_may : y_X_may.cls ≠ "java/lang/invoke/MethodHandle" ∧ y_X_may.cls ≠ "java/lang/invoke/VarHandle" ∧ (parseMethodDescriptor y_X_may.desc).map (fun d => d.parameters.length) = some 4 := by decide +kernel
abbrev k_X_isOperation : ByteArray := prog_1_method_21_code
def y_X_isOperation : MethodName := ⟨"DelegationClosure", "isOperation", "(I)Z"⟩
def ws_X_isOperation : List Cond := .code y_X_isOperation k_X_isOperation 1 (some .boolean) :: gW
theorem ds_X_isOperation : y_X_isOperation.cls ≠ "java/lang/invoke/MethodHandle" ∧ y_X_isOperation.cls ≠ "java/lang/invoke/VarHandle" ∧ (parseMethodDescriptor y_X_isOperation.desc).map (fun d => d.parameters.length) = some 1 := by decide +kernel
abbrev k_Led_mark : ByteArray := prog_4_method_2_code
def y_Led_mark : MethodName := ⟨"DelegationClosure$Leads", "mark", "(LDelegationClosure$Register;III)V"⟩
def ws_Led_mark : List Cond := .code y_Led_mark k_Led_mark 7 none :: gW
theorem ds_Led_mark : y_Led_mark.cls ≠ "java/lang/invoke/MethodHandle" ∧ y_Led_mark.cls ≠ "java/lang/invoke/VarHandle" ∧ (parseMethodDescriptor y_Led_mark.desc).map (fun d => d.parameters.length) = some 4 := by decide +kernel
abbrev k_Tag_contains : ByteArray := prog_10_method_2_code
def y_Tag_contains : MethodName := ⟨"DelegationClosure$Tag", "contains", "(II)Z"⟩
def ws_Tag_contains : List Cond := .code y_Tag_contains k_Tag_contains 3 (some .boolean) :: gW
theorem ds_Tag_contains : y_Tag_contains.cls ≠ "java/lang/invoke/MethodHandle" ∧ y_Tag_contains.cls ≠ "java/lang/invoke/VarHandle" ∧ (parseMethodDescriptor y_Tag_contains.desc).map (fun d => d.parameters.length) = some 2 := by decide +kernel
abbrev k_Led_fromOwner : ByteArray := prog_4_method_3_code
def y_Led_fromOwner : MethodName := ⟨"DelegationClosure$Leads", "fromOwner", "(LDelegationClosure$Register;LDelegationClosure$Meanings;I)I"⟩
def ws_Led_fromOwner : List Cond := .code y_Led_fromOwner k_Led_fromOwner 6 (some .int) :: gW
theorem ds_Led_fromOwner : y_Led_fromOwner.cls ≠ "java/lang/invoke/MethodHandle" ∧ y_Led_fromOwner.cls ≠ "java/lang/invoke/VarHandle" ∧ (parseMethodDescriptor y_Led_fromOwner.desc).map (fun d => d.parameters.length) = some 3 := by decide +kernel
abbrev k_Led_improve : ByteArray := prog_4_method_4_code
def y_Led_improve : MethodName := ⟨"DelegationClosure$Leads", "improve", "(LDelegationClosure$Register;LDelegationClosure$Meanings;I)Z"⟩
def ws_Led_improve : List Cond := .code y_Led_improve k_Led_improve 8 (some .boolean) :: gW
theorem ds_Led_improve : y_Led_improve.cls ≠ "java/lang/invoke/MethodHandle" ∧ y_Led_improve.cls ≠ "java/lang/invoke/VarHandle" ∧ (parseMethodDescriptor y_Led_improve.desc).map (fun d => d.parameters.length) = some 3 := by decide +kernel
abbrev k_Led_byCertificate : ByteArray := prog_4_method_5_code
def y_Led_byCertificate : MethodName := ⟨"DelegationClosure$Leads", "byCertificate", "(LDelegationClosure$Meanings;LDelegationClosure$Permission;I)I"⟩
def ws_Led_byCertificate : List Cond := .code y_Led_byCertificate k_Led_byCertificate 6 (some .int) :: gW
theorem ds_Led_byCertificate : y_Led_byCertificate.cls ≠ "java/lang/invoke/MethodHandle" ∧ y_Led_byCertificate.cls ≠ "java/lang/invoke/VarHandle" ∧ (parseMethodDescriptor y_Led_byCertificate.desc).map (fun d => d.parameters.length) = some 3 := by decide +kernel
abbrev k_Led_bySubject : ByteArray := prog_4_method_7_code
def y_Led_bySubject : MethodName := ⟨"DelegationClosure$Leads", "bySubject", "(LDelegationClosure$Meanings;IZI)I"⟩
def ws_Led_bySubject : List Cond := .code y_Led_bySubject k_Led_bySubject 8 (some .int) :: gW
theorem ds_Led_bySubject : y_Led_bySubject.cls ≠ "java/lang/invoke/MethodHandle" ∧ y_Led_bySubject.cls ≠ "java/lang/invoke/VarHandle" ∧ (parseMethodDescriptor y_Led_bySubject.desc).map (fun d => d.parameters.length) = some 4 := by decide +kernel
abbrev k_Led_sortIn : ByteArray := prog_4_method_6_code
def y_Led_sortIn : MethodName := ⟨"DelegationClosure$Leads", "sortIn", "(II)V"⟩
def ws_Led_sortIn : List Cond := .code y_Led_sortIn k_Led_sortIn 4 none :: gW
theorem ds_Led_sortIn : y_Led_sortIn.cls ≠ "java/lang/invoke/MethodHandle" ∧ y_Led_sortIn.cls ≠ "java/lang/invoke/VarHandle" ∧ (parseMethodDescriptor y_Led_sortIn.desc).map (fun d => d.parameters.length) = some 2 := by decide +kernel
abbrev k_X_holders : ByteArray := prog_1_method_12_code
def y_X_holders : MethodName := ⟨"DelegationClosure", "holders", "(III)I"⟩
def ws_X_holders : List Cond := .code y_X_holders k_X_holders 6 (some .int) :: gW
theorem ds_X_holders : y_X_holders.cls ≠ "java/lang/invoke/MethodHandle" ∧ y_X_holders.cls ≠ "java/lang/invoke/VarHandle" ∧ (parseMethodDescriptor y_X_holders.desc).map (fun d => d.parameters.length) = some 3 := by decide +kernel
abbrev k_X_begin : ByteArray := prog_1_method_13_code
def y_X_begin : MethodName := ⟨"DelegationClosure", "begin", "(I)Z"⟩
def ws_X_begin : List Cond := .code y_X_begin k_X_begin 3 (some .boolean) :: gW
theorem ds_X_begin : y_X_begin.cls ≠ "java/lang/invoke/MethodHandle" ∧ y_X_begin.cls ≠ "java/lang/invoke/VarHandle" ∧ (parseMethodDescriptor y_X_begin.desc).map (fun d => d.parameters.length) = some 1 := by decide +kernel
abbrev k_Chn_start : ByteArray := prog_3_method_3_code
def y_Chn_start : MethodName := ⟨"DelegationClosure$Chain", "start", "(LDelegationClosure$Permission;)V"⟩
def ws_Chn_start : List Cond := .code y_Chn_start k_Chn_start 2 none :: gW
theorem ds_Chn_start : y_Chn_start.cls ≠ "java/lang/invoke/MethodHandle" ∧ y_Chn_start.cls ≠ "java/lang/invoke/VarHandle" ∧ (parseMethodDescriptor y_Chn_start.desc).map (fun d => d.parameters.length) = some 1 := by decide +kernel
abbrev k_Chn_putAhead : ByteArray := prog_3_method_7_code
def y_Chn_putAhead : MethodName := ⟨"DelegationClosure$Chain", "putAhead", "(II)V"⟩
def ws_Chn_putAhead : List Cond := .code y_Chn_putAhead k_Chn_putAhead 4 none :: gW
theorem ds_Chn_putAhead : y_Chn_putAhead.cls ≠ "java/lang/invoke/MethodHandle" ∧ y_Chn_putAhead.cls ≠ "java/lang/invoke/VarHandle" ∧ (parseMethodDescriptor y_Chn_putAhead.desc).map (fun d => d.parameters.length) = some 2 := by decide +kernel
abbrev k_X_namesIn : ByteArray := prog_1_method_26_code
def y_X_namesIn : MethodName := ⟨"DelegationClosure", "namesIn", "(I)I"⟩
def ws_X_namesIn : List Cond := .code y_X_namesIn k_X_namesIn 1 (some .int) :: gW
theorem ds_X_namesIn : y_X_namesIn.cls ≠ "java/lang/invoke/MethodHandle" ∧ y_X_namesIn.cls ≠ "java/lang/invoke/VarHandle" ∧ (parseMethodDescriptor y_X_namesIn.desc).map (fun d => d.parameters.length) = some 1 := by decide +kernel
abbrev k_Tag_copy : ByteArray := prog_10_method_4_code
def y_Tag_copy : MethodName := ⟨"DelegationClosure$Tag", "copy", "(LDelegationClosure$Tag;)V"⟩
def ws_Tag_copy : List Cond := .code y_Tag_copy k_Tag_copy 2 none :: gW
theorem ds_Tag_copy : y_Tag_copy.cls ≠ "java/lang/invoke/MethodHandle" ∧ y_Tag_copy.cls ≠ "java/lang/invoke/VarHandle" ∧ (parseMethodDescriptor y_Tag_copy.desc).map (fun d => d.parameters.length) = some 1 := by decide +kernel
abbrev k_Spn_copy : ByteArray := prog_9_method_4_code
def y_Spn_copy : MethodName := ⟨"DelegationClosure$Span", "copy", "(LDelegationClosure$Span;)V"⟩
def ws_Spn_copy : List Cond := .code y_Spn_copy k_Spn_copy 2 none :: gW
theorem ds_Spn_copy : y_Spn_copy.cls ≠ "java/lang/invoke/MethodHandle" ∧ y_Spn_copy.cls ≠ "java/lang/invoke/VarHandle" ∧ (parseMethodDescriptor y_Spn_copy.desc).map (fun d => d.parameters.length) = some 1 := by decide +kernel
abbrev k_X_follow : ByteArray := prog_1_method_14_code
def y_X_follow : MethodName := ⟨"DelegationClosure", "follow", "(I)Z"⟩
def ws_X_follow : List Cond := .code y_X_follow k_X_follow 4 (some .boolean) :: gW
theorem ds_X_follow : y_X_follow.cls ≠ "java/lang/invoke/MethodHandle" ∧ y_X_follow.cls ≠ "java/lang/invoke/VarHandle" ∧ (parseMethodDescriptor y_X_follow.desc).map (fun d => d.parameters.length) = some 1 := by decide +kernel
abbrev k_Chn_replaceName : ByteArray := prog_3_method_4_code
def y_Chn_replaceName : MethodName := ⟨"DelegationClosure$Chain", "replaceName", "(LDelegationClosure$Naming;)Z"⟩
def ws_Chn_replaceName : List Cond := .code y_Chn_replaceName k_Chn_replaceName 3 (some .boolean) :: gW
theorem ds_Chn_replaceName : y_Chn_replaceName.cls ≠ "java/lang/invoke/MethodHandle" ∧ y_Chn_replaceName.cls ≠ "java/lang/invoke/VarHandle" ∧ (parseMethodDescriptor y_Chn_replaceName.desc).map (fun d => d.parameters.length) = some 1 := by decide +kernel
abbrev k_Chn_isThere : ByteArray := prog_3_method_2_code
def y_Chn_isThere : MethodName := ⟨"DelegationClosure$Chain", "isThere", "()Z"⟩
def ws_Chn_isThere : List Cond := .code y_Chn_isThere k_Chn_isThere 1 (some .boolean) :: gW
theorem ds_Chn_isThere : y_Chn_isThere.cls ≠ "java/lang/invoke/MethodHandle" ∧ y_Chn_isThere.cls ≠ "java/lang/invoke/VarHandle" ∧ (parseMethodDescriptor y_Chn_isThere.desc).map (fun d => d.parameters.length) = some 0 := by decide +kernel
abbrev k_Spn_narrowTo : ByteArray := prog_9_method_5_code
def y_Spn_narrowTo : MethodName := ⟨"DelegationClosure$Span", "narrowTo", "(LDelegationClosure$Span;)V"⟩
def ws_Spn_narrowTo : List Cond := .code y_Spn_narrowTo k_Spn_narrowTo 2 none :: gW
theorem ds_Spn_narrowTo : y_Spn_narrowTo.cls ≠ "java/lang/invoke/MethodHandle" ∧ y_Spn_narrowTo.cls ≠ "java/lang/invoke/VarHandle" ∧ (parseMethodDescriptor y_Spn_narrowTo.desc).map (fun d => d.parameters.length) = some 1 := by decide +kernel
abbrev k_Mat_max : ByteArray := prog_13_method_65_code
def y_Mat_max : MethodName := ⟨"java/lang/Math", "max", "(II)I"⟩
def ws_Mat_max : List Cond := .code y_Mat_max k_Mat_max 2 (some .int) :: gW
theorem ds_Mat_max : y_Mat_max.cls ≠ "java/lang/invoke/MethodHandle" ∧ y_Mat_max.cls ≠ "java/lang/invoke/VarHandle" ∧ (parseMethodDescriptor y_Mat_max.desc).map (fun d => d.parameters.length) = some 2 := by decide +kernel
abbrev k_Chn_passOn : ByteArray := prog_3_method_5_code
def y_Chn_passOn : MethodName := ⟨"DelegationClosure$Chain", "passOn", "(LDelegationClosure$Permission;)Z"⟩
def ws_Chn_passOn : List Cond := .code y_Chn_passOn k_Chn_passOn 2 (some .boolean) :: gW
theorem ds_Chn_passOn : y_Chn_passOn.cls ≠ "java/lang/invoke/MethodHandle" ∧ y_Chn_passOn.cls ≠ "java/lang/invoke/VarHandle" ∧ (parseMethodDescriptor y_Chn_passOn.desc).map (fun d => d.parameters.length) = some 1 := by decide +kernel
abbrev k_Tag_narrowTo : ByteArray := prog_10_method_5_code
def y_Tag_narrowTo : MethodName := ⟨"DelegationClosure$Tag", "narrowTo", "(LDelegationClosure$Tag;)V"⟩
def ws_Tag_narrowTo : List Cond := .code y_Tag_narrowTo k_Tag_narrowTo 2 none :: gW
theorem ds_Tag_narrowTo : y_Tag_narrowTo.cls ≠ "java/lang/invoke/MethodHandle" ∧ y_Tag_narrowTo.cls ≠ "java/lang/invoke/VarHandle" ∧ (parseMethodDescriptor y_Tag_narrowTo.desc).map (fun d => d.parameters.length) = some 1 := by decide +kernel
abbrev k_X_head : ByteArray := prog_1_method_15_code
def y_X_head : MethodName := ⟨"DelegationClosure", "head", "()I"⟩
def ws_X_head : List Cond := .code y_X_head k_X_head 1 (some .int) :: gW
theorem ds_X_head : y_X_head.cls ≠ "java/lang/invoke/MethodHandle" ∧ y_X_head.cls ≠ "java/lang/invoke/VarHandle" ∧ (parseMethodDescriptor y_X_head.desc).map (fun d => d.parameters.length) = some 0 := by decide +kernel
abbrev k_X_behind : ByteArray := prog_1_method_16_code
def y_X_behind : MethodName := ⟨"DelegationClosure", "behind", "(I)I"⟩
def ws_X_behind : List Cond := .code y_X_behind k_X_behind 2 (some .int) :: gW
theorem ds_X_behind : y_X_behind.cls ≠ "java/lang/invoke/MethodHandle" ∧ y_X_behind.cls ≠ "java/lang/invoke/VarHandle" ∧ (parseMethodDescriptor y_X_behind.desc).map (fun d => d.parameters.length) = some 1 := by decide +kernel
abbrev k_X_grants : ByteArray := prog_1_method_17_code
def y_X_grants : MethodName := ⟨"DelegationClosure", "grants", "(III)Z"⟩
def ws_X_grants : List Cond := .code y_X_grants k_X_grants 4 (some .boolean) :: gW
theorem ds_X_grants : y_X_grants.cls ≠ "java/lang/invoke/MethodHandle" ∧ y_X_grants.cls ≠ "java/lang/invoke/VarHandle" ∧ (parseMethodDescriptor y_X_grants.desc).map (fun d => d.parameters.length) = some 3 := by decide +kernel
abbrev k_Chn_allows : ByteArray := prog_3_method_6_code
def y_Chn_allows : MethodName := ⟨"DelegationClosure$Chain", "allows", "(III)Z"⟩
def ws_Chn_allows : List Cond := .code y_Chn_allows k_Chn_allows 4 (some .boolean) :: gW
theorem ds_Chn_allows : y_Chn_allows.cls ≠ "java/lang/invoke/MethodHandle" ∧ y_Chn_allows.cls ≠ "java/lang/invoke/VarHandle" ∧ (parseMethodDescriptor y_Chn_allows.desc).map (fun d => d.parameters.length) = some 3 := by decide +kernel
abbrev k_X_used : ByteArray := prog_1_method_18_code
def y_X_used : MethodName := ⟨"DelegationClosure", "used", "()I"⟩
def ws_X_used : List Cond := .code y_X_used k_X_used 1 (some .int) :: gW
theorem ds_X_used : y_X_used.cls ≠ "java/lang/invoke/MethodHandle" ∧ y_X_used.cls ≠ "java/lang/invoke/VarHandle" ∧ (parseMethodDescriptor y_X_used.desc).map (fun d => d.parameters.length) = some 0 := by decide +kernel
abbrev k_X_delegates : ByteArray := prog_1_method_19_code
def y_X_delegates : MethodName := ⟨"DelegationClosure", "delegates", "()Z"⟩
def ws_X_delegates : List Cond := .code y_X_delegates k_X_delegates 1 (some .boolean) :: gW
theorem ds_X_delegates : y_X_delegates.cls ≠ "java/lang/invoke/MethodHandle" ∧ y_X_delegates.cls ≠ "java/lang/invoke/VarHandle" ∧ (parseMethodDescriptor y_X_delegates.desc).map (fun d => d.parameters.length) = some 0 := by decide +kernel
abbrev k_Mod_init : ByteArray := prog_12_method_1_code
def y_Mod_init : MethodName := ⟨"DelegationClosureModel", "<init>", "()V"⟩
def ws_Mod_init : List Cond := .code y_Mod_init k_Mod_init 1 none :: gW
theorem ds_Mod_init : y_Mod_init.cls ≠ "java/lang/invoke/MethodHandle" ∧ y_Mod_init.cls ≠ "java/lang/invoke/VarHandle" ∧ (parseMethodDescriptor y_Mod_init.desc).map (fun d => d.parameters.length) = some 0 := by decide +kernel
abbrev k_Mod_name : ByteArray := prog_12_method_6_code
def y_Mod_name : MethodName := ⟨"DelegationClosureModel", "name", "(IIIII)I"⟩
def ws_Mod_name : List Cond := .code y_Mod_name k_Mod_name 7 (some .int) :: gW
theorem ds_Mod_name : y_Mod_name.cls ≠ "java/lang/invoke/MethodHandle" ∧ y_Mod_name.cls ≠ "java/lang/invoke/VarHandle" ∧ (parseMethodDescriptor y_Mod_name.desc).map (fun d => d.parameters.length) = some 5 := by decide +kernel
abbrev k_Mod_isSubject : ByteArray := prog_12_method_4_code
def y_Mod_isSubject : MethodName := ⟨"DelegationClosureModel", "isSubject", "(I)Z"⟩
def ws_Mod_isSubject : List Cond := .code y_Mod_isSubject k_Mod_isSubject 1 (some .boolean) :: gW
theorem ds_Mod_isSubject : y_Mod_isSubject.cls ≠ "java/lang/invoke/MethodHandle" ∧ y_Mod_isSubject.cls ≠ "java/lang/invoke/VarHandle" ∧ (parseMethodDescriptor y_Mod_isSubject.desc).map (fun d => d.parameters.length) = some 1 := by decide +kernel
abbrev k_Mod_nameOf : ByteArray := prog_12_method_3_code
def y_Mod_nameOf : MethodName := ⟨"DelegationClosureModel", "nameOf", "(IZ)I"⟩
def ws_Mod_nameOf : List Cond := .code y_Mod_nameOf k_Mod_nameOf 3 (some .int) :: gW
theorem ds_Mod_nameOf : y_Mod_nameOf.cls ≠ "java/lang/invoke/MethodHandle" ∧ y_Mod_nameOf.cls ≠ "java/lang/invoke/VarHandle" ∧ (parseMethodDescriptor y_Mod_nameOf.desc).map (fun d => d.parameters.length) = some 2 := by decide +kernel
abbrev k_Mod_make : ByteArray := prog_12_method_5_code
def y_Mod_make : MethodName := ⟨"DelegationClosureModel", "make", "(ZIIII)I"⟩
def ws_Mod_make : List Cond := .code y_Mod_make k_Mod_make 7 (some .int) :: gW
theorem ds_Mod_make : y_Mod_make.cls ≠ "java/lang/invoke/MethodHandle" ∧ y_Mod_make.cls ≠ "java/lang/invoke/VarHandle" ∧ (parseMethodDescriptor y_Mod_make.desc).map (fun d => d.parameters.length) = some 5 := by decide +kernel
abbrev k_Mod_permit : ByteArray := prog_12_method_7_code
def y_Mod_permit : MethodName := ⟨"DelegationClosureModel", "permit", "(IIZII)I"⟩
def ws_Mod_permit : List Cond := .code y_Mod_permit k_Mod_permit 7 (some .int) :: gW
theorem ds_Mod_permit : y_Mod_permit.cls ≠ "java/lang/invoke/MethodHandle" ∧ y_Mod_permit.cls ≠ "java/lang/invoke/VarHandle" ∧ (parseMethodDescriptor y_Mod_permit.desc).map (fun d => d.parameters.length) = some 5 := by decide +kernel
abbrev k_Mod_tag : ByteArray := prog_12_method_10_code
def y_Mod_tag : MethodName := ⟨"DelegationClosureModel", "tag", "(IIII)Z"⟩
def ws_Mod_tag : List Cond := .code y_Mod_tag k_Mod_tag 5 (some .boolean) :: gW
theorem ds_Mod_tag : y_Mod_tag.cls ≠ "java/lang/invoke/MethodHandle" ∧ y_Mod_tag.cls ≠ "java/lang/invoke/VarHandle" ∧ (parseMethodDescriptor y_Mod_tag.desc).map (fun d => d.parameters.length) = some 4 := by decide +kernel
abbrev k_Mod_isPermission : ByteArray := prog_12_method_9_code
def y_Mod_isPermission : MethodName := ⟨"DelegationClosureModel", "isPermission", "(I)Z"⟩
def ws_Mod_isPermission : List Cond := .code y_Mod_isPermission k_Mod_isPermission 2 (some .boolean) :: gW
theorem ds_Mod_isPermission : y_Mod_isPermission.cls ≠ "java/lang/invoke/MethodHandle" ∧ y_Mod_isPermission.cls ≠ "java/lang/invoke/VarHandle" ∧ (parseMethodDescriptor y_Mod_isPermission.desc).map (fun d => d.parameters.length) = some 1 := by decide +kernel
abbrev k_Mod_isThere : ByteArray := prog_12_method_8_code
def y_Mod_isThere : MethodName := ⟨"DelegationClosureModel", "isThere", "(I)Z"⟩
def ws_Mod_isThere : List Cond := .code y_Mod_isThere k_Mod_isThere 2 (some .boolean) :: gW
theorem ds_Mod_isThere : y_Mod_isThere.cls ≠ "java/lang/invoke/MethodHandle" ∧ y_Mod_isThere.cls ≠ "java/lang/invoke/VarHandle" ∧ (parseMethodDescriptor y_Mod_isThere.desc).map (fun d => d.parameters.length) = some 1 := by decide +kernel
abbrev k_Mod_also : ByteArray := prog_12_method_11_code
def y_Mod_also : MethodName := ⟨"DelegationClosureModel", "also", "(II)I"⟩
def ws_Mod_also : List Cond := .code y_Mod_also k_Mod_also 3 (some .int) :: gW
theorem ds_Mod_also : y_Mod_also.cls ≠ "java/lang/invoke/MethodHandle" ∧ y_Mod_also.cls ≠ "java/lang/invoke/VarHandle" ∧ (parseMethodDescriptor y_Mod_also.desc).map (fun d => d.parameters.length) = some 2 := by decide +kernel
abbrev k_Mod_quorum : ByteArray := prog_12_method_12_code
def y_Mod_quorum : MethodName := ⟨"DelegationClosureModel", "quorum", "(II)Z"⟩
def ws_Mod_quorum : List Cond := .code y_Mod_quorum k_Mod_quorum 3 (some .boolean) :: gW
theorem ds_Mod_quorum : y_Mod_quorum.cls ≠ "java/lang/invoke/MethodHandle" ∧ y_Mod_quorum.cls ≠ "java/lang/invoke/VarHandle" ∧ (parseMethodDescriptor y_Mod_quorum.desc).map (fun d => d.parameters.length) = some 2 := by decide +kernel
abbrev k_Mod_revoke : ByteArray := prog_12_method_13_code
def y_Mod_revoke : MethodName := ⟨"DelegationClosureModel", "revoke", "(I)Z"⟩
def ws_Mod_revoke : List Cond := .code y_Mod_revoke k_Mod_revoke 2 (some .boolean) :: gW
theorem ds_Mod_revoke : y_Mod_revoke.cls ≠ "java/lang/invoke/MethodHandle" ∧ y_Mod_revoke.cls ≠ "java/lang/invoke/VarHandle" ∧ (parseMethodDescriptor y_Mod_revoke.desc).map (fun d => d.parameters.length) = some 1 := by decide +kernel
abbrev k_Mod_certificates : ByteArray := prog_12_method_14_code
def y_Mod_certificates : MethodName := ⟨"DelegationClosureModel", "certificates", "()I"⟩
def ws_Mod_certificates : List Cond := .code y_Mod_certificates k_Mod_certificates 1 (some .int) :: gW
theorem ds_Mod_certificates : y_Mod_certificates.cls ≠ "java/lang/invoke/MethodHandle" ∧ y_Mod_certificates.cls ≠ "java/lang/invoke/VarHandle" ∧ (parseMethodDescriptor y_Mod_certificates.desc).map (fun d => d.parameters.length) = some 0 := by decide +kernel
abbrev k_Mod_meant : ByteArray := prog_12_method_20_code
def y_Mod_meant : MethodName := ⟨"DelegationClosureModel", "meant", "(II)I"⟩
def ws_Mod_meant : List Cond := .code y_Mod_meant k_Mod_meant 5 (some .int) :: gW
theorem ds_Mod_meant : y_Mod_meant.cls ≠ "java/lang/invoke/MethodHandle" ∧ y_Mod_meant.cls ≠ "java/lang/invoke/VarHandle" ∧ (parseMethodDescriptor y_Mod_meant.desc).map (fun d => d.parameters.length) = some 2 := by decide +kernel
abbrev k_Mod_findMeanings : ByteArray := prog_12_method_19_code
def y_Mod_findMeanings : MethodName := ⟨"DelegationClosureModel", "findMeanings", "(I)V"⟩
def ws_Mod_findMeanings : List Cond := .code y_Mod_findMeanings k_Mod_findMeanings 4 none :: gW
theorem ds_Mod_findMeanings : y_Mod_findMeanings.cls ≠ "java/lang/invoke/MethodHandle" ∧ y_Mod_findMeanings.cls ≠ "java/lang/invoke/VarHandle" ∧ (parseMethodDescriptor y_Mod_findMeanings.desc).map (fun d => d.parameters.length) = some 1 := by decide +kernel
abbrev k_Mod_useNames : ByteArray := prog_12_method_18_code
def y_Mod_useNames : MethodName := ⟨"DelegationClosureModel", "useNames", "(I)Z"⟩
def ws_Mod_useNames : List Cond := .code y_Mod_useNames k_Mod_useNames 7 (some .boolean) :: gW
theorem ds_Mod_useNames : y_Mod_useNames.cls ≠ "java/lang/invoke/MethodHandle" ∧ y_Mod_useNames.cls ≠ "java/lang/invoke/VarHandle" ∧ (parseMethodDescriptor y_Mod_useNames.desc).map (fun d => d.parameters.length) = some 1 := by decide +kernel
abbrev k_Mod_isValid : ByteArray := prog_12_method_15_code
def y_Mod_isValid : MethodName := ⟨"DelegationClosureModel", "isValid", "(II)Z"⟩
def ws_Mod_isValid : List Cond := .code y_Mod_isValid k_Mod_isValid 3 (some .boolean) :: gW
theorem ds_Mod_isValid : y_Mod_isValid.cls ≠ "java/lang/invoke/MethodHandle" ∧ y_Mod_isValid.cls ≠ "java/lang/invoke/VarHandle" ∧ (parseMethodDescriptor y_Mod_isValid.desc).map (fun d => d.parameters.length) = some 2 := by decide +kernel
abbrev k_Mod_costOf : ByteArray := prog_12_method_17_code
def y_Mod_costOf : MethodName := ⟨"DelegationClosureModel", "costOf", "(II)I"⟩
def ws_Mod_costOf : List Cond := .code y_Mod_costOf k_Mod_costOf 9 (some .int) :: gW
theorem ds_Mod_costOf : y_Mod_costOf.cls ≠ "java/lang/invoke/MethodHandle" ∧ y_Mod_costOf.cls ≠ "java/lang/invoke/VarHandle" ∧ (parseMethodDescriptor y_Mod_costOf.desc).map (fun d => d.parameters.length) = some 2 := by decide +kernel
abbrev k_Mod_keyOf : ByteArray := prog_12_method_2_code
def y_Mod_keyOf : MethodName := ⟨"DelegationClosureModel", "keyOf", "(I)I"⟩
def ws_Mod_keyOf : List Cond := .code y_Mod_keyOf k_Mod_keyOf 1 (some .int) :: gW
theorem ds_Mod_keyOf : y_Mod_keyOf.cls ≠ "java/lang/invoke/MethodHandle" ∧ y_Mod_keyOf.cls ≠ "java/lang/invoke/VarHandle" ∧ (parseMethodDescriptor y_Mod_keyOf.desc).map (fun d => d.parameters.length) = some 1 := by decide +kernel
abbrev k_Mod_sum : ByteArray := prog_12_method_16_code
def y_Mod_sum : MethodName := ⟨"DelegationClosureModel", "sum", "(II)I"⟩
def ws_Mod_sum : List Cond := .code y_Mod_sum k_Mod_sum 2 (some .int) :: gW
theorem ds_Mod_sum : y_Mod_sum.cls ≠ "java/lang/invoke/MethodHandle" ∧ y_Mod_sum.cls ≠ "java/lang/invoke/VarHandle" ∧ (parseMethodDescriptor y_Mod_sum.desc).map (fun d => d.parameters.length) = some 2 := by decide +kernel
abbrev k_Mod_cost : ByteArray := prog_12_method_21_code
def y_Mod_cost : MethodName := ⟨"DelegationClosureModel", "cost", "(III)I"⟩
def ws_Mod_cost : List Cond := .code y_Mod_cost k_Mod_cost 5 (some .int) :: gW
theorem ds_Mod_cost : y_Mod_cost.cls ≠ "java/lang/invoke/MethodHandle" ∧ y_Mod_cost.cls ≠ "java/lang/invoke/VarHandle" ∧ (parseMethodDescriptor y_Mod_cost.desc).map (fun d => d.parameters.length) = some 3 := by decide +kernel
abbrev k_Mod_may : ByteArray := prog_12_method_28_code
def y_Mod_may : MethodName := ⟨"DelegationClosureModel", "may", "(IIII)I"⟩
def ws_Mod_may : List Cond := .code y_Mod_may k_Mod_may 6 (some .int) :: gW
theorem ds_Mod_may : y_Mod_may.cls ≠ "java/lang/invoke/MethodHandle" ∧ y_Mod_may.cls ≠ "java/lang/invoke/VarHandle" ∧ (parseMethodDescriptor y_Mod_may.desc).map (fun d => d.parameters.length) = some 4 := by decide +kernel
abbrev k_Mod_findLeading : ByteArray := prog_12_method_27_code
def y_Mod_findLeading : MethodName := ⟨"DelegationClosureModel", "findLeading", "(IIII)V"⟩
def ws_Mod_findLeading : List Cond := .code y_Mod_findLeading k_Mod_findLeading 9 none :: gW
theorem ds_Mod_findLeading : y_Mod_findLeading.cls ≠ "java/lang/invoke/MethodHandle" ∧ y_Mod_findLeading.cls ≠ "java/lang/invoke/VarHandle" ∧ (parseMethodDescriptor y_Mod_findLeading.desc).map (fun d => d.parameters.length) = some 4 := by decide +kernel
abbrev k_Mod_counts : ByteArray := prog_12_method_22_code
def y_Mod_counts : MethodName := ⟨"DelegationClosureModel", "counts", "(IIII)Z"⟩
def ws_Mod_counts : List Cond := .code y_Mod_counts k_Mod_counts 5 (some .boolean) :: gW
theorem ds_Mod_counts : y_Mod_counts.cls ≠ "java/lang/invoke/MethodHandle" ∧ y_Mod_counts.cls ≠ "java/lang/invoke/VarHandle" ∧ (parseMethodDescriptor y_Mod_counts.desc).map (fun d => d.parameters.length) = some 4 := by decide +kernel
abbrev k_Mod_byCertificate : ByteArray := prog_12_method_26_code
def y_Mod_byCertificate : MethodName := ⟨"DelegationClosureModel", "byCertificate", "(II)I"⟩
def ws_Mod_byCertificate : List Cond := .code y_Mod_byCertificate k_Mod_byCertificate 7 (some .int) :: gW
theorem ds_Mod_byCertificate : y_Mod_byCertificate.cls ≠ "java/lang/invoke/MethodHandle" ∧ y_Mod_byCertificate.cls ≠ "java/lang/invoke/VarHandle" ∧ (parseMethodDescriptor y_Mod_byCertificate.desc).map (fun d => d.parameters.length) = some 2 := by decide +kernel
abbrev k_Mod_bySubject : ByteArray := prog_12_method_24_code
def y_Mod_bySubject : MethodName := ⟨"DelegationClosureModel", "bySubject", "(III)I"⟩
def ws_Mod_bySubject : List Cond := .code y_Mod_bySubject k_Mod_bySubject 7 (some .int) :: gW
theorem ds_Mod_bySubject : y_Mod_bySubject.cls ≠ "java/lang/invoke/MethodHandle" ∧ y_Mod_bySubject.cls ≠ "java/lang/invoke/VarHandle" ∧ (parseMethodDescriptor y_Mod_bySubject.desc).map (fun d => d.parameters.length) = some 3 := by decide +kernel
abbrev k_Mod_leadOf : ByteArray := prog_12_method_23_code
def y_Mod_leadOf : MethodName := ⟨"DelegationClosureModel", "leadOf", "(I)I"⟩
def ws_Mod_leadOf : List Cond := .code y_Mod_leadOf k_Mod_leadOf 4 (some .int) :: gW
theorem ds_Mod_leadOf : y_Mod_leadOf.cls ≠ "java/lang/invoke/MethodHandle" ∧ y_Mod_leadOf.cls ≠ "java/lang/invoke/VarHandle" ∧ (parseMethodDescriptor y_Mod_leadOf.desc).map (fun d => d.parameters.length) = some 1 := by decide +kernel
abbrev k_Mod_leastOf : ByteArray := prog_12_method_25_code
def y_Mod_leastOf : MethodName := ⟨"DelegationClosureModel", "leastOf", "(IIII)I"⟩
def ws_Mod_leastOf : List Cond := .code y_Mod_leastOf k_Mod_leastOf 10 (some .int) :: gW
theorem ds_Mod_leastOf : y_Mod_leastOf.cls ≠ "java/lang/invoke/MethodHandle" ∧ y_Mod_leastOf.cls ≠ "java/lang/invoke/VarHandle" ∧ (parseMethodDescriptor y_Mod_leastOf.desc).map (fun d => d.parameters.length) = some 4 := by decide +kernel
abbrev k_Mod_holders : ByteArray := prog_12_method_29_code
def y_Mod_holders : MethodName := ⟨"DelegationClosureModel", "holders", "(III)I"⟩
def ws_Mod_holders : List Cond := .code y_Mod_holders k_Mod_holders 6 (some .int) :: gW
theorem ds_Mod_holders : y_Mod_holders.cls ≠ "java/lang/invoke/MethodHandle" ∧ y_Mod_holders.cls ≠ "java/lang/invoke/VarHandle" ∧ (parseMethodDescriptor y_Mod_holders.desc).map (fun d => d.parameters.length) = some 3 := by decide +kernel
abbrev k_Mod_begin : ByteArray := prog_12_method_30_code
def y_Mod_begin : MethodName := ⟨"DelegationClosureModel", "begin", "(I)Z"⟩
def ws_Mod_begin : List Cond := .code y_Mod_begin k_Mod_begin 2 (some .boolean) :: gW
theorem ds_Mod_begin : y_Mod_begin.cls ≠ "java/lang/invoke/MethodHandle" ∧ y_Mod_begin.cls ≠ "java/lang/invoke/VarHandle" ∧ (parseMethodDescriptor y_Mod_begin.desc).map (fun d => d.parameters.length) = some 1 := by decide +kernel
abbrev k_Mod_place : ByteArray := prog_12_method_32_code
def y_Mod_place : MethodName := ⟨"DelegationClosureModel", "place", "(I)V"⟩
def ws_Mod_place : List Cond := .code y_Mod_place k_Mod_place 4 none :: gW
theorem ds_Mod_place : y_Mod_place.cls ≠ "java/lang/invoke/MethodHandle" ∧ y_Mod_place.cls ≠ "java/lang/invoke/VarHandle" ∧ (parseMethodDescriptor y_Mod_place.desc).map (fun d => d.parameters.length) = some 1 := by decide +kernel
abbrev k_Mod_namesOf : ByteArray := prog_12_method_31_code
def y_Mod_namesOf : MethodName := ⟨"DelegationClosureModel", "namesOf", "(I)I"⟩
def ws_Mod_namesOf : List Cond := .code y_Mod_namesOf k_Mod_namesOf 1 (some .int) :: gW
theorem ds_Mod_namesOf : y_Mod_namesOf.cls ≠ "java/lang/invoke/MethodHandle" ∧ y_Mod_namesOf.cls ≠ "java/lang/invoke/VarHandle" ∧ (parseMethodDescriptor y_Mod_namesOf.desc).map (fun d => d.parameters.length) = some 1 := by decide +kernel
abbrev k_Mod_follow : ByteArray := prog_12_method_35_code
def y_Mod_follow : MethodName := ⟨"DelegationClosureModel", "follow", "(I)Z"⟩
def ws_Mod_follow : List Cond := .code y_Mod_follow k_Mod_follow 2 (some .boolean) :: gW
theorem ds_Mod_follow : y_Mod_follow.cls ≠ "java/lang/invoke/MethodHandle" ∧ y_Mod_follow.cls ≠ "java/lang/invoke/VarHandle" ∧ (parseMethodDescriptor y_Mod_follow.desc).map (fun d => d.parameters.length) = some 1 := by decide +kernel
abbrev k_Mod_fits : ByteArray := prog_12_method_34_code
def y_Mod_fits : MethodName := ⟨"DelegationClosureModel", "fits", "(I)Z"⟩
def ws_Mod_fits : List Cond := .code y_Mod_fits k_Mod_fits 2 (some .boolean) :: gW
theorem ds_Mod_fits : y_Mod_fits.cls ≠ "java/lang/invoke/MethodHandle" ∧ y_Mod_fits.cls ≠ "java/lang/invoke/VarHandle" ∧ (parseMethodDescriptor y_Mod_fits.desc).map (fun d => d.parameters.length) = some 1 := by decide +kernel
abbrev k_Mod_dropName : ByteArray := prog_12_method_33_code
def y_Mod_dropName : MethodName := ⟨"DelegationClosureModel", "dropName", "()V"⟩
def ws_Mod_dropName : List Cond := .code y_Mod_dropName k_Mod_dropName 2 none :: gW
theorem ds_Mod_dropName : y_Mod_dropName.cls ≠ "java/lang/invoke/MethodHandle" ∧ y_Mod_dropName.cls ≠ "java/lang/invoke/VarHandle" ∧ (parseMethodDescriptor y_Mod_dropName.desc).map (fun d => d.parameters.length) = some 0 := by decide +kernel
abbrev k_Mod_head : ByteArray := prog_12_method_36_code
def y_Mod_head : MethodName := ⟨"DelegationClosureModel", "head", "()I"⟩
def ws_Mod_head : List Cond := .code y_Mod_head k_Mod_head 1 (some .int) :: gW
theorem ds_Mod_head : y_Mod_head.cls ≠ "java/lang/invoke/MethodHandle" ∧ y_Mod_head.cls ≠ "java/lang/invoke/VarHandle" ∧ (parseMethodDescriptor y_Mod_head.desc).map (fun d => d.parameters.length) = some 0 := by decide +kernel
abbrev k_Mod_behind : ByteArray := prog_12_method_37_code
def y_Mod_behind : MethodName := ⟨"DelegationClosureModel", "behind", "(I)I"⟩
def ws_Mod_behind : List Cond := .code y_Mod_behind k_Mod_behind 2 (some .int) :: gW
theorem ds_Mod_behind : y_Mod_behind.cls ≠ "java/lang/invoke/MethodHandle" ∧ y_Mod_behind.cls ≠ "java/lang/invoke/VarHandle" ∧ (parseMethodDescriptor y_Mod_behind.desc).map (fun d => d.parameters.length) = some 1 := by decide +kernel
abbrev k_Mod_grants : ByteArray := prog_12_method_38_code
def y_Mod_grants : MethodName := ⟨"DelegationClosureModel", "grants", "(III)Z"⟩
def ws_Mod_grants : List Cond := .code y_Mod_grants k_Mod_grants 4 (some .boolean) :: gW
theorem ds_Mod_grants : y_Mod_grants.cls ≠ "java/lang/invoke/MethodHandle" ∧ y_Mod_grants.cls ≠ "java/lang/invoke/VarHandle" ∧ (parseMethodDescriptor y_Mod_grants.desc).map (fun d => d.parameters.length) = some 3 := by decide +kernel
abbrev k_Mod_used : ByteArray := prog_12_method_39_code
def y_Mod_used : MethodName := ⟨"DelegationClosureModel", "used", "()I"⟩
def ws_Mod_used : List Cond := .code y_Mod_used k_Mod_used 1 (some .int) :: gW
theorem ds_Mod_used : y_Mod_used.cls ≠ "java/lang/invoke/MethodHandle" ∧ y_Mod_used.cls ≠ "java/lang/invoke/VarHandle" ∧ (parseMethodDescriptor y_Mod_used.desc).map (fun d => d.parameters.length) = some 0 := by decide +kernel
abbrev k_Mod_delegates : ByteArray := prog_12_method_40_code
def y_Mod_delegates : MethodName := ⟨"DelegationClosureModel", "delegates", "()Z"⟩
def ws_Mod_delegates : List Cond := .code y_Mod_delegates k_Mod_delegates 1 (some .boolean) :: gW
theorem ds_Mod_delegates : y_Mod_delegates.cls ≠ "java/lang/invoke/MethodHandle" ∧ y_Mod_delegates.cls ≠ "java/lang/invoke/VarHandle" ∧ (parseMethodDescriptor y_Mod_delegates.desc).map (fun d => d.parameters.length) = some 0 := by decide +kernel
end
section
theorem wd_0 : (Jvm.Cond.initialized "DelegationClosureLaw") ∈ gW := gW_t 0 rfl (by decide +kernel)
theorem wd_1 : (Jvm.Cond.initialized "DelegationClosure") ∈ gW := gW_t 1 rfl (by decide +kernel)
theorem wd_2 : (Jvm.Cond.initialized "DelegationClosure$Register") ∈ gW := gW_t 2 rfl (by decide +kernel)
theorem wd_3 : (Jvm.Cond.initialized "DelegationClosure$Meanings") ∈ gW := gW_t 3 rfl (by decide +kernel)
theorem wd_4 : (Jvm.Cond.initialized "DelegationClosure$Leads") ∈ gW := gW_t 4 rfl (by decide +kernel)
theorem wd_5 : (Jvm.Cond.initialized "DelegationClosure$Chain") ∈ gW := gW_t 5 rfl (by decide +kernel)
theorem wd_6 : (Jvm.Cond.initialized "DelegationClosure$Tag") ∈ gW := gW_t 6 rfl (by decide +kernel)
theorem wd_7 : (Jvm.Cond.initialized "DelegationClosure$Span") ∈ gW := gW_t 7 rfl (by decide +kernel)
theorem wd_8 : (Jvm.Cond.initialized "DelegationClosureModel") ∈ gW := gW_t 8 rfl (by decide +kernel)
theorem wd_9 : (Jvm.Cond.initialized "DelegationClosure$Certificate") ∈ gW := gW_t 9 rfl (by decide +kernel)
theorem wd_10 : (Jvm.Cond.initialized "DelegationClosure$Naming") ∈ gW := gW_t 10 rfl (by decide +kernel)
theorem wd_11 : (Jvm.Cond.initialized "DelegationClosure$Permission") ∈ gW := gW_t 11 rfl (by decide +kernel)
theorem wd_12 : (Jvm.Cond.initialized "java/util/Arrays") ∈ gW := gW_t 12 rfl (by decide +kernel)
theorem wd_13 : (Jvm.Cond.initialized "java/lang/Math") ∈ gW := gW_t 13 rfl (by decide +kernel)
theorem wd_14 : (Jvm.Cond.initialized "java/lang/System") ∈ gW := gW_t 14 rfl (by decide +kernel)
theorem wd_15 : (Jvm.Cond.classLink "DelegationClosureLaw" (7 : Nat) "DelegationClosure") ∈ gW := gW_t 15 rfl (by decide +kernel)
theorem wd_16 : (Jvm.Cond.instantiable "DelegationClosure" (4 : Nat)) ∈ gW := gW_t 16 rfl (by decide +kernel)
theorem wd_17 : (Jvm.Cond.methodLink "DelegationClosureLaw" (9 : Nat) ({ cls := "DelegationClosure", name := "<init>", desc := "()V" } : Jvm.MethodName)) ∈ gW := gW_t 17 rfl (by decide +kernel)
theorem wd_18 : (Jvm.Cond.instanceMethod ({ cls := "DelegationClosure", name := "<init>", desc := "()V" } : Jvm.MethodName)) ∈ gW := gW_t 18 rfl (by decide +kernel)
theorem wd_20 : (Jvm.Cond.methodLink "DelegationClosure" (3 : Nat) ({ cls := "java/lang/Object", name := "<init>", desc := "()V" } : Jvm.MethodName)) ∈ gW := gW_t 20 rfl (by decide +kernel)
theorem wd_21 : (Jvm.Cond.instanceMethod ({ cls := "java/lang/Object", name := "<init>", desc := "()V" } : Jvm.MethodName)) ∈ gW := gW_t 21 rfl (by decide +kernel)
theorem wd_23 : (Jvm.Cond.classLink "DelegationClosure" (9 : Nat) "DelegationClosure$Register") ∈ gW := gW_t 23 rfl (by decide +kernel)
theorem wd_24 : (Jvm.Cond.instantiable "DelegationClosure$Register" (2 : Nat)) ∈ gW := gW_t 24 rfl (by decide +kernel)
theorem nw_25 : (Jvm.Cond.methodLinkNest "DelegationClosure" (11 : Nat) ({ cls := "DelegationClosure$Register", name := "<init>", desc := "()V" } : Jvm.MethodName) "DelegationClosure") ∈ lw_tbl := List.mem_append_right _ (List.mem_of_getElem? (i := 25) rfl)
theorem wd_26 : (Jvm.Cond.instanceMethod ({ cls := "DelegationClosure$Register", name := "<init>", desc := "()V" } : Jvm.MethodName)) ∈ gW := gW_t 26 rfl (by decide +kernel)
theorem wd_28 : (Jvm.Cond.methodLink "DelegationClosure$Register" (3 : Nat) ({ cls := "java/lang/Object", name := "<init>", desc := "()V" } : Jvm.MethodName)) ∈ gW := gW_t 28 rfl (by decide +kernel)
theorem wd_29 : (Jvm.Cond.classLink "DelegationClosure$Register" (9 : Nat) "DelegationClosure$Certificate") ∈ gW := gW_t 29 rfl (by decide +kernel)
theorem wd_31 : (Jvm.Cond.fieldLink "DelegationClosure$Register" (11 : Nat) "DelegationClosure$Register" "made" "[LDelegationClosure$Certificate;") ∈ gW := gW_t 31 rfl (by decide +kernel)
theorem wd_32 : (Jvm.Cond.fieldLink "DelegationClosure$Register" (17 : Nat) "DelegationClosure$Register" "size" "I") ∈ gW := gW_t 32 rfl (by decide +kernel)
theorem nw_33 : (Jvm.Cond.fieldLinkNest "DelegationClosure$Leads" (22 : Nat) "DelegationClosure$Register" "size" "I" "DelegationClosure") ∈ lw_tbl := List.mem_append_right _ (List.mem_of_getElem? (i := 33) rfl)
theorem nw_34 : (Jvm.Cond.fieldLinkNest "DelegationClosure$Meanings" (25 : Nat) "DelegationClosure$Register" "size" "I" "DelegationClosure") ∈ lw_tbl := List.mem_append_right _ (List.mem_of_getElem? (i := 34) rfl)
theorem nw_35 : (Jvm.Cond.fieldLinkNest "DelegationClosure" (97 : Nat) "DelegationClosure$Register" "size" "I" "DelegationClosure") ∈ lw_tbl := List.mem_append_right _ (List.mem_of_getElem? (i := 35) rfl)
theorem wd_36 : (Jvm.Cond.laysFinal "DelegationClosure$Register" "DelegationClosure$Register" "made" "[LDelegationClosure$Certificate;") ∈ gW := gW_t 36 rfl (by decide +kernel)
theorem wd_38 : (Jvm.Cond.lays "DelegationClosure$Register" "DelegationClosure$Register" "size" "I") ∈ gW := gW_t 38 rfl (by decide +kernel)
theorem wd_41 : (Jvm.Cond.classLink "DelegationClosure" (16 : Nat) "DelegationClosure$Meanings") ∈ gW := gW_t 41 rfl (by decide +kernel)
theorem wd_42 : (Jvm.Cond.instantiable "DelegationClosure$Meanings" (1 : Nat)) ∈ gW := gW_t 42 rfl (by decide +kernel)
theorem nw_43 : (Jvm.Cond.methodLinkNest "DelegationClosure" (18 : Nat) ({ cls := "DelegationClosure$Meanings", name := "<init>", desc := "()V" } : Jvm.MethodName) "DelegationClosure") ∈ lw_tbl := List.mem_append_right _ (List.mem_of_getElem? (i := 43) rfl)
theorem wd_44 : (Jvm.Cond.instanceMethod ({ cls := "DelegationClosure$Meanings", name := "<init>", desc := "()V" } : Jvm.MethodName)) ∈ gW := gW_t 44 rfl (by decide +kernel)
theorem wd_46 : (Jvm.Cond.methodLink "DelegationClosure$Meanings" (3 : Nat) ({ cls := "java/lang/Object", name := "<init>", desc := "()V" } : Jvm.MethodName)) ∈ gW := gW_t 46 rfl (by decide +kernel)
theorem wd_47 : (Jvm.Cond.fieldLink "DelegationClosure$Meanings" (9 : Nat) "DelegationClosure$Meanings" "least" "[I") ∈ gW := gW_t 47 rfl (by decide +kernel)
theorem wd_48 : (Jvm.Cond.laysFinal "DelegationClosure$Meanings" "DelegationClosure$Meanings" "least" "[I") ∈ gW := gW_t 48 rfl (by decide +kernel)
theorem wd_51 : (Jvm.Cond.arrayClass Jvm.ClassFile.FieldType.int) ∈ gW := gW_t 51 rfl (by decide +kernel)
theorem wd_52 : (Jvm.Cond.classLink "DelegationClosure" (23 : Nat) "DelegationClosure$Leads") ∈ gW := gW_t 52 rfl (by decide +kernel)
theorem wd_53 : (Jvm.Cond.instantiable "DelegationClosure$Leads" (3 : Nat)) ∈ gW := gW_t 53 rfl (by decide +kernel)
theorem nw_54 : (Jvm.Cond.methodLinkNest "DelegationClosure" (25 : Nat) ({ cls := "DelegationClosure$Leads", name := "<init>", desc := "()V" } : Jvm.MethodName) "DelegationClosure") ∈ lw_tbl := List.mem_append_right _ (List.mem_of_getElem? (i := 54) rfl)
theorem wd_55 : (Jvm.Cond.instanceMethod ({ cls := "DelegationClosure$Leads", name := "<init>", desc := "()V" } : Jvm.MethodName)) ∈ gW := gW_t 55 rfl (by decide +kernel)
theorem wd_57 : (Jvm.Cond.methodLink "DelegationClosure$Leads" (3 : Nat) ({ cls := "java/lang/Object", name := "<init>", desc := "()V" } : Jvm.MethodName)) ∈ gW := gW_t 57 rfl (by decide +kernel)
theorem wd_58 : (Jvm.Cond.fieldLink "DelegationClosure$Leads" (9 : Nat) "DelegationClosure$Leads" "counts" "[Z") ∈ gW := gW_t 58 rfl (by decide +kernel)
theorem wd_59 : (Jvm.Cond.fieldLink "DelegationClosure$Leads" (15 : Nat) "DelegationClosure$Leads" "least" "[I") ∈ gW := gW_t 59 rfl (by decide +kernel)
theorem wd_60 : (Jvm.Cond.fieldLink "DelegationClosure$Leads" (19 : Nat) "DelegationClosure$Leads" "sorted" "[I") ∈ gW := gW_t 60 rfl (by decide +kernel)
theorem wd_61 : (Jvm.Cond.laysFinal "DelegationClosure$Leads" "DelegationClosure$Leads" "counts" "[Z") ∈ gW := gW_t 61 rfl (by decide +kernel)
theorem wd_63 : (Jvm.Cond.laysFinal "DelegationClosure$Leads" "DelegationClosure$Leads" "least" "[I") ∈ gW := gW_t 63 rfl (by decide +kernel)
theorem wd_65 : (Jvm.Cond.laysFinal "DelegationClosure$Leads" "DelegationClosure$Leads" "sorted" "[I") ∈ gW := gW_t 65 rfl (by decide +kernel)
theorem wd_68 : (Jvm.Cond.arrayClass Jvm.ClassFile.FieldType.boolean) ∈ gW := gW_t 68 rfl (by decide +kernel)
theorem wd_69 : (Jvm.Cond.classLink "DelegationClosure" (30 : Nat) "DelegationClosure$Chain") ∈ gW := gW_t 69 rfl (by decide +kernel)
theorem wd_70 : (Jvm.Cond.instantiable "DelegationClosure$Chain" (7 : Nat)) ∈ gW := gW_t 70 rfl (by decide +kernel)
theorem nw_71 : (Jvm.Cond.methodLinkNest "DelegationClosure" (32 : Nat) ({ cls := "DelegationClosure$Chain", name := "<init>", desc := "()V" } : Jvm.MethodName) "DelegationClosure") ∈ lw_tbl := List.mem_append_right _ (List.mem_of_getElem? (i := 71) rfl)
theorem wd_72 : (Jvm.Cond.instanceMethod ({ cls := "DelegationClosure$Chain", name := "<init>", desc := "()V" } : Jvm.MethodName)) ∈ gW := gW_t 72 rfl (by decide +kernel)
theorem wd_74 : (Jvm.Cond.methodLink "DelegationClosure$Chain" (3 : Nat) ({ cls := "java/lang/Object", name := "<init>", desc := "()V" } : Jvm.MethodName)) ∈ gW := gW_t 74 rfl (by decide +kernel)
theorem wd_75 : (Jvm.Cond.classLink "DelegationClosure$Chain" (22 : Nat) "DelegationClosure$Tag") ∈ gW := gW_t 75 rfl (by decide +kernel)
theorem wd_76 : (Jvm.Cond.instantiable "DelegationClosure$Tag" (2 : Nat)) ∈ gW := gW_t 76 rfl (by decide +kernel)
theorem nw_77 : (Jvm.Cond.methodLinkNest "DelegationClosure$Chain" (24 : Nat) ({ cls := "DelegationClosure$Tag", name := "<init>", desc := "()V" } : Jvm.MethodName) "DelegationClosure") ∈ lw_tbl := List.mem_append_right _ (List.mem_of_getElem? (i := 77) rfl)
theorem wd_78 : (Jvm.Cond.instanceMethod ({ cls := "DelegationClosure$Tag", name := "<init>", desc := "()V" } : Jvm.MethodName)) ∈ gW := gW_t 78 rfl (by decide +kernel)
theorem wd_80 : (Jvm.Cond.methodLink "DelegationClosure$Tag" (3 : Nat) ({ cls := "java/lang/Object", name := "<init>", desc := "()V" } : Jvm.MethodName)) ∈ gW := gW_t 80 rfl (by decide +kernel)
theorem wd_81 : (Jvm.Cond.classLink "DelegationClosure$Tag" (15 : Nat) "DelegationClosure$Span") ∈ gW := gW_t 81 rfl (by decide +kernel)
theorem wd_82 : (Jvm.Cond.instantiable "DelegationClosure$Span" (2 : Nat)) ∈ gW := gW_t 82 rfl (by decide +kernel)
theorem wd_83 : (Jvm.Cond.constant "DelegationClosure$Tag" (17 : Nat) (-2147483648 : Int32)) ∈ gW := gW_t 83 rfl (by decide +kernel)
theorem wd_84 : (Jvm.Cond.constant "DelegationClosure$Tag" (18 : Nat) (2147483647 : Int32)) ∈ gW := gW_t 84 rfl (by decide +kernel)
theorem wd_85 : (Jvm.Cond.methodLink "DelegationClosure$Tag" (19 : Nat) ({ cls := "DelegationClosure$Span", name := "<init>", desc := "(II)V" } : Jvm.MethodName)) ∈ gW := gW_t 85 rfl (by decide +kernel)
theorem wd_86 : (Jvm.Cond.instanceMethod ({ cls := "DelegationClosure$Span", name := "<init>", desc := "(II)V" } : Jvm.MethodName)) ∈ gW := gW_t 86 rfl (by decide +kernel)
theorem wd_88 : (Jvm.Cond.methodLink "DelegationClosure$Span" (1 : Nat) ({ cls := "java/lang/Object", name := "<init>", desc := "()V" } : Jvm.MethodName)) ∈ gW := gW_t 88 rfl (by decide +kernel)
theorem wd_89 : (Jvm.Cond.fieldLink "DelegationClosure$Span" (7 : Nat) "DelegationClosure$Span" "low" "I") ∈ gW := gW_t 89 rfl (by decide +kernel)
theorem wd_90 : (Jvm.Cond.fieldLink "DelegationClosure$Span" (13 : Nat) "DelegationClosure$Span" "high" "I") ∈ gW := gW_t 90 rfl (by decide +kernel)
theorem wd_91 : (Jvm.Cond.lays "DelegationClosure$Span" "DelegationClosure$Span" "low" "I") ∈ gW := gW_t 91 rfl (by decide +kernel)
theorem wd_93 : (Jvm.Cond.lays "DelegationClosure$Span" "DelegationClosure$Span" "high" "I") ∈ gW := gW_t 93 rfl (by decide +kernel)
theorem wd_96 : (Jvm.Cond.fieldLink "DelegationClosure$Tag" (9 : Nat) "DelegationClosure$Tag" "operations" "I") ∈ gW := gW_t 96 rfl (by decide +kernel)
theorem wd_97 : (Jvm.Cond.fieldLink "DelegationClosure$Tag" (22 : Nat) "DelegationClosure$Tag" "numbers" "LDelegationClosure$Span;") ∈ gW := gW_t 97 rfl (by decide +kernel)
theorem wd_98 : (Jvm.Cond.lays "DelegationClosure$Tag" "DelegationClosure$Tag" "operations" "I") ∈ gW := gW_t 98 rfl (by decide +kernel)
theorem wd_100 : (Jvm.Cond.laysFinal "DelegationClosure$Tag" "DelegationClosure$Tag" "numbers" "LDelegationClosure$Span;") ∈ gW := gW_t 100 rfl (by decide +kernel)
theorem wd_103 : (Jvm.Cond.classLink "DelegationClosure$Chain" (29 : Nat) "DelegationClosure$Span") ∈ gW := gW_t 103 rfl (by decide +kernel)
theorem wd_104 : (Jvm.Cond.methodLink "DelegationClosure$Chain" (31 : Nat) ({ cls := "DelegationClosure$Span", name := "<init>", desc := "(II)V" } : Jvm.MethodName)) ∈ gW := gW_t 104 rfl (by decide +kernel)
theorem wd_105 : (Jvm.Cond.fieldLink "DelegationClosure$Chain" (9 : Nat) "DelegationClosure$Chain" "key" "I") ∈ gW := gW_t 105 rfl (by decide +kernel)
theorem nw_106 : (Jvm.Cond.fieldLinkNest "DelegationClosure" (139 : Nat) "DelegationClosure$Chain" "key" "I" "DelegationClosure") ∈ lw_tbl := List.mem_append_right _ (List.mem_of_getElem? (i := 106) rfl)
theorem wd_107 : (Jvm.Cond.fieldLink "DelegationClosure$Chain" (15 : Nat) "DelegationClosure$Chain" "names" "[I") ∈ gW := gW_t 107 rfl (by decide +kernel)
theorem nw_108 : (Jvm.Cond.fieldLinkNest "DelegationClosure" (143 : Nat) "DelegationClosure$Chain" "names" "[I" "DelegationClosure") ∈ lw_tbl := List.mem_append_right _ (List.mem_of_getElem? (i := 108) rfl)
theorem wd_109 : (Jvm.Cond.fieldLink "DelegationClosure$Chain" (19 : Nat) "DelegationClosure$Chain" "size" "I") ∈ gW := gW_t 109 rfl (by decide +kernel)
theorem nw_110 : (Jvm.Cond.fieldLinkNest "DelegationClosure" (142 : Nat) "DelegationClosure$Chain" "size" "I" "DelegationClosure") ∈ lw_tbl := List.mem_append_right _ (List.mem_of_getElem? (i := 110) rfl)
theorem wd_111 : (Jvm.Cond.fieldLink "DelegationClosure$Chain" (25 : Nat) "DelegationClosure$Chain" "tag" "LDelegationClosure$Tag;") ∈ gW := gW_t 111 rfl (by decide +kernel)
theorem wd_112 : (Jvm.Cond.fieldLink "DelegationClosure$Chain" (34 : Nat) "DelegationClosure$Chain" "times" "LDelegationClosure$Span;") ∈ gW := gW_t 112 rfl (by decide +kernel)
theorem wd_113 : (Jvm.Cond.fieldLink "DelegationClosure$Chain" (38 : Nat) "DelegationClosure$Chain" "used" "I") ∈ gW := gW_t 113 rfl (by decide +kernel)
theorem nw_114 : (Jvm.Cond.fieldLinkNest "DelegationClosure" (151 : Nat) "DelegationClosure$Chain" "used" "I" "DelegationClosure") ∈ lw_tbl := List.mem_append_right _ (List.mem_of_getElem? (i := 114) rfl)
theorem wd_115 : (Jvm.Cond.fieldLink "DelegationClosure$Chain" (41 : Nat) "DelegationClosure$Chain" "delegates" "Z") ∈ gW := gW_t 115 rfl (by decide +kernel)
theorem nw_116 : (Jvm.Cond.fieldLinkNest "DelegationClosure" (154 : Nat) "DelegationClosure$Chain" "delegates" "Z" "DelegationClosure") ∈ lw_tbl := List.mem_append_right _ (List.mem_of_getElem? (i := 116) rfl)
theorem wd_117 : (Jvm.Cond.lays "DelegationClosure$Chain" "DelegationClosure$Chain" "key" "I") ∈ gW := gW_t 117 rfl (by decide +kernel)
theorem wd_119 : (Jvm.Cond.laysFinal "DelegationClosure$Chain" "DelegationClosure$Chain" "names" "[I") ∈ gW := gW_t 119 rfl (by decide +kernel)
theorem wd_121 : (Jvm.Cond.lays "DelegationClosure$Chain" "DelegationClosure$Chain" "size" "I") ∈ gW := gW_t 121 rfl (by decide +kernel)
theorem wd_123 : (Jvm.Cond.laysFinal "DelegationClosure$Chain" "DelegationClosure$Chain" "tag" "LDelegationClosure$Tag;") ∈ gW := gW_t 123 rfl (by decide +kernel)
theorem wd_125 : (Jvm.Cond.laysFinal "DelegationClosure$Chain" "DelegationClosure$Chain" "times" "LDelegationClosure$Span;") ∈ gW := gW_t 125 rfl (by decide +kernel)
theorem wd_127 : (Jvm.Cond.lays "DelegationClosure$Chain" "DelegationClosure$Chain" "used" "I") ∈ gW := gW_t 127 rfl (by decide +kernel)
theorem wd_129 : (Jvm.Cond.lays "DelegationClosure$Chain" "DelegationClosure$Chain" "delegates" "Z") ∈ gW := gW_t 129 rfl (by decide +kernel)
theorem wd_132 : (Jvm.Cond.fieldLink "DelegationClosure" (12 : Nat) "DelegationClosure" "register" "LDelegationClosure$Register;") ∈ gW := gW_t 132 rfl (by decide +kernel)
theorem wd_133 : (Jvm.Cond.fieldLink "DelegationClosure" (19 : Nat) "DelegationClosure" "meanings" "LDelegationClosure$Meanings;") ∈ gW := gW_t 133 rfl (by decide +kernel)
theorem wd_134 : (Jvm.Cond.fieldLink "DelegationClosure" (26 : Nat) "DelegationClosure" "leads" "LDelegationClosure$Leads;") ∈ gW := gW_t 134 rfl (by decide +kernel)
theorem wd_135 : (Jvm.Cond.fieldLink "DelegationClosure" (33 : Nat) "DelegationClosure" "chain" "LDelegationClosure$Chain;") ∈ gW := gW_t 135 rfl (by decide +kernel)
theorem wd_136 : (Jvm.Cond.laysFinal "DelegationClosure" "DelegationClosure" "register" "LDelegationClosure$Register;") ∈ gW := gW_t 136 rfl (by decide +kernel)
theorem wd_138 : (Jvm.Cond.laysFinal "DelegationClosure" "DelegationClosure" "meanings" "LDelegationClosure$Meanings;") ∈ gW := gW_t 138 rfl (by decide +kernel)
theorem wd_140 : (Jvm.Cond.laysFinal "DelegationClosure" "DelegationClosure" "leads" "LDelegationClosure$Leads;") ∈ gW := gW_t 140 rfl (by decide +kernel)
theorem wd_142 : (Jvm.Cond.laysFinal "DelegationClosure" "DelegationClosure" "chain" "LDelegationClosure$Chain;") ∈ gW := gW_t 142 rfl (by decide +kernel)
theorem wd_145 : (Jvm.Cond.methodLink "DelegationClosureLaw" (13 : Nat) ({ cls := "DelegationClosure", name := "name", desc := "(IIIII)I" } : Jvm.MethodName)) ∈ gW := gW_t 145 rfl (by decide +kernel)
theorem wd_146 : (Jvm.Cond.instanceMethod ({ cls := "DelegationClosure", name := "name", desc := "(IIIII)I" } : Jvm.MethodName)) ∈ gW := gW_t 146 rfl (by decide +kernel)
theorem wd_147 : (Jvm.Cond.selects "DelegationClosure" ({ cls := "DelegationClosure", name := "name", desc := "(IIIII)I" } : Jvm.MethodName) ({ cls := "DelegationClosure", name := "name", desc := "(IIIII)I" } : Jvm.MethodName)) ∈ gW := gW_t 147 rfl (by decide +kernel)
theorem wd_149 : (Jvm.Cond.methodLink "DelegationClosure" (37 : Nat) ({ cls := "DelegationClosure", name := "isKey", desc := "(I)Z" } : Jvm.MethodName)) ∈ gW := gW_t 149 rfl (by decide +kernel)
theorem wd_150 : (Jvm.Cond.static ({ cls := "DelegationClosure", name := "isKey", desc := "(I)Z" } : Jvm.MethodName)) ∈ gW := gW_t 150 rfl (by decide +kernel)
theorem wd_152 : (Jvm.Cond.methodLink "DelegationClosure" (41 : Nat) ({ cls := "DelegationClosure", name := "isSubject", desc := "(I)Z" } : Jvm.MethodName)) ∈ gW := gW_t 152 rfl (by decide +kernel)
theorem wd_153 : (Jvm.Cond.static ({ cls := "DelegationClosure", name := "isSubject", desc := "(I)Z" } : Jvm.MethodName)) ∈ gW := gW_t 153 rfl (by decide +kernel)
theorem wd_155 : (Jvm.Cond.methodLink "DelegationClosure" (157 : Nat) ({ cls := "DelegationClosure", name := "firstNameOf", desc := "(I)I" } : Jvm.MethodName)) ∈ gW := gW_t 155 rfl (by decide +kernel)
theorem wd_156 : (Jvm.Cond.static ({ cls := "DelegationClosure", name := "firstNameOf", desc := "(I)I" } : Jvm.MethodName)) ∈ gW := gW_t 156 rfl (by decide +kernel)
theorem wd_158 : (Jvm.Cond.methodLink "DelegationClosure" (160 : Nat) ({ cls := "DelegationClosure", name := "secondNameOf", desc := "(I)I" } : Jvm.MethodName)) ∈ gW := gW_t 158 rfl (by decide +kernel)
theorem wd_159 : (Jvm.Cond.static ({ cls := "DelegationClosure", name := "secondNameOf", desc := "(I)I" } : Jvm.MethodName)) ∈ gW := gW_t 159 rfl (by decide +kernel)
theorem wd_161 : (Jvm.Cond.methodLink "DelegationClosure" (44 : Nat) ({ cls := "DelegationClosure$Register", name := "isFull", desc := "()Z" } : Jvm.MethodName)) ∈ gW := gW_t 161 rfl (by decide +kernel)
theorem wd_162 : (Jvm.Cond.instanceMethod ({ cls := "DelegationClosure$Register", name := "isFull", desc := "()Z" } : Jvm.MethodName)) ∈ gW := gW_t 162 rfl (by decide +kernel)
theorem wd_163 : (Jvm.Cond.selects "DelegationClosure$Register" ({ cls := "DelegationClosure$Register", name := "isFull", desc := "()Z" } : Jvm.MethodName) ({ cls := "DelegationClosure$Register", name := "isFull", desc := "()Z" } : Jvm.MethodName)) ∈ gW := gW_t 163 rfl (by decide +kernel)
theorem wd_165 : (Jvm.Cond.classLink "DelegationClosure" (48 : Nat) "DelegationClosure$Naming") ∈ gW := gW_t 165 rfl (by decide +kernel)
theorem wd_166 : (Jvm.Cond.instantiable "DelegationClosure$Naming" (5 : Nat)) ∈ gW := gW_t 166 rfl (by decide +kernel)
theorem wd_167 : (Jvm.Cond.methodLink "DelegationClosure" (50 : Nat) ({ cls := "DelegationClosure$Naming", name := "<init>", desc := "(IIIII)V" } : Jvm.MethodName)) ∈ gW := gW_t 167 rfl (by decide +kernel)
theorem wd_168 : (Jvm.Cond.instanceMethod ({ cls := "DelegationClosure$Naming", name := "<init>", desc := "(IIIII)V" } : Jvm.MethodName)) ∈ gW := gW_t 168 rfl (by decide +kernel)
theorem wd_170 : (Jvm.Cond.methodLink "DelegationClosure$Naming" (1 : Nat) ({ cls := "DelegationClosure$Certificate", name := "<init>", desc := "(III)V" } : Jvm.MethodName)) ∈ gW := gW_t 170 rfl (by decide +kernel)
theorem wd_171 : (Jvm.Cond.instanceMethod ({ cls := "DelegationClosure$Certificate", name := "<init>", desc := "(III)V" } : Jvm.MethodName)) ∈ gW := gW_t 171 rfl (by decide +kernel)
theorem wd_173 : (Jvm.Cond.methodLink "DelegationClosure$Certificate" (1 : Nat) ({ cls := "java/lang/Object", name := "<init>", desc := "()V" } : Jvm.MethodName)) ∈ gW := gW_t 173 rfl (by decide +kernel)
theorem wd_174 : (Jvm.Cond.classLink "DelegationClosure$Certificate" (17 : Nat) "DelegationClosure$Span") ∈ gW := gW_t 174 rfl (by decide +kernel)
theorem wd_175 : (Jvm.Cond.methodLink "DelegationClosure$Certificate" (19 : Nat) ({ cls := "DelegationClosure$Span", name := "<init>", desc := "(II)V" } : Jvm.MethodName)) ∈ gW := gW_t 175 rfl (by decide +kernel)
theorem wd_176 : (Jvm.Cond.fieldLink "DelegationClosure$Naming" (7 : Nat) "DelegationClosure$Naming" "name" "I") ∈ gW := gW_t 176 rfl (by decide +kernel)
theorem wd_177 : (Jvm.Cond.fieldLink "DelegationClosure$Meanings" (54 : Nat) "DelegationClosure$Naming" "name" "I") ∈ gW := gW_t 177 rfl (by decide +kernel)
theorem wd_178 : (Jvm.Cond.fieldLink "DelegationClosure$Chain" (72 : Nat) "DelegationClosure$Naming" "name" "I") ∈ gW := gW_t 178 rfl (by decide +kernel)
theorem wd_179 : (Jvm.Cond.fieldLink "DelegationClosure$Naming" (13 : Nat) "DelegationClosure$Naming" "subject" "I") ∈ gW := gW_t 179 rfl (by decide +kernel)
theorem wd_180 : (Jvm.Cond.fieldLink "DelegationClosure$Meanings" (61 : Nat) "DelegationClosure$Naming" "subject" "I") ∈ gW := gW_t 180 rfl (by decide +kernel)
theorem wd_181 : (Jvm.Cond.fieldLink "DelegationClosure$Chain" (75 : Nat) "DelegationClosure$Naming" "subject" "I") ∈ gW := gW_t 181 rfl (by decide +kernel)
theorem wd_182 : (Jvm.Cond.fieldLink "DelegationClosure$Certificate" (13 : Nat) "DelegationClosure$Certificate" "issuer" "I") ∈ gW := gW_t 182 rfl (by decide +kernel)
theorem wd_183 : (Jvm.Cond.fieldLink "DelegationClosure$Meanings" (51 : Nat) "DelegationClosure$Naming" "issuer" "I") ∈ gW := gW_t 183 rfl (by decide +kernel)
theorem wd_184 : (Jvm.Cond.sameField "DelegationClosure$Naming" "DelegationClosure$Certificate" "issuer" "I") ∈ gW := gW_t 184 rfl (by decide +kernel)
theorem wd_185 : (Jvm.Cond.fieldLink "DelegationClosure$Chain" (67 : Nat) "DelegationClosure$Naming" "issuer" "I") ∈ gW := gW_t 185 rfl (by decide +kernel)
theorem wd_186 : (Jvm.Cond.fieldLink "DelegationClosure$Leads" (67 : Nat) "DelegationClosure$Permission" "issuer" "I") ∈ gW := gW_t 186 rfl (by decide +kernel)
theorem wd_187 : (Jvm.Cond.sameField "DelegationClosure$Permission" "DelegationClosure$Certificate" "issuer" "I") ∈ gW := gW_t 187 rfl (by decide +kernel)
theorem wd_188 : (Jvm.Cond.fieldLink "DelegationClosure$Chain" (86 : Nat) "DelegationClosure$Permission" "issuer" "I") ∈ gW := gW_t 188 rfl (by decide +kernel)
theorem wd_189 : (Jvm.Cond.fieldLink "DelegationClosure" (121 : Nat) "DelegationClosure$Permission" "issuer" "I") ∈ gW := gW_t 189 rfl (by decide +kernel)
theorem wd_190 : (Jvm.Cond.fieldLink "DelegationClosure$Certificate" (22 : Nat) "DelegationClosure$Certificate" "times" "LDelegationClosure$Span;") ∈ gW := gW_t 190 rfl (by decide +kernel)
theorem wd_191 : (Jvm.Cond.fieldLink "DelegationClosure$Leads" (32 : Nat) "DelegationClosure$Permission" "times" "LDelegationClosure$Span;") ∈ gW := gW_t 191 rfl (by decide +kernel)
theorem wd_192 : (Jvm.Cond.sameField "DelegationClosure$Permission" "DelegationClosure$Certificate" "times" "LDelegationClosure$Span;") ∈ gW := gW_t 192 rfl (by decide +kernel)
theorem wd_193 : (Jvm.Cond.fieldLink "DelegationClosure$Chain" (58 : Nat) "DelegationClosure$Permission" "times" "LDelegationClosure$Span;") ∈ gW := gW_t 193 rfl (by decide +kernel)
theorem wd_194 : (Jvm.Cond.fieldLink "DelegationClosure$Meanings" (37 : Nat) "DelegationClosure$Naming" "times" "LDelegationClosure$Span;") ∈ gW := gW_t 194 rfl (by decide +kernel)
theorem wd_195 : (Jvm.Cond.sameField "DelegationClosure$Naming" "DelegationClosure$Certificate" "times" "LDelegationClosure$Span;") ∈ gW := gW_t 195 rfl (by decide +kernel)
theorem wd_196 : (Jvm.Cond.fieldLink "DelegationClosure$Chain" (82 : Nat) "DelegationClosure$Naming" "times" "LDelegationClosure$Span;") ∈ gW := gW_t 196 rfl (by decide +kernel)
theorem wd_197 : (Jvm.Cond.fieldLink "DelegationClosure$Certificate" (7 : Nat) "DelegationClosure$Certificate" "revoked" "Z") ∈ gW := gW_t 197 rfl (by decide +kernel)
theorem wd_198 : (Jvm.Cond.fieldLink "DelegationClosure$Register" (25 : Nat) "DelegationClosure$Certificate" "revoked" "Z") ∈ gW := gW_t 198 rfl (by decide +kernel)
theorem wd_199 : (Jvm.Cond.fieldLink "DelegationClosure" (91 : Nat) "DelegationClosure$Certificate" "revoked" "Z") ∈ gW := gW_t 199 rfl (by decide +kernel)
theorem wd_200 : (Jvm.Cond.laysFinal "DelegationClosure$Naming" "DelegationClosure$Naming" "name" "I") ∈ gW := gW_t 200 rfl (by decide +kernel)
theorem wd_202 : (Jvm.Cond.laysFinal "DelegationClosure$Naming" "DelegationClosure$Naming" "subject" "I") ∈ gW := gW_t 202 rfl (by decide +kernel)
theorem wd_204 : (Jvm.Cond.laysFinal "DelegationClosure$Naming" "DelegationClosure$Certificate" "issuer" "I") ∈ gW := gW_t 204 rfl (by decide +kernel)
theorem wd_206 : (Jvm.Cond.laysFinal "DelegationClosure$Naming" "DelegationClosure$Certificate" "times" "LDelegationClosure$Span;") ∈ gW := gW_t 206 rfl (by decide +kernel)
theorem wd_208 : (Jvm.Cond.lays "DelegationClosure$Naming" "DelegationClosure$Certificate" "revoked" "Z") ∈ gW := gW_t 208 rfl (by decide +kernel)
theorem wd_211 : (Jvm.Cond.methodLink "DelegationClosure" (53 : Nat) ({ cls := "DelegationClosure$Register", name := "add", desc := "(LDelegationClosure$Certificate;)I" } : Jvm.MethodName)) ∈ gW := gW_t 211 rfl (by decide +kernel)
theorem wd_212 : (Jvm.Cond.instanceMethod ({ cls := "DelegationClosure$Register", name := "add", desc := "(LDelegationClosure$Certificate;)I" } : Jvm.MethodName)) ∈ gW := gW_t 212 rfl (by decide +kernel)
theorem wd_213 : (Jvm.Cond.selects "DelegationClosure$Register" ({ cls := "DelegationClosure$Register", name := "add", desc := "(LDelegationClosure$Certificate;)I" } : Jvm.MethodName) ({ cls := "DelegationClosure$Register", name := "add", desc := "(LDelegationClosure$Certificate;)I" } : Jvm.MethodName)) ∈ gW := gW_t 213 rfl (by decide +kernel)
theorem wd_215 : (Jvm.Cond.methodLink "DelegationClosure$Register" (21 : Nat) ({ cls := "DelegationClosure$Register", name := "isFull", desc := "()Z" } : Jvm.MethodName)) ∈ gW := gW_t 215 rfl (by decide +kernel)
theorem wd_216 : (Jvm.Cond.methodLink "DelegationClosureLaw" (18 : Nat) ({ cls := "DelegationClosure", name := "permit", desc := "(IIZII)I" } : Jvm.MethodName)) ∈ gW := gW_t 216 rfl (by decide +kernel)
theorem wd_217 : (Jvm.Cond.instanceMethod ({ cls := "DelegationClosure", name := "permit", desc := "(IIZII)I" } : Jvm.MethodName)) ∈ gW := gW_t 217 rfl (by decide +kernel)
theorem wd_218 : (Jvm.Cond.selects "DelegationClosure" ({ cls := "DelegationClosure", name := "permit", desc := "(IIZII)I" } : Jvm.MethodName) ({ cls := "DelegationClosure", name := "permit", desc := "(IIZII)I" } : Jvm.MethodName)) ∈ gW := gW_t 218 rfl (by decide +kernel)
theorem wd_220 : (Jvm.Cond.classLink "DelegationClosure" (57 : Nat) "DelegationClosure$Permission") ∈ gW := gW_t 220 rfl (by decide +kernel)
theorem wd_221 : (Jvm.Cond.instantiable "DelegationClosure$Permission" (8 : Nat)) ∈ gW := gW_t 221 rfl (by decide +kernel)
theorem wd_222 : (Jvm.Cond.methodLink "DelegationClosure" (59 : Nat) ({ cls := "DelegationClosure$Permission", name := "<init>", desc := "(IIZII)V" } : Jvm.MethodName)) ∈ gW := gW_t 222 rfl (by decide +kernel)
theorem wd_223 : (Jvm.Cond.instanceMethod ({ cls := "DelegationClosure$Permission", name := "<init>", desc := "(IIZII)V" } : Jvm.MethodName)) ∈ gW := gW_t 223 rfl (by decide +kernel)
theorem wd_225 : (Jvm.Cond.methodLink "DelegationClosure$Permission" (3 : Nat) ({ cls := "DelegationClosure$Certificate", name := "<init>", desc := "(III)V" } : Jvm.MethodName)) ∈ gW := gW_t 225 rfl (by decide +kernel)
theorem wd_226 : (Jvm.Cond.classLink "DelegationClosure$Permission" (15 : Nat) "DelegationClosure$Tag") ∈ gW := gW_t 226 rfl (by decide +kernel)
theorem nw_227 : (Jvm.Cond.methodLinkNest "DelegationClosure$Permission" (17 : Nat) ({ cls := "DelegationClosure$Tag", name := "<init>", desc := "()V" } : Jvm.MethodName) "DelegationClosure") ∈ lw_tbl := List.mem_append_right _ (List.mem_of_getElem? (i := 227) rfl)
theorem wd_228 : (Jvm.Cond.fieldLink "DelegationClosure$Permission" (9 : Nat) "DelegationClosure$Permission" "subjects" "[I") ∈ gW := gW_t 228 rfl (by decide +kernel)
theorem wd_229 : (Jvm.Cond.fieldLink "DelegationClosure$Chain" (45 : Nat) "DelegationClosure$Permission" "subjects" "[I") ∈ gW := gW_t 229 rfl (by decide +kernel)
theorem wd_230 : (Jvm.Cond.fieldLink "DelegationClosure$Leads" (71 : Nat) "DelegationClosure$Permission" "subjects" "[I") ∈ gW := gW_t 230 rfl (by decide +kernel)
theorem wd_231 : (Jvm.Cond.fieldLink "DelegationClosure$Permission" (20 : Nat) "DelegationClosure$Permission" "tag" "LDelegationClosure$Tag;") ∈ gW := gW_t 231 rfl (by decide +kernel)
theorem wd_232 : (Jvm.Cond.fieldLink "DelegationClosure$Leads" (44 : Nat) "DelegationClosure$Permission" "tag" "LDelegationClosure$Tag;") ∈ gW := gW_t 232 rfl (by decide +kernel)
theorem wd_233 : (Jvm.Cond.fieldLink "DelegationClosure$Chain" (53 : Nat) "DelegationClosure$Permission" "tag" "LDelegationClosure$Tag;") ∈ gW := gW_t 233 rfl (by decide +kernel)
theorem wd_234 : (Jvm.Cond.fieldLink "DelegationClosure" (66 : Nat) "DelegationClosure$Permission" "tag" "LDelegationClosure$Tag;") ∈ gW := gW_t 234 rfl (by decide +kernel)
theorem wd_235 : (Jvm.Cond.fieldLink "DelegationClosure$Permission" (31 : Nat) "DelegationClosure$Permission" "delegates" "Z") ∈ gW := gW_t 235 rfl (by decide +kernel)
theorem wd_236 : (Jvm.Cond.fieldLink "DelegationClosure$Chain" (62 : Nat) "DelegationClosure$Permission" "delegates" "Z") ∈ gW := gW_t 236 rfl (by decide +kernel)
theorem wd_237 : (Jvm.Cond.fieldLink "DelegationClosure$Leads" (74 : Nat) "DelegationClosure$Permission" "delegates" "Z") ∈ gW := gW_t 237 rfl (by decide +kernel)
theorem wd_238 : (Jvm.Cond.fieldLink "DelegationClosure$Permission" (24 : Nat) "DelegationClosure$Permission" "size" "I") ∈ gW := gW_t 238 rfl (by decide +kernel)
theorem wd_239 : (Jvm.Cond.fieldLink "DelegationClosure$Leads" (70 : Nat) "DelegationClosure$Permission" "size" "I") ∈ gW := gW_t 239 rfl (by decide +kernel)
theorem wd_240 : (Jvm.Cond.fieldLink "DelegationClosure" (76 : Nat) "DelegationClosure$Permission" "size" "I") ∈ gW := gW_t 240 rfl (by decide +kernel)
theorem wd_241 : (Jvm.Cond.fieldLink "DelegationClosure$Chain" (87 : Nat) "DelegationClosure$Permission" "size" "I") ∈ gW := gW_t 241 rfl (by decide +kernel)
theorem wd_242 : (Jvm.Cond.fieldLink "DelegationClosure$Permission" (28 : Nat) "DelegationClosure$Permission" "quorum" "I") ∈ gW := gW_t 242 rfl (by decide +kernel)
theorem wd_243 : (Jvm.Cond.fieldLink "DelegationClosure$Leads" (86 : Nat) "DelegationClosure$Permission" "quorum" "I") ∈ gW := gW_t 243 rfl (by decide +kernel)
theorem wd_244 : (Jvm.Cond.fieldLink "DelegationClosure" (84 : Nat) "DelegationClosure$Permission" "quorum" "I") ∈ gW := gW_t 244 rfl (by decide +kernel)
theorem wd_245 : (Jvm.Cond.laysFinal "DelegationClosure$Permission" "DelegationClosure$Permission" "subjects" "[I") ∈ gW := gW_t 245 rfl (by decide +kernel)
theorem wd_247 : (Jvm.Cond.laysFinal "DelegationClosure$Permission" "DelegationClosure$Permission" "tag" "LDelegationClosure$Tag;") ∈ gW := gW_t 247 rfl (by decide +kernel)
theorem wd_249 : (Jvm.Cond.laysFinal "DelegationClosure$Permission" "DelegationClosure$Permission" "delegates" "Z") ∈ gW := gW_t 249 rfl (by decide +kernel)
theorem wd_251 : (Jvm.Cond.lays "DelegationClosure$Permission" "DelegationClosure$Permission" "size" "I") ∈ gW := gW_t 251 rfl (by decide +kernel)
theorem wd_253 : (Jvm.Cond.lays "DelegationClosure$Permission" "DelegationClosure$Permission" "quorum" "I") ∈ gW := gW_t 253 rfl (by decide +kernel)
theorem wd_255 : (Jvm.Cond.laysFinal "DelegationClosure$Permission" "DelegationClosure$Certificate" "issuer" "I") ∈ gW := gW_t 255 rfl (by decide +kernel)
theorem wd_256 : (Jvm.Cond.laysFinal "DelegationClosure$Permission" "DelegationClosure$Certificate" "times" "LDelegationClosure$Span;") ∈ gW := gW_t 256 rfl (by decide +kernel)
theorem wd_257 : (Jvm.Cond.lays "DelegationClosure$Permission" "DelegationClosure$Certificate" "revoked" "Z") ∈ gW := gW_t 257 rfl (by decide +kernel)
theorem wd_259 : (Jvm.Cond.methodLink "DelegationClosureLaw" (23 : Nat) ({ cls := "DelegationClosure", name := "tag", desc := "(IIII)Z" } : Jvm.MethodName)) ∈ gW := gW_t 259 rfl (by decide +kernel)
theorem wd_260 : (Jvm.Cond.instanceMethod ({ cls := "DelegationClosure", name := "tag", desc := "(IIII)Z" } : Jvm.MethodName)) ∈ gW := gW_t 260 rfl (by decide +kernel)
theorem wd_261 : (Jvm.Cond.selects "DelegationClosure" ({ cls := "DelegationClosure", name := "tag", desc := "(IIII)Z" } : Jvm.MethodName) ({ cls := "DelegationClosure", name := "tag", desc := "(IIII)Z" } : Jvm.MethodName)) ∈ gW := gW_t 261 rfl (by decide +kernel)
theorem wd_263 : (Jvm.Cond.methodLink "DelegationClosure" (62 : Nat) ({ cls := "DelegationClosure$Register", name := "permission", desc := "(I)LDelegationClosure$Permission;" } : Jvm.MethodName)) ∈ gW := gW_t 263 rfl (by decide +kernel)
theorem wd_264 : (Jvm.Cond.instanceMethod ({ cls := "DelegationClosure$Register", name := "permission", desc := "(I)LDelegationClosure$Permission;" } : Jvm.MethodName)) ∈ gW := gW_t 264 rfl (by decide +kernel)
theorem wd_265 : (Jvm.Cond.selects "DelegationClosure$Register" ({ cls := "DelegationClosure$Register", name := "permission", desc := "(I)LDelegationClosure$Permission;" } : Jvm.MethodName) ({ cls := "DelegationClosure$Register", name := "permission", desc := "(I)LDelegationClosure$Permission;" } : Jvm.MethodName)) ∈ gW := gW_t 265 rfl (by decide +kernel)
theorem wd_267 : (Jvm.Cond.methodLink "DelegationClosure$Register" (29 : Nat) ({ cls := "DelegationClosure$Register", name := "standing", desc := "(I)LDelegationClosure$Certificate;" } : Jvm.MethodName)) ∈ gW := gW_t 267 rfl (by decide +kernel)
theorem wd_268 : (Jvm.Cond.instanceMethod ({ cls := "DelegationClosure$Register", name := "standing", desc := "(I)LDelegationClosure$Certificate;" } : Jvm.MethodName)) ∈ gW := gW_t 268 rfl (by decide +kernel)
theorem wd_269 : (Jvm.Cond.selects "DelegationClosure$Register" ({ cls := "DelegationClosure$Register", name := "standing", desc := "(I)LDelegationClosure$Certificate;" } : Jvm.MethodName) ({ cls := "DelegationClosure$Register", name := "standing", desc := "(I)LDelegationClosure$Certificate;" } : Jvm.MethodName)) ∈ gW := gW_t 269 rfl (by decide +kernel)
theorem wd_271 : (Jvm.Cond.classLink "DelegationClosure$Register" (33 : Nat) "DelegationClosure$Permission") ∈ gW := gW_t 271 rfl (by decide +kernel)
theorem wd_272 : (Jvm.Cond.methodLink "DelegationClosure" (70 : Nat) ({ cls := "DelegationClosure$Tag", name := "set", desc := "(III)V" } : Jvm.MethodName)) ∈ gW := gW_t 272 rfl (by decide +kernel)
theorem wd_273 : (Jvm.Cond.instanceMethod ({ cls := "DelegationClosure$Tag", name := "set", desc := "(III)V" } : Jvm.MethodName)) ∈ gW := gW_t 273 rfl (by decide +kernel)
theorem wd_274 : (Jvm.Cond.selects "DelegationClosure$Tag" ({ cls := "DelegationClosure$Tag", name := "set", desc := "(III)V" } : Jvm.MethodName) ({ cls := "DelegationClosure$Tag", name := "set", desc := "(III)V" } : Jvm.MethodName)) ∈ gW := gW_t 274 rfl (by decide +kernel)
theorem wd_276 : (Jvm.Cond.methodLink "DelegationClosure$Tag" (30 : Nat) ({ cls := "DelegationClosure$Span", name := "set", desc := "(II)V" } : Jvm.MethodName)) ∈ gW := gW_t 276 rfl (by decide +kernel)
theorem wd_277 : (Jvm.Cond.instanceMethod ({ cls := "DelegationClosure$Span", name := "set", desc := "(II)V" } : Jvm.MethodName)) ∈ gW := gW_t 277 rfl (by decide +kernel)
theorem wd_278 : (Jvm.Cond.selects "DelegationClosure$Span" ({ cls := "DelegationClosure$Span", name := "set", desc := "(II)V" } : Jvm.MethodName) ({ cls := "DelegationClosure$Span", name := "set", desc := "(II)V" } : Jvm.MethodName)) ∈ gW := gW_t 278 rfl (by decide +kernel)
theorem wd_280 : (Jvm.Cond.methodLink "DelegationClosureLaw" (28 : Nat) ({ cls := "DelegationClosure", name := "also", desc := "(II)I" } : Jvm.MethodName)) ∈ gW := gW_t 280 rfl (by decide +kernel)
theorem wd_281 : (Jvm.Cond.instanceMethod ({ cls := "DelegationClosure", name := "also", desc := "(II)I" } : Jvm.MethodName)) ∈ gW := gW_t 281 rfl (by decide +kernel)
theorem wd_282 : (Jvm.Cond.selects "DelegationClosure" ({ cls := "DelegationClosure", name := "also", desc := "(II)I" } : Jvm.MethodName) ({ cls := "DelegationClosure", name := "also", desc := "(II)I" } : Jvm.MethodName)) ∈ gW := gW_t 282 rfl (by decide +kernel)
theorem wd_284 : (Jvm.Cond.methodLink "DelegationClosure" (80 : Nat) ({ cls := "DelegationClosure$Permission", name := "addSubject", desc := "(I)V" } : Jvm.MethodName)) ∈ gW := gW_t 284 rfl (by decide +kernel)
theorem wd_285 : (Jvm.Cond.instanceMethod ({ cls := "DelegationClosure$Permission", name := "addSubject", desc := "(I)V" } : Jvm.MethodName)) ∈ gW := gW_t 285 rfl (by decide +kernel)
theorem wd_286 : (Jvm.Cond.selects "DelegationClosure$Permission" ({ cls := "DelegationClosure$Permission", name := "addSubject", desc := "(I)V" } : Jvm.MethodName) ({ cls := "DelegationClosure$Permission", name := "addSubject", desc := "(I)V" } : Jvm.MethodName)) ∈ gW := gW_t 286 rfl (by decide +kernel)
theorem wd_288 : (Jvm.Cond.methodLink "DelegationClosureLaw" (33 : Nat) ({ cls := "DelegationClosure", name := "quorum", desc := "(II)Z" } : Jvm.MethodName)) ∈ gW := gW_t 288 rfl (by decide +kernel)
theorem wd_289 : (Jvm.Cond.instanceMethod ({ cls := "DelegationClosure", name := "quorum", desc := "(II)Z" } : Jvm.MethodName)) ∈ gW := gW_t 289 rfl (by decide +kernel)
theorem wd_290 : (Jvm.Cond.selects "DelegationClosure" ({ cls := "DelegationClosure", name := "quorum", desc := "(II)Z" } : Jvm.MethodName) ({ cls := "DelegationClosure", name := "quorum", desc := "(II)Z" } : Jvm.MethodName)) ∈ gW := gW_t 290 rfl (by decide +kernel)
theorem wd_292 : (Jvm.Cond.methodLink "DelegationClosureLaw" (38 : Nat) ({ cls := "DelegationClosure", name := "revoke", desc := "(I)Z" } : Jvm.MethodName)) ∈ gW := gW_t 292 rfl (by decide +kernel)
theorem wd_293 : (Jvm.Cond.instanceMethod ({ cls := "DelegationClosure", name := "revoke", desc := "(I)Z" } : Jvm.MethodName)) ∈ gW := gW_t 293 rfl (by decide +kernel)
theorem wd_294 : (Jvm.Cond.selects "DelegationClosure" ({ cls := "DelegationClosure", name := "revoke", desc := "(I)Z" } : Jvm.MethodName) ({ cls := "DelegationClosure", name := "revoke", desc := "(I)Z" } : Jvm.MethodName)) ∈ gW := gW_t 294 rfl (by decide +kernel)
theorem wd_296 : (Jvm.Cond.methodLink "DelegationClosure" (87 : Nat) ({ cls := "DelegationClosure$Register", name := "standing", desc := "(I)LDelegationClosure$Certificate;" } : Jvm.MethodName)) ∈ gW := gW_t 296 rfl (by decide +kernel)
theorem wd_297 : (Jvm.Cond.methodLink "DelegationClosureLaw" (43 : Nat) ({ cls := "DelegationClosure", name := "certificates", desc := "()I" } : Jvm.MethodName)) ∈ gW := gW_t 297 rfl (by decide +kernel)
theorem wd_298 : (Jvm.Cond.instanceMethod ({ cls := "DelegationClosure", name := "certificates", desc := "()I" } : Jvm.MethodName)) ∈ gW := gW_t 298 rfl (by decide +kernel)
theorem wd_299 : (Jvm.Cond.selects "DelegationClosure" ({ cls := "DelegationClosure", name := "certificates", desc := "()I" } : Jvm.MethodName) ({ cls := "DelegationClosure", name := "certificates", desc := "()I" } : Jvm.MethodName)) ∈ gW := gW_t 299 rfl (by decide +kernel)
theorem wd_301 : (Jvm.Cond.methodLink "DelegationClosureLaw" (48 : Nat) ({ cls := "DelegationClosure", name := "meant", desc := "(II)I" } : Jvm.MethodName)) ∈ gW := gW_t 301 rfl (by decide +kernel)
theorem wd_302 : (Jvm.Cond.instanceMethod ({ cls := "DelegationClosure", name := "meant", desc := "(II)I" } : Jvm.MethodName)) ∈ gW := gW_t 302 rfl (by decide +kernel)
theorem wd_303 : (Jvm.Cond.selects "DelegationClosure" ({ cls := "DelegationClosure", name := "meant", desc := "(II)I" } : Jvm.MethodName) ({ cls := "DelegationClosure", name := "meant", desc := "(II)I" } : Jvm.MethodName)) ∈ gW := gW_t 303 rfl (by decide +kernel)
theorem wd_305 : (Jvm.Cond.methodLink "DelegationClosure" (98 : Nat) ({ cls := "DelegationClosure$Meanings", name := "workOut", desc := "(LDelegationClosure$Register;I)V" } : Jvm.MethodName)) ∈ gW := gW_t 305 rfl (by decide +kernel)
theorem wd_306 : (Jvm.Cond.instanceMethod ({ cls := "DelegationClosure$Meanings", name := "workOut", desc := "(LDelegationClosure$Register;I)V" } : Jvm.MethodName)) ∈ gW := gW_t 306 rfl (by decide +kernel)
theorem wd_307 : (Jvm.Cond.selects "DelegationClosure$Meanings" ({ cls := "DelegationClosure$Meanings", name := "workOut", desc := "(LDelegationClosure$Register;I)V" } : Jvm.MethodName) ({ cls := "DelegationClosure$Meanings", name := "workOut", desc := "(LDelegationClosure$Register;I)V" } : Jvm.MethodName)) ∈ gW := gW_t 307 rfl (by decide +kernel)
theorem wd_309 : (Jvm.Cond.methodLink "DelegationClosure$Meanings" (15 : Nat) ({ cls := "java/util/Arrays", name := "fill", desc := "([II)V" } : Jvm.MethodName)) ∈ gW := gW_t 309 rfl (by decide +kernel)
theorem wd_310 : (Jvm.Cond.static ({ cls := "java/util/Arrays", name := "fill", desc := "([II)V" } : Jvm.MethodName)) ∈ gW := gW_t 310 rfl (by decide +kernel)
theorem wd_312 : (Jvm.Cond.methodLink "DelegationClosure$Meanings" (21 : Nat) ({ cls := "DelegationClosure$Meanings", name := "improve", desc := "(LDelegationClosure$Register;I)Z" } : Jvm.MethodName)) ∈ gW := gW_t 312 rfl (by decide +kernel)
theorem wd_314 : (Jvm.Cond.instanceMethod ({ cls := "DelegationClosure$Meanings", name := "improve", desc := "(LDelegationClosure$Register;I)Z" } : Jvm.MethodName)) ∈ gW := gW_t 314 rfl (by decide +kernel)
theorem wd_316 : (Jvm.Cond.methodLink "DelegationClosure$Meanings" (31 : Nat) ({ cls := "DelegationClosure$Register", name := "standing", desc := "(I)LDelegationClosure$Certificate;" } : Jvm.MethodName)) ∈ gW := gW_t 316 rfl (by decide +kernel)
theorem wd_317 : (Jvm.Cond.classLink "DelegationClosure$Meanings" (35 : Nat) "DelegationClosure$Naming") ∈ gW := gW_t 317 rfl (by decide +kernel)
theorem wd_318 : (Jvm.Cond.methodLink "DelegationClosure$Meanings" (41 : Nat) ({ cls := "DelegationClosure$Span", name := "contains", desc := "(I)Z" } : Jvm.MethodName)) ∈ gW := gW_t 318 rfl (by decide +kernel)
theorem wd_319 : (Jvm.Cond.instanceMethod ({ cls := "DelegationClosure$Span", name := "contains", desc := "(I)Z" } : Jvm.MethodName)) ∈ gW := gW_t 319 rfl (by decide +kernel)
theorem wd_320 : (Jvm.Cond.selects "DelegationClosure$Span" ({ cls := "DelegationClosure$Span", name := "contains", desc := "(I)Z" } : Jvm.MethodName) ({ cls := "DelegationClosure$Span", name := "contains", desc := "(I)Z" } : Jvm.MethodName)) ∈ gW := gW_t 320 rfl (by decide +kernel)
theorem wd_322 : (Jvm.Cond.methodLink "DelegationClosure$Meanings" (47 : Nat) ({ cls := "DelegationClosure$Meanings", name := "improveBy", desc := "(LDelegationClosure$Naming;)Z" } : Jvm.MethodName)) ∈ gW := gW_t 322 rfl (by decide +kernel)
theorem wd_324 : (Jvm.Cond.instanceMethod ({ cls := "DelegationClosure$Meanings", name := "improveBy", desc := "(LDelegationClosure$Naming;)Z" } : Jvm.MethodName)) ∈ gW := gW_t 324 rfl (by decide +kernel)
theorem wd_326 : (Jvm.Cond.methodLink "DelegationClosure$Meanings" (57 : Nat) ({ cls := "DelegationClosure$Meanings", name := "placeOf", desc := "(III)I" } : Jvm.MethodName)) ∈ gW := gW_t 326 rfl (by decide +kernel)
theorem wd_327 : (Jvm.Cond.static ({ cls := "DelegationClosure$Meanings", name := "placeOf", desc := "(III)I" } : Jvm.MethodName)) ∈ gW := gW_t 327 rfl (by decide +kernel)
theorem wd_329 : (Jvm.Cond.methodLink "DelegationClosure$Meanings" (64 : Nat) ({ cls := "DelegationClosure$Meanings", name := "ofSubject", desc := "(II)I" } : Jvm.MethodName)) ∈ gW := gW_t 329 rfl (by decide +kernel)
theorem wd_330 : (Jvm.Cond.instanceMethod ({ cls := "DelegationClosure$Meanings", name := "ofSubject", desc := "(II)I" } : Jvm.MethodName)) ∈ gW := gW_t 330 rfl (by decide +kernel)
theorem wd_331 : (Jvm.Cond.selects "DelegationClosure$Meanings" ({ cls := "DelegationClosure$Meanings", name := "ofSubject", desc := "(II)I" } : Jvm.MethodName) ({ cls := "DelegationClosure$Meanings", name := "ofSubject", desc := "(II)I" } : Jvm.MethodName)) ∈ gW := gW_t 331 rfl (by decide +kernel)
theorem nw_333 : (Jvm.Cond.methodLinkNest "DelegationClosure$Meanings" (71 : Nat) ({ cls := "DelegationClosure", name := "keyOf", desc := "(I)I" } : Jvm.MethodName) "DelegationClosure") ∈ lw_tbl := List.mem_append_right _ (List.mem_of_getElem? (i := 333) rfl)
theorem wd_334 : (Jvm.Cond.static ({ cls := "DelegationClosure", name := "keyOf", desc := "(I)I" } : Jvm.MethodName)) ∈ gW := gW_t 334 rfl (by decide +kernel)
theorem nw_336 : (Jvm.Cond.methodLinkNest "DelegationClosure$Meanings" (75 : Nat) ({ cls := "DelegationClosure", name := "firstNameOf", desc := "(I)I" } : Jvm.MethodName) "DelegationClosure") ∈ lw_tbl := List.mem_append_right _ (List.mem_of_getElem? (i := 336) rfl)
theorem nw_337 : (Jvm.Cond.methodLinkNest "DelegationClosure$Meanings" (78 : Nat) ({ cls := "DelegationClosure", name := "secondNameOf", desc := "(I)I" } : Jvm.MethodName) "DelegationClosure") ∈ lw_tbl := List.mem_append_right _ (List.mem_of_getElem? (i := 337) rfl)
theorem nw_338 : (Jvm.Cond.methodLinkNest "DelegationClosure$Meanings" (68 : Nat) ({ cls := "DelegationClosure", name := "sumOf", desc := "(II)I" } : Jvm.MethodName) "DelegationClosure") ∈ lw_tbl := List.mem_append_right _ (List.mem_of_getElem? (i := 338) rfl)
theorem wd_339 : (Jvm.Cond.static ({ cls := "DelegationClosure", name := "sumOf", desc := "(II)I" } : Jvm.MethodName)) ∈ gW := gW_t 339 rfl (by decide +kernel)
theorem wd_341 : (Jvm.Cond.methodLink "DelegationClosure$Meanings" (81 : Nat) ({ cls := "java/lang/Math", name := "min", desc := "(II)I" } : Jvm.MethodName)) ∈ gW := gW_t 341 rfl (by decide +kernel)
theorem wd_342 : (Jvm.Cond.static ({ cls := "java/lang/Math", name := "min", desc := "(II)I" } : Jvm.MethodName)) ∈ gW := gW_t 342 rfl (by decide +kernel)
theorem wd_344 : (Jvm.Cond.methodLink "DelegationClosure" (102 : Nat) ({ cls := "DelegationClosure$Meanings", name := "ofSubject", desc := "(II)I" } : Jvm.MethodName)) ∈ gW := gW_t 344 rfl (by decide +kernel)
theorem wd_345 : (Jvm.Cond.methodLink "DelegationClosureLaw" (52 : Nat) ({ cls := "DelegationClosure", name := "cost", desc := "(III)I" } : Jvm.MethodName)) ∈ gW := gW_t 345 rfl (by decide +kernel)
theorem wd_346 : (Jvm.Cond.instanceMethod ({ cls := "DelegationClosure", name := "cost", desc := "(III)I" } : Jvm.MethodName)) ∈ gW := gW_t 346 rfl (by decide +kernel)
theorem wd_347 : (Jvm.Cond.selects "DelegationClosure" ({ cls := "DelegationClosure", name := "cost", desc := "(III)I" } : Jvm.MethodName) ({ cls := "DelegationClosure", name := "cost", desc := "(III)I" } : Jvm.MethodName)) ∈ gW := gW_t 347 rfl (by decide +kernel)
theorem wd_349 : (Jvm.Cond.methodLink "DelegationClosure" (106 : Nat) ({ cls := "DelegationClosure", name := "costOrNone", desc := "(I)I" } : Jvm.MethodName)) ∈ gW := gW_t 349 rfl (by decide +kernel)
theorem wd_350 : (Jvm.Cond.static ({ cls := "DelegationClosure", name := "costOrNone", desc := "(I)I" } : Jvm.MethodName)) ∈ gW := gW_t 350 rfl (by decide +kernel)
theorem wd_352 : (Jvm.Cond.methodLink "DelegationClosureLaw" (57 : Nat) ({ cls := "DelegationClosure", name := "may", desc := "(IIII)I" } : Jvm.MethodName)) ∈ gW := gW_t 352 rfl (by decide +kernel)
theorem wd_353 : (Jvm.Cond.instanceMethod ({ cls := "DelegationClosure", name := "may", desc := "(IIII)I" } : Jvm.MethodName)) ∈ gW := gW_t 353 rfl (by decide +kernel)
theorem wd_354 : (Jvm.Cond.selects "DelegationClosure" ({ cls := "DelegationClosure", name := "may", desc := "(IIII)I" } : Jvm.MethodName) ({ cls := "DelegationClosure", name := "may", desc := "(IIII)I" } : Jvm.MethodName)) ∈ gW := gW_t 354 rfl (by decide +kernel)
theorem wd_356 : (Jvm.Cond.methodLink "DelegationClosure" (110 : Nat) ({ cls := "DelegationClosure", name := "isOperation", desc := "(I)Z" } : Jvm.MethodName)) ∈ gW := gW_t 356 rfl (by decide +kernel)
theorem wd_357 : (Jvm.Cond.static ({ cls := "DelegationClosure", name := "isOperation", desc := "(I)Z" } : Jvm.MethodName)) ∈ gW := gW_t 357 rfl (by decide +kernel)
theorem wd_359 : (Jvm.Cond.methodLink "DelegationClosure" (113 : Nat) ({ cls := "DelegationClosure$Leads", name := "mark", desc := "(LDelegationClosure$Register;III)V" } : Jvm.MethodName)) ∈ gW := gW_t 359 rfl (by decide +kernel)
theorem wd_360 : (Jvm.Cond.instanceMethod ({ cls := "DelegationClosure$Leads", name := "mark", desc := "(LDelegationClosure$Register;III)V" } : Jvm.MethodName)) ∈ gW := gW_t 360 rfl (by decide +kernel)
theorem wd_361 : (Jvm.Cond.selects "DelegationClosure$Leads" ({ cls := "DelegationClosure$Leads", name := "mark", desc := "(LDelegationClosure$Register;III)V" } : Jvm.MethodName) ({ cls := "DelegationClosure$Leads", name := "mark", desc := "(LDelegationClosure$Register;III)V" } : Jvm.MethodName)) ∈ gW := gW_t 361 rfl (by decide +kernel)
theorem wd_363 : (Jvm.Cond.methodLink "DelegationClosure$Leads" (28 : Nat) ({ cls := "DelegationClosure$Register", name := "permission", desc := "(I)LDelegationClosure$Permission;" } : Jvm.MethodName)) ∈ gW := gW_t 363 rfl (by decide +kernel)
theorem wd_364 : (Jvm.Cond.methodLink "DelegationClosure$Leads" (38 : Nat) ({ cls := "DelegationClosure$Span", name := "contains", desc := "(I)Z" } : Jvm.MethodName)) ∈ gW := gW_t 364 rfl (by decide +kernel)
theorem wd_365 : (Jvm.Cond.methodLink "DelegationClosure$Leads" (48 : Nat) ({ cls := "DelegationClosure$Tag", name := "contains", desc := "(II)Z" } : Jvm.MethodName)) ∈ gW := gW_t 365 rfl (by decide +kernel)
theorem wd_366 : (Jvm.Cond.instanceMethod ({ cls := "DelegationClosure$Tag", name := "contains", desc := "(II)Z" } : Jvm.MethodName)) ∈ gW := gW_t 366 rfl (by decide +kernel)
theorem wd_367 : (Jvm.Cond.selects "DelegationClosure$Tag" ({ cls := "DelegationClosure$Tag", name := "contains", desc := "(II)Z" } : Jvm.MethodName) ({ cls := "DelegationClosure$Tag", name := "contains", desc := "(II)Z" } : Jvm.MethodName)) ∈ gW := gW_t 367 rfl (by decide +kernel)
theorem wd_369 : (Jvm.Cond.methodLink "DelegationClosure$Tag" (26 : Nat) ({ cls := "DelegationClosure$Span", name := "contains", desc := "(I)Z" } : Jvm.MethodName)) ∈ gW := gW_t 369 rfl (by decide +kernel)
theorem wd_370 : (Jvm.Cond.methodLink "DelegationClosure" (117 : Nat) ({ cls := "DelegationClosure$Leads", name := "fromOwner", desc := "(LDelegationClosure$Register;LDelegationClosure$Meanings;I)I" } : Jvm.MethodName)) ∈ gW := gW_t 370 rfl (by decide +kernel)
theorem wd_371 : (Jvm.Cond.instanceMethod ({ cls := "DelegationClosure$Leads", name := "fromOwner", desc := "(LDelegationClosure$Register;LDelegationClosure$Meanings;I)I" } : Jvm.MethodName)) ∈ gW := gW_t 371 rfl (by decide +kernel)
theorem wd_372 : (Jvm.Cond.selects "DelegationClosure$Leads" ({ cls := "DelegationClosure$Leads", name := "fromOwner", desc := "(LDelegationClosure$Register;LDelegationClosure$Meanings;I)I" } : Jvm.MethodName) ({ cls := "DelegationClosure$Leads", name := "fromOwner", desc := "(LDelegationClosure$Register;LDelegationClosure$Meanings;I)I" } : Jvm.MethodName)) ∈ gW := gW_t 372 rfl (by decide +kernel)
theorem wd_374 : (Jvm.Cond.methodLink "DelegationClosure$Leads" (53 : Nat) ({ cls := "java/util/Arrays", name := "fill", desc := "([II)V" } : Jvm.MethodName)) ∈ gW := gW_t 374 rfl (by decide +kernel)
theorem wd_375 : (Jvm.Cond.methodLink "DelegationClosure$Leads" (59 : Nat) ({ cls := "DelegationClosure$Leads", name := "improve", desc := "(LDelegationClosure$Register;LDelegationClosure$Meanings;I)Z" } : Jvm.MethodName)) ∈ gW := gW_t 375 rfl (by decide +kernel)
theorem wd_377 : (Jvm.Cond.instanceMethod ({ cls := "DelegationClosure$Leads", name := "improve", desc := "(LDelegationClosure$Register;LDelegationClosure$Meanings;I)Z" } : Jvm.MethodName)) ∈ gW := gW_t 377 rfl (by decide +kernel)
theorem wd_379 : (Jvm.Cond.methodLink "DelegationClosure$Leads" (63 : Nat) ({ cls := "DelegationClosure$Leads", name := "byCertificate", desc := "(LDelegationClosure$Meanings;LDelegationClosure$Permission;I)I" } : Jvm.MethodName)) ∈ gW := gW_t 379 rfl (by decide +kernel)
theorem wd_381 : (Jvm.Cond.instanceMethod ({ cls := "DelegationClosure$Leads", name := "byCertificate", desc := "(LDelegationClosure$Meanings;LDelegationClosure$Permission;I)I" } : Jvm.MethodName)) ∈ gW := gW_t 381 rfl (by decide +kernel)
theorem wd_383 : (Jvm.Cond.methodLink "DelegationClosure$Leads" (78 : Nat) ({ cls := "DelegationClosure$Leads", name := "bySubject", desc := "(LDelegationClosure$Meanings;IZI)I" } : Jvm.MethodName)) ∈ gW := gW_t 383 rfl (by decide +kernel)
theorem wd_385 : (Jvm.Cond.instanceMethod ({ cls := "DelegationClosure$Leads", name := "bySubject", desc := "(LDelegationClosure$Meanings;IZI)I" } : Jvm.MethodName)) ∈ gW := gW_t 385 rfl (by decide +kernel)
theorem wd_387 : (Jvm.Cond.methodLink "DelegationClosure$Leads" (93 : Nat) ({ cls := "DelegationClosure$Meanings", name := "ofSubject", desc := "(II)I" } : Jvm.MethodName)) ∈ gW := gW_t 387 rfl (by decide +kernel)
theorem nw_388 : (Jvm.Cond.methodLinkNest "DelegationClosure$Leads" (89 : Nat) ({ cls := "DelegationClosure", name := "sumOf", desc := "(II)I" } : Jvm.MethodName) "DelegationClosure") ∈ lw_tbl := List.mem_append_right _ (List.mem_of_getElem? (i := 388) rfl)
theorem wd_389 : (Jvm.Cond.methodLink "DelegationClosure$Leads" (98 : Nat) ({ cls := "java/lang/Math", name := "min", desc := "(II)I" } : Jvm.MethodName)) ∈ gW := gW_t 389 rfl (by decide +kernel)
theorem wd_390 : (Jvm.Cond.methodLink "DelegationClosure$Leads" (82 : Nat) ({ cls := "DelegationClosure$Leads", name := "sortIn", desc := "(II)V" } : Jvm.MethodName)) ∈ gW := gW_t 390 rfl (by decide +kernel)
theorem wd_392 : (Jvm.Cond.instanceMethod ({ cls := "DelegationClosure$Leads", name := "sortIn", desc := "(II)V" } : Jvm.MethodName)) ∈ gW := gW_t 392 rfl (by decide +kernel)
theorem wd_394 : (Jvm.Cond.methodLink "DelegationClosureLaw" (62 : Nat) ({ cls := "DelegationClosure", name := "holders", desc := "(III)I" } : Jvm.MethodName)) ∈ gW := gW_t 394 rfl (by decide +kernel)
theorem wd_395 : (Jvm.Cond.instanceMethod ({ cls := "DelegationClosure", name := "holders", desc := "(III)I" } : Jvm.MethodName)) ∈ gW := gW_t 395 rfl (by decide +kernel)
theorem wd_396 : (Jvm.Cond.selects "DelegationClosure" ({ cls := "DelegationClosure", name := "holders", desc := "(III)I" } : Jvm.MethodName) ({ cls := "DelegationClosure", name := "holders", desc := "(III)I" } : Jvm.MethodName)) ∈ gW := gW_t 396 rfl (by decide +kernel)
theorem wd_398 : (Jvm.Cond.methodLink "DelegationClosureLaw" (66 : Nat) ({ cls := "DelegationClosure", name := "begin", desc := "(I)Z" } : Jvm.MethodName)) ∈ gW := gW_t 398 rfl (by decide +kernel)
theorem wd_399 : (Jvm.Cond.instanceMethod ({ cls := "DelegationClosure", name := "begin", desc := "(I)Z" } : Jvm.MethodName)) ∈ gW := gW_t 399 rfl (by decide +kernel)
end
section
theorem wd_400 : (Jvm.Cond.selects "DelegationClosure" ({ cls := "DelegationClosure", name := "begin", desc := "(I)Z" } : Jvm.MethodName) ({ cls := "DelegationClosure", name := "begin", desc := "(I)Z" } : Jvm.MethodName)) ∈ gW := gW_t 400 rfl (by decide +kernel)
theorem wd_402 : (Jvm.Cond.methodLink "DelegationClosure" (124 : Nat) ({ cls := "DelegationClosure$Chain", name := "start", desc := "(LDelegationClosure$Permission;)V" } : Jvm.MethodName)) ∈ gW := gW_t 402 rfl (by decide +kernel)
theorem wd_403 : (Jvm.Cond.instanceMethod ({ cls := "DelegationClosure$Chain", name := "start", desc := "(LDelegationClosure$Permission;)V" } : Jvm.MethodName)) ∈ gW := gW_t 403 rfl (by decide +kernel)
theorem wd_404 : (Jvm.Cond.selects "DelegationClosure$Chain" ({ cls := "DelegationClosure$Chain", name := "start", desc := "(LDelegationClosure$Permission;)V" } : Jvm.MethodName) ({ cls := "DelegationClosure$Chain", name := "start", desc := "(LDelegationClosure$Permission;)V" } : Jvm.MethodName)) ∈ gW := gW_t 404 rfl (by decide +kernel)
theorem wd_406 : (Jvm.Cond.methodLink "DelegationClosure$Chain" (50 : Nat) ({ cls := "DelegationClosure$Chain", name := "putAhead", desc := "(II)V" } : Jvm.MethodName)) ∈ gW := gW_t 406 rfl (by decide +kernel)
theorem wd_408 : (Jvm.Cond.instanceMethod ({ cls := "DelegationClosure$Chain", name := "putAhead", desc := "(II)V" } : Jvm.MethodName)) ∈ gW := gW_t 408 rfl (by decide +kernel)
theorem nw_410 : (Jvm.Cond.methodLinkNest "DelegationClosure$Chain" (78 : Nat) ({ cls := "DelegationClosure", name := "namesIn", desc := "(I)I" } : Jvm.MethodName) "DelegationClosure") ∈ lw_tbl := List.mem_append_right _ (List.mem_of_getElem? (i := 410) rfl)
theorem wd_411 : (Jvm.Cond.static ({ cls := "DelegationClosure", name := "namesIn", desc := "(I)I" } : Jvm.MethodName)) ∈ gW := gW_t 411 rfl (by decide +kernel)
theorem wd_413 : (Jvm.Cond.methodLink "DelegationClosure$Chain" (97 : Nat) ({ cls := "java/lang/System", name := "arraycopy", desc := "(Ljava/lang/Object;ILjava/lang/Object;II)V" } : Jvm.MethodName)) ∈ gW := gW_t 413 rfl (by decide +kernel)
theorem wd_414 : (Jvm.Cond.static ({ cls := "java/lang/System", name := "arraycopy", desc := "(Ljava/lang/Object;ILjava/lang/Object;II)V" } : Jvm.MethodName)) ∈ gW := gW_t 414 rfl (by decide +kernel)
theorem wd_415 : (Jvm.Cond.native ({ cls := "java/lang/System", name := "arraycopy", desc := "(Ljava/lang/Object;ILjava/lang/Object;II)V" } : Jvm.MethodName)) ∈ gW := gW_t 415 rfl (by decide +kernel)
theorem nw_416 : (Jvm.Cond.methodLinkNest "DelegationClosure$Chain" (103 : Nat) ({ cls := "DelegationClosure", name := "keyOf", desc := "(I)I" } : Jvm.MethodName) "DelegationClosure") ∈ lw_tbl := List.mem_append_right _ (List.mem_of_getElem? (i := 416) rfl)
theorem nw_417 : (Jvm.Cond.methodLinkNest "DelegationClosure$Chain" (106 : Nat) ({ cls := "DelegationClosure", name := "firstNameOf", desc := "(I)I" } : Jvm.MethodName) "DelegationClosure") ∈ lw_tbl := List.mem_append_right _ (List.mem_of_getElem? (i := 417) rfl)
theorem nw_418 : (Jvm.Cond.methodLinkNest "DelegationClosure$Chain" (109 : Nat) ({ cls := "DelegationClosure", name := "secondNameOf", desc := "(I)I" } : Jvm.MethodName) "DelegationClosure") ∈ lw_tbl := List.mem_append_right _ (List.mem_of_getElem? (i := 418) rfl)
theorem wd_419 : (Jvm.Cond.methodLink "DelegationClosure$Chain" (54 : Nat) ({ cls := "DelegationClosure$Tag", name := "copy", desc := "(LDelegationClosure$Tag;)V" } : Jvm.MethodName)) ∈ gW := gW_t 419 rfl (by decide +kernel)
theorem wd_420 : (Jvm.Cond.instanceMethod ({ cls := "DelegationClosure$Tag", name := "copy", desc := "(LDelegationClosure$Tag;)V" } : Jvm.MethodName)) ∈ gW := gW_t 420 rfl (by decide +kernel)
theorem wd_421 : (Jvm.Cond.selects "DelegationClosure$Tag" ({ cls := "DelegationClosure$Tag", name := "copy", desc := "(LDelegationClosure$Tag;)V" } : Jvm.MethodName) ({ cls := "DelegationClosure$Tag", name := "copy", desc := "(LDelegationClosure$Tag;)V" } : Jvm.MethodName)) ∈ gW := gW_t 421 rfl (by decide +kernel)
theorem wd_423 : (Jvm.Cond.methodLink "DelegationClosure$Tag" (33 : Nat) ({ cls := "DelegationClosure$Span", name := "copy", desc := "(LDelegationClosure$Span;)V" } : Jvm.MethodName)) ∈ gW := gW_t 423 rfl (by decide +kernel)
theorem wd_424 : (Jvm.Cond.instanceMethod ({ cls := "DelegationClosure$Span", name := "copy", desc := "(LDelegationClosure$Span;)V" } : Jvm.MethodName)) ∈ gW := gW_t 424 rfl (by decide +kernel)
theorem wd_425 : (Jvm.Cond.selects "DelegationClosure$Span" ({ cls := "DelegationClosure$Span", name := "copy", desc := "(LDelegationClosure$Span;)V" } : Jvm.MethodName) ({ cls := "DelegationClosure$Span", name := "copy", desc := "(LDelegationClosure$Span;)V" } : Jvm.MethodName)) ∈ gW := gW_t 425 rfl (by decide +kernel)
theorem wd_427 : (Jvm.Cond.methodLink "DelegationClosure$Span" (16 : Nat) ({ cls := "DelegationClosure$Span", name := "set", desc := "(II)V" } : Jvm.MethodName)) ∈ gW := gW_t 427 rfl (by decide +kernel)
theorem wd_428 : (Jvm.Cond.methodLink "DelegationClosure$Chain" (59 : Nat) ({ cls := "DelegationClosure$Span", name := "copy", desc := "(LDelegationClosure$Span;)V" } : Jvm.MethodName)) ∈ gW := gW_t 428 rfl (by decide +kernel)
theorem wd_429 : (Jvm.Cond.methodLink "DelegationClosureLaw" (70 : Nat) ({ cls := "DelegationClosure", name := "follow", desc := "(I)Z" } : Jvm.MethodName)) ∈ gW := gW_t 429 rfl (by decide +kernel)
theorem wd_430 : (Jvm.Cond.instanceMethod ({ cls := "DelegationClosure", name := "follow", desc := "(I)Z" } : Jvm.MethodName)) ∈ gW := gW_t 430 rfl (by decide +kernel)
theorem wd_431 : (Jvm.Cond.selects "DelegationClosure" ({ cls := "DelegationClosure", name := "follow", desc := "(I)Z" } : Jvm.MethodName) ({ cls := "DelegationClosure", name := "follow", desc := "(I)Z" } : Jvm.MethodName)) ∈ gW := gW_t 431 rfl (by decide +kernel)
theorem wd_433 : (Jvm.Cond.methodLink "DelegationClosure" (128 : Nat) ({ cls := "DelegationClosure$Chain", name := "replaceName", desc := "(LDelegationClosure$Naming;)Z" } : Jvm.MethodName)) ∈ gW := gW_t 433 rfl (by decide +kernel)
theorem wd_434 : (Jvm.Cond.instanceMethod ({ cls := "DelegationClosure$Chain", name := "replaceName", desc := "(LDelegationClosure$Naming;)Z" } : Jvm.MethodName)) ∈ gW := gW_t 434 rfl (by decide +kernel)
theorem wd_435 : (Jvm.Cond.selects "DelegationClosure$Chain" ({ cls := "DelegationClosure$Chain", name := "replaceName", desc := "(LDelegationClosure$Naming;)Z" } : Jvm.MethodName) ({ cls := "DelegationClosure$Chain", name := "replaceName", desc := "(LDelegationClosure$Naming;)Z" } : Jvm.MethodName)) ∈ gW := gW_t 435 rfl (by decide +kernel)
theorem wd_437 : (Jvm.Cond.methodLink "DelegationClosure$Chain" (63 : Nat) ({ cls := "DelegationClosure$Chain", name := "isThere", desc := "()Z" } : Jvm.MethodName)) ∈ gW := gW_t 437 rfl (by decide +kernel)
theorem wd_438 : (Jvm.Cond.instanceMethod ({ cls := "DelegationClosure$Chain", name := "isThere", desc := "()Z" } : Jvm.MethodName)) ∈ gW := gW_t 438 rfl (by decide +kernel)
theorem wd_439 : (Jvm.Cond.selects "DelegationClosure$Chain" ({ cls := "DelegationClosure$Chain", name := "isThere", desc := "()Z" } : Jvm.MethodName) ({ cls := "DelegationClosure$Chain", name := "isThere", desc := "()Z" } : Jvm.MethodName)) ∈ gW := gW_t 439 rfl (by decide +kernel)
theorem wd_441 : (Jvm.Cond.methodLink "DelegationClosure$Chain" (83 : Nat) ({ cls := "DelegationClosure$Span", name := "narrowTo", desc := "(LDelegationClosure$Span;)V" } : Jvm.MethodName)) ∈ gW := gW_t 441 rfl (by decide +kernel)
theorem wd_442 : (Jvm.Cond.instanceMethod ({ cls := "DelegationClosure$Span", name := "narrowTo", desc := "(LDelegationClosure$Span;)V" } : Jvm.MethodName)) ∈ gW := gW_t 442 rfl (by decide +kernel)
theorem wd_443 : (Jvm.Cond.selects "DelegationClosure$Span" ({ cls := "DelegationClosure$Span", name := "narrowTo", desc := "(LDelegationClosure$Span;)V" } : Jvm.MethodName) ({ cls := "DelegationClosure$Span", name := "narrowTo", desc := "(LDelegationClosure$Span;)V" } : Jvm.MethodName)) ∈ gW := gW_t 443 rfl (by decide +kernel)
theorem wd_445 : (Jvm.Cond.methodLink "DelegationClosure$Span" (20 : Nat) ({ cls := "java/lang/Math", name := "max", desc := "(II)I" } : Jvm.MethodName)) ∈ gW := gW_t 445 rfl (by decide +kernel)
theorem wd_446 : (Jvm.Cond.static ({ cls := "java/lang/Math", name := "max", desc := "(II)I" } : Jvm.MethodName)) ∈ gW := gW_t 446 rfl (by decide +kernel)
theorem wd_448 : (Jvm.Cond.methodLink "DelegationClosure$Span" (26 : Nat) ({ cls := "java/lang/Math", name := "min", desc := "(II)I" } : Jvm.MethodName)) ∈ gW := gW_t 448 rfl (by decide +kernel)
theorem wd_449 : (Jvm.Cond.methodLink "DelegationClosure" (132 : Nat) ({ cls := "DelegationClosure$Chain", name := "passOn", desc := "(LDelegationClosure$Permission;)Z" } : Jvm.MethodName)) ∈ gW := gW_t 449 rfl (by decide +kernel)
theorem wd_450 : (Jvm.Cond.instanceMethod ({ cls := "DelegationClosure$Chain", name := "passOn", desc := "(LDelegationClosure$Permission;)Z" } : Jvm.MethodName)) ∈ gW := gW_t 450 rfl (by decide +kernel)
theorem wd_451 : (Jvm.Cond.selects "DelegationClosure$Chain" ({ cls := "DelegationClosure$Chain", name := "passOn", desc := "(LDelegationClosure$Permission;)Z" } : Jvm.MethodName) ({ cls := "DelegationClosure$Chain", name := "passOn", desc := "(LDelegationClosure$Permission;)Z" } : Jvm.MethodName)) ∈ gW := gW_t 451 rfl (by decide +kernel)
theorem wd_453 : (Jvm.Cond.methodLink "DelegationClosure$Chain" (88 : Nat) ({ cls := "DelegationClosure$Tag", name := "narrowTo", desc := "(LDelegationClosure$Tag;)V" } : Jvm.MethodName)) ∈ gW := gW_t 453 rfl (by decide +kernel)
theorem wd_454 : (Jvm.Cond.instanceMethod ({ cls := "DelegationClosure$Tag", name := "narrowTo", desc := "(LDelegationClosure$Tag;)V" } : Jvm.MethodName)) ∈ gW := gW_t 454 rfl (by decide +kernel)
theorem wd_455 : (Jvm.Cond.selects "DelegationClosure$Tag" ({ cls := "DelegationClosure$Tag", name := "narrowTo", desc := "(LDelegationClosure$Tag;)V" } : Jvm.MethodName) ({ cls := "DelegationClosure$Tag", name := "narrowTo", desc := "(LDelegationClosure$Tag;)V" } : Jvm.MethodName)) ∈ gW := gW_t 455 rfl (by decide +kernel)
theorem wd_457 : (Jvm.Cond.methodLink "DelegationClosure$Tag" (37 : Nat) ({ cls := "DelegationClosure$Span", name := "narrowTo", desc := "(LDelegationClosure$Span;)V" } : Jvm.MethodName)) ∈ gW := gW_t 457 rfl (by decide +kernel)
theorem wd_458 : (Jvm.Cond.methodLink "DelegationClosureLaw" (74 : Nat) ({ cls := "DelegationClosure", name := "head", desc := "()I" } : Jvm.MethodName)) ∈ gW := gW_t 458 rfl (by decide +kernel)
theorem wd_459 : (Jvm.Cond.instanceMethod ({ cls := "DelegationClosure", name := "head", desc := "()I" } : Jvm.MethodName)) ∈ gW := gW_t 459 rfl (by decide +kernel)
theorem wd_460 : (Jvm.Cond.selects "DelegationClosure" ({ cls := "DelegationClosure", name := "head", desc := "()I" } : Jvm.MethodName) ({ cls := "DelegationClosure", name := "head", desc := "()I" } : Jvm.MethodName)) ∈ gW := gW_t 460 rfl (by decide +kernel)
theorem wd_462 : (Jvm.Cond.methodLink "DelegationClosure" (136 : Nat) ({ cls := "DelegationClosure$Chain", name := "isThere", desc := "()Z" } : Jvm.MethodName)) ∈ gW := gW_t 462 rfl (by decide +kernel)
theorem wd_463 : (Jvm.Cond.methodLink "DelegationClosureLaw" (78 : Nat) ({ cls := "DelegationClosure", name := "behind", desc := "(I)I" } : Jvm.MethodName)) ∈ gW := gW_t 463 rfl (by decide +kernel)
theorem wd_464 : (Jvm.Cond.instanceMethod ({ cls := "DelegationClosure", name := "behind", desc := "(I)I" } : Jvm.MethodName)) ∈ gW := gW_t 464 rfl (by decide +kernel)
theorem wd_465 : (Jvm.Cond.selects "DelegationClosure" ({ cls := "DelegationClosure", name := "behind", desc := "(I)I" } : Jvm.MethodName) ({ cls := "DelegationClosure", name := "behind", desc := "(I)I" } : Jvm.MethodName)) ∈ gW := gW_t 465 rfl (by decide +kernel)
theorem wd_467 : (Jvm.Cond.methodLink "DelegationClosureLaw" (83 : Nat) ({ cls := "DelegationClosure", name := "grants", desc := "(III)Z" } : Jvm.MethodName)) ∈ gW := gW_t 467 rfl (by decide +kernel)
theorem wd_468 : (Jvm.Cond.instanceMethod ({ cls := "DelegationClosure", name := "grants", desc := "(III)Z" } : Jvm.MethodName)) ∈ gW := gW_t 468 rfl (by decide +kernel)
theorem wd_469 : (Jvm.Cond.selects "DelegationClosure" ({ cls := "DelegationClosure", name := "grants", desc := "(III)Z" } : Jvm.MethodName) ({ cls := "DelegationClosure", name := "grants", desc := "(III)Z" } : Jvm.MethodName)) ∈ gW := gW_t 469 rfl (by decide +kernel)
theorem wd_471 : (Jvm.Cond.methodLink "DelegationClosure" (147 : Nat) ({ cls := "DelegationClosure$Chain", name := "allows", desc := "(III)Z" } : Jvm.MethodName)) ∈ gW := gW_t 471 rfl (by decide +kernel)
theorem wd_472 : (Jvm.Cond.instanceMethod ({ cls := "DelegationClosure$Chain", name := "allows", desc := "(III)Z" } : Jvm.MethodName)) ∈ gW := gW_t 472 rfl (by decide +kernel)
theorem wd_473 : (Jvm.Cond.selects "DelegationClosure$Chain" ({ cls := "DelegationClosure$Chain", name := "allows", desc := "(III)Z" } : Jvm.MethodName) ({ cls := "DelegationClosure$Chain", name := "allows", desc := "(III)Z" } : Jvm.MethodName)) ∈ gW := gW_t 473 rfl (by decide +kernel)
theorem wd_475 : (Jvm.Cond.methodLink "DelegationClosure$Chain" (90 : Nat) ({ cls := "DelegationClosure$Tag", name := "contains", desc := "(II)Z" } : Jvm.MethodName)) ∈ gW := gW_t 475 rfl (by decide +kernel)
theorem wd_476 : (Jvm.Cond.methodLink "DelegationClosure$Chain" (94 : Nat) ({ cls := "DelegationClosure$Span", name := "contains", desc := "(I)Z" } : Jvm.MethodName)) ∈ gW := gW_t 476 rfl (by decide +kernel)
theorem wd_477 : (Jvm.Cond.methodLink "DelegationClosureLaw" (88 : Nat) ({ cls := "DelegationClosure", name := "used", desc := "()I" } : Jvm.MethodName)) ∈ gW := gW_t 477 rfl (by decide +kernel)
theorem wd_478 : (Jvm.Cond.instanceMethod ({ cls := "DelegationClosure", name := "used", desc := "()I" } : Jvm.MethodName)) ∈ gW := gW_t 478 rfl (by decide +kernel)
theorem wd_479 : (Jvm.Cond.selects "DelegationClosure" ({ cls := "DelegationClosure", name := "used", desc := "()I" } : Jvm.MethodName) ({ cls := "DelegationClosure", name := "used", desc := "()I" } : Jvm.MethodName)) ∈ gW := gW_t 479 rfl (by decide +kernel)
set_option maxRecDepth 100000 in
theorem wd_481 : (Jvm.Cond.methodLink "DelegationClosureLaw" (92 : Nat) ({ cls := "DelegationClosure", name := "delegates", desc := "()Z" } : Jvm.MethodName)) ∈ gW := gW_t 481 rfl (by decide +kernel)
set_option maxRecDepth 100000 in
theorem wd_482 : (Jvm.Cond.instanceMethod ({ cls := "DelegationClosure", name := "delegates", desc := "()Z" } : Jvm.MethodName)) ∈ gW := gW_t 482 rfl (by decide +kernel)
set_option maxRecDepth 100000 in
theorem wd_483 : (Jvm.Cond.selects "DelegationClosure" ({ cls := "DelegationClosure", name := "delegates", desc := "()Z" } : Jvm.MethodName) ({ cls := "DelegationClosure", name := "delegates", desc := "()Z" } : Jvm.MethodName)) ∈ gW := gW_t 483 rfl (by decide +kernel)
set_option maxRecDepth 100000 in
theorem wd_485 : (Jvm.Cond.classLink "DelegationClosureLaw" (10 : Nat) "DelegationClosureModel") ∈ gW := gW_t 485 rfl (by decide +kernel)
set_option maxRecDepth 100000 in
theorem wd_486 : (Jvm.Cond.instantiable "DelegationClosureModel" (27 : Nat)) ∈ gW := gW_t 486 rfl (by decide +kernel)
set_option maxRecDepth 100000 in
theorem wd_487 : (Jvm.Cond.methodLink "DelegationClosureLaw" (12 : Nat) ({ cls := "DelegationClosureModel", name := "<init>", desc := "()V" } : Jvm.MethodName)) ∈ gW := gW_t 487 rfl (by decide +kernel)
set_option maxRecDepth 100000 in
theorem wd_488 : (Jvm.Cond.instanceMethod ({ cls := "DelegationClosureModel", name := "<init>", desc := "()V" } : Jvm.MethodName)) ∈ gW := gW_t 488 rfl (by decide +kernel)
set_option maxRecDepth 100000 in
theorem wd_490 : (Jvm.Cond.methodLink "DelegationClosureModel" (1 : Nat) ({ cls := "java/lang/Object", name := "<init>", desc := "()V" } : Jvm.MethodName)) ∈ gW := gW_t 490 rfl (by decide +kernel)
set_option maxRecDepth 100000 in
theorem wd_491 : (Jvm.Cond.fieldLink "DelegationClosureModel" (63 : Nat) "DelegationClosureModel" "made" "I") ∈ gW := gW_t 491 rfl (by decide +kernel)
set_option maxRecDepth 100000 in
theorem wd_492 : (Jvm.Cond.fieldLink "DelegationClosureModel" (7 : Nat) "DelegationClosureModel" "gone" "[Z") ∈ gW := gW_t 492 rfl (by decide +kernel)
set_option maxRecDepth 100000 in
theorem wd_493 : (Jvm.Cond.fieldLink "DelegationClosureModel" (13 : Nat) "DelegationClosureModel" "names" "[Z") ∈ gW := gW_t 493 rfl (by decide +kernel)
set_option maxRecDepth 100000 in
theorem wd_494 : (Jvm.Cond.fieldLink "DelegationClosureModel" (16 : Nat) "DelegationClosureModel" "issuer" "[I") ∈ gW := gW_t 494 rfl (by decide +kernel)
set_option maxRecDepth 100000 in
theorem wd_495 : (Jvm.Cond.fieldLink "DelegationClosureModel" (20 : Nat) "DelegationClosureModel" "named" "[I") ∈ gW := gW_t 495 rfl (by decide +kernel)
set_option maxRecDepth 100000 in
theorem wd_496 : (Jvm.Cond.fieldLink "DelegationClosureModel" (23 : Nat) "DelegationClosureModel" "from" "[I") ∈ gW := gW_t 496 rfl (by decide +kernel)
set_option maxRecDepth 100000 in
theorem wd_497 : (Jvm.Cond.fieldLink "DelegationClosureModel" (26 : Nat) "DelegationClosureModel" "to" "[I") ∈ gW := gW_t 497 rfl (by decide +kernel)
set_option maxRecDepth 100000 in
theorem wd_498 : (Jvm.Cond.fieldLink "DelegationClosureModel" (29 : Nat) "DelegationClosureModel" "subjects" "[I") ∈ gW := gW_t 498 rfl (by decide +kernel)
set_option maxRecDepth 100000 in
theorem wd_499 : (Jvm.Cond.fieldLink "DelegationClosureModel" (32 : Nat) "DelegationClosureModel" "many" "[I") ∈ gW := gW_t 499 rfl (by decide +kernel)
set_option maxRecDepth 100000 in
theorem wd_500 : (Jvm.Cond.fieldLink "DelegationClosureModel" (35 : Nat) "DelegationClosureModel" "needed" "[I") ∈ gW := gW_t 500 rfl (by decide +kernel)
set_option maxRecDepth 100000 in
theorem wd_501 : (Jvm.Cond.fieldLink "DelegationClosureModel" (38 : Nat) "DelegationClosureModel" "operations" "[I") ∈ gW := gW_t 501 rfl (by decide +kernel)
set_option maxRecDepth 100000 in
theorem wd_502 : (Jvm.Cond.fieldLink "DelegationClosureModel" (41 : Nat) "DelegationClosureModel" "low" "[I") ∈ gW := gW_t 502 rfl (by decide +kernel)
set_option maxRecDepth 100000 in
theorem wd_503 : (Jvm.Cond.fieldLink "DelegationClosureModel" (44 : Nat) "DelegationClosureModel" "high" "[I") ∈ gW := gW_t 503 rfl (by decide +kernel)
set_option maxRecDepth 100000 in
theorem wd_504 : (Jvm.Cond.fieldLink "DelegationClosureModel" (47 : Nat) "DelegationClosureModel" "passes" "[Z") ∈ gW := gW_t 504 rfl (by decide +kernel)
set_option maxRecDepth 100000 in
theorem wd_505 : (Jvm.Cond.fieldLink "DelegationClosureModel" (50 : Nat) "DelegationClosureModel" "means" "[I") ∈ gW := gW_t 505 rfl (by decide +kernel)
set_option maxRecDepth 100000 in
theorem wd_506 : (Jvm.Cond.fieldLink "DelegationClosureModel" (53 : Nat) "DelegationClosureModel" "leads" "[I") ∈ gW := gW_t 506 rfl (by decide +kernel)
set_option maxRecDepth 100000 in
theorem wd_507 : (Jvm.Cond.fieldLink "DelegationClosureModel" (130 : Nat) "DelegationClosureModel" "chain" "Z") ∈ gW := gW_t 507 rfl (by decide +kernel)
set_option maxRecDepth 100000 in
theorem wd_508 : (Jvm.Cond.fieldLink "DelegationClosureModel" (164 : Nat) "DelegationClosureModel" "chainKey" "I") ∈ gW := gW_t 508 rfl (by decide +kernel)
set_option maxRecDepth 100000 in
theorem wd_509 : (Jvm.Cond.fieldLink "DelegationClosureModel" (134 : Nat) "DelegationClosureModel" "chainNames" "I") ∈ gW := gW_t 509 rfl (by decide +kernel)
set_option maxRecDepth 100000 in
theorem wd_510 : (Jvm.Cond.fieldLink "DelegationClosureModel" (56 : Nat) "DelegationClosureModel" "chainName" "[I") ∈ gW := gW_t 510 rfl (by decide +kernel)
set_option maxRecDepth 100000 in
theorem wd_511 : (Jvm.Cond.fieldLink "DelegationClosureModel" (140 : Nat) "DelegationClosureModel" "chainOperations" "I") ∈ gW := gW_t 511 rfl (by decide +kernel)
set_option maxRecDepth 100000 in
theorem wd_512 : (Jvm.Cond.fieldLink "DelegationClosureModel" (143 : Nat) "DelegationClosureModel" "chainLow" "I") ∈ gW := gW_t 512 rfl (by decide +kernel)
set_option maxRecDepth 100000 in
theorem wd_513 : (Jvm.Cond.fieldLink "DelegationClosureModel" (146 : Nat) "DelegationClosureModel" "chainHigh" "I") ∈ gW := gW_t 513 rfl (by decide +kernel)
set_option maxRecDepth 100000 in
theorem wd_514 : (Jvm.Cond.fieldLink "DelegationClosureModel" (149 : Nat) "DelegationClosureModel" "chainFrom" "I") ∈ gW := gW_t 514 rfl (by decide +kernel)
set_option maxRecDepth 100000 in
theorem wd_515 : (Jvm.Cond.fieldLink "DelegationClosureModel" (152 : Nat) "DelegationClosureModel" "chainTo" "I") ∈ gW := gW_t 515 rfl (by decide +kernel)
set_option maxRecDepth 100000 in
theorem wd_516 : (Jvm.Cond.fieldLink "DelegationClosureModel" (155 : Nat) "DelegationClosureModel" "chainUsed" "I") ∈ gW := gW_t 516 rfl (by decide +kernel)
set_option maxRecDepth 100000 in
theorem wd_517 : (Jvm.Cond.fieldLink "DelegationClosureModel" (158 : Nat) "DelegationClosureModel" "chainPasses" "Z") ∈ gW := gW_t 517 rfl (by decide +kernel)
set_option maxRecDepth 100000 in
theorem wd_518 : (Jvm.Cond.lays "DelegationClosureModel" "DelegationClosureModel" "made" "I") ∈ gW := gW_t 518 rfl (by decide +kernel)
set_option maxRecDepth 100000 in
theorem wd_520 : (Jvm.Cond.lays "DelegationClosureModel" "DelegationClosureModel" "gone" "[Z") ∈ gW := gW_t 520 rfl (by decide +kernel)
set_option maxRecDepth 100000 in
theorem wd_522 : (Jvm.Cond.lays "DelegationClosureModel" "DelegationClosureModel" "names" "[Z") ∈ gW := gW_t 522 rfl (by decide +kernel)
set_option maxRecDepth 100000 in
theorem wd_524 : (Jvm.Cond.lays "DelegationClosureModel" "DelegationClosureModel" "issuer" "[I") ∈ gW := gW_t 524 rfl (by decide +kernel)
set_option maxRecDepth 100000 in
theorem wd_526 : (Jvm.Cond.lays "DelegationClosureModel" "DelegationClosureModel" "named" "[I") ∈ gW := gW_t 526 rfl (by decide +kernel)
set_option maxRecDepth 100000 in
theorem wd_528 : (Jvm.Cond.lays "DelegationClosureModel" "DelegationClosureModel" "from" "[I") ∈ gW := gW_t 528 rfl (by decide +kernel)
set_option maxRecDepth 100000 in
theorem wd_530 : (Jvm.Cond.lays "DelegationClosureModel" "DelegationClosureModel" "to" "[I") ∈ gW := gW_t 530 rfl (by decide +kernel)
set_option maxRecDepth 100000 in
theorem wd_532 : (Jvm.Cond.lays "DelegationClosureModel" "DelegationClosureModel" "subjects" "[I") ∈ gW := gW_t 532 rfl (by decide +kernel)
set_option maxRecDepth 100000 in
theorem wd_534 : (Jvm.Cond.lays "DelegationClosureModel" "DelegationClosureModel" "many" "[I") ∈ gW := gW_t 534 rfl (by decide +kernel)
set_option maxRecDepth 100000 in
theorem wd_536 : (Jvm.Cond.lays "DelegationClosureModel" "DelegationClosureModel" "needed" "[I") ∈ gW := gW_t 536 rfl (by decide +kernel)
set_option maxRecDepth 100000 in
theorem wd_538 : (Jvm.Cond.lays "DelegationClosureModel" "DelegationClosureModel" "operations" "[I") ∈ gW := gW_t 538 rfl (by decide +kernel)
set_option maxRecDepth 100000 in
theorem wd_540 : (Jvm.Cond.lays "DelegationClosureModel" "DelegationClosureModel" "low" "[I") ∈ gW := gW_t 540 rfl (by decide +kernel)
set_option maxRecDepth 100000 in
theorem wd_542 : (Jvm.Cond.lays "DelegationClosureModel" "DelegationClosureModel" "high" "[I") ∈ gW := gW_t 542 rfl (by decide +kernel)
set_option maxRecDepth 100000 in
theorem wd_544 : (Jvm.Cond.lays "DelegationClosureModel" "DelegationClosureModel" "passes" "[Z") ∈ gW := gW_t 544 rfl (by decide +kernel)
set_option maxRecDepth 100000 in
theorem wd_546 : (Jvm.Cond.lays "DelegationClosureModel" "DelegationClosureModel" "means" "[I") ∈ gW := gW_t 546 rfl (by decide +kernel)
set_option maxRecDepth 100000 in
theorem wd_548 : (Jvm.Cond.lays "DelegationClosureModel" "DelegationClosureModel" "leads" "[I") ∈ gW := gW_t 548 rfl (by decide +kernel)
set_option maxRecDepth 100000 in
theorem wd_550 : (Jvm.Cond.lays "DelegationClosureModel" "DelegationClosureModel" "chain" "Z") ∈ gW := gW_t 550 rfl (by decide +kernel)
set_option maxRecDepth 100000 in
theorem wd_552 : (Jvm.Cond.lays "DelegationClosureModel" "DelegationClosureModel" "chainKey" "I") ∈ gW := gW_t 552 rfl (by decide +kernel)
set_option maxRecDepth 100000 in
theorem wd_554 : (Jvm.Cond.lays "DelegationClosureModel" "DelegationClosureModel" "chainNames" "I") ∈ gW := gW_t 554 rfl (by decide +kernel)
set_option maxRecDepth 100000 in
theorem wd_556 : (Jvm.Cond.lays "DelegationClosureModel" "DelegationClosureModel" "chainName" "[I") ∈ gW := gW_t 556 rfl (by decide +kernel)
set_option maxRecDepth 100000 in
theorem wd_558 : (Jvm.Cond.lays "DelegationClosureModel" "DelegationClosureModel" "chainOperations" "I") ∈ gW := gW_t 558 rfl (by decide +kernel)
set_option maxRecDepth 100000 in
theorem wd_560 : (Jvm.Cond.lays "DelegationClosureModel" "DelegationClosureModel" "chainLow" "I") ∈ gW := gW_t 560 rfl (by decide +kernel)
set_option maxRecDepth 100000 in
theorem wd_562 : (Jvm.Cond.lays "DelegationClosureModel" "DelegationClosureModel" "chainHigh" "I") ∈ gW := gW_t 562 rfl (by decide +kernel)
set_option maxRecDepth 100000 in
theorem wd_564 : (Jvm.Cond.lays "DelegationClosureModel" "DelegationClosureModel" "chainFrom" "I") ∈ gW := gW_t 564 rfl (by decide +kernel)
set_option maxRecDepth 100000 in
theorem wd_566 : (Jvm.Cond.lays "DelegationClosureModel" "DelegationClosureModel" "chainTo" "I") ∈ gW := gW_t 566 rfl (by decide +kernel)
set_option maxRecDepth 100000 in
theorem wd_568 : (Jvm.Cond.lays "DelegationClosureModel" "DelegationClosureModel" "chainUsed" "I") ∈ gW := gW_t 568 rfl (by decide +kernel)
set_option maxRecDepth 100000 in
theorem wd_570 : (Jvm.Cond.lays "DelegationClosureModel" "DelegationClosureModel" "chainPasses" "Z") ∈ gW := gW_t 570 rfl (by decide +kernel)
set_option maxRecDepth 100000 in
theorem wd_573 : (Jvm.Cond.methodLink "DelegationClosureLaw" (17 : Nat) ({ cls := "DelegationClosureModel", name := "name", desc := "(IIIII)I" } : Jvm.MethodName)) ∈ gW := gW_t 573 rfl (by decide +kernel)
set_option maxRecDepth 100000 in
theorem wd_574 : (Jvm.Cond.instanceMethod ({ cls := "DelegationClosureModel", name := "name", desc := "(IIIII)I" } : Jvm.MethodName)) ∈ gW := gW_t 574 rfl (by decide +kernel)
set_option maxRecDepth 100000 in
theorem wd_575 : (Jvm.Cond.selects "DelegationClosureModel" ({ cls := "DelegationClosureModel", name := "name", desc := "(IIIII)I" } : Jvm.MethodName) ({ cls := "DelegationClosureModel", name := "name", desc := "(IIIII)I" } : Jvm.MethodName)) ∈ gW := gW_t 575 rfl (by decide +kernel)
set_option maxRecDepth 100000 in
theorem wd_577 : (Jvm.Cond.methodLink "DelegationClosureModel" (69 : Nat) ({ cls := "DelegationClosureModel", name := "isSubject", desc := "(I)Z" } : Jvm.MethodName)) ∈ gW := gW_t 577 rfl (by decide +kernel)
set_option maxRecDepth 100000 in
theorem wd_578 : (Jvm.Cond.static ({ cls := "DelegationClosureModel", name := "isSubject", desc := "(I)Z" } : Jvm.MethodName)) ∈ gW := gW_t 578 rfl (by decide +kernel)
set_option maxRecDepth 100000 in
theorem wd_580 : (Jvm.Cond.methodLink "DelegationClosureModel" (59 : Nat) ({ cls := "DelegationClosureModel", name := "nameOf", desc := "(IZ)I" } : Jvm.MethodName)) ∈ gW := gW_t 580 rfl (by decide +kernel)
set_option maxRecDepth 100000 in
theorem wd_581 : (Jvm.Cond.static ({ cls := "DelegationClosureModel", name := "nameOf", desc := "(IZ)I" } : Jvm.MethodName)) ∈ gW := gW_t 581 rfl (by decide +kernel)
set_option maxRecDepth 100000 in
theorem wd_583 : (Jvm.Cond.methodLink "DelegationClosureModel" (73 : Nat) ({ cls := "DelegationClosureModel", name := "make", desc := "(ZIIII)I" } : Jvm.MethodName)) ∈ gW := gW_t 583 rfl (by decide +kernel)
set_option maxRecDepth 100000 in
theorem wd_585 : (Jvm.Cond.instanceMethod ({ cls := "DelegationClosureModel", name := "make", desc := "(ZIIII)I" } : Jvm.MethodName)) ∈ gW := gW_t 585 rfl (by decide +kernel)
set_option maxRecDepth 100000 in
theorem wd_587 : (Jvm.Cond.constant "DelegationClosureModel" (67 : Nat) (-2147483648 : Int32)) ∈ gW := gW_t 587 rfl (by decide +kernel)
set_option maxRecDepth 100000 in
theorem wd_588 : (Jvm.Cond.constant "DelegationClosureModel" (68 : Nat) (2147483647 : Int32)) ∈ gW := gW_t 588 rfl (by decide +kernel)
set_option maxRecDepth 100000 in
theorem wd_589 : (Jvm.Cond.methodLink "DelegationClosureLaw" (22 : Nat) ({ cls := "DelegationClosureModel", name := "permit", desc := "(IIZII)I" } : Jvm.MethodName)) ∈ gW := gW_t 589 rfl (by decide +kernel)
set_option maxRecDepth 100000 in
theorem wd_590 : (Jvm.Cond.instanceMethod ({ cls := "DelegationClosureModel", name := "permit", desc := "(IIZII)I" } : Jvm.MethodName)) ∈ gW := gW_t 590 rfl (by decide +kernel)
set_option maxRecDepth 100000 in
theorem wd_591 : (Jvm.Cond.selects "DelegationClosureModel" ({ cls := "DelegationClosureModel", name := "permit", desc := "(IIZII)I" } : Jvm.MethodName) ({ cls := "DelegationClosureModel", name := "permit", desc := "(IIZII)I" } : Jvm.MethodName)) ∈ gW := gW_t 591 rfl (by decide +kernel)
set_option maxRecDepth 100000 in
theorem wd_593 : (Jvm.Cond.methodLink "DelegationClosureLaw" (27 : Nat) ({ cls := "DelegationClosureModel", name := "tag", desc := "(IIII)Z" } : Jvm.MethodName)) ∈ gW := gW_t 593 rfl (by decide +kernel)
set_option maxRecDepth 100000 in
theorem wd_594 : (Jvm.Cond.instanceMethod ({ cls := "DelegationClosureModel", name := "tag", desc := "(IIII)Z" } : Jvm.MethodName)) ∈ gW := gW_t 594 rfl (by decide +kernel)
set_option maxRecDepth 100000 in
theorem wd_595 : (Jvm.Cond.selects "DelegationClosureModel" ({ cls := "DelegationClosureModel", name := "tag", desc := "(IIII)Z" } : Jvm.MethodName) ({ cls := "DelegationClosureModel", name := "tag", desc := "(IIII)Z" } : Jvm.MethodName)) ∈ gW := gW_t 595 rfl (by decide +kernel)
set_option maxRecDepth 100000 in
theorem wd_597 : (Jvm.Cond.methodLink "DelegationClosureModel" (80 : Nat) ({ cls := "DelegationClosureModel", name := "isPermission", desc := "(I)Z" } : Jvm.MethodName)) ∈ gW := gW_t 597 rfl (by decide +kernel)
set_option maxRecDepth 100000 in
theorem wd_599 : (Jvm.Cond.instanceMethod ({ cls := "DelegationClosureModel", name := "isPermission", desc := "(I)Z" } : Jvm.MethodName)) ∈ gW := gW_t 599 rfl (by decide +kernel)
set_option maxRecDepth 100000 in
theorem wd_601 : (Jvm.Cond.methodLink "DelegationClosureModel" (77 : Nat) ({ cls := "DelegationClosureModel", name := "isThere", desc := "(I)Z" } : Jvm.MethodName)) ∈ gW := gW_t 601 rfl (by decide +kernel)
set_option maxRecDepth 100000 in
theorem wd_603 : (Jvm.Cond.instanceMethod ({ cls := "DelegationClosureModel", name := "isThere", desc := "(I)Z" } : Jvm.MethodName)) ∈ gW := gW_t 603 rfl (by decide +kernel)
set_option maxRecDepth 100000 in
theorem wd_605 : (Jvm.Cond.methodLink "DelegationClosureLaw" (32 : Nat) ({ cls := "DelegationClosureModel", name := "also", desc := "(II)I" } : Jvm.MethodName)) ∈ gW := gW_t 605 rfl (by decide +kernel)
set_option maxRecDepth 100000 in
theorem wd_606 : (Jvm.Cond.instanceMethod ({ cls := "DelegationClosureModel", name := "also", desc := "(II)I" } : Jvm.MethodName)) ∈ gW := gW_t 606 rfl (by decide +kernel)
set_option maxRecDepth 100000 in
theorem wd_607 : (Jvm.Cond.selects "DelegationClosureModel" ({ cls := "DelegationClosureModel", name := "also", desc := "(II)I" } : Jvm.MethodName) ({ cls := "DelegationClosureModel", name := "also", desc := "(II)I" } : Jvm.MethodName)) ∈ gW := gW_t 607 rfl (by decide +kernel)
set_option maxRecDepth 100000 in
theorem wd_609 : (Jvm.Cond.methodLink "DelegationClosureLaw" (37 : Nat) ({ cls := "DelegationClosureModel", name := "quorum", desc := "(II)Z" } : Jvm.MethodName)) ∈ gW := gW_t 609 rfl (by decide +kernel)
set_option maxRecDepth 100000 in
theorem wd_610 : (Jvm.Cond.instanceMethod ({ cls := "DelegationClosureModel", name := "quorum", desc := "(II)Z" } : Jvm.MethodName)) ∈ gW := gW_t 610 rfl (by decide +kernel)
set_option maxRecDepth 100000 in
theorem wd_611 : (Jvm.Cond.selects "DelegationClosureModel" ({ cls := "DelegationClosureModel", name := "quorum", desc := "(II)Z" } : Jvm.MethodName) ({ cls := "DelegationClosureModel", name := "quorum", desc := "(II)Z" } : Jvm.MethodName)) ∈ gW := gW_t 611 rfl (by decide +kernel)
set_option maxRecDepth 100000 in
theorem wd_613 : (Jvm.Cond.methodLink "DelegationClosureLaw" (42 : Nat) ({ cls := "DelegationClosureModel", name := "revoke", desc := "(I)Z" } : Jvm.MethodName)) ∈ gW := gW_t 613 rfl (by decide +kernel)
set_option maxRecDepth 100000 in
theorem wd_614 : (Jvm.Cond.instanceMethod ({ cls := "DelegationClosureModel", name := "revoke", desc := "(I)Z" } : Jvm.MethodName)) ∈ gW := gW_t 614 rfl (by decide +kernel)
set_option maxRecDepth 100000 in
theorem wd_615 : (Jvm.Cond.selects "DelegationClosureModel" ({ cls := "DelegationClosureModel", name := "revoke", desc := "(I)Z" } : Jvm.MethodName) ({ cls := "DelegationClosureModel", name := "revoke", desc := "(I)Z" } : Jvm.MethodName)) ∈ gW := gW_t 615 rfl (by decide +kernel)
set_option maxRecDepth 100000 in
theorem wd_617 : (Jvm.Cond.methodLink "DelegationClosureLaw" (47 : Nat) ({ cls := "DelegationClosureModel", name := "certificates", desc := "()I" } : Jvm.MethodName)) ∈ gW := gW_t 617 rfl (by decide +kernel)
set_option maxRecDepth 100000 in
theorem wd_618 : (Jvm.Cond.instanceMethod ({ cls := "DelegationClosureModel", name := "certificates", desc := "()I" } : Jvm.MethodName)) ∈ gW := gW_t 618 rfl (by decide +kernel)
set_option maxRecDepth 100000 in
theorem wd_619 : (Jvm.Cond.selects "DelegationClosureModel" ({ cls := "DelegationClosureModel", name := "certificates", desc := "()I" } : Jvm.MethodName) ({ cls := "DelegationClosureModel", name := "certificates", desc := "()I" } : Jvm.MethodName)) ∈ gW := gW_t 619 rfl (by decide +kernel)
set_option maxRecDepth 100000 in
theorem wd_621 : (Jvm.Cond.methodLink "DelegationClosureLaw" (51 : Nat) ({ cls := "DelegationClosureModel", name := "meant", desc := "(II)I" } : Jvm.MethodName)) ∈ gW := gW_t 621 rfl (by decide +kernel)
set_option maxRecDepth 100000 in
theorem wd_622 : (Jvm.Cond.instanceMethod ({ cls := "DelegationClosureModel", name := "meant", desc := "(II)I" } : Jvm.MethodName)) ∈ gW := gW_t 622 rfl (by decide +kernel)
set_option maxRecDepth 100000 in
theorem wd_623 : (Jvm.Cond.selects "DelegationClosureModel" ({ cls := "DelegationClosureModel", name := "meant", desc := "(II)I" } : Jvm.MethodName) ({ cls := "DelegationClosureModel", name := "meant", desc := "(II)I" } : Jvm.MethodName)) ∈ gW := gW_t 623 rfl (by decide +kernel)
set_option maxRecDepth 100000 in
theorem wd_625 : (Jvm.Cond.methodLink "DelegationClosureModel" (101 : Nat) ({ cls := "DelegationClosureModel", name := "findMeanings", desc := "(I)V" } : Jvm.MethodName)) ∈ gW := gW_t 625 rfl (by decide +kernel)
set_option maxRecDepth 100000 in
theorem wd_627 : (Jvm.Cond.instanceMethod ({ cls := "DelegationClosureModel", name := "findMeanings", desc := "(I)V" } : Jvm.MethodName)) ∈ gW := gW_t 627 rfl (by decide +kernel)
set_option maxRecDepth 100000 in
theorem wd_629 : (Jvm.Cond.methodLink "DelegationClosureModel" (98 : Nat) ({ cls := "DelegationClosureModel", name := "useNames", desc := "(I)Z" } : Jvm.MethodName)) ∈ gW := gW_t 629 rfl (by decide +kernel)
set_option maxRecDepth 100000 in
theorem wd_631 : (Jvm.Cond.instanceMethod ({ cls := "DelegationClosureModel", name := "useNames", desc := "(I)Z" } : Jvm.MethodName)) ∈ gW := gW_t 631 rfl (by decide +kernel)
set_option maxRecDepth 100000 in
theorem wd_633 : (Jvm.Cond.methodLink "DelegationClosureModel" (91 : Nat) ({ cls := "DelegationClosureModel", name := "isValid", desc := "(II)Z" } : Jvm.MethodName)) ∈ gW := gW_t 633 rfl (by decide +kernel)
set_option maxRecDepth 100000 in
theorem wd_635 : (Jvm.Cond.instanceMethod ({ cls := "DelegationClosureModel", name := "isValid", desc := "(II)Z" } : Jvm.MethodName)) ∈ gW := gW_t 635 rfl (by decide +kernel)
set_option maxRecDepth 100000 in
theorem wd_637 : (Jvm.Cond.methodLink "DelegationClosureModel" (95 : Nat) ({ cls := "DelegationClosureModel", name := "costOf", desc := "(II)I" } : Jvm.MethodName)) ∈ gW := gW_t 637 rfl (by decide +kernel)
set_option maxRecDepth 100000 in
theorem wd_639 : (Jvm.Cond.instanceMethod ({ cls := "DelegationClosureModel", name := "costOf", desc := "(II)I" } : Jvm.MethodName)) ∈ gW := gW_t 639 rfl (by decide +kernel)
set_option maxRecDepth 100000 in
theorem wd_641 : (Jvm.Cond.methodLink "DelegationClosureModel" (83 : Nat) ({ cls := "DelegationClosureModel", name := "keyOf", desc := "(I)I" } : Jvm.MethodName)) ∈ gW := gW_t 641 rfl (by decide +kernel)
set_option maxRecDepth 100000 in
theorem wd_642 : (Jvm.Cond.static ({ cls := "DelegationClosureModel", name := "keyOf", desc := "(I)I" } : Jvm.MethodName)) ∈ gW := gW_t 642 rfl (by decide +kernel)
set_option maxRecDepth 100000 in
theorem wd_644 : (Jvm.Cond.methodLink "DelegationClosureModel" (87 : Nat) ({ cls := "DelegationClosureModel", name := "sum", desc := "(II)I" } : Jvm.MethodName)) ∈ gW := gW_t 644 rfl (by decide +kernel)
set_option maxRecDepth 100000 in
theorem wd_645 : (Jvm.Cond.static ({ cls := "DelegationClosureModel", name := "sum", desc := "(II)I" } : Jvm.MethodName)) ∈ gW := gW_t 645 rfl (by decide +kernel)
set_option maxRecDepth 100000 in
theorem wd_647 : (Jvm.Cond.methodLink "DelegationClosureLaw" (56 : Nat) ({ cls := "DelegationClosureModel", name := "cost", desc := "(III)I" } : Jvm.MethodName)) ∈ gW := gW_t 647 rfl (by decide +kernel)
set_option maxRecDepth 100000 in
theorem wd_648 : (Jvm.Cond.instanceMethod ({ cls := "DelegationClosureModel", name := "cost", desc := "(III)I" } : Jvm.MethodName)) ∈ gW := gW_t 648 rfl (by decide +kernel)
set_option maxRecDepth 100000 in
theorem wd_649 : (Jvm.Cond.selects "DelegationClosureModel" ({ cls := "DelegationClosureModel", name := "cost", desc := "(III)I" } : Jvm.MethodName) ({ cls := "DelegationClosureModel", name := "cost", desc := "(III)I" } : Jvm.MethodName)) ∈ gW := gW_t 649 rfl (by decide +kernel)
set_option maxRecDepth 100000 in
theorem wd_651 : (Jvm.Cond.methodLink "DelegationClosureLaw" (61 : Nat) ({ cls := "DelegationClosureModel", name := "may", desc := "(IIII)I" } : Jvm.MethodName)) ∈ gW := gW_t 651 rfl (by decide +kernel)
set_option maxRecDepth 100000 in
theorem wd_652 : (Jvm.Cond.instanceMethod ({ cls := "DelegationClosureModel", name := "may", desc := "(IIII)I" } : Jvm.MethodName)) ∈ gW := gW_t 652 rfl (by decide +kernel)
set_option maxRecDepth 100000 in
theorem wd_653 : (Jvm.Cond.selects "DelegationClosureModel" ({ cls := "DelegationClosureModel", name := "may", desc := "(IIII)I" } : Jvm.MethodName) ({ cls := "DelegationClosureModel", name := "may", desc := "(IIII)I" } : Jvm.MethodName)) ∈ gW := gW_t 653 rfl (by decide +kernel)
set_option maxRecDepth 100000 in
theorem wd_655 : (Jvm.Cond.methodLink "DelegationClosureModel" (123 : Nat) ({ cls := "DelegationClosureModel", name := "findLeading", desc := "(IIII)V" } : Jvm.MethodName)) ∈ gW := gW_t 655 rfl (by decide +kernel)
set_option maxRecDepth 100000 in
theorem wd_657 : (Jvm.Cond.instanceMethod ({ cls := "DelegationClosureModel", name := "findLeading", desc := "(IIII)V" } : Jvm.MethodName)) ∈ gW := gW_t 657 rfl (by decide +kernel)
set_option maxRecDepth 100000 in
theorem wd_659 : (Jvm.Cond.methodLink "DelegationClosureModel" (116 : Nat) ({ cls := "DelegationClosureModel", name := "counts", desc := "(IIII)Z" } : Jvm.MethodName)) ∈ gW := gW_t 659 rfl (by decide +kernel)
set_option maxRecDepth 100000 in
theorem wd_661 : (Jvm.Cond.instanceMethod ({ cls := "DelegationClosureModel", name := "counts", desc := "(IIII)Z" } : Jvm.MethodName)) ∈ gW := gW_t 661 rfl (by decide +kernel)
set_option maxRecDepth 100000 in
theorem wd_663 : (Jvm.Cond.methodLink "DelegationClosureModel" (120 : Nat) ({ cls := "DelegationClosureModel", name := "byCertificate", desc := "(II)I" } : Jvm.MethodName)) ∈ gW := gW_t 663 rfl (by decide +kernel)
set_option maxRecDepth 100000 in
theorem wd_665 : (Jvm.Cond.instanceMethod ({ cls := "DelegationClosureModel", name := "byCertificate", desc := "(II)I" } : Jvm.MethodName)) ∈ gW := gW_t 665 rfl (by decide +kernel)
set_option maxRecDepth 100000 in
theorem wd_667 : (Jvm.Cond.methodLink "DelegationClosureModel" (108 : Nat) ({ cls := "DelegationClosureModel", name := "bySubject", desc := "(III)I" } : Jvm.MethodName)) ∈ gW := gW_t 667 rfl (by decide +kernel)
set_option maxRecDepth 100000 in
theorem wd_669 : (Jvm.Cond.instanceMethod ({ cls := "DelegationClosureModel", name := "bySubject", desc := "(III)I" } : Jvm.MethodName)) ∈ gW := gW_t 669 rfl (by decide +kernel)
set_option maxRecDepth 100000 in
theorem wd_671 : (Jvm.Cond.methodLink "DelegationClosureModel" (105 : Nat) ({ cls := "DelegationClosureModel", name := "leadOf", desc := "(I)I" } : Jvm.MethodName)) ∈ gW := gW_t 671 rfl (by decide +kernel)
set_option maxRecDepth 100000 in
theorem wd_673 : (Jvm.Cond.instanceMethod ({ cls := "DelegationClosureModel", name := "leadOf", desc := "(I)I" } : Jvm.MethodName)) ∈ gW := gW_t 673 rfl (by decide +kernel)
set_option maxRecDepth 100000 in
theorem wd_675 : (Jvm.Cond.methodLink "DelegationClosureModel" (112 : Nat) ({ cls := "DelegationClosureModel", name := "leastOf", desc := "(IIII)I" } : Jvm.MethodName)) ∈ gW := gW_t 675 rfl (by decide +kernel)
set_option maxRecDepth 100000 in
theorem wd_676 : (Jvm.Cond.static ({ cls := "DelegationClosureModel", name := "leastOf", desc := "(IIII)I" } : Jvm.MethodName)) ∈ gW := gW_t 676 rfl (by decide +kernel)
set_option maxRecDepth 100000 in
theorem wd_678 : (Jvm.Cond.methodLink "DelegationClosureLaw" (65 : Nat) ({ cls := "DelegationClosureModel", name := "holders", desc := "(III)I" } : Jvm.MethodName)) ∈ gW := gW_t 678 rfl (by decide +kernel)
set_option maxRecDepth 100000 in
theorem wd_679 : (Jvm.Cond.instanceMethod ({ cls := "DelegationClosureModel", name := "holders", desc := "(III)I" } : Jvm.MethodName)) ∈ gW := gW_t 679 rfl (by decide +kernel)
set_option maxRecDepth 100000 in
theorem wd_680 : (Jvm.Cond.selects "DelegationClosureModel" ({ cls := "DelegationClosureModel", name := "holders", desc := "(III)I" } : Jvm.MethodName) ({ cls := "DelegationClosureModel", name := "holders", desc := "(III)I" } : Jvm.MethodName)) ∈ gW := gW_t 680 rfl (by decide +kernel)
set_option maxRecDepth 100000 in
theorem wd_682 : (Jvm.Cond.methodLink "DelegationClosureModel" (127 : Nat) ({ cls := "DelegationClosureModel", name := "may", desc := "(IIII)I" } : Jvm.MethodName)) ∈ gW := gW_t 682 rfl (by decide +kernel)
set_option maxRecDepth 100000 in
theorem wd_683 : (Jvm.Cond.methodLink "DelegationClosureLaw" (69 : Nat) ({ cls := "DelegationClosureModel", name := "begin", desc := "(I)Z" } : Jvm.MethodName)) ∈ gW := gW_t 683 rfl (by decide +kernel)
set_option maxRecDepth 100000 in
theorem wd_684 : (Jvm.Cond.instanceMethod ({ cls := "DelegationClosureModel", name := "begin", desc := "(I)Z" } : Jvm.MethodName)) ∈ gW := gW_t 684 rfl (by decide +kernel)
set_option maxRecDepth 100000 in
theorem wd_685 : (Jvm.Cond.selects "DelegationClosureModel" ({ cls := "DelegationClosureModel", name := "begin", desc := "(I)Z" } : Jvm.MethodName) ({ cls := "DelegationClosureModel", name := "begin", desc := "(I)Z" } : Jvm.MethodName)) ∈ gW := gW_t 685 rfl (by decide +kernel)
set_option maxRecDepth 100000 in
theorem wd_687 : (Jvm.Cond.methodLink "DelegationClosureModel" (137 : Nat) ({ cls := "DelegationClosureModel", name := "place", desc := "(I)V" } : Jvm.MethodName)) ∈ gW := gW_t 687 rfl (by decide +kernel)
set_option maxRecDepth 100000 in
theorem wd_689 : (Jvm.Cond.instanceMethod ({ cls := "DelegationClosureModel", name := "place", desc := "(I)V" } : Jvm.MethodName)) ∈ gW := gW_t 689 rfl (by decide +kernel)
set_option maxRecDepth 100000 in
theorem wd_691 : (Jvm.Cond.methodLink "DelegationClosureModel" (161 : Nat) ({ cls := "DelegationClosureModel", name := "namesOf", desc := "(I)I" } : Jvm.MethodName)) ∈ gW := gW_t 691 rfl (by decide +kernel)
set_option maxRecDepth 100000 in
theorem wd_692 : (Jvm.Cond.static ({ cls := "DelegationClosureModel", name := "namesOf", desc := "(I)I" } : Jvm.MethodName)) ∈ gW := gW_t 692 rfl (by decide +kernel)
set_option maxRecDepth 100000 in
theorem wd_694 : (Jvm.Cond.methodLink "DelegationClosureLaw" (73 : Nat) ({ cls := "DelegationClosureModel", name := "follow", desc := "(I)Z" } : Jvm.MethodName)) ∈ gW := gW_t 694 rfl (by decide +kernel)
set_option maxRecDepth 100000 in
theorem wd_695 : (Jvm.Cond.instanceMethod ({ cls := "DelegationClosureModel", name := "follow", desc := "(I)Z" } : Jvm.MethodName)) ∈ gW := gW_t 695 rfl (by decide +kernel)
set_option maxRecDepth 100000 in
theorem wd_696 : (Jvm.Cond.selects "DelegationClosureModel" ({ cls := "DelegationClosureModel", name := "follow", desc := "(I)Z" } : Jvm.MethodName) ({ cls := "DelegationClosureModel", name := "follow", desc := "(I)Z" } : Jvm.MethodName)) ∈ gW := gW_t 696 rfl (by decide +kernel)
set_option maxRecDepth 100000 in
theorem wd_698 : (Jvm.Cond.methodLink "DelegationClosureModel" (167 : Nat) ({ cls := "DelegationClosureModel", name := "fits", desc := "(I)Z" } : Jvm.MethodName)) ∈ gW := gW_t 698 rfl (by decide +kernel)
set_option maxRecDepth 100000 in
theorem wd_700 : (Jvm.Cond.instanceMethod ({ cls := "DelegationClosureModel", name := "fits", desc := "(I)Z" } : Jvm.MethodName)) ∈ gW := gW_t 700 rfl (by decide +kernel)
set_option maxRecDepth 100000 in
theorem wd_702 : (Jvm.Cond.methodLink "DelegationClosureModel" (170 : Nat) ({ cls := "DelegationClosureModel", name := "dropName", desc := "()V" } : Jvm.MethodName)) ∈ gW := gW_t 702 rfl (by decide +kernel)
set_option maxRecDepth 100000 in
theorem wd_704 : (Jvm.Cond.instanceMethod ({ cls := "DelegationClosureModel", name := "dropName", desc := "()V" } : Jvm.MethodName)) ∈ gW := gW_t 704 rfl (by decide +kernel)
set_option maxRecDepth 100000 in
theorem wd_706 : (Jvm.Cond.methodLink "DelegationClosureLaw" (77 : Nat) ({ cls := "DelegationClosureModel", name := "head", desc := "()I" } : Jvm.MethodName)) ∈ gW := gW_t 706 rfl (by decide +kernel)
set_option maxRecDepth 100000 in
theorem wd_707 : (Jvm.Cond.instanceMethod ({ cls := "DelegationClosureModel", name := "head", desc := "()I" } : Jvm.MethodName)) ∈ gW := gW_t 707 rfl (by decide +kernel)
set_option maxRecDepth 100000 in
theorem wd_708 : (Jvm.Cond.selects "DelegationClosureModel" ({ cls := "DelegationClosureModel", name := "head", desc := "()I" } : Jvm.MethodName) ({ cls := "DelegationClosureModel", name := "head", desc := "()I" } : Jvm.MethodName)) ∈ gW := gW_t 708 rfl (by decide +kernel)
set_option maxRecDepth 100000 in
theorem wd_710 : (Jvm.Cond.methodLink "DelegationClosureLaw" (82 : Nat) ({ cls := "DelegationClosureModel", name := "behind", desc := "(I)I" } : Jvm.MethodName)) ∈ gW := gW_t 710 rfl (by decide +kernel)
set_option maxRecDepth 100000 in
theorem wd_711 : (Jvm.Cond.instanceMethod ({ cls := "DelegationClosureModel", name := "behind", desc := "(I)I" } : Jvm.MethodName)) ∈ gW := gW_t 711 rfl (by decide +kernel)
set_option maxRecDepth 100000 in
theorem wd_712 : (Jvm.Cond.selects "DelegationClosureModel" ({ cls := "DelegationClosureModel", name := "behind", desc := "(I)I" } : Jvm.MethodName) ({ cls := "DelegationClosureModel", name := "behind", desc := "(I)I" } : Jvm.MethodName)) ∈ gW := gW_t 712 rfl (by decide +kernel)
set_option maxRecDepth 100000 in
theorem wd_714 : (Jvm.Cond.methodLink "DelegationClosureLaw" (87 : Nat) ({ cls := "DelegationClosureModel", name := "grants", desc := "(III)Z" } : Jvm.MethodName)) ∈ gW := gW_t 714 rfl (by decide +kernel)
set_option maxRecDepth 100000 in
theorem wd_715 : (Jvm.Cond.instanceMethod ({ cls := "DelegationClosureModel", name := "grants", desc := "(III)Z" } : Jvm.MethodName)) ∈ gW := gW_t 715 rfl (by decide +kernel)
set_option maxRecDepth 100000 in
theorem wd_716 : (Jvm.Cond.selects "DelegationClosureModel" ({ cls := "DelegationClosureModel", name := "grants", desc := "(III)Z" } : Jvm.MethodName) ({ cls := "DelegationClosureModel", name := "grants", desc := "(III)Z" } : Jvm.MethodName)) ∈ gW := gW_t 716 rfl (by decide +kernel)
set_option maxRecDepth 100000 in
theorem wd_718 : (Jvm.Cond.methodLink "DelegationClosureLaw" (91 : Nat) ({ cls := "DelegationClosureModel", name := "used", desc := "()I" } : Jvm.MethodName)) ∈ gW := gW_t 718 rfl (by decide +kernel)
set_option maxRecDepth 100000 in
theorem wd_719 : (Jvm.Cond.instanceMethod ({ cls := "DelegationClosureModel", name := "used", desc := "()I" } : Jvm.MethodName)) ∈ gW := gW_t 719 rfl (by decide +kernel)
set_option maxRecDepth 100000 in
theorem wd_720 : (Jvm.Cond.selects "DelegationClosureModel" ({ cls := "DelegationClosureModel", name := "used", desc := "()I" } : Jvm.MethodName) ({ cls := "DelegationClosureModel", name := "used", desc := "()I" } : Jvm.MethodName)) ∈ gW := gW_t 720 rfl (by decide +kernel)
set_option maxRecDepth 100000 in
theorem wd_722 : (Jvm.Cond.methodLink "DelegationClosureLaw" (96 : Nat) ({ cls := "DelegationClosureModel", name := "delegates", desc := "()Z" } : Jvm.MethodName)) ∈ gW := gW_t 722 rfl (by decide +kernel)
set_option maxRecDepth 100000 in
theorem wd_723 : (Jvm.Cond.instanceMethod ({ cls := "DelegationClosureModel", name := "delegates", desc := "()Z" } : Jvm.MethodName)) ∈ gW := gW_t 723 rfl (by decide +kernel)
set_option maxRecDepth 100000 in
theorem wd_724 : (Jvm.Cond.selects "DelegationClosureModel" ({ cls := "DelegationClosureModel", name := "delegates", desc := "()Z" } : Jvm.MethodName) ({ cls := "DelegationClosureModel", name := "delegates", desc := "()Z" } : Jvm.MethodName)) ∈ gW := gW_t 724 rfl (by decide +kernel)
set_option maxRecDepth 100000 in
theorem nw_726 : (Jvm.Cond.castable "DelegationClosure$Permission" "DelegationClosure$Permission") ∈ lw_tbl := List.mem_append_right _ (List.mem_of_getElem? (i := 726) rfl)
set_option maxRecDepth 100000 in
theorem nw_727 : (Jvm.Cond.castable "DelegationClosure$Naming" "DelegationClosure$Naming") ∈ lw_tbl := List.mem_append_right _ (List.mem_of_getElem? (i := 727) rfl)
set_option maxRecDepth 100000 in
theorem nw_728 : (Jvm.Cond.castable "DelegationClosure$Naming" "DelegationClosure$Certificate") ∈ lw_tbl := List.mem_append_right _ (List.mem_of_getElem? (i := 728) rfl)
set_option maxRecDepth 100000 in
theorem nw_729 : (Jvm.Cond.castable "DelegationClosure$Permission" "DelegationClosure$Certificate") ∈ lw_tbl := List.mem_append_right _ (List.mem_of_getElem? (i := 729) rfl)
end
section
set_option maxRecDepth 100000 in
theorem cw_X_init : Cond.code y_X_init k_X_init 1 none ∈ gW := gW_t 19 rfl (by decide +kernel)
set_option maxRecDepth 100000 in
theorem cw_Obj_init : Cond.code y_Obj_init k_Obj_init 1 none ∈ gW := gW_t 22 rfl (by decide +kernel)
set_option maxRecDepth 100000 in
theorem cw_Reg_init : Cond.code y_Reg_init k_Reg_init 1 none ∈ gW := gW_t 27 rfl (by decide +kernel)
set_option maxRecDepth 100000 in
theorem cw_Mea_init : Cond.code y_Mea_init k_Mea_init 1 none ∈ gW := gW_t 45 rfl (by decide +kernel)
set_option maxRecDepth 100000 in
theorem cw_Led_init : Cond.code y_Led_init k_Led_init 1 none ∈ gW := gW_t 56 rfl (by decide +kernel)
set_option maxRecDepth 100000 in
theorem cw_Chn_init : Cond.code y_Chn_init k_Chn_init 1 none ∈ gW := gW_t 73 rfl (by decide +kernel)
set_option maxRecDepth 100000 in
theorem cw_Tag_init : Cond.code y_Tag_init k_Tag_init 1 none ∈ gW := gW_t 79 rfl (by decide +kernel)
set_option maxRecDepth 100000 in
theorem cw_Spn_init : Cond.code y_Spn_init k_Spn_init 3 none ∈ gW := gW_t 87 rfl (by decide +kernel)
set_option maxRecDepth 100000 in
theorem cw_X_name : Cond.code y_X_name k_X_name 7 (some .int) ∈ gW := gW_t 148 rfl (by decide +kernel)
set_option maxRecDepth 100000 in
theorem cw_X_isKey : Cond.code y_X_isKey k_X_isKey 1 (some .boolean) ∈ gW := gW_t 151 rfl (by decide +kernel)
set_option maxRecDepth 100000 in
theorem cw_X_isSubject : Cond.code y_X_isSubject k_X_isSubject 1 (some .boolean) ∈ gW := gW_t 154 rfl (by decide +kernel)
set_option maxRecDepth 100000 in
theorem cw_X_firstNameOf : Cond.code y_X_firstNameOf k_X_firstNameOf 1 (some .int) ∈ gW := gW_t 157 rfl (by decide +kernel)
set_option maxRecDepth 100000 in
theorem cw_X_secondNameOf : Cond.code y_X_secondNameOf k_X_secondNameOf 1 (some .int) ∈ gW := gW_t 160 rfl (by decide +kernel)
set_option maxRecDepth 100000 in
theorem cw_Reg_isFull : Cond.code y_Reg_isFull k_Reg_isFull 1 (some .boolean) ∈ gW := gW_t 164 rfl (by decide +kernel)
set_option maxRecDepth 100000 in
theorem cw_Nam_init : Cond.code y_Nam_init k_Nam_init 6 none ∈ gW := gW_t 169 rfl (by decide +kernel)
set_option maxRecDepth 100000 in
theorem cw_Cer_init : Cond.code y_Cer_init k_Cer_init 4 none ∈ gW := gW_t 172 rfl (by decide +kernel)
set_option maxRecDepth 100000 in
theorem cw_Reg_add : Cond.code y_Reg_add k_Reg_add 2 (some .int) ∈ gW := gW_t 214 rfl (by decide +kernel)
set_option maxRecDepth 100000 in
theorem cw_X_permit : Cond.code y_X_permit k_X_permit 7 (some .int) ∈ gW := gW_t 219 rfl (by decide +kernel)
set_option maxRecDepth 100000 in
theorem cw_Prm_init : Cond.code y_Prm_init k_Prm_init 6 none ∈ gW := gW_t 224 rfl (by decide +kernel)
set_option maxRecDepth 100000 in
theorem cw_X_tag : Cond.code y_X_tag k_X_tag 6 (some .boolean) ∈ gW := gW_t 262 rfl (by decide +kernel)
set_option maxRecDepth 100000 in
theorem cw_Reg_permission : Cond.code y_Reg_permission k_Reg_permission 4 (some (.object "DelegationClosure$Permission")) ∈ gW := gW_t 266 rfl (by decide +kernel)
set_option maxRecDepth 100000 in
theorem cw_Reg_standing : Cond.code y_Reg_standing k_Reg_standing 3 (some (.object "DelegationClosure$Certificate")) ∈ gW := gW_t 270 rfl (by decide +kernel)
set_option maxRecDepth 100000 in
theorem cw_Tag_set : Cond.code y_Tag_set k_Tag_set 4 none ∈ gW := gW_t 275 rfl (by decide +kernel)
set_option maxRecDepth 100000 in
theorem cw_Spn_set : Cond.code y_Spn_set k_Spn_set 3 none ∈ gW := gW_t 279 rfl (by decide +kernel)
set_option maxRecDepth 100000 in
theorem cw_X_also : Cond.code y_X_also k_X_also 4 (some .int) ∈ gW := gW_t 283 rfl (by decide +kernel)
set_option maxRecDepth 100000 in
theorem cw_Prm_addSubject : Cond.code y_Prm_addSubject k_Prm_addSubject 2 none ∈ gW := gW_t 287 rfl (by decide +kernel)
set_option maxRecDepth 100000 in
theorem cw_X_quorum : Cond.code y_X_quorum k_X_quorum 4 (some .boolean) ∈ gW := gW_t 291 rfl (by decide +kernel)
set_option maxRecDepth 100000 in
theorem cw_X_revoke : Cond.code y_X_revoke k_X_revoke 3 (some .boolean) ∈ gW := gW_t 295 rfl (by decide +kernel)
set_option maxRecDepth 100000 in
theorem cw_X_certificates : Cond.code y_X_certificates k_X_certificates 1 (some .int) ∈ gW := gW_t 300 rfl (by decide +kernel)
set_option maxRecDepth 100000 in
theorem cw_X_meant : Cond.code y_X_meant k_X_meant 5 (some .int) ∈ gW := gW_t 304 rfl (by decide +kernel)
set_option maxRecDepth 100000 in
theorem cw_Mea_workOut : Cond.code y_Mea_workOut k_Mea_workOut 5 none ∈ gW := gW_t 308 rfl (by decide +kernel)
set_option maxRecDepth 100000 in
theorem cw_Arr_fill : Cond.code y_Arr_fill k_Arr_fill 4 none ∈ gW := gW_t 311 rfl (by decide +kernel)
set_option maxRecDepth 100000 in
theorem cw_Mea_improve : Cond.code y_Mea_improve k_Mea_improve 7 (some .boolean) ∈ gW := gW_t 315 rfl (by decide +kernel)
set_option maxRecDepth 100000 in
theorem cw_Spn_contains : Cond.code y_Spn_contains k_Spn_contains 2 (some .boolean) ∈ gW := gW_t 321 rfl (by decide +kernel)
set_option maxRecDepth 100000 in
theorem cw_Mea_improveBy : Cond.code y_Mea_improveBy k_Mea_improveBy 6 (some .boolean) ∈ gW := gW_t 325 rfl (by decide +kernel)
set_option maxRecDepth 100000 in
theorem cw_Mea_placeOf : Cond.code y_Mea_placeOf k_Mea_placeOf 3 (some .int) ∈ gW := gW_t 328 rfl (by decide +kernel)
set_option maxRecDepth 100000 in
theorem cw_Mea_ofSubject : Cond.code y_Mea_ofSubject k_Mea_ofSubject 10 (some .int) ∈ gW := gW_t 332 rfl (by decide +kernel)
set_option maxRecDepth 100000 in
theorem cw_X_keyOf : Cond.code y_X_keyOf k_X_keyOf 1 (some .int) ∈ gW := gW_t 335 rfl (by decide +kernel)
set_option maxRecDepth 100000 in
theorem cw_X_sumOf : Cond.code y_X_sumOf k_X_sumOf 3 (some .int) ∈ gW := gW_t 340 rfl (by decide +kernel)
set_option maxRecDepth 100000 in
theorem cw_Mat_min : Cond.code y_Mat_min k_Mat_min 2 (some .int) ∈ gW := gW_t 343 rfl (by decide +kernel)
set_option maxRecDepth 100000 in
theorem cw_X_cost : Cond.code y_X_cost k_X_cost 4 (some .int) ∈ gW := gW_t 348 rfl (by decide +kernel)
set_option maxRecDepth 100000 in
theorem cw_X_costOrNone : Cond.code y_X_costOrNone k_X_costOrNone 1 (some .int) ∈ gW := gW_t 351 rfl (by decide +kernel)
set_option maxRecDepth 100000 in
theorem cw_X_may : Cond.code y_X_may k_X_may 5 (some .int) ∈ gW := gW_t 355 rfl (by decide +kernel)
set_option maxRecDepth 100000 in
theorem cw_X_isOperation : Cond.code y_X_isOperation k_X_isOperation 1 (some .boolean) ∈ gW := gW_t 358 rfl (by decide +kernel)
set_option maxRecDepth 100000 in
theorem cw_Led_mark : Cond.code y_Led_mark k_Led_mark 7 none ∈ gW := gW_t 362 rfl (by decide +kernel)
set_option maxRecDepth 100000 in
theorem cw_Tag_contains : Cond.code y_Tag_contains k_Tag_contains 3 (some .boolean) ∈ gW := gW_t 368 rfl (by decide +kernel)
set_option maxRecDepth 100000 in
theorem cw_Led_fromOwner : Cond.code y_Led_fromOwner k_Led_fromOwner 6 (some .int) ∈ gW := gW_t 373 rfl (by decide +kernel)
set_option maxRecDepth 100000 in
theorem cw_Led_improve : Cond.code y_Led_improve k_Led_improve 8 (some .boolean) ∈ gW := gW_t 378 rfl (by decide +kernel)
set_option maxRecDepth 100000 in
theorem cw_Led_byCertificate : Cond.code y_Led_byCertificate k_Led_byCertificate 6 (some .int) ∈ gW := gW_t 382 rfl (by decide +kernel)
set_option maxRecDepth 100000 in
theorem cw_Led_bySubject : Cond.code y_Led_bySubject k_Led_bySubject 8 (some .int) ∈ gW := gW_t 386 rfl (by decide +kernel)
set_option maxRecDepth 100000 in
theorem cw_Led_sortIn : Cond.code y_Led_sortIn k_Led_sortIn 4 none ∈ gW := gW_t 393 rfl (by decide +kernel)
set_option maxRecDepth 100000 in
theorem cw_X_holders : Cond.code y_X_holders k_X_holders 6 (some .int) ∈ gW := gW_t 397 rfl (by decide +kernel)
set_option maxRecDepth 100000 in
theorem cw_X_begin : Cond.code y_X_begin k_X_begin 3 (some .boolean) ∈ gW := gW_t 401 rfl (by decide +kernel)
set_option maxRecDepth 100000 in
theorem cw_Chn_start : Cond.code y_Chn_start k_Chn_start 2 none ∈ gW := gW_t 405 rfl (by decide +kernel)
set_option maxRecDepth 100000 in
theorem cw_Chn_putAhead : Cond.code y_Chn_putAhead k_Chn_putAhead 4 none ∈ gW := gW_t 409 rfl (by decide +kernel)
set_option maxRecDepth 100000 in
theorem cw_X_namesIn : Cond.code y_X_namesIn k_X_namesIn 1 (some .int) ∈ gW := gW_t 412 rfl (by decide +kernel)
set_option maxRecDepth 100000 in
theorem cw_Tag_copy : Cond.code y_Tag_copy k_Tag_copy 2 none ∈ gW := gW_t 422 rfl (by decide +kernel)
set_option maxRecDepth 100000 in
theorem cw_Spn_copy : Cond.code y_Spn_copy k_Spn_copy 2 none ∈ gW := gW_t 426 rfl (by decide +kernel)
set_option maxRecDepth 100000 in
theorem cw_X_follow : Cond.code y_X_follow k_X_follow 4 (some .boolean) ∈ gW := gW_t 432 rfl (by decide +kernel)
set_option maxRecDepth 100000 in
theorem cw_Chn_replaceName : Cond.code y_Chn_replaceName k_Chn_replaceName 3 (some .boolean) ∈ gW := gW_t 436 rfl (by decide +kernel)
set_option maxRecDepth 100000 in
theorem cw_Chn_isThere : Cond.code y_Chn_isThere k_Chn_isThere 1 (some .boolean) ∈ gW := gW_t 440 rfl (by decide +kernel)
set_option maxRecDepth 100000 in
theorem cw_Spn_narrowTo : Cond.code y_Spn_narrowTo k_Spn_narrowTo 2 none ∈ gW := gW_t 444 rfl (by decide +kernel)
set_option maxRecDepth 100000 in
theorem cw_Mat_max : Cond.code y_Mat_max k_Mat_max 2 (some .int) ∈ gW := gW_t 447 rfl (by decide +kernel)
set_option maxRecDepth 100000 in
theorem cw_Chn_passOn : Cond.code y_Chn_passOn k_Chn_passOn 2 (some .boolean) ∈ gW := gW_t 452 rfl (by decide +kernel)
set_option maxRecDepth 100000 in
theorem cw_Tag_narrowTo : Cond.code y_Tag_narrowTo k_Tag_narrowTo 2 none ∈ gW := gW_t 456 rfl (by decide +kernel)
set_option maxRecDepth 100000 in
theorem cw_X_head : Cond.code y_X_head k_X_head 1 (some .int) ∈ gW := gW_t 461 rfl (by decide +kernel)
set_option maxRecDepth 100000 in
theorem cw_X_behind : Cond.code y_X_behind k_X_behind 2 (some .int) ∈ gW := gW_t 466 rfl (by decide +kernel)
set_option maxRecDepth 100000 in
theorem cw_X_grants : Cond.code y_X_grants k_X_grants 4 (some .boolean) ∈ gW := gW_t 470 rfl (by decide +kernel)
set_option maxRecDepth 100000 in
theorem cw_Chn_allows : Cond.code y_Chn_allows k_Chn_allows 4 (some .boolean) ∈ gW := gW_t 474 rfl (by decide +kernel)
set_option maxRecDepth 100000 in
theorem cw_X_used : Cond.code y_X_used k_X_used 1 (some .int) ∈ gW := gW_t 480 rfl (by decide +kernel)
set_option maxRecDepth 100000 in
theorem cw_X_delegates : Cond.code y_X_delegates k_X_delegates 1 (some .boolean) ∈ gW := gW_t 484 rfl (by decide +kernel)
set_option maxRecDepth 100000 in
theorem cw_Mod_init : Cond.code y_Mod_init k_Mod_init 1 none ∈ gW := gW_t 489 rfl (by decide +kernel)
set_option maxRecDepth 100000 in
theorem cw_Mod_name : Cond.code y_Mod_name k_Mod_name 7 (some .int) ∈ gW := gW_t 576 rfl (by decide +kernel)
set_option maxRecDepth 100000 in
theorem cw_Mod_isSubject : Cond.code y_Mod_isSubject k_Mod_isSubject 1 (some .boolean) ∈ gW := gW_t 579 rfl (by decide +kernel)
set_option maxRecDepth 100000 in
theorem cw_Mod_nameOf : Cond.code y_Mod_nameOf k_Mod_nameOf 3 (some .int) ∈ gW := gW_t 582 rfl (by decide +kernel)
set_option maxRecDepth 100000 in
theorem cw_Mod_make : Cond.code y_Mod_make k_Mod_make 7 (some .int) ∈ gW := gW_t 586 rfl (by decide +kernel)
set_option maxRecDepth 100000 in
theorem cw_Mod_permit : Cond.code y_Mod_permit k_Mod_permit 7 (some .int) ∈ gW := gW_t 592 rfl (by decide +kernel)
set_option maxRecDepth 100000 in
theorem cw_Mod_tag : Cond.code y_Mod_tag k_Mod_tag 5 (some .boolean) ∈ gW := gW_t 596 rfl (by decide +kernel)
set_option maxRecDepth 100000 in
theorem cw_Mod_isPermission : Cond.code y_Mod_isPermission k_Mod_isPermission 2 (some .boolean) ∈ gW := gW_t 600 rfl (by decide +kernel)
set_option maxRecDepth 100000 in
theorem cw_Mod_isThere : Cond.code y_Mod_isThere k_Mod_isThere 2 (some .boolean) ∈ gW := gW_t 604 rfl (by decide +kernel)
set_option maxRecDepth 100000 in
theorem cw_Mod_also : Cond.code y_Mod_also k_Mod_also 3 (some .int) ∈ gW := gW_t 608 rfl (by decide +kernel)
set_option maxRecDepth 100000 in
theorem cw_Mod_quorum : Cond.code y_Mod_quorum k_Mod_quorum 3 (some .boolean) ∈ gW := gW_t 612 rfl (by decide +kernel)
set_option maxRecDepth 100000 in
theorem cw_Mod_revoke : Cond.code y_Mod_revoke k_Mod_revoke 2 (some .boolean) ∈ gW := gW_t 616 rfl (by decide +kernel)
set_option maxRecDepth 100000 in
theorem cw_Mod_certificates : Cond.code y_Mod_certificates k_Mod_certificates 1 (some .int) ∈ gW := gW_t 620 rfl (by decide +kernel)
set_option maxRecDepth 100000 in
theorem cw_Mod_meant : Cond.code y_Mod_meant k_Mod_meant 5 (some .int) ∈ gW := gW_t 624 rfl (by decide +kernel)
set_option maxRecDepth 100000 in
theorem cw_Mod_findMeanings : Cond.code y_Mod_findMeanings k_Mod_findMeanings 4 none ∈ gW := gW_t 628 rfl (by decide +kernel)
set_option maxRecDepth 100000 in
theorem cw_Mod_useNames : Cond.code y_Mod_useNames k_Mod_useNames 7 (some .boolean) ∈ gW := gW_t 632 rfl (by decide +kernel)
set_option maxRecDepth 100000 in
theorem cw_Mod_isValid : Cond.code y_Mod_isValid k_Mod_isValid 3 (some .boolean) ∈ gW := gW_t 636 rfl (by decide +kernel)
set_option maxRecDepth 100000 in
theorem cw_Mod_costOf : Cond.code y_Mod_costOf k_Mod_costOf 9 (some .int) ∈ gW := gW_t 640 rfl (by decide +kernel)
set_option maxRecDepth 100000 in
theorem cw_Mod_keyOf : Cond.code y_Mod_keyOf k_Mod_keyOf 1 (some .int) ∈ gW := gW_t 643 rfl (by decide +kernel)
set_option maxRecDepth 100000 in
theorem cw_Mod_sum : Cond.code y_Mod_sum k_Mod_sum 2 (some .int) ∈ gW := gW_t 646 rfl (by decide +kernel)
set_option maxRecDepth 100000 in
theorem cw_Mod_cost : Cond.code y_Mod_cost k_Mod_cost 5 (some .int) ∈ gW := gW_t 650 rfl (by decide +kernel)
set_option maxRecDepth 100000 in
theorem cw_Mod_may : Cond.code y_Mod_may k_Mod_may 6 (some .int) ∈ gW := gW_t 654 rfl (by decide +kernel)
set_option maxRecDepth 100000 in
theorem cw_Mod_findLeading : Cond.code y_Mod_findLeading k_Mod_findLeading 9 none ∈ gW := gW_t 658 rfl (by decide +kernel)
set_option maxRecDepth 100000 in
theorem cw_Mod_counts : Cond.code y_Mod_counts k_Mod_counts 5 (some .boolean) ∈ gW := gW_t 662 rfl (by decide +kernel)
set_option maxRecDepth 100000 in
theorem cw_Mod_byCertificate : Cond.code y_Mod_byCertificate k_Mod_byCertificate 7 (some .int) ∈ gW := gW_t 666 rfl (by decide +kernel)
set_option maxRecDepth 100000 in
theorem cw_Mod_bySubject : Cond.code y_Mod_bySubject k_Mod_bySubject 7 (some .int) ∈ gW := gW_t 670 rfl (by decide +kernel)
set_option maxRecDepth 100000 in
theorem cw_Mod_leadOf : Cond.code y_Mod_leadOf k_Mod_leadOf 4 (some .int) ∈ gW := gW_t 674 rfl (by decide +kernel)
set_option maxRecDepth 100000 in
theorem cw_Mod_leastOf : Cond.code y_Mod_leastOf k_Mod_leastOf 10 (some .int) ∈ gW := gW_t 677 rfl (by decide +kernel)
set_option maxRecDepth 100000 in
theorem cw_Mod_holders : Cond.code y_Mod_holders k_Mod_holders 6 (some .int) ∈ gW := gW_t 681 rfl (by decide +kernel)
set_option maxRecDepth 100000 in
theorem cw_Mod_begin : Cond.code y_Mod_begin k_Mod_begin 2 (some .boolean) ∈ gW := gW_t 686 rfl (by decide +kernel)
set_option maxRecDepth 100000 in
theorem cw_Mod_place : Cond.code y_Mod_place k_Mod_place 4 none ∈ gW := gW_t 690 rfl (by decide +kernel)
set_option maxRecDepth 100000 in
theorem cw_Mod_namesOf : Cond.code y_Mod_namesOf k_Mod_namesOf 1 (some .int) ∈ gW := gW_t 693 rfl (by decide +kernel)
set_option maxRecDepth 100000 in
theorem cw_Mod_follow : Cond.code y_Mod_follow k_Mod_follow 2 (some .boolean) ∈ gW := gW_t 697 rfl (by decide +kernel)
set_option maxRecDepth 100000 in
theorem cw_Mod_fits : Cond.code y_Mod_fits k_Mod_fits 2 (some .boolean) ∈ gW := gW_t 701 rfl (by decide +kernel)
set_option maxRecDepth 100000 in
theorem cw_Mod_dropName : Cond.code y_Mod_dropName k_Mod_dropName 2 none ∈ gW := gW_t 705 rfl (by decide +kernel)
set_option maxRecDepth 100000 in
theorem cw_Mod_head : Cond.code y_Mod_head k_Mod_head 1 (some .int) ∈ gW := gW_t 709 rfl (by decide +kernel)
set_option maxRecDepth 100000 in
theorem cw_Mod_behind : Cond.code y_Mod_behind k_Mod_behind 2 (some .int) ∈ gW := gW_t 713 rfl (by decide +kernel)
set_option maxRecDepth 100000 in
theorem cw_Mod_grants : Cond.code y_Mod_grants k_Mod_grants 4 (some .boolean) ∈ gW := gW_t 717 rfl (by decide +kernel)
set_option maxRecDepth 100000 in
theorem cw_Mod_used : Cond.code y_Mod_used k_Mod_used 1 (some .int) ∈ gW := gW_t 721 rfl (by decide +kernel)
set_option maxRecDepth 100000 in
theorem cw_Mod_delegates : Cond.code y_Mod_delegates k_Mod_delegates 1 (some .boolean) ∈ gW := gW_t 725 rfl (by decide +kernel)
theorem sl_Mea_improve : Cond.selects "DelegationClosure$Meanings" y_Mea_improve y_Mea_improve ∈ gW := gW_s 0 rfl (by decide +kernel)
theorem sl_Mea_improveBy : Cond.selects "DelegationClosure$Meanings" y_Mea_improveBy y_Mea_improveBy ∈ gW := gW_s 1 rfl (by decide +kernel)
theorem sl_Led_improve : Cond.selects "DelegationClosure$Leads" y_Led_improve y_Led_improve ∈ gW := gW_s 2 rfl (by decide +kernel)
theorem sl_Led_byCertificate : Cond.selects "DelegationClosure$Leads" y_Led_byCertificate y_Led_byCertificate ∈ gW := gW_s 3 rfl (by decide +kernel)
theorem sl_Led_bySubject : Cond.selects "DelegationClosure$Leads" y_Led_bySubject y_Led_bySubject ∈ gW := gW_s 4 rfl (by decide +kernel)
theorem sl_Led_sortIn : Cond.selects "DelegationClosure$Leads" y_Led_sortIn y_Led_sortIn ∈ gW := gW_s 5 rfl (by decide +kernel)
theorem sl_Chn_putAhead : Cond.selects "DelegationClosure$Chain" y_Chn_putAhead y_Chn_putAhead ∈ gW := gW_s 6 rfl (by decide +kernel)
theorem sl_Mod_make : Cond.selects "DelegationClosureModel" y_Mod_make y_Mod_make ∈ gW := gW_s 7 rfl (by decide +kernel)
theorem sl_Mod_isPermission : Cond.selects "DelegationClosureModel" y_Mod_isPermission y_Mod_isPermission ∈ gW := gW_s 8 rfl (by decide +kernel)
theorem sl_Mod_isThere : Cond.selects "DelegationClosureModel" y_Mod_isThere y_Mod_isThere ∈ gW := gW_s 9 rfl (by decide +kernel)
theorem sl_Mod_findMeanings : Cond.selects "DelegationClosureModel" y_Mod_findMeanings y_Mod_findMeanings ∈ gW := gW_s 10 rfl (by decide +kernel)
theorem sl_Mod_useNames : Cond.selects "DelegationClosureModel" y_Mod_useNames y_Mod_useNames ∈ gW := gW_s 11 rfl (by decide +kernel)
theorem sl_Mod_isValid : Cond.selects "DelegationClosureModel" y_Mod_isValid y_Mod_isValid ∈ gW := gW_s 12 rfl (by decide +kernel)
theorem sl_Mod_costOf : Cond.selects "DelegationClosureModel" y_Mod_costOf y_Mod_costOf ∈ gW := gW_s 13 rfl (by decide +kernel)
theorem sl_Mod_findLeading : Cond.selects "DelegationClosureModel" y_Mod_findLeading y_Mod_findLeading ∈ gW := gW_s 14 rfl (by decide +kernel)
theorem sl_Mod_counts : Cond.selects "DelegationClosureModel" y_Mod_counts y_Mod_counts ∈ gW := gW_s 15 rfl (by decide +kernel)
theorem sl_Mod_byCertificate : Cond.selects "DelegationClosureModel" y_Mod_byCertificate y_Mod_byCertificate ∈ gW := gW_s 16 rfl (by decide +kernel)
theorem sl_Mod_bySubject : Cond.selects "DelegationClosureModel" y_Mod_bySubject y_Mod_bySubject ∈ gW := gW_s 17 rfl (by decide +kernel)
theorem sl_Mod_leadOf : Cond.selects "DelegationClosureModel" y_Mod_leadOf y_Mod_leadOf ∈ gW := gW_s 18 rfl (by decide +kernel)
theorem sl_Mod_place : Cond.selects "DelegationClosureModel" y_Mod_place y_Mod_place ∈ gW := gW_s 19 rfl (by decide +kernel)
theorem sl_Mod_fits : Cond.selects "DelegationClosureModel" y_Mod_fits y_Mod_fits ∈ gW := gW_s 20 rfl (by decide +kernel)
theorem sl_Mod_dropName : Cond.selects "DelegationClosureModel" y_Mod_dropName y_Mod_dropName ∈ gW := gW_s 21 rfl (by decide +kernel)
theorem lay_X {c : Cond} : ∀ w, w ∈ u_ws n_X T_X 4 → w ∈ c :: gW := by
  intro w hw
  obtain ⟨k, hk, rfl⟩ := List.mem_map.mp hw
  have hk := List.mem_range.mp hk
  rcases (show k = 0 ∨ k = 1 ∨ k = 2 ∨ k = 3 by omega) with rfl | rfl | rfl | rfl
  · exact List.mem_cons_of_mem _ wd_136
  · exact List.mem_cons_of_mem _ wd_138
  · exact List.mem_cons_of_mem _ wd_140
  · exact List.mem_cons_of_mem _ wd_142
theorem lay_Reg {c : Cond} : ∀ w, w ∈ u_ws n_Reg T_Reg 2 → w ∈ c :: gW := by
  intro w hw
  obtain ⟨k, hk, rfl⟩ := List.mem_map.mp hw
  have hk := List.mem_range.mp hk
  rcases (show k = 0 ∨ k = 1 by omega) with rfl | rfl
  · exact List.mem_cons_of_mem _ wd_36
  · exact List.mem_cons_of_mem _ wd_38
theorem lay_Mea {c : Cond} : ∀ w, w ∈ u_ws n_Mea T_Mea 1 → w ∈ c :: gW := by
  intro w hw
  obtain ⟨k, hk, rfl⟩ := List.mem_map.mp hw
  have hk := List.mem_range.mp hk
  rcases (show k = 0 by omega) with rfl
  · exact List.mem_cons_of_mem _ wd_48
theorem lay_Led {c : Cond} : ∀ w, w ∈ u_ws n_Led T_Led 3 → w ∈ c :: gW := by
  intro w hw
  obtain ⟨k, hk, rfl⟩ := List.mem_map.mp hw
  have hk := List.mem_range.mp hk
  rcases (show k = 0 ∨ k = 1 ∨ k = 2 by omega) with rfl | rfl | rfl
  · exact List.mem_cons_of_mem _ wd_61
  · exact List.mem_cons_of_mem _ wd_63
  · exact List.mem_cons_of_mem _ wd_65
theorem lay_Chn {c : Cond} : ∀ w, w ∈ u_ws n_Chn T_Chn 7 → w ∈ c :: gW := by
  intro w hw
  obtain ⟨k, hk, rfl⟩ := List.mem_map.mp hw
  have hk := List.mem_range.mp hk
  rcases (show k = 0 ∨ k = 1 ∨ k = 2 ∨ k = 3 ∨ k = 4 ∨ k = 5 ∨ k = 6 by omega) with rfl | rfl | rfl | rfl | rfl | rfl | rfl
  · exact List.mem_cons_of_mem _ wd_117
  · exact List.mem_cons_of_mem _ wd_119
  · exact List.mem_cons_of_mem _ wd_121
  · exact List.mem_cons_of_mem _ wd_123
  · exact List.mem_cons_of_mem _ wd_125
  · exact List.mem_cons_of_mem _ wd_127
  · exact List.mem_cons_of_mem _ wd_129
theorem lay_Tag {c : Cond} : ∀ w, w ∈ u_ws n_Tag T_Tag 2 → w ∈ c :: gW := by
  intro w hw
  obtain ⟨k, hk, rfl⟩ := List.mem_map.mp hw
  have hk := List.mem_range.mp hk
  rcases (show k = 0 ∨ k = 1 by omega) with rfl | rfl
  · exact List.mem_cons_of_mem _ wd_98
  · exact List.mem_cons_of_mem _ wd_100
theorem lay_Spn {c : Cond} : ∀ w, w ∈ u_ws n_Spn T_Spn 2 → w ∈ c :: gW := by
  intro w hw
  obtain ⟨k, hk, rfl⟩ := List.mem_map.mp hw
  have hk := List.mem_range.mp hk
  rcases (show k = 0 ∨ k = 1 by omega) with rfl | rfl
  · exact List.mem_cons_of_mem _ wd_91
  · exact List.mem_cons_of_mem _ wd_93
theorem lay_Nam {c : Cond} : ∀ w, w ∈ u_ws n_Nam T_Nam 5 → w ∈ c :: gW := by
  intro w hw
  obtain ⟨k, hk, rfl⟩ := List.mem_map.mp hw
  have hk := List.mem_range.mp hk
  rcases (show k = 0 ∨ k = 1 ∨ k = 2 ∨ k = 3 ∨ k = 4 by omega) with rfl | rfl | rfl | rfl | rfl
  · exact List.mem_cons_of_mem _ wd_204
  · exact List.mem_cons_of_mem _ wd_206
  · exact List.mem_cons_of_mem _ wd_208
  · exact List.mem_cons_of_mem _ wd_200
  · exact List.mem_cons_of_mem _ wd_202
theorem lay_Prm {c : Cond} : ∀ w, w ∈ u_ws n_Prm T_Prm 8 → w ∈ c :: gW := by
  intro w hw
  obtain ⟨k, hk, rfl⟩ := List.mem_map.mp hw
  have hk := List.mem_range.mp hk
  rcases (show k = 0 ∨ k = 1 ∨ k = 2 ∨ k = 3 ∨ k = 4 ∨ k = 5 ∨ k = 6 ∨ k = 7 by omega) with rfl | rfl | rfl | rfl | rfl | rfl | rfl | rfl
  · exact List.mem_cons_of_mem _ wd_255
  · exact List.mem_cons_of_mem _ wd_256
  · exact List.mem_cons_of_mem _ wd_257
  · exact List.mem_cons_of_mem _ wd_245
  · exact List.mem_cons_of_mem _ wd_247
  · exact List.mem_cons_of_mem _ wd_249
  · exact List.mem_cons_of_mem _ wd_251
  · exact List.mem_cons_of_mem _ wd_253
theorem lay_Mod {c : Cond} : ∀ w, w ∈ u_ws n_Mod T_Mod 27 → w ∈ c :: gW := by
  intro w hw
  obtain ⟨k, hk, rfl⟩ := List.mem_map.mp hw
  have hk := List.mem_range.mp hk
  rcases (show k = 0 ∨ k = 1 ∨ k = 2 ∨ k = 3 ∨ k = 4 ∨ k = 5 ∨ k = 6 ∨ k = 7 ∨ k = 8 ∨ k = 9 ∨ k = 10 ∨ k = 11 ∨ k = 12 ∨ k = 13 ∨ k = 14 ∨ k = 15 ∨ k = 16 ∨ k = 17 ∨ k = 18 ∨ k = 19 ∨ k = 20 ∨ k = 21 ∨ k = 22 ∨ k = 23 ∨ k = 24 ∨ k = 25 ∨ k = 26 by omega) with rfl | rfl | rfl | rfl | rfl | rfl | rfl | rfl | rfl | rfl | rfl | rfl | rfl | rfl | rfl | rfl | rfl | rfl | rfl | rfl | rfl | rfl | rfl | rfl | rfl | rfl | rfl
  · exact List.mem_cons_of_mem _ wd_518
  · exact List.mem_cons_of_mem _ wd_520
  · exact List.mem_cons_of_mem _ wd_522
  · exact List.mem_cons_of_mem _ wd_524
  · exact List.mem_cons_of_mem _ wd_526
  · exact List.mem_cons_of_mem _ wd_528
  · exact List.mem_cons_of_mem _ wd_530
  · exact List.mem_cons_of_mem _ wd_532
  · exact List.mem_cons_of_mem _ wd_534
  · exact List.mem_cons_of_mem _ wd_536
  · exact List.mem_cons_of_mem _ wd_538
  · exact List.mem_cons_of_mem _ wd_540
  · exact List.mem_cons_of_mem _ wd_542
  · exact List.mem_cons_of_mem _ wd_544
  · exact List.mem_cons_of_mem _ wd_546
  · exact List.mem_cons_of_mem _ wd_548
  · exact List.mem_cons_of_mem _ wd_550
  · exact List.mem_cons_of_mem _ wd_552
  · exact List.mem_cons_of_mem _ wd_554
  · exact List.mem_cons_of_mem _ wd_556
  · exact List.mem_cons_of_mem _ wd_558
  · exact List.mem_cons_of_mem _ wd_560
  · exact List.mem_cons_of_mem _ wd_562
  · exact List.mem_cons_of_mem _ wd_564
  · exact List.mem_cons_of_mem _ wd_566
  · exact List.mem_cons_of_mem _ wd_568
  · exact List.mem_cons_of_mem _ wd_570
theorem wd_objcode : Cond.code Lib.objectInit ⟨#[0xb1]⟩ 1 none ∈ gW := cw_Obj_init
theorem wd_math_max : Cond.code Lib.Math.max.name Lib.Math.max.code 2 (some .int) ∈ gW := cw_Mat_max
theorem wd_math_min : Cond.code Lib.Math.min.name Lib.Math.min.code 2 (some .int) ∈ gW := cw_Mat_min
end
section
-- Costs 0 .. 999, and 1000 in place of a cost where there is none. Sums cut off at 999.
def dm_s (a b : Nat) : Nat := if 1000 ≤ a ∨ 1000 ≤ b then 1000 else if 999 < a + b then 999 else a + b
theorem dm_s_le (a b : Nat) : dm_s a b ≤ 1000 := by
  unfold dm_s
  split
  · omega
  · split <;> omega
theorem dm_s_comm (a b : Nat) : dm_s a b = dm_s b a := by
  unfold dm_s
  split <;> split <;> (try split) <;> (try split) <;> omega
theorem dm_s_assoc (a b c : Nat) : dm_s (dm_s a b) c = dm_s a (dm_s b c) := by
  unfold dm_s
  (repeat' split) <;> omega
-- a function of costs that never gives less than what it is made of
def dm_Sup (F : (Nat → Nat) → Nat) : Prop := ∀ (v w : Nat → Nat) (q : Nat), (∀ j, min (w j) q ≤ v j) → min (F w) q ≤ F v
theorem dm_Sup.mono {F : (Nat → Nat) → Nat} (h : dm_Sup F) {v w : Nat → Nat} (hw : ∀ j, w j ≤ v j) : F w ≤ F v := by
  have h1 := h v w (F w) (fun j => Nat.le_trans (Nat.min_le_left _ _) (hw j))
  rwa [Nat.min_self] at h1
theorem dm_Sup.cst (k : Nat) : dm_Sup (fun _ => k) := fun _ _ _ _ => Nat.min_le_left _ _
theorem dm_Sup.var (j : Nat) : dm_Sup (fun v => v j) := fun _ _ _ h => h j
theorem dm_Sup.mn {F G : (Nat → Nat) → Nat} (hF : dm_Sup F) (hG : dm_Sup G) : dm_Sup (fun v => min (F v) (G v)) := by
  intro v w q h
  have h1 := hF v w q h
  have h2 := hG v w q h
  show min (min (F w) (G w)) q ≤ min (F v) (G v)
  omega
theorem dm_Sup.sm {F G : (Nat → Nat) → Nat} (hF : dm_Sup F) (hG : dm_Sup G) : dm_Sup (fun v => dm_s (F v) (G v)) := by
  intro v w q h
  have h1 := hF v w q h
  have h2 := hG v w q h
  show min (dm_s (F w) (G w)) q ≤ dm_s (F v) (G v)
  unfold dm_s
  (repeat' split) <;> omega
theorem dm_Sup.ite {F G : (Nat → Nat) → Nat} (p : Prop) [Decidable p] (hF : dm_Sup F) (hG : dm_Sup G) : dm_Sup (fun v => if p then F v else G v) := by
  by_cases h : p
  · simp only [if_pos h]; exact hF
  · simp only [if_neg h]; exact hG
theorem dm_Sup.eq {F G : (Nat → Nat) → Nat} (hF : dm_Sup F) (h : ∀ v, G v = F v) : dm_Sup G := by
  have e : G = F := funext h
  rw [e]; exact hF
-- rules: a target, and what the rule gives
abbrev dm_R : Type := List (Nat × ((Nat → Nat) → Nat))
def dm_pass : dm_R → (Nat → Nat) → (Nat → Nat)
  | [], v => v
  | r :: R, v => dm_pass R (va_up v r.1 (min (v r.1) (r.2 v)))
def dm_flag : dm_R → (Nat → Nat) → Bool
  | [], _ => false
  | r :: R, v => decide (r.2 v < v r.1) || dm_flag R (va_up v r.1 (min (v r.1) (r.2 v)))
def dm_F : dm_R → Nat → (Nat → Nat) → Nat
  | [], _, _ => 1000
  | r :: R, i, v => if r.1 = i then min (r.2 v) (dm_F R i v) else dm_F R i v
def dm_D (R : dm_R) : Nat → Nat → Nat
  | 0, _ => 1000
  | r + 1, i => min (dm_D R r i) (dm_F R i (dm_D R r))
def dm_ok (R : dm_R) : Prop := ∀ r, r ∈ R → dm_Sup r.2
def dm_in (R : dm_R) (n : Nat) : Prop := ∀ r, r ∈ R → r.1 < n
def dm_post (R : dm_R) (v : Nat → Nat) : Prop := ∀ r, r ∈ R → v r.1 ≤ r.2 v
theorem dm_up_le (v : Nat → Nat) (t x j : Nat) : va_up v t (min (v t) x) j ≤ v j := by
  unfold va_up
  by_cases h : j = t
  · rw [if_pos h, h]; exact Nat.min_le_left _ _
  · rw [if_neg h]; exact Nat.le_refl _
theorem dm_pass_le : ∀ (R : dm_R) (v : Nat → Nat) (j : Nat), dm_pass R v j ≤ v j
  | [], _, _ => Nat.le_refl _
  | r :: R, v, j => Nat.le_trans (dm_pass_le R _ j) (dm_up_le v r.1 (r.2 v) j)
theorem dm_pass_ge : ∀ (R : dm_R) (v P : Nat → Nat), dm_ok R → dm_post R P → (∀ j, P j ≤ v j) → ∀ j, P j ≤ dm_pass R v j
  | [], _, _, _, _, h, j => h j
  | r :: R, v, P, hR, hp, h, j => by
    refine dm_pass_ge R _ P (fun x hx => hR x (List.mem_cons_of_mem _ hx)) (fun x hx => hp x (List.mem_cons_of_mem _ hx)) (fun i => ?_) j
    unfold va_up
    by_cases hi : i = r.1
    · rw [if_pos hi, hi]
      have h1 := h r.1
      have h2 := hp r List.mem_cons_self
      have h3 := (hR r List.mem_cons_self).mono h
      omega
    · rw [if_neg hi]; exact h i
theorem dm_F_le : ∀ (R : dm_R) (v : Nat → Nat) (r : Nat × ((Nat → Nat) → Nat)), r ∈ R → dm_F R r.1 v ≤ r.2 v
  | [], _, _, h => by cases h
  | x :: R, v, r, h => by
    unfold dm_F
    rcases List.mem_cons.mp h with e | e
    · subst e; rw [if_pos rfl]; exact Nat.min_le_left _ _
    · have h1 := dm_F_le R v r e
      by_cases hx : x.1 = r.1
      · rw [if_pos hx]; exact Nat.le_trans (Nat.min_le_right _ _) h1
      · rw [if_neg hx]; exact h1
theorem dm_F_ge : ∀ (R : dm_R) (v : Nat → Nat) (i b : Nat), b ≤ 1000 → (∀ r, r ∈ R → r.1 = i → b ≤ r.2 v) → b ≤ dm_F R i v
  | [], _, _, _, hb, _ => hb
  | x :: R, v, i, b, hb, h => by
    unfold dm_F
    have h1 := dm_F_ge R v i b hb (fun r hr => h r (List.mem_cons_of_mem _ hr))
    by_cases hx : x.1 = i
    · rw [if_pos hx]
      have h2 := h x List.mem_cons_self hx
      omega
    · rw [if_neg hx]; exact h1
theorem dm_F_sup : ∀ (R : dm_R) (i : Nat), dm_ok R → dm_Sup (dm_F R i)
  | [], _, _ => dm_Sup.cst 1000
  | x :: R, i, h => by
    have h1 := dm_F_sup R i (fun r hr => h r (List.mem_cons_of_mem _ hr))
    by_cases hx : x.1 = i
    · refine ((h x List.mem_cons_self).mn h1).eq (fun v => ?_)
      show (if x.1 = i then min (x.2 v) (dm_F R i v) else dm_F R i v) = _
      rw [if_pos hx]
    · refine h1.eq (fun v => ?_)
      show (if x.1 = i then min (x.2 v) (dm_F R i v) else dm_F R i v) = _
      rw [if_neg hx]
theorem dm_D_le (R : dm_R) : ∀ (r i : Nat), dm_D R r i ≤ 1000
  | 0, _ => Nat.le_refl _
  | r + 1, i => Nat.le_trans (Nat.min_le_left _ _) (dm_D_le R r i)
theorem dm_D_anti1 (R : dm_R) (r i : Nat) : dm_D R (r + 1) i ≤ dm_D R r i := Nat.min_le_left _ _
theorem dm_D_anti (R : dm_R) {a b : Nat} (h : a ≤ b) (i : Nat) : dm_D R b i ≤ dm_D R a i := by
  induction h with
  | refl => exact Nat.le_refl _
  | step _ ih => exact Nat.le_trans (dm_D_anti1 R _ i) ih
theorem dm_D_out {R : dm_R} {n : Nat} (hn : dm_in R n) {i : Nat} (hi : n ≤ i) : ∀ r, dm_D R r i = 1000
  | 0 => rfl
  | r + 1 => by
    have h1 := dm_D_out hn hi r
    have h2 : 1000 ≤ dm_F R i (dm_D R r) := dm_F_ge R _ i 1000 (Nat.le_refl _) (fun x hx e => by have := hn x hx; omega)
    show min (dm_D R r i) (dm_F R i (dm_D R r)) = 1000
    omega
-- what a post-fixed point is below stays above it
theorem dm_D_ge {R : dm_R} {P : Nat → Nat} (hR : dm_ok R) (hp : dm_post R P) (h : ∀ j, P j ≤ 1000) : ∀ r j, P j ≤ dm_D R r j
  | 0, j => h j
  | r + 1, j => by
    have ih := dm_D_ge hR hp h r
    have h1 : P j ≤ dm_F R j (dm_D R r) := dm_F_ge R _ j (P j) (h j) (fun x hx e => by
      subst e
      exact Nat.le_trans (hp x hx) ((hR x hx).mono ih))
    have h2 := ih j
    show P j ≤ min (dm_D R r j) (dm_F R j (dm_D R r))
    omega
-- counting
noncomputable def dm_cnt (p : Nat → Prop) : Nat → Nat
  | 0 => 0
  | n + 1 => dm_cnt p n + @ite Nat (p n) (Classical.propDecidable (p n)) 1 0
theorem dm_cnt_t {p : Nat → Prop} {n : Nat} (h : p n) : dm_cnt p (n + 1) = dm_cnt p n + 1 := by
  show dm_cnt p n + @ite Nat (p n) (Classical.propDecidable (p n)) 1 0 = _
  rw [if_pos h]
theorem dm_cnt_f {p : Nat → Prop} {n : Nat} (h : ¬ p n) : dm_cnt p (n + 1) = dm_cnt p n := by
  show dm_cnt p n + @ite Nat (p n) (Classical.propDecidable (p n)) 1 0 = _
  rw [if_neg h]; rfl
theorem dm_cnt_le (p : Nat → Prop) : ∀ n, dm_cnt p n ≤ n
  | 0 => Nat.le_refl _
  | n + 1 => by
    have ih := dm_cnt_le p n
    by_cases h : p n
    · rw [dm_cnt_t h]; omega
    · rw [dm_cnt_f h]; omega
theorem dm_cnt_mono {p q : Nat → Prop} : ∀ n, (∀ i, i < n → p i → q i) → dm_cnt p n ≤ dm_cnt q n
  | 0, _ => Nat.le_refl _
  | n + 1, h => by
    have ih := dm_cnt_mono (p := p) (q := q) n (fun i hi => h i (by omega))
    by_cases hp : p n
    · rw [dm_cnt_t hp, dm_cnt_t (h n (by omega) hp)]; omega
    · rw [dm_cnt_f hp]
      by_cases hq : q n
      · rw [dm_cnt_t hq]; omega
      · rw [dm_cnt_f hq]; exact ih
theorem dm_cnt_lt {p q : Nat → Prop} : ∀ n, (∀ i, i < n → p i → q i) → ∀ k, k < n → q k → ¬ p k → dm_cnt p n + 1 ≤ dm_cnt q n
  | 0, _, k, hk, _, _ => by omega
  | n + 1, h, k, hk, hq, hp => by
    by_cases e : k = n
    · subst e
      rw [dm_cnt_t hq, dm_cnt_f hp]
      have := dm_cnt_mono (p := p) (q := q) k (fun i hi => h i (by omega))
      omega
    · have ih := dm_cnt_lt (p := p) (q := q) n (fun i hi => h i (by omega)) k (by omega) hq hp
      by_cases hpn : p n
      · rw [dm_cnt_t hpn, dm_cnt_t (h n (by omega) hpn)]; omega
      · rw [dm_cnt_f hpn]
        by_cases hqn : q n
        · rw [dm_cnt_t hqn]; omega
        · rw [dm_cnt_f hqn]; exact ih
theorem dm_cnt_all {p : Nat → Prop} : ∀ n, n ≤ dm_cnt p n → ∀ i, i < n → p i
  | 0, _, i, hi => by omega
  | n + 1, h, i, hi => by
    have h1 := dm_cnt_le p n
    by_cases hp : p n
    · rw [dm_cnt_t hp] at h
      by_cases e : i = n
      · rw [e]; exact hp
      · exact dm_cnt_all n (by omega) i (by omega)
    · rw [dm_cnt_f hp] at h; omega
-- a least value among those that hold p, where one holds it
theorem dm_min {p : Nat → Prop} (f : Nat → Nat) : ∀ b k, p k → f k ≤ b → ∃ i, p i ∧ ∀ j, p j → f i ≤ f j
  | 0, k, hk, hb => ⟨k, hk, fun j _ => by omega⟩
  | b + 1, k, hk, hb => by
    by_cases h : ∃ j, p j ∧ f j < f k
    · obtain ⟨j, hj, hlt⟩ := h
      exact dm_min f b j hj (by omega)
    · exact ⟨k, hk, fun j hj => by
        rcases Nat.lt_or_ge (f j) (f k) with h1 | h1
        · exact absurd ⟨j, hj, h1⟩ h
        · exact h1⟩
-- final at r
def dm_fin (R : dm_R) (r i : Nat) : Prop := ∀ t, r ≤ t → dm_D R t i = dm_D R r i
theorem dm_fin_up {R : dm_R} {r i : Nat} (h : dm_fin R r i) : dm_fin R (r + 1) i := fun t ht => by
  rw [h t (by omega), h (r + 1) (by omega)]
theorem dm_next {R : dm_R} {n r k : Nat} (hR : dm_ok R) (hn : dm_in R n) (hk : k < n) (hf : ¬ dm_fin R r k) : ∃ i, i < n ∧ ¬ dm_fin R r i ∧ dm_fin R (r + 1) i := by
  obtain ⟨i, ⟨hi, hfi⟩, hmin⟩ := dm_min (p := fun j => j < n ∧ ¬ dm_fin R r j) (fun j => dm_D R (r + 1) j) _ k ⟨hk, hf⟩ (Nat.le_refl _)
  have key : ∀ t, ∀ j, j < n → ¬ dm_fin R r j → dm_D R (r + 1) i ≤ dm_D R (r + 1 + t) j := by
    intro t
    induction t with
    | zero => exact fun j hj hfj => hmin j ⟨hj, hfj⟩
    | succ t ih =>
      intro j hj hfj
      have hle : ∀ x, min (dm_D R r x) (dm_D R (r + 1) i) ≤ dm_D R (r + 1 + t) x := by
        intro x
        rcases Nat.lt_or_ge x n with hx | hx
        · by_cases hfx : dm_fin R r x
          · rw [hfx (r + 1 + t) (by omega)]; exact Nat.min_le_left _ _
          · exact Nat.le_trans (Nat.min_le_right _ _) (ih x hx hfx)
        · rw [dm_D_out hn hx, dm_D_out hn hx]; exact Nat.min_le_left _ _
      have h1 := dm_F_sup R j hR _ _ _ hle
      have h2 : dm_D R (r + 1) i ≤ dm_F R j (dm_D R r) := Nat.le_trans (hmin j ⟨hj, hfj⟩) (Nat.min_le_right _ _)
      have h3 := ih j hj hfj
      show dm_D R (r + 1) i ≤ min (dm_D R (r + 1 + t) j) (dm_F R j (dm_D R (r + 1 + t)))
      omega
  refine ⟨i, hi, hfi, fun t ht => ?_⟩
  have h1 := key (t - (r + 1)) i hi hfi
  rw [show r + 1 + (t - (r + 1)) = t by omega] at h1
  have h2 := dm_D_anti R ht i
  omega
theorem dm_many {R : dm_R} {n : Nat} (hR : dm_ok R) (hn : dm_in R n) : ∀ r, r ≤ n → r ≤ dm_cnt (dm_fin R r) n
  | 0, _ => Nat.zero_le _
  | r + 1, hr => by
    have ih := dm_many hR hn r (by omega)
    by_cases h : ∃ k, k < n ∧ ¬ dm_fin R r k
    · obtain ⟨k, hk, hf⟩ := h
      obtain ⟨i, hi, h1, h2⟩ := dm_next hR hn hk hf
      have := dm_cnt_lt (p := dm_fin R r) (q := dm_fin R (r + 1)) n (fun _ _ => dm_fin_up) i hi h2 h1
      omega
    · have hall : ∀ i, i < n → dm_fin R (r + 1) i := fun i hi => by
        by_cases hf : dm_fin R r i
        · exact dm_fin_up hf
        · exact absurd ⟨i, hi, hf⟩ h
      have : dm_cnt (fun _ => True) n ≤ dm_cnt (dm_fin R (r + 1)) n := dm_cnt_mono n (fun i hi _ => hall i hi)
      have h0 : ∀ m, dm_cnt (fun _ => True) m = m := fun m => by
        induction m with
        | zero => rfl
        | succ m ihm => rw [dm_cnt_t trivial, ihm]
      rw [h0] at this
      omega
theorem dm_fixed {R : dm_R} {n : Nat} (hR : dm_ok R) (hn : dm_in R n) : dm_post R (dm_D R n) := by
  intro x hx
  have h1 := dm_cnt_all n (dm_many hR hn n (Nat.le_refl _)) x.1 (hn x hx) (n + 1) (Nat.le_succ n)
  have h2 : dm_D R (n + 1) x.1 ≤ dm_F R x.1 (dm_D R n) := Nat.min_le_right _ _
  have h3 := dm_F_le R (dm_D R n) x hx
  omega
-- rounds in place
theorem dm_pass_rule : ∀ (R : dm_R) (v d : Nat → Nat), dm_ok R → (∀ j, v j ≤ d j) → ∀ r, r ∈ R → dm_pass R v r.1 ≤ r.2 d
  | [], _, _, _, _, r, h => by cases h
  | x :: R, v, d, hR, hv, r, h => by
    have hu : ∀ j, va_up v x.1 (min (v x.1) (x.2 v)) j ≤ d j := fun j => Nat.le_trans (dm_up_le v x.1 (x.2 v) j) (hv j)
    rcases List.mem_cons.mp h with e | e
    · subst e
      refine Nat.le_trans (dm_pass_le R _ r.1) ?_
      have h1 := (hR r List.mem_cons_self).mono hv
      unfold va_up
      rw [if_pos rfl]
      omega
    · exact dm_pass_rule R _ d (fun y hy => hR y (List.mem_cons_of_mem _ hy)) hu r e
theorem dm_pass_D {R : dm_R} {v : Nat → Nat} {r : Nat} (hR : dm_ok R) (hv : ∀ j, v j ≤ dm_D R r j) : ∀ j, dm_pass R v j ≤ dm_D R (r + 1) j := by
  intro j
  have h1 := dm_pass_le R v j
  have h2 := hv j
  have h3 : dm_pass R v j ≤ dm_F R j (dm_D R r) := dm_F_ge R _ j _ (by have := dm_D_le R r j; omega) (fun x hx e => by
    subst e
    exact dm_pass_rule R v _ hR hv x hx)
  show dm_pass R v j ≤ min (dm_D R r j) (dm_F R j (dm_D R r))
  omega
theorem dm_flag_f : ∀ (R : dm_R) (v : Nat → Nat), dm_flag R v = false → dm_pass R v = v ∧ dm_post R v
  | [], _, _ => ⟨rfl, fun _ h => by cases h⟩
  | r :: R, v, h => by
    unfold dm_flag at h
    rw [Bool.or_eq_false_iff] at h
    obtain ⟨h1, h2⟩ := h
    have h1 : ¬ r.2 v < v r.1 := of_decide_eq_false h1
    have e : va_up v r.1 (min (v r.1) (r.2 v)) = v := funext fun j => by
      unfold va_up
      by_cases hj : j = r.1
      · rw [if_pos hj, hj]; omega
      · rw [if_neg hj]
    rw [e] at h2
    obtain ⟨h3, h4⟩ := dm_flag_f R v h2
    refine ⟨?_, fun x hx => ?_⟩
    · show dm_pass R (va_up v r.1 (min (v r.1) (r.2 v))) = v
      rw [e]; exact h3
    · rcases List.mem_cons.mp hx with e1 | e1
      · rw [e1]; omega
      · exact h4 x e1
def dm_run (R : dm_R) : Nat → (Nat → Nat) → (Nat → Nat)
  | 0, v => v
  | k + 1, v => if dm_flag R v = true then dm_run R k (dm_pass R v) else dm_pass R v
theorem dm_run_go {R : dm_R} {n : Nat} (hR : dm_ok R) (hn : dm_in R n) : ∀ (k r : Nat) (v : Nat → Nat), (∀ j, v j ≤ dm_D R r j) → (∀ j, dm_D R n j ≤ v j) → n ≤ r + k → dm_run R k v = dm_D R n
  | 0, r, v, h1, h2, h3 => funext fun j => by
    have e1 := h1 j
    have e2 := h2 j
    have e3 := dm_D_anti R (show n ≤ r by omega) j
    show v j = dm_D R n j
    omega
  | k + 1, r, v, h1, h2, h3 => by
    unfold dm_run
    by_cases hf : dm_flag R v = true
    · rw [if_pos hf]
      exact dm_run_go hR hn k (r + 1) _ (dm_pass_D hR h1) (dm_pass_ge R v _ hR (dm_fixed hR hn) h2) (by omega)
    · rw [if_neg hf]
      obtain ⟨e1, e2⟩ := dm_flag_f R v (by cases h : dm_flag R v <;> simp_all)
      rw [e1]
      funext j
      have e3 := dm_D_ge hR e2 (fun i => Nat.le_trans (h1 i) (dm_D_le R r i)) n j
      have e4 := h2 j
      omega
/-- k rounds in place from nothing known, stopped early where one changes nothing: the same for every k that is no less than the number of targets -/
theorem dm_run_eq {R : dm_R} {n k : Nat} (hR : dm_ok R) (hn : dm_in R n) (hk : n ≤ k) : dm_run R k (fun _ => 1000) = dm_D R n :=
  dm_run_go hR hn k 0 _ (fun _ => Nat.le_refl _) (fun j => dm_D_le R n j) (by omega)
end
section
-- rules in the order of a counting loop
def dm_upto (f : Nat → dm_R) : Nat → dm_R
  | 0 => []
  | n + 1 => dm_upto f n ++ f n
theorem dm_pass_app : ∀ (A B : dm_R) (v : Nat → Nat), dm_pass (A ++ B) v = dm_pass B (dm_pass A v)
  | [], _, _ => rfl
  | r :: A, B, v => dm_pass_app A B (va_up v r.1 (min (v r.1) (r.2 v)))
theorem dm_flag_app : ∀ (A B : dm_R) (v : Nat → Nat), dm_flag (A ++ B) v = (dm_flag A v || dm_flag B (dm_pass A v))
  | [], _, _ => rfl
  | r :: A, B, v => by
    show (decide (r.2 v < v r.1) || dm_flag (A ++ B) (va_up v r.1 (min (v r.1) (r.2 v)))) = _
    rw [dm_flag_app A B]
    show _ = ((decide (r.2 v < v r.1) || dm_flag A (va_up v r.1 (min (v r.1) (r.2 v)))) || _)
    rw [Bool.or_assoc]; rfl
theorem dm_upto_mem {f : Nat → dm_R} {x : Nat × ((Nat → Nat) → Nat)} : ∀ {n : Nat}, x ∈ dm_upto f n → ∃ c, c < n ∧ x ∈ f c
  | 0, h => by cases h
  | n + 1, h => by
    rcases List.mem_append.mp h with h1 | h1
    · obtain ⟨c, hc, hx⟩ := dm_upto_mem h1
      exact ⟨c, by omega, hx⟩
    · exact ⟨n, by omega, h1⟩
theorem dm_upto_ok {f : Nat → dm_R} {n : Nat} (h : ∀ c, c < n → dm_ok (f c)) : dm_ok (dm_upto f n) := fun x hx => by
  obtain ⟨c, hc, h1⟩ := dm_upto_mem hx
  exact h c hc x h1
theorem dm_upto_in {f : Nat → dm_R} {n k : Nat} (h : ∀ c, c < n → dm_in (f c) k) : dm_in (dm_upto f n) k := fun x hx => by
  obtain ⟨c, hc, h1⟩ := dm_upto_mem hx
  exact h c hc x h1
-- the least of the first n
def dm_mins (f : Nat → Nat) : Nat → Nat
  | 0 => 1000
  | n + 1 => min (dm_mins f n) (f n)
theorem dm_mins_sup {f : Nat → (Nat → Nat) → Nat} (h : ∀ z, dm_Sup (f z)) : ∀ n, dm_Sup (fun v => dm_mins (fun z => f z v) n)
  | 0 => dm_Sup.cst 1000
  | n + 1 => (dm_mins_sup h n).mn (h n)
theorem dm_mins_le (f : Nat → Nat) : ∀ n, dm_mins f n ≤ 1000
  | 0 => Nat.le_refl _
  | n + 1 => Nat.le_trans (Nat.min_le_left _ _) (dm_mins_le f n)
-- what a subject costs, by what the keys with one name cost
def dm_ofs (v : Nat → Nat) (s y : Nat) : Nat :=
  if s / 8 % 5 = 0 then (if s % 8 = y then 0 else 1000)
  else if s / 40 = 0 then v (32 * (s % 8) + 8 * (s / 8 % 5 - 1) + y)
  else dm_mins (fun z => dm_s (v (32 * (s % 8) + 8 * (s / 8 % 5 - 1) + z)) (v (32 * z + 8 * (s / 40 - 1) + y))) 8
theorem dm_ofs_sup (s y : Nat) : dm_Sup (fun v => dm_ofs v s y) := by
  unfold dm_ofs
  exact dm_Sup.ite _ (dm_Sup.cst _) (dm_Sup.ite _ (dm_Sup.var _) (dm_mins_sup (fun z => (dm_Sup.var _).sm (dm_Sup.var _)) 8))
theorem dm_ofs_le {v : Nat → Nat} (hv : ∀ j, v j ≤ 1000) (s y : Nat) : dm_ofs v s y ≤ 1000 := by
  unfold dm_ofs
  split
  · split <;> omega
  · split
    · exact hv _
    · exact dm_mins_le _ _
-- by one subject of a certificate: o y: what the subject costs as y; d: it passes on
def dm_bys (o l : Nat → Nat) (x : Nat) : Nat → Nat
  | 0 => o x
  | n + 1 => if n = x then dm_bys o l x n else min (dm_bys o l x n) (dm_s (o n) (l n))
theorem dm_bys_sup (o : Nat → Nat) (x : Nat) : ∀ n, dm_Sup (fun l => dm_bys o l x n)
  | 0 => dm_Sup.cst _
  | n + 1 => by
    by_cases h : n = x
    · refine (dm_bys_sup o x n).eq (fun l => ?_)
      show (if n = x then dm_bys o l x n else _) = _
      rw [if_pos h]
    · refine ((dm_bys_sup o x n).mn ((dm_Sup.cst (o n)).sm (dm_Sup.var n))).eq (fun l => ?_)
      show (if n = x then dm_bys o l x n else _) = _
      rw [if_neg h]
def dm_by1 (d : Bool) (o l : Nat → Nat) (x : Nat) : Nat := if d = true then dm_bys o l x 8 else o x
theorem dm_by1_sup (d : Bool) (o : Nat → Nat) (x : Nat) : dm_Sup (fun l => dm_by1 d o l x) := by
  unfold dm_by1
  exact dm_Sup.ite _ (dm_bys_sup o x 8) (dm_Sup.cst _)
-- n of three
def dm_q (a b c n : Nat) : Nat :=
  if n = 1 then min (min a b) c else if n = 3 then dm_s (dm_s a b) c else min (min (dm_s a b) (dm_s a c)) (dm_s b c)
theorem dm_q_sup {F G K : (Nat → Nat) → Nat} (n : Nat) (hF : dm_Sup F) (hG : dm_Sup G) (hK : dm_Sup K) : dm_Sup (fun v => dm_q (F v) (G v) (K v) n) := by
  unfold dm_q
  exact dm_Sup.ite _ ((hF.mn hG).mn hK) (dm_Sup.ite _ ((hF.sm hG).sm hK) (((hF.sm hG).mn (hF.sm hK)).mn (hG.sm hK)))
-- the leads by certificate, drawn together by issuer
def dm_L (iss u : Nat → Nat) : Nat → Nat → Nat
  | 0, _ => 1000
  | n + 1, i => if iss n = i then min (dm_L iss u n i) (u n) else dm_L iss u n i
theorem dm_L_same {iss u w : Nat → Nat} : ∀ n, (∀ c, c < n → u c = w c) → ∀ i, dm_L iss u n i = dm_L iss w n i
  | 0, _, _ => rfl
  | n + 1, h, i => by
    have ih := dm_L_same (iss := iss) n (fun c hc => h c (by omega)) i
    show (if iss n = i then min (dm_L iss u n i) (u n) else dm_L iss u n i) = (if iss n = i then min (dm_L iss w n i) (w n) else dm_L iss w n i)
    rw [ih, h n (by omega)]
theorem dm_L_le {iss u : Nat → Nat} : ∀ n c, c < n → dm_L iss u n (iss c) ≤ u c
  | 0, c, h => by omega
  | n + 1, c, h => by
    show (if iss n = iss c then min (dm_L iss u n (iss c)) (u n) else dm_L iss u n (iss c)) ≤ u c
    by_cases e : c = n
    · subst e; rw [if_pos rfl]; exact Nat.min_le_right _ _
    · have ih := dm_L_le (iss := iss) (u := u) n c (by omega)
      split
      · exact Nat.le_trans (Nat.min_le_left _ _) ih
      · exact ih
theorem dm_L_up {iss u : Nat → Nat} {c x : Nat} : ∀ n, c < n → dm_L iss (va_up u c (min (u c) x)) n = va_up (dm_L iss u n) (iss c) (min (dm_L iss u n (iss c)) x)
  | 0, h => by omega
  | n + 1, h => by
    funext i
    by_cases e : c = n
    · subst e
      have h0 : dm_L iss (va_up u c (min (u c) x)) c i = dm_L iss u c i := dm_L_same c (fun k hk => by unfold va_up; rw [if_neg (by omega)]) i
      show (if iss c = i then min (dm_L iss (va_up u c (min (u c) x)) c i) (va_up u c (min (u c) x) c) else dm_L iss (va_up u c (min (u c) x)) c i) = _
      rw [h0]
      unfold va_up
      by_cases hi : i = iss c
      · subst hi
        rw [if_pos rfl, if_pos rfl, if_pos rfl]
        show _ = min (if iss c = iss c then min (dm_L iss u c (iss c)) (u c) else dm_L iss u c (iss c)) x
        rw [if_pos rfl]
        omega
      · rw [if_neg (fun h => hi h.symm), if_neg hi]
        show _ = (if iss c = i then _ else _)
        rw [if_neg (fun h => hi h.symm)]
    · have ih := dm_L_up (iss := iss) (u := u) (c := c) (x := x) n (by omega)
      have hu : va_up u c (min (u c) x) n = u n := by unfold va_up; rw [if_neg (fun h => e h.symm)]
      show (if iss n = i then min (dm_L iss (va_up u c (min (u c) x)) n i) (va_up u c (min (u c) x) n) else dm_L iss (va_up u c (min (u c) x)) n i) = _
      rw [hu, ih]
      unfold va_up
      by_cases hi : i = iss c
      · subst hi
        rw [if_pos rfl, if_pos rfl]
        show _ = min (if iss n = iss c then min (dm_L iss u n (iss c)) (u n) else dm_L iss u n (iss c)) x
        split <;> omega
      · rw [if_neg hi, if_neg hi]
        rfl
-- the rules by certificate follow those by issuer
def dm_Rm (iss : Nat → Nat) (n : Nat) (ok : Nat → Bool) (g : Nat → (Nat → Nat) → Nat) (k : Nat) : dm_R := dm_upto (fun c => if ok c = true then [(c, fun u => g c (dm_L iss u n))] else []) k
def dm_Rx (iss : Nat → Nat) (ok : Nat → Bool) (g : Nat → (Nat → Nat) → Nat) (k : Nat) : dm_R := dm_upto (fun c => if ok c = true then [(iss c, g c)] else []) k
theorem dm_L_pass {iss : Nat → Nat} {n : Nat} {ok : Nat → Bool} {g : Nat → (Nat → Nat) → Nat} (u : Nat → Nat) : ∀ k, k ≤ n → dm_L iss (dm_pass (dm_Rm iss n ok g k) u) n = dm_pass (dm_Rx iss ok g k) (dm_L iss u n)
  | 0, _ => rfl
  | k + 1, h => by
    have ih := dm_L_pass (iss := iss) (n := n) (ok := ok) (g := g) u k (by omega)
    show dm_L iss (dm_pass (dm_Rm iss n ok g k ++ (if ok k = true then [(k, fun u => g k (dm_L iss u n))] else [])) u) n = dm_pass (dm_Rx iss ok g k ++ (if ok k = true then [(iss k, g k)] else [])) (dm_L iss u n)
    rw [dm_pass_app, dm_pass_app, ← ih]
    by_cases hk : ok k = true
    · rw [if_pos hk, if_pos hk]
      show dm_L iss (va_up _ k (min _ (g k _))) n = va_up _ (iss k) (min _ (g k _))
      exact dm_L_up n (by omega)
    · rw [if_neg hk, if_neg hk]
      rfl
theorem dm_L_post {iss : Nat → Nat} {n : Nat} {ok : Nat → Bool} {g : Nat → (Nat → Nat) → Nat} {u : Nat → Nat} (h : dm_post (dm_Rm iss n ok g n) u) : dm_post (dm_Rx iss ok g n) (dm_L iss u n) := by
  have key : ∀ c, c < n → ok c = true → u c ≤ g c (dm_L iss u n) := by
    intro c hc ho
    have hm : (c, fun u => g c (dm_L iss u n)) ∈ dm_Rm iss n ok g n := by
      have : ∀ k, c < k → (c, fun u => g c (dm_L iss u n)) ∈ dm_Rm iss n ok g k := by
        intro k
        induction k with
        | zero => intro hk; omega
        | succ k ih =>
          intro hk
          refine List.mem_append.mpr ?_
          by_cases e : c = k
          · subst e
            refine Or.inr ?_
            show _ ∈ (if ok c = true then [(c, fun u => g c (dm_L iss u n))] else [])
            rw [if_pos ho]
            exact List.mem_singleton.mpr rfl
          · exact Or.inl (ih (by omega))
      exact this n hc
    exact h _ hm
  intro x hx
  obtain ⟨c, hc, h1⟩ := dm_upto_mem hx
  by_cases ho : ok c = true
  · rw [if_pos ho] at h1
    rw [List.mem_singleton.mp h1]
    exact Nat.le_trans (dm_L_le n c hc) (key c hc ho)
  · rw [if_neg ho] at h1
    cases h1
theorem dm_L_top (iss : Nat → Nat) : ∀ n i, dm_L iss (fun _ => 1000) n i = 1000
  | 0, _ => rfl
  | n + 1, i => by
    show (if iss n = i then min (dm_L iss (fun _ => 1000) n i) 1000 else dm_L iss (fun _ => 1000) n i) = 1000
    rw [dm_L_top iss n i]
    split <;> rfl
theorem dm_L_go {iss : Nat → Nat} {n N : Nat} {ok : Nat → Bool} {g : Nat → (Nat → Nat) → Nat} (hR : dm_ok (dm_Rx iss ok g n)) (hN : dm_in (dm_Rx iss ok g n) N) : ∀ (k r : Nat) (u : Nat → Nat), (∀ j, dm_L iss u n j ≤ dm_D (dm_Rx iss ok g n) r j) → (∀ j, dm_D (dm_Rx iss ok g n) N j ≤ dm_L iss u n j) → N ≤ r + k → dm_L iss (dm_run (dm_Rm iss n ok g n) k u) n = dm_D (dm_Rx iss ok g n) N
  | 0, r, u, h1, h2, h3 => funext fun j => by
    have e1 := h1 j
    have e2 := h2 j
    have e3 := dm_D_anti (dm_Rx iss ok g n) (show N ≤ r by omega) j
    show dm_L iss u n j = _
    omega
  | k + 1, r, u, h1, h2, h3 => by
    unfold dm_run
    by_cases hf : dm_flag (dm_Rm iss n ok g n) u = true
    · rw [if_pos hf]
      refine dm_L_go hR hN k (r + 1) _ (fun j => ?_) (fun j => ?_) (by omega)
      · rw [dm_L_pass u n (Nat.le_refl _)]
        exact dm_pass_D hR h1 j
      · rw [dm_L_pass u n (Nat.le_refl _)]
        exact dm_pass_ge _ _ _ hR (dm_fixed hR hN) h2 j
    · rw [if_neg hf]
      obtain ⟨e1, e2⟩ := dm_flag_f _ u (by cases h : dm_flag (dm_Rm iss n ok g n) u <;> simp_all)
      rw [e1]
      funext j
      have e3 := dm_D_ge hR (dm_L_post e2) (fun i => Nat.le_trans (h1 i) (dm_D_le _ r i)) N j
      have e4 := h2 j
      omega
theorem dm_L_eq {iss : Nat → Nat} {n N k : Nat} {ok : Nat → Bool} {g : Nat → (Nat → Nat) → Nat} (hR : dm_ok (dm_Rx iss ok g n)) (hN : dm_in (dm_Rx iss ok g n) N) (hk : N ≤ k) : dm_L iss (dm_run (dm_Rm iss n ok g n) k (fun _ => 1000)) n = dm_D (dm_Rx iss ok g n) N :=
  dm_L_go hR hN k 0 _ (fun j => by rw [dm_L_top]; exact Nat.le_refl _) (fun j => by rw [dm_L_top]; exact dm_D_le _ N j) (by omega)
-- one rule more of a counting loop
theorem dm_one_t {f : Nat → dm_R} {g : Nat → Nat} {k t : Nat} {F : (Nat → Nat) → Nat} (hf : f k = [(t, F)]) (h : F (dm_pass (dm_upto f k) g) < dm_pass (dm_upto f k) g t) : dm_pass (dm_upto f (k + 1)) g = va_up (dm_pass (dm_upto f k) g) t (F (dm_pass (dm_upto f k) g)) ∧ dm_flag (dm_upto f (k + 1)) g = true := by
  show dm_pass (dm_upto f k ++ f k) g = _ ∧ dm_flag (dm_upto f k ++ f k) g = true
  rw [hf, dm_pass_app, dm_flag_app]
  refine ⟨?_, ?_⟩
  · show va_up _ t (min _ _) = _
    rw [Nat.min_eq_right (Nat.le_of_lt h)]
  · show (_ || (decide (_ < _) || false)) = true
    rw [decide_eq_true h]; simp
theorem dm_one_f {f : Nat → dm_R} {g : Nat → Nat} {k t : Nat} {F : (Nat → Nat) → Nat} (hf : f k = [(t, F)]) (h : ¬ F (dm_pass (dm_upto f k) g) < dm_pass (dm_upto f k) g t) : dm_pass (dm_upto f (k + 1)) g = dm_pass (dm_upto f k) g ∧ dm_flag (dm_upto f (k + 1)) g = dm_flag (dm_upto f k) g := by
  show dm_pass (dm_upto f k ++ f k) g = _ ∧ dm_flag (dm_upto f k ++ f k) g = _
  rw [hf, dm_pass_app, dm_flag_app]
  refine ⟨?_, ?_⟩
  · show va_up _ t (min _ _) = _
    rw [Nat.min_eq_left (Nat.le_of_not_lt h)]
    funext j
    unfold va_up
    by_cases e : j = t
    · rw [if_pos e, e]
    · rw [if_neg e]
  · show (_ || (decide (_ < _) || false)) = _
    rw [decide_eq_false h]; simp
theorem dm_none {f : Nat → dm_R} {g : Nat → Nat} {k : Nat} (hf : f k = []) : dm_pass (dm_upto f (k + 1)) g = dm_pass (dm_upto f k) g ∧ dm_flag (dm_upto f (k + 1)) g = dm_flag (dm_upto f k) g := by
  show dm_pass (dm_upto f k ++ f k) g = _ ∧ dm_flag (dm_upto f k ++ f k) g = _
  rw [hf, List.append_nil]
  exact ⟨rfl, rfl⟩
theorem dm_some {f : Nat → dm_R} {g : Nat → Nat} {k : Nat} {A : dm_R} (hf : f k = A) : dm_pass (dm_upto f (k + 1)) g = dm_pass A (dm_pass (dm_upto f k) g) ∧ dm_flag (dm_upto f (k + 1)) g = (dm_flag (dm_upto f k) g || dm_flag A (dm_pass (dm_upto f k) g)) := by
  show dm_pass (dm_upto f k ++ f k) g = _ ∧ dm_flag (dm_upto f k ++ f k) g = _
  rw [hf, dm_pass_app, dm_flag_app]
  exact ⟨rfl, rfl⟩
theorem dm_pass_1000 {R : dm_R} {g : Nat → Nat} (h : ∀ j, g j ≤ 1000) : ∀ j, dm_pass R g j ≤ 1000 := fun j => Nat.le_trans (dm_pass_le R g j) (h j)
theorem dm_run_1000 (R : dm_R) : ∀ (k : Nat) (g : Nat → Nat), (∀ j, g j ≤ 1000) → ∀ j, dm_run R k g j ≤ 1000
  | 0, _, h, j => h j
  | k + 1, g, h, j => by
    unfold dm_run
    split
    · exact dm_run_1000 R k _ (dm_pass_1000 h) j
    · exact dm_pass_1000 h j
-- the rules of a naming; of all namings that stand at a time
def ru_n (is nm su : Nat) : Nat → dm_R := fun y => [(32 * is + 8 * nm + y, fun v => dm_s 1 (dm_ofs v su y))]
abbrev ru_ok (N : Nat → Nat → Nat) (S : Nat → Nat → Int32) (t : Int32) (c : Nat) : Prop := N 1 c = 0 ∧ N 2 c = 1 ∧ ¬ t < S 5 c ∧ ¬ S 6 c < t
def ru_m (N : Nat → Nat → Nat) (S : Nat → Nat → Int32) (t : Int32) : Nat → dm_R := fun c => if ru_ok N S t c then dm_upto (ru_n (N 3 c) (N 4 c) (N 7 (3 * c))) 8 else []
def ru_M (N : Nat → Nat → Nat) (S : Nat → Nat → Int32) (t : Int32) : dm_R := dm_upto (ru_m N S t) (N 0 0)
end
section
-- A memory: contents by address. mm_P: what it names stands in the heap, at B or above.
abbrev mm_M : Type := Nat → Option va_E
def mm_up (w : mm_M) (a : Nat) (x : va_E) : mm_M := fun j => if j = a then some x else w j
theorem mm_us (w : mm_M) (a : Nat) (x : va_E) : mm_up w a x a = some x := if_pos rfl
theorem mm_un {w : mm_M} {a j : Nat} {x : va_E} (h : j ≠ a) : mm_up w a x j = w j := if_neg h
theorem mm_uu (w : mm_M) (a : Nat) (x y : va_E) : mm_up (mm_up w a x) a y = mm_up w a y := funext fun j => by
  by_cases h : j = a
  · rw [h, mm_us, mm_us]
  · rw [mm_un h, mm_un h, mm_un h]
theorem mm_e1 {w w' : mm_M} {a0 : Nat} {x0 : va_E} (h0 : w' a0 = some x0) (hf : ∀ j, j ≠ a0 → w' j = w j) : w' = mm_up w a0 x0 := by
  funext j
  by_cases e0 : j = a0
  · subst e0; rw [mm_us]; exact h0
  rw [mm_un e0]
  exact hf j e0
theorem mm_e2 {w w' : mm_M} {a0 a1 : Nat} {x0 x1 : va_E} (h0 : w' a0 = some x0) (h1 : w' a1 = some x1) (hf : ∀ j, j ≠ a0 → j ≠ a1 → w' j = w j) : w' = mm_up (mm_up w a0 x0) a1 x1 := by
  funext j
  by_cases e1 : j = a1
  · subst e1; rw [mm_us]; exact h1
  by_cases e0 : j = a0
  · subst e0; rw [mm_un e1, mm_us]; exact h0
  rw [mm_un e1, mm_un e0]
  exact hf j e0 e1
theorem mm_e3 {w w' : mm_M} {a0 a1 a2 : Nat} {x0 x1 x2 : va_E} (h0 : w' a0 = some x0) (h1 : w' a1 = some x1) (h2 : w' a2 = some x2) (hf : ∀ j, j ≠ a0 → j ≠ a1 → j ≠ a2 → w' j = w j) : w' = mm_up (mm_up (mm_up w a0 x0) a1 x1) a2 x2 := by
  funext j
  by_cases e2 : j = a2
  · subst e2; rw [mm_us]; exact h2
  by_cases e1 : j = a1
  · subst e1; rw [mm_un e2, mm_us]; exact h1
  by_cases e0 : j = a0
  · subst e0; rw [mm_un e2, mm_un e1, mm_us]; exact h0
  rw [mm_un e2, mm_un e1, mm_un e0]
  exact hf j e0 e1 e2
theorem mm_e4 {w w' : mm_M} {a0 a1 a2 a3 : Nat} {x0 x1 x2 x3 : va_E} (h0 : w' a0 = some x0) (h1 : w' a1 = some x1) (h2 : w' a2 = some x2) (h3 : w' a3 = some x3) (hf : ∀ j, j ≠ a0 → j ≠ a1 → j ≠ a2 → j ≠ a3 → w' j = w j) : w' = mm_up (mm_up (mm_up (mm_up w a0 x0) a1 x1) a2 x2) a3 x3 := by
  funext j
  by_cases e3 : j = a3
  · subst e3; rw [mm_us]; exact h3
  by_cases e2 : j = a2
  · subst e2; rw [mm_un e3, mm_us]; exact h2
  by_cases e1 : j = a1
  · subst e1; rw [mm_un e3, mm_un e2, mm_us]; exact h1
  by_cases e0 : j = a0
  · subst e0; rw [mm_un e3, mm_un e2, mm_un e1, mm_us]; exact h0
  rw [mm_un e3, mm_un e2, mm_un e1, mm_un e0]
  exact hf j e0 e1 e2 e3
theorem mm_e5 {w w' : mm_M} {a0 a1 a2 a3 a4 : Nat} {x0 x1 x2 x3 x4 : va_E} (h0 : w' a0 = some x0) (h1 : w' a1 = some x1) (h2 : w' a2 = some x2) (h3 : w' a3 = some x3) (h4 : w' a4 = some x4) (hf : ∀ j, j ≠ a0 → j ≠ a1 → j ≠ a2 → j ≠ a3 → j ≠ a4 → w' j = w j) : w' = mm_up (mm_up (mm_up (mm_up (mm_up w a0 x0) a1 x1) a2 x2) a3 x3) a4 x4 := by
  funext j
  by_cases e4 : j = a4
  · subst e4; rw [mm_us]; exact h4
  by_cases e3 : j = a3
  · subst e3; rw [mm_un e4, mm_us]; exact h3
  by_cases e2 : j = a2
  · subst e2; rw [mm_un e4, mm_un e3, mm_us]; exact h2
  by_cases e1 : j = a1
  · subst e1; rw [mm_un e4, mm_un e3, mm_un e2, mm_us]; exact h1
  by_cases e0 : j = a0
  · subst e0; rw [mm_un e4, mm_un e3, mm_un e2, mm_un e1, mm_us]; exact h0
  rw [mm_un e4, mm_un e3, mm_un e2, mm_un e1, mm_un e0]
  exact hf j e0 e1 e2 e3 e4
theorem mm_e6 {w w' : mm_M} {a0 a1 a2 a3 a4 a5 : Nat} {x0 x1 x2 x3 x4 x5 : va_E} (h0 : w' a0 = some x0) (h1 : w' a1 = some x1) (h2 : w' a2 = some x2) (h3 : w' a3 = some x3) (h4 : w' a4 = some x4) (h5 : w' a5 = some x5) (hf : ∀ j, j ≠ a0 → j ≠ a1 → j ≠ a2 → j ≠ a3 → j ≠ a4 → j ≠ a5 → w' j = w j) : w' = mm_up (mm_up (mm_up (mm_up (mm_up (mm_up w a0 x0) a1 x1) a2 x2) a3 x3) a4 x4) a5 x5 := by
  funext j
  by_cases e5 : j = a5
  · subst e5; rw [mm_us]; exact h5
  by_cases e4 : j = a4
  · subst e4; rw [mm_un e5, mm_us]; exact h4
  by_cases e3 : j = a3
  · subst e3; rw [mm_un e5, mm_un e4, mm_us]; exact h3
  by_cases e2 : j = a2
  · subst e2; rw [mm_un e5, mm_un e4, mm_un e3, mm_us]; exact h2
  by_cases e1 : j = a1
  · subst e1; rw [mm_un e5, mm_un e4, mm_un e3, mm_un e2, mm_us]; exact h1
  by_cases e0 : j = a0
  · subst e0; rw [mm_un e5, mm_un e4, mm_un e3, mm_un e2, mm_un e1, mm_us]; exact h0
  rw [mm_un e5, mm_un e4, mm_un e3, mm_un e2, mm_un e1, mm_un e0]
  exact hf j e0 e1 e2 e3 e4 e5
theorem mm_e7 {w w' : mm_M} {a0 a1 a2 a3 a4 a5 a6 : Nat} {x0 x1 x2 x3 x4 x5 x6 : va_E} (h0 : w' a0 = some x0) (h1 : w' a1 = some x1) (h2 : w' a2 = some x2) (h3 : w' a3 = some x3) (h4 : w' a4 = some x4) (h5 : w' a5 = some x5) (h6 : w' a6 = some x6) (hf : ∀ j, j ≠ a0 → j ≠ a1 → j ≠ a2 → j ≠ a3 → j ≠ a4 → j ≠ a5 → j ≠ a6 → w' j = w j) : w' = mm_up (mm_up (mm_up (mm_up (mm_up (mm_up (mm_up w a0 x0) a1 x1) a2 x2) a3 x3) a4 x4) a5 x5) a6 x6 := by
  funext j
  by_cases e6 : j = a6
  · subst e6; rw [mm_us]; exact h6
  by_cases e5 : j = a5
  · subst e5; rw [mm_un e6, mm_us]; exact h5
  by_cases e4 : j = a4
  · subst e4; rw [mm_un e6, mm_un e5, mm_us]; exact h4
  by_cases e3 : j = a3
  · subst e3; rw [mm_un e6, mm_un e5, mm_un e4, mm_us]; exact h3
  by_cases e2 : j = a2
  · subst e2; rw [mm_un e6, mm_un e5, mm_un e4, mm_un e3, mm_us]; exact h2
  by_cases e1 : j = a1
  · subst e1; rw [mm_un e6, mm_un e5, mm_un e4, mm_un e3, mm_un e2, mm_us]; exact h1
  by_cases e0 : j = a0
  · subst e0; rw [mm_un e6, mm_un e5, mm_un e4, mm_un e3, mm_un e2, mm_un e1, mm_us]; exact h0
  rw [mm_un e6, mm_un e5, mm_un e4, mm_un e3, mm_un e2, mm_un e1, mm_un e0]
  exact hf j e0 e1 e2 e3 e4 e5 e6
theorem mm_e8 {w w' : mm_M} {a0 a1 a2 a3 a4 a5 a6 a7 : Nat} {x0 x1 x2 x3 x4 x5 x6 x7 : va_E} (h0 : w' a0 = some x0) (h1 : w' a1 = some x1) (h2 : w' a2 = some x2) (h3 : w' a3 = some x3) (h4 : w' a4 = some x4) (h5 : w' a5 = some x5) (h6 : w' a6 = some x6) (h7 : w' a7 = some x7) (hf : ∀ j, j ≠ a0 → j ≠ a1 → j ≠ a2 → j ≠ a3 → j ≠ a4 → j ≠ a5 → j ≠ a6 → j ≠ a7 → w' j = w j) : w' = mm_up (mm_up (mm_up (mm_up (mm_up (mm_up (mm_up (mm_up w a0 x0) a1 x1) a2 x2) a3 x3) a4 x4) a5 x5) a6 x6) a7 x7 := by
  funext j
  by_cases e7 : j = a7
  · subst e7; rw [mm_us]; exact h7
  by_cases e6 : j = a6
  · subst e6; rw [mm_un e7, mm_us]; exact h6
  by_cases e5 : j = a5
  · subst e5; rw [mm_un e7, mm_un e6, mm_us]; exact h5
  by_cases e4 : j = a4
  · subst e4; rw [mm_un e7, mm_un e6, mm_un e5, mm_us]; exact h4
  by_cases e3 : j = a3
  · subst e3; rw [mm_un e7, mm_un e6, mm_un e5, mm_un e4, mm_us]; exact h3
  by_cases e2 : j = a2
  · subst e2; rw [mm_un e7, mm_un e6, mm_un e5, mm_un e4, mm_un e3, mm_us]; exact h2
  by_cases e1 : j = a1
  · subst e1; rw [mm_un e7, mm_un e6, mm_un e5, mm_un e4, mm_un e3, mm_un e2, mm_us]; exact h1
  by_cases e0 : j = a0
  · subst e0; rw [mm_un e7, mm_un e6, mm_un e5, mm_un e4, mm_un e3, mm_un e2, mm_un e1, mm_us]; exact h0
  rw [mm_un e7, mm_un e6, mm_un e5, mm_un e4, mm_un e3, mm_un e2, mm_un e1, mm_un e0]
  exact hf j e0 e1 e2 e3 e4 e5 e6 e7
theorem mm_e9 {w w' : mm_M} {a0 a1 a2 a3 a4 a5 a6 a7 a8 : Nat} {x0 x1 x2 x3 x4 x5 x6 x7 x8 : va_E} (h0 : w' a0 = some x0) (h1 : w' a1 = some x1) (h2 : w' a2 = some x2) (h3 : w' a3 = some x3) (h4 : w' a4 = some x4) (h5 : w' a5 = some x5) (h6 : w' a6 = some x6) (h7 : w' a7 = some x7) (h8 : w' a8 = some x8) (hf : ∀ j, j ≠ a0 → j ≠ a1 → j ≠ a2 → j ≠ a3 → j ≠ a4 → j ≠ a5 → j ≠ a6 → j ≠ a7 → j ≠ a8 → w' j = w j) : w' = mm_up (mm_up (mm_up (mm_up (mm_up (mm_up (mm_up (mm_up (mm_up w a0 x0) a1 x1) a2 x2) a3 x3) a4 x4) a5 x5) a6 x6) a7 x7) a8 x8 := by
  funext j
  by_cases e8 : j = a8
  · subst e8; rw [mm_us]; exact h8
  by_cases e7 : j = a7
  · subst e7; rw [mm_un e8, mm_us]; exact h7
  by_cases e6 : j = a6
  · subst e6; rw [mm_un e8, mm_un e7, mm_us]; exact h6
  by_cases e5 : j = a5
  · subst e5; rw [mm_un e8, mm_un e7, mm_un e6, mm_us]; exact h5
  by_cases e4 : j = a4
  · subst e4; rw [mm_un e8, mm_un e7, mm_un e6, mm_un e5, mm_us]; exact h4
  by_cases e3 : j = a3
  · subst e3; rw [mm_un e8, mm_un e7, mm_un e6, mm_un e5, mm_un e4, mm_us]; exact h3
  by_cases e2 : j = a2
  · subst e2; rw [mm_un e8, mm_un e7, mm_un e6, mm_un e5, mm_un e4, mm_un e3, mm_us]; exact h2
  by_cases e1 : j = a1
  · subst e1; rw [mm_un e8, mm_un e7, mm_un e6, mm_un e5, mm_un e4, mm_un e3, mm_un e2, mm_us]; exact h1
  by_cases e0 : j = a0
  · subst e0; rw [mm_un e8, mm_un e7, mm_un e6, mm_un e5, mm_un e4, mm_un e3, mm_un e2, mm_un e1, mm_us]; exact h0
  rw [mm_un e8, mm_un e7, mm_un e6, mm_un e5, mm_un e4, mm_un e3, mm_un e2, mm_un e1, mm_un e0]
  exact hf j e0 e1 e2 e3 e4 e5 e6 e7 e8
theorem mm_e10 {w w' : mm_M} {a0 a1 a2 a3 a4 a5 a6 a7 a8 a9 : Nat} {x0 x1 x2 x3 x4 x5 x6 x7 x8 x9 : va_E} (h0 : w' a0 = some x0) (h1 : w' a1 = some x1) (h2 : w' a2 = some x2) (h3 : w' a3 = some x3) (h4 : w' a4 = some x4) (h5 : w' a5 = some x5) (h6 : w' a6 = some x6) (h7 : w' a7 = some x7) (h8 : w' a8 = some x8) (h9 : w' a9 = some x9) (hf : ∀ j, j ≠ a0 → j ≠ a1 → j ≠ a2 → j ≠ a3 → j ≠ a4 → j ≠ a5 → j ≠ a6 → j ≠ a7 → j ≠ a8 → j ≠ a9 → w' j = w j) : w' = mm_up (mm_up (mm_up (mm_up (mm_up (mm_up (mm_up (mm_up (mm_up (mm_up w a0 x0) a1 x1) a2 x2) a3 x3) a4 x4) a5 x5) a6 x6) a7 x7) a8 x8) a9 x9 := by
  funext j
  by_cases e9 : j = a9
  · subst e9; rw [mm_us]; exact h9
  by_cases e8 : j = a8
  · subst e8; rw [mm_un e9, mm_us]; exact h8
  by_cases e7 : j = a7
  · subst e7; rw [mm_un e9, mm_un e8, mm_us]; exact h7
  by_cases e6 : j = a6
  · subst e6; rw [mm_un e9, mm_un e8, mm_un e7, mm_us]; exact h6
  by_cases e5 : j = a5
  · subst e5; rw [mm_un e9, mm_un e8, mm_un e7, mm_un e6, mm_us]; exact h5
  by_cases e4 : j = a4
  · subst e4; rw [mm_un e9, mm_un e8, mm_un e7, mm_un e6, mm_un e5, mm_us]; exact h4
  by_cases e3 : j = a3
  · subst e3; rw [mm_un e9, mm_un e8, mm_un e7, mm_un e6, mm_un e5, mm_un e4, mm_us]; exact h3
  by_cases e2 : j = a2
  · subst e2; rw [mm_un e9, mm_un e8, mm_un e7, mm_un e6, mm_un e5, mm_un e4, mm_un e3, mm_us]; exact h2
  by_cases e1 : j = a1
  · subst e1; rw [mm_un e9, mm_un e8, mm_un e7, mm_un e6, mm_un e5, mm_un e4, mm_un e3, mm_un e2, mm_us]; exact h1
  by_cases e0 : j = a0
  · subst e0; rw [mm_un e9, mm_un e8, mm_un e7, mm_un e6, mm_un e5, mm_un e4, mm_un e3, mm_un e2, mm_un e1, mm_us]; exact h0
  rw [mm_un e9, mm_un e8, mm_un e7, mm_un e6, mm_un e5, mm_un e4, mm_un e3, mm_un e2, mm_un e1, mm_un e0]
  exact hf j e0 e1 e2 e3 e4 e5 e6 e7 e8 e9
theorem mm_e11 {w w' : mm_M} {a0 a1 a2 a3 a4 a5 a6 a7 a8 a9 a10 : Nat} {x0 x1 x2 x3 x4 x5 x6 x7 x8 x9 x10 : va_E} (h0 : w' a0 = some x0) (h1 : w' a1 = some x1) (h2 : w' a2 = some x2) (h3 : w' a3 = some x3) (h4 : w' a4 = some x4) (h5 : w' a5 = some x5) (h6 : w' a6 = some x6) (h7 : w' a7 = some x7) (h8 : w' a8 = some x8) (h9 : w' a9 = some x9) (h10 : w' a10 = some x10) (hf : ∀ j, j ≠ a0 → j ≠ a1 → j ≠ a2 → j ≠ a3 → j ≠ a4 → j ≠ a5 → j ≠ a6 → j ≠ a7 → j ≠ a8 → j ≠ a9 → j ≠ a10 → w' j = w j) : w' = mm_up (mm_up (mm_up (mm_up (mm_up (mm_up (mm_up (mm_up (mm_up (mm_up (mm_up w a0 x0) a1 x1) a2 x2) a3 x3) a4 x4) a5 x5) a6 x6) a7 x7) a8 x8) a9 x9) a10 x10 := by
  funext j
  by_cases e10 : j = a10
  · subst e10; rw [mm_us]; exact h10
  by_cases e9 : j = a9
  · subst e9; rw [mm_un e10, mm_us]; exact h9
  by_cases e8 : j = a8
  · subst e8; rw [mm_un e10, mm_un e9, mm_us]; exact h8
  by_cases e7 : j = a7
  · subst e7; rw [mm_un e10, mm_un e9, mm_un e8, mm_us]; exact h7
  by_cases e6 : j = a6
  · subst e6; rw [mm_un e10, mm_un e9, mm_un e8, mm_un e7, mm_us]; exact h6
  by_cases e5 : j = a5
  · subst e5; rw [mm_un e10, mm_un e9, mm_un e8, mm_un e7, mm_un e6, mm_us]; exact h5
  by_cases e4 : j = a4
  · subst e4; rw [mm_un e10, mm_un e9, mm_un e8, mm_un e7, mm_un e6, mm_un e5, mm_us]; exact h4
  by_cases e3 : j = a3
  · subst e3; rw [mm_un e10, mm_un e9, mm_un e8, mm_un e7, mm_un e6, mm_un e5, mm_un e4, mm_us]; exact h3
  by_cases e2 : j = a2
  · subst e2; rw [mm_un e10, mm_un e9, mm_un e8, mm_un e7, mm_un e6, mm_un e5, mm_un e4, mm_un e3, mm_us]; exact h2
  by_cases e1 : j = a1
  · subst e1; rw [mm_un e10, mm_un e9, mm_un e8, mm_un e7, mm_un e6, mm_un e5, mm_un e4, mm_un e3, mm_un e2, mm_us]; exact h1
  by_cases e0 : j = a0
  · subst e0; rw [mm_un e10, mm_un e9, mm_un e8, mm_un e7, mm_un e6, mm_un e5, mm_un e4, mm_un e3, mm_un e2, mm_un e1, mm_us]; exact h0
  rw [mm_un e10, mm_un e9, mm_un e8, mm_un e7, mm_un e6, mm_un e5, mm_un e4, mm_un e3, mm_un e2, mm_un e1, mm_un e0]
  exact hf j e0 e1 e2 e3 e4 e5 e6 e7 e8 e9 e10
theorem mm_e12 {w w' : mm_M} {a0 a1 a2 a3 a4 a5 a6 a7 a8 a9 a10 a11 : Nat} {x0 x1 x2 x3 x4 x5 x6 x7 x8 x9 x10 x11 : va_E} (h0 : w' a0 = some x0) (h1 : w' a1 = some x1) (h2 : w' a2 = some x2) (h3 : w' a3 = some x3) (h4 : w' a4 = some x4) (h5 : w' a5 = some x5) (h6 : w' a6 = some x6) (h7 : w' a7 = some x7) (h8 : w' a8 = some x8) (h9 : w' a9 = some x9) (h10 : w' a10 = some x10) (h11 : w' a11 = some x11) (hf : ∀ j, j ≠ a0 → j ≠ a1 → j ≠ a2 → j ≠ a3 → j ≠ a4 → j ≠ a5 → j ≠ a6 → j ≠ a7 → j ≠ a8 → j ≠ a9 → j ≠ a10 → j ≠ a11 → w' j = w j) : w' = mm_up (mm_up (mm_up (mm_up (mm_up (mm_up (mm_up (mm_up (mm_up (mm_up (mm_up (mm_up w a0 x0) a1 x1) a2 x2) a3 x3) a4 x4) a5 x5) a6 x6) a7 x7) a8 x8) a9 x9) a10 x10) a11 x11 := by
  funext j
  by_cases e11 : j = a11
  · subst e11; rw [mm_us]; exact h11
  by_cases e10 : j = a10
  · subst e10; rw [mm_un e11, mm_us]; exact h10
  by_cases e9 : j = a9
  · subst e9; rw [mm_un e11, mm_un e10, mm_us]; exact h9
  by_cases e8 : j = a8
  · subst e8; rw [mm_un e11, mm_un e10, mm_un e9, mm_us]; exact h8
  by_cases e7 : j = a7
  · subst e7; rw [mm_un e11, mm_un e10, mm_un e9, mm_un e8, mm_us]; exact h7
  by_cases e6 : j = a6
  · subst e6; rw [mm_un e11, mm_un e10, mm_un e9, mm_un e8, mm_un e7, mm_us]; exact h6
  by_cases e5 : j = a5
  · subst e5; rw [mm_un e11, mm_un e10, mm_un e9, mm_un e8, mm_un e7, mm_un e6, mm_us]; exact h5
  by_cases e4 : j = a4
  · subst e4; rw [mm_un e11, mm_un e10, mm_un e9, mm_un e8, mm_un e7, mm_un e6, mm_un e5, mm_us]; exact h4
  by_cases e3 : j = a3
  · subst e3; rw [mm_un e11, mm_un e10, mm_un e9, mm_un e8, mm_un e7, mm_un e6, mm_un e5, mm_un e4, mm_us]; exact h3
  by_cases e2 : j = a2
  · subst e2; rw [mm_un e11, mm_un e10, mm_un e9, mm_un e8, mm_un e7, mm_un e6, mm_un e5, mm_un e4, mm_un e3, mm_us]; exact h2
  by_cases e1 : j = a1
  · subst e1; rw [mm_un e11, mm_un e10, mm_un e9, mm_un e8, mm_un e7, mm_un e6, mm_un e5, mm_un e4, mm_un e3, mm_un e2, mm_us]; exact h1
  by_cases e0 : j = a0
  · subst e0; rw [mm_un e11, mm_un e10, mm_un e9, mm_un e8, mm_un e7, mm_un e6, mm_un e5, mm_un e4, mm_un e3, mm_un e2, mm_un e1, mm_us]; exact h0
  rw [mm_un e11, mm_un e10, mm_un e9, mm_un e8, mm_un e7, mm_un e6, mm_un e5, mm_un e4, mm_un e3, mm_un e2, mm_un e1, mm_un e0]
  exact hf j e0 e1 e2 e3 e4 e5 e6 e7 e8 e9 e10 e11
theorem mm_e13 {w w' : mm_M} {a0 a1 a2 a3 a4 a5 a6 a7 a8 a9 a10 a11 a12 : Nat} {x0 x1 x2 x3 x4 x5 x6 x7 x8 x9 x10 x11 x12 : va_E} (h0 : w' a0 = some x0) (h1 : w' a1 = some x1) (h2 : w' a2 = some x2) (h3 : w' a3 = some x3) (h4 : w' a4 = some x4) (h5 : w' a5 = some x5) (h6 : w' a6 = some x6) (h7 : w' a7 = some x7) (h8 : w' a8 = some x8) (h9 : w' a9 = some x9) (h10 : w' a10 = some x10) (h11 : w' a11 = some x11) (h12 : w' a12 = some x12) (hf : ∀ j, j ≠ a0 → j ≠ a1 → j ≠ a2 → j ≠ a3 → j ≠ a4 → j ≠ a5 → j ≠ a6 → j ≠ a7 → j ≠ a8 → j ≠ a9 → j ≠ a10 → j ≠ a11 → j ≠ a12 → w' j = w j) : w' = mm_up (mm_up (mm_up (mm_up (mm_up (mm_up (mm_up (mm_up (mm_up (mm_up (mm_up (mm_up (mm_up w a0 x0) a1 x1) a2 x2) a3 x3) a4 x4) a5 x5) a6 x6) a7 x7) a8 x8) a9 x9) a10 x10) a11 x11) a12 x12 := by
  funext j
  by_cases e12 : j = a12
  · subst e12; rw [mm_us]; exact h12
  by_cases e11 : j = a11
  · subst e11; rw [mm_un e12, mm_us]; exact h11
  by_cases e10 : j = a10
  · subst e10; rw [mm_un e12, mm_un e11, mm_us]; exact h10
  by_cases e9 : j = a9
  · subst e9; rw [mm_un e12, mm_un e11, mm_un e10, mm_us]; exact h9
  by_cases e8 : j = a8
  · subst e8; rw [mm_un e12, mm_un e11, mm_un e10, mm_un e9, mm_us]; exact h8
  by_cases e7 : j = a7
  · subst e7; rw [mm_un e12, mm_un e11, mm_un e10, mm_un e9, mm_un e8, mm_us]; exact h7
  by_cases e6 : j = a6
  · subst e6; rw [mm_un e12, mm_un e11, mm_un e10, mm_un e9, mm_un e8, mm_un e7, mm_us]; exact h6
  by_cases e5 : j = a5
  · subst e5; rw [mm_un e12, mm_un e11, mm_un e10, mm_un e9, mm_un e8, mm_un e7, mm_un e6, mm_us]; exact h5
  by_cases e4 : j = a4
  · subst e4; rw [mm_un e12, mm_un e11, mm_un e10, mm_un e9, mm_un e8, mm_un e7, mm_un e6, mm_un e5, mm_us]; exact h4
  by_cases e3 : j = a3
  · subst e3; rw [mm_un e12, mm_un e11, mm_un e10, mm_un e9, mm_un e8, mm_un e7, mm_un e6, mm_un e5, mm_un e4, mm_us]; exact h3
  by_cases e2 : j = a2
  · subst e2; rw [mm_un e12, mm_un e11, mm_un e10, mm_un e9, mm_un e8, mm_un e7, mm_un e6, mm_un e5, mm_un e4, mm_un e3, mm_us]; exact h2
  by_cases e1 : j = a1
  · subst e1; rw [mm_un e12, mm_un e11, mm_un e10, mm_un e9, mm_un e8, mm_un e7, mm_un e6, mm_un e5, mm_un e4, mm_un e3, mm_un e2, mm_us]; exact h1
  by_cases e0 : j = a0
  · subst e0; rw [mm_un e12, mm_un e11, mm_un e10, mm_un e9, mm_un e8, mm_un e7, mm_un e6, mm_un e5, mm_un e4, mm_un e3, mm_un e2, mm_un e1, mm_us]; exact h0
  rw [mm_un e12, mm_un e11, mm_un e10, mm_un e9, mm_un e8, mm_un e7, mm_un e6, mm_un e5, mm_un e4, mm_un e3, mm_un e2, mm_un e1, mm_un e0]
  exact hf j e0 e1 e2 e3 e4 e5 e6 e7 e8 e9 e10 e11 e12
theorem mm_e14 {w w' : mm_M} {a0 a1 a2 a3 a4 a5 a6 a7 a8 a9 a10 a11 a12 a13 : Nat} {x0 x1 x2 x3 x4 x5 x6 x7 x8 x9 x10 x11 x12 x13 : va_E} (h0 : w' a0 = some x0) (h1 : w' a1 = some x1) (h2 : w' a2 = some x2) (h3 : w' a3 = some x3) (h4 : w' a4 = some x4) (h5 : w' a5 = some x5) (h6 : w' a6 = some x6) (h7 : w' a7 = some x7) (h8 : w' a8 = some x8) (h9 : w' a9 = some x9) (h10 : w' a10 = some x10) (h11 : w' a11 = some x11) (h12 : w' a12 = some x12) (h13 : w' a13 = some x13) (hf : ∀ j, j ≠ a0 → j ≠ a1 → j ≠ a2 → j ≠ a3 → j ≠ a4 → j ≠ a5 → j ≠ a6 → j ≠ a7 → j ≠ a8 → j ≠ a9 → j ≠ a10 → j ≠ a11 → j ≠ a12 → j ≠ a13 → w' j = w j) : w' = mm_up (mm_up (mm_up (mm_up (mm_up (mm_up (mm_up (mm_up (mm_up (mm_up (mm_up (mm_up (mm_up (mm_up w a0 x0) a1 x1) a2 x2) a3 x3) a4 x4) a5 x5) a6 x6) a7 x7) a8 x8) a9 x9) a10 x10) a11 x11) a12 x12) a13 x13 := by
  funext j
  by_cases e13 : j = a13
  · subst e13; rw [mm_us]; exact h13
  by_cases e12 : j = a12
  · subst e12; rw [mm_un e13, mm_us]; exact h12
  by_cases e11 : j = a11
  · subst e11; rw [mm_un e13, mm_un e12, mm_us]; exact h11
  by_cases e10 : j = a10
  · subst e10; rw [mm_un e13, mm_un e12, mm_un e11, mm_us]; exact h10
  by_cases e9 : j = a9
  · subst e9; rw [mm_un e13, mm_un e12, mm_un e11, mm_un e10, mm_us]; exact h9
  by_cases e8 : j = a8
  · subst e8; rw [mm_un e13, mm_un e12, mm_un e11, mm_un e10, mm_un e9, mm_us]; exact h8
  by_cases e7 : j = a7
  · subst e7; rw [mm_un e13, mm_un e12, mm_un e11, mm_un e10, mm_un e9, mm_un e8, mm_us]; exact h7
  by_cases e6 : j = a6
  · subst e6; rw [mm_un e13, mm_un e12, mm_un e11, mm_un e10, mm_un e9, mm_un e8, mm_un e7, mm_us]; exact h6
  by_cases e5 : j = a5
  · subst e5; rw [mm_un e13, mm_un e12, mm_un e11, mm_un e10, mm_un e9, mm_un e8, mm_un e7, mm_un e6, mm_us]; exact h5
  by_cases e4 : j = a4
  · subst e4; rw [mm_un e13, mm_un e12, mm_un e11, mm_un e10, mm_un e9, mm_un e8, mm_un e7, mm_un e6, mm_un e5, mm_us]; exact h4
  by_cases e3 : j = a3
  · subst e3; rw [mm_un e13, mm_un e12, mm_un e11, mm_un e10, mm_un e9, mm_un e8, mm_un e7, mm_un e6, mm_un e5, mm_un e4, mm_us]; exact h3
  by_cases e2 : j = a2
  · subst e2; rw [mm_un e13, mm_un e12, mm_un e11, mm_un e10, mm_un e9, mm_un e8, mm_un e7, mm_un e6, mm_un e5, mm_un e4, mm_un e3, mm_us]; exact h2
  by_cases e1 : j = a1
  · subst e1; rw [mm_un e13, mm_un e12, mm_un e11, mm_un e10, mm_un e9, mm_un e8, mm_un e7, mm_un e6, mm_un e5, mm_un e4, mm_un e3, mm_un e2, mm_us]; exact h1
  by_cases e0 : j = a0
  · subst e0; rw [mm_un e13, mm_un e12, mm_un e11, mm_un e10, mm_un e9, mm_un e8, mm_un e7, mm_un e6, mm_un e5, mm_un e4, mm_un e3, mm_un e2, mm_un e1, mm_us]; exact h0
  rw [mm_un e13, mm_un e12, mm_un e11, mm_un e10, mm_un e9, mm_un e8, mm_un e7, mm_un e6, mm_un e5, mm_un e4, mm_un e3, mm_un e2, mm_un e1, mm_un e0]
  exact hf j e0 e1 e2 e3 e4 e5 e6 e7 e8 e9 e10 e11 e12 e13
theorem mm_e15 {w w' : mm_M} {a0 a1 a2 a3 a4 a5 a6 a7 a8 a9 a10 a11 a12 a13 a14 : Nat} {x0 x1 x2 x3 x4 x5 x6 x7 x8 x9 x10 x11 x12 x13 x14 : va_E} (h0 : w' a0 = some x0) (h1 : w' a1 = some x1) (h2 : w' a2 = some x2) (h3 : w' a3 = some x3) (h4 : w' a4 = some x4) (h5 : w' a5 = some x5) (h6 : w' a6 = some x6) (h7 : w' a7 = some x7) (h8 : w' a8 = some x8) (h9 : w' a9 = some x9) (h10 : w' a10 = some x10) (h11 : w' a11 = some x11) (h12 : w' a12 = some x12) (h13 : w' a13 = some x13) (h14 : w' a14 = some x14) (hf : ∀ j, j ≠ a0 → j ≠ a1 → j ≠ a2 → j ≠ a3 → j ≠ a4 → j ≠ a5 → j ≠ a6 → j ≠ a7 → j ≠ a8 → j ≠ a9 → j ≠ a10 → j ≠ a11 → j ≠ a12 → j ≠ a13 → j ≠ a14 → w' j = w j) : w' = mm_up (mm_up (mm_up (mm_up (mm_up (mm_up (mm_up (mm_up (mm_up (mm_up (mm_up (mm_up (mm_up (mm_up (mm_up w a0 x0) a1 x1) a2 x2) a3 x3) a4 x4) a5 x5) a6 x6) a7 x7) a8 x8) a9 x9) a10 x10) a11 x11) a12 x12) a13 x13) a14 x14 := by
  funext j
  by_cases e14 : j = a14
  · subst e14; rw [mm_us]; exact h14
  by_cases e13 : j = a13
  · subst e13; rw [mm_un e14, mm_us]; exact h13
  by_cases e12 : j = a12
  · subst e12; rw [mm_un e14, mm_un e13, mm_us]; exact h12
  by_cases e11 : j = a11
  · subst e11; rw [mm_un e14, mm_un e13, mm_un e12, mm_us]; exact h11
  by_cases e10 : j = a10
  · subst e10; rw [mm_un e14, mm_un e13, mm_un e12, mm_un e11, mm_us]; exact h10
  by_cases e9 : j = a9
  · subst e9; rw [mm_un e14, mm_un e13, mm_un e12, mm_un e11, mm_un e10, mm_us]; exact h9
  by_cases e8 : j = a8
  · subst e8; rw [mm_un e14, mm_un e13, mm_un e12, mm_un e11, mm_un e10, mm_un e9, mm_us]; exact h8
  by_cases e7 : j = a7
  · subst e7; rw [mm_un e14, mm_un e13, mm_un e12, mm_un e11, mm_un e10, mm_un e9, mm_un e8, mm_us]; exact h7
  by_cases e6 : j = a6
  · subst e6; rw [mm_un e14, mm_un e13, mm_un e12, mm_un e11, mm_un e10, mm_un e9, mm_un e8, mm_un e7, mm_us]; exact h6
  by_cases e5 : j = a5
  · subst e5; rw [mm_un e14, mm_un e13, mm_un e12, mm_un e11, mm_un e10, mm_un e9, mm_un e8, mm_un e7, mm_un e6, mm_us]; exact h5
  by_cases e4 : j = a4
  · subst e4; rw [mm_un e14, mm_un e13, mm_un e12, mm_un e11, mm_un e10, mm_un e9, mm_un e8, mm_un e7, mm_un e6, mm_un e5, mm_us]; exact h4
  by_cases e3 : j = a3
  · subst e3; rw [mm_un e14, mm_un e13, mm_un e12, mm_un e11, mm_un e10, mm_un e9, mm_un e8, mm_un e7, mm_un e6, mm_un e5, mm_un e4, mm_us]; exact h3
  by_cases e2 : j = a2
  · subst e2; rw [mm_un e14, mm_un e13, mm_un e12, mm_un e11, mm_un e10, mm_un e9, mm_un e8, mm_un e7, mm_un e6, mm_un e5, mm_un e4, mm_un e3, mm_us]; exact h2
  by_cases e1 : j = a1
  · subst e1; rw [mm_un e14, mm_un e13, mm_un e12, mm_un e11, mm_un e10, mm_un e9, mm_un e8, mm_un e7, mm_un e6, mm_un e5, mm_un e4, mm_un e3, mm_un e2, mm_us]; exact h1
  by_cases e0 : j = a0
  · subst e0; rw [mm_un e14, mm_un e13, mm_un e12, mm_un e11, mm_un e10, mm_un e9, mm_un e8, mm_un e7, mm_un e6, mm_un e5, mm_un e4, mm_un e3, mm_un e2, mm_un e1, mm_us]; exact h0
  rw [mm_un e14, mm_un e13, mm_un e12, mm_un e11, mm_un e10, mm_un e9, mm_un e8, mm_un e7, mm_un e6, mm_un e5, mm_un e4, mm_un e3, mm_un e2, mm_un e1, mm_un e0]
  exact hf j e0 e1 e2 e3 e4 e5 e6 e7 e8 e9 e10 e11 e12 e13 e14
theorem mm_e16 {w w' : mm_M} {a0 a1 a2 a3 a4 a5 a6 a7 a8 a9 a10 a11 a12 a13 a14 a15 : Nat} {x0 x1 x2 x3 x4 x5 x6 x7 x8 x9 x10 x11 x12 x13 x14 x15 : va_E} (h0 : w' a0 = some x0) (h1 : w' a1 = some x1) (h2 : w' a2 = some x2) (h3 : w' a3 = some x3) (h4 : w' a4 = some x4) (h5 : w' a5 = some x5) (h6 : w' a6 = some x6) (h7 : w' a7 = some x7) (h8 : w' a8 = some x8) (h9 : w' a9 = some x9) (h10 : w' a10 = some x10) (h11 : w' a11 = some x11) (h12 : w' a12 = some x12) (h13 : w' a13 = some x13) (h14 : w' a14 = some x14) (h15 : w' a15 = some x15) (hf : ∀ j, j ≠ a0 → j ≠ a1 → j ≠ a2 → j ≠ a3 → j ≠ a4 → j ≠ a5 → j ≠ a6 → j ≠ a7 → j ≠ a8 → j ≠ a9 → j ≠ a10 → j ≠ a11 → j ≠ a12 → j ≠ a13 → j ≠ a14 → j ≠ a15 → w' j = w j) : w' = mm_up (mm_up (mm_up (mm_up (mm_up (mm_up (mm_up (mm_up (mm_up (mm_up (mm_up (mm_up (mm_up (mm_up (mm_up (mm_up w a0 x0) a1 x1) a2 x2) a3 x3) a4 x4) a5 x5) a6 x6) a7 x7) a8 x8) a9 x9) a10 x10) a11 x11) a12 x12) a13 x13) a14 x14) a15 x15 := by
  funext j
  by_cases e15 : j = a15
  · subst e15; rw [mm_us]; exact h15
  by_cases e14 : j = a14
  · subst e14; rw [mm_un e15, mm_us]; exact h14
  by_cases e13 : j = a13
  · subst e13; rw [mm_un e15, mm_un e14, mm_us]; exact h13
  by_cases e12 : j = a12
  · subst e12; rw [mm_un e15, mm_un e14, mm_un e13, mm_us]; exact h12
  by_cases e11 : j = a11
  · subst e11; rw [mm_un e15, mm_un e14, mm_un e13, mm_un e12, mm_us]; exact h11
  by_cases e10 : j = a10
  · subst e10; rw [mm_un e15, mm_un e14, mm_un e13, mm_un e12, mm_un e11, mm_us]; exact h10
  by_cases e9 : j = a9
  · subst e9; rw [mm_un e15, mm_un e14, mm_un e13, mm_un e12, mm_un e11, mm_un e10, mm_us]; exact h9
  by_cases e8 : j = a8
  · subst e8; rw [mm_un e15, mm_un e14, mm_un e13, mm_un e12, mm_un e11, mm_un e10, mm_un e9, mm_us]; exact h8
  by_cases e7 : j = a7
  · subst e7; rw [mm_un e15, mm_un e14, mm_un e13, mm_un e12, mm_un e11, mm_un e10, mm_un e9, mm_un e8, mm_us]; exact h7
  by_cases e6 : j = a6
  · subst e6; rw [mm_un e15, mm_un e14, mm_un e13, mm_un e12, mm_un e11, mm_un e10, mm_un e9, mm_un e8, mm_un e7, mm_us]; exact h6
  by_cases e5 : j = a5
  · subst e5; rw [mm_un e15, mm_un e14, mm_un e13, mm_un e12, mm_un e11, mm_un e10, mm_un e9, mm_un e8, mm_un e7, mm_un e6, mm_us]; exact h5
  by_cases e4 : j = a4
  · subst e4; rw [mm_un e15, mm_un e14, mm_un e13, mm_un e12, mm_un e11, mm_un e10, mm_un e9, mm_un e8, mm_un e7, mm_un e6, mm_un e5, mm_us]; exact h4
  by_cases e3 : j = a3
  · subst e3; rw [mm_un e15, mm_un e14, mm_un e13, mm_un e12, mm_un e11, mm_un e10, mm_un e9, mm_un e8, mm_un e7, mm_un e6, mm_un e5, mm_un e4, mm_us]; exact h3
  by_cases e2 : j = a2
  · subst e2; rw [mm_un e15, mm_un e14, mm_un e13, mm_un e12, mm_un e11, mm_un e10, mm_un e9, mm_un e8, mm_un e7, mm_un e6, mm_un e5, mm_un e4, mm_un e3, mm_us]; exact h2
  by_cases e1 : j = a1
  · subst e1; rw [mm_un e15, mm_un e14, mm_un e13, mm_un e12, mm_un e11, mm_un e10, mm_un e9, mm_un e8, mm_un e7, mm_un e6, mm_un e5, mm_un e4, mm_un e3, mm_un e2, mm_us]; exact h1
  by_cases e0 : j = a0
  · subst e0; rw [mm_un e15, mm_un e14, mm_un e13, mm_un e12, mm_un e11, mm_un e10, mm_un e9, mm_un e8, mm_un e7, mm_un e6, mm_un e5, mm_un e4, mm_un e3, mm_un e2, mm_un e1, mm_us]; exact h0
  rw [mm_un e15, mm_un e14, mm_un e13, mm_un e12, mm_un e11, mm_un e10, mm_un e9, mm_un e8, mm_un e7, mm_un e6, mm_un e5, mm_un e4, mm_un e3, mm_un e2, mm_un e1, mm_un e0]
  exact hf j e0 e1 e2 e3 e4 e5 e6 e7 e8 e9 e10 e11 e12 e13 e14 e15
theorem mm_e17 {w w' : mm_M} {a0 a1 a2 a3 a4 a5 a6 a7 a8 a9 a10 a11 a12 a13 a14 a15 a16 : Nat} {x0 x1 x2 x3 x4 x5 x6 x7 x8 x9 x10 x11 x12 x13 x14 x15 x16 : va_E} (h0 : w' a0 = some x0) (h1 : w' a1 = some x1) (h2 : w' a2 = some x2) (h3 : w' a3 = some x3) (h4 : w' a4 = some x4) (h5 : w' a5 = some x5) (h6 : w' a6 = some x6) (h7 : w' a7 = some x7) (h8 : w' a8 = some x8) (h9 : w' a9 = some x9) (h10 : w' a10 = some x10) (h11 : w' a11 = some x11) (h12 : w' a12 = some x12) (h13 : w' a13 = some x13) (h14 : w' a14 = some x14) (h15 : w' a15 = some x15) (h16 : w' a16 = some x16) (hf : ∀ j, j ≠ a0 → j ≠ a1 → j ≠ a2 → j ≠ a3 → j ≠ a4 → j ≠ a5 → j ≠ a6 → j ≠ a7 → j ≠ a8 → j ≠ a9 → j ≠ a10 → j ≠ a11 → j ≠ a12 → j ≠ a13 → j ≠ a14 → j ≠ a15 → j ≠ a16 → w' j = w j) : w' = mm_up (mm_up (mm_up (mm_up (mm_up (mm_up (mm_up (mm_up (mm_up (mm_up (mm_up (mm_up (mm_up (mm_up (mm_up (mm_up (mm_up w a0 x0) a1 x1) a2 x2) a3 x3) a4 x4) a5 x5) a6 x6) a7 x7) a8 x8) a9 x9) a10 x10) a11 x11) a12 x12) a13 x13) a14 x14) a15 x15) a16 x16 := by
  funext j
  by_cases e16 : j = a16
  · subst e16; rw [mm_us]; exact h16
  by_cases e15 : j = a15
  · subst e15; rw [mm_un e16, mm_us]; exact h15
  by_cases e14 : j = a14
  · subst e14; rw [mm_un e16, mm_un e15, mm_us]; exact h14
  by_cases e13 : j = a13
  · subst e13; rw [mm_un e16, mm_un e15, mm_un e14, mm_us]; exact h13
  by_cases e12 : j = a12
  · subst e12; rw [mm_un e16, mm_un e15, mm_un e14, mm_un e13, mm_us]; exact h12
  by_cases e11 : j = a11
  · subst e11; rw [mm_un e16, mm_un e15, mm_un e14, mm_un e13, mm_un e12, mm_us]; exact h11
  by_cases e10 : j = a10
  · subst e10; rw [mm_un e16, mm_un e15, mm_un e14, mm_un e13, mm_un e12, mm_un e11, mm_us]; exact h10
  by_cases e9 : j = a9
  · subst e9; rw [mm_un e16, mm_un e15, mm_un e14, mm_un e13, mm_un e12, mm_un e11, mm_un e10, mm_us]; exact h9
  by_cases e8 : j = a8
  · subst e8; rw [mm_un e16, mm_un e15, mm_un e14, mm_un e13, mm_un e12, mm_un e11, mm_un e10, mm_un e9, mm_us]; exact h8
  by_cases e7 : j = a7
  · subst e7; rw [mm_un e16, mm_un e15, mm_un e14, mm_un e13, mm_un e12, mm_un e11, mm_un e10, mm_un e9, mm_un e8, mm_us]; exact h7
  by_cases e6 : j = a6
  · subst e6; rw [mm_un e16, mm_un e15, mm_un e14, mm_un e13, mm_un e12, mm_un e11, mm_un e10, mm_un e9, mm_un e8, mm_un e7, mm_us]; exact h6
  by_cases e5 : j = a5
  · subst e5; rw [mm_un e16, mm_un e15, mm_un e14, mm_un e13, mm_un e12, mm_un e11, mm_un e10, mm_un e9, mm_un e8, mm_un e7, mm_un e6, mm_us]; exact h5
  by_cases e4 : j = a4
  · subst e4; rw [mm_un e16, mm_un e15, mm_un e14, mm_un e13, mm_un e12, mm_un e11, mm_un e10, mm_un e9, mm_un e8, mm_un e7, mm_un e6, mm_un e5, mm_us]; exact h4
  by_cases e3 : j = a3
  · subst e3; rw [mm_un e16, mm_un e15, mm_un e14, mm_un e13, mm_un e12, mm_un e11, mm_un e10, mm_un e9, mm_un e8, mm_un e7, mm_un e6, mm_un e5, mm_un e4, mm_us]; exact h3
  by_cases e2 : j = a2
  · subst e2; rw [mm_un e16, mm_un e15, mm_un e14, mm_un e13, mm_un e12, mm_un e11, mm_un e10, mm_un e9, mm_un e8, mm_un e7, mm_un e6, mm_un e5, mm_un e4, mm_un e3, mm_us]; exact h2
  by_cases e1 : j = a1
  · subst e1; rw [mm_un e16, mm_un e15, mm_un e14, mm_un e13, mm_un e12, mm_un e11, mm_un e10, mm_un e9, mm_un e8, mm_un e7, mm_un e6, mm_un e5, mm_un e4, mm_un e3, mm_un e2, mm_us]; exact h1
  by_cases e0 : j = a0
  · subst e0; rw [mm_un e16, mm_un e15, mm_un e14, mm_un e13, mm_un e12, mm_un e11, mm_un e10, mm_un e9, mm_un e8, mm_un e7, mm_un e6, mm_un e5, mm_un e4, mm_un e3, mm_un e2, mm_un e1, mm_us]; exact h0
  rw [mm_un e16, mm_un e15, mm_un e14, mm_un e13, mm_un e12, mm_un e11, mm_un e10, mm_un e9, mm_un e8, mm_un e7, mm_un e6, mm_un e5, mm_un e4, mm_un e3, mm_un e2, mm_un e1, mm_un e0]
  exact hf j e0 e1 e2 e3 e4 e5 e6 e7 e8 e9 e10 e11 e12 e13 e14 e15 e16
def mm_P (B : Nat) (D : va_G) (cl : List vw_C) (w : mm_M) (H : Heap) : Prop := ∀ (a : Nat) (x : va_E), w a = some x → B ≤ a ∧ va_at D cl (a, x) H
abbrev mm_S (B : Nat) (H0 H : Heap) (locs : List Loc) : Prop := va_S (fun q => B ≤ q) H0 H locs
theorem mm_one {D : va_G} {cl : List vw_C} {a : Nat} {x : va_E} {H : Heap} (h : va_at D cl (a, x) H) : va_P D cl [(a, x)] H := fun k q hk => by
  have hz : k < 1 := (List.getElem?_eq_some_iff.mp hk).1
  rw [show k = 0 by omega] at hk
  cases hk
  exact h
theorem mm_P.set {B : Nat} {D : va_G} {cl : List vw_C} {w : mm_M} {H H1 : Heap} {a : Nat} {x : va_E} (h : mm_P B D cl w H) (hB : B ≤ a) (hx : va_at D cl (a, x) H1) (oq : ∀ q : Nat, q ≠ a → H1[q]? = H[q]?) : mm_P B D cl (mm_up w a x) H1 := by
  intro b y hb
  by_cases hba : b = a
  · subst hba
    rw [mm_us] at hb
    cases hb
    exact ⟨hB, hx⟩
  · rw [mm_un hba] at hb
    exact ⟨(h b y hb).1, (h b y hb).2.kept (oq b hba)⟩
theorem mm_P.lt {B : Nat} {D : va_G} {cl : List vw_C} {w : mm_M} {H : Heap} {a : Nat} {x : va_E} (h : mm_P B D cl w H) (hx : w a = some x) : a < H.size := (h a x hx).2.lt
theorem mm_P.new {B : Nat} {D : va_G} {cl : List vw_C} {w : mm_M} {H H1 : Heap} {a : Nat} {x : va_E} (h : mm_P B D cl w H) (ha : H.size = a) (hB : B ≤ a) (hx : va_at D cl (a, x) H1) (oq : ∀ q : Nat, q < a → H1[q]? = H[q]?) : mm_P B D cl (mm_up w a x) H1 := by
  intro b y hb
  by_cases hba : b = a
  · subst hba
    rw [mm_us] at hb
    cases hb
    exact ⟨hB, hx⟩
  · rw [mm_un hba] at hb
    have hl := h.lt hb
    exact ⟨(h b y hb).1, (h b y hb).2.kept (oq b (by omega))⟩
-- an array's contents count only below its length
theorem mm_arr {cA : ClassId} {n : Nat} {f g : Nat → Int32} (h : ∀ j, j < n → f j = g j) : vp_cell cA (n, .inl f) = vp_cell cA (n, .inl g) := by
  rw [vp_cell_i, vp_cell_i]
  unfold arrV
  rw [show (fun j : Fin n => Value.int (f j.val)) = (fun j : Fin n => Value.int (g j.val)) from funext fun j => by rw [h j.val j.isLt]]
theorem mm_P.norm {B : Nat} {D : va_G} {cl : List vw_C} {w : mm_M} {H : Heap} {a : Nat} {cA : ClassId} {n : Nat} {f g : Nat → Int32} (hP : mm_P B D cl w H) (he : w a = some (.inl (cA, n, .inl f))) (h : ∀ j, j < n → f j = g j) : mm_P B D cl (mm_up w a (.inl (cA, n, .inl g))) H :=
  hP.set (hP _ _ he).1 (show H[a]? = some (vp_cell _ _) by rw [← mm_arr h]; exact (hP _ _ he).2) (fun _ _ => rfl)
section MMrows
variable {p : Program} {l : Launch} {e : Env} {R : Room} {s : State} {m : MethodId} {args : Array Value} {below : List Frame} {meth : Method} {c : Code} {H : Heap} {locs : List Loc} {cells slots : Nat} {Q : State → Prop}
variable {cc : ByteArray} {pc : Nat} {ls : Array Slot} {rest : List Value} {D : va_G} {cl : List vw_C} {a : Nat} {tys : List (ClassId × FieldType)} {H0 : Heap} {B : Nat} {w : mm_M}
theorem mm_get (hexec : p.tables.exec = Jvm.exec) (hb : c.code = cc) {own ref C : String} {T : u_T} {N ci index : Nat} {Ts : List Cond} (hts : ∀ w ∈ Ts, w.before args s = true) (hin : ∀ w ∈ u_ws C T N, w ∈ Ts) (hown : s.vm.findClass own = some m.cls) (hK : va_K D cl tys s) (hP : mm_P B D cl w H) {fs : List Value} (he : w a = some (.inr (ci, fs))) (hc : cl[ci]? = some (C, T, N)) (k : Nat) (hk : k < N) (hlink : (Cond.fieldLink own index ref (T k).2.1 (T k).2.2.1).before args s = true) (hsame : ∀ x, s.fieldFound? (T k).1 (T k).2.1 (T k).2.2.1 = some x → s.fieldFound? ref (T k).2.1 (T k).2.2.1 = some x) {v : Value} (hv : fs[k]? = some v) (hdg : decode cc pc = .ok (.getfield index, 3))
    (kk : W p l e R s m args below meth c H locs cells slots Q (F0 m (pc + 3) ls (v :: rest))) : W p l e R s m args below meth c H locs cells slots Q (F0 m pc ls (.ref a :: rest)) :=
  va_get hexec hb hts hin hown hK (mm_one (hP _ _ he).2) 0 rfl hc k hk hlink hsame hv hdg kk
theorem mm_getN (hexec : p.tables.exec = Jvm.exec) (hb : c.code = cc) {own ref C host : String} {T : u_T} {N ci index : Nat} {Ts : List Cond} (hts : ∀ w ∈ Ts, w.before args s = true) (hin : ∀ w ∈ u_ws C T N, w ∈ Ts) (hown : s.vm.findClass own = some m.cls) (hK : va_K D cl tys s) (hP : mm_P B D cl w H) {fs : List Value} (he : w a = some (.inr (ci, fs))) (hc : cl[ci]? = some (C, T, N)) (k : Nat) (hk : k < N) (hlink : va_Nw (.fieldLinkNest own index ref (T k).2.1 (T k).2.2.1 host) s) (hsame : ∀ x, s.fieldFound? (T k).1 (T k).2.1 (T k).2.2.1 = some x → s.fieldFound? ref (T k).2.1 (T k).2.2.1 = some x) {v : Value} (hv : fs[k]? = some v) (hdg : decode cc pc = .ok (.getfield index, 3))
    (kk : W p l e R s m args below meth c H locs cells slots Q (F0 m (pc + 3) ls (v :: rest))) : W p l e R s m args below meth c H locs cells slots Q (F0 m pc ls (.ref a :: rest)) :=
  va_getN hexec hb hts hin hown hK (mm_one (hP _ _ he).2) 0 rfl hc k hk (va_Nw.use rfl hlink) hsame hv hdg kk
theorem mm_iald (hexec : p.tables.exec = Jvm.exec) (hb : c.code = cc) (hK : va_K D cl tys s) (hP : mm_P B D cl w H) (t0 : Nat) {cA : ClassId} {n : Nat} {f : Nat → Int32} (ha : w a = some (.inl (cA, n, .inl f))) (ht : tys[t0]? = some (cA, .int)) {i : Int32} (k : Nat) (hi : i = nI k) (hk : k < n) (hn : n < 2 ^ 31) (hdg : decode cc pc = .ok (.iaload, 1))
    (kk : W p l e R s m args below meth c H locs cells slots Q (F0 m (pc + 1) ls (.int (f k) :: rest))) : W p l e R s m args below meth c H locs cells slots Q (F0 m pc ls (.int i :: .ref a :: rest)) := by
  subst hi
  refine va_iald hexec hb hK (mm_one (hP _ _ ha).2) 0 t0 rfl ht (vp_in_nI hk hn) hdg ?_
  rw [nI_clamp (by omega)]
  exact kk
theorem mm_zald (hexec : p.tables.exec = Jvm.exec) (hb : c.code = cc) (hK : va_K D cl tys s) (hP : mm_P B D cl w H) (t0 : Nat) {cA : ClassId} {n : Nat} {f : Nat → Int32} (ha : w a = some (.inl (cA, n, .inl f))) (ht : tys[t0]? = some (cA, .boolean)) {i : Int32} (k : Nat) (hi : i = nI k) (hk : k < n) (hn : n < 2 ^ 31) (hdg : decode cc pc = .ok (.baload, 1))
    (kk : W p l e R s m args below meth c H locs cells slots Q (F0 m (pc + 1) ls (.int (f k) :: rest))) : W p l e R s m args below meth c H locs cells slots Q (F0 m pc ls (.int i :: .ref a :: rest)) := by
  subst hi
  refine va_zald hexec hb hK (mm_one (hP _ _ ha).2) 0 t0 rfl ht (vp_in_nI hk hn) hdg ?_
  rw [nI_clamp (by omega)]
  exact kk
theorem mm_aald (hexec : p.tables.exec = Jvm.exec) (hb : c.code = cc) (hK : va_K D cl tys s) (hP : mm_P B D cl w H) (t0 : Nat) {cA : ClassId} {C : String} {n : Nat} {f : Nat → Option Nat} (ha : w a = some (.inl (cA, n, .inr (.inr (.inr (.inr f)))))) (ht : tys[t0]? = some (cA, .object C)) {i : Int32} (k : Nat) (hi : i = nI k) (hk : k < n) (hn : n < 2 ^ 31) (hdg : decode cc pc = .ok (.aaload, 1))
    (kk : W p l e R s m args below meth c H locs cells slots Q (F0 m (pc + 1) ls (va_rf (f k) :: rest))) : W p l e R s m args below meth c H locs cells slots Q (F0 m pc ls (.int i :: .ref a :: rest)) := by
  subst hi
  refine va_aldq hexec hb hK (mm_one (hP _ _ ha).2) 0 t0 rfl ht (vp_in_nI hk hn) hdg ?_
  rw [nI_clamp (by omega)]
  exact kk
theorem mm_alen (hexec : p.tables.exec = Jvm.exec) (hb : c.code = cc) (hK : va_K D cl tys s) (hP : mm_P B D cl w H) (t0 : Nat) {cA : ClassId} {x : vp_A} (ha : w a = some (.inl (cA, x))) {ty : FieldType} (ht : tys[t0]? = some (cA, ty)) (hdg : decode cc pc = .ok (.arraylength, 1))
    (kk : W p l e R s m args below meth c H locs cells slots Q (F0 m (pc + 1) ls (.int (nI x.1) :: rest))) : W p l e R s m args below meth c H locs cells slots Q (F0 m pc ls (.ref a :: rest)) :=
  va_alen hexec hb hK (mm_one (hP _ _ ha).2) 0 t0 rfl ht rfl hdg kk
-- writes: by the kit's low rows, which say the heap's size and that all else stays
theorem mm_S.put {locs : List Loc} {H1 : Heap} {k : Nat} (h : mm_S B H0 H locs) (z : H1.size = H.size) (oq : ∀ q : Nat, q ≠ a → H1[q]? = H[q]?) (ha : B ≤ a) : mm_S B H0 H1 (locs ++ [⟨a, k⟩]) := va_S.put h z oq ha
theorem mm_iast (hexec : p.tables.exec = Jvm.exec) (hb : c.code = cc) (hK : va_K D cl tys s) (hP : mm_P B D cl w H) (hS : mm_S B H0 H locs) (t0 : Nat) {cA : ClassId} {n : Nat} {f : Nat → Int32} (ha : w a = some (.inl (cA, n, .inl f))) (ht : tys[t0]? = some (cA, .int)) {i x : Int32} (k : Nat) (hi : i = nI k) (hk : k < n) (hn : n < 2 ^ 31) (hdg : decode cc pc = .ok (.iastore, 1))
    (kk : ∀ (H1 : Heap) (locs1 : List Loc), mm_P B D cl (mm_up w a (.inl (cA, n, .inl (upd f k x)))) H1 → H1.size = H.size → mm_S B H0 H1 locs1 → W p l e R s m args below meth c H1 locs1 cells slots Q (F0 m (pc + 1) ls rest)) : W p l e R s m args below meth c H locs cells slots Q (F0 m pc ls (.int x :: .int i :: .ref a :: rest)) := by
  subst hi
  obtain ⟨hB, hc0⟩ := hP _ _ ha
  have hc0 : H[a]? = some (vp_cell cA (n, .inl f)) := hc0
  refine W.iast hexec hb hc0 ((hK.2 t0 _ ht).1 n (fun j => .int (f j))) (fun q => by cases q) (by show ¬ (nI k < 0 ∨ (arrV _ _ _).slots.size ≤ _); rw [arrV_size]; exact vp_in_nI hk hn) rfl rfl hdg fun H1 e1 z oq => ?_
  refine kk H1 _ (hP.set hB ?_ oq) z (va_S.put hS z oq hB)
  show H1[a]? = some (vp_cell _ _)
  rw [e1, vp_cell_i, vp_cell_i, arrV_store, nI_clamp (by omega)]
  congr 2
  funext q
  by_cases hq : q = k
  · subst hq; simp [updV, upd]
  · simp [updV, upd, hq]
theorem mm_zast (hexec : p.tables.exec = Jvm.exec) (hb : c.code = cc) (hK : va_K D cl tys s) (hP : mm_P B D cl w H) (hS : mm_S B H0 H locs) (t0 : Nat) {cA : ClassId} {n : Nat} {f : Nat → Int32} (ha : w a = some (.inl (cA, n, .inl f))) (ht : tys[t0]? = some (cA, .boolean)) {i x : Int32} (k : Nat) (hi : i = nI k) (hk : k < n) (hn : n < 2 ^ 31) (hx : narrow .boolean (.int x) = .int x) (hdg : decode cc pc = .ok (.bastore, 1))
    (kk : ∀ (H1 : Heap) (locs1 : List Loc), mm_P B D cl (mm_up w a (.inl (cA, n, .inl (upd f k x)))) H1 → H1.size = H.size → mm_S B H0 H1 locs1 → W p l e R s m args below meth c H1 locs1 cells slots Q (F0 m (pc + 1) ls rest)) : W p l e R s m args below meth c H locs cells slots Q (F0 m pc ls (.int x :: .int i :: .ref a :: rest)) := by
  subst hi
  obtain ⟨hB, hc0⟩ := hP _ _ ha
  have hc0 : H[a]? = some (vp_cell cA (n, .inl f)) := hc0
  refine W.zast hexec hb hc0 ((hK.2 t0 _ ht).1 n (fun j => .int (f j))) (fun q => by cases q) (by show ¬ (nI k < 0 ∨ (arrV _ _ _).slots.size ≤ _); rw [arrV_size]; exact vp_in_nI hk hn) rfl rfl hdg fun H1 e1 z oq => ?_
  refine kk H1 _ (hP.set hB ?_ oq) z (va_S.put hS z oq hB)
  show H1[a]? = some (vp_cell _ _)
  rw [e1, hx, vp_cell_i, vp_cell_i, arrV_store, nI_clamp (by omega)]
  congr 2
  funext q
  by_cases hq : q = k
  · subst hq; simp [updV, upd]
  · simp [updV, upd, hq]
theorem mm_S.new {locs : List Loc} {H1 : Heap} {h : Nat} (hS : mm_S B H0 H locs) (hh : H.size = h) (z : H1.size = h + 1) (oq : ∀ q : Nat, q < h → H1[q]? = H[q]?) : mm_S B H0 H1 locs :=
  ⟨Nat.le_trans hS.1 (by omega), fun x h1 h2 => (oq x (by have := hS.1; omega)).trans (hS.2.1 x h1 h2), hS.2.2⟩
theorem mm_put (hexec : p.tables.exec = Jvm.exec) (hb : c.code = cc) {own ref C : String} {T : u_T} {N ci index : Nat} {Ts : List Cond} (hts : ∀ w ∈ Ts, w.before args s = true) (hin : ∀ w ∈ u_ws C T N, w ∈ Ts) (ty0 : Nat → FieldType) (hty : ∀ k, k < N → parseFieldDescriptor (T k).2.2.1 = some (ty0 k)) (hnm : ∀ a, a < N → ∀ b, b < N → a ≠ b → (T a).2.1 ≠ (T b).2.1) (hown : s.vm.findClass own = some m.cls) (hK : va_K D cl tys s) (hP : mm_P B D cl w H) (hS0 : mm_S B H0 H locs) {fs : List Value} (he : w a = some (.inr (ci, fs))) (hc : cl[ci]? = some (C, T, N)) (k : Nat) (hk : k < N) (hlink : (Cond.fieldLink own index ref (T k).2.1 (T k).2.2.1).before args s = true) (hsame : ∀ x, s.fieldFound? (T k).1 (T k).2.1 (T k).2.2.1 = some x → s.fieldFound? ref (T k).2.1 (T k).2.2.1 = some x) (hfin : (T k).2.2.2 = false) {ty : FieldType} {v : Value} (hd : parseFieldDescriptor (T k).2.2.1 = some ty) (hn : narrow ty v = v) (hfit : fits ty v = true) (hl : k < fs.length)
    (hdg : decode cc pc = .ok (.putfield index, 3)) (kk : ∀ (H1 : Heap) (locs1 : List Loc), mm_P B D cl (mm_up w a (.inr (ci, fs.set k v))) H1 → H1.size = H.size → mm_S B H0 H1 locs1 → W p l e R s m args below meth c H1 locs1 cells slots Q (F0 m (pc + 3) ls rest)) : W p l e R s m args below meth c H locs cells slots Q (F0 m pc ls (v :: .ref a :: rest)) := by
  have hap := va_apart (own := own) hts hin ty0 hty hnm hK hc
  obtain ⟨hB, r, h1, cell, q1, q2, q3, q4⟩ := hP _ _ he
  have hr : r = (C, T, N) := Option.some.inj (h1.symm.trans hc)
  subst hr
  obtain ⟨hS, hfc, kC, hkC, hkind⟩ := hK.1 ci _ hc
  obtain ⟨cf, kf, fi, f, hi, hsl⟩ := hS k hk
  have hlay := hts _ (hin _ (u_in_lay hk))
  unfold u_lay at hlay
  rw [if_neg (by rw [hfin]; decide)] at hlay
  have hst := (u_facts hfc hkC (u_lays hts hin hk) hi).1
  have h6 := u_store hfc hkC hkind hlay hi hd hn hfit
  refine W.putK hexec hb (f := f) ⟨hown, hlink, ⟨_, _, _, hsame _ hi⟩, hst⟩ (by rw [q2]; exact h6) q1 q3 (by rw [hsl]; exact k2_hasslot (q4 k hk)) rfl rfl hdg fun H' e1 e2 e3 => ?_
  rw [hsl] at e1 ⊢
  exact kk H' _ (hP.set hB ⟨_, hc, t_OB.to (V := updV (vp_V fs) k v) ⟨_, e1, q2, q3, t_set q4 hap hk v⟩ (fun j _ => vp_updV_set hl v j)⟩ e3) e2 (va_S.put hS0 e2 e3 hB)
theorem mm_putN (hexec : p.tables.exec = Jvm.exec) (hb : c.code = cc) {own ref C host : String} {T : u_T} {N ci index : Nat} {Ts : List Cond} (hts : ∀ w ∈ Ts, w.before args s = true) (hin : ∀ w ∈ u_ws C T N, w ∈ Ts) (ty0 : Nat → FieldType) (hty : ∀ k, k < N → parseFieldDescriptor (T k).2.2.1 = some (ty0 k)) (hnm : ∀ a, a < N → ∀ b, b < N → a ≠ b → (T a).2.1 ≠ (T b).2.1) (hown : s.vm.findClass own = some m.cls) (hK : va_K D cl tys s) (hP : mm_P B D cl w H) (hS0 : mm_S B H0 H locs) {fs : List Value} (he : w a = some (.inr (ci, fs))) (hc : cl[ci]? = some (C, T, N)) (k : Nat) (hk : k < N) (hlink : va_Nw (.fieldLinkNest own index ref (T k).2.1 (T k).2.2.1 host) s) (hsame : ∀ x, s.fieldFound? (T k).1 (T k).2.1 (T k).2.2.1 = some x → s.fieldFound? ref (T k).2.1 (T k).2.2.1 = some x) (hfin : (T k).2.2.2 = false) {ty : FieldType} {v : Value} (hd : parseFieldDescriptor (T k).2.2.1 = some ty) (hn : narrow ty v = v) (hfit : fits ty v = true) (hl : k < fs.length)
    (hdg : decode cc pc = .ok (.putfield index, 3)) (kk : ∀ (H1 : Heap) (locs1 : List Loc), mm_P B D cl (mm_up w a (.inr (ci, fs.set k v))) H1 → H1.size = H.size → mm_S B H0 H1 locs1 → W p l e R s m args below meth c H1 locs1 cells slots Q (F0 m (pc + 3) ls rest)) : W p l e R s m args below meth c H locs cells slots Q (F0 m pc ls (v :: .ref a :: rest)) := by
  have hap := va_apart (own := own) hts hin ty0 hty hnm hK hc
  obtain ⟨hB, r, h1, cell, q1, q2, q3, q4⟩ := hP _ _ he
  have hr : r = (C, T, N) := Option.some.inj (h1.symm.trans hc)
  subst hr
  obtain ⟨hS, hfc, kC, hkC, hkind⟩ := hK.1 ci _ hc
  obtain ⟨cf, kf, fi, f, hi, hsl⟩ := hS k hk
  have hlay := hts _ (hin _ (u_in_lay hk))
  unfold u_lay at hlay
  rw [if_neg (by rw [hfin]; decide)] at hlay
  have hst := (u_facts hfc hkC (u_lays hts hin hk) hi).1
  have h6 := u_store hfc hkC hkind hlay hi hd hn hfit
  refine va_WputK hexec hb (f := f) hown (va_Nw.use rfl hlink) (hsame _ hi) hst (by rw [q2]; exact h6) q1 q3 (by rw [hsl]; exact k2_hasslot (q4 k hk)) rfl rfl hdg fun H' e1 e2 e3 => ?_
  rw [hsl] at e1 ⊢
  exact kk H' _ (hP.set hB ⟨_, hc, t_OB.to (V := updV (vp_V fs) k v) ⟨_, e1, q2, q3, t_set q4 hap hk v⟩ (fun j _ => vp_updV_set hl v j)⟩ e3) e2 (va_S.put hS0 e2 e3 hB)
theorem mm_putF (hexec : p.tables.exec = Jvm.exec) (hb : c.code = cc) {own ref C : String} {T : u_T} {N ci index : Nat} {Ts : List Cond} (hts : ∀ w ∈ Ts, w.before args s = true) (hin : ∀ w ∈ u_ws C T N, w ∈ Ts) (ty0 : Nat → FieldType) (hty : ∀ k, k < N → parseFieldDescriptor (T k).2.2.1 = some (ty0 k)) (hnm : ∀ a, a < N → ∀ b, b < N → a ≠ b → (T a).2.1 ≠ (T b).2.1) (hown : s.vm.findClass own = some m.cls) (hK : va_K D cl tys s) (hP : mm_P B D cl w H) (hS0 : mm_S B H0 H locs) {fs : List Value} (he : w a = some (.inr (ci, fs))) (hc : cl[ci]? = some (C, T, N)) (k : Nat) (hk : k < N) (hlink : (Cond.fieldLink own index ref (T k).2.1 (T k).2.2.1).before args s = true) (hsame : ∀ x, s.fieldFound? (T k).1 (T k).2.1 (T k).2.2.1 = some x → s.fieldFound? ref (T k).2.1 (T k).2.2.1 = some x) (hfin : (T k).2.2.2 = true) (hin2 : meth.name = "<init>") (hdecl : (T k).1 = own) {ty : FieldType} {v : Value} (hd : parseFieldDescriptor (T k).2.2.1 = some ty) (hn : narrow ty v = v) (hfit : fits ty v = true) (hl : k < fs.length)
    (hdg : decode cc pc = .ok (.putfield index, 3)) (kk : ∀ (H1 : Heap) (locs1 : List Loc), mm_P B D cl (mm_up w a (.inr (ci, fs.set k v))) H1 → H1.size = H.size → mm_S B H0 H1 locs1 → W p l e R s m args below meth c H1 locs1 cells slots Q (F0 m (pc + 3) ls rest)) : W p l e R s m args below meth c H locs cells slots Q (F0 m pc ls (v :: .ref a :: rest)) := by
  have hap := va_apart (own := own) hts hin ty0 hty hnm hK hc
  obtain ⟨hB, r, h1, cell, q1, q2, q3, q4⟩ := hP _ _ he
  have hr : r = (C, T, N) := Option.some.inj (h1.symm.trans hc)
  subst hr
  obtain ⟨hS, hfc, kC, hkC, hkind⟩ := hK.1 ci _ hc
  obtain ⟨cf, kf, fi, f, hi, hsl⟩ := hS k hk
  have hlay := hts _ (hin _ (u_in_lay hk))
  unfold u_lay at hlay
  rw [if_pos hfin] at hlay
  have hst := (u_facts hfc hkC (u_lays hts hin hk) hi).1
  have hcf : m.cls = cf := by
    obtain ⟨_, _, c', _, _, _, -, -, hf', -, -, -, hown2, -⟩ := Cond.laysFinal_spec hlay
    have e1 : c' = cf := by have := hi.symm.trans hf'; simp at this; exact this.1.symm
    rw [hdecl] at hown2
    rw [← e1]; exact Option.some.inj (hown.symm.trans hown2)
  have h6 := u_fits hfc hkC hkind (Or.inr hlay) hi hd hn hfit
  refine W.putFinK hexec hb hown hlink (hsame _ hi) hst hcf hin2 (by rw [q2]; exact h6) q1 q3 (by rw [hsl]; exact k2_hasslot (q4 k hk)) rfl rfl hdg fun H' e1 e2 e3 => ?_
  rw [hsl] at e1 ⊢
  exact kk H' _ (hP.set hB ⟨_, hc, t_OB.to (V := updV (vp_V fs) k v) ⟨_, e1, q2, q3, t_set q4 hap hk v⟩ (fun j _ => vp_updV_set hl v j)⟩ e3) e2 (va_S.put hS0 e2 e3 hB)
theorem mm_new (hexec : p.tables.exec = Jvm.exec) (hb : c.code = cc) {own C : String} {T : u_T} {N ci index : Nat} {Ts : List Cond} (hts : ∀ w ∈ Ts, w.before args s = true) (hin : ∀ w ∈ u_ws C T N, w ∈ Ts) (ty : Nat → FieldType) (hty : ∀ k, k < N → parseFieldDescriptor (T k).2.2.1 = some (ty k)) (hown : s.vm.findClass own = some m.cls) (hcl : (Cond.classLink own index C).before args s = true) (hinst : (Cond.instantiable C N).before args s = true) (hini : (Cond.initialized C).before args s = true)
    (hK : va_K D cl tys s) (hP : mm_P B D cl w H) (hS : mm_S B H0 H locs) (hc : cl[ci]? = some (C, T, N)) {fs : List Value} (hfs : ∀ j, j < N → defaultValue (ty j) = vp_V fs j) (hcells : cells + 1 ≤ R.cells) (hslots : slots + N ≤ R.slots) {h : Nat} (hh : H.size = h) (hB : B ≤ h) (hdg : decode cc pc = .ok (.new index, 3))
    (kk : ∀ H1 : Heap, mm_P B D cl (mm_up w h (.inr (ci, fs))) H1 → H1.size = h + 1 → mm_S B H0 H1 locs →
      W p l e R s m args below meth c H1 locs (cells + 1) (slots + N) Q (F0 m (pc + 3) ls (.ref h :: rest))) : W p l e R s m args below meth c H locs cells slots Q (F0 m pc ls rest) := by
  have hKn := hK.1 ci _ hc
  refine W.newcK hexec hb hown hcl hinst hini rfl hdg hcells hslots hKn.2.1 hh fun H1 kC hkC e1 z1 o1 => ?_
  exact kk H1 (hP.new hh hB ⟨_, hc, (u_born ty hts hin hKn hkC e1 hty).to hfs⟩ o1) z1 (mm_S.new hS hh z1 o1)
theorem mm_newa (hexec : p.tables.exec = Jvm.exec) (hb : c.code = cc) {atype : ArrayType} (harr : (Cond.arrayClass (newarray.typeOf atype)).before args s = true) {cA : ClassId} (hnm : s.vm.findClass ("[" ++ (newarray.typeOf atype).toString) = some cA) (hP : mm_P B D cl w H) (hS : mm_S B H0 H locs)
    {n : Int32} {N' : Nat} {a0 : vp_A} (ha : ∀ cA : ClassId, vp_cell cA a0 = arrV cA N' (fun _ => defaultValue (newarray.typeOf atype))) (hn : ¬ n < 0) (hN : n.toNatClampNeg = N') (hbytes : N' * componentBytes (newarray.typeOf atype) ≤ 536870912) (hcells : cells + 1 ≤ R.cells) (hslots : slots + N' ≤ R.slots) {h : Nat} (hh : H.size = h) (hB : B ≤ h) (hdg : decode cc pc = .ok (.newarray atype, 2))
    (kk : ∀ H1 : Heap, mm_P B D cl (mm_up w h (.inl (cA, a0))) H1 → H1.size = h + 1 → mm_S B H0 H1 locs →
      W p l e R s m args below meth c H1 locs (cells + 1) (slots + N') Q (F0 m (pc + 2) ls (.ref h :: rest))) : W p l e R s m args below meth c H locs cells slots Q (F0 m pc ls (.int n :: rest)) := by
  refine va_newaK hexec hb harr rfl hdg rfl hn hN hbytes hcells hslots hh fun H1 cA' e1 z1 o1 _ hNm => ?_
  cases hnm.symm.trans hNm
  exact kk H1 (hP.new hh hB (show H1[h]? = some (vp_cell _ _) by rw [ha]; exact e1) o1) z1 (mm_S.new hS hh z1 o1)
theorem mm_newq (hexec : p.tables.exec = Jvm.exec) (hb : c.code = cc) {own C : String} {index : Nat} (hown : s.vm.findClass own = some m.cls) (hclink : (Cond.classLink own index C).before args s = true) (hover : va_AO C s) {cA : ClassId} (hRA : va_RA s cA (.object C)) (hP : mm_P B D cl w H) (hS : mm_S B H0 H locs)
    {n : Int32} {N' : Nat} (hn : ¬ n < 0) (hN : n.toNatClampNeg = N') (hbytes : N' * 4 ≤ 536870912) (hcells : cells + 1 ≤ R.cells) (hslots : slots + N' ≤ R.slots) {h : Nat} (hh : H.size = h) (hB : B ≤ h) (hdg : decode cc pc = .ok (.anewarray index, 3))
    (kk : ∀ H1 : Heap, mm_P B D cl (mm_up w h (.inl (cA, N', .inr (.inr (.inr (.inr (fun _ => none))))))) H1 → H1.size = h + 1 → mm_S B H0 H1 locs →
      W p l e R s m args below meth c H1 locs (cells + 1) (slots + N') Q (F0 m (pc + 3) ls (.ref h :: rest))) : W p l e R s m args below meth c H locs cells slots Q (F0 m pc ls (.int n :: rest)) := by
  subst hN
  subst hh
  refine W.anew hexec hb hown hclink (va_AO.use hover) rfl hdg rfl hn hbytes hcells hslots fun cA' kA comp f1 f2 f3 f4 => ?_
  obtain ⟨kA0, comp0, g1, g2, g3, g4⟩ := hRA
  cases g4.symm.trans f1
  generalize hH1 : H.push ({ cls := cA, slots := Array.replicate n.toNatClampNeg .null, vm := .none } : Cell) = H1
  have z1 : H1.size = H.size + 1 := by rw [← hH1, Array.size_push]
  have e1 : H1[H.size]? = some (arrV cA n.toNatClampNeg (fun _ => .null)) := by rw [← hH1, Array.getElem?_push_size, ← arrV_new]
  have o1 : ∀ q : Nat, q < H.size → H1[q]? = H[q]? := fun q hq => by rw [← hH1, Array.getElem?_push, if_neg (Nat.ne_of_lt hq)]
  exact kk H1 (hP.new rfl hB (show H1[H.size]? = some (vp_cell _ _) by rw [vp_cell_q]; exact e1) o1) z1 (mm_S.new hS rfl z1 o1)
theorem mm_any {v ci : Nat} {fs : List Value} {r : vw_C} {E : String} (hK : va_K D cl tys s) (hP : mm_P B D cl w H) (he : w v = some (.inr (ci, fs))) (hc : cl[ci]? = some r) (hcs : va_Nw (.castable r.1 E) s) : va_Any E s H v :=
  va_rAny (q0 := 0) hK (mm_one (hP _ _ he).2) rfl hc (fun comp c0 h1 h2 => by
    obtain ⟨c1, t1, f1, f2, f3⟩ := Cond.castable_spec (va_Nw.use (A := #[]) rfl hcs)
    cases f1.symm.trans h2
    cases f2.symm.trans h1
    exact f3)
theorem mm_recv {v ci : Nat} {fs : List Value} {r : vw_C} (hK : va_K D cl tys s) (hP : mm_P B D cl w H) (he : w v = some (.inr (ci, fs))) (hc : cl[ci]? = some r) : ∃ cell : Cell, H[v]? = some cell ∧ cell.vm.isStatics = false ∧ s.vm.findClass r.1 = some cell.cls :=
  va_recv (q0 := 0) hK (mm_one (hP _ _ he).2) hc rfl
theorem mm_aast (hexec : p.tables.exec = Jvm.exec) (hb : c.code = cc) (hK : va_K D cl tys s) (hP : mm_P B D cl w H) (hS : mm_S B H0 H locs) (t0 : Nat) {E : String} {cA : ClassId} {n v : Nat} {f : Nat → Option Nat} (ha : w a = some (.inl (cA, n, .inr (.inr (.inr (.inr f)))))) (ht : tys[t0]? = some (cA, .object E)) (hr : va_Any E s H v) {i : Int32} (k : Nat) (hi : i = nI k) (hk : k < n) (hn : n < 2 ^ 31) (hdg : decode cc pc = .ok (.aastore, 1))
    (kk : ∀ (H1 : Heap) (locs1 : List Loc), mm_P B D cl (mm_up w a (.inl (cA, n, .inr (.inr (.inr (.inr (va_up f k (some v)))))))) H1 → H1.size = H.size → mm_S B H0 H1 locs1 → W p l e R s m args below meth c H1 locs1 cells slots Q (F0 m (pc + 1) ls rest)) : W p l e R s m args below meth c H locs cells slots Q (F0 m pc ls (.ref v :: .int i :: .ref a :: rest)) := by
  subst hi
  obtain ⟨hB, hc0⟩ := hP _ _ ha
  have hc0 : H[a]? = some (vp_cell cA (n, .inr (.inr (.inr (.inr f))))) := hc0
  have hcl := nI_clamp (n := k) (by omega)
  obtain ⟨cellV, g1, g3, ⟨kC, hkC⟩, hasg⟩ := hr
  obtain ⟨kA, comp, k1, k2, k3, -⟩ := (hK.2 t0 _ ht).2
  obtain ⟨kE, hkE, -⟩ := Vm.findClass_spec k3
  refine W.aast hexec hb hc0 (fun q h => by cases h) (fun h => by cases h) k1 k2 rfl hkE ⟨nI_pos (by omega), by show _ < (arrV _ _ _).slots.size; rw [arrV_size, hcl]; exact hk⟩ g1 (fun q h => by rw [h] at g3; cases g3) hkC (hasg _ k3) rfl rfl hdg fun H1 e1 z oq => ?_
  refine kk H1 _ (hP.set hB ?_ oq) z (va_S.put hS z oq hB)
  show H1[a]? = some (vp_cell _ _)
  rw [e1, vp_cell_q, vp_cell_q, arrV_store, hcl]
  congr 2
  funext q
  by_cases hq : q = k
  · subst hq; simp [updV, va_up, va_rf]
  · simp [updV, va_up, hq]
-- a part of an array of ints moved within it
theorem mm_copyi (hexec : p.tables.exec = Jvm.exec) (hb : c.code = cc) (hml : c.maxLocals = ls.size) {own : String} {index : Nat} (hown : s.vm.findClass own = some m.cls) (hlink : (Cond.methodLink own index arraycopyName).before args s = true) (hnat : (Cond.native arraycopyName).before args s = true) (hstat : (Cond.static arraycopyName).before args s = true) (hini : (Cond.initialized "java/lang/System").before args s = true)
    (hK : va_K D cl tys s) (hP : mm_P B D cl w H) (hS : mm_S B H0 H locs) (t0 : Nat) {cA : ClassId} {n0 : Nat} {f : Nat → Int32} (ha : w a = some (.inl (cA, n0, .inl f))) (ht : tys[t0]? = some (cA, .int))
    {i j k : Int32} (sp dp n : Nat) (hi : i = nI sp) (hj : j = nI dp) (hk : k = nI n) (h4 : sp + n ≤ n0) (h5 : dp + n ≤ n0) (hn0 : n0 < 2 ^ 31)
    (hframes : 1 ≤ R.frames) (hlocals : (rest.map fun v => v.category).sum + (nativeFrameWords "java/lang/System" "arraycopy" 5 + 11) ≤ R.locals) (hdg : decode cc pc = .ok (.invokestatic index, 3))
    (kk : ∀ (H1 : Heap) (locs1 : List Loc), mm_P B D cl (mm_up w a (.inl (cA, n0, .inl (va_cpy f f sp dp n)))) H1 → H1.size = H.size → mm_S B H0 H1 locs1 → W p l e R s m args below meth c H1 locs1 cells slots Q (F0 m (pc + 3) ls rest)) : W p l e R s m args below meth c H locs cells slots Q (F0 m pc ls (.int k :: .int j :: .ref a :: .int i :: .ref a :: rest)) := by
  subst hi; subst hj; subst hk
  have c1 := nI_clamp (n := sp) (by omega)
  have c2 := nI_clamp (n := dp) (by omega)
  have c3 := nI_clamp (n := n) (by omega)
  have t1 := nI_toInt (n := sp) (by omega)
  have t2 := nI_toInt (n := dp) (by omega)
  have t3 := nI_toInt (n := n) (by omega)
  obtain ⟨hB, hc0⟩ := hP _ _ ha
  have hc0 : H[a]? = some (vp_cell cA (n0, .inl f)) := hc0
  intro T hT X
  obtain ⟨-, k0, hk0, cm0, hkk0⟩ := (hK.2 t0 _ ht).1 n0 (fun j => .int (f j))
  obtain ⟨vm', X', step⟩ := X.arraycopy hexec hown hlink hnat hstat hini (src := a) (dst := a) (cs := vp_cell cA (n0, .inl f)) (cd := vp_cell cA (n0, .inl f)) (srcPos := nI sp) (destPos := nI dp) (n := nI n) (by rw [hT]; exact hc0) (by rw [hT]; exact hc0)
    (fun _ h => by cases h) (fun _ h => by cases h) (fun h => by cases h) (fun h => by cases h) hk0 hk0 hkk0 hkk0 (by simp [refKind]) (nI_pos (by omega)) (nI_pos (by omega)) (nI_pos (by omega))
    (by rw [t1, t3]; show ¬ _ > ((arrV cA n0 (fun j => .int (f j))).slots.size : Int); rw [arrV_size]; omega)
    (by rw [t2, t3]; show ¬ _ > ((arrV cA n0 (fun j => .int (f j))).slots.size : Int); rw [arrV_size]; omega)
    (fun vm₁ _ q hq => by
      have e0 : (vp_cell cA (n0, .inl f)).slots.getD ((nI sp).toNatClampNeg + q) .null = .int (f ((nI sp).toNatClampNeg + q)) := by
        show (arrV cA n0 (fun j => .int (f j))).slots.getD _ _ = _
        rw [Array.getD_eq_getD_getElem?, arrV_read _ _ (by omega)]
        rfl
      refine ⟨?_, ?_⟩
      · rw [e0]; rfl
      · rw [e0]; exact trivial)
    (g := F0 m pc ls (.int (nI n) :: .int (nI dp) :: .ref a :: .int (nI sp) :: .ref a :: rest)) rfl (by rw [hml]) (rest := rest) rfl (by rw [hb]; exact hdg) hframes (by show 2 * 0 + _ + _ ≤ _; omega)
  have e1 : copied (vp_cell cA (n0, .inl f)) (vp_cell cA (n0, .inl f)) (nI sp) (nI dp) (nI n) = vp_cell cA (n0, .inl (va_cpy f f (nI sp).toNatClampNeg (nI dp).toNatClampNeg (nI n).toNatClampNeg)) := va_copied (fun z => .int z) cA cA f f (by rw [c1, c3]; exact h4)
  rw [c1, c2, c3] at e1
  rw [e1] at X' step
  have hl : a < H.size := (Array.getElem?_eq_some_iff.mp hc0).1
  have hheap : ((T.setVm vm').setCell a (vp_cell cA (n0, .inl (va_cpy f f sp dp n)))).heap = H.setIfInBounds a (vp_cell cA (n0, .inl (va_cpy f f sp dp n))) := by rw [← hT]; rfl
  have oq : ∀ q : Nat, q ≠ a → (H.setIfInBounds a (vp_cell cA (n0, .inl (va_cpy f f sp dp n))))[q]? = H[q]? := fun q hq => by simp [Array.getElem?_setIfInBounds, Ne.symm hq]
  obtain ⟨t, a1, b1⟩ := kk _ _ (hP.set hB (show (H.setIfInBounds a _)[a]? = some _ by simp [Array.getElem?_setIfInBounds, hl]) oq) (by simp) ⟨by simp; exact hS.1, fun q g1 g2 => by
      rw [oq q (fun e => g2 (by rw [e]; exact hB))]
      exact hS.2.1 q g1 g2, fun q hq => by
      rcases List.mem_append.mp hq with h | h
      · exact hS.2.2 q h
      · obtain ⟨z, -, hz⟩ := List.mem_map.mp h
        rw [← hz]
        exact hB⟩ _ hheap X'
  exact ⟨t, step t a1, b1⟩
end MMrows
end
section
-- (behind the names: kc, gW, lw_tbl) what every method's start knows of the tables; its start and end over a memory; calls
def kk_nest : Cond → Bool
  | .fieldLinkNest .. => true
  | .methodLinkNest .. => true
  | .castable .. => true
  | _ => false
def kk_K (D : va_G) (cI cZ cQ : ClassId) (U : State) : Prop := va_K D kc [(cI, .int), (cZ, .boolean), (cQ, .object "DelegationClosure$Certificate")] U ∧ (∀ w, w ∈ lw_tbl → kk_nest w = true → va_Nw w U) ∧ va_AO "DelegationClosure$Certificate" U ∧ va_Nc "DelegationClosure$Naming" "DelegationClosure$Permission" U ∧ va_Nc "DelegationClosure$Permission" "DelegationClosure$Naming" U
theorem kk_K.warm {D : va_G} {cI cZ cQ : ClassId} {s U : State} (hW : s.WarmedH U.vm) (h : kk_K D cI cZ cQ s) : kk_K D cI cZ cQ U := by
  obtain ⟨h1, h2, h3, h4, h5⟩ := h
  refine ⟨va_K.moved hW.alike h1, fun w hw hn => ?_, va_AO.moved hW.alike h3, va_Nc.moved hW.alike h4, va_Nc.moved hW.alike h5⟩
  have h6 := h2 w hw hn
  cases w <;> first | (cases hn; done) | exact va_Nw.warmF hW h6 | exact va_Nw.warmM hW h6 | exact va_Nw.warmC hW h6
theorem kk_K.same {D : va_G} {cI cZ cQ : ClassId} {s U : State} (hv : s.vm = U.vm) (h : kk_K D cI cZ cQ s) : kk_K D cI cZ cQ U := by
  obtain ⟨h1, h2, h3, h4, h5⟩ := h
  have ha : s.vm.Alike U.vm := by rw [hv]; exact Vm.Alike.refl U.vm
  refine ⟨va_K.moved ha h1, fun w hw hn => ?_, va_AO.moved ha h3, va_Nc.moved ha h4, va_Nc.moved ha h5⟩
  have h6 := h2 w hw hn
  cases w <;> first | (cases hn; done) | exact va_Nw.same rfl hv h6
def kk_rm (f cells slots : Nat) : Room := { frames := f, cells := cells, slots := slots, locals := 40 * f }
def kk_Pc (B : Nat) (D : va_G) (cI cZ cQ : ClassId) (av : List Value) (w : mm_M) (sz : Nat) : Array Value → State → Prop := fun v U => v = av.toArray ∧ kk_K D cI cZ cQ U ∧ mm_P B D kc w U.heap ∧ U.heap.size = sz ∧ B ≤ sz
abbrev kk_E (B : Nat) (D : va_G) (u : mm_M × Nat) (t : State) : Prop := mm_P B D kc u.1 t.heap ∧ t.heap.size = u.2
abbrev kk_Qi (B : Nat) (D : va_G) (post : Int32 → mm_M → Nat → Prop) : Array Value → State → Outcome → State → Prop := va_Qi (fun r (u : mm_M × Nat) => post r u.1 u.2) (kk_E B D) (fun q => B ≤ q)
abbrev kk_Qv (B : Nat) (D : va_G) (post : mm_M → Nat → Prop) : Array Value → State → Outcome → State → Prop := va_Qv (fun (u : mm_M × Nat) => post u.1 u.2) (kk_E B D) (fun q => B ≤ q)
theorem kk_blind {B : Nat} {D : va_G} {cI cZ cQ : ClassId} {av : List Value} {w : mm_M} {sz : Nat} : FrameBlind (kk_Pc B D cI cZ cQ av w sz) := fun a U g mk h => by
  obtain ⟨h1, h2, h3, h4, h5⟩ := h
  exact ⟨h1, kk_K.same (s := U) (U := U.calling g mk a) rfl h2, h3, h4, h5⟩
theorem kk_preS {B : Nat} {D : va_G} {cI cZ cQ : ClassId} {As : List Value} {w : mm_M} {sz : Nat} {s : State} {H : Heap} (hK : kk_K D cI cZ cQ s) (hP : mm_P B D kc w H) (hz : H.size = sz) (hB : B ≤ sz) : PreS s H (kk_Pc B D cI cZ cQ As w sz) As :=
  ⟨kk_blind, fun U hU hW => ⟨rfl, hK.warm hW, by rw [hU]; exact hP, by rw [hU]; exact hz, hB⟩⟩
theorem kk_preV {B : Nat} {D : va_G} {cI cZ cQ : ClassId} {As : List Value} {w : mm_M} {sz b ci : Nat} {fs : List Value} {q : vw_C} {s : State} {H : Heap} (hK : kk_K D cI cZ cQ s) (hP : mm_P B D kc w H) (hz : H.size = sz) (hB : B ≤ sz) (hb : w b = some (.inr (ci, fs))) (hc : kc[ci]? = some q) : PreV s H q.1 b (kk_Pc B D cI cZ cQ (.ref b :: As) w sz) As :=
  ⟨kk_blind, va_recv (q0 := 0) hK.1 (mm_one (hP _ _ hb).2) hc rfl, fun U hU hW => ⟨rfl, hK.warm hW, by rw [hU]; exact hP, by rw [hU]; exact hz, hB⟩⟩
theorem kk_1 {a : Cond} (ha : a ∈ gW) : ∀ w, w ∈ [a] → w ∈ gW := fun w h => by rw [List.mem_singleton.mp h]; exact ha
theorem kk_c {a : Cond} {l : List Cond} (ha : a ∈ gW) (h : ∀ w, w ∈ l → w ∈ gW) : ∀ w, w ∈ a :: l → w ∈ gW := fun w hw => (List.mem_cons.mp hw).elim (fun q => by rw [q]; exact ha) (h w)
theorem kk_4 {a b c d : Cond} (ha : a ∈ gW) (hb : b ∈ gW) (hc : c ∈ gW) (hd : d ∈ gW) : ∀ w, w ∈ [a, b, c, d] → w ∈ gW := kk_c ha (kk_c hb (kk_c hc (kk_1 hd)))
theorem kk_5 {a b c d e : Cond} (ha : a ∈ gW) (hb : b ∈ gW) (hc : c ∈ gW) (hd : d ∈ gW) (he : e ∈ gW) : ∀ w, w ∈ [a, b, c, d, e] → w ∈ gW := kk_c ha (kk_4 hb hc hd he)
theorem kk_b0 {P : Prop} [Decidable P] (h : nI (if P then 1 else 0) = 0) : ¬ P := fun p => by rw [if_pos p] at h; exact absurd h (by decide)
theorem kk_b1 {P : Prop} [Decidable P] (h : ¬ nI (if P then 1 else 0) = 0) : P := by
  by_cases p : P
  · exact p
  · rw [if_neg p] at h; exact absurd rfl h
theorem kk_nar1 {n : Nat} (h : n ≤ 1) : narrow .boolean (.int (nI n)) = .int (nI n) := by
  rcases (show n = 0 ∨ n = 1 by omega) with rfl | rfl <;> rfl
theorem kk_fit1 {n : Nat} (h : n ≤ 1) : fits .boolean (.int (nI n)) = true := by
  rcases (show n = 0 ∨ n = 1 by omega) with rfl | rfl <;> rfl
theorem kk_nar (P : Prop) [Decidable P] : narrow .boolean (.int (nI (if P then 1 else 0))) = .int (nI (if P then 1 else 0)) := kk_nar1 (by split <;> omega)
theorem kk_inc (i : Nat) : nI i + Int32.ofInt 1 = nI (i + 1) := nI_1 i
theorem kk_dec {i : Nat} (h : 1 ≤ i) : nI i + Int32.ofInt (-1) = nI (i - 1) := by
  obtain ⟨j, rfl⟩ : ∃ j, i = j + 1 := ⟨i - 1, by omega⟩
  exact pk_m1 j
theorem kk_m1 {n : Nat} (h : n < 2 ^ 31) : nI n ≠ -1 := fun q => by
  have h1 := nI_toInt h
  rw [q] at h1
  have h2 : (-1 : Int32).toInt = -1 := by decide
  rw [h2] at h1
  omega
theorem kk_upn (g : Nat → Nat) (k x : Nat) : upd (fun i => nI (g i)) k (nI x) = fun i => nI (va_up g k x i) := by
  funext j
  unfold upd va_up
  by_cases h : j = k
  · rw [if_pos h, if_pos h]
  · rw [if_neg h, if_neg h]
theorem kk_ift {P : Prop} [Decidable P] (h : P) : nI 1 = nI (if P then 1 else 0) := by rw [if_pos h]
theorem kk_iff {P : Prop} [Decidable P] (h : ¬ P) : nI 0 = nI (if P then 1 else 0) := by rw [if_neg h]
theorem kk_ofn {x : Int32} {N : Nat} (h1 : ¬ x < 0) (h2 : ¬ nI N ≤ x) (hN : N < 2 ^ 31) : ∃ n, n < N ∧ x = nI n := by
  obtain ⟨j, hj, rfl⟩ := nI_of h1
  exact ⟨j, Nat.lt_of_not_le (fun q => h2 ((nI_leI hN hj).mpr q)), rfl⟩
theorem kk_min {a b : Nat} (ha : a < 2 ^ 31) (hb : b < 2 ^ 31) : (if nI b < nI a then nI b else nI a) = nI (min a b) := by
  by_cases h : b < a
  · rw [if_pos ((nI_ltI hb ha).mpr h), Nat.min_eq_right (Nat.le_of_lt h)]
  · rw [if_neg (fun q => h ((nI_ltI hb ha).mp q)), Nat.min_eq_left (Nat.le_of_not_lt h)]
section KKrows
variable {p : Program} {l : Launch} {e : Env} {R : Room} {s : State} {m : MethodId} {args : Array Value} {below : List Frame} {meth : Method} {c : Code} {H : Heap} {locs : List Loc} {cells slots : Nat} {Q : State → Prop}
variable {pc : Nat} {ls : Array Slot} {rest st0 : List Value} {a : Array Value} {H0 : Heap} {mc ms : Nat} {B : Nat} {D : va_G}
theorem kk_top {x y : Int32} (h : x = y) (k : W p l e R s m args below meth c H locs cells slots Q (F0 m pc ls (.int y :: rest))) : W p l e R s m args below meth c H locs cells slots Q (F0 m pc ls (.int x :: rest)) := by
  rw [h]; exact k
theorem kk_topv {x y : Value} (h : x = y) (k : W p l e R s m args below meth c H locs cells slots Q (F0 m pc ls (y :: rest))) : W p l e R s m args below meth c H locs cells slots Q (F0 m pc ls (x :: rest)) := by
  rw [h]; exact k
theorem kk_calli {post : Int32 → mm_M → Nat → Prop} (hr : va_Run p l e R s m args below meth c H locs cells slots mc ms (F0 m pc ls st0) rest (kk_Qi B D post a) (fun q => B ≤ q)) (hS : mm_S B H0 H locs)
    (kk : ∀ (r : Int32) (w' : mm_M) (sz' : Nat) (H1 : Heap) (locs1 : List Loc), post r w' sz' → mm_P B D kc w' H1 → H1.size = sz' → mm_S B H0 H1 locs1 → W p l e R s m args below meth c H1 locs1 (cells + mc) (slots + ms) Q (F0 m (pc + 3) ls (.int r :: rest))) : W p l e R s m args below meth c H locs cells slots Q (F0 m pc ls st0) :=
  va_calli hr hS (fun _ _ h => h) (fun _ h => h) (fun r u t H1 locs1 ht _ hp hE _ _ hS1 => by
    subst ht
    exact kk r u.1 u.2 _ locs1 hp hE.1 hE.2 hS1)
theorem kk_callv {post : mm_M → Nat → Prop} (hr : va_Run p l e R s m args below meth c H locs cells slots mc ms (F0 m pc ls st0) rest (kk_Qv B D post a) (fun q => B ≤ q)) (hS : mm_S B H0 H locs)
    (kk : ∀ (w' : mm_M) (sz' : Nat) (H1 : Heap) (locs1 : List Loc), post w' sz' → mm_P B D kc w' H1 → H1.size = sz' → mm_S B H0 H1 locs1 → W p l e R s m args below meth c H1 locs1 (cells + mc) (slots + ms) Q (F0 m (pc + 3) ls rest)) : W p l e R s m args below meth c H locs cells slots Q (F0 m pc ls st0) :=
  va_callv hr hS (fun _ _ h => h) (fun _ h => h) (fun u t H1 locs1 ht _ hp hE _ _ hS1 => by
    subst ht
    exact kk u.1 u.2 _ locs1 hp hE.1 hE.2 hS1)
end KKrows
theorem kk_or (P Q : Prop) [Decidable P] [Decidable Q] : nI (if P then 1 else 0) ||| nI (if Q then 1 else 0) = nI (if P ∨ Q then 1 else 0) := by
  by_cases p : P <;> by_cases q : Q <;> simp [p, q] <;> decide
theorem kk_iteq {P Q : Prop} [Decidable P] [Decidable Q] (h : P ↔ Q) : nI (if P then 1 else 0) = nI (if Q then 1 else 0) := by
  by_cases q : Q
  · rw [if_pos q, if_pos (h.mpr q)]
  · rw [if_neg q, if_neg (fun p => q (h.mp p))]
theorem ru_fill {k x : Nat} {g : Nat → Nat} : (fun i => nI (va_up (fun j => if j < k then x else g j) k x i)) = fun i => nI ((fun j => if j < k + 1 then x else g j) i) := by
  funext i
  show nI (if i = k then x else (if i < k then x else g i)) = nI (if i < k + 1 then x else g i)
  by_cases h : i = k
  · rw [if_pos h, if_pos (by omega)]
  · rw [if_neg h]
    by_cases h1 : i < k
    · rw [if_pos h1, if_pos (by omega)]
    · rw [if_neg h1, if_neg (by omega)]
end
section
-- the reference's numbers: 5000 where the class has 1000
def dm_ph (x : Nat) : Nat := if 1000 ≤ x then 5000 else x
theorem dm_ph_le (x : Nat) : dm_ph x ≤ 5000 := by
  unfold dm_ph
  split <;> omega
theorem dm_ph_lt {x y : Nat} (hx : x ≤ 1000) (hy : y ≤ 1000) : dm_ph x < dm_ph y ↔ x < y := by
  unfold dm_ph
  split <;> split <;> omega
theorem dm_ph_n {x : Nat} (hx : x ≤ 1000) : dm_ph x = 5000 ↔ x = 1000 := by
  unfold dm_ph
  split <;> omega
theorem dm_ph_s {x y : Nat} (hx : x ≤ 1000) (hy : y ≤ 1000) : dm_ph (dm_s x y) = if dm_ph x = 5000 then 5000 else if dm_ph y = 5000 then 5000 else if 999 < dm_ph x + dm_ph y then 999 else dm_ph x + dm_ph y := by
  unfold dm_s dm_ph
  (repeat' split) <;> omega
theorem dm_ph_min {x y : Nat} (hx : x ≤ 1000) (hy : y ≤ 1000) : (if dm_ph y < dm_ph x then dm_ph y else dm_ph x) = dm_ph (min x y) := by
  unfold dm_ph
  (repeat' split) <;> omega
theorem dm_s_if (x y : Nat) (hx : x ≤ 1000) (hy : y ≤ 1000) : dm_s x y = if x = 1000 then 1000 else if y = 1000 then 1000 else if 999 < x + y then 999 else x + y := by
  unfold dm_s
  (repeat' split) <;> omega
-- the class's sorting in
def dm_ins (g : Nat → Nat) : Nat → Nat → Nat → Nat
  | 0, x => va_up g 0 x
  | i + 1, x => if x < g i then dm_ins (va_up g (i + 1) (g i)) i x else va_up g (i + 1) x
def dm_sum (g : Nat → Nat) : Nat → Nat
  | 0 => 1
  | k + 1 => dm_s (dm_sum g k) (g k)
theorem dm_ins1 (g : Nat → Nat) (a q : Nat) (ha : a ≤ 1000) (h1 : 1 ≤ q) (h2 : q ≤ 1) : dm_sum (dm_ins g 0 a) q = dm_s (dm_q a 1000 1000 q) 1 := by
  obtain rfl : q = 1 := by omega
  simp [dm_ins, dm_sum, va_up, dm_q, dm_s]
  (repeat' split) <;> omega
theorem dm_ins2 (g : Nat → Nat) (a b q : Nat) (ha : a ≤ 1000) (hb : b ≤ 1000) (h1 : 1 ≤ q) (h2 : q ≤ 2) : dm_sum (dm_ins (dm_ins g 0 a) 1 b) q = dm_s (dm_q a b 1000 q) 1 := by
  rcases (show q = 1 ∨ q = 2 by omega) with rfl | rfl <;> by_cases h : b < a <;> simp [dm_ins, dm_sum, va_up, dm_q, dm_s, h] <;> (repeat' split) <;> omega
theorem dm_s_mono {x y z : Nat} (h : y ≤ z) : dm_s x y ≤ dm_s x z := by
  unfold dm_s
  (repeat' split) <;> omega
theorem dm_ins3o (g : Nat → Nat) (a b c : Nat) : ∃ x y z, (dm_ins (dm_ins (dm_ins g 0 a) 1 b) 2 c 0 = x ∧ dm_ins (dm_ins (dm_ins g 0 a) 1 b) 2 c 1 = y ∧ dm_ins (dm_ins (dm_ins g 0 a) 1 b) 2 c 2 = z) ∧ (x ≤ y ∧ y ≤ z) ∧ ((a = x ∧ b = y ∧ c = z) ∨ (a = x ∧ c = y ∧ b = z) ∨ (b = x ∧ a = y ∧ c = z) ∨ (b = x ∧ c = y ∧ a = z) ∨ (c = x ∧ a = y ∧ b = z) ∨ (c = x ∧ b = y ∧ a = z)) := by
  by_cases h : b < a <;> by_cases h3 : c < a <;> by_cases h4 : c < b <;> refine ⟨_, _, _, ⟨rfl, rfl, rfl⟩, ?_⟩ <;> simp [dm_ins, va_up, h, h3, h4] <;> omega
theorem dm_ins3 (g : Nat → Nat) (a b c q : Nat) (h1 : 1 ≤ q) (h2 : q ≤ 3) : dm_sum (dm_ins (dm_ins (dm_ins g 0 a) 1 b) 2 c) q = dm_s (dm_q a b c q) 1 := by
  obtain ⟨x, y, z, ⟨e1, e2, e3⟩, ⟨hxy, hyz⟩, hp⟩ := dm_ins3o g a b c
  generalize dm_ins (dm_ins (dm_ins g 0 a) 1 b) 2 c = H at e1 e2 e3
  rcases (show q = 1 ∨ q = 2 ∨ q = 3 by omega) with rfl | rfl | rfl
  · show dm_s 1 (H 0) = dm_s (min (min a b) c) 1
    rw [dm_s_comm 1, e1, show min (min a b) c = x by omega]
  · show dm_s (dm_s 1 (H 0)) (H 1) = dm_s (min (min (dm_s a b) (dm_s a c)) (dm_s b c)) 1
    rw [dm_s_assoc, dm_s_comm 1, e1, e2]
    have m1 := dm_s_mono (x := x) hyz
    have m2 : dm_s x y ≤ dm_s y z := by rw [dm_s_comm x y]; exact dm_s_mono (Nat.le_trans hxy hyz)
    have c1 := dm_s_comm y x
    have c2 := dm_s_comm z x
    have c3 := dm_s_comm z y
    congr 1
    rcases hp with ⟨rfl, rfl, rfl⟩ | ⟨rfl, rfl, rfl⟩ | ⟨rfl, rfl, rfl⟩ | ⟨rfl, rfl, rfl⟩ | ⟨rfl, rfl, rfl⟩ | ⟨rfl, rfl, rfl⟩ <;> omega
  · show dm_s (dm_s (dm_s 1 (H 0)) (H 1)) (H 2) = dm_s (dm_s (dm_s a b) c) 1
    have i1 : Std.Associative dm_s := ⟨dm_s_assoc⟩
    have i2 : Std.Commutative dm_s := ⟨dm_s_comm⟩
    rw [e1, e2, e3]
    rcases hp with ⟨rfl, rfl, rfl⟩ | ⟨rfl, rfl, rfl⟩ | ⟨rfl, rfl, rfl⟩ | ⟨rfl, rfl, rfl⟩ | ⟨rfl, rfl, rfl⟩ | ⟨rfl, rfl, rfl⟩ <;> ac_rfl
-- sets of the first k
def dm_set (P : Nat → Bool) : Nat → Nat
  | 0 => 0
  | k + 1 => if P k = true then dm_set P k + 2 ^ k else dm_set P k
theorem dm_set_lt (P : Nat → Bool) : ∀ k, dm_set P k < 2 ^ k
  | 0 => Nat.one_pos
  | k + 1 => by
    have h := dm_set_lt P k
    show (if P k = true then dm_set P k + 2 ^ k else dm_set P k) < 2 ^ (k + 1)
    rw [Nat.pow_succ]
    split <;> omega
theorem bt_shl : ∀ k, k < 8 → nI 1 <<< (nI k &&& 31) = nI (2 ^ k) := by decide +kernel
theorem bt_or : ∀ k, k < 8 → ∀ a, a < 2 ^ k → nI a ||| nI (2 ^ k) = nI (a + 2 ^ k) := by decide +kernel
theorem bt_and : ∀ k, k < 8 → ∀ a, a < 256 → ((nI a &&& nI (2 ^ k) = 0) ↔ ¬ a / 2 ^ k % 2 = 1) := by decide +kernel
theorem bt_shr : ∀ k, k < 8 → ∀ a, a < 256 → ((nI a >>> (nI k &&& 31)) &&& nI 1 = nI (a / 2 ^ k % 2)) := by decide +kernel
theorem bt_land (a b : Nat) : nI a &&& nI b = nI (a &&& b) := by
  unfold nI
  rw [← Int32.toBitVec_inj, Int32.toBitVec_and, Int32.toBitVec_ofNat', Int32.toBitVec_ofNat', Int32.toBitVec_ofNat', BitVec.ofNat_and]
theorem bt_land_lt {a b : Nat} (h : b < 256) : a &&& b < 256 := Nat.and_lt_two_pow a (n := 8) h
-- what counts as a subject
abbrev wf_sub (x : Int32) : Prop := ¬ x < 0 ∧ ¬ nI 200 ≤ x ∧ (x.toNatClampNeg / 8 % 5 ≠ 0 ∨ x.toNatClampNeg / 40 = 0)
abbrev wf_subn (n : Nat) : Prop := n < 200 ∧ (n / 8 % 5 ≠ 0 ∨ n / 40 = 0)
theorem wf_sub_n {n : Nat} (hn : n < 2 ^ 31) : wf_sub (nI n) ↔ wf_subn n := by
  unfold wf_sub wf_subn
  rw [nI_clamp hn, nI_leI (by omega) hn]
  constructor
  · rintro ⟨-, h1, h2⟩
    exact ⟨by omega, h2⟩
  · rintro ⟨h1, h2⟩
    exact ⟨nI_pos hn, by omega, h2⟩
theorem wf_sub_of {x : Int32} (h : wf_sub x) : ∃ n, x = nI n ∧ wf_subn n := by
  obtain ⟨j, hj, rfl⟩ := nI_of h.1
  exact ⟨j, rfl, (wf_sub_n hj).mp h⟩
theorem kk_nm {a : Nat} (h : a < 2 ^ 30) : nI a - nI 1 = -1 ↔ a = 0 := by
  constructor
  · intro q
    have h1 := pk_sub_toInt (a := a) (b := 1) h (by omega)
    rw [q] at h1
    have h2 : (-1 : Int32).toInt = -1 := by decide
    rw [h2] at h1
    omega
  · intro q
    rw [q]
    decide
theorem kk_nmlt {a : Nat} (h : a < 2 ^ 30) : nI a - nI 1 < 0 ↔ a = 0 := by
  constructor
  · intro q
    by_cases h0 : a = 0
    · exact h0
    · rw [pk_sub (by omega)] at q
      exact absurd q (nI_pos (by omega))
  · intro q
    rw [q]
    decide
theorem dm_ins_z {g : Nat → Nat} {p x : Nat} (h : p = 0) : dm_ins g p x = va_up g p x := by
  subst h; rfl
theorem dm_ins_t {g : Nat → Nat} {p x : Nat} (h : 1 ≤ p) (c : x < g (p - 1)) : dm_ins g p x = dm_ins (va_up g p (g (p - 1))) (p - 1) x := by
  obtain ⟨q, rfl⟩ : ∃ q, p = q + 1 := ⟨p - 1, by omega⟩
  exact if_pos c
theorem dm_ins_f {g : Nat → Nat} {p x : Nat} (h : 1 ≤ p) (c : ¬ x < g (p - 1)) : dm_ins g p x = va_up g p x := by
  obtain ⟨q, rfl⟩ : ∃ q, p = q + 1 := ⟨p - 1, by omega⟩
  exact if_neg c
theorem kk_upb {g : Nat → Nat} {k x B : Nat} (h : ∀ j, g j ≤ B) (hx : x ≤ B) : ∀ j, va_up g k x j ≤ B := fun j => by
  unfold va_up
  split
  · exact hx
  · exact h j
-- the chain's names
def ch_a (n : Nat) : Nat := if n / 8 % 5 = 0 then 0 else if n / 40 = 0 then 1 else 2
theorem ch_a_le (n : Nat) : ch_a n ≤ 2 := by
  unfold ch_a
  (repeat' split) <;> omega
def ch_put (g : Nat → Nat) (n sp kp : Nat) : Nat → Nat := if ch_a n = 0 then va_cpy g g sp 0 kp else if ch_a n = 1 then va_up (va_cpy g g sp 1 kp) 0 (n / 8 % 5 - 1) else va_up (va_up (va_cpy g g sp 2 kp) 0 (n / 8 % 5 - 1)) 1 (n / 40 - 1)
theorem ch_cpy (g : Nat → Nat) (sp dp n : Nat) : va_cpy (fun i => nI (g i)) (fun i => nI (g i)) sp dp n = fun i => nI (va_cpy g g sp dp n i) := by
  funext j
  unfold va_cpy
  split <;> rfl
end
section
-- a certificate's costs: by its subjects, sorted in, summed up
def dm_srt (c so : Nat → Nat) : Nat → Nat → Nat
  | 0 => so
  | k + 1 => dm_ins (dm_srt c so k) k (c k)
theorem dm_srt_q (c so : Nat → Nat) {m q : Nat} (hc : ∀ i, c i ≤ 1000) (hm : 1 ≤ m) (hm3 : m ≤ 3) (hq : 1 ≤ q) (hqm : q ≤ m) : dm_sum (dm_srt c so m) q = dm_s (dm_q (c 0) (if 1 < m then c 1 else 1000) (if 2 < m then c 2 else 1000) q) 1 := by
  rcases (show m = 1 ∨ m = 2 ∨ m = 3 by omega) with rfl | rfl | rfl
  · exact dm_ins1 so _ q (hc 0) hq hqm
  · exact dm_ins2 so _ _ q (hc 0) (hc 1) hq hqm
  · exact dm_ins3 so _ _ _ q hq hqm
theorem dm_bys_le {o l : Nat → Nat} (ho : ∀ y, o y ≤ 1000) (x : Nat) : ∀ n, dm_bys o l x n ≤ 1000
  | 0 => ho x
  | n + 1 => by
    have ih := dm_bys_le ho (l := l) x n
    show (if n = x then dm_bys o l x n else min (dm_bys o l x n) (dm_s (o n) (l n))) ≤ 1000
    split
    · exact ih
    · omega
theorem dm_by1_le {d : Bool} {o l : Nat → Nat} (ho : ∀ y, o y ≤ 1000) (x : Nat) : dm_by1 d o l x ≤ 1000 := by
  unfold dm_by1
  split
  · exact dm_bys_le ho x 8
  · exact ho x
theorem dm_q_le {a b c : Nat} (ha : a ≤ 1000) (n : Nat) : dm_q a b c n ≤ 1000 := by
  unfold dm_q
  have := dm_s_le a b
  have := dm_s_le (dm_s a b) c
  split
  · omega
  · split <;> omega
def ld_c (N : Nat → Nat → Nat) (g : Nat → Nat) (x c : Nat) (l : Nat → Nat) (i : Nat) : Nat := dm_by1 (N 13 c == 1) (fun y => dm_ofs g (N 7 (3 * c + i)) y) l x
def ld_v (N : Nat → Nat → Nat) (g : Nat → Nat) (x c : Nat) (l : Nat → Nat) : Nat := dm_s (dm_q (ld_c N g x c l 0) (if 1 < N 8 c then ld_c N g x c l 1 else 1000) (if 2 < N 8 c then ld_c N g x c l 2 else 1000) (N 9 c)) 1
theorem ld_c_sup (N : Nat → Nat → Nat) (g : Nat → Nat) (x c i : Nat) : dm_Sup (fun l => ld_c N g x c l i) := dm_by1_sup _ _ _
theorem ld_v_sup (N : Nat → Nat → Nat) (g : Nat → Nat) (x c : Nat) : dm_Sup (fun l => ld_v N g x c l) :=
  (dm_q_sup _ (ld_c_sup N g x c 0) (dm_Sup.ite _ (ld_c_sup N g x c 1) (dm_Sup.cst _)) (dm_Sup.ite _ (ld_c_sup N g x c 2) (dm_Sup.cst _))).sm (dm_Sup.cst 1)
theorem ld_c_le {N : Nat → Nat → Nat} {g : Nat → Nat} (hg : ∀ j, g j ≤ 1000) (x c : Nat) (l : Nat → Nat) (i : Nat) : ld_c N g x c l i ≤ 1000 := dm_by1_le (fun y => dm_ofs_le hg _ y) x
-- which permissions count
abbrev ld_ok (N : Nat → Nat → Nat) (S : Nat → Nat → Int32) (o : Nat) (z t : Int32) (c : Nat) : Prop := N 1 c = 0 ∧ N 2 c = 0 ∧ (¬ t < S 5 c ∧ ¬ S 6 c < t) ∧ N 10 c / 2 ^ o % 2 = 1 ∧ ¬ z < S 11 c ∧ ¬ S 12 c < z
theorem ru_M_ok (N : Nat → Nat → Nat) (S : Nat → Nat → Int32) (t : Int32) : dm_ok (ru_M N S t) := dm_upto_ok (fun c _ => by
  unfold ru_m
  split
  · refine dm_upto_ok (fun y _ x hx => ?_)
    rw [List.mem_singleton.mp hx]
    exact (dm_Sup.cst 1).sm (dm_ofs_sup _ _)
  · intro x hx; cases hx)
end
section
-- the reference's cells: N: its numbers, S: its times and ranges; field k's array lies at b + 14 + k, the chain's names at b + 30
def mo_fs (b : Nat) (N : Nat → Nat → Nat) (S : Nat → Nat → Int32) : List Value := [.int (nI (N 0 0)), .ref (b + 15), .ref (b + 16), .ref (b + 17), .ref (b + 18), .ref (b + 19), .ref (b + 20), .ref (b + 21), .ref (b + 22), .ref (b + 23), .ref (b + 24), .ref (b + 25), .ref (b + 26), .ref (b + 27), .ref (b + 28), .ref (b + 29), .int (nI (N 16 0)), .int (nI (N 17 0)), .int (nI (N 18 0)), .ref (b + 30), .int (nI (N 20 0)), .int (S 21 0), .int (S 22 0), .int (S 23 0), .int (S 24 0), .int (nI (N 25 0)), .int (nI (N 26 0))]
def mo_A (cI cZ : ClassId) (N : Nat → Nat → Nat) (S : Nat → Nat → Int32) (k : Nat) : va_E := match k with
  | 1 => .inl (cZ, 24, .inl (fun i => nI (N 1 i)))
  | 2 => .inl (cZ, 24, .inl (fun i => nI (N 2 i)))
  | 5 => .inl (cI, 24, .inl (S 5))
  | 6 => .inl (cI, 24, .inl (S 6))
  | 7 => .inl (cI, 72, .inl (fun i => nI (N 7 i)))
  | 11 => .inl (cI, 24, .inl (S 11))
  | 12 => .inl (cI, 24, .inl (S 12))
  | 13 => .inl (cZ, 24, .inl (fun i => nI (N 13 i)))
  | 14 => .inl (cI, 256, .inl (fun i => nI (N 14 i)))
  | 16 => .inl (cI, 5, .inl (fun i => nI (N 19 i)))
  | k => .inl (cI, 24, .inl (fun i => nI (N k i)))
def mo_I (b : Nat) (cI cZ : ClassId) (N : Nat → Nat → Nat) (S : Nat → Nat → Int32) (w : mm_M) : Prop :=
  w (b + 14) = some (.inr (9, mo_fs b N S)) ∧ ∀ k, 1 ≤ k → k ≤ 16 → w (b + 14 + k) = some (mo_A cI cZ N S k)
theorem mo_I.keep {b : Nat} {cI cZ : ClassId} {N : Nat → Nat → Nat} {S : Nat → Nat → Int32} {w w' : mm_M} (h : mo_I b cI cZ N S w) (hk : ∀ j, b + 14 ≤ j → j < b + 31 → w' j = w j) : mo_I b cI cZ N S w' :=
  ⟨(hk _ (by omega) (by omega)).trans h.1, fun k h1 h2 => (hk _ (by omega) (by omega)).trans (h.2 k h1 h2)⟩
-- the class's cells: certificate j at ad j, with the reference's numbers in its fields
def ce_sub (N : Nat → Nat → Nat) (j i : Nat) : Nat := if i < 3 then N 7 (3 * j + i) else 0
def ce_nam (N : Nat → Nat → Nat) (S : Nat → Nat → Int32) (w : mm_M) (a j : Nat) : Prop :=
  w a = some (.inr (7, [.int (nI (N 3 j)), .ref (a + 1), .int (nI (N 1 j)), .int (nI (N 4 j)), .int (nI (N 7 (3 * j)))])) ∧ w (a + 1) = some (.inr (6, [.int (S 5 j), .int (S 6 j)]))
def ce_prm (cI : ClassId) (N : Nat → Nat → Nat) (S : Nat → Nat → Int32) (w : mm_M) (a j : Nat) : Prop :=
  w a = some (.inr (8, [.int (nI (N 3 j)), .ref (a + 1), .int (nI (N 1 j)), .ref (a + 2), .ref (a + 3), .int (nI (N 13 j)), .int (nI (N 8 j)), .int (nI (N 9 j))])) ∧ w (a + 1) = some (.inr (6, [.int (S 5 j), .int (S 6 j)])) ∧ w (a + 2) = some (.inl (cI, 3, .inl (fun i => nI (ce_sub N j i)))) ∧ w (a + 3) = some (.inr (5, [.int (nI (N 10 j)), .ref (a + 4)])) ∧ w (a + 4) = some (.inr (6, [.int (S 11 j), .int (S 12 j)]))
def ce_I (cI : ClassId) (N : Nat → Nat → Nat) (S : Nat → Nat → Int32) (ad : Nat → Nat) (w : mm_M) (j : Nat) : Prop :=
  (N 2 j = 1 ∧ ce_nam N S w (ad j) j) ∨ (N 2 j = 0 ∧ ce_prm cI N S w (ad j) j)
def re_I (a : Nat) (cI cQ : ClassId) (N : Nat → Nat → Nat) (S : Nat → Nat → Int32) (ad : Nat → Nat) (w : mm_M) : Prop :=
  w a = some (.inr (1, [.ref (a + 1), .int (nI (N 0 0))])) ∧ w (a + 1) = some (.inl (cQ, 24, .inr (.inr (.inr (.inr (fun i => if i < N 0 0 then some (ad i) else none)))))) ∧ N 0 0 ≤ 24 ∧ ∀ j, j < N 0 0 → ce_I cI N S ad w j
-- ranges
def rg_I (N : Nat → Nat → Nat) : Prop := ∀ j, j < N 0 0 → N 1 j ≤ 1 ∧ N 2 j ≤ 1 ∧ N 3 j ≤ 8 ∧ (N 2 j = 1 → N 3 j ≤ 7) ∧ N 4 j ≤ 3 ∧ (∀ i, i < 3 → wf_subn (N 7 (3 * j + i))) ∧ 1 ≤ N 8 j ∧ N 8 j ≤ 3 ∧ 1 ≤ N 9 j ∧ N 9 j ≤ N 8 j ∧ N 10 j < 256 ∧ N 13 j ≤ 1
abbrev re_th (N : Nat → Nat → Nat) (c : Int32) : Prop := ¬ (c < 0 ∨ nI (N 0 0) ≤ c) ∧ N 1 c.toNatClampNeg = 0
abbrev re_tp (N : Nat → Nat → Nat) (c : Int32) : Prop := re_th N c ∧ N 2 c.toNatClampNeg = 0
def re_st (N : Nat → Nat → Nat) (ad : Nat → Nat) (c : Int32) : Option Nat := if re_th N c then some (ad c.toNatClampNeg) else none
def re_pm (N : Nat → Nat → Nat) (ad : Nat → Nat) (c : Int32) : Option Nat := if re_tp N c then some (ad c.toNatClampNeg) else none
theorem re_out {N : Nat → Nat → Nat} {j : Nat} (hj : j < N 0 0) (hn : N 0 0 ≤ 24) : ¬ (nI j < 0 ∨ nI (N 0 0) ≤ nI j) := by
  rintro (h | h)
  · exact nI_pos (by omega) h
  · have := (nI_leI (by omega) (by omega)).mp h
    omega
theorem re_th_in {N : Nat → Nat → Nat} {j : Nat} (hj : j < N 0 0) (hn : N 0 0 ≤ 24) : re_th N (nI j) ↔ N 1 j = 0 := by
  unfold re_th
  rw [nI_clamp (by omega)]
  exact ⟨fun h => h.2, fun h => ⟨re_out hj hn, h⟩⟩
theorem re_tp_in {N : Nat → Nat → Nat} {j : Nat} (hj : j < N 0 0) (hn : N 0 0 ≤ 24) : re_tp N (nI j) ↔ N 1 j = 0 ∧ N 2 j = 0 := by
  unfold re_tp
  rw [re_th_in hj hn, nI_clamp (by omega)]
theorem re_th_out {N : Nat → Nat → Nat} {c : Int32} (h : c < 0 ∨ nI (N 0 0) ≤ c) : ¬ re_th N c := fun q => q.1 h
theorem re_tp_out {N : Nat → Nat → Nat} {c : Int32} (h : c < 0 ∨ nI (N 0 0) ≤ c) : ¬ re_tp N c := fun q => q.1.1 h
theorem re_st_out {N : Nat → Nat → Nat} {ad : Nat → Nat} {c : Int32} (h : c < 0 ∨ nI (N 0 0) ≤ c) : re_st N ad c = none := if_neg (re_th_out h)
theorem re_pm_out {N : Nat → Nat → Nat} {ad : Nat → Nat} {c : Int32} (h : c < 0 ∨ nI (N 0 0) ≤ c) : re_pm N ad c = none := if_neg (re_tp_out h)
theorem re_st_in {N : Nat → Nat → Nat} {ad : Nat → Nat} {j : Nat} (hj : j < N 0 0) (hn : N 0 0 ≤ 24) (h : N 1 j = 0) : re_st N ad (nI j) = some (ad j) := by
  unfold re_st
  rw [if_pos ((re_th_in hj hn).mpr h), nI_clamp (by omega)]
theorem re_st_no {N : Nat → Nat → Nat} {ad : Nat → Nat} {j : Nat} (hj : j < N 0 0) (hn : N 0 0 ≤ 24) (h : ¬ N 1 j = 0) : re_st N ad (nI j) = none := by
  unfold re_st
  rw [if_neg (fun q => h ((re_th_in hj hn).mp q))]
theorem re_pm_in {N : Nat → Nat → Nat} {ad : Nat → Nat} {j : Nat} (hj : j < N 0 0) (hn : N 0 0 ≤ 24) (h : N 1 j = 0) (h2 : N 2 j = 0) : re_pm N ad (nI j) = some (ad j) := by
  unfold re_pm
  rw [if_pos ((re_tp_in hj hn).mpr ⟨h, h2⟩), nI_clamp (by omega)]
theorem re_pm_no {N : Nat → Nat → Nat} {ad : Nat → Nat} {j : Nat} (hj : j < N 0 0) (hn : N 0 0 ≤ 24) (h : ¬ (N 1 j = 0 ∧ N 2 j = 0)) : re_pm N ad (nI j) = none := by
  unfold re_pm
  rw [if_neg (fun q => h ((re_tp_in hj hn).mp q))]
theorem re_split {N : Nat → Nat → Nat} (hn : N 0 0 ≤ 24) (c : Int32) : (c < 0 ∨ nI (N 0 0) ≤ c) ∨ ∃ j, j < N 0 0 ∧ c = nI j := by
  rcases pk_ix c (n := N 0 0) (by omega) with h | h | h
  · exact Or.inl (Or.inl h)
  · exact Or.inl (Or.inr h)
  · exact Or.inr h
theorem mo_mk {b : Nat} {cI cZ : ClassId} {N : Nat → Nat → Nat} {S : Nat → Nat → Int32} {w : mm_M} (h0 : w (b + 14) = some (.inr (9, mo_fs b N S))) (h1 : w (b + 15) = some (mo_A cI cZ N S 1)) (h2 : w (b + 16) = some (mo_A cI cZ N S 2)) (h3 : w (b + 17) = some (mo_A cI cZ N S 3)) (h4 : w (b + 18) = some (mo_A cI cZ N S 4)) (h5 : w (b + 19) = some (mo_A cI cZ N S 5)) (h6 : w (b + 20) = some (mo_A cI cZ N S 6)) (h7 : w (b + 21) = some (mo_A cI cZ N S 7)) (h8 : w (b + 22) = some (mo_A cI cZ N S 8)) (h9 : w (b + 23) = some (mo_A cI cZ N S 9)) (h10 : w (b + 24) = some (mo_A cI cZ N S 10)) (h11 : w (b + 25) = some (mo_A cI cZ N S 11)) (h12 : w (b + 26) = some (mo_A cI cZ N S 12)) (h13 : w (b + 27) = some (mo_A cI cZ N S 13)) (h14 : w (b + 28) = some (mo_A cI cZ N S 14)) (h15 : w (b + 29) = some (mo_A cI cZ N S 15)) (h16 : w (b + 30) = some (mo_A cI cZ N S 16)) : mo_I b cI cZ N S w := by
  refine ⟨h0, fun k e1 e2 => ?_⟩
  rcases (show k = 1 ∨ k = 2 ∨ k = 3 ∨ k = 4 ∨ k = 5 ∨ k = 6 ∨ k = 7 ∨ k = 8 ∨ k = 9 ∨ k = 10 ∨ k = 11 ∨ k = 12 ∨ k = 13 ∨ k = 14 ∨ k = 15 ∨ k = 16 by omega) with rfl | rfl | rfl | rfl | rfl | rfl | rfl | rfl | rfl | rfl | rfl | rfl | rfl | rfl | rfl | rfl
  · exact h1
  · exact h2
  · exact h3
  · exact h4
  · exact h5
  · exact h6
  · exact h7
  · exact h8
  · exact h9
  · exact h10
  · exact h11
  · exact h12
  · exact h13
  · exact h14
  · exact h15
  · exact h16
theorem re_I.keep {a : Nat} {cI cQ : ClassId} {N : Nat → Nat → Nat} {S : Nat → Nat → Int32} {ad : Nat → Nat} {w w' : mm_M} (h : re_I a cI cQ N S ad w) (hk : ∀ j, (j = a ∨ j = a + 1 ∨ ∃ c, c < N 0 0 ∧ ad c ≤ j ∧ j ≤ ad c + 4) → w' j = w j) : re_I a cI cQ N S ad w' := by
  obtain ⟨h1, h2, h3, h4⟩ := h
  refine ⟨(hk _ (Or.inl rfl)).trans h1, (hk _ (Or.inr (Or.inl rfl))).trans h2, h3, fun j hj => ?_⟩
  have hc : ∀ i, i ≤ 4 → w' (ad j + i) = w (ad j + i) := fun i hi => hk _ (Or.inr (Or.inr ⟨j, hj, by omega, by omega⟩))
  rcases h4 j hj with ⟨e, g1, g2⟩ | ⟨e, g1, g2, g3, g4, g5⟩
  · exact Or.inl ⟨e, (hc 0 (by omega)).trans g1, (hc 1 (by omega)).trans g2⟩
  · exact Or.inr ⟨e, (hc 0 (by omega)).trans g1, (hc 1 (by omega)).trans g2, (hc 2 (by omega)).trans g3, (hc 3 (by omega)).trans g4, (hc 4 (by omega)).trans g5⟩
end
section
-- what each call does to the numbers, for class and reference alike
def mk_N (N : Nat → Nat → Nat) (z is su : Nat) : Nat → Nat → Nat := fun k => match k with
  | 0 => va_up (N 0) 0 (N 0 0 + 1)
  | 1 => va_up (N 1) (N 0 0) 0
  | 2 => va_up (N 2) (N 0 0) z
  | 3 => va_up (N 3) (N 0 0) is
  | 7 => va_up (N 7) (3 * N 0 0) su
  | 8 => va_up (N 8) (N 0 0) 1
  | 9 => va_up (N 9) (N 0 0) 1
  | 10 => va_up (N 10) (N 0 0) 255
  | k => N k
def mk_S (S : Nat → Nat → Int32) (c : Nat) (fr to : Int32) : Nat → Nat → Int32 := fun k => match k with
  | 5 => upd (S 5) c fr
  | 6 => upd (S 6) c to
  | 11 => upd (S 11) c (-2147483648)
  | 12 => upd (S 12) c 2147483647
  | k => S k
-- a naming, a permission
def cm_N (N : Nat → Nat → Nat) (z is su nm dl : Nat) : Nat → Nat → Nat := fun k => match k with
  | 4 => va_up (N 4) (N 0 0) nm
  | 13 => va_up (N 13) (N 0 0) dl
  | k => mk_N N z is su k
abbrev kk_lim (x : Int32) (n : Nat) : Prop := ¬ x < 0 ∧ ¬ nI n ≤ x
abbrev na_ok (N : Nat → Nat → Nat) (is nm su : Int32) : Prop := kk_lim is 8 ∧ kk_lim nm 4 ∧ wf_sub su ∧ ¬ 24 ≤ N 0 0
abbrev pe_ok (N : Nat → Nat → Nat) (is su : Int32) : Prop := kk_lim is 9 ∧ wf_sub su ∧ ¬ 24 ≤ N 0 0
def na_N (N : Nat → Nat → Nat) (is nm su : Int32) : Nat → Nat → Nat := if na_ok N is nm su then cm_N N 1 is.toNatClampNeg su.toNatClampNeg nm.toNatClampNeg 0 else N
def na_S (N : Nat → Nat → Nat) (S : Nat → Nat → Int32) (is nm su fr to : Int32) : Nat → Nat → Int32 := if na_ok N is nm su then mk_S S (N 0 0) fr to else S
def pe_N (N : Nat → Nat → Nat) (is su dl : Int32) : Nat → Nat → Nat := if pe_ok N is su then cm_N N 0 is.toNatClampNeg su.toNatClampNeg 0 dl.toNatClampNeg else N
def pe_S (N : Nat → Nat → Nat) (S : Nat → Nat → Int32) (is su fr to : Int32) : Nat → Nat → Int32 := if pe_ok N is su then mk_S S (N 0 0) fr to else S
abbrev tg_ok (N : Nat → Nat → Nat) (c o lo hi : Int32) : Prop := re_tp N c ∧ kk_lim o 256 ∧ ¬ hi < lo
def tg_N (N : Nat → Nat → Nat) (c o lo hi : Int32) : Nat → Nat → Nat := if tg_ok N c o lo hi then va_up N 10 (va_up (N 10) c.toNatClampNeg o.toNatClampNeg) else N
def tg_S (N : Nat → Nat → Nat) (S : Nat → Nat → Int32) (c o lo hi : Int32) : Nat → Nat → Int32 := if tg_ok N c o lo hi then (fun k => match k with | 11 => upd (S 11) c.toNatClampNeg lo | 12 => upd (S 12) c.toNatClampNeg hi | k => S k) else S
abbrev al_ok (N : Nat → Nat → Nat) (c su : Int32) : Prop := re_tp N c ∧ wf_sub su ∧ N 8 c.toNatClampNeg < 3
def al_N (N : Nat → Nat → Nat) (c su : Int32) : Nat → Nat → Nat := if al_ok N c su then va_up (va_up N 7 (va_up (N 7) (3 * c.toNatClampNeg + N 8 c.toNatClampNeg) su.toNatClampNeg)) 8 (va_up (N 8) c.toNatClampNeg (N 8 c.toNatClampNeg + 1)) else N
abbrev qu_ok (N : Nat → Nat → Nat) (c k : Int32) : Prop := re_tp N c ∧ ¬ k < nI 1 ∧ ¬ nI (N 8 c.toNatClampNeg) < k
def qu_N (N : Nat → Nat → Nat) (c k : Int32) : Nat → Nat → Nat := if qu_ok N c k then va_up N 9 (va_up (N 9) c.toNatClampNeg k.toNatClampNeg) else N
def rv_N (N : Nat → Nat → Nat) (c : Int32) : Nat → Nat → Nat := if re_th N c then va_up N 1 (va_up (N 1) c.toNatClampNeg 1) else N
theorem kk_gt {x : Int32} {n : Nat} (hn : n + 1 < 2 ^ 31) : nI n < x ↔ nI (n + 1) ≤ x := by
  rw [Int32.lt_iff_toInt_lt, Int32.le_iff_toInt_le, nI_toInt (by omega), nI_toInt hn]
  omega
theorem kk_lim_of {x : Int32} {n : Nat} (h : kk_lim x n) (hn : n < 2 ^ 31) : ∃ k, k < n ∧ x = nI k := kk_ofn h.1 h.2 hn
end
section
theorem d_Spn_init_0 : decode k_Spn_init 0 = .ok (.aload_n 0, 1) := by decide +kernel
theorem d_Spn_init_1 : decode k_Spn_init 1 = .ok (.invokespecial 1, 3) := by decide +kernel
theorem d_Spn_init_4 : decode k_Spn_init 4 = .ok (.aload_n 0, 1) := by decide +kernel
theorem d_Spn_init_5 : decode k_Spn_init 5 = .ok (.iload_n 1, 1) := by decide +kernel
theorem d_Spn_init_6 : decode k_Spn_init 6 = .ok (.putfield 7, 3) := by decide +kernel
theorem d_Spn_init_9 : decode k_Spn_init 9 = .ok (.aload_n 0, 1) := by decide +kernel
theorem d_Spn_init_10 : decode k_Spn_init 10 = .ok (.iload_n 2, 1) := by decide +kernel
theorem d_Spn_init_11 : decode k_Spn_init 11 = .ok (.putfield 13, 3) := by decide +kernel
theorem d_Spn_init_14 : decode k_Spn_init 14 = .ok (.return_, 1) := by decide +kernel
set_option maxHeartbeats 4000000 in
set_option maxRecDepth 100000 in
theorem c_Spn_init (l : Launch) {B : Nat} {D : va_G} {cI cZ cQ : ClassId} {w : mm_M} {sz : Nat} {a : Nat} {u v lo hi : Int32} (h_0 : w a = some (.inr (6, [.int u, .int v]))) : Met l y_Spn_init ws_Spn_init (kk_rm 1 0 0) (kk_Pc B D cI cZ cQ [.ref a, .int lo, .int hi] w sz) (kk_Qv B D (fun w' sz' => w' = mm_up w a (.inr (6, [.int lo, .int hi])) ∧ sz' = sz)) 0 0 (fun q => B ≤ q) := by
  refine Met.ofW (cc := k_Spn_init) (maxL := 3) (ret := none) (by decide) rfl ?_
  intro p e s m args below meth c s₁ BB hml hv
  obtain ⟨rfl, hK, hP, hz, hBz⟩ := hv
  have hx := BB.exec
  have hb := BB.bytes
  have hr := BB.returns
  have hts := atoms_spec (ws := ws_Spn_init) BB.pre
  have hown : s.vm.findClass "DelegationClosure$Span" = some m.cls := findClass_of_methodNamed BB.named
  have hlocks := BB.notSynchronized
  have hin : meth.name = "<init>" := (name_of_methodNamed BB.named BB.method).1
  have hS : mm_S B s.heap s.heap [] := va_S.rf
  have hl := lv_entry ([.ref a, .int lo, .int hi]) (n := 3) (Nat.le_of_ble_eq_true rfl)
  rw [lg_entry_eq]
  generalize (lg_sl ([.ref a, .int lo, .int hi]) ++ List.replicate (3 - (lg_sl ([.ref a, .int lo, .int hi])).length) Slot.unset).toArray = ls at hl ⊢
  have hl : lv_has ls 3 [(0, .ref a), (1, .int lo), (2, .int hi)] := hl
  refine lv_aload_n hx hb d_Spn_init_0 rfl (lv_at hl 0 rfl) ?_
  refine W.objInit hx hb hown (hts _ (List.mem_cons_of_mem _ wd_88)) (hts _ (List.mem_cons_of_mem _ wd_21)) (hts _ (List.mem_cons_of_mem _ wd_objcode)) rfl (by rw [hml]; exact hl.1) rfl d_Spn_init_1 (Nat.le_of_ble_eq_true rfl) (Nat.le_of_ble_eq_true rfl) ?_
  refine W.eq (g2 := F0 m 4 ls []) rfl ?_
  refine lv_aload_n hx hb d_Spn_init_4 rfl (lv_at hl 0 rfl) ?_
  refine lv_iload_n hx hb d_Spn_init_5 rfl (lv_at hl 1 rfl) ?_
  refine mm_put (D := D) (C := n_Spn) (T := T_Spn) (N := 2) (v := .int lo) (ty := .int) hx hb hts lay_Spn t_Spn ty_Spn nm_Spn hown hK.1 hP hS h_0 rfl 0 (by decide) (hts _ (List.mem_cons_of_mem _ wd_89)) (fun _ h9 => h9) rfl (by decide +kernel) rfl rfl (Nat.le_of_ble_eq_true rfl) d_Spn_init_6 (fun H locs hP hz1 hS => ?_)
  have hz : H.size = sz := hz1.trans hz
  obtain ⟨w1, hw1⟩ : ∃ z : mm_M, z = mm_up w a (.inr (6, [.int lo, .int v])) := ⟨_, rfl⟩
  have hP : mm_P B D kc w1 H := by rw [hw1]; exact hP
  have fr1 : ∀ j, j ≠ a → w1 j = w j := fun j h9 => by rw [hw1]; exact mm_un h9
  have fa1 : w1 a = some (.inr (6, [.int lo, .int v])) := by rw [hw1]; exact mm_us _ _ _
  refine lv_aload_n hx hb d_Spn_init_9 rfl (lv_at hl 0 rfl) ?_
  refine lv_iload_n hx hb d_Spn_init_10 rfl (lv_at hl 2 rfl) ?_
  refine mm_put (D := D) (C := n_Spn) (T := T_Spn) (N := 2) (v := .int hi) (ty := .int) hx hb hts lay_Spn t_Spn ty_Spn nm_Spn hown hK.1 hP hS fa1 rfl 1 (by decide) (hts _ (List.mem_cons_of_mem _ wd_90)) (fun _ h9 => h9) rfl (by decide +kernel) rfl rfl (Nat.le_of_ble_eq_true rfl) d_Spn_init_11 (fun H locs hP hz1 hS => ?_)
  have hz : H.size = sz := hz1.trans hz
  obtain ⟨w2, hw2⟩ : ∃ z : mm_M, z = mm_up w1 a (.inr (6, [.int lo, .int hi])) := ⟨_, rfl⟩
  have hP : mm_P B D kc w2 H := by rw [hw2]; exact hP
  have fr2 : ∀ j, j ≠ a → w2 j = w1 j := fun j h9 => by rw [hw2]; exact mm_un h9
  have fa2 : w2 a = some (.inr (6, [.int lo, .int hi])) := by rw [hw2]; exact mm_us _ _ _
  exact W.vret hx hb hr (fun t ht hW => ⟨⟨(w2, sz), rfl, ⟨mm_e1 fa2 (fun j g0 => (fr2 j g0).trans (fr1 j g0)), rfl⟩, by rw [ht]; exact hP, by rw [ht]; exact hz⟩, hS.F ht⟩) hS.2.2 d_Spn_init_14
theorem d_Spn_set_0 : decode k_Spn_set 0 = .ok (.aload_n 0, 1) := by decide +kernel
theorem d_Spn_set_1 : decode k_Spn_set 1 = .ok (.iload_n 1, 1) := by decide +kernel
theorem d_Spn_set_2 : decode k_Spn_set 2 = .ok (.putfield 7, 3) := by decide +kernel
theorem d_Spn_set_5 : decode k_Spn_set 5 = .ok (.aload_n 0, 1) := by decide +kernel
theorem d_Spn_set_6 : decode k_Spn_set 6 = .ok (.iload_n 2, 1) := by decide +kernel
theorem d_Spn_set_7 : decode k_Spn_set 7 = .ok (.putfield 13, 3) := by decide +kernel
theorem d_Spn_set_10 : decode k_Spn_set 10 = .ok (.return_, 1) := by decide +kernel
set_option maxHeartbeats 4000000 in
set_option maxRecDepth 100000 in
theorem c_Spn_set (l : Launch) {B : Nat} {D : va_G} {cI cZ cQ : ClassId} {w : mm_M} {sz : Nat} {a : Nat} {u v lo hi : Int32} (h_0 : w a = some (.inr (6, [.int u, .int v]))) : Met l y_Spn_set ws_Spn_set (kk_rm 0 0 0) (kk_Pc B D cI cZ cQ [.ref a, .int lo, .int hi] w sz) (kk_Qv B D (fun w' sz' => w' = mm_up w a (.inr (6, [.int lo, .int hi])) ∧ sz' = sz)) 0 0 (fun q => B ≤ q) := by
  refine Met.ofW (cc := k_Spn_set) (maxL := 3) (ret := none) (by decide) rfl ?_
  intro p e s m args below meth c s₁ BB hml hv
  obtain ⟨rfl, hK, hP, hz, hBz⟩ := hv
  have hx := BB.exec
  have hb := BB.bytes
  have hr := BB.returns
  have hts := atoms_spec (ws := ws_Spn_set) BB.pre
  have hown : s.vm.findClass "DelegationClosure$Span" = some m.cls := findClass_of_methodNamed BB.named
  have hlocks := BB.notSynchronized
  have hS : mm_S B s.heap s.heap [] := va_S.rf
  have hl := lv_entry ([.ref a, .int lo, .int hi]) (n := 3) (Nat.le_of_ble_eq_true rfl)
  rw [lg_entry_eq]
  generalize (lg_sl ([.ref a, .int lo, .int hi]) ++ List.replicate (3 - (lg_sl ([.ref a, .int lo, .int hi])).length) Slot.unset).toArray = ls at hl ⊢
  have hl : lv_has ls 3 [(0, .ref a), (1, .int lo), (2, .int hi)] := hl
  refine lv_aload_n hx hb d_Spn_set_0 rfl (lv_at hl 0 rfl) ?_
  refine lv_iload_n hx hb d_Spn_set_1 rfl (lv_at hl 1 rfl) ?_
  refine mm_put (D := D) (C := n_Spn) (T := T_Spn) (N := 2) (v := .int lo) (ty := .int) hx hb hts lay_Spn t_Spn ty_Spn nm_Spn hown hK.1 hP hS h_0 rfl 0 (by decide) (hts _ (List.mem_cons_of_mem _ wd_89)) (fun _ h9 => h9) rfl (by decide +kernel) rfl rfl (Nat.le_of_ble_eq_true rfl) d_Spn_set_2 (fun H locs hP hz1 hS => ?_)
  have hz : H.size = sz := hz1.trans hz
  obtain ⟨w1, hw1⟩ : ∃ z : mm_M, z = mm_up w a (.inr (6, [.int lo, .int v])) := ⟨_, rfl⟩
  have hP : mm_P B D kc w1 H := by rw [hw1]; exact hP
  have fr1 : ∀ j, j ≠ a → w1 j = w j := fun j h9 => by rw [hw1]; exact mm_un h9
  have fa1 : w1 a = some (.inr (6, [.int lo, .int v])) := by rw [hw1]; exact mm_us _ _ _
  refine lv_aload_n hx hb d_Spn_set_5 rfl (lv_at hl 0 rfl) ?_
  refine lv_iload_n hx hb d_Spn_set_6 rfl (lv_at hl 2 rfl) ?_
  refine mm_put (D := D) (C := n_Spn) (T := T_Spn) (N := 2) (v := .int hi) (ty := .int) hx hb hts lay_Spn t_Spn ty_Spn nm_Spn hown hK.1 hP hS fa1 rfl 1 (by decide) (hts _ (List.mem_cons_of_mem _ wd_90)) (fun _ h9 => h9) rfl (by decide +kernel) rfl rfl (Nat.le_of_ble_eq_true rfl) d_Spn_set_7 (fun H locs hP hz1 hS => ?_)
  have hz : H.size = sz := hz1.trans hz
  obtain ⟨w2, hw2⟩ : ∃ z : mm_M, z = mm_up w1 a (.inr (6, [.int lo, .int hi])) := ⟨_, rfl⟩
  have hP : mm_P B D kc w2 H := by rw [hw2]; exact hP
  have fr2 : ∀ j, j ≠ a → w2 j = w1 j := fun j h9 => by rw [hw2]; exact mm_un h9
  have fa2 : w2 a = some (.inr (6, [.int lo, .int hi])) := by rw [hw2]; exact mm_us _ _ _
  exact W.vret hx hb hr (fun t ht hW => ⟨⟨(w2, sz), rfl, ⟨mm_e1 fa2 (fun j g0 => (fr2 j g0).trans (fr1 j g0)), rfl⟩, by rw [ht]; exact hP, by rw [ht]; exact hz⟩, hS.F ht⟩) hS.2.2 d_Spn_set_10
theorem d_Spn_contains_0 : decode k_Spn_contains 0 = .ok (.aload_n 0, 1) := by decide +kernel
theorem d_Spn_contains_1 : decode k_Spn_contains 1 = .ok (.getfield 7, 3) := by decide +kernel
theorem d_Spn_contains_4 : decode k_Spn_contains 4 = .ok (.iload_n 1, 1) := by decide +kernel
theorem d_Spn_contains_5 : decode k_Spn_contains 5 = .ok (.if_icmp .gt 15, 3) := by decide +kernel
theorem d_Spn_contains_8 : decode k_Spn_contains 8 = .ok (.iload_n 1, 1) := by decide +kernel
theorem d_Spn_contains_9 : decode k_Spn_contains 9 = .ok (.aload_n 0, 1) := by decide +kernel
theorem d_Spn_contains_10 : decode k_Spn_contains 10 = .ok (.getfield 13, 3) := by decide +kernel
theorem d_Spn_contains_13 : decode k_Spn_contains 13 = .ok (.if_icmp .gt 7, 3) := by decide +kernel
theorem d_Spn_contains_16 : decode k_Spn_contains 16 = .ok (.iconst 1, 1) := by decide +kernel
theorem d_Spn_contains_17 : decode k_Spn_contains 17 = .ok (.goto 4, 3) := by decide +kernel
theorem d_Spn_contains_20 : decode k_Spn_contains 20 = .ok (.iconst 0, 1) := by decide +kernel
theorem d_Spn_contains_21 : decode k_Spn_contains 21 = .ok (.ireturn, 1) := by decide +kernel
set_option maxHeartbeats 4000000 in
set_option maxRecDepth 100000 in
theorem c_Spn_contains (l : Launch) {B : Nat} {D : va_G} {cI cZ cQ : ClassId} {w : mm_M} {sz : Nat} {a : Nat} {u v x : Int32} (h_0 : w a = some (.inr (6, [.int u, .int v]))) : Met l y_Spn_contains ws_Spn_contains (kk_rm 0 0 0) (kk_Pc B D cI cZ cQ [.ref a, .int x] w sz) (vp_Si (fun r => r = nI (if ¬ x < u ∧ ¬ v < x then 1 else 0))) 0 0 (fun _ => False) := by
  refine Met.ofW (cc := k_Spn_contains) (maxL := 2) (ret := (some .boolean)) (by decide) rfl ?_
  intro p e s m args below meth c s₁ BB hml hv
  obtain ⟨rfl, hK, hP, hz, hBz⟩ := hv
  have hx := BB.exec
  have hb := BB.bytes
  have hr := BB.returns
  have hts := atoms_spec (ws := ws_Spn_contains) BB.pre
  have hown : s.vm.findClass "DelegationClosure$Span" = some m.cls := findClass_of_methodNamed BB.named
  have hlocks := BB.notSynchronized
  have hS : mm_S B s.heap s.heap [] := va_S.rf
  have hl := lv_entry ([.ref a, .int x]) (n := 2) (Nat.le_of_ble_eq_true rfl)
  rw [lg_entry_eq]
  generalize (lg_sl ([.ref a, .int x]) ++ List.replicate (2 - (lg_sl ([.ref a, .int x])).length) Slot.unset).toArray = ls at hl ⊢
  have hl : lv_has ls 2 [(0, .ref a), (1, .int x)] := hl
  refine lv_aload_n hx hb d_Spn_contains_0 rfl (lv_at hl 0 rfl) ?_
  refine mm_get (D := D) (C := n_Spn) (T := T_Spn) (N := 2) (v := .int u) hx hb hts lay_Spn hown hK.1 hP h_0 rfl 0 (by decide) (hts _ (List.mem_cons_of_mem _ wd_89)) (fun _ h9 => h9) rfl d_Spn_contains_1 ?_
  refine lv_iload_n hx hb d_Spn_contains_4 rfl (lv_at hl 1 rfl) ?_
  refine lv_icmp_gt (tgt := 20) hx hb d_Spn_contains_5 (by decide) (fun cc1 => ?_) (fun cc1 => ?_)
  · refine lv_iconst (v := nI 0) hx hb d_Spn_contains_20 (by decide) ?_
    exact W.zret hx hb hr rfl (fun t ht hW => ⟨_, rfl, by simp only [cc1, not_true_eq_false, not_false_eq_true, and_true, true_and, and_false, false_and, or_true, true_or, or_false, false_or, and_self, or_self, if_true, if_false, ite_true, ite_false, ↓reduceIte], ht⟩) (fun q hq => by cases hq) d_Spn_contains_21
  · refine lv_iload_n hx hb d_Spn_contains_8 rfl (lv_at hl 1 rfl) ?_
    refine lv_aload_n hx hb d_Spn_contains_9 rfl (lv_at hl 0 rfl) ?_
    refine mm_get (D := D) (C := n_Spn) (T := T_Spn) (N := 2) (v := .int v) hx hb hts lay_Spn hown hK.1 hP h_0 rfl 1 (by decide) (hts _ (List.mem_cons_of_mem _ wd_90)) (fun _ h9 => h9) rfl d_Spn_contains_10 ?_
    refine lv_icmp_gt (tgt := 20) hx hb d_Spn_contains_13 (by decide) (fun cc2 => ?_) (fun cc2 => ?_)
    · refine lv_iconst (v := nI 0) hx hb d_Spn_contains_20 (by decide) ?_
      exact W.zret hx hb hr rfl (fun t ht hW => ⟨_, rfl, by simp only [cc1, cc2, not_true_eq_false, not_false_eq_true, and_true, true_and, and_false, false_and, or_true, true_or, or_false, false_or, and_self, or_self, if_true, if_false, ite_true, ite_false, ↓reduceIte], ht⟩) (fun q hq => by cases hq) d_Spn_contains_21
    · refine lv_iconst (v := nI 1) hx hb d_Spn_contains_16 (by decide) ?_
      refine lv_goto (tgt := 21) hx hb d_Spn_contains_17 (by decide) ?_
      exact W.zret hx hb hr rfl (fun t ht hW => ⟨_, rfl, by simp only [cc1, cc2, not_true_eq_false, not_false_eq_true, and_true, true_and, and_false, false_and, or_true, true_or, or_false, false_or, and_self, or_self, if_true, if_false, ite_true, ite_false, ↓reduceIte], ht⟩) (fun q hq => by cases hq) d_Spn_contains_21
theorem d_Spn_copy_0 : decode k_Spn_copy 0 = .ok (.aload_n 0, 1) := by decide +kernel
theorem d_Spn_copy_1 : decode k_Spn_copy 1 = .ok (.aload_n 1, 1) := by decide +kernel
theorem d_Spn_copy_2 : decode k_Spn_copy 2 = .ok (.getfield 7, 3) := by decide +kernel
theorem d_Spn_copy_5 : decode k_Spn_copy 5 = .ok (.aload_n 1, 1) := by decide +kernel
theorem d_Spn_copy_6 : decode k_Spn_copy 6 = .ok (.getfield 13, 3) := by decide +kernel
theorem d_Spn_copy_9 : decode k_Spn_copy 9 = .ok (.invokevirtual 16, 3) := by decide +kernel
theorem d_Spn_copy_12 : decode k_Spn_copy 12 = .ok (.return_, 1) := by decide +kernel
set_option maxHeartbeats 4000000 in
set_option maxRecDepth 100000 in
theorem c_Spn_copy (l : Launch) {B : Nat} {D : va_G} {cI cZ cQ : ClassId} {w : mm_M} {sz : Nat} {a o : Nat} {u v p1 q1 : Int32} (h_0 : w a = some (.inr (6, [.int u, .int v]))) (h_1 : w o = some (.inr (6, [.int p1, .int q1]))) : Met l y_Spn_copy ws_Spn_copy (kk_rm 1 0 0) (kk_Pc B D cI cZ cQ [.ref a, .ref o] w sz) (kk_Qv B D (fun w' sz' => w' = mm_up w a (.inr (6, [.int p1, .int q1])) ∧ sz' = sz)) 0 0 (fun q => B ≤ q) := by
  refine Met.ofW (cc := k_Spn_copy) (maxL := 2) (ret := none) (by decide) rfl ?_
  intro p e s m args below meth c s₁ BB hml hv
  obtain ⟨rfl, hK, hP, hz, hBz⟩ := hv
  have hx := BB.exec
  have hb := BB.bytes
  have hr := BB.returns
  have hts := atoms_spec (ws := ws_Spn_copy) BB.pre
  have hown : s.vm.findClass "DelegationClosure$Span" = some m.cls := findClass_of_methodNamed BB.named
  have hlocks := BB.notSynchronized
  have hS : mm_S B s.heap s.heap [] := va_S.rf
  have hl := lv_entry ([.ref a, .ref o]) (n := 2) (Nat.le_of_ble_eq_true rfl)
  rw [lg_entry_eq]
  generalize (lg_sl ([.ref a, .ref o]) ++ List.replicate (2 - (lg_sl ([.ref a, .ref o])).length) Slot.unset).toArray = ls at hl ⊢
  have hl : lv_has ls 2 [(0, .ref a), (1, .ref o)] := hl
  refine lv_aload_n hx hb d_Spn_copy_0 rfl (lv_at hl 0 rfl) ?_
  refine lv_aload_n hx hb d_Spn_copy_1 rfl (lv_at hl 1 rfl) ?_
  refine mm_get (D := D) (C := n_Spn) (T := T_Spn) (N := 2) (v := .int p1) hx hb hts lay_Spn hown hK.1 hP h_1 rfl 0 (by decide) (hts _ (List.mem_cons_of_mem _ wd_89)) (fun _ h9 => h9) rfl d_Spn_copy_2 ?_
  refine lv_aload_n hx hb d_Spn_copy_5 rfl (lv_at hl 1 rfl) ?_
  refine mm_get (D := D) (C := n_Spn) (T := T_Spn) (N := 2) (v := .int q1) hx hb hts lay_Spn hown hK.1 hP h_1 rfl 1 (by decide) (hts _ (List.mem_cons_of_mem _ wd_90)) (fun _ h9 => h9) rfl d_Spn_copy_6 ?_
  refine kk_callv (va_runV (As := [.int p1, .int q1]) (rest := []) ⟨hx, hb, hml, hown, hts⟩ (c_Spn_set l h_0) (cwV 2 hts (gW_in (hd := [_, _, _, _, _]) (kk_5 wd_427 wd_277 wd_278 wd_7 cw_Spn_set)) rfl rfl rfl ⟨rfl, ds_Spn_set⟩ ⟨Nat.le_of_ble_eq_true rfl, Nat.le_of_ble_eq_true rfl⟩) (kk_preV hK hP hz hBz h_0 rfl) rfl rfl hl.1 rfl (lv_room (Nat.le_of_ble_eq_true rfl)) d_Spn_copy_9 ⟨Nat.le_of_ble_eq_true rfl, Nat.le_of_ble_eq_true rfl⟩) hS (fun w1 sz1 H locs hp1 hP hz hS => ?_)
  obtain ⟨he1, hs1⟩ := hp1
  have hz : H.size = sz := hz.trans hs1
  have hw2 : w1 = mm_up w a (.inr (6, [.int p1, .int q1])) := he1
  have fr2 : ∀ j, j ≠ a → w1 j = w j := fun j h90 => by rw [hw2]; exact mm_un h90
  have fa2_0 : w1 a = some (.inr (6, [.int p1, .int q1])) := by rw [hw2]; exact mm_us _ _ _
  exact W.vret hx hb hr (fun t ht hW => ⟨⟨(w1, sz), rfl, ⟨mm_e1 fa2_0 (fun j g0 => fr2 j g0), rfl⟩, by rw [ht]; exact hP, by rw [ht]; exact hz⟩, hS.F ht⟩) hS.2.2 d_Spn_copy_12
theorem d_Spn_narrowTo_0 : decode k_Spn_narrowTo 0 = .ok (.aload_n 0, 1) := by decide +kernel
theorem d_Spn_narrowTo_1 : decode k_Spn_narrowTo 1 = .ok (.aload_n 0, 1) := by decide +kernel
theorem d_Spn_narrowTo_2 : decode k_Spn_narrowTo 2 = .ok (.getfield 7, 3) := by decide +kernel
theorem d_Spn_narrowTo_5 : decode k_Spn_narrowTo 5 = .ok (.aload_n 1, 1) := by decide +kernel
theorem d_Spn_narrowTo_6 : decode k_Spn_narrowTo 6 = .ok (.getfield 7, 3) := by decide +kernel
theorem d_Spn_narrowTo_9 : decode k_Spn_narrowTo 9 = .ok (.invokestatic 20, 3) := by decide +kernel
theorem d_Spn_narrowTo_12 : decode k_Spn_narrowTo 12 = .ok (.aload_n 0, 1) := by decide +kernel
theorem d_Spn_narrowTo_13 : decode k_Spn_narrowTo 13 = .ok (.getfield 13, 3) := by decide +kernel
theorem d_Spn_narrowTo_16 : decode k_Spn_narrowTo 16 = .ok (.aload_n 1, 1) := by decide +kernel
theorem d_Spn_narrowTo_17 : decode k_Spn_narrowTo 17 = .ok (.getfield 13, 3) := by decide +kernel
theorem d_Spn_narrowTo_20 : decode k_Spn_narrowTo 20 = .ok (.invokestatic 26, 3) := by decide +kernel
theorem d_Spn_narrowTo_23 : decode k_Spn_narrowTo 23 = .ok (.invokevirtual 16, 3) := by decide +kernel
theorem d_Spn_narrowTo_26 : decode k_Spn_narrowTo 26 = .ok (.return_, 1) := by decide +kernel
set_option maxHeartbeats 4000000 in
set_option maxRecDepth 100000 in
theorem c_Spn_narrowTo (l : Launch) {B : Nat} {D : va_G} {cI cZ cQ : ClassId} {w : mm_M} {sz : Nat} {a o : Nat} {u v p1 q1 : Int32} (h_0 : w a = some (.inr (6, [.int u, .int v]))) (h_1 : w o = some (.inr (6, [.int p1, .int q1]))) : Met l y_Spn_narrowTo ws_Spn_narrowTo (kk_rm 1 0 0) (kk_Pc B D cI cZ cQ [.ref a, .ref o] w sz) (kk_Qv B D (fun w' sz' => w' = mm_up w a (.inr (6, [.int (if u < p1 then p1 else u), .int (if q1 < v then q1 else v)])) ∧ sz' = sz)) 0 0 (fun q => B ≤ q) := by
  refine Met.ofW (cc := k_Spn_narrowTo) (maxL := 2) (ret := none) (by decide) rfl ?_
  intro p e s m args below meth c s₁ BB hml hv
  obtain ⟨rfl, hK, hP, hz, hBz⟩ := hv
  have hx := BB.exec
  have hb := BB.bytes
  have hr := BB.returns
  have hts := atoms_spec (ws := ws_Spn_narrowTo) BB.pre
  have hown : s.vm.findClass "DelegationClosure$Span" = some m.cls := findClass_of_methodNamed BB.named
  have hlocks := BB.notSynchronized
  have hS : mm_S B s.heap s.heap [] := va_S.rf
  have hl := lv_entry ([.ref a, .ref o]) (n := 2) (Nat.le_of_ble_eq_true rfl)
  rw [lg_entry_eq]
  generalize (lg_sl ([.ref a, .ref o]) ++ List.replicate (2 - (lg_sl ([.ref a, .ref o])).length) Slot.unset).toArray = ls at hl ⊢
  have hl : lv_has ls 2 [(0, .ref a), (1, .ref o)] := hl
  refine lv_aload_n hx hb d_Spn_narrowTo_0 rfl (lv_at hl 0 rfl) ?_
  refine lv_aload_n hx hb d_Spn_narrowTo_1 rfl (lv_at hl 0 rfl) ?_
  refine mm_get (D := D) (C := n_Spn) (T := T_Spn) (N := 2) (v := .int u) hx hb hts lay_Spn hown hK.1 hP h_0 rfl 0 (by decide) (hts _ (List.mem_cons_of_mem _ wd_89)) (fun _ h9 => h9) rfl d_Spn_narrowTo_2 ?_
  refine lv_aload_n hx hb d_Spn_narrowTo_5 rfl (lv_at hl 1 rfl) ?_
  refine mm_get (D := D) (C := n_Spn) (T := T_Spn) (N := 2) (v := .int p1) hx hb hts lay_Spn hown hK.1 hP h_1 rfl 0 (by decide) (hts _ (List.mem_cons_of_mem _ wd_89)) (fun _ h9 => h9) rfl d_Spn_narrowTo_6 ?_
  refine va_mmax hx hb (by rw [hml]; exact hl.1.symm) hown (hts _ (List.mem_cons_of_mem _ wd_445)) (hts _ (List.mem_cons_of_mem _ wd_446)) (hts _ (List.mem_cons_of_mem _ wd_13)) (hts _ (List.mem_cons_of_mem _ wd_math_max)) (Nat.le_of_ble_eq_true rfl) (Nat.le_of_ble_eq_true rfl) (Nat.zero_le _) (Nat.zero_le _) d_Spn_narrowTo_9 ?_
  refine lv_aload_n hx hb d_Spn_narrowTo_12 rfl (lv_at hl 0 rfl) ?_
  refine mm_get (D := D) (C := n_Spn) (T := T_Spn) (N := 2) (v := .int v) hx hb hts lay_Spn hown hK.1 hP h_0 rfl 1 (by decide) (hts _ (List.mem_cons_of_mem _ wd_90)) (fun _ h9 => h9) rfl d_Spn_narrowTo_13 ?_
  refine lv_aload_n hx hb d_Spn_narrowTo_16 rfl (lv_at hl 1 rfl) ?_
  refine mm_get (D := D) (C := n_Spn) (T := T_Spn) (N := 2) (v := .int q1) hx hb hts lay_Spn hown hK.1 hP h_1 rfl 1 (by decide) (hts _ (List.mem_cons_of_mem _ wd_90)) (fun _ h9 => h9) rfl d_Spn_narrowTo_17 ?_
  refine va_mmin hx hb (by rw [hml]; exact hl.1.symm) hown (hts _ (List.mem_cons_of_mem _ wd_448)) (hts _ (List.mem_cons_of_mem _ wd_342)) (hts _ (List.mem_cons_of_mem _ wd_13)) (hts _ (List.mem_cons_of_mem _ wd_math_min)) (Nat.le_of_ble_eq_true rfl) (Nat.le_of_ble_eq_true rfl) (Nat.zero_le _) (Nat.zero_le _) d_Spn_narrowTo_20 ?_
  refine kk_callv (va_runV (As := [.int (if u < p1 then p1 else u), .int (if q1 < v then q1 else v)]) (rest := []) ⟨hx, hb, hml, hown, hts⟩ (c_Spn_set l h_0) (cwV 2 hts (gW_in (hd := [_, _, _, _, _]) (kk_5 wd_427 wd_277 wd_278 wd_7 cw_Spn_set)) rfl rfl rfl ⟨rfl, ds_Spn_set⟩ ⟨Nat.le_of_ble_eq_true rfl, Nat.le_of_ble_eq_true rfl⟩) (kk_preV hK hP hz hBz h_0 rfl) rfl rfl hl.1 rfl (lv_room (Nat.le_of_ble_eq_true rfl)) d_Spn_narrowTo_23 ⟨Nat.le_of_ble_eq_true rfl, Nat.le_of_ble_eq_true rfl⟩) hS (fun w1 sz1 H locs hp1 hP hz hS => ?_)
  obtain ⟨he1, hs1⟩ := hp1
  have hz : H.size = sz := hz.trans hs1
  have hw2 : w1 = mm_up w a (.inr (6, [.int (if u < p1 then p1 else u), .int (if q1 < v then q1 else v)])) := he1
  have fr2 : ∀ j, j ≠ a → w1 j = w j := fun j h90 => by rw [hw2]; exact mm_un h90
  have fa2_0 : w1 a = some (.inr (6, [.int (if u < p1 then p1 else u), .int (if q1 < v then q1 else v)])) := by rw [hw2]; exact mm_us _ _ _
  exact W.vret hx hb hr (fun t ht hW => ⟨⟨(w1, sz), rfl, ⟨mm_e1 fa2_0 (fun j g0 => fr2 j g0), rfl⟩, by rw [ht]; exact hP, by rw [ht]; exact hz⟩, hS.F ht⟩) hS.2.2 d_Spn_narrowTo_26
end
section
theorem d_X_isKey_0 : decode k_X_isKey 0 = .ok (.iload_n 0, 1) := by decide +kernel
theorem d_X_isKey_1 : decode k_X_isKey 1 = .ok (.ifCond .lt 13, 3) := by decide +kernel
theorem d_X_isKey_4 : decode k_X_isKey 4 = .ok (.iload_n 0, 1) := by decide +kernel
theorem d_X_isKey_5 : decode k_X_isKey 5 = .ok (.bipush 8, 2) := by decide +kernel
theorem d_X_isKey_7 : decode k_X_isKey 7 = .ok (.if_icmp .ge 7, 3) := by decide +kernel
theorem d_X_isKey_10 : decode k_X_isKey 10 = .ok (.iconst 1, 1) := by decide +kernel
theorem d_X_isKey_11 : decode k_X_isKey 11 = .ok (.goto 4, 3) := by decide +kernel
theorem d_X_isKey_14 : decode k_X_isKey 14 = .ok (.iconst 0, 1) := by decide +kernel
theorem d_X_isKey_15 : decode k_X_isKey 15 = .ok (.ireturn, 1) := by decide +kernel
set_option maxHeartbeats 4000000 in
set_option maxRecDepth 100000 in
theorem c_X_isKey (l : Launch) {B : Nat} {D : va_G} {cI cZ cQ : ClassId} {w : mm_M} {sz : Nat} {x : Int32} : Met l y_X_isKey ws_X_isKey (kk_rm 0 0 0) (kk_Pc B D cI cZ cQ [.int x] w sz) (vp_Si (fun r => r = nI (if ¬ x < 0 ∧ ¬ nI 8 ≤ x then 1 else 0))) 0 0 (fun _ => False) := by
  refine Met.ofW (cc := k_X_isKey) (maxL := 1) (ret := (some .boolean)) (by decide) rfl ?_
  intro p e s m args below meth c s₁ BB hml hv
  obtain ⟨rfl, hK, hP, hz, hBz⟩ := hv
  have hx := BB.exec
  have hb := BB.bytes
  have hr := BB.returns
  have hts := atoms_spec (ws := ws_X_isKey) BB.pre
  have hown : s.vm.findClass "DelegationClosure" = some m.cls := findClass_of_methodNamed BB.named
  have hlocks := BB.notSynchronized
  have hS : mm_S B s.heap s.heap [] := va_S.rf
  have hl := lv_entry ([.int x]) (n := 1) (Nat.le_of_ble_eq_true rfl)
  rw [lg_entry_eq]
  generalize (lg_sl ([.int x]) ++ List.replicate (1 - (lg_sl ([.int x])).length) Slot.unset).toArray = ls at hl ⊢
  have hl : lv_has ls 1 [(0, .int x)] := hl
  refine lv_iload_n hx hb d_X_isKey_0 rfl (lv_at hl 0 rfl) ?_
  refine lv_if_lt (tgt := 14) hx hb d_X_isKey_1 (by decide) (fun cc1 => ?_) (fun cc1 => ?_)
  · refine lv_iconst (v := nI 0) hx hb d_X_isKey_14 (by decide) ?_
    exact W.zret hx hb hr rfl (fun t ht hW => ⟨_, rfl, by simp only [cc1, not_true_eq_false, not_false_eq_true, and_true, true_and, and_false, false_and, or_true, true_or, or_false, false_or, and_self, or_self, if_true, if_false, ite_true, ite_false, ↓reduceIte], ht⟩) (fun q hq => by cases hq) d_X_isKey_15
  · refine lv_iload_n hx hb d_X_isKey_4 rfl (lv_at hl 0 rfl) ?_
    refine lv_bipush (v := nI 8) hx hb d_X_isKey_5 (by decide) ?_
    refine lv_icmp_ge (tgt := 14) hx hb d_X_isKey_7 (by decide) (fun cc2 => ?_) (fun cc2 => ?_)
    · refine lv_iconst (v := nI 0) hx hb d_X_isKey_14 (by decide) ?_
      exact W.zret hx hb hr rfl (fun t ht hW => ⟨_, rfl, by simp only [cc1, cc2, not_true_eq_false, not_false_eq_true, and_true, true_and, and_false, false_and, or_true, true_or, or_false, false_or, and_self, or_self, if_true, if_false, ite_true, ite_false, ↓reduceIte], ht⟩) (fun q hq => by cases hq) d_X_isKey_15
    · refine lv_iconst (v := nI 1) hx hb d_X_isKey_10 (by decide) ?_
      refine lv_goto (tgt := 15) hx hb d_X_isKey_11 (by decide) ?_
      exact W.zret hx hb hr rfl (fun t ht hW => ⟨_, rfl, by simp only [cc1, cc2, not_true_eq_false, not_false_eq_true, and_true, true_and, and_false, false_and, or_true, true_or, or_false, false_or, and_self, or_self, if_true, if_false, ite_true, ite_false, ↓reduceIte], ht⟩) (fun q hq => by cases hq) d_X_isKey_15
theorem d_X_isOperation_0 : decode k_X_isOperation 0 = .ok (.iload_n 0, 1) := by decide +kernel
theorem d_X_isOperation_1 : decode k_X_isOperation 1 = .ok (.ifCond .lt 13, 3) := by decide +kernel
theorem d_X_isOperation_4 : decode k_X_isOperation 4 = .ok (.iload_n 0, 1) := by decide +kernel
theorem d_X_isOperation_5 : decode k_X_isOperation 5 = .ok (.bipush 8, 2) := by decide +kernel
theorem d_X_isOperation_7 : decode k_X_isOperation 7 = .ok (.if_icmp .ge 7, 3) := by decide +kernel
theorem d_X_isOperation_10 : decode k_X_isOperation 10 = .ok (.iconst 1, 1) := by decide +kernel
theorem d_X_isOperation_11 : decode k_X_isOperation 11 = .ok (.goto 4, 3) := by decide +kernel
theorem d_X_isOperation_14 : decode k_X_isOperation 14 = .ok (.iconst 0, 1) := by decide +kernel
theorem d_X_isOperation_15 : decode k_X_isOperation 15 = .ok (.ireturn, 1) := by decide +kernel
set_option maxHeartbeats 4000000 in
set_option maxRecDepth 100000 in
theorem c_X_isOperation (l : Launch) {B : Nat} {D : va_G} {cI cZ cQ : ClassId} {w : mm_M} {sz : Nat} {x : Int32} : Met l y_X_isOperation ws_X_isOperation (kk_rm 0 0 0) (kk_Pc B D cI cZ cQ [.int x] w sz) (vp_Si (fun r => r = nI (if ¬ x < 0 ∧ ¬ nI 8 ≤ x then 1 else 0))) 0 0 (fun _ => False) := by
  refine Met.ofW (cc := k_X_isOperation) (maxL := 1) (ret := (some .boolean)) (by decide) rfl ?_
  intro p e s m args below meth c s₁ BB hml hv
  obtain ⟨rfl, hK, hP, hz, hBz⟩ := hv
  have hx := BB.exec
  have hb := BB.bytes
  have hr := BB.returns
  have hts := atoms_spec (ws := ws_X_isOperation) BB.pre
  have hown : s.vm.findClass "DelegationClosure" = some m.cls := findClass_of_methodNamed BB.named
  have hlocks := BB.notSynchronized
  have hS : mm_S B s.heap s.heap [] := va_S.rf
  have hl := lv_entry ([.int x]) (n := 1) (Nat.le_of_ble_eq_true rfl)
  rw [lg_entry_eq]
  generalize (lg_sl ([.int x]) ++ List.replicate (1 - (lg_sl ([.int x])).length) Slot.unset).toArray = ls at hl ⊢
  have hl : lv_has ls 1 [(0, .int x)] := hl
  refine lv_iload_n hx hb d_X_isOperation_0 rfl (lv_at hl 0 rfl) ?_
  refine lv_if_lt (tgt := 14) hx hb d_X_isOperation_1 (by decide) (fun cc1 => ?_) (fun cc1 => ?_)
  · refine lv_iconst (v := nI 0) hx hb d_X_isOperation_14 (by decide) ?_
    exact W.zret hx hb hr rfl (fun t ht hW => ⟨_, rfl, by simp only [cc1, not_true_eq_false, not_false_eq_true, and_true, true_and, and_false, false_and, or_true, true_or, or_false, false_or, and_self, or_self, if_true, if_false, ite_true, ite_false, ↓reduceIte], ht⟩) (fun q hq => by cases hq) d_X_isOperation_15
  · refine lv_iload_n hx hb d_X_isOperation_4 rfl (lv_at hl 0 rfl) ?_
    refine lv_bipush (v := nI 8) hx hb d_X_isOperation_5 (by decide) ?_
    refine lv_icmp_ge (tgt := 14) hx hb d_X_isOperation_7 (by decide) (fun cc2 => ?_) (fun cc2 => ?_)
    · refine lv_iconst (v := nI 0) hx hb d_X_isOperation_14 (by decide) ?_
      exact W.zret hx hb hr rfl (fun t ht hW => ⟨_, rfl, by simp only [cc1, cc2, not_true_eq_false, not_false_eq_true, and_true, true_and, and_false, false_and, or_true, true_or, or_false, false_or, and_self, or_self, if_true, if_false, ite_true, ite_false, ↓reduceIte], ht⟩) (fun q hq => by cases hq) d_X_isOperation_15
    · refine lv_iconst (v := nI 1) hx hb d_X_isOperation_10 (by decide) ?_
      refine lv_goto (tgt := 15) hx hb d_X_isOperation_11 (by decide) ?_
      exact W.zret hx hb hr rfl (fun t ht hW => ⟨_, rfl, by simp only [cc1, cc2, not_true_eq_false, not_false_eq_true, and_true, true_and, and_false, false_and, or_true, true_or, or_false, false_or, and_self, or_self, if_true, if_false, ite_true, ite_false, ↓reduceIte], ht⟩) (fun q hq => by cases hq) d_X_isOperation_15
theorem d_X_keyOf_0 : decode k_X_keyOf 0 = .ok (.iload_n 0, 1) := by decide +kernel
theorem d_X_keyOf_1 : decode k_X_keyOf 1 = .ok (.bipush 8, 2) := by decide +kernel
theorem d_X_keyOf_3 : decode k_X_keyOf 3 = .ok (.irem, 1) := by decide +kernel
theorem d_X_keyOf_4 : decode k_X_keyOf 4 = .ok (.ireturn, 1) := by decide +kernel
set_option maxHeartbeats 4000000 in
set_option maxRecDepth 100000 in
theorem c_X_keyOf (l : Launch) {B : Nat} {D : va_G} {cI cZ cQ : ClassId} {w : mm_M} {sz : Nat} {n : Nat} (hn : n < 2 ^ 30) : Met l y_X_keyOf ws_X_keyOf (kk_rm 0 0 0) (kk_Pc B D cI cZ cQ [.int (nI n)] w sz) (vp_Si (fun r => r = nI (n % 8))) 0 0 (fun _ => False) := by
  refine Met.ofW (cc := k_X_keyOf) (maxL := 1) (ret := (some .int)) (by decide) rfl ?_
  intro p e s m args below meth c s₁ BB hml hv
  obtain ⟨rfl, hK, hP, hz, hBz⟩ := hv
  have hx := BB.exec
  have hb := BB.bytes
  have hr := BB.returns
  have hts := atoms_spec (ws := ws_X_keyOf) BB.pre
  have hown : s.vm.findClass "DelegationClosure" = some m.cls := findClass_of_methodNamed BB.named
  have hlocks := BB.notSynchronized
  have hS : mm_S B s.heap s.heap [] := va_S.rf
  have hl := lv_entry ([.int (nI n)]) (n := 1) (Nat.le_of_ble_eq_true rfl)
  rw [lg_entry_eq]
  generalize (lg_sl ([.int (nI n)]) ++ List.replicate (1 - (lg_sl ([.int (nI n)])).length) Slot.unset).toArray = ls at hl ⊢
  have hl : lv_has ls 1 [(0, .int (nI n))] := hl
  refine lv_iload_n hx hb d_X_keyOf_0 rfl (lv_at hl 0 rfl) ?_
  refine lv_bipush (v := nI 8) hx hb d_X_keyOf_1 (by decide) ?_
  refine lv_irem hx hb d_X_keyOf_3 (by decide) ?_
  refine kk_top (pk_rem (by omega) (by omega) (by omega)) ?_
  exact W.iret hx hb hr (fun t ht hW => ⟨_, rfl, rfl, ht⟩) (fun q hq => by cases hq) d_X_keyOf_4
theorem d_X_firstNameOf_0 : decode k_X_firstNameOf 0 = .ok (.iload_n 0, 1) := by decide +kernel
theorem d_X_firstNameOf_1 : decode k_X_firstNameOf 1 = .ok (.bipush 8, 2) := by decide +kernel
theorem d_X_firstNameOf_3 : decode k_X_firstNameOf 3 = .ok (.idiv, 1) := by decide +kernel
theorem d_X_firstNameOf_4 : decode k_X_firstNameOf 4 = .ok (.iconst 5, 1) := by decide +kernel
theorem d_X_firstNameOf_5 : decode k_X_firstNameOf 5 = .ok (.irem, 1) := by decide +kernel
theorem d_X_firstNameOf_6 : decode k_X_firstNameOf 6 = .ok (.iconst 1, 1) := by decide +kernel
theorem d_X_firstNameOf_7 : decode k_X_firstNameOf 7 = .ok (.isub, 1) := by decide +kernel
theorem d_X_firstNameOf_8 : decode k_X_firstNameOf 8 = .ok (.ireturn, 1) := by decide +kernel
set_option maxHeartbeats 4000000 in
set_option maxRecDepth 100000 in
theorem c_X_firstNameOf (l : Launch) {B : Nat} {D : va_G} {cI cZ cQ : ClassId} {w : mm_M} {sz : Nat} {n : Nat} (hn : n < 2 ^ 30) : Met l y_X_firstNameOf ws_X_firstNameOf (kk_rm 0 0 0) (kk_Pc B D cI cZ cQ [.int (nI n)] w sz) (vp_Si (fun r => r = nI (n / 8 % 5) - nI 1)) 0 0 (fun _ => False) := by
  refine Met.ofW (cc := k_X_firstNameOf) (maxL := 1) (ret := (some .int)) (by decide) rfl ?_
  intro p e s m args below meth c s₁ BB hml hv
  obtain ⟨rfl, hK, hP, hz, hBz⟩ := hv
  have hx := BB.exec
  have hb := BB.bytes
  have hr := BB.returns
  have hts := atoms_spec (ws := ws_X_firstNameOf) BB.pre
  have hown : s.vm.findClass "DelegationClosure" = some m.cls := findClass_of_methodNamed BB.named
  have hlocks := BB.notSynchronized
  have hS : mm_S B s.heap s.heap [] := va_S.rf
  have hl := lv_entry ([.int (nI n)]) (n := 1) (Nat.le_of_ble_eq_true rfl)
  rw [lg_entry_eq]
  generalize (lg_sl ([.int (nI n)]) ++ List.replicate (1 - (lg_sl ([.int (nI n)])).length) Slot.unset).toArray = ls at hl ⊢
  have hl : lv_has ls 1 [(0, .int (nI n))] := hl
  refine lv_iload_n hx hb d_X_firstNameOf_0 rfl (lv_at hl 0 rfl) ?_
  refine lv_bipush (v := nI 8) hx hb d_X_firstNameOf_1 (by decide) ?_
  refine lv_idiv hx hb d_X_firstNameOf_3 (by decide) ?_
  refine kk_top (pk_div (by omega) (by omega) (by omega)) ?_
  refine lv_iconst (v := nI 5) hx hb d_X_firstNameOf_4 (by decide) ?_
  refine lv_irem hx hb d_X_firstNameOf_5 (by decide) ?_
  refine kk_top (pk_rem (by omega) (by omega) (by omega)) ?_
  refine lv_iconst (v := nI 1) hx hb d_X_firstNameOf_6 (by decide) ?_
  refine lv_isub hx hb d_X_firstNameOf_7 ?_
  exact W.iret hx hb hr (fun t ht hW => ⟨_, rfl, rfl, ht⟩) (fun q hq => by cases hq) d_X_firstNameOf_8
theorem d_X_secondNameOf_0 : decode k_X_secondNameOf 0 = .ok (.iload_n 0, 1) := by decide +kernel
theorem d_X_secondNameOf_1 : decode k_X_secondNameOf 1 = .ok (.bipush 40, 2) := by decide +kernel
theorem d_X_secondNameOf_3 : decode k_X_secondNameOf 3 = .ok (.idiv, 1) := by decide +kernel
theorem d_X_secondNameOf_4 : decode k_X_secondNameOf 4 = .ok (.iconst 1, 1) := by decide +kernel
theorem d_X_secondNameOf_5 : decode k_X_secondNameOf 5 = .ok (.isub, 1) := by decide +kernel
theorem d_X_secondNameOf_6 : decode k_X_secondNameOf 6 = .ok (.ireturn, 1) := by decide +kernel
set_option maxHeartbeats 4000000 in
set_option maxRecDepth 100000 in
theorem c_X_secondNameOf (l : Launch) {B : Nat} {D : va_G} {cI cZ cQ : ClassId} {w : mm_M} {sz : Nat} {n : Nat} (hn : n < 2 ^ 30) : Met l y_X_secondNameOf ws_X_secondNameOf (kk_rm 0 0 0) (kk_Pc B D cI cZ cQ [.int (nI n)] w sz) (vp_Si (fun r => r = nI (n / 40) - nI 1)) 0 0 (fun _ => False) := by
  refine Met.ofW (cc := k_X_secondNameOf) (maxL := 1) (ret := (some .int)) (by decide) rfl ?_
  intro p e s m args below meth c s₁ BB hml hv
  obtain ⟨rfl, hK, hP, hz, hBz⟩ := hv
  have hx := BB.exec
  have hb := BB.bytes
  have hr := BB.returns
  have hts := atoms_spec (ws := ws_X_secondNameOf) BB.pre
  have hown : s.vm.findClass "DelegationClosure" = some m.cls := findClass_of_methodNamed BB.named
  have hlocks := BB.notSynchronized
  have hS : mm_S B s.heap s.heap [] := va_S.rf
  have hl := lv_entry ([.int (nI n)]) (n := 1) (Nat.le_of_ble_eq_true rfl)
  rw [lg_entry_eq]
  generalize (lg_sl ([.int (nI n)]) ++ List.replicate (1 - (lg_sl ([.int (nI n)])).length) Slot.unset).toArray = ls at hl ⊢
  have hl : lv_has ls 1 [(0, .int (nI n))] := hl
  refine lv_iload_n hx hb d_X_secondNameOf_0 rfl (lv_at hl 0 rfl) ?_
  refine lv_bipush (v := nI 40) hx hb d_X_secondNameOf_1 (by decide) ?_
  refine lv_idiv hx hb d_X_secondNameOf_3 (by decide) ?_
  refine kk_top (pk_div (by omega) (by omega) (by omega)) ?_
  refine lv_iconst (v := nI 1) hx hb d_X_secondNameOf_4 (by decide) ?_
  refine lv_isub hx hb d_X_secondNameOf_5 ?_
  exact W.iret hx hb hr (fun t ht hW => ⟨_, rfl, rfl, ht⟩) (fun q hq => by cases hq) d_X_secondNameOf_6
theorem d_X_namesIn_0 : decode k_X_namesIn 0 = .ok (.iload_n 0, 1) := by decide +kernel
theorem d_X_namesIn_1 : decode k_X_namesIn 1 = .ok (.invokestatic 157, 3) := by decide +kernel
theorem d_X_namesIn_4 : decode k_X_namesIn 4 = .ok (.iconst (-1), 1) := by decide +kernel
theorem d_X_namesIn_5 : decode k_X_namesIn 5 = .ok (.if_icmp .ne 5, 3) := by decide +kernel
theorem d_X_namesIn_8 : decode k_X_namesIn 8 = .ok (.iconst 0, 1) := by decide +kernel
theorem d_X_namesIn_9 : decode k_X_namesIn 9 = .ok (.ireturn, 1) := by decide +kernel
theorem d_X_namesIn_10 : decode k_X_namesIn 10 = .ok (.iload_n 0, 1) := by decide +kernel
theorem d_X_namesIn_11 : decode k_X_namesIn 11 = .ok (.invokestatic 160, 3) := by decide +kernel
theorem d_X_namesIn_14 : decode k_X_namesIn 14 = .ok (.iconst (-1), 1) := by decide +kernel
theorem d_X_namesIn_15 : decode k_X_namesIn 15 = .ok (.if_icmp .ne 7, 3) := by decide +kernel
theorem d_X_namesIn_18 : decode k_X_namesIn 18 = .ok (.iconst 1, 1) := by decide +kernel
theorem d_X_namesIn_19 : decode k_X_namesIn 19 = .ok (.goto 4, 3) := by decide +kernel
theorem d_X_namesIn_22 : decode k_X_namesIn 22 = .ok (.iconst 2, 1) := by decide +kernel
theorem d_X_namesIn_23 : decode k_X_namesIn 23 = .ok (.ireturn, 1) := by decide +kernel
set_option maxHeartbeats 4000000 in
set_option maxRecDepth 100000 in
theorem c_X_namesIn (l : Launch) {B : Nat} {D : va_G} {cI cZ cQ : ClassId} {w : mm_M} {sz : Nat} {n : Nat} (hn : n < 2 ^ 30) : Met l y_X_namesIn ws_X_namesIn (kk_rm 1 0 0) (kk_Pc B D cI cZ cQ [.int (nI n)] w sz) (vp_Si (fun r => r = nI (if n / 8 % 5 = 0 then 0 else if n / 40 = 0 then 1 else 2))) 0 0 (fun _ => False) := by
  refine Met.ofW (cc := k_X_namesIn) (maxL := 1) (ret := (some .int)) (by decide) rfl ?_
  intro p e s m args below meth c s₁ BB hml hv
  obtain ⟨rfl, hK, hP, hz, hBz⟩ := hv
  have hx := BB.exec
  have hb := BB.bytes
  have hr := BB.returns
  have hts := atoms_spec (ws := ws_X_namesIn) BB.pre
  have hown : s.vm.findClass "DelegationClosure" = some m.cls := findClass_of_methodNamed BB.named
  have hlocks := BB.notSynchronized
  have hS : mm_S B s.heap s.heap [] := va_S.rf
  have hl := lv_entry ([.int (nI n)]) (n := 1) (Nat.le_of_ble_eq_true rfl)
  rw [lg_entry_eq]
  generalize (lg_sl ([.int (nI n)]) ++ List.replicate (1 - (lg_sl ([.int (nI n)])).length) Slot.unset).toArray = ls at hl ⊢
  have hl : lv_has ls 1 [(0, .int (nI n))] := hl
  refine lv_iload_n hx hb d_X_namesIn_0 rfl (lv_at hl 0 rfl) ?_
  refine vp_callSi (va_Run.run (va_runS (As := [.int (nI n)]) (rest := []) ⟨hx, hb, hml, hown, hts⟩ (c_X_firstNameOf l (by omega)) (va_cwS 1 hts (gW_in (hd := [_, _, _, _]) (kk_4 wd_155 wd_156 wd_1 cw_X_firstNameOf)) rfl rfl rfl ds_X_firstNameOf ⟨Nat.le_of_ble_eq_true rfl, Nat.le_of_ble_eq_true rfl⟩) (kk_preS hK hP hz hBz) rfl rfl hl.1 rfl (lv_room (Nat.le_of_ble_eq_true rfl)) d_X_namesIn_1 ⟨Nat.le_of_ble_eq_true rfl, Nat.le_of_ble_eq_true rfl⟩)) (fun r1 hr1 => ?_)
  subst hr1
  refine lv_iconst (v := (-1)) hx hb d_X_namesIn_4 (by decide) ?_
  refine lv_icmp_ne (tgt := 10) hx hb d_X_namesIn_5 (by decide) (fun cc2 => ?_) (fun cc2 => ?_)
  · have cc2 : ¬ n / 8 % 5 = 0 := fun q => cc2 ((kk_nm (by omega)).mpr q)
    refine lv_iload_n hx hb d_X_namesIn_10 rfl (lv_at hl 0 rfl) ?_
    refine vp_callSi (va_Run.run (va_runS (As := [.int (nI n)]) (rest := []) ⟨hx, hb, hml, hown, hts⟩ (c_X_secondNameOf l (by omega)) (va_cwS 1 hts (gW_in (hd := [_, _, _, _]) (kk_4 wd_158 wd_159 wd_1 cw_X_secondNameOf)) rfl rfl rfl ds_X_secondNameOf ⟨Nat.le_of_ble_eq_true rfl, Nat.le_of_ble_eq_true rfl⟩) (kk_preS hK hP hz hBz) rfl rfl hl.1 rfl (lv_room (Nat.le_of_ble_eq_true rfl)) d_X_namesIn_11 ⟨Nat.le_of_ble_eq_true rfl, Nat.le_of_ble_eq_true rfl⟩)) (fun r3 hr3 => ?_)
    subst hr3
    refine lv_iconst (v := (-1)) hx hb d_X_namesIn_14 (by decide) ?_
    refine lv_icmp_ne (tgt := 22) hx hb d_X_namesIn_15 (by decide) (fun cc4 => ?_) (fun cc4 => ?_)
    · have cc4 : ¬ n / 40 = 0 := fun q => cc4 ((kk_nm (by omega)).mpr q)
      refine lv_iconst (v := nI 2) hx hb d_X_namesIn_22 (by decide) ?_
      exact W.iret hx hb hr (fun t ht hW => ⟨_, rfl, congrArg nI (by (repeat' split) <;> omega), ht⟩) (fun q hq => by cases hq) d_X_namesIn_23
    · have cc4 : n / 40 = 0 := (kk_nm (by omega)).mp cc4
      refine lv_iconst (v := nI 1) hx hb d_X_namesIn_18 (by decide) ?_
      refine lv_goto (tgt := 23) hx hb d_X_namesIn_19 (by decide) ?_
      exact W.iret hx hb hr (fun t ht hW => ⟨_, rfl, congrArg nI (by (repeat' split) <;> omega), ht⟩) (fun q hq => by cases hq) d_X_namesIn_23
  · have cc2 : n / 8 % 5 = 0 := (kk_nm (by omega)).mp cc2
    refine lv_iconst (v := nI 0) hx hb d_X_namesIn_8 (by decide) ?_
    exact W.iret hx hb hr (fun t ht hW => ⟨_, rfl, congrArg nI (by (repeat' split) <;> omega), ht⟩) (fun q hq => by cases hq) d_X_namesIn_9
theorem d_X_sumOf_0 : decode k_X_sumOf 0 = .ok (.iload_n 0, 1) := by decide +kernel
theorem d_X_sumOf_1 : decode k_X_sumOf 1 = .ok (.sipush 1000, 3) := by decide +kernel
theorem d_X_sumOf_4 : decode k_X_sumOf 4 = .ok (.if_icmp .eq 10, 3) := by decide +kernel
theorem d_X_sumOf_7 : decode k_X_sumOf 7 = .ok (.iload_n 1, 1) := by decide +kernel
theorem d_X_sumOf_8 : decode k_X_sumOf 8 = .ok (.sipush 1000, 3) := by decide +kernel
theorem d_X_sumOf_11 : decode k_X_sumOf 11 = .ok (.if_icmp .ne 7, 3) := by decide +kernel
theorem d_X_sumOf_14 : decode k_X_sumOf 14 = .ok (.sipush 1000, 3) := by decide +kernel
theorem d_X_sumOf_17 : decode k_X_sumOf 17 = .ok (.ireturn, 1) := by decide +kernel
theorem d_X_sumOf_18 : decode k_X_sumOf 18 = .ok (.iload_n 0, 1) := by decide +kernel
theorem d_X_sumOf_19 : decode k_X_sumOf 19 = .ok (.iload_n 1, 1) := by decide +kernel
theorem d_X_sumOf_20 : decode k_X_sumOf 20 = .ok (.iadd, 1) := by decide +kernel
theorem d_X_sumOf_21 : decode k_X_sumOf 21 = .ok (.istore_n 2, 1) := by decide +kernel
theorem d_X_sumOf_22 : decode k_X_sumOf 22 = .ok (.iload_n 2, 1) := by decide +kernel
theorem d_X_sumOf_23 : decode k_X_sumOf 23 = .ok (.sipush 999, 3) := by decide +kernel
theorem d_X_sumOf_26 : decode k_X_sumOf 26 = .ok (.if_icmp .le 9, 3) := by decide +kernel
theorem d_X_sumOf_29 : decode k_X_sumOf 29 = .ok (.sipush 999, 3) := by decide +kernel
theorem d_X_sumOf_32 : decode k_X_sumOf 32 = .ok (.goto 4, 3) := by decide +kernel
theorem d_X_sumOf_35 : decode k_X_sumOf 35 = .ok (.iload_n 2, 1) := by decide +kernel
theorem d_X_sumOf_36 : decode k_X_sumOf 36 = .ok (.ireturn, 1) := by decide +kernel
set_option maxHeartbeats 4000000 in
set_option maxRecDepth 100000 in
theorem c_X_sumOf (l : Launch) {B : Nat} {D : va_G} {cI cZ cQ : ClassId} {w : mm_M} {sz : Nat} {a b : Nat} (ha : a ≤ 1000) (hb : b ≤ 1000) : Met l y_X_sumOf ws_X_sumOf (kk_rm 0 0 0) (kk_Pc B D cI cZ cQ [.int (nI a), .int (nI b)] w sz) (vp_Si (fun r => r = nI (dm_s a b))) 0 0 (fun _ => False) := by
  refine Met.ofW (cc := k_X_sumOf) (maxL := 3) (ret := (some .int)) (by decide) rfl ?_
  intro p e s m args below meth c s₁ BB hml hv
  obtain ⟨rfl, hK, hP, hz, hBz⟩ := hv
  have hx := BB.exec
  have hb := BB.bytes
  have hr := BB.returns
  have hts := atoms_spec (ws := ws_X_sumOf) BB.pre
  have hown : s.vm.findClass "DelegationClosure" = some m.cls := findClass_of_methodNamed BB.named
  have hlocks := BB.notSynchronized
  have hS : mm_S B s.heap s.heap [] := va_S.rf
  have hl := lv_entry ([.int (nI a), .int (nI b)]) (n := 3) (Nat.le_of_ble_eq_true rfl)
  rw [lg_entry_eq]
  generalize (lg_sl ([.int (nI a), .int (nI b)]) ++ List.replicate (3 - (lg_sl ([.int (nI a), .int (nI b)])).length) Slot.unset).toArray = ls at hl ⊢
  have hl : lv_has ls 3 [(0, .int (nI a)), (1, .int (nI b))] := hl
  refine lv_iload_n hx hb d_X_sumOf_0 rfl (lv_at hl 0 rfl) ?_
  refine lv_sipush (v := nI 1000) hx hb d_X_sumOf_1 (by decide) ?_
  refine lv_icmp_eq (tgt := 14) hx hb d_X_sumOf_4 (by decide) (fun cc1 => ?_) (fun cc1 => ?_)
  · have cc1 : a = 1000 := (nI_eq (by omega) (by omega)).mp cc1
    refine lv_sipush (v := nI 1000) hx hb d_X_sumOf_14 (by decide) ?_
    exact W.iret hx hb hr (fun t ht hW => ⟨_, rfl, congrArg nI (by unfold dm_s; (repeat' split) <;> omega), ht⟩) (fun q hq => by cases hq) d_X_sumOf_17
  · have cc1 : ¬ (a = 1000) := fun q => cc1 ((nI_eq (by omega) (by omega)).mpr q)
    refine lv_iload_n hx hb d_X_sumOf_7 rfl (lv_at hl 1 rfl) ?_
    refine lv_sipush (v := nI 1000) hx hb d_X_sumOf_8 (by decide) ?_
    refine lv_icmp_ne (tgt := 18) hx hb d_X_sumOf_11 (by decide) (fun cc2 => ?_) (fun cc2 => ?_)
    · have cc2 : ¬ (b = 1000) := fun q => cc2 ((nI_eq (by omega) (by omega)).mpr q)
      refine lv_iload_n hx hb d_X_sumOf_18 rfl (lv_at hl 0 rfl) ?_
      refine lv_iload_n hx hb d_X_sumOf_19 rfl (lv_at hl 1 rfl) ?_
      refine lv_iadd hx hb d_X_sumOf_20 ?_
      refine kk_top (nI_add _ _) ?_
      refine lv_istore_n hx hb d_X_sumOf_21 rfl hl (by decide) rfl (fun ls hl => ?_)
      have hl : lv_has ls 3 [(2, .int (nI (a + b))), (0, .int (nI a)), (1, .int (nI b))] := hl
      refine lv_iload_n hx hb d_X_sumOf_22 rfl (lv_at hl 0 rfl) ?_
      refine lv_sipush (v := nI 999) hx hb d_X_sumOf_23 (by decide) ?_
      refine lv_icmp_le (tgt := 35) hx hb d_X_sumOf_26 (by decide) (fun cc3 => ?_) (fun cc3 => ?_)
      · have cc3 : a + b ≤ 999 := (nI_leI (by omega) (by omega)).mp cc3
        refine lv_iload_n hx hb d_X_sumOf_35 rfl (lv_at hl 0 rfl) ?_
        exact W.iret hx hb hr (fun t ht hW => ⟨_, rfl, congrArg nI (by unfold dm_s; (repeat' split) <;> omega), ht⟩) (fun q hq => by cases hq) d_X_sumOf_36
      · have cc3 : ¬ (a + b ≤ 999) := fun q => cc3 ((nI_leI (by omega) (by omega)).mpr q)
        refine lv_sipush (v := nI 999) hx hb d_X_sumOf_29 (by decide) ?_
        refine lv_goto (tgt := 36) hx hb d_X_sumOf_32 (by decide) ?_
        exact W.iret hx hb hr (fun t ht hW => ⟨_, rfl, congrArg nI (by unfold dm_s; (repeat' split) <;> omega), ht⟩) (fun q hq => by cases hq) d_X_sumOf_36
    · have cc2 : b = 1000 := (nI_eq (by omega) (by omega)).mp cc2
      refine lv_sipush (v := nI 1000) hx hb d_X_sumOf_14 (by decide) ?_
      exact W.iret hx hb hr (fun t ht hW => ⟨_, rfl, congrArg nI (by unfold dm_s; (repeat' split) <;> omega), ht⟩) (fun q hq => by cases hq) d_X_sumOf_17
theorem d_X_costOrNone_0 : decode k_X_costOrNone 0 = .ok (.iload_n 0, 1) := by decide +kernel
theorem d_X_costOrNone_1 : decode k_X_costOrNone 1 = .ok (.sipush 1000, 3) := by decide +kernel
theorem d_X_costOrNone_4 : decode k_X_costOrNone 4 = .ok (.if_icmp .ne 7, 3) := by decide +kernel
theorem d_X_costOrNone_7 : decode k_X_costOrNone 7 = .ok (.iconst (-1), 1) := by decide +kernel
theorem d_X_costOrNone_8 : decode k_X_costOrNone 8 = .ok (.goto 4, 3) := by decide +kernel
theorem d_X_costOrNone_11 : decode k_X_costOrNone 11 = .ok (.iload_n 0, 1) := by decide +kernel
theorem d_X_costOrNone_12 : decode k_X_costOrNone 12 = .ok (.ireturn, 1) := by decide +kernel
set_option maxHeartbeats 4000000 in
set_option maxRecDepth 100000 in
theorem c_X_costOrNone (l : Launch) {B : Nat} {D : va_G} {cI cZ cQ : ClassId} {w : mm_M} {sz : Nat} {a : Nat} (ha : a ≤ 1000) : Met l y_X_costOrNone ws_X_costOrNone (kk_rm 0 0 0) (kk_Pc B D cI cZ cQ [.int (nI a)] w sz) (vp_Si (fun r => r = if a = 1000 then -1 else nI a)) 0 0 (fun _ => False) := by
  refine Met.ofW (cc := k_X_costOrNone) (maxL := 1) (ret := (some .int)) (by decide) rfl ?_
  intro p e s m args below meth c s₁ BB hml hv
  obtain ⟨rfl, hK, hP, hz, hBz⟩ := hv
  have hx := BB.exec
  have hb := BB.bytes
  have hr := BB.returns
  have hts := atoms_spec (ws := ws_X_costOrNone) BB.pre
  have hown : s.vm.findClass "DelegationClosure" = some m.cls := findClass_of_methodNamed BB.named
  have hlocks := BB.notSynchronized
  have hS : mm_S B s.heap s.heap [] := va_S.rf
  have hl := lv_entry ([.int (nI a)]) (n := 1) (Nat.le_of_ble_eq_true rfl)
  rw [lg_entry_eq]
  generalize (lg_sl ([.int (nI a)]) ++ List.replicate (1 - (lg_sl ([.int (nI a)])).length) Slot.unset).toArray = ls at hl ⊢
  have hl : lv_has ls 1 [(0, .int (nI a))] := hl
  refine lv_iload_n hx hb d_X_costOrNone_0 rfl (lv_at hl 0 rfl) ?_
  refine lv_sipush (v := nI 1000) hx hb d_X_costOrNone_1 (by decide) ?_
  refine lv_icmp_ne (tgt := 11) hx hb d_X_costOrNone_4 (by decide) (fun cc1 => ?_) (fun cc1 => ?_)
  · have cc1 : ¬ (a = 1000) := fun q => cc1 ((nI_eq (by omega) (by omega)).mpr q)
    refine lv_iload_n hx hb d_X_costOrNone_11 rfl (lv_at hl 0 rfl) ?_
    exact W.iret hx hb hr (fun t ht hW => ⟨_, rfl, (if_neg cc1).symm, ht⟩) (fun q hq => by cases hq) d_X_costOrNone_12
  · have cc1 : a = 1000 := (nI_eq (by omega) (by omega)).mp cc1
    refine lv_iconst (v := (-1)) hx hb d_X_costOrNone_7 (by decide) ?_
    refine lv_goto (tgt := 12) hx hb d_X_costOrNone_8 (by decide) ?_
    exact W.iret hx hb hr (fun t ht hW => ⟨_, rfl, (if_pos cc1).symm, ht⟩) (fun q hq => by cases hq) d_X_costOrNone_12
theorem d_X_isSubject_0 : decode k_X_isSubject 0 = .ok (.iload_n 0, 1) := by decide +kernel
theorem d_X_isSubject_1 : decode k_X_isSubject 1 = .ok (.ifCond .lt 10, 3) := by decide +kernel
theorem d_X_isSubject_4 : decode k_X_isSubject 4 = .ok (.iload_n 0, 1) := by decide +kernel
theorem d_X_isSubject_5 : decode k_X_isSubject 5 = .ok (.sipush 200, 3) := by decide +kernel
theorem d_X_isSubject_8 : decode k_X_isSubject 8 = .ok (.if_icmp .lt 5, 3) := by decide +kernel
theorem d_X_isSubject_11 : decode k_X_isSubject 11 = .ok (.iconst 0, 1) := by decide +kernel
theorem d_X_isSubject_12 : decode k_X_isSubject 12 = .ok (.ireturn, 1) := by decide +kernel
theorem d_X_isSubject_13 : decode k_X_isSubject 13 = .ok (.iload_n 0, 1) := by decide +kernel
theorem d_X_isSubject_14 : decode k_X_isSubject 14 = .ok (.invokestatic 157, 3) := by decide +kernel
theorem d_X_isSubject_17 : decode k_X_isSubject 17 = .ok (.iconst (-1), 1) := by decide +kernel
theorem d_X_isSubject_18 : decode k_X_isSubject 18 = .ok (.if_icmp .ne 11, 3) := by decide +kernel
theorem d_X_isSubject_21 : decode k_X_isSubject 21 = .ok (.iload_n 0, 1) := by decide +kernel
theorem d_X_isSubject_22 : decode k_X_isSubject 22 = .ok (.invokestatic 160, 3) := by decide +kernel
theorem d_X_isSubject_25 : decode k_X_isSubject 25 = .ok (.iconst (-1), 1) := by decide +kernel
theorem d_X_isSubject_26 : decode k_X_isSubject 26 = .ok (.if_icmp .ne 7, 3) := by decide +kernel
theorem d_X_isSubject_29 : decode k_X_isSubject 29 = .ok (.iconst 1, 1) := by decide +kernel
theorem d_X_isSubject_30 : decode k_X_isSubject 30 = .ok (.goto 4, 3) := by decide +kernel
theorem d_X_isSubject_33 : decode k_X_isSubject 33 = .ok (.iconst 0, 1) := by decide +kernel
theorem d_X_isSubject_34 : decode k_X_isSubject 34 = .ok (.ireturn, 1) := by decide +kernel
set_option maxHeartbeats 4000000 in
set_option maxRecDepth 100000 in
theorem c_X_isSubject (l : Launch) {B : Nat} {D : va_G} {cI cZ cQ : ClassId} {w : mm_M} {sz : Nat} {x : Int32} : Met l y_X_isSubject ws_X_isSubject (kk_rm 1 0 0) (kk_Pc B D cI cZ cQ [.int x] w sz) (vp_Si (fun r => r = nI (if wf_sub x then 1 else 0))) 0 0 (fun _ => False) := by
  refine Met.ofW (cc := k_X_isSubject) (maxL := 1) (ret := (some .boolean)) (by decide) rfl ?_
  intro p e s m args below meth c s₁ BB hml hv
  obtain ⟨rfl, hK, hP, hz, hBz⟩ := hv
  have hx := BB.exec
  have hb := BB.bytes
  have hr := BB.returns
  have hts := atoms_spec (ws := ws_X_isSubject) BB.pre
  have hown : s.vm.findClass "DelegationClosure" = some m.cls := findClass_of_methodNamed BB.named
  have hlocks := BB.notSynchronized
  have hS : mm_S B s.heap s.heap [] := va_S.rf
  have hl := lv_entry ([.int x]) (n := 1) (Nat.le_of_ble_eq_true rfl)
  rw [lg_entry_eq]
  generalize (lg_sl ([.int x]) ++ List.replicate (1 - (lg_sl ([.int x])).length) Slot.unset).toArray = ls at hl ⊢
  have hl : lv_has ls 1 [(0, .int x)] := hl
  refine lv_iload_n hx hb d_X_isSubject_0 rfl (lv_at hl 0 rfl) ?_
  refine lv_if_lt (tgt := 11) hx hb d_X_isSubject_1 (by decide) (fun cc1 => ?_) (fun cc1 => ?_)
  · refine lv_iconst (v := nI 0) hx hb d_X_isSubject_11 (by decide) ?_
    exact W.zret hx hb hr rfl (fun t ht hW => ⟨_, rfl, kk_iff (fun q => q.1 cc1), ht⟩) (fun q hq => by cases hq) d_X_isSubject_12
  · refine lv_iload_n hx hb d_X_isSubject_4 rfl (lv_at hl 0 rfl) ?_
    refine lv_sipush (v := nI 200) hx hb d_X_isSubject_5 (by decide) ?_
    refine lv_icmp_lt (tgt := 13) hx hb d_X_isSubject_8 (by decide) (fun cc2 => ?_) (fun cc2 => ?_)
    · obtain ⟨n, hn, hxn⟩ := kk_ofn cc1 (Int32.not_le.mpr cc2) (by omega)
      refine lv_iload_n hx hb d_X_isSubject_13 rfl (lv_at hl 0 rfl) ?_
      refine kk_top (hxn) ?_
      refine vp_callSi (va_Run.run (va_runS (As := [.int (nI n)]) (rest := []) ⟨hx, hb, hml, hown, hts⟩ (c_X_firstNameOf l (by omega)) (va_cwS 1 hts (gW_in (hd := [_, _, _, _]) (kk_4 wd_155 wd_156 wd_1 cw_X_firstNameOf)) rfl rfl rfl ds_X_firstNameOf ⟨Nat.le_of_ble_eq_true rfl, Nat.le_of_ble_eq_true rfl⟩) (kk_preS hK hP hz hBz) rfl rfl hl.1 rfl (lv_room (Nat.le_of_ble_eq_true rfl)) d_X_isSubject_14 ⟨Nat.le_of_ble_eq_true rfl, Nat.le_of_ble_eq_true rfl⟩)) (fun r3 hr3 => ?_)
      subst hr3
      refine lv_iconst (v := (-1)) hx hb d_X_isSubject_17 (by decide) ?_
      refine lv_icmp_ne (tgt := 29) hx hb d_X_isSubject_18 (by decide) (fun cc4 => ?_) (fun cc4 => ?_)
      · have cc4 : ¬ n / 8 % 5 = 0 := fun q => cc4 ((kk_nm (by omega)).mpr q)
        refine lv_iconst (v := nI 1) hx hb d_X_isSubject_29 (by decide) ?_
        refine lv_goto (tgt := 34) hx hb d_X_isSubject_30 (by decide) ?_
        exact W.zret hx hb hr rfl (fun t ht hW => ⟨_, rfl, kk_ift (by rw [hxn, wf_sub_n (by omega)]; omega), ht⟩) (fun q hq => by cases hq) d_X_isSubject_34
      · have cc4 : n / 8 % 5 = 0 := (kk_nm (by omega)).mp cc4
        refine lv_iload_n hx hb d_X_isSubject_21 rfl (lv_at hl 0 rfl) ?_
        refine kk_top (hxn) ?_
        refine vp_callSi (va_Run.run (va_runS (As := [.int (nI n)]) (rest := []) ⟨hx, hb, hml, hown, hts⟩ (c_X_secondNameOf l (by omega)) (va_cwS 1 hts (gW_in (hd := [_, _, _, _]) (kk_4 wd_158 wd_159 wd_1 cw_X_secondNameOf)) rfl rfl rfl ds_X_secondNameOf ⟨Nat.le_of_ble_eq_true rfl, Nat.le_of_ble_eq_true rfl⟩) (kk_preS hK hP hz hBz) rfl rfl hl.1 rfl (lv_room (Nat.le_of_ble_eq_true rfl)) d_X_isSubject_22 ⟨Nat.le_of_ble_eq_true rfl, Nat.le_of_ble_eq_true rfl⟩)) (fun r5 hr5 => ?_)
        subst hr5
        refine lv_iconst (v := (-1)) hx hb d_X_isSubject_25 (by decide) ?_
        refine lv_icmp_ne (tgt := 33) hx hb d_X_isSubject_26 (by decide) (fun cc6 => ?_) (fun cc6 => ?_)
        · have cc6 : ¬ n / 40 = 0 := fun q => cc6 ((kk_nm (by omega)).mpr q)
          refine lv_iconst (v := nI 0) hx hb d_X_isSubject_33 (by decide) ?_
          exact W.zret hx hb hr rfl (fun t ht hW => ⟨_, rfl, kk_iff (fun q => by rw [hxn, wf_sub_n (by omega)] at q; omega), ht⟩) (fun q hq => by cases hq) d_X_isSubject_34
        · have cc6 : n / 40 = 0 := (kk_nm (by omega)).mp cc6
          refine lv_iconst (v := nI 1) hx hb d_X_isSubject_29 (by decide) ?_
          refine lv_goto (tgt := 34) hx hb d_X_isSubject_30 (by decide) ?_
          exact W.zret hx hb hr rfl (fun t ht hW => ⟨_, rfl, kk_ift (by rw [hxn, wf_sub_n (by omega)]; omega), ht⟩) (fun q hq => by cases hq) d_X_isSubject_34
    · refine lv_iconst (v := nI 0) hx hb d_X_isSubject_11 (by decide) ?_
      exact W.zret hx hb hr rfl (fun t ht hW => ⟨_, rfl, kk_iff (fun q => q.2.1 (Int32.not_lt.mp cc2)), ht⟩) (fun q hq => by cases hq) d_X_isSubject_12
end
section
theorem d_Tag_set_0 : decode k_Tag_set 0 = .ok (.aload_n 0, 1) := by decide +kernel
theorem d_Tag_set_1 : decode k_Tag_set 1 = .ok (.iload_n 1, 1) := by decide +kernel
theorem d_Tag_set_2 : decode k_Tag_set 2 = .ok (.putfield 9, 3) := by decide +kernel
theorem d_Tag_set_5 : decode k_Tag_set 5 = .ok (.aload_n 0, 1) := by decide +kernel
theorem d_Tag_set_6 : decode k_Tag_set 6 = .ok (.getfield 22, 3) := by decide +kernel
theorem d_Tag_set_9 : decode k_Tag_set 9 = .ok (.iload_n 2, 1) := by decide +kernel
theorem d_Tag_set_10 : decode k_Tag_set 10 = .ok (.iload_n 3, 1) := by decide +kernel
theorem d_Tag_set_11 : decode k_Tag_set 11 = .ok (.invokevirtual 30, 3) := by decide +kernel
theorem d_Tag_set_14 : decode k_Tag_set 14 = .ok (.return_, 1) := by decide +kernel
set_option maxHeartbeats 4000000 in
set_option maxRecDepth 100000 in
theorem c_Tag_set (l : Launch) {B : Nat} {D : va_G} {cI cZ cQ : ClassId} {w : mm_M} {sz : Nat} {a c1 o : Nat} {u v : Int32} {o2 : Nat} {lo hi : Int32} (h_0 : w a = some (.inr (5, [.int (nI o), .ref c1]))) (h_1 : w c1 = some (.inr (6, [.int u, .int v]))) (hne : a ≠ c1) : Met l y_Tag_set ws_Tag_set (kk_rm 1 0 0) (kk_Pc B D cI cZ cQ [.ref a, .int (nI o2), .int lo, .int hi] w sz) (kk_Qv B D (fun w' sz' => w' = mm_up (mm_up w a (.inr (5, [.int (nI o2), .ref c1]))) c1 (.inr (6, [.int lo, .int hi])) ∧ sz' = sz)) 0 0 (fun q => B ≤ q) := by
  refine Met.ofW (cc := k_Tag_set) (maxL := 4) (ret := none) (by decide) rfl ?_
  intro p e s m args below meth c s₁ BB hml hv
  obtain ⟨rfl, hK, hP, hz, hBz⟩ := hv
  have hx := BB.exec
  have hb := BB.bytes
  have hr := BB.returns
  have hts := atoms_spec (ws := ws_Tag_set) BB.pre
  have hown : s.vm.findClass "DelegationClosure$Tag" = some m.cls := findClass_of_methodNamed BB.named
  have hlocks := BB.notSynchronized
  have hS : mm_S B s.heap s.heap [] := va_S.rf
  have hl := lv_entry ([.ref a, .int (nI o2), .int lo, .int hi]) (n := 4) (Nat.le_of_ble_eq_true rfl)
  rw [lg_entry_eq]
  generalize (lg_sl ([.ref a, .int (nI o2), .int lo, .int hi]) ++ List.replicate (4 - (lg_sl ([.ref a, .int (nI o2), .int lo, .int hi])).length) Slot.unset).toArray = ls at hl ⊢
  have hl : lv_has ls 4 [(0, .ref a), (1, .int (nI o2)), (2, .int lo), (3, .int hi)] := hl
  refine lv_aload_n hx hb d_Tag_set_0 rfl (lv_at hl 0 rfl) ?_
  refine lv_iload_n hx hb d_Tag_set_1 rfl (lv_at hl 1 rfl) ?_
  refine mm_put (D := D) (C := n_Tag) (T := T_Tag) (N := 2) (v := .int (nI o2)) (ty := .int) hx hb hts lay_Tag t_Tag ty_Tag nm_Tag hown hK.1 hP hS h_0 rfl 0 (by decide) (hts _ (List.mem_cons_of_mem _ wd_96)) (fun _ h9 => h9) rfl (by decide +kernel) rfl rfl (Nat.le_of_ble_eq_true rfl) d_Tag_set_2 (fun H locs hP hz1 hS => ?_)
  have hz : H.size = sz := hz1.trans hz
  obtain ⟨w1, hw1⟩ : ∃ z : mm_M, z = mm_up w a (.inr (5, [.int (nI o2), .ref c1])) := ⟨_, rfl⟩
  have hP : mm_P B D kc w1 H := by rw [hw1]; exact hP
  have fr1 : ∀ j, j ≠ a → w1 j = w j := fun j h9 => by rw [hw1]; exact mm_un h9
  have fa1 : w1 a = some (.inr (5, [.int (nI o2), .ref c1])) := by rw [hw1]; exact mm_us _ _ _
  refine lv_aload_n hx hb d_Tag_set_5 rfl (lv_at hl 0 rfl) ?_
  refine mm_get (D := D) (C := n_Tag) (T := T_Tag) (N := 2) (v := .ref c1) hx hb hts lay_Tag hown hK.1 hP fa1 rfl 1 (by decide) (hts _ (List.mem_cons_of_mem _ wd_97)) (fun _ h9 => h9) rfl d_Tag_set_6 ?_
  refine lv_iload_n hx hb d_Tag_set_9 rfl (lv_at hl 2 rfl) ?_
  refine lv_iload_n hx hb d_Tag_set_10 rfl (lv_at hl 3 rfl) ?_
  have f2 := (fr1 _ hne.symm).trans (h_1)
  refine kk_callv (va_runV (As := [.int lo, .int hi]) (rest := []) ⟨hx, hb, hml, hown, hts⟩ (c_Spn_set l f2) (cwV 2 hts (gW_in (hd := [_, _, _, _, _]) (kk_5 wd_276 wd_277 wd_278 wd_7 cw_Spn_set)) rfl rfl rfl ⟨rfl, ds_Spn_set⟩ ⟨Nat.le_of_ble_eq_true rfl, Nat.le_of_ble_eq_true rfl⟩) (kk_preV hK hP hz hBz f2 rfl) rfl rfl hl.1 rfl (lv_room (Nat.le_of_ble_eq_true rfl)) d_Tag_set_11 ⟨Nat.le_of_ble_eq_true rfl, Nat.le_of_ble_eq_true rfl⟩) hS (fun w3 sz3 H locs hp3 hP hz hS => ?_)
  obtain ⟨he3, hs3⟩ := hp3
  have hz : H.size = sz := hz.trans hs3
  have hw4 : w3 = mm_up w1 c1 (.inr (6, [.int lo, .int hi])) := he3
  have fr4 : ∀ j, j ≠ c1 → w3 j = w1 j := fun j h90 => by rw [hw4]; exact mm_un h90
  have fa4_0 : w3 c1 = some (.inr (6, [.int lo, .int hi])) := by rw [hw4]; exact mm_us _ _ _
  exact W.vret hx hb hr (fun t ht hW => ⟨⟨(w3, sz), rfl, ⟨mm_e2 ((fr4 _ hne).trans (fa1)) fa4_0 (fun j g0 g1 => (fr4 j g1).trans (fr1 j g0)), rfl⟩, by rw [ht]; exact hP, by rw [ht]; exact hz⟩, hS.F ht⟩) hS.2.2 d_Tag_set_14
theorem d_Tag_contains_0 : decode k_Tag_contains 0 = .ok (.aload_n 0, 1) := by decide +kernel
theorem d_Tag_contains_1 : decode k_Tag_contains 1 = .ok (.getfield 9, 3) := by decide +kernel
theorem d_Tag_contains_4 : decode k_Tag_contains 4 = .ok (.iconst 1, 1) := by decide +kernel
theorem d_Tag_contains_5 : decode k_Tag_contains 5 = .ok (.iload_n 1, 1) := by decide +kernel
theorem d_Tag_contains_6 : decode k_Tag_contains 6 = .ok (.ishl, 1) := by decide +kernel
theorem d_Tag_contains_7 : decode k_Tag_contains 7 = .ok (.iand, 1) := by decide +kernel
theorem d_Tag_contains_8 : decode k_Tag_contains 8 = .ok (.ifCond .eq 18, 3) := by decide +kernel
theorem d_Tag_contains_11 : decode k_Tag_contains 11 = .ok (.aload_n 0, 1) := by decide +kernel
theorem d_Tag_contains_12 : decode k_Tag_contains 12 = .ok (.getfield 22, 3) := by decide +kernel
theorem d_Tag_contains_15 : decode k_Tag_contains 15 = .ok (.iload_n 2, 1) := by decide +kernel
theorem d_Tag_contains_16 : decode k_Tag_contains 16 = .ok (.invokevirtual 26, 3) := by decide +kernel
theorem d_Tag_contains_19 : decode k_Tag_contains 19 = .ok (.ifCond .eq 7, 3) := by decide +kernel
theorem d_Tag_contains_22 : decode k_Tag_contains 22 = .ok (.iconst 1, 1) := by decide +kernel
theorem d_Tag_contains_23 : decode k_Tag_contains 23 = .ok (.goto 4, 3) := by decide +kernel
theorem d_Tag_contains_26 : decode k_Tag_contains 26 = .ok (.iconst 0, 1) := by decide +kernel
theorem d_Tag_contains_27 : decode k_Tag_contains 27 = .ok (.ireturn, 1) := by decide +kernel
set_option maxHeartbeats 4000000 in
set_option maxRecDepth 100000 in
theorem c_Tag_contains (l : Launch) {B : Nat} {D : va_G} {cI cZ cQ : ClassId} {w : mm_M} {sz : Nat} {a c1 o : Nat} {u v : Int32} {k : Nat} {x : Int32} (h_0 : w a = some (.inr (5, [.int (nI o), .ref c1]))) (h_1 : w c1 = some (.inr (6, [.int u, .int v]))) (hk : k < 8) (ho : o < 256) : Met l y_Tag_contains ws_Tag_contains (kk_rm 1 0 0) (kk_Pc B D cI cZ cQ [.ref a, .int (nI k), .int x] w sz) (vp_Si (fun r => r = nI (if o / 2 ^ k % 2 = 1 ∧ ¬ x < u ∧ ¬ v < x then 1 else 0))) 0 0 (fun _ => False) := by
  refine Met.ofW (cc := k_Tag_contains) (maxL := 3) (ret := (some .boolean)) (by decide) rfl ?_
  intro p e s m args below meth c s₁ BB hml hv
  obtain ⟨rfl, hK, hP, hz, hBz⟩ := hv
  have hx := BB.exec
  have hb := BB.bytes
  have hr := BB.returns
  have hts := atoms_spec (ws := ws_Tag_contains) BB.pre
  have hown : s.vm.findClass "DelegationClosure$Tag" = some m.cls := findClass_of_methodNamed BB.named
  have hlocks := BB.notSynchronized
  have hS : mm_S B s.heap s.heap [] := va_S.rf
  have hl := lv_entry ([.ref a, .int (nI k), .int x]) (n := 3) (Nat.le_of_ble_eq_true rfl)
  rw [lg_entry_eq]
  generalize (lg_sl ([.ref a, .int (nI k), .int x]) ++ List.replicate (3 - (lg_sl ([.ref a, .int (nI k), .int x])).length) Slot.unset).toArray = ls at hl ⊢
  have hl : lv_has ls 3 [(0, .ref a), (1, .int (nI k)), (2, .int x)] := hl
  refine lv_aload_n hx hb d_Tag_contains_0 rfl (lv_at hl 0 rfl) ?_
  refine mm_get (D := D) (C := n_Tag) (T := T_Tag) (N := 2) (v := .int (nI o)) hx hb hts lay_Tag hown hK.1 hP h_0 rfl 0 (by decide) (hts _ (List.mem_cons_of_mem _ wd_96)) (fun _ h9 => h9) rfl d_Tag_contains_1 ?_
  refine lv_iconst (v := nI 1) hx hb d_Tag_contains_4 (by decide) ?_
  refine lv_iload_n hx hb d_Tag_contains_5 rfl (lv_at hl 1 rfl) ?_
  refine lv_ishl hx hb d_Tag_contains_6 ?_
  refine kk_top (bt_shl _ hk) ?_
  refine lv_iand hx hb d_Tag_contains_7 ?_
  refine lv_if_eq (tgt := 26) hx hb d_Tag_contains_8 (by decide) (fun cc1 => ?_) (fun cc1 => ?_)
  · have cc1 := (bt_and _ hk _ ho).mp cc1
    refine lv_iconst (v := nI 0) hx hb d_Tag_contains_26 (by decide) ?_
    exact W.zret hx hb hr rfl (fun t ht hW => ⟨_, rfl, by simp only [cc1, not_true_eq_false, not_false_eq_true, and_true, true_and, and_false, false_and, or_true, true_or, or_false, false_or, and_self, or_self, if_true, if_false, ite_true, ite_false, ↓reduceIte], ht⟩) (fun q hq => by cases hq) d_Tag_contains_27
  · have cc1 : o / 2 ^ k % 2 = 1 := Decidable.not_not.mp (fun q => cc1 ((bt_and _ hk _ ho).mpr q))
    refine lv_aload_n hx hb d_Tag_contains_11 rfl (lv_at hl 0 rfl) ?_
    refine mm_get (D := D) (C := n_Tag) (T := T_Tag) (N := 2) (v := .ref c1) hx hb hts lay_Tag hown hK.1 hP h_0 rfl 1 (by decide) (hts _ (List.mem_cons_of_mem _ wd_97)) (fun _ h9 => h9) rfl d_Tag_contains_12 ?_
    refine lv_iload_n hx hb d_Tag_contains_15 rfl (lv_at hl 2 rfl) ?_
    refine vp_callSi (va_Run.run (va_runV (As := [.int x]) (rest := []) ⟨hx, hb, hml, hown, hts⟩ (c_Spn_contains l h_1) (cwV 1 hts (gW_in (hd := [_, _, _, _, _]) (kk_5 wd_369 wd_319 wd_320 wd_7 cw_Spn_contains)) rfl rfl rfl ⟨rfl, ds_Spn_contains⟩ ⟨Nat.le_of_ble_eq_true rfl, Nat.le_of_ble_eq_true rfl⟩) (kk_preV hK hP hz hBz h_1 rfl) rfl rfl hl.1 rfl (lv_room (Nat.le_of_ble_eq_true rfl)) d_Tag_contains_16 ⟨Nat.le_of_ble_eq_true rfl, Nat.le_of_ble_eq_true rfl⟩)) (fun r2 hr2 => ?_)
    subst hr2
    refine lv_if_eq (tgt := 26) hx hb d_Tag_contains_19 (by decide) (fun cc3 => ?_) (fun cc3 => ?_)
    · have cc3 := kk_b0 cc3
      refine lv_iconst (v := nI 0) hx hb d_Tag_contains_26 (by decide) ?_
      exact W.zret hx hb hr rfl (fun t ht hW => ⟨_, rfl, by simp only [cc1, cc3, not_true_eq_false, not_false_eq_true, and_true, true_and, and_false, false_and, or_true, true_or, or_false, false_or, and_self, or_self, if_true, if_false, ite_true, ite_false, ↓reduceIte], ht⟩) (fun q hq => by cases hq) d_Tag_contains_27
    · have cc3 := kk_b1 cc3
      refine lv_iconst (v := nI 1) hx hb d_Tag_contains_22 (by decide) ?_
      refine lv_goto (tgt := 27) hx hb d_Tag_contains_23 (by decide) ?_
      exact W.zret hx hb hr rfl (fun t ht hW => ⟨_, rfl, by simp only [cc1, cc3, not_true_eq_false, not_false_eq_true, and_true, true_and, and_false, false_and, or_true, true_or, or_false, false_or, and_self, or_self, if_true, if_false, ite_true, ite_false, ↓reduceIte], ht⟩) (fun q hq => by cases hq) d_Tag_contains_27
theorem d_Tag_copy_0 : decode k_Tag_copy 0 = .ok (.aload_n 0, 1) := by decide +kernel
theorem d_Tag_copy_1 : decode k_Tag_copy 1 = .ok (.aload_n 1, 1) := by decide +kernel
theorem d_Tag_copy_2 : decode k_Tag_copy 2 = .ok (.getfield 9, 3) := by decide +kernel
theorem d_Tag_copy_5 : decode k_Tag_copy 5 = .ok (.putfield 9, 3) := by decide +kernel
theorem d_Tag_copy_8 : decode k_Tag_copy 8 = .ok (.aload_n 0, 1) := by decide +kernel
theorem d_Tag_copy_9 : decode k_Tag_copy 9 = .ok (.getfield 22, 3) := by decide +kernel
theorem d_Tag_copy_12 : decode k_Tag_copy 12 = .ok (.aload_n 1, 1) := by decide +kernel
theorem d_Tag_copy_13 : decode k_Tag_copy 13 = .ok (.getfield 22, 3) := by decide +kernel
theorem d_Tag_copy_16 : decode k_Tag_copy 16 = .ok (.invokevirtual 33, 3) := by decide +kernel
theorem d_Tag_copy_19 : decode k_Tag_copy 19 = .ok (.return_, 1) := by decide +kernel
set_option maxHeartbeats 4000000 in
set_option maxRecDepth 100000 in
theorem c_Tag_copy (l : Launch) {B : Nat} {D : va_G} {cI cZ cQ : ClassId} {w : mm_M} {sz : Nat} {a c1 o : Nat} {u v : Int32} {a2 c2 o2 : Nat} {u2 v2 : Int32} (h_0 : w a = some (.inr (5, [.int (nI o), .ref c1]))) (h_1 : w c1 = some (.inr (6, [.int u, .int v]))) (h_2 : w a2 = some (.inr (5, [.int (nI o2), .ref c2]))) (h_3 : w c2 = some (.inr (6, [.int u2, .int v2]))) (hne0 : a ≠ c1) (hne1 : a2 ≠ a) (hne2 : a2 ≠ c1) (hne3 : c2 ≠ a) (hne4 : c2 ≠ c1) : Met l y_Tag_copy ws_Tag_copy (kk_rm 2 0 0) (kk_Pc B D cI cZ cQ [.ref a, .ref a2] w sz) (kk_Qv B D (fun w' sz' => w' = mm_up (mm_up w a (.inr (5, [.int (nI o2), .ref c1]))) c1 (.inr (6, [.int u2, .int v2])) ∧ sz' = sz)) 0 0 (fun q => B ≤ q) := by
  refine Met.ofW (cc := k_Tag_copy) (maxL := 2) (ret := none) (by decide) rfl ?_
  intro p e s m args below meth c s₁ BB hml hv
  obtain ⟨rfl, hK, hP, hz, hBz⟩ := hv
  have hx := BB.exec
  have hb := BB.bytes
  have hr := BB.returns
  have hts := atoms_spec (ws := ws_Tag_copy) BB.pre
  have hown : s.vm.findClass "DelegationClosure$Tag" = some m.cls := findClass_of_methodNamed BB.named
  have hlocks := BB.notSynchronized
  have hS : mm_S B s.heap s.heap [] := va_S.rf
  have hl := lv_entry ([.ref a, .ref a2]) (n := 2) (Nat.le_of_ble_eq_true rfl)
  rw [lg_entry_eq]
  generalize (lg_sl ([.ref a, .ref a2]) ++ List.replicate (2 - (lg_sl ([.ref a, .ref a2])).length) Slot.unset).toArray = ls at hl ⊢
  have hl : lv_has ls 2 [(0, .ref a), (1, .ref a2)] := hl
  refine lv_aload_n hx hb d_Tag_copy_0 rfl (lv_at hl 0 rfl) ?_
  refine lv_aload_n hx hb d_Tag_copy_1 rfl (lv_at hl 1 rfl) ?_
  refine mm_get (D := D) (C := n_Tag) (T := T_Tag) (N := 2) (v := .int (nI o2)) hx hb hts lay_Tag hown hK.1 hP h_2 rfl 0 (by decide) (hts _ (List.mem_cons_of_mem _ wd_96)) (fun _ h9 => h9) rfl d_Tag_copy_2 ?_
  refine mm_put (D := D) (C := n_Tag) (T := T_Tag) (N := 2) (v := .int (nI o2)) (ty := .int) hx hb hts lay_Tag t_Tag ty_Tag nm_Tag hown hK.1 hP hS h_0 rfl 0 (by decide) (hts _ (List.mem_cons_of_mem _ wd_96)) (fun _ h9 => h9) rfl (by decide +kernel) rfl rfl (Nat.le_of_ble_eq_true rfl) d_Tag_copy_5 (fun H locs hP hz1 hS => ?_)
  have hz : H.size = sz := hz1.trans hz
  obtain ⟨w1, hw1⟩ : ∃ z : mm_M, z = mm_up w a (.inr (5, [.int (nI o2), .ref c1])) := ⟨_, rfl⟩
  have hP : mm_P B D kc w1 H := by rw [hw1]; exact hP
  have fr1 : ∀ j, j ≠ a → w1 j = w j := fun j h9 => by rw [hw1]; exact mm_un h9
  have fa1 : w1 a = some (.inr (5, [.int (nI o2), .ref c1])) := by rw [hw1]; exact mm_us _ _ _
  refine lv_aload_n hx hb d_Tag_copy_8 rfl (lv_at hl 0 rfl) ?_
  refine mm_get (D := D) (C := n_Tag) (T := T_Tag) (N := 2) (v := .ref c1) hx hb hts lay_Tag hown hK.1 hP fa1 rfl 1 (by decide) (hts _ (List.mem_cons_of_mem _ wd_97)) (fun _ h9 => h9) rfl d_Tag_copy_9 ?_
  refine lv_aload_n hx hb d_Tag_copy_12 rfl (lv_at hl 1 rfl) ?_
  have f2 := (fr1 _ hne1).trans (h_2)
  refine mm_get (D := D) (C := n_Tag) (T := T_Tag) (N := 2) (v := .ref c2) hx hb hts lay_Tag hown hK.1 hP f2 rfl 1 (by decide) (hts _ (List.mem_cons_of_mem _ wd_97)) (fun _ h9 => h9) rfl d_Tag_copy_13 ?_
  have f3 := (fr1 _ hne0.symm).trans (h_1)
  have f4 := (fr1 _ hne3).trans (h_3)
  refine kk_callv (va_runV (As := [.ref c2]) (rest := []) ⟨hx, hb, hml, hown, hts⟩ (c_Spn_copy l f3 f4) (cwV 1 hts (gW_in (hd := [_, _, _, _, _]) (kk_5 wd_423 wd_424 wd_425 wd_7 cw_Spn_copy)) rfl rfl rfl ⟨rfl, ds_Spn_copy⟩ ⟨Nat.le_of_ble_eq_true rfl, Nat.le_of_ble_eq_true rfl⟩) (kk_preV hK hP hz hBz f3 rfl) rfl rfl hl.1 rfl (lv_room (Nat.le_of_ble_eq_true rfl)) d_Tag_copy_16 ⟨Nat.le_of_ble_eq_true rfl, Nat.le_of_ble_eq_true rfl⟩) hS (fun w5 sz5 H locs hp5 hP hz hS => ?_)
  obtain ⟨he5, hs5⟩ := hp5
  have hz : H.size = sz := hz.trans hs5
  have hw6 : w5 = mm_up w1 c1 (.inr (6, [.int u2, .int v2])) := he5
  have fr6 : ∀ j, j ≠ c1 → w5 j = w1 j := fun j h90 => by rw [hw6]; exact mm_un h90
  have fa6_0 : w5 c1 = some (.inr (6, [.int u2, .int v2])) := by rw [hw6]; exact mm_us _ _ _
  exact W.vret hx hb hr (fun t ht hW => ⟨⟨(w5, sz), rfl, ⟨mm_e2 ((fr6 _ hne0).trans (fa1)) fa6_0 (fun j g0 g1 => (fr6 j g1).trans (fr1 j g0)), rfl⟩, by rw [ht]; exact hP, by rw [ht]; exact hz⟩, hS.F ht⟩) hS.2.2 d_Tag_copy_19
theorem d_Tag_narrowTo_0 : decode k_Tag_narrowTo 0 = .ok (.aload_n 0, 1) := by decide +kernel
theorem d_Tag_narrowTo_1 : decode k_Tag_narrowTo 1 = .ok (.dup, 1) := by decide +kernel
theorem d_Tag_narrowTo_2 : decode k_Tag_narrowTo 2 = .ok (.getfield 9, 3) := by decide +kernel
theorem d_Tag_narrowTo_5 : decode k_Tag_narrowTo 5 = .ok (.aload_n 1, 1) := by decide +kernel
theorem d_Tag_narrowTo_6 : decode k_Tag_narrowTo 6 = .ok (.getfield 9, 3) := by decide +kernel
theorem d_Tag_narrowTo_9 : decode k_Tag_narrowTo 9 = .ok (.iand, 1) := by decide +kernel
theorem d_Tag_narrowTo_10 : decode k_Tag_narrowTo 10 = .ok (.putfield 9, 3) := by decide +kernel
theorem d_Tag_narrowTo_13 : decode k_Tag_narrowTo 13 = .ok (.aload_n 0, 1) := by decide +kernel
theorem d_Tag_narrowTo_14 : decode k_Tag_narrowTo 14 = .ok (.getfield 22, 3) := by decide +kernel
theorem d_Tag_narrowTo_17 : decode k_Tag_narrowTo 17 = .ok (.aload_n 1, 1) := by decide +kernel
theorem d_Tag_narrowTo_18 : decode k_Tag_narrowTo 18 = .ok (.getfield 22, 3) := by decide +kernel
theorem d_Tag_narrowTo_21 : decode k_Tag_narrowTo 21 = .ok (.invokevirtual 37, 3) := by decide +kernel
theorem d_Tag_narrowTo_24 : decode k_Tag_narrowTo 24 = .ok (.return_, 1) := by decide +kernel
set_option maxHeartbeats 4000000 in
set_option maxRecDepth 100000 in
theorem c_Tag_narrowTo (l : Launch) {B : Nat} {D : va_G} {cI cZ cQ : ClassId} {w : mm_M} {sz : Nat} {a c1 o : Nat} {u v : Int32} {a2 c2 o2 : Nat} {u2 v2 : Int32} (h_0 : w a = some (.inr (5, [.int (nI o), .ref c1]))) (h_1 : w c1 = some (.inr (6, [.int u, .int v]))) (h_2 : w a2 = some (.inr (5, [.int (nI o2), .ref c2]))) (h_3 : w c2 = some (.inr (6, [.int u2, .int v2]))) (hne0 : a ≠ c1) (hne1 : a2 ≠ a) (hne2 : a2 ≠ c1) (hne3 : c2 ≠ a) (hne4 : c2 ≠ c1) : Met l y_Tag_narrowTo ws_Tag_narrowTo (kk_rm 2 0 0) (kk_Pc B D cI cZ cQ [.ref a, .ref a2] w sz) (kk_Qv B D (fun w' sz' => w' = mm_up (mm_up w a (.inr (5, [.int (nI (o &&& o2)), .ref c1]))) c1 (.inr (6, [.int (if u < u2 then u2 else u), .int (if v2 < v then v2 else v)])) ∧ sz' = sz)) 0 0 (fun q => B ≤ q) := by
  refine Met.ofW (cc := k_Tag_narrowTo) (maxL := 2) (ret := none) (by decide) rfl ?_
  intro p e s m args below meth c s₁ BB hml hv
  obtain ⟨rfl, hK, hP, hz, hBz⟩ := hv
  have hx := BB.exec
  have hb := BB.bytes
  have hr := BB.returns
  have hts := atoms_spec (ws := ws_Tag_narrowTo) BB.pre
  have hown : s.vm.findClass "DelegationClosure$Tag" = some m.cls := findClass_of_methodNamed BB.named
  have hlocks := BB.notSynchronized
  have hS : mm_S B s.heap s.heap [] := va_S.rf
  have hl := lv_entry ([.ref a, .ref a2]) (n := 2) (Nat.le_of_ble_eq_true rfl)
  rw [lg_entry_eq]
  generalize (lg_sl ([.ref a, .ref a2]) ++ List.replicate (2 - (lg_sl ([.ref a, .ref a2])).length) Slot.unset).toArray = ls at hl ⊢
  have hl : lv_has ls 2 [(0, .ref a), (1, .ref a2)] := hl
  refine lv_aload_n hx hb d_Tag_narrowTo_0 rfl (lv_at hl 0 rfl) ?_
  refine lv_dup hx hb d_Tag_narrowTo_1 rfl ?_
  refine mm_get (D := D) (C := n_Tag) (T := T_Tag) (N := 2) (v := .int (nI o)) hx hb hts lay_Tag hown hK.1 hP h_0 rfl 0 (by decide) (hts _ (List.mem_cons_of_mem _ wd_96)) (fun _ h9 => h9) rfl d_Tag_narrowTo_2 ?_
  refine lv_aload_n hx hb d_Tag_narrowTo_5 rfl (lv_at hl 1 rfl) ?_
  refine mm_get (D := D) (C := n_Tag) (T := T_Tag) (N := 2) (v := .int (nI o2)) hx hb hts lay_Tag hown hK.1 hP h_2 rfl 0 (by decide) (hts _ (List.mem_cons_of_mem _ wd_96)) (fun _ h9 => h9) rfl d_Tag_narrowTo_6 ?_
  refine lv_iand hx hb d_Tag_narrowTo_9 ?_
  refine kk_top (bt_land _ _) ?_
  refine mm_put (D := D) (C := n_Tag) (T := T_Tag) (N := 2) (v := .int (nI (o &&& o2))) (ty := .int) hx hb hts lay_Tag t_Tag ty_Tag nm_Tag hown hK.1 hP hS h_0 rfl 0 (by decide) (hts _ (List.mem_cons_of_mem _ wd_96)) (fun _ h9 => h9) rfl (by decide +kernel) rfl rfl (Nat.le_of_ble_eq_true rfl) d_Tag_narrowTo_10 (fun H locs hP hz1 hS => ?_)
  have hz : H.size = sz := hz1.trans hz
  obtain ⟨w1, hw1⟩ : ∃ z : mm_M, z = mm_up w a (.inr (5, [.int (nI (o &&& o2)), .ref c1])) := ⟨_, rfl⟩
  have hP : mm_P B D kc w1 H := by rw [hw1]; exact hP
  have fr1 : ∀ j, j ≠ a → w1 j = w j := fun j h9 => by rw [hw1]; exact mm_un h9
  have fa1 : w1 a = some (.inr (5, [.int (nI (o &&& o2)), .ref c1])) := by rw [hw1]; exact mm_us _ _ _
  refine lv_aload_n hx hb d_Tag_narrowTo_13 rfl (lv_at hl 0 rfl) ?_
  refine mm_get (D := D) (C := n_Tag) (T := T_Tag) (N := 2) (v := .ref c1) hx hb hts lay_Tag hown hK.1 hP fa1 rfl 1 (by decide) (hts _ (List.mem_cons_of_mem _ wd_97)) (fun _ h9 => h9) rfl d_Tag_narrowTo_14 ?_
  refine lv_aload_n hx hb d_Tag_narrowTo_17 rfl (lv_at hl 1 rfl) ?_
  have f2 := (fr1 _ hne1).trans (h_2)
  refine mm_get (D := D) (C := n_Tag) (T := T_Tag) (N := 2) (v := .ref c2) hx hb hts lay_Tag hown hK.1 hP f2 rfl 1 (by decide) (hts _ (List.mem_cons_of_mem _ wd_97)) (fun _ h9 => h9) rfl d_Tag_narrowTo_18 ?_
  have f3 := (fr1 _ hne0.symm).trans (h_1)
  have f4 := (fr1 _ hne3).trans (h_3)
  refine kk_callv (va_runV (As := [.ref c2]) (rest := []) ⟨hx, hb, hml, hown, hts⟩ (c_Spn_narrowTo l f3 f4) (cwV 1 hts (gW_in (hd := [_, _, _, _, _]) (kk_5 wd_457 wd_442 wd_443 wd_7 cw_Spn_narrowTo)) rfl rfl rfl ⟨rfl, ds_Spn_narrowTo⟩ ⟨Nat.le_of_ble_eq_true rfl, Nat.le_of_ble_eq_true rfl⟩) (kk_preV hK hP hz hBz f3 rfl) rfl rfl hl.1 rfl (lv_room (Nat.le_of_ble_eq_true rfl)) d_Tag_narrowTo_21 ⟨Nat.le_of_ble_eq_true rfl, Nat.le_of_ble_eq_true rfl⟩) hS (fun w5 sz5 H locs hp5 hP hz hS => ?_)
  obtain ⟨he5, hs5⟩ := hp5
  have hz : H.size = sz := hz.trans hs5
  have hw6 : w5 = mm_up w1 c1 (.inr (6, [.int (if u < u2 then u2 else u), .int (if v2 < v then v2 else v)])) := he5
  have fr6 : ∀ j, j ≠ c1 → w5 j = w1 j := fun j h90 => by rw [hw6]; exact mm_un h90
  have fa6_0 : w5 c1 = some (.inr (6, [.int (if u < u2 then u2 else u), .int (if v2 < v then v2 else v)])) := by rw [hw6]; exact mm_us _ _ _
  exact W.vret hx hb hr (fun t ht hW => ⟨⟨(w5, sz), rfl, ⟨mm_e2 ((fr6 _ hne0).trans (fa1)) fa6_0 (fun j g0 g1 => (fr6 j g1).trans (fr1 j g0)), rfl⟩, by rw [ht]; exact hP, by rw [ht]; exact hz⟩, hS.F ht⟩) hS.2.2 d_Tag_narrowTo_24
theorem d_Tag_init_0 : decode k_Tag_init 0 = .ok (.aload_n 0, 1) := by decide +kernel
theorem d_Tag_init_1 : decode k_Tag_init 1 = .ok (.invokespecial 3, 3) := by decide +kernel
theorem d_Tag_init_4 : decode k_Tag_init 4 = .ok (.aload_n 0, 1) := by decide +kernel
theorem d_Tag_init_5 : decode k_Tag_init 5 = .ok (.sipush 255, 3) := by decide +kernel
theorem d_Tag_init_8 : decode k_Tag_init 8 = .ok (.putfield 9, 3) := by decide +kernel
theorem d_Tag_init_11 : decode k_Tag_init 11 = .ok (.aload_n 0, 1) := by decide +kernel
theorem d_Tag_init_12 : decode k_Tag_init 12 = .ok (.new 15, 3) := by decide +kernel
theorem d_Tag_init_15 : decode k_Tag_init 15 = .ok (.dup, 1) := by decide +kernel
theorem d_Tag_init_16 : decode k_Tag_init 16 = .ok (.ldc 17, 2) := by decide +kernel
theorem d_Tag_init_18 : decode k_Tag_init 18 = .ok (.ldc 18, 2) := by decide +kernel
theorem d_Tag_init_20 : decode k_Tag_init 20 = .ok (.invokespecial 19, 3) := by decide +kernel
theorem d_Tag_init_23 : decode k_Tag_init 23 = .ok (.putfield 22, 3) := by decide +kernel
theorem d_Tag_init_26 : decode k_Tag_init 26 = .ok (.return_, 1) := by decide +kernel
set_option maxHeartbeats 4000000 in
set_option maxRecDepth 100000 in
theorem c_Tag_init (l : Launch) {B : Nat} {D : va_G} {cI cZ cQ : ClassId} {w : mm_M} {sz : Nat} {a : Nat} (h_0 : w a = some (.inr (5, [.int 0, .null]))) (hasz : a < sz) : Met l y_Tag_init ws_Tag_init (kk_rm 2 1 2) (kk_Pc B D cI cZ cQ [.ref a] w sz) (kk_Qv B D (fun w' sz' => w' = mm_up (mm_up w a (.inr (5, [.int (nI 255), .ref sz]))) sz (.inr (6, [.int (-2147483648), .int 2147483647])) ∧ sz' = sz + 1)) 1 2 (fun q => B ≤ q) := by
  refine Met.ofW (cc := k_Tag_init) (maxL := 1) (ret := none) (by decide) rfl ?_
  intro p e s m args below meth c s₁ BB hml hv
  obtain ⟨rfl, hK, hP, hz, hBz⟩ := hv
  have hx := BB.exec
  have hb := BB.bytes
  have hr := BB.returns
  have hts := atoms_spec (ws := ws_Tag_init) BB.pre
  have hown : s.vm.findClass "DelegationClosure$Tag" = some m.cls := findClass_of_methodNamed BB.named
  have hlocks := BB.notSynchronized
  have hin : meth.name = "<init>" := (name_of_methodNamed BB.named BB.method).1
  have hS : mm_S B s.heap s.heap [] := va_S.rf
  have hl := lv_entry ([.ref a]) (n := 1) (Nat.le_of_ble_eq_true rfl)
  rw [lg_entry_eq]
  generalize (lg_sl ([.ref a]) ++ List.replicate (1 - (lg_sl ([.ref a])).length) Slot.unset).toArray = ls at hl ⊢
  have hl : lv_has ls 1 [(0, .ref a)] := hl
  refine lv_aload_n hx hb d_Tag_init_0 rfl (lv_at hl 0 rfl) ?_
  refine W.objInit hx hb hown (hts _ (List.mem_cons_of_mem _ wd_80)) (hts _ (List.mem_cons_of_mem _ wd_21)) (hts _ (List.mem_cons_of_mem _ wd_objcode)) rfl (by rw [hml]; exact hl.1) rfl d_Tag_init_1 (Nat.le_of_ble_eq_true rfl) (Nat.le_of_ble_eq_true rfl) ?_
  refine W.eq (g2 := F0 m 4 ls []) rfl ?_
  refine lv_aload_n hx hb d_Tag_init_4 rfl (lv_at hl 0 rfl) ?_
  refine lv_sipush (v := nI 255) hx hb d_Tag_init_5 (by decide) ?_
  refine mm_put (D := D) (C := n_Tag) (T := T_Tag) (N := 2) (v := .int (nI 255)) (ty := .int) hx hb hts lay_Tag t_Tag ty_Tag nm_Tag hown hK.1 hP hS h_0 rfl 0 (by decide) (hts _ (List.mem_cons_of_mem _ wd_96)) (fun _ h9 => h9) rfl (by decide +kernel) rfl rfl (Nat.le_of_ble_eq_true rfl) d_Tag_init_8 (fun H locs hP hz1 hS => ?_)
  have hz : H.size = sz := hz1.trans hz
  obtain ⟨w1, hw1⟩ : ∃ z : mm_M, z = mm_up w a (.inr (5, [.int (nI 255), .null])) := ⟨_, rfl⟩
  have hP : mm_P B D kc w1 H := by rw [hw1]; exact hP
  have fr1 : ∀ j, j ≠ a → w1 j = w j := fun j h9 => by rw [hw1]; exact mm_un h9
  have fa1 : w1 a = some (.inr (5, [.int (nI 255), .null])) := by rw [hw1]; exact mm_us _ _ _
  refine lv_aload_n hx hb d_Tag_init_11 rfl (lv_at hl 0 rfl) ?_
  refine mm_new (D := D) (C := n_Spn) (T := T_Spn) (N := 2) (ci := 6) (fs := [.int 0, .int 0]) (h := sz) hx hb hts lay_Spn t_Spn ty_Spn hown (hts _ (List.mem_cons_of_mem _ wd_81)) (hts _ (List.mem_cons_of_mem _ wd_82)) (hts _ (List.mem_cons_of_mem _ wd_7)) hK.1 hP hS rfl def_Spn (Nat.le_of_ble_eq_true rfl) (Nat.le_of_ble_eq_true rfl) hz (by omega) d_Tag_init_12 (fun H hP hz1 hS => ?_)
  have hz : H.size = sz + 1 := hz1
  obtain ⟨w2, hw2⟩ : ∃ z : mm_M, z = mm_up w1 sz (.inr (6, [.int 0, .int 0])) := ⟨_, rfl⟩
  have hP : mm_P B D kc w2 H := by rw [hw2]; exact hP
  have fr2 : ∀ j, j ≠ sz → w2 j = w1 j := fun j h9 => by rw [hw2]; exact mm_un h9
  have fa2 : w2 sz = some (.inr (6, [.int 0, .int 0])) := by rw [hw2]; exact mm_us _ _ _
  refine lv_dup hx hb d_Tag_init_15 rfl ?_
  refine lv_ldc hx hb hown (hts _ (List.mem_cons_of_mem _ wd_83)) d_Tag_init_16 ?_
  refine lv_ldc hx hb hown (hts _ (List.mem_cons_of_mem _ wd_84)) d_Tag_init_18 ?_
  refine kk_callv (va_runI (As := [.int (-2147483648), .int (2147483647)]) (rest := [.ref sz, .ref a]) ⟨hx, hb, hml, hown, hts⟩ (c_Spn_init l fa2) (cwI 2 hts (gW_in (hd := [_]) (kk_1 cw_Spn_init)) rfl rfl rfl (hts _ (List.mem_cons_of_mem _ wd_7)) (hts _ (List.mem_cons_of_mem _ wd_85)) (hts _ (List.mem_cons_of_mem _ wd_86)) rfl ds_Spn_init ⟨Nat.le_of_ble_eq_true rfl, Nat.le_of_ble_eq_true rfl⟩) (kk_preS hK hP hz (by omega)) rfl rfl hl.1 rfl (lv_room (Nat.le_of_ble_eq_true rfl)) d_Tag_init_20 ⟨Nat.le_of_ble_eq_true rfl, Nat.le_of_ble_eq_true rfl⟩) hS (fun w3 sz3 H locs hp3 hP hz hS => ?_)
  obtain ⟨he3, hs3⟩ := hp3
  have hz : H.size = sz + 1 := hz.trans hs3
  have hw4 : w3 = mm_up w2 sz (.inr (6, [.int (-2147483648), .int (2147483647)])) := he3
  have fr4 : ∀ j, j ≠ sz → w3 j = w2 j := fun j h90 => by rw [hw4]; exact mm_un h90
  have fa4_0 : w3 sz = some (.inr (6, [.int (-2147483648), .int (2147483647)])) := by rw [hw4]; exact mm_us _ _ _
  have f5 := (fr4 _ (by omega)).trans ((fr2 _ (by omega)).trans (fa1))
  refine mm_putF (D := D) (C := n_Tag) (T := T_Tag) (N := 2) (v := .ref sz) (ty := (.object "DelegationClosure$Span")) hx hb hts lay_Tag t_Tag ty_Tag nm_Tag hown hK.1 hP hS f5 rfl 1 (by decide) (hts _ (List.mem_cons_of_mem _ wd_97)) (fun _ h9 => h9) rfl hin rfl (by decide +kernel) rfl rfl (Nat.le_of_ble_eq_true rfl) d_Tag_init_23 (fun H locs hP hz1 hS => ?_)
  have hz : H.size = sz + 1 := hz1.trans hz
  obtain ⟨w6, hw6⟩ : ∃ z : mm_M, z = mm_up w3 a (.inr (5, [.int (nI 255), .ref sz])) := ⟨_, rfl⟩
  have hP : mm_P B D kc w6 H := by rw [hw6]; exact hP
  have fr6 : ∀ j, j ≠ a → w6 j = w3 j := fun j h9 => by rw [hw6]; exact mm_un h9
  have fa6 : w6 a = some (.inr (5, [.int (nI 255), .ref sz])) := by rw [hw6]; exact mm_us _ _ _
  exact W.vret hx hb hr (fun t ht hW => ⟨⟨(w6, sz + 1), rfl, ⟨mm_e2 fa6 ((fr6 _ (by omega)).trans (fa4_0)) (fun j g0 g1 => (fr6 j g0).trans ((fr4 j g1).trans ((fr2 j g1).trans (fr1 j g0)))), rfl⟩, by rw [ht]; exact hP, by rw [ht]; exact hz⟩, hS.F ht⟩) hS.2.2 d_Tag_init_26
end
section
theorem d_Cer_init_0 : decode k_Cer_init 0 = .ok (.aload_n 0, 1) := by decide +kernel
theorem d_Cer_init_1 : decode k_Cer_init 1 = .ok (.invokespecial 1, 3) := by decide +kernel
theorem d_Cer_init_4 : decode k_Cer_init 4 = .ok (.aload_n 0, 1) := by decide +kernel
theorem d_Cer_init_5 : decode k_Cer_init 5 = .ok (.iconst 0, 1) := by decide +kernel
theorem d_Cer_init_6 : decode k_Cer_init 6 = .ok (.putfield 7, 3) := by decide +kernel
theorem d_Cer_init_9 : decode k_Cer_init 9 = .ok (.aload_n 0, 1) := by decide +kernel
theorem d_Cer_init_10 : decode k_Cer_init 10 = .ok (.iload_n 1, 1) := by decide +kernel
theorem d_Cer_init_11 : decode k_Cer_init 11 = .ok (.putfield 13, 3) := by decide +kernel
theorem d_Cer_init_14 : decode k_Cer_init 14 = .ok (.aload_n 0, 1) := by decide +kernel
theorem d_Cer_init_15 : decode k_Cer_init 15 = .ok (.new 17, 3) := by decide +kernel
theorem d_Cer_init_18 : decode k_Cer_init 18 = .ok (.dup, 1) := by decide +kernel
theorem d_Cer_init_19 : decode k_Cer_init 19 = .ok (.iload_n 2, 1) := by decide +kernel
theorem d_Cer_init_20 : decode k_Cer_init 20 = .ok (.iload_n 3, 1) := by decide +kernel
theorem d_Cer_init_21 : decode k_Cer_init 21 = .ok (.invokespecial 19, 3) := by decide +kernel
theorem d_Cer_init_24 : decode k_Cer_init 24 = .ok (.putfield 22, 3) := by decide +kernel
theorem d_Cer_init_27 : decode k_Cer_init 27 = .ok (.return_, 1) := by decide +kernel
set_option maxHeartbeats 4000000 in
set_option maxRecDepth 100000 in
theorem c_Cer_init7 (l : Launch) {B : Nat} {D : va_G} {cI cZ cQ : ClassId} {w : mm_M} {sz : Nat} {a : Nat} {iss fr to : Int32} (h_0 : w a = some (.inr (7, [.int 0, .null, .int 0, .int 0, .int 0]))) (hasz : a < sz) : Met l y_Cer_init ws_Cer_init (kk_rm 2 1 2) (kk_Pc B D cI cZ cQ [.ref a, .int iss, .int fr, .int to] w sz) (kk_Qv B D (fun w' sz' => w' = mm_up (mm_up w a (.inr (7, [.int iss, .ref sz, .int (nI 0), .int 0, .int 0]))) sz (.inr (6, [.int fr, .int to])) ∧ sz' = sz + 1)) 1 2 (fun q => B ≤ q) := by
  refine Met.ofW (cc := k_Cer_init) (maxL := 4) (ret := none) (by decide) rfl ?_
  intro p e s m args below meth c s₁ BB hml hv
  obtain ⟨rfl, hK, hP, hz, hBz⟩ := hv
  have hx := BB.exec
  have hb := BB.bytes
  have hr := BB.returns
  have hts := atoms_spec (ws := ws_Cer_init) BB.pre
  have hown : s.vm.findClass "DelegationClosure$Certificate" = some m.cls := findClass_of_methodNamed BB.named
  have hlocks := BB.notSynchronized
  have hin : meth.name = "<init>" := (name_of_methodNamed BB.named BB.method).1
  have hS : mm_S B s.heap s.heap [] := va_S.rf
  have hl := lv_entry ([.ref a, .int iss, .int fr, .int to]) (n := 4) (Nat.le_of_ble_eq_true rfl)
  rw [lg_entry_eq]
  generalize (lg_sl ([.ref a, .int iss, .int fr, .int to]) ++ List.replicate (4 - (lg_sl ([.ref a, .int iss, .int fr, .int to])).length) Slot.unset).toArray = ls at hl ⊢
  have hl : lv_has ls 4 [(0, .ref a), (1, .int iss), (2, .int fr), (3, .int to)] := hl
  refine lv_aload_n hx hb d_Cer_init_0 rfl (lv_at hl 0 rfl) ?_
  refine W.objInit hx hb hown (hts _ (List.mem_cons_of_mem _ wd_173)) (hts _ (List.mem_cons_of_mem _ wd_21)) (hts _ (List.mem_cons_of_mem _ wd_objcode)) rfl (by rw [hml]; exact hl.1) rfl d_Cer_init_1 (Nat.le_of_ble_eq_true rfl) (Nat.le_of_ble_eq_true rfl) ?_
  refine W.eq (g2 := F0 m 4 ls []) rfl ?_
  refine lv_aload_n hx hb d_Cer_init_4 rfl (lv_at hl 0 rfl) ?_
  refine lv_iconst (v := nI 0) hx hb d_Cer_init_5 (by decide) ?_
  refine mm_put (D := D) (C := n_Nam) (T := T_Nam) (N := 5) (v := .int (nI 0)) (ty := .boolean) hx hb hts lay_Nam t_Nam ty_Nam nm_Nam hown hK.1 hP hS h_0 rfl 2 (by decide) (hts _ (List.mem_cons_of_mem _ wd_197)) (fun _ h9 => h9) rfl (by decide +kernel) rfl rfl (Nat.le_of_ble_eq_true rfl) d_Cer_init_6 (fun H locs hP hz1 hS => ?_)
  have hz : H.size = sz := hz1.trans hz
  obtain ⟨w1, hw1⟩ : ∃ z : mm_M, z = mm_up w a (.inr (7, [.int 0, .null, .int (nI 0), .int 0, .int 0])) := ⟨_, rfl⟩
  have hP : mm_P B D kc w1 H := by rw [hw1]; exact hP
  have fr1 : ∀ j, j ≠ a → w1 j = w j := fun j h9 => by rw [hw1]; exact mm_un h9
  have fa1 : w1 a = some (.inr (7, [.int 0, .null, .int (nI 0), .int 0, .int 0])) := by rw [hw1]; exact mm_us _ _ _
  refine lv_aload_n hx hb d_Cer_init_9 rfl (lv_at hl 0 rfl) ?_
  refine lv_iload_n hx hb d_Cer_init_10 rfl (lv_at hl 1 rfl) ?_
  refine mm_putF (D := D) (C := n_Nam) (T := T_Nam) (N := 5) (v := .int iss) (ty := .int) hx hb hts lay_Nam t_Nam ty_Nam nm_Nam hown hK.1 hP hS fa1 rfl 0 (by decide) (hts _ (List.mem_cons_of_mem _ wd_182)) (fun _ h9 => h9) rfl hin rfl (by decide +kernel) rfl rfl (Nat.le_of_ble_eq_true rfl) d_Cer_init_11 (fun H locs hP hz1 hS => ?_)
  have hz : H.size = sz := hz1.trans hz
  obtain ⟨w2, hw2⟩ : ∃ z : mm_M, z = mm_up w1 a (.inr (7, [.int iss, .null, .int (nI 0), .int 0, .int 0])) := ⟨_, rfl⟩
  have hP : mm_P B D kc w2 H := by rw [hw2]; exact hP
  have fr2 : ∀ j, j ≠ a → w2 j = w1 j := fun j h9 => by rw [hw2]; exact mm_un h9
  have fa2 : w2 a = some (.inr (7, [.int iss, .null, .int (nI 0), .int 0, .int 0])) := by rw [hw2]; exact mm_us _ _ _
  refine lv_aload_n hx hb d_Cer_init_14 rfl (lv_at hl 0 rfl) ?_
  refine mm_new (D := D) (C := n_Spn) (T := T_Spn) (N := 2) (ci := 6) (fs := [.int 0, .int 0]) (h := sz) hx hb hts lay_Spn t_Spn ty_Spn hown (hts _ (List.mem_cons_of_mem _ wd_174)) (hts _ (List.mem_cons_of_mem _ wd_82)) (hts _ (List.mem_cons_of_mem _ wd_7)) hK.1 hP hS rfl def_Spn (Nat.le_of_ble_eq_true rfl) (Nat.le_of_ble_eq_true rfl) hz (by omega) d_Cer_init_15 (fun H hP hz1 hS => ?_)
  have hz : H.size = sz + 1 := hz1
  obtain ⟨w3, hw3⟩ : ∃ z : mm_M, z = mm_up w2 sz (.inr (6, [.int 0, .int 0])) := ⟨_, rfl⟩
  have hP : mm_P B D kc w3 H := by rw [hw3]; exact hP
  have fr3 : ∀ j, j ≠ sz → w3 j = w2 j := fun j h9 => by rw [hw3]; exact mm_un h9
  have fa3 : w3 sz = some (.inr (6, [.int 0, .int 0])) := by rw [hw3]; exact mm_us _ _ _
  refine lv_dup hx hb d_Cer_init_18 rfl ?_
  refine lv_iload_n hx hb d_Cer_init_19 rfl (lv_at hl 2 rfl) ?_
  refine lv_iload_n hx hb d_Cer_init_20 rfl (lv_at hl 3 rfl) ?_
  refine kk_callv (va_runI (As := [.int fr, .int to]) (rest := [.ref sz, .ref a]) ⟨hx, hb, hml, hown, hts⟩ (c_Spn_init l fa3) (cwI 2 hts (gW_in (hd := [_]) (kk_1 cw_Spn_init)) rfl rfl rfl (hts _ (List.mem_cons_of_mem _ wd_7)) (hts _ (List.mem_cons_of_mem _ wd_175)) (hts _ (List.mem_cons_of_mem _ wd_86)) rfl ds_Spn_init ⟨Nat.le_of_ble_eq_true rfl, Nat.le_of_ble_eq_true rfl⟩) (kk_preS hK hP hz (by omega)) rfl rfl hl.1 rfl (lv_room (Nat.le_of_ble_eq_true rfl)) d_Cer_init_21 ⟨Nat.le_of_ble_eq_true rfl, Nat.le_of_ble_eq_true rfl⟩) hS (fun w4 sz4 H locs hp4 hP hz hS => ?_)
  obtain ⟨he4, hs4⟩ := hp4
  have hz : H.size = sz + 1 := hz.trans hs4
  have hw5 : w4 = mm_up w3 sz (.inr (6, [.int fr, .int to])) := he4
  have fr5 : ∀ j, j ≠ sz → w4 j = w3 j := fun j h90 => by rw [hw5]; exact mm_un h90
  have fa5_0 : w4 sz = some (.inr (6, [.int fr, .int to])) := by rw [hw5]; exact mm_us _ _ _
  have f6 := (fr5 _ (by omega)).trans ((fr3 _ (by omega)).trans (fa2))
  refine mm_putF (D := D) (C := n_Nam) (T := T_Nam) (N := 5) (v := .ref sz) (ty := (.object "DelegationClosure$Span")) hx hb hts lay_Nam t_Nam ty_Nam nm_Nam hown hK.1 hP hS f6 rfl 1 (by decide) (hts _ (List.mem_cons_of_mem _ wd_190)) (fun _ h9 => h9) rfl hin rfl (by decide +kernel) rfl rfl (Nat.le_of_ble_eq_true rfl) d_Cer_init_24 (fun H locs hP hz1 hS => ?_)
  have hz : H.size = sz + 1 := hz1.trans hz
  obtain ⟨w7, hw7⟩ : ∃ z : mm_M, z = mm_up w4 a (.inr (7, [.int iss, .ref sz, .int (nI 0), .int 0, .int 0])) := ⟨_, rfl⟩
  have hP : mm_P B D kc w7 H := by rw [hw7]; exact hP
  have fr7 : ∀ j, j ≠ a → w7 j = w4 j := fun j h9 => by rw [hw7]; exact mm_un h9
  have fa7 : w7 a = some (.inr (7, [.int iss, .ref sz, .int (nI 0), .int 0, .int 0])) := by rw [hw7]; exact mm_us _ _ _
  exact W.vret hx hb hr (fun t ht hW => ⟨⟨(w7, sz + 1), rfl, ⟨mm_e2 fa7 ((fr7 _ (by omega)).trans (fa5_0)) (fun j g0 g1 => (fr7 j g0).trans ((fr5 j g1).trans ((fr3 j g1).trans ((fr2 j g0).trans (fr1 j g0))))), rfl⟩, by rw [ht]; exact hP, by rw [ht]; exact hz⟩, hS.F ht⟩) hS.2.2 d_Cer_init_27
set_option maxHeartbeats 4000000 in
set_option maxRecDepth 100000 in
theorem c_Cer_init8 (l : Launch) {B : Nat} {D : va_G} {cI cZ cQ : ClassId} {w : mm_M} {sz : Nat} {a : Nat} {iss fr to : Int32} (h_0 : w a = some (.inr (8, [.int 0, .null, .int 0, .null, .null, .int 0, .int 0, .int 0]))) (hasz : a < sz) : Met l y_Cer_init ws_Cer_init (kk_rm 2 1 2) (kk_Pc B D cI cZ cQ [.ref a, .int iss, .int fr, .int to] w sz) (kk_Qv B D (fun w' sz' => w' = mm_up (mm_up w a (.inr (8, [.int iss, .ref sz, .int (nI 0), .null, .null, .int 0, .int 0, .int 0]))) sz (.inr (6, [.int fr, .int to])) ∧ sz' = sz + 1)) 1 2 (fun q => B ≤ q) := by
  refine Met.ofW (cc := k_Cer_init) (maxL := 4) (ret := none) (by decide) rfl ?_
  intro p e s m args below meth c s₁ BB hml hv
  obtain ⟨rfl, hK, hP, hz, hBz⟩ := hv
  have hx := BB.exec
  have hb := BB.bytes
  have hr := BB.returns
  have hts := atoms_spec (ws := ws_Cer_init) BB.pre
  have hown : s.vm.findClass "DelegationClosure$Certificate" = some m.cls := findClass_of_methodNamed BB.named
  have hlocks := BB.notSynchronized
  have hin : meth.name = "<init>" := (name_of_methodNamed BB.named BB.method).1
  have hS : mm_S B s.heap s.heap [] := va_S.rf
  have hl := lv_entry ([.ref a, .int iss, .int fr, .int to]) (n := 4) (Nat.le_of_ble_eq_true rfl)
  rw [lg_entry_eq]
  generalize (lg_sl ([.ref a, .int iss, .int fr, .int to]) ++ List.replicate (4 - (lg_sl ([.ref a, .int iss, .int fr, .int to])).length) Slot.unset).toArray = ls at hl ⊢
  have hl : lv_has ls 4 [(0, .ref a), (1, .int iss), (2, .int fr), (3, .int to)] := hl
  refine lv_aload_n hx hb d_Cer_init_0 rfl (lv_at hl 0 rfl) ?_
  refine W.objInit hx hb hown (hts _ (List.mem_cons_of_mem _ wd_173)) (hts _ (List.mem_cons_of_mem _ wd_21)) (hts _ (List.mem_cons_of_mem _ wd_objcode)) rfl (by rw [hml]; exact hl.1) rfl d_Cer_init_1 (Nat.le_of_ble_eq_true rfl) (Nat.le_of_ble_eq_true rfl) ?_
  refine W.eq (g2 := F0 m 4 ls []) rfl ?_
  refine lv_aload_n hx hb d_Cer_init_4 rfl (lv_at hl 0 rfl) ?_
  refine lv_iconst (v := nI 0) hx hb d_Cer_init_5 (by decide) ?_
  refine mm_put (D := D) (C := n_Prm) (T := T_Prm) (N := 8) (v := .int (nI 0)) (ty := .boolean) hx hb hts lay_Prm t_Prm ty_Prm nm_Prm hown hK.1 hP hS h_0 rfl 2 (by decide) (hts _ (List.mem_cons_of_mem _ wd_197)) (fun _ h9 => h9) rfl (by decide +kernel) rfl rfl (Nat.le_of_ble_eq_true rfl) d_Cer_init_6 (fun H locs hP hz1 hS => ?_)
  have hz : H.size = sz := hz1.trans hz
  obtain ⟨w1, hw1⟩ : ∃ z : mm_M, z = mm_up w a (.inr (8, [.int 0, .null, .int (nI 0), .null, .null, .int 0, .int 0, .int 0])) := ⟨_, rfl⟩
  have hP : mm_P B D kc w1 H := by rw [hw1]; exact hP
  have fr1 : ∀ j, j ≠ a → w1 j = w j := fun j h9 => by rw [hw1]; exact mm_un h9
  have fa1 : w1 a = some (.inr (8, [.int 0, .null, .int (nI 0), .null, .null, .int 0, .int 0, .int 0])) := by rw [hw1]; exact mm_us _ _ _
  refine lv_aload_n hx hb d_Cer_init_9 rfl (lv_at hl 0 rfl) ?_
  refine lv_iload_n hx hb d_Cer_init_10 rfl (lv_at hl 1 rfl) ?_
  refine mm_putF (D := D) (C := n_Prm) (T := T_Prm) (N := 8) (v := .int iss) (ty := .int) hx hb hts lay_Prm t_Prm ty_Prm nm_Prm hown hK.1 hP hS fa1 rfl 0 (by decide) (hts _ (List.mem_cons_of_mem _ wd_182)) (fun _ h9 => h9) rfl hin rfl (by decide +kernel) rfl rfl (Nat.le_of_ble_eq_true rfl) d_Cer_init_11 (fun H locs hP hz1 hS => ?_)
  have hz : H.size = sz := hz1.trans hz
  obtain ⟨w2, hw2⟩ : ∃ z : mm_M, z = mm_up w1 a (.inr (8, [.int iss, .null, .int (nI 0), .null, .null, .int 0, .int 0, .int 0])) := ⟨_, rfl⟩
  have hP : mm_P B D kc w2 H := by rw [hw2]; exact hP
  have fr2 : ∀ j, j ≠ a → w2 j = w1 j := fun j h9 => by rw [hw2]; exact mm_un h9
  have fa2 : w2 a = some (.inr (8, [.int iss, .null, .int (nI 0), .null, .null, .int 0, .int 0, .int 0])) := by rw [hw2]; exact mm_us _ _ _
  refine lv_aload_n hx hb d_Cer_init_14 rfl (lv_at hl 0 rfl) ?_
  refine mm_new (D := D) (C := n_Spn) (T := T_Spn) (N := 2) (ci := 6) (fs := [.int 0, .int 0]) (h := sz) hx hb hts lay_Spn t_Spn ty_Spn hown (hts _ (List.mem_cons_of_mem _ wd_174)) (hts _ (List.mem_cons_of_mem _ wd_82)) (hts _ (List.mem_cons_of_mem _ wd_7)) hK.1 hP hS rfl def_Spn (Nat.le_of_ble_eq_true rfl) (Nat.le_of_ble_eq_true rfl) hz (by omega) d_Cer_init_15 (fun H hP hz1 hS => ?_)
  have hz : H.size = sz + 1 := hz1
  obtain ⟨w3, hw3⟩ : ∃ z : mm_M, z = mm_up w2 sz (.inr (6, [.int 0, .int 0])) := ⟨_, rfl⟩
  have hP : mm_P B D kc w3 H := by rw [hw3]; exact hP
  have fr3 : ∀ j, j ≠ sz → w3 j = w2 j := fun j h9 => by rw [hw3]; exact mm_un h9
  have fa3 : w3 sz = some (.inr (6, [.int 0, .int 0])) := by rw [hw3]; exact mm_us _ _ _
  refine lv_dup hx hb d_Cer_init_18 rfl ?_
  refine lv_iload_n hx hb d_Cer_init_19 rfl (lv_at hl 2 rfl) ?_
  refine lv_iload_n hx hb d_Cer_init_20 rfl (lv_at hl 3 rfl) ?_
  refine kk_callv (va_runI (As := [.int fr, .int to]) (rest := [.ref sz, .ref a]) ⟨hx, hb, hml, hown, hts⟩ (c_Spn_init l fa3) (cwI 2 hts (gW_in (hd := [_]) (kk_1 cw_Spn_init)) rfl rfl rfl (hts _ (List.mem_cons_of_mem _ wd_7)) (hts _ (List.mem_cons_of_mem _ wd_175)) (hts _ (List.mem_cons_of_mem _ wd_86)) rfl ds_Spn_init ⟨Nat.le_of_ble_eq_true rfl, Nat.le_of_ble_eq_true rfl⟩) (kk_preS hK hP hz (by omega)) rfl rfl hl.1 rfl (lv_room (Nat.le_of_ble_eq_true rfl)) d_Cer_init_21 ⟨Nat.le_of_ble_eq_true rfl, Nat.le_of_ble_eq_true rfl⟩) hS (fun w4 sz4 H locs hp4 hP hz hS => ?_)
  obtain ⟨he4, hs4⟩ := hp4
  have hz : H.size = sz + 1 := hz.trans hs4
  have hw5 : w4 = mm_up w3 sz (.inr (6, [.int fr, .int to])) := he4
  have fr5 : ∀ j, j ≠ sz → w4 j = w3 j := fun j h90 => by rw [hw5]; exact mm_un h90
  have fa5_0 : w4 sz = some (.inr (6, [.int fr, .int to])) := by rw [hw5]; exact mm_us _ _ _
  have f6 := (fr5 _ (by omega)).trans ((fr3 _ (by omega)).trans (fa2))
  refine mm_putF (D := D) (C := n_Prm) (T := T_Prm) (N := 8) (v := .ref sz) (ty := (.object "DelegationClosure$Span")) hx hb hts lay_Prm t_Prm ty_Prm nm_Prm hown hK.1 hP hS f6 rfl 1 (by decide) (hts _ (List.mem_cons_of_mem _ wd_190)) (fun _ h9 => h9) rfl hin rfl (by decide +kernel) rfl rfl (Nat.le_of_ble_eq_true rfl) d_Cer_init_24 (fun H locs hP hz1 hS => ?_)
  have hz : H.size = sz + 1 := hz1.trans hz
  obtain ⟨w7, hw7⟩ : ∃ z : mm_M, z = mm_up w4 a (.inr (8, [.int iss, .ref sz, .int (nI 0), .null, .null, .int 0, .int 0, .int 0])) := ⟨_, rfl⟩
  have hP : mm_P B D kc w7 H := by rw [hw7]; exact hP
  have fr7 : ∀ j, j ≠ a → w7 j = w4 j := fun j h9 => by rw [hw7]; exact mm_un h9
  have fa7 : w7 a = some (.inr (8, [.int iss, .ref sz, .int (nI 0), .null, .null, .int 0, .int 0, .int 0])) := by rw [hw7]; exact mm_us _ _ _
  exact W.vret hx hb hr (fun t ht hW => ⟨⟨(w7, sz + 1), rfl, ⟨mm_e2 fa7 ((fr7 _ (by omega)).trans (fa5_0)) (fun j g0 g1 => (fr7 j g0).trans ((fr5 j g1).trans ((fr3 j g1).trans ((fr2 j g0).trans (fr1 j g0))))), rfl⟩, by rw [ht]; exact hP, by rw [ht]; exact hz⟩, hS.F ht⟩) hS.2.2 d_Cer_init_27
theorem d_Nam_init_0 : decode k_Nam_init 0 = .ok (.aload_n 0, 1) := by decide +kernel
theorem d_Nam_init_1 : decode k_Nam_init 1 = .ok (.iload_n 1, 1) := by decide +kernel
theorem d_Nam_init_2 : decode k_Nam_init 2 = .ok (.iload 4, 2) := by decide +kernel
theorem d_Nam_init_4 : decode k_Nam_init 4 = .ok (.iload 5, 2) := by decide +kernel
theorem d_Nam_init_6 : decode k_Nam_init 6 = .ok (.invokespecial 1, 3) := by decide +kernel
theorem d_Nam_init_9 : decode k_Nam_init 9 = .ok (.aload_n 0, 1) := by decide +kernel
theorem d_Nam_init_10 : decode k_Nam_init 10 = .ok (.iload_n 2, 1) := by decide +kernel
theorem d_Nam_init_11 : decode k_Nam_init 11 = .ok (.putfield 7, 3) := by decide +kernel
theorem d_Nam_init_14 : decode k_Nam_init 14 = .ok (.aload_n 0, 1) := by decide +kernel
theorem d_Nam_init_15 : decode k_Nam_init 15 = .ok (.iload_n 3, 1) := by decide +kernel
theorem d_Nam_init_16 : decode k_Nam_init 16 = .ok (.putfield 13, 3) := by decide +kernel
theorem d_Nam_init_19 : decode k_Nam_init 19 = .ok (.return_, 1) := by decide +kernel
set_option maxHeartbeats 4000000 in
set_option maxRecDepth 100000 in
theorem c_Nam_init (l : Launch) {B : Nat} {D : va_G} {cI cZ cQ : ClassId} {w : mm_M} {sz : Nat} {a : Nat} {iss nm su fr to : Int32} (h_0 : w a = some (.inr (7, [.int 0, .null, .int 0, .int 0, .int 0]))) (hasz : a < sz) : Met l y_Nam_init ws_Nam_init (kk_rm 3 1 2) (kk_Pc B D cI cZ cQ [.ref a, .int iss, .int nm, .int su, .int fr, .int to] w sz) (kk_Qv B D (fun w' sz' => w' = mm_up (mm_up w a (.inr (7, [.int iss, .ref sz, .int (nI 0), .int nm, .int su]))) sz (.inr (6, [.int fr, .int to])) ∧ sz' = sz + 1)) 1 2 (fun q => B ≤ q) := by
  refine Met.ofW (cc := k_Nam_init) (maxL := 6) (ret := none) (by decide) rfl ?_
  intro p e s m args below meth c s₁ BB hml hv
  obtain ⟨rfl, hK, hP, hz, hBz⟩ := hv
  have hx := BB.exec
  have hb := BB.bytes
  have hr := BB.returns
  have hts := atoms_spec (ws := ws_Nam_init) BB.pre
  have hown : s.vm.findClass "DelegationClosure$Naming" = some m.cls := findClass_of_methodNamed BB.named
  have hlocks := BB.notSynchronized
  have hin : meth.name = "<init>" := (name_of_methodNamed BB.named BB.method).1
  have hS : mm_S B s.heap s.heap [] := va_S.rf
  have hl := lv_entry ([.ref a, .int iss, .int nm, .int su, .int fr, .int to]) (n := 6) (Nat.le_of_ble_eq_true rfl)
  rw [lg_entry_eq]
  generalize (lg_sl ([.ref a, .int iss, .int nm, .int su, .int fr, .int to]) ++ List.replicate (6 - (lg_sl ([.ref a, .int iss, .int nm, .int su, .int fr, .int to])).length) Slot.unset).toArray = ls at hl ⊢
  have hl : lv_has ls 6 [(0, .ref a), (1, .int iss), (2, .int nm), (3, .int su), (4, .int fr), (5, .int to)] := hl
  refine lv_aload_n hx hb d_Nam_init_0 rfl (lv_at hl 0 rfl) ?_
  refine lv_iload_n hx hb d_Nam_init_1 rfl (lv_at hl 1 rfl) ?_
  refine lv_iload hx hb d_Nam_init_2 (lv_at hl 4 rfl) ?_
  refine lv_iload hx hb d_Nam_init_4 (lv_at hl 5 rfl) ?_
  refine kk_callv (va_runI (As := [.int iss, .int fr, .int to]) (rest := []) ⟨hx, hb, hml, hown, hts⟩ (c_Cer_init7 l h_0 (by omega)) (cwI 3 hts (gW_in (hd := [_]) (kk_1 cw_Cer_init)) rfl rfl rfl (hts _ (List.mem_cons_of_mem _ wd_9)) (hts _ (List.mem_cons_of_mem _ wd_170)) (hts _ (List.mem_cons_of_mem _ wd_171)) rfl ds_Cer_init ⟨Nat.le_of_ble_eq_true rfl, Nat.le_of_ble_eq_true rfl⟩) (kk_preS hK hP hz hBz) rfl rfl hl.1 rfl (lv_room (Nat.le_of_ble_eq_true rfl)) d_Nam_init_6 ⟨Nat.le_of_ble_eq_true rfl, Nat.le_of_ble_eq_true rfl⟩) hS (fun w1 sz1 H locs hp1 hP hz hS => ?_)
  obtain ⟨he1, hs1⟩ := hp1
  have hz : H.size = sz + 1 := hz.trans hs1
  have hw2 : w1 = mm_up (mm_up w a (.inr (7, [.int iss, .ref sz, .int (nI 0), .int 0, .int 0]))) sz (.inr (6, [.int fr, .int to])) := he1
  have fr2 : ∀ j, j ≠ a → j ≠ sz → w1 j = w j := fun j h90 h91 => by rw [hw2]; exact (mm_un h91).trans (mm_un h90)
  have fa2_0 : w1 a = some (.inr (7, [.int iss, .ref sz, .int (nI 0), .int 0, .int 0])) := by rw [hw2]; exact (mm_un (by omega)).trans (mm_us _ _ _)
  have fa2_1 : w1 sz = some (.inr (6, [.int fr, .int to])) := by rw [hw2]; exact mm_us _ _ _
  refine lv_aload_n hx hb d_Nam_init_9 rfl (lv_at hl 0 rfl) ?_
  refine lv_iload_n hx hb d_Nam_init_10 rfl (lv_at hl 2 rfl) ?_
  refine mm_putF (D := D) (C := n_Nam) (T := T_Nam) (N := 5) (v := .int nm) (ty := .int) hx hb hts lay_Nam t_Nam ty_Nam nm_Nam hown hK.1 hP hS fa2_0 rfl 3 (by decide) (hts _ (List.mem_cons_of_mem _ wd_176)) (fun _ h9 => h9) rfl hin rfl (by decide +kernel) rfl rfl (Nat.le_of_ble_eq_true rfl) d_Nam_init_11 (fun H locs hP hz1 hS => ?_)
  have hz : H.size = sz + 1 := hz1.trans hz
  obtain ⟨w3, hw3⟩ : ∃ z : mm_M, z = mm_up w1 a (.inr (7, [.int iss, .ref sz, .int (nI 0), .int nm, .int 0])) := ⟨_, rfl⟩
  have hP : mm_P B D kc w3 H := by rw [hw3]; exact hP
  have fr3 : ∀ j, j ≠ a → w3 j = w1 j := fun j h9 => by rw [hw3]; exact mm_un h9
  have fa3 : w3 a = some (.inr (7, [.int iss, .ref sz, .int (nI 0), .int nm, .int 0])) := by rw [hw3]; exact mm_us _ _ _
  refine lv_aload_n hx hb d_Nam_init_14 rfl (lv_at hl 0 rfl) ?_
  refine lv_iload_n hx hb d_Nam_init_15 rfl (lv_at hl 3 rfl) ?_
  refine mm_putF (D := D) (C := n_Nam) (T := T_Nam) (N := 5) (v := .int su) (ty := .int) hx hb hts lay_Nam t_Nam ty_Nam nm_Nam hown hK.1 hP hS fa3 rfl 4 (by decide) (hts _ (List.mem_cons_of_mem _ wd_179)) (fun _ h9 => h9) rfl hin rfl (by decide +kernel) rfl rfl (Nat.le_of_ble_eq_true rfl) d_Nam_init_16 (fun H locs hP hz1 hS => ?_)
  have hz : H.size = sz + 1 := hz1.trans hz
  obtain ⟨w4, hw4⟩ : ∃ z : mm_M, z = mm_up w3 a (.inr (7, [.int iss, .ref sz, .int (nI 0), .int nm, .int su])) := ⟨_, rfl⟩
  have hP : mm_P B D kc w4 H := by rw [hw4]; exact hP
  have fr4 : ∀ j, j ≠ a → w4 j = w3 j := fun j h9 => by rw [hw4]; exact mm_un h9
  have fa4 : w4 a = some (.inr (7, [.int iss, .ref sz, .int (nI 0), .int nm, .int su])) := by rw [hw4]; exact mm_us _ _ _
  exact W.vret hx hb hr (fun t ht hW => ⟨⟨(w4, sz + 1), rfl, ⟨mm_e2 fa4 ((fr4 _ (by omega)).trans ((fr3 _ (by omega)).trans (fa2_1))) (fun j g0 g1 => (fr4 j g0).trans ((fr3 j g0).trans (fr2 j g0 g1))), rfl⟩, by rw [ht]; exact hP, by rw [ht]; exact hz⟩, hS.F ht⟩) hS.2.2 d_Nam_init_19
theorem d_Prm_init_0 : decode k_Prm_init 0 = .ok (.aload_n 0, 1) := by decide +kernel
theorem d_Prm_init_1 : decode k_Prm_init 1 = .ok (.iload_n 1, 1) := by decide +kernel
theorem d_Prm_init_2 : decode k_Prm_init 2 = .ok (.iload 4, 2) := by decide +kernel
theorem d_Prm_init_4 : decode k_Prm_init 4 = .ok (.iload 5, 2) := by decide +kernel
theorem d_Prm_init_6 : decode k_Prm_init 6 = .ok (.invokespecial 3, 3) := by decide +kernel
theorem d_Prm_init_9 : decode k_Prm_init 9 = .ok (.aload_n 0, 1) := by decide +kernel
theorem d_Prm_init_10 : decode k_Prm_init 10 = .ok (.iconst 3, 1) := by decide +kernel
theorem d_Prm_init_11 : decode k_Prm_init 11 = .ok (.newarray .int, 2) := by decide +kernel
theorem d_Prm_init_13 : decode k_Prm_init 13 = .ok (.putfield 9, 3) := by decide +kernel
theorem d_Prm_init_16 : decode k_Prm_init 16 = .ok (.aload_n 0, 1) := by decide +kernel
theorem d_Prm_init_17 : decode k_Prm_init 17 = .ok (.new 15, 3) := by decide +kernel
theorem d_Prm_init_20 : decode k_Prm_init 20 = .ok (.dup, 1) := by decide +kernel
theorem d_Prm_init_21 : decode k_Prm_init 21 = .ok (.invokespecial 17, 3) := by decide +kernel
theorem d_Prm_init_24 : decode k_Prm_init 24 = .ok (.putfield 20, 3) := by decide +kernel
theorem d_Prm_init_27 : decode k_Prm_init 27 = .ok (.aload_n 0, 1) := by decide +kernel
theorem d_Prm_init_28 : decode k_Prm_init 28 = .ok (.iconst 1, 1) := by decide +kernel
theorem d_Prm_init_29 : decode k_Prm_init 29 = .ok (.putfield 24, 3) := by decide +kernel
theorem d_Prm_init_32 : decode k_Prm_init 32 = .ok (.aload_n 0, 1) := by decide +kernel
theorem d_Prm_init_33 : decode k_Prm_init 33 = .ok (.iconst 1, 1) := by decide +kernel
theorem d_Prm_init_34 : decode k_Prm_init 34 = .ok (.putfield 28, 3) := by decide +kernel
theorem d_Prm_init_37 : decode k_Prm_init 37 = .ok (.aload_n 0, 1) := by decide +kernel
theorem d_Prm_init_38 : decode k_Prm_init 38 = .ok (.getfield 9, 3) := by decide +kernel
theorem d_Prm_init_41 : decode k_Prm_init 41 = .ok (.iconst 0, 1) := by decide +kernel
theorem d_Prm_init_42 : decode k_Prm_init 42 = .ok (.iload_n 2, 1) := by decide +kernel
theorem d_Prm_init_43 : decode k_Prm_init 43 = .ok (.iastore, 1) := by decide +kernel
theorem d_Prm_init_44 : decode k_Prm_init 44 = .ok (.aload_n 0, 1) := by decide +kernel
theorem d_Prm_init_45 : decode k_Prm_init 45 = .ok (.iload_n 3, 1) := by decide +kernel
theorem d_Prm_init_46 : decode k_Prm_init 46 = .ok (.putfield 31, 3) := by decide +kernel
theorem d_Prm_init_49 : decode k_Prm_init 49 = .ok (.return_, 1) := by decide +kernel
set_option maxHeartbeats 4000000 in
set_option maxRecDepth 100000 in
theorem c_Prm_init (l : Launch) {B : Nat} {D : va_G} {cI cZ cQ : ClassId} {w : mm_M} {sz : Nat} {a su dl : Nat} {iss fr to : Int32} (h_0 : w a = some (.inr (8, [.int 0, .null, .int 0, .null, .null, .int 0, .int 0, .int 0]))) (hasz : a < sz) (hdl : dl ≤ 1) : Met l y_Prm_init ws_Prm_init (kk_rm 3 4 9) (kk_Pc B D cI cZ cQ [.ref a, .int iss, .int (nI su), .int (nI dl), .int fr, .int to] w sz) (kk_Qv B D (fun w' sz' => w' = mm_up (mm_up (mm_up (mm_up (mm_up w a (.inr (8, [.int iss, .ref sz, .int (nI 0), .ref (sz + 1), .ref (sz + 2), .int (nI dl), .int (nI 1), .int (nI 1)]))) sz (.inr (6, [.int fr, .int to]))) (sz + 1) (.inl (cI, 3, .inl (fun i => nI ((va_up (fun _ => 0) 0 su) i))))) (sz + 2) (.inr (5, [.int (nI 255), .ref (sz + 3)]))) (sz + 3) (.inr (6, [.int (-2147483648), .int 2147483647])) ∧ sz' = sz + 4)) 4 9 (fun q => B ≤ q) := by
  refine Met.ofW (cc := k_Prm_init) (maxL := 6) (ret := none) (by decide) rfl ?_
  intro p e s m args below meth c s₁ BB hml hv
  obtain ⟨rfl, hK, hP, hz, hBz⟩ := hv
  have hx := BB.exec
  have hb := BB.bytes
  have hr := BB.returns
  have hts := atoms_spec (ws := ws_Prm_init) BB.pre
  have hown : s.vm.findClass "DelegationClosure$Permission" = some m.cls := findClass_of_methodNamed BB.named
  have hlocks := BB.notSynchronized
  have hin : meth.name = "<init>" := (name_of_methodNamed BB.named BB.method).1
  have hS : mm_S B s.heap s.heap [] := va_S.rf
  have hl := lv_entry ([.ref a, .int iss, .int (nI su), .int (nI dl), .int fr, .int to]) (n := 6) (Nat.le_of_ble_eq_true rfl)
  rw [lg_entry_eq]
  generalize (lg_sl ([.ref a, .int iss, .int (nI su), .int (nI dl), .int fr, .int to]) ++ List.replicate (6 - (lg_sl ([.ref a, .int iss, .int (nI su), .int (nI dl), .int fr, .int to])).length) Slot.unset).toArray = ls at hl ⊢
  have hl : lv_has ls 6 [(0, .ref a), (1, .int iss), (2, .int (nI su)), (3, .int (nI dl)), (4, .int fr), (5, .int to)] := hl
  refine lv_aload_n hx hb d_Prm_init_0 rfl (lv_at hl 0 rfl) ?_
  refine lv_iload_n hx hb d_Prm_init_1 rfl (lv_at hl 1 rfl) ?_
  refine lv_iload hx hb d_Prm_init_2 (lv_at hl 4 rfl) ?_
  refine lv_iload hx hb d_Prm_init_4 (lv_at hl 5 rfl) ?_
  refine kk_callv (va_runI (As := [.int iss, .int fr, .int to]) (rest := []) ⟨hx, hb, hml, hown, hts⟩ (c_Cer_init8 l h_0 (by omega)) (cwI 3 hts (gW_in (hd := [_]) (kk_1 cw_Cer_init)) rfl rfl rfl (hts _ (List.mem_cons_of_mem _ wd_9)) (hts _ (List.mem_cons_of_mem _ wd_225)) (hts _ (List.mem_cons_of_mem _ wd_171)) rfl ds_Cer_init ⟨Nat.le_of_ble_eq_true rfl, Nat.le_of_ble_eq_true rfl⟩) (kk_preS hK hP hz hBz) rfl rfl hl.1 rfl (lv_room (Nat.le_of_ble_eq_true rfl)) d_Prm_init_6 ⟨Nat.le_of_ble_eq_true rfl, Nat.le_of_ble_eq_true rfl⟩) hS (fun w1 sz1 H locs hp1 hP hz hS => ?_)
  obtain ⟨he1, hs1⟩ := hp1
  have hz : H.size = sz + 1 := hz.trans hs1
  have hw2 : w1 = mm_up (mm_up w a (.inr (8, [.int iss, .ref sz, .int (nI 0), .null, .null, .int 0, .int 0, .int 0]))) sz (.inr (6, [.int fr, .int to])) := he1
  have fr2 : ∀ j, j ≠ a → j ≠ sz → w1 j = w j := fun j h90 h91 => by rw [hw2]; exact (mm_un h91).trans (mm_un h90)
  have fa2_0 : w1 a = some (.inr (8, [.int iss, .ref sz, .int (nI 0), .null, .null, .int 0, .int 0, .int 0])) := by rw [hw2]; exact (mm_un (by omega)).trans (mm_us _ _ _)
  have fa2_1 : w1 sz = some (.inr (6, [.int fr, .int to])) := by rw [hw2]; exact mm_us _ _ _
  refine lv_aload_n hx hb d_Prm_init_9 rfl (lv_at hl 0 rfl) ?_
  refine lv_iconst (v := nI 3) hx hb d_Prm_init_10 (by decide) ?_
  refine mm_newa (atype := .int) (cA := cI) (a0 := (3, .inl (fun i => nI ((fun _ => 0) i)))) (h := sz + 1) hx hb (hts _ (List.mem_cons_of_mem _ wd_51)) (va_nm_int (hK.1.2 0 _ rfl).2) hP hS (fun _ => rfl) (by decide) (by decide +kernel) (by decide) (Nat.le_of_ble_eq_true rfl) (Nat.le_of_ble_eq_true rfl) hz (by omega) d_Prm_init_11 (fun H hP hz1 hS => ?_)
  have hz : H.size = sz + 2 := hz1
  obtain ⟨w3, hw3⟩ : ∃ z : mm_M, z = mm_up w1 (sz + 1) (.inl (cI, 3, .inl (fun i => nI ((fun _ => 0) i)))) := ⟨_, rfl⟩
  have hP : mm_P B D kc w3 H := by rw [hw3]; exact hP
  have fr3 : ∀ j, j ≠ sz + 1 → w3 j = w1 j := fun j h9 => by rw [hw3]; exact mm_un h9
  have fa3 : w3 (sz + 1) = some (.inl (cI, 3, .inl (fun i => nI ((fun _ => 0) i)))) := by rw [hw3]; exact mm_us _ _ _
  have f4 := (fr3 _ (by omega)).trans (fa2_0)
  refine mm_putF (D := D) (C := n_Prm) (T := T_Prm) (N := 8) (v := .ref (sz + 1)) (ty := (.array .int)) hx hb hts lay_Prm t_Prm ty_Prm nm_Prm hown hK.1 hP hS f4 rfl 3 (by decide) (hts _ (List.mem_cons_of_mem _ wd_228)) (fun _ h9 => h9) rfl hin rfl (by decide +kernel) rfl rfl (Nat.le_of_ble_eq_true rfl) d_Prm_init_13 (fun H locs hP hz1 hS => ?_)
  have hz : H.size = sz + 2 := hz1.trans hz
  obtain ⟨w5, hw5⟩ : ∃ z : mm_M, z = mm_up w3 a (.inr (8, [.int iss, .ref sz, .int (nI 0), .ref (sz + 1), .null, .int 0, .int 0, .int 0])) := ⟨_, rfl⟩
  have hP : mm_P B D kc w5 H := by rw [hw5]; exact hP
  have fr5 : ∀ j, j ≠ a → w5 j = w3 j := fun j h9 => by rw [hw5]; exact mm_un h9
  have fa5 : w5 a = some (.inr (8, [.int iss, .ref sz, .int (nI 0), .ref (sz + 1), .null, .int 0, .int 0, .int 0])) := by rw [hw5]; exact mm_us _ _ _
  refine lv_aload_n hx hb d_Prm_init_16 rfl (lv_at hl 0 rfl) ?_
  refine mm_new (D := D) (C := n_Tag) (T := T_Tag) (N := 2) (ci := 5) (fs := [.int 0, .null]) (h := sz + 2) hx hb hts lay_Tag t_Tag ty_Tag hown (hts _ (List.mem_cons_of_mem _ wd_226)) (hts _ (List.mem_cons_of_mem _ wd_76)) (hts _ (List.mem_cons_of_mem _ wd_6)) hK.1 hP hS rfl def_Tag (Nat.le_of_ble_eq_true rfl) (Nat.le_of_ble_eq_true rfl) hz (by omega) d_Prm_init_17 (fun H hP hz1 hS => ?_)
  have hz : H.size = sz + 3 := hz1
  obtain ⟨w6, hw6⟩ : ∃ z : mm_M, z = mm_up w5 (sz + 2) (.inr (5, [.int 0, .null])) := ⟨_, rfl⟩
  have hP : mm_P B D kc w6 H := by rw [hw6]; exact hP
  have fr6 : ∀ j, j ≠ sz + 2 → w6 j = w5 j := fun j h9 => by rw [hw6]; exact mm_un h9
  have fa6 : w6 (sz + 2) = some (.inr (5, [.int 0, .null])) := by rw [hw6]; exact mm_us _ _ _
  refine lv_dup hx hb d_Prm_init_20 rfl ?_
  refine kk_callv (va_runIN (As := []) (rest := [.ref (sz + 2), .ref a]) ⟨hx, hb, hml, hown, hts⟩ (c_Tag_init l fa6 (by omega)) ⟨va_cnB 0 hts (gW_in (hd := [_]) (kk_1 cw_Tag_init)) rfl rfl rfl (hK.2.1 _ nw_227 rfl) (hts _ (List.mem_cons_of_mem _ wd_6)) ds_Tag_init ⟨Nat.le_of_ble_eq_true rfl, Nat.le_of_ble_eq_true rfl⟩, rfl, (hts _ (List.mem_cons_of_mem _ wd_78))⟩ (kk_preS hK hP hz (by omega)) rfl rfl hl.1 rfl (lv_room (Nat.le_of_ble_eq_true rfl)) d_Prm_init_21 ⟨Nat.le_of_ble_eq_true rfl, Nat.le_of_ble_eq_true rfl⟩) hS (fun w7 sz7 H locs hp7 hP hz hS => ?_)
  obtain ⟨he7, hs7⟩ := hp7
  have hz : H.size = sz + 4 := hz.trans hs7
  have hw8 : w7 = mm_up (mm_up w6 (sz + 2) (.inr (5, [.int (nI 255), .ref (sz + 3)]))) (sz + 3) (.inr (6, [.int (-2147483648), .int 2147483647])) := he7
  have fr8 : ∀ j, j ≠ sz + 2 → j ≠ sz + 3 → w7 j = w6 j := fun j h90 h91 => by rw [hw8]; exact (mm_un h91).trans (mm_un h90)
  have fa8_0 : w7 (sz + 2) = some (.inr (5, [.int (nI 255), .ref (sz + 3)])) := by rw [hw8]; exact (mm_un (by omega)).trans (mm_us _ _ _)
  have fa8_1 : w7 (sz + 3) = some (.inr (6, [.int (-2147483648), .int 2147483647])) := by rw [hw8]; exact mm_us _ _ _
  have f9 := (fr8 _ (by omega) (by omega)).trans ((fr6 _ (by omega)).trans (fa5))
  refine mm_putF (D := D) (C := n_Prm) (T := T_Prm) (N := 8) (v := .ref (sz + 2)) (ty := (.object "DelegationClosure$Tag")) hx hb hts lay_Prm t_Prm ty_Prm nm_Prm hown hK.1 hP hS f9 rfl 4 (by decide) (hts _ (List.mem_cons_of_mem _ wd_231)) (fun _ h9 => h9) rfl hin rfl (by decide +kernel) rfl rfl (Nat.le_of_ble_eq_true rfl) d_Prm_init_24 (fun H locs hP hz1 hS => ?_)
  have hz : H.size = sz + 4 := hz1.trans hz
  obtain ⟨w10, hw10⟩ : ∃ z : mm_M, z = mm_up w7 a (.inr (8, [.int iss, .ref sz, .int (nI 0), .ref (sz + 1), .ref (sz + 2), .int 0, .int 0, .int 0])) := ⟨_, rfl⟩
  have hP : mm_P B D kc w10 H := by rw [hw10]; exact hP
  have fr10 : ∀ j, j ≠ a → w10 j = w7 j := fun j h9 => by rw [hw10]; exact mm_un h9
  have fa10 : w10 a = some (.inr (8, [.int iss, .ref sz, .int (nI 0), .ref (sz + 1), .ref (sz + 2), .int 0, .int 0, .int 0])) := by rw [hw10]; exact mm_us _ _ _
  refine lv_aload_n hx hb d_Prm_init_27 rfl (lv_at hl 0 rfl) ?_
  refine lv_iconst (v := nI 1) hx hb d_Prm_init_28 (by decide) ?_
  refine mm_put (D := D) (C := n_Prm) (T := T_Prm) (N := 8) (v := .int (nI 1)) (ty := .int) hx hb hts lay_Prm t_Prm ty_Prm nm_Prm hown hK.1 hP hS fa10 rfl 6 (by decide) (hts _ (List.mem_cons_of_mem _ wd_238)) (fun _ h9 => h9) rfl (by decide +kernel) rfl rfl (Nat.le_of_ble_eq_true rfl) d_Prm_init_29 (fun H locs hP hz1 hS => ?_)
  have hz : H.size = sz + 4 := hz1.trans hz
  obtain ⟨w11, hw11⟩ : ∃ z : mm_M, z = mm_up w10 a (.inr (8, [.int iss, .ref sz, .int (nI 0), .ref (sz + 1), .ref (sz + 2), .int 0, .int (nI 1), .int 0])) := ⟨_, rfl⟩
  have hP : mm_P B D kc w11 H := by rw [hw11]; exact hP
  have fr11 : ∀ j, j ≠ a → w11 j = w10 j := fun j h9 => by rw [hw11]; exact mm_un h9
  have fa11 : w11 a = some (.inr (8, [.int iss, .ref sz, .int (nI 0), .ref (sz + 1), .ref (sz + 2), .int 0, .int (nI 1), .int 0])) := by rw [hw11]; exact mm_us _ _ _
  refine lv_aload_n hx hb d_Prm_init_32 rfl (lv_at hl 0 rfl) ?_
  refine lv_iconst (v := nI 1) hx hb d_Prm_init_33 (by decide) ?_
  refine mm_put (D := D) (C := n_Prm) (T := T_Prm) (N := 8) (v := .int (nI 1)) (ty := .int) hx hb hts lay_Prm t_Prm ty_Prm nm_Prm hown hK.1 hP hS fa11 rfl 7 (by decide) (hts _ (List.mem_cons_of_mem _ wd_242)) (fun _ h9 => h9) rfl (by decide +kernel) rfl rfl (Nat.le_of_ble_eq_true rfl) d_Prm_init_34 (fun H locs hP hz1 hS => ?_)
  have hz : H.size = sz + 4 := hz1.trans hz
  obtain ⟨w12, hw12⟩ : ∃ z : mm_M, z = mm_up w11 a (.inr (8, [.int iss, .ref sz, .int (nI 0), .ref (sz + 1), .ref (sz + 2), .int 0, .int (nI 1), .int (nI 1)])) := ⟨_, rfl⟩
  have hP : mm_P B D kc w12 H := by rw [hw12]; exact hP
  have fr12 : ∀ j, j ≠ a → w12 j = w11 j := fun j h9 => by rw [hw12]; exact mm_un h9
  have fa12 : w12 a = some (.inr (8, [.int iss, .ref sz, .int (nI 0), .ref (sz + 1), .ref (sz + 2), .int 0, .int (nI 1), .int (nI 1)])) := by rw [hw12]; exact mm_us _ _ _
  refine lv_aload_n hx hb d_Prm_init_37 rfl (lv_at hl 0 rfl) ?_
  refine mm_get (D := D) (C := n_Prm) (T := T_Prm) (N := 8) (v := .ref (sz + 1)) hx hb hts lay_Prm hown hK.1 hP fa12 rfl 3 (by decide) (hts _ (List.mem_cons_of_mem _ wd_228)) (fun _ h9 => h9) rfl d_Prm_init_38 ?_
  refine lv_iconst (v := nI 0) hx hb d_Prm_init_41 (by decide) ?_
  refine lv_iload_n hx hb d_Prm_init_42 rfl (lv_at hl 2 rfl) ?_
  have f13 := (fr12 _ (by omega)).trans ((fr11 _ (by omega)).trans ((fr10 _ (by omega)).trans ((fr8 _ (by omega) (by omega)).trans ((fr6 _ (by omega)).trans ((fr5 _ (by omega)).trans (fa3))))))
  refine mm_iast hx hb hK.1 hP hS 0 f13 rfl 0 rfl (by omega) (by decide) d_Prm_init_43 (fun H locs hP hz1 hS => ?_)
  rw [show upd (fun i => nI ((fun _ => 0) i)) 0 (nI su) = fun i => nI ((va_up (fun _ => 0) 0 su) i) from kk_upn _ _ _] at hP
  have hz : H.size = sz + 4 := hz1.trans hz
  obtain ⟨w14, hw14⟩ : ∃ z : mm_M, z = mm_up w12 (sz + 1) (.inl (cI, 3, .inl (fun i => nI ((va_up (fun _ => 0) 0 su) i)))) := ⟨_, rfl⟩
  have hP : mm_P B D kc w14 H := by rw [hw14]; exact hP
  have fr14 : ∀ j, j ≠ sz + 1 → w14 j = w12 j := fun j h9 => by rw [hw14]; exact mm_un h9
  have fa14 : w14 (sz + 1) = some (.inl (cI, 3, .inl (fun i => nI ((va_up (fun _ => 0) 0 su) i)))) := by rw [hw14]; exact mm_us _ _ _
  refine lv_aload_n hx hb d_Prm_init_44 rfl (lv_at hl 0 rfl) ?_
  refine lv_iload_n hx hb d_Prm_init_45 rfl (lv_at hl 3 rfl) ?_
  have f15 := (fr14 _ (by omega)).trans (fa12)
  refine mm_putF (D := D) (C := n_Prm) (T := T_Prm) (N := 8) (v := .int (nI dl)) (ty := .boolean) hx hb hts lay_Prm t_Prm ty_Prm nm_Prm hown hK.1 hP hS f15 rfl 5 (by decide) (hts _ (List.mem_cons_of_mem _ wd_235)) (fun _ h9 => h9) rfl hin rfl (by decide +kernel) (kk_nar1 hdl) (kk_fit1 hdl) (Nat.le_of_ble_eq_true rfl) d_Prm_init_46 (fun H locs hP hz1 hS => ?_)
  have hz : H.size = sz + 4 := hz1.trans hz
  obtain ⟨w16, hw16⟩ : ∃ z : mm_M, z = mm_up w14 a (.inr (8, [.int iss, .ref sz, .int (nI 0), .ref (sz + 1), .ref (sz + 2), .int (nI dl), .int (nI 1), .int (nI 1)])) := ⟨_, rfl⟩
  have hP : mm_P B D kc w16 H := by rw [hw16]; exact hP
  have fr16 : ∀ j, j ≠ a → w16 j = w14 j := fun j h9 => by rw [hw16]; exact mm_un h9
  have fa16 : w16 a = some (.inr (8, [.int iss, .ref sz, .int (nI 0), .ref (sz + 1), .ref (sz + 2), .int (nI dl), .int (nI 1), .int (nI 1)])) := by rw [hw16]; exact mm_us _ _ _
  exact W.vret hx hb hr (fun t ht hW => ⟨⟨(w16, sz + 4), rfl, ⟨mm_e5 fa16 ((fr16 _ (by omega)).trans ((fr14 _ (by omega)).trans ((fr12 _ (by omega)).trans ((fr11 _ (by omega)).trans ((fr10 _ (by omega)).trans ((fr8 _ (by omega) (by omega)).trans ((fr6 _ (by omega)).trans ((fr5 _ (by omega)).trans ((fr3 _ (by omega)).trans (fa2_1)))))))))) ((fr16 _ (by omega)).trans (fa14)) ((fr16 _ (by omega)).trans ((fr14 _ (by omega)).trans ((fr12 _ (by omega)).trans ((fr11 _ (by omega)).trans ((fr10 _ (by omega)).trans (fa8_0)))))) ((fr16 _ (by omega)).trans ((fr14 _ (by omega)).trans ((fr12 _ (by omega)).trans ((fr11 _ (by omega)).trans ((fr10 _ (by omega)).trans (fa8_1)))))) (fun j g0 g1 g2 g3 g4 => (fr16 j g0).trans ((fr14 j g2).trans ((fr12 j g0).trans ((fr11 j g0).trans ((fr10 j g0).trans ((fr8 j g3 g4).trans ((fr6 j g3).trans ((fr5 j g0).trans ((fr3 j g2).trans (fr2 j g0 g1)))))))))), rfl⟩, by rw [ht]; exact hP, by rw [ht]; exact hz⟩, hS.F ht⟩) hS.2.2 d_Prm_init_49
theorem d_Prm_addSubject_0 : decode k_Prm_addSubject 0 = .ok (.aload_n 0, 1) := by decide +kernel
theorem d_Prm_addSubject_1 : decode k_Prm_addSubject 1 = .ok (.getfield 24, 3) := by decide +kernel
theorem d_Prm_addSubject_4 : decode k_Prm_addSubject 4 = .ok (.iconst 3, 1) := by decide +kernel
theorem d_Prm_addSubject_5 : decode k_Prm_addSubject 5 = .ok (.if_icmp .ge 23, 3) := by decide +kernel
theorem d_Prm_addSubject_8 : decode k_Prm_addSubject 8 = .ok (.aload_n 0, 1) := by decide +kernel
theorem d_Prm_addSubject_9 : decode k_Prm_addSubject 9 = .ok (.getfield 9, 3) := by decide +kernel
theorem d_Prm_addSubject_12 : decode k_Prm_addSubject 12 = .ok (.aload_n 0, 1) := by decide +kernel
theorem d_Prm_addSubject_13 : decode k_Prm_addSubject 13 = .ok (.getfield 24, 3) := by decide +kernel
theorem d_Prm_addSubject_16 : decode k_Prm_addSubject 16 = .ok (.iload_n 1, 1) := by decide +kernel
theorem d_Prm_addSubject_17 : decode k_Prm_addSubject 17 = .ok (.iastore, 1) := by decide +kernel
theorem d_Prm_addSubject_18 : decode k_Prm_addSubject 18 = .ok (.aload_n 0, 1) := by decide +kernel
theorem d_Prm_addSubject_19 : decode k_Prm_addSubject 19 = .ok (.dup, 1) := by decide +kernel
theorem d_Prm_addSubject_20 : decode k_Prm_addSubject 20 = .ok (.getfield 24, 3) := by decide +kernel
theorem d_Prm_addSubject_23 : decode k_Prm_addSubject 23 = .ok (.iconst 1, 1) := by decide +kernel
theorem d_Prm_addSubject_24 : decode k_Prm_addSubject 24 = .ok (.iadd, 1) := by decide +kernel
theorem d_Prm_addSubject_25 : decode k_Prm_addSubject 25 = .ok (.putfield 24, 3) := by decide +kernel
theorem d_Prm_addSubject_28 : decode k_Prm_addSubject 28 = .ok (.return_, 1) := by decide +kernel
set_option maxHeartbeats 4000000 in
set_option maxRecDepth 100000 in
theorem c_Prm_addSubject (l : Launch) {B : Nat} {D : va_G} {cI cZ cQ : ClassId} {w : mm_M} {sz : Nat} {a tm ar tg gn dl mn nd s9 : Nat} {iss : Int32} {g : Nat → Nat} (h_0 : w a = some (.inr (8, [.int iss, .ref tm, .int (nI gn), .ref ar, .ref tg, .int (nI dl), .int (nI mn), .int (nI nd)]))) (h_1 : w ar = some (.inl (cI, 3, .inl (fun i => nI (g i))))) (hm : mn < 3) (hne : a ≠ ar) : Met l y_Prm_addSubject ws_Prm_addSubject (kk_rm 0 0 0) (kk_Pc B D cI cZ cQ [.ref a, .int (nI s9)] w sz) (kk_Qv B D (fun w' sz' => w' = mm_up (mm_up w a (.inr (8, [.int iss, .ref tm, .int (nI gn), .ref ar, .ref tg, .int (nI dl), .int (nI (mn + 1)), .int (nI nd)]))) ar (.inl (cI, 3, .inl (fun i => nI ((va_up g mn s9) i)))) ∧ sz' = sz)) 0 0 (fun q => B ≤ q) := by
  refine Met.ofW (cc := k_Prm_addSubject) (maxL := 2) (ret := none) (by decide) rfl ?_
  intro p e s m args below meth c s₁ BB hml hv
  obtain ⟨rfl, hK, hP, hz, hBz⟩ := hv
  have hx := BB.exec
  have hb := BB.bytes
  have hr := BB.returns
  have hts := atoms_spec (ws := ws_Prm_addSubject) BB.pre
  have hown : s.vm.findClass "DelegationClosure$Permission" = some m.cls := findClass_of_methodNamed BB.named
  have hlocks := BB.notSynchronized
  have hS : mm_S B s.heap s.heap [] := va_S.rf
  have hl := lv_entry ([.ref a, .int (nI s9)]) (n := 2) (Nat.le_of_ble_eq_true rfl)
  rw [lg_entry_eq]
  generalize (lg_sl ([.ref a, .int (nI s9)]) ++ List.replicate (2 - (lg_sl ([.ref a, .int (nI s9)])).length) Slot.unset).toArray = ls at hl ⊢
  have hl : lv_has ls 2 [(0, .ref a), (1, .int (nI s9))] := hl
  refine lv_aload_n hx hb d_Prm_addSubject_0 rfl (lv_at hl 0 rfl) ?_
  refine mm_get (D := D) (C := n_Prm) (T := T_Prm) (N := 8) (v := .int (nI mn)) hx hb hts lay_Prm hown hK.1 hP h_0 rfl 6 (by decide) (hts _ (List.mem_cons_of_mem _ wd_238)) (fun _ h9 => h9) rfl d_Prm_addSubject_1 ?_
  refine lv_iconst (v := nI 3) hx hb d_Prm_addSubject_4 (by decide) ?_
  refine lv_icmp_ge (tgt := 28) hx hb d_Prm_addSubject_5 (by decide) (fun cc1 => ?_) (fun cc1 => ?_)
  · have cc1 : 3 ≤ mn := (nI_leI (by omega) (by omega)).mp cc1
    exact absurd cc1 (by omega)
  · have cc1 : ¬ (3 ≤ mn) := fun q => cc1 ((nI_leI (by omega) (by omega)).mpr q)
    refine lv_aload_n hx hb d_Prm_addSubject_8 rfl (lv_at hl 0 rfl) ?_
    refine mm_get (D := D) (C := n_Prm) (T := T_Prm) (N := 8) (v := .ref ar) hx hb hts lay_Prm hown hK.1 hP h_0 rfl 3 (by decide) (hts _ (List.mem_cons_of_mem _ wd_228)) (fun _ h9 => h9) rfl d_Prm_addSubject_9 ?_
    refine lv_aload_n hx hb d_Prm_addSubject_12 rfl (lv_at hl 0 rfl) ?_
    refine mm_get (D := D) (C := n_Prm) (T := T_Prm) (N := 8) (v := .int (nI mn)) hx hb hts lay_Prm hown hK.1 hP h_0 rfl 6 (by decide) (hts _ (List.mem_cons_of_mem _ wd_238)) (fun _ h9 => h9) rfl d_Prm_addSubject_13 ?_
    refine lv_iload_n hx hb d_Prm_addSubject_16 rfl (lv_at hl 1 rfl) ?_
    refine mm_iast hx hb hK.1 hP hS 0 h_1 rfl mn rfl (by omega) (by decide) d_Prm_addSubject_17 (fun H locs hP hz1 hS => ?_)
    rw [show upd (fun i => nI (g i)) mn (nI s9) = fun i => nI ((va_up g mn s9) i) from kk_upn _ _ _] at hP
    have hz : H.size = sz := hz1.trans hz
    obtain ⟨w2, hw2⟩ : ∃ z : mm_M, z = mm_up w ar (.inl (cI, 3, .inl (fun i => nI ((va_up g mn s9) i)))) := ⟨_, rfl⟩
    have hP : mm_P B D kc w2 H := by rw [hw2]; exact hP
    have fr2 : ∀ j, j ≠ ar → w2 j = w j := fun j h9 => by rw [hw2]; exact mm_un h9
    have fa2 : w2 ar = some (.inl (cI, 3, .inl (fun i => nI ((va_up g mn s9) i)))) := by rw [hw2]; exact mm_us _ _ _
    refine lv_aload_n hx hb d_Prm_addSubject_18 rfl (lv_at hl 0 rfl) ?_
    refine lv_dup hx hb d_Prm_addSubject_19 rfl ?_
    have f3 := (fr2 _ hne).trans (h_0)
    refine mm_get (D := D) (C := n_Prm) (T := T_Prm) (N := 8) (v := .int (nI mn)) hx hb hts lay_Prm hown hK.1 hP f3 rfl 6 (by decide) (hts _ (List.mem_cons_of_mem _ wd_238)) (fun _ h9 => h9) rfl d_Prm_addSubject_20 ?_
    refine lv_iconst (v := nI 1) hx hb d_Prm_addSubject_23 (by decide) ?_
    refine lv_iadd hx hb d_Prm_addSubject_24 ?_
    refine kk_top (nI_add _ _) ?_
    refine mm_put (D := D) (C := n_Prm) (T := T_Prm) (N := 8) (v := .int (nI (mn + 1))) (ty := .int) hx hb hts lay_Prm t_Prm ty_Prm nm_Prm hown hK.1 hP hS f3 rfl 6 (by decide) (hts _ (List.mem_cons_of_mem _ wd_238)) (fun _ h9 => h9) rfl (by decide +kernel) rfl rfl (Nat.le_of_ble_eq_true rfl) d_Prm_addSubject_25 (fun H locs hP hz1 hS => ?_)
    have hz : H.size = sz := hz1.trans hz
    obtain ⟨w4, hw4⟩ : ∃ z : mm_M, z = mm_up w2 a (.inr (8, [.int iss, .ref tm, .int (nI gn), .ref ar, .ref tg, .int (nI dl), .int (nI (mn + 1)), .int (nI nd)])) := ⟨_, rfl⟩
    have hP : mm_P B D kc w4 H := by rw [hw4]; exact hP
    have fr4 : ∀ j, j ≠ a → w4 j = w2 j := fun j h9 => by rw [hw4]; exact mm_un h9
    have fa4 : w4 a = some (.inr (8, [.int iss, .ref tm, .int (nI gn), .ref ar, .ref tg, .int (nI dl), .int (nI (mn + 1)), .int (nI nd)])) := by rw [hw4]; exact mm_us _ _ _
    exact W.vret hx hb hr (fun t ht hW => ⟨⟨(w4, sz), rfl, ⟨mm_e2 fa4 ((fr4 _ hne.symm).trans (fa2)) (fun j g0 g1 => (fr4 j g0).trans (fr2 j g1)), rfl⟩, by rw [ht]; exact hP, by rw [ht]; exact hz⟩, hS.F ht⟩) hS.2.2 d_Prm_addSubject_28
theorem d_Reg_init_0 : decode k_Reg_init 0 = .ok (.aload_n 0, 1) := by decide +kernel
theorem d_Reg_init_1 : decode k_Reg_init 1 = .ok (.invokespecial 3, 3) := by decide +kernel
theorem d_Reg_init_4 : decode k_Reg_init 4 = .ok (.aload_n 0, 1) := by decide +kernel
theorem d_Reg_init_5 : decode k_Reg_init 5 = .ok (.bipush 24, 2) := by decide +kernel
theorem d_Reg_init_7 : decode k_Reg_init 7 = .ok (.anewarray 9, 3) := by decide +kernel
theorem d_Reg_init_10 : decode k_Reg_init 10 = .ok (.putfield 11, 3) := by decide +kernel
theorem d_Reg_init_13 : decode k_Reg_init 13 = .ok (.aload_n 0, 1) := by decide +kernel
theorem d_Reg_init_14 : decode k_Reg_init 14 = .ok (.iconst 0, 1) := by decide +kernel
theorem d_Reg_init_15 : decode k_Reg_init 15 = .ok (.putfield 17, 3) := by decide +kernel
theorem d_Reg_init_18 : decode k_Reg_init 18 = .ok (.return_, 1) := by decide +kernel
set_option maxHeartbeats 4000000 in
set_option maxRecDepth 100000 in
theorem c_Reg_init (l : Launch) {B : Nat} {D : va_G} {cI cZ cQ : ClassId} {w : mm_M} {sz : Nat} {a : Nat} (h_0 : w a = some (.inr (1, [.null, .int 0]))) (hasz : a < sz) : Met l y_Reg_init ws_Reg_init (kk_rm 1 1 24) (kk_Pc B D cI cZ cQ [.ref a] w sz) (kk_Qv B D (fun w' sz' => w' = mm_up (mm_up w a (.inr (1, [.ref sz, .int (nI 0)]))) sz (.inl (cQ, 24, .inr (.inr (.inr (.inr (fun _ => none)))))) ∧ sz' = sz + 1)) 1 24 (fun q => B ≤ q) := by
  refine Met.ofW (cc := k_Reg_init) (maxL := 1) (ret := none) (by decide) rfl ?_
  intro p e s m args below meth c s₁ BB hml hv
  obtain ⟨rfl, hK, hP, hz, hBz⟩ := hv
  have hx := BB.exec
  have hb := BB.bytes
  have hr := BB.returns
  have hts := atoms_spec (ws := ws_Reg_init) BB.pre
  have hown : s.vm.findClass "DelegationClosure$Register" = some m.cls := findClass_of_methodNamed BB.named
  have hlocks := BB.notSynchronized
  have hin : meth.name = "<init>" := (name_of_methodNamed BB.named BB.method).1
  have hS : mm_S B s.heap s.heap [] := va_S.rf
  have hl := lv_entry ([.ref a]) (n := 1) (Nat.le_of_ble_eq_true rfl)
  rw [lg_entry_eq]
  generalize (lg_sl ([.ref a]) ++ List.replicate (1 - (lg_sl ([.ref a])).length) Slot.unset).toArray = ls at hl ⊢
  have hl : lv_has ls 1 [(0, .ref a)] := hl
  refine lv_aload_n hx hb d_Reg_init_0 rfl (lv_at hl 0 rfl) ?_
  refine W.objInit hx hb hown (hts _ (List.mem_cons_of_mem _ wd_28)) (hts _ (List.mem_cons_of_mem _ wd_21)) (hts _ (List.mem_cons_of_mem _ wd_objcode)) rfl (by rw [hml]; exact hl.1) rfl d_Reg_init_1 (Nat.le_of_ble_eq_true rfl) (Nat.le_of_ble_eq_true rfl) ?_
  refine W.eq (g2 := F0 m 4 ls []) rfl ?_
  refine lv_aload_n hx hb d_Reg_init_4 rfl (lv_at hl 0 rfl) ?_
  refine lv_bipush (v := nI 24) hx hb d_Reg_init_5 (by decide) ?_
  refine mm_newq (C := "DelegationClosure$Certificate") (cA := cQ) (N' := 24) (h := sz) hx hb hown (hts _ (List.mem_cons_of_mem _ wd_29)) hK.2.2.1 (hK.1.2 2 _ rfl).2 hP hS (by decide) (by decide +kernel) (by decide) (Nat.le_of_ble_eq_true rfl) (Nat.le_of_ble_eq_true rfl) hz (by omega) d_Reg_init_7 (fun H hP hz1 hS => ?_)
  have hz : H.size = sz + 1 := hz1
  obtain ⟨w1, hw1⟩ : ∃ z : mm_M, z = mm_up w sz (.inl (cQ, 24, .inr (.inr (.inr (.inr (fun _ => none)))))) := ⟨_, rfl⟩
  have hP : mm_P B D kc w1 H := by rw [hw1]; exact hP
  have fr1 : ∀ j, j ≠ sz → w1 j = w j := fun j h9 => by rw [hw1]; exact mm_un h9
  have fa1 : w1 sz = some (.inl (cQ, 24, .inr (.inr (.inr (.inr (fun _ => none)))))) := by rw [hw1]; exact mm_us _ _ _
  have f2 := (fr1 _ (by omega)).trans (h_0)
  refine mm_putF (D := D) (C := n_Reg) (T := T_Reg) (N := 2) (v := .ref sz) (ty := (.array (.object "DelegationClosure$Certificate"))) hx hb hts lay_Reg t_Reg ty_Reg nm_Reg hown hK.1 hP hS f2 rfl 0 (by decide) (hts _ (List.mem_cons_of_mem _ wd_31)) (fun _ h9 => h9) rfl hin rfl (by decide +kernel) rfl rfl (Nat.le_of_ble_eq_true rfl) d_Reg_init_10 (fun H locs hP hz1 hS => ?_)
  have hz : H.size = sz + 1 := hz1.trans hz
  obtain ⟨w3, hw3⟩ : ∃ z : mm_M, z = mm_up w1 a (.inr (1, [.ref sz, .int 0])) := ⟨_, rfl⟩
  have hP : mm_P B D kc w3 H := by rw [hw3]; exact hP
  have fr3 : ∀ j, j ≠ a → w3 j = w1 j := fun j h9 => by rw [hw3]; exact mm_un h9
  have fa3 : w3 a = some (.inr (1, [.ref sz, .int 0])) := by rw [hw3]; exact mm_us _ _ _
  refine lv_aload_n hx hb d_Reg_init_13 rfl (lv_at hl 0 rfl) ?_
  refine lv_iconst (v := nI 0) hx hb d_Reg_init_14 (by decide) ?_
  refine mm_put (D := D) (C := n_Reg) (T := T_Reg) (N := 2) (v := .int (nI 0)) (ty := .int) hx hb hts lay_Reg t_Reg ty_Reg nm_Reg hown hK.1 hP hS fa3 rfl 1 (by decide) (hts _ (List.mem_cons_of_mem _ wd_32)) (fun _ h9 => h9) rfl (by decide +kernel) rfl rfl (Nat.le_of_ble_eq_true rfl) d_Reg_init_15 (fun H locs hP hz1 hS => ?_)
  have hz : H.size = sz + 1 := hz1.trans hz
  obtain ⟨w4, hw4⟩ : ∃ z : mm_M, z = mm_up w3 a (.inr (1, [.ref sz, .int (nI 0)])) := ⟨_, rfl⟩
  have hP : mm_P B D kc w4 H := by rw [hw4]; exact hP
  have fr4 : ∀ j, j ≠ a → w4 j = w3 j := fun j h9 => by rw [hw4]; exact mm_un h9
  have fa4 : w4 a = some (.inr (1, [.ref sz, .int (nI 0)])) := by rw [hw4]; exact mm_us _ _ _
  exact W.vret hx hb hr (fun t ht hW => ⟨⟨(w4, sz + 1), rfl, ⟨mm_e2 fa4 ((fr4 _ (by omega)).trans ((fr3 _ (by omega)).trans (fa1))) (fun j g0 g1 => (fr4 j g0).trans ((fr3 j g0).trans (fr1 j g1))), rfl⟩, by rw [ht]; exact hP, by rw [ht]; exact hz⟩, hS.F ht⟩) hS.2.2 d_Reg_init_18
theorem d_Reg_isFull_0 : decode k_Reg_isFull 0 = .ok (.aload_n 0, 1) := by decide +kernel
theorem d_Reg_isFull_1 : decode k_Reg_isFull 1 = .ok (.getfield 17, 3) := by decide +kernel
theorem d_Reg_isFull_4 : decode k_Reg_isFull 4 = .ok (.bipush 24, 2) := by decide +kernel
theorem d_Reg_isFull_6 : decode k_Reg_isFull 6 = .ok (.if_icmp .lt 7, 3) := by decide +kernel
theorem d_Reg_isFull_9 : decode k_Reg_isFull 9 = .ok (.iconst 1, 1) := by decide +kernel
theorem d_Reg_isFull_10 : decode k_Reg_isFull 10 = .ok (.goto 4, 3) := by decide +kernel
theorem d_Reg_isFull_13 : decode k_Reg_isFull 13 = .ok (.iconst 0, 1) := by decide +kernel
theorem d_Reg_isFull_14 : decode k_Reg_isFull 14 = .ok (.ireturn, 1) := by decide +kernel
set_option maxHeartbeats 4000000 in
set_option maxRecDepth 100000 in
theorem c_Reg_isFull (l : Launch) {B : Nat} {D : va_G} {cI cZ cQ : ClassId} {w : mm_M} {sz : Nat} {a ar n : Nat} (h_0 : w a = some (.inr (1, [.ref ar, .int (nI n)]))) (hn : n ≤ 24) : Met l y_Reg_isFull ws_Reg_isFull (kk_rm 0 0 0) (kk_Pc B D cI cZ cQ [.ref a] w sz) (vp_Si (fun r => r = nI (if 24 ≤ n then 1 else 0))) 0 0 (fun _ => False) := by
  refine Met.ofW (cc := k_Reg_isFull) (maxL := 1) (ret := (some .boolean)) (by decide) rfl ?_
  intro p e s m args below meth c s₁ BB hml hv
  obtain ⟨rfl, hK, hP, hz, hBz⟩ := hv
  have hx := BB.exec
  have hb := BB.bytes
  have hr := BB.returns
  have hts := atoms_spec (ws := ws_Reg_isFull) BB.pre
  have hown : s.vm.findClass "DelegationClosure$Register" = some m.cls := findClass_of_methodNamed BB.named
  have hlocks := BB.notSynchronized
  have hS : mm_S B s.heap s.heap [] := va_S.rf
  have hl := lv_entry ([.ref a]) (n := 1) (Nat.le_of_ble_eq_true rfl)
  rw [lg_entry_eq]
  generalize (lg_sl ([.ref a]) ++ List.replicate (1 - (lg_sl ([.ref a])).length) Slot.unset).toArray = ls at hl ⊢
  have hl : lv_has ls 1 [(0, .ref a)] := hl
  refine lv_aload_n hx hb d_Reg_isFull_0 rfl (lv_at hl 0 rfl) ?_
  refine mm_get (D := D) (C := n_Reg) (T := T_Reg) (N := 2) (v := .int (nI n)) hx hb hts lay_Reg hown hK.1 hP h_0 rfl 1 (by decide) (hts _ (List.mem_cons_of_mem _ wd_32)) (fun _ h9 => h9) rfl d_Reg_isFull_1 ?_
  refine lv_bipush (v := nI 24) hx hb d_Reg_isFull_4 (by decide) ?_
  refine lv_icmp_lt (tgt := 13) hx hb d_Reg_isFull_6 (by decide) (fun cc1 => ?_) (fun cc1 => ?_)
  · have cc1 : n < 24 := (nI_ltI (by omega) (by omega)).mp cc1
    refine lv_iconst (v := nI 0) hx hb d_Reg_isFull_13 (by decide) ?_
    exact W.zret hx hb hr rfl (fun t ht hW => ⟨_, rfl, kk_iff (by omega), ht⟩) (fun q hq => by cases hq) d_Reg_isFull_14
  · have cc1 : ¬ (n < 24) := fun q => cc1 ((nI_ltI (by omega) (by omega)).mpr q)
    refine lv_iconst (v := nI 1) hx hb d_Reg_isFull_9 (by decide) ?_
    refine lv_goto (tgt := 14) hx hb d_Reg_isFull_10 (by decide) ?_
    exact W.zret hx hb hr rfl (fun t ht hW => ⟨_, rfl, kk_ift (by omega), ht⟩) (fun q hq => by cases hq) d_Reg_isFull_14
theorem d_Reg_add_0 : decode k_Reg_add 0 = .ok (.aload_n 0, 1) := by decide +kernel
theorem d_Reg_add_1 : decode k_Reg_add 1 = .ok (.invokevirtual 21, 3) := by decide +kernel
theorem d_Reg_add_4 : decode k_Reg_add 4 = .ok (.ifCond .eq 5, 3) := by decide +kernel
theorem d_Reg_add_7 : decode k_Reg_add 7 = .ok (.iconst (-1), 1) := by decide +kernel
theorem d_Reg_add_8 : decode k_Reg_add 8 = .ok (.ireturn, 1) := by decide +kernel
theorem d_Reg_add_9 : decode k_Reg_add 9 = .ok (.aload_n 0, 1) := by decide +kernel
theorem d_Reg_add_10 : decode k_Reg_add 10 = .ok (.getfield 11, 3) := by decide +kernel
theorem d_Reg_add_13 : decode k_Reg_add 13 = .ok (.aload_n 0, 1) := by decide +kernel
theorem d_Reg_add_14 : decode k_Reg_add 14 = .ok (.getfield 17, 3) := by decide +kernel
theorem d_Reg_add_17 : decode k_Reg_add 17 = .ok (.aload_n 1, 1) := by decide +kernel
theorem d_Reg_add_18 : decode k_Reg_add 18 = .ok (.aastore, 1) := by decide +kernel
theorem d_Reg_add_19 : decode k_Reg_add 19 = .ok (.aload_n 0, 1) := by decide +kernel
theorem d_Reg_add_20 : decode k_Reg_add 20 = .ok (.dup, 1) := by decide +kernel
theorem d_Reg_add_21 : decode k_Reg_add 21 = .ok (.getfield 17, 3) := by decide +kernel
theorem d_Reg_add_24 : decode k_Reg_add 24 = .ok (.iconst 1, 1) := by decide +kernel
theorem d_Reg_add_25 : decode k_Reg_add 25 = .ok (.iadd, 1) := by decide +kernel
theorem d_Reg_add_26 : decode k_Reg_add 26 = .ok (.putfield 17, 3) := by decide +kernel
theorem d_Reg_add_29 : decode k_Reg_add 29 = .ok (.aload_n 0, 1) := by decide +kernel
theorem d_Reg_add_30 : decode k_Reg_add 30 = .ok (.getfield 17, 3) := by decide +kernel
theorem d_Reg_add_33 : decode k_Reg_add 33 = .ok (.iconst 1, 1) := by decide +kernel
theorem d_Reg_add_34 : decode k_Reg_add 34 = .ok (.isub, 1) := by decide +kernel
theorem d_Reg_add_35 : decode k_Reg_add 35 = .ok (.ireturn, 1) := by decide +kernel
set_option maxHeartbeats 4000000 in
set_option maxRecDepth 100000 in
theorem c_Reg_add7 (l : Launch) {B : Nat} {D : va_G} {cI cZ cQ : ClassId} {w : mm_M} {sz : Nat} {a ar n cc : Nat} {f : Nat → Option Nat} {xs : List Value} (h_0 : w a = some (.inr (1, [.ref ar, .int (nI n)]))) (h_1 : w ar = some (.inl (cQ, 24, .inr (.inr (.inr (.inr f)))))) (h_2 : w cc = some (.inr (7, xs))) (hn : n < 24) (hne0 : a ≠ ar) : Met l y_Reg_add ws_Reg_add (kk_rm 1 0 0) (kk_Pc B D cI cZ cQ [.ref a, .ref cc] w sz) (kk_Qi B D (fun r w' sz' => r = nI n ∧ w' = mm_up (mm_up w a (.inr (1, [.ref ar, .int (nI (n + 1))]))) ar (.inl (cQ, 24, .inr (.inr (.inr (.inr (va_up f n (some cc))))))) ∧ sz' = sz)) 0 0 (fun q => B ≤ q) := by
  refine Met.ofW (cc := k_Reg_add) (maxL := 2) (ret := (some .int)) (by decide) rfl ?_
  intro p e s m args below meth c s₁ BB hml hv
  obtain ⟨rfl, hK, hP, hz, hBz⟩ := hv
  have hx := BB.exec
  have hb := BB.bytes
  have hr := BB.returns
  have hts := atoms_spec (ws := ws_Reg_add) BB.pre
  have hown : s.vm.findClass "DelegationClosure$Register" = some m.cls := findClass_of_methodNamed BB.named
  have hlocks := BB.notSynchronized
  have hS : mm_S B s.heap s.heap [] := va_S.rf
  have hl := lv_entry ([.ref a, .ref cc]) (n := 2) (Nat.le_of_ble_eq_true rfl)
  rw [lg_entry_eq]
  generalize (lg_sl ([.ref a, .ref cc]) ++ List.replicate (2 - (lg_sl ([.ref a, .ref cc])).length) Slot.unset).toArray = ls at hl ⊢
  have hl : lv_has ls 2 [(0, .ref a), (1, .ref cc)] := hl
  refine lv_aload_n hx hb d_Reg_add_0 rfl (lv_at hl 0 rfl) ?_
  refine vp_callSi (va_Run.run (va_runV (As := []) (rest := []) ⟨hx, hb, hml, hown, hts⟩ (c_Reg_isFull l h_0 (by omega)) (cwV 0 hts (gW_in (hd := [_, _, _, _, _]) (kk_5 wd_215 wd_162 wd_163 wd_2 cw_Reg_isFull)) rfl rfl rfl ⟨rfl, ds_Reg_isFull⟩ ⟨Nat.le_of_ble_eq_true rfl, Nat.le_of_ble_eq_true rfl⟩) (kk_preV hK hP hz hBz h_0 rfl) rfl rfl hl.1 rfl (lv_room (Nat.le_of_ble_eq_true rfl)) d_Reg_add_1 ⟨Nat.le_of_ble_eq_true rfl, Nat.le_of_ble_eq_true rfl⟩)) (fun r1 hr1 => ?_)
  subst hr1
  refine lv_if_eq (tgt := 9) hx hb d_Reg_add_4 (by decide) (fun cc2 => ?_) (fun cc2 => ?_)
  · have cc2 := kk_b0 cc2
    refine lv_aload_n hx hb d_Reg_add_9 rfl (lv_at hl 0 rfl) ?_
    refine mm_get (D := D) (C := n_Reg) (T := T_Reg) (N := 2) (v := .ref ar) hx hb hts lay_Reg hown hK.1 hP h_0 rfl 0 (by decide) (hts _ (List.mem_cons_of_mem _ wd_31)) (fun _ h9 => h9) rfl d_Reg_add_10 ?_
    refine lv_aload_n hx hb d_Reg_add_13 rfl (lv_at hl 0 rfl) ?_
    refine mm_get (D := D) (C := n_Reg) (T := T_Reg) (N := 2) (v := .int (nI n)) hx hb hts lay_Reg hown hK.1 hP h_0 rfl 1 (by decide) (hts _ (List.mem_cons_of_mem _ wd_32)) (fun _ h9 => h9) rfl d_Reg_add_14 ?_
    refine lv_aload_n hx hb d_Reg_add_17 rfl (lv_at hl 1 rfl) ?_
    refine mm_aast hx hb hK.1 hP hS 2 h_1 rfl (mm_any hK.1 hP h_2 rfl (hK.2.1 _ nw_728 rfl)) n rfl (by omega) (by decide) d_Reg_add_18 (fun H locs hP hz1 hS => ?_)
    have hz : H.size = sz := hz1.trans hz
    obtain ⟨w3, hw3⟩ : ∃ z : mm_M, z = mm_up w ar (.inl (cQ, 24, .inr (.inr (.inr (.inr (va_up f n (some cc))))))) := ⟨_, rfl⟩
    have hP : mm_P B D kc w3 H := by rw [hw3]; exact hP
    have fr3 : ∀ j, j ≠ ar → w3 j = w j := fun j h9 => by rw [hw3]; exact mm_un h9
    have fa3 : w3 ar = some (.inl (cQ, 24, .inr (.inr (.inr (.inr (va_up f n (some cc))))))) := by rw [hw3]; exact mm_us _ _ _
    refine lv_aload_n hx hb d_Reg_add_19 rfl (lv_at hl 0 rfl) ?_
    refine lv_dup hx hb d_Reg_add_20 rfl ?_
    have f4 := (fr3 _ hne0).trans (h_0)
    refine mm_get (D := D) (C := n_Reg) (T := T_Reg) (N := 2) (v := .int (nI n)) hx hb hts lay_Reg hown hK.1 hP f4 rfl 1 (by decide) (hts _ (List.mem_cons_of_mem _ wd_32)) (fun _ h9 => h9) rfl d_Reg_add_21 ?_
    refine lv_iconst (v := nI 1) hx hb d_Reg_add_24 (by decide) ?_
    refine lv_iadd hx hb d_Reg_add_25 ?_
    refine kk_top (nI_add _ _) ?_
    refine mm_put (D := D) (C := n_Reg) (T := T_Reg) (N := 2) (v := .int (nI (n + 1))) (ty := .int) hx hb hts lay_Reg t_Reg ty_Reg nm_Reg hown hK.1 hP hS f4 rfl 1 (by decide) (hts _ (List.mem_cons_of_mem _ wd_32)) (fun _ h9 => h9) rfl (by decide +kernel) rfl rfl (Nat.le_of_ble_eq_true rfl) d_Reg_add_26 (fun H locs hP hz1 hS => ?_)
    have hz : H.size = sz := hz1.trans hz
    obtain ⟨w5, hw5⟩ : ∃ z : mm_M, z = mm_up w3 a (.inr (1, [.ref ar, .int (nI (n + 1))])) := ⟨_, rfl⟩
    have hP : mm_P B D kc w5 H := by rw [hw5]; exact hP
    have fr5 : ∀ j, j ≠ a → w5 j = w3 j := fun j h9 => by rw [hw5]; exact mm_un h9
    have fa5 : w5 a = some (.inr (1, [.ref ar, .int (nI (n + 1))])) := by rw [hw5]; exact mm_us _ _ _
    refine lv_aload_n hx hb d_Reg_add_29 rfl (lv_at hl 0 rfl) ?_
    refine mm_get (D := D) (C := n_Reg) (T := T_Reg) (N := 2) (v := .int (nI (n + 1))) hx hb hts lay_Reg hown hK.1 hP fa5 rfl 1 (by decide) (hts _ (List.mem_cons_of_mem _ wd_32)) (fun _ h9 => h9) rfl d_Reg_add_30 ?_
    refine lv_iconst (v := nI 1) hx hb d_Reg_add_33 (by decide) ?_
    refine lv_isub hx hb d_Reg_add_34 ?_
    refine kk_top (pk_sub (by omega)) ?_
    exact W.iret hx hb hr (fun t ht hW => ⟨⟨_, (w5, sz), rfl, ⟨rfl, mm_e2 fa5 ((fr5 _ hne0.symm).trans (fa3)) (fun j g0 g1 => (fr5 j g0).trans (fr3 j g1)), rfl⟩, by rw [ht]; exact hP, by rw [ht]; exact hz⟩, hS.F ht⟩) hS.2.2 d_Reg_add_35
  · have cc2 := kk_b1 cc2
    exact absurd cc2 (by omega)
set_option maxHeartbeats 4000000 in
set_option maxRecDepth 100000 in
theorem c_Reg_add8 (l : Launch) {B : Nat} {D : va_G} {cI cZ cQ : ClassId} {w : mm_M} {sz : Nat} {a ar n cc : Nat} {f : Nat → Option Nat} {xs : List Value} (h_0 : w a = some (.inr (1, [.ref ar, .int (nI n)]))) (h_1 : w ar = some (.inl (cQ, 24, .inr (.inr (.inr (.inr f)))))) (h_2 : w cc = some (.inr (8, xs))) (hn : n < 24) (hne0 : a ≠ ar) : Met l y_Reg_add ws_Reg_add (kk_rm 1 0 0) (kk_Pc B D cI cZ cQ [.ref a, .ref cc] w sz) (kk_Qi B D (fun r w' sz' => r = nI n ∧ w' = mm_up (mm_up w a (.inr (1, [.ref ar, .int (nI (n + 1))]))) ar (.inl (cQ, 24, .inr (.inr (.inr (.inr (va_up f n (some cc))))))) ∧ sz' = sz)) 0 0 (fun q => B ≤ q) := by
  refine Met.ofW (cc := k_Reg_add) (maxL := 2) (ret := (some .int)) (by decide) rfl ?_
  intro p e s m args below meth c s₁ BB hml hv
  obtain ⟨rfl, hK, hP, hz, hBz⟩ := hv
  have hx := BB.exec
  have hb := BB.bytes
  have hr := BB.returns
  have hts := atoms_spec (ws := ws_Reg_add) BB.pre
  have hown : s.vm.findClass "DelegationClosure$Register" = some m.cls := findClass_of_methodNamed BB.named
  have hlocks := BB.notSynchronized
  have hS : mm_S B s.heap s.heap [] := va_S.rf
  have hl := lv_entry ([.ref a, .ref cc]) (n := 2) (Nat.le_of_ble_eq_true rfl)
  rw [lg_entry_eq]
  generalize (lg_sl ([.ref a, .ref cc]) ++ List.replicate (2 - (lg_sl ([.ref a, .ref cc])).length) Slot.unset).toArray = ls at hl ⊢
  have hl : lv_has ls 2 [(0, .ref a), (1, .ref cc)] := hl
  refine lv_aload_n hx hb d_Reg_add_0 rfl (lv_at hl 0 rfl) ?_
  refine vp_callSi (va_Run.run (va_runV (As := []) (rest := []) ⟨hx, hb, hml, hown, hts⟩ (c_Reg_isFull l h_0 (by omega)) (cwV 0 hts (gW_in (hd := [_, _, _, _, _]) (kk_5 wd_215 wd_162 wd_163 wd_2 cw_Reg_isFull)) rfl rfl rfl ⟨rfl, ds_Reg_isFull⟩ ⟨Nat.le_of_ble_eq_true rfl, Nat.le_of_ble_eq_true rfl⟩) (kk_preV hK hP hz hBz h_0 rfl) rfl rfl hl.1 rfl (lv_room (Nat.le_of_ble_eq_true rfl)) d_Reg_add_1 ⟨Nat.le_of_ble_eq_true rfl, Nat.le_of_ble_eq_true rfl⟩)) (fun r1 hr1 => ?_)
  subst hr1
  refine lv_if_eq (tgt := 9) hx hb d_Reg_add_4 (by decide) (fun cc2 => ?_) (fun cc2 => ?_)
  · have cc2 := kk_b0 cc2
    refine lv_aload_n hx hb d_Reg_add_9 rfl (lv_at hl 0 rfl) ?_
    refine mm_get (D := D) (C := n_Reg) (T := T_Reg) (N := 2) (v := .ref ar) hx hb hts lay_Reg hown hK.1 hP h_0 rfl 0 (by decide) (hts _ (List.mem_cons_of_mem _ wd_31)) (fun _ h9 => h9) rfl d_Reg_add_10 ?_
    refine lv_aload_n hx hb d_Reg_add_13 rfl (lv_at hl 0 rfl) ?_
    refine mm_get (D := D) (C := n_Reg) (T := T_Reg) (N := 2) (v := .int (nI n)) hx hb hts lay_Reg hown hK.1 hP h_0 rfl 1 (by decide) (hts _ (List.mem_cons_of_mem _ wd_32)) (fun _ h9 => h9) rfl d_Reg_add_14 ?_
    refine lv_aload_n hx hb d_Reg_add_17 rfl (lv_at hl 1 rfl) ?_
    refine mm_aast hx hb hK.1 hP hS 2 h_1 rfl (mm_any hK.1 hP h_2 rfl (hK.2.1 _ nw_729 rfl)) n rfl (by omega) (by decide) d_Reg_add_18 (fun H locs hP hz1 hS => ?_)
    have hz : H.size = sz := hz1.trans hz
    obtain ⟨w3, hw3⟩ : ∃ z : mm_M, z = mm_up w ar (.inl (cQ, 24, .inr (.inr (.inr (.inr (va_up f n (some cc))))))) := ⟨_, rfl⟩
    have hP : mm_P B D kc w3 H := by rw [hw3]; exact hP
    have fr3 : ∀ j, j ≠ ar → w3 j = w j := fun j h9 => by rw [hw3]; exact mm_un h9
    have fa3 : w3 ar = some (.inl (cQ, 24, .inr (.inr (.inr (.inr (va_up f n (some cc))))))) := by rw [hw3]; exact mm_us _ _ _
    refine lv_aload_n hx hb d_Reg_add_19 rfl (lv_at hl 0 rfl) ?_
    refine lv_dup hx hb d_Reg_add_20 rfl ?_
    have f4 := (fr3 _ hne0).trans (h_0)
    refine mm_get (D := D) (C := n_Reg) (T := T_Reg) (N := 2) (v := .int (nI n)) hx hb hts lay_Reg hown hK.1 hP f4 rfl 1 (by decide) (hts _ (List.mem_cons_of_mem _ wd_32)) (fun _ h9 => h9) rfl d_Reg_add_21 ?_
    refine lv_iconst (v := nI 1) hx hb d_Reg_add_24 (by decide) ?_
    refine lv_iadd hx hb d_Reg_add_25 ?_
    refine kk_top (nI_add _ _) ?_
    refine mm_put (D := D) (C := n_Reg) (T := T_Reg) (N := 2) (v := .int (nI (n + 1))) (ty := .int) hx hb hts lay_Reg t_Reg ty_Reg nm_Reg hown hK.1 hP hS f4 rfl 1 (by decide) (hts _ (List.mem_cons_of_mem _ wd_32)) (fun _ h9 => h9) rfl (by decide +kernel) rfl rfl (Nat.le_of_ble_eq_true rfl) d_Reg_add_26 (fun H locs hP hz1 hS => ?_)
    have hz : H.size = sz := hz1.trans hz
    obtain ⟨w5, hw5⟩ : ∃ z : mm_M, z = mm_up w3 a (.inr (1, [.ref ar, .int (nI (n + 1))])) := ⟨_, rfl⟩
    have hP : mm_P B D kc w5 H := by rw [hw5]; exact hP
    have fr5 : ∀ j, j ≠ a → w5 j = w3 j := fun j h9 => by rw [hw5]; exact mm_un h9
    have fa5 : w5 a = some (.inr (1, [.ref ar, .int (nI (n + 1))])) := by rw [hw5]; exact mm_us _ _ _
    refine lv_aload_n hx hb d_Reg_add_29 rfl (lv_at hl 0 rfl) ?_
    refine mm_get (D := D) (C := n_Reg) (T := T_Reg) (N := 2) (v := .int (nI (n + 1))) hx hb hts lay_Reg hown hK.1 hP fa5 rfl 1 (by decide) (hts _ (List.mem_cons_of_mem _ wd_32)) (fun _ h9 => h9) rfl d_Reg_add_30 ?_
    refine lv_iconst (v := nI 1) hx hb d_Reg_add_33 (by decide) ?_
    refine lv_isub hx hb d_Reg_add_34 ?_
    refine kk_top (pk_sub (by omega)) ?_
    exact W.iret hx hb hr (fun t ht hW => ⟨⟨_, (w5, sz), rfl, ⟨rfl, mm_e2 fa5 ((fr5 _ hne0.symm).trans (fa3)) (fun j g0 g1 => (fr5 j g0).trans (fr3 j g1)), rfl⟩, by rw [ht]; exact hP, by rw [ht]; exact hz⟩, hS.F ht⟩) hS.2.2 d_Reg_add_35
  · have cc2 := kk_b1 cc2
    exact absurd cc2 (by omega)
end
section
theorem d_Mea_init_0 : decode k_Mea_init 0 = .ok (.aload_n 0, 1) := by decide +kernel
theorem d_Mea_init_1 : decode k_Mea_init 1 = .ok (.invokespecial 3, 3) := by decide +kernel
theorem d_Mea_init_4 : decode k_Mea_init 4 = .ok (.aload_n 0, 1) := by decide +kernel
theorem d_Mea_init_5 : decode k_Mea_init 5 = .ok (.sipush 256, 3) := by decide +kernel
theorem d_Mea_init_8 : decode k_Mea_init 8 = .ok (.newarray .int, 2) := by decide +kernel
theorem d_Mea_init_10 : decode k_Mea_init 10 = .ok (.putfield 9, 3) := by decide +kernel
theorem d_Mea_init_13 : decode k_Mea_init 13 = .ok (.return_, 1) := by decide +kernel
set_option maxHeartbeats 4000000 in
set_option maxRecDepth 100000 in
theorem c_Mea_init (l : Launch) {B : Nat} {D : va_G} {cI cZ cQ : ClassId} {w : mm_M} {sz : Nat} {a : Nat} (h_0 : w a = some (.inr (2, [.null]))) (hasz : a < sz) : Met l y_Mea_init ws_Mea_init (kk_rm 1 1 256) (kk_Pc B D cI cZ cQ [.ref a] w sz) (kk_Qv B D (fun w' sz' => w' = mm_up (mm_up w a (.inr (2, [.ref sz]))) sz (.inl (cI, 256, .inl (fun i => nI ((fun _ => 0) i)))) ∧ sz' = sz + 1)) 1 256 (fun q => B ≤ q) := by
  refine Met.ofW (cc := k_Mea_init) (maxL := 1) (ret := none) (by decide) rfl ?_
  intro p e s m args below meth c s₁ BB hml hv
  obtain ⟨rfl, hK, hP, hz, hBz⟩ := hv
  have hx := BB.exec
  have hb := BB.bytes
  have hr := BB.returns
  have hts := atoms_spec (ws := ws_Mea_init) BB.pre
  have hown : s.vm.findClass "DelegationClosure$Meanings" = some m.cls := findClass_of_methodNamed BB.named
  have hlocks := BB.notSynchronized
  have hin : meth.name = "<init>" := (name_of_methodNamed BB.named BB.method).1
  have hS : mm_S B s.heap s.heap [] := va_S.rf
  have hl := lv_entry ([.ref a]) (n := 1) (Nat.le_of_ble_eq_true rfl)
  rw [lg_entry_eq]
  generalize (lg_sl ([.ref a]) ++ List.replicate (1 - (lg_sl ([.ref a])).length) Slot.unset).toArray = ls at hl ⊢
  have hl : lv_has ls 1 [(0, .ref a)] := hl
  refine lv_aload_n hx hb d_Mea_init_0 rfl (lv_at hl 0 rfl) ?_
  refine W.objInit hx hb hown (hts _ (List.mem_cons_of_mem _ wd_46)) (hts _ (List.mem_cons_of_mem _ wd_21)) (hts _ (List.mem_cons_of_mem _ wd_objcode)) rfl (by rw [hml]; exact hl.1) rfl d_Mea_init_1 (Nat.le_of_ble_eq_true rfl) (Nat.le_of_ble_eq_true rfl) ?_
  refine W.eq (g2 := F0 m 4 ls []) rfl ?_
  refine lv_aload_n hx hb d_Mea_init_4 rfl (lv_at hl 0 rfl) ?_
  refine lv_sipush (v := nI 256) hx hb d_Mea_init_5 (by decide) ?_
  refine mm_newa (atype := .int) (cA := cI) (a0 := (256, .inl (fun i => nI ((fun _ => 0) i)))) (h := sz) hx hb (hts _ (List.mem_cons_of_mem _ wd_51)) (va_nm_int (hK.1.2 0 _ rfl).2) hP hS (fun _ => rfl) (by decide) (by decide +kernel) (by decide) (Nat.le_of_ble_eq_true rfl) (Nat.le_of_ble_eq_true rfl) hz (by omega) d_Mea_init_8 (fun H hP hz1 hS => ?_)
  have hz : H.size = sz + 1 := hz1
  obtain ⟨w1, hw1⟩ : ∃ z : mm_M, z = mm_up w sz (.inl (cI, 256, .inl (fun i => nI ((fun _ => 0) i)))) := ⟨_, rfl⟩
  have hP : mm_P B D kc w1 H := by rw [hw1]; exact hP
  have fr1 : ∀ j, j ≠ sz → w1 j = w j := fun j h9 => by rw [hw1]; exact mm_un h9
  have fa1 : w1 sz = some (.inl (cI, 256, .inl (fun i => nI ((fun _ => 0) i)))) := by rw [hw1]; exact mm_us _ _ _
  have f2 := (fr1 _ (by omega)).trans (h_0)
  refine mm_putF (D := D) (C := n_Mea) (T := T_Mea) (N := 1) (v := .ref sz) (ty := (.array .int)) hx hb hts lay_Mea t_Mea ty_Mea nm_Mea hown hK.1 hP hS f2 rfl 0 (by decide) (hts _ (List.mem_cons_of_mem _ wd_47)) (fun _ h9 => h9) rfl hin rfl (by decide +kernel) rfl rfl (Nat.le_of_ble_eq_true rfl) d_Mea_init_10 (fun H locs hP hz1 hS => ?_)
  have hz : H.size = sz + 1 := hz1.trans hz
  obtain ⟨w3, hw3⟩ : ∃ z : mm_M, z = mm_up w1 a (.inr (2, [.ref sz])) := ⟨_, rfl⟩
  have hP : mm_P B D kc w3 H := by rw [hw3]; exact hP
  have fr3 : ∀ j, j ≠ a → w3 j = w1 j := fun j h9 => by rw [hw3]; exact mm_un h9
  have fa3 : w3 a = some (.inr (2, [.ref sz])) := by rw [hw3]; exact mm_us _ _ _
  exact W.vret hx hb hr (fun t ht hW => ⟨⟨(w3, sz + 1), rfl, ⟨mm_e2 fa3 ((fr3 _ (by omega)).trans (fa1)) (fun j g0 g1 => (fr3 j g0).trans (fr1 j g1)), rfl⟩, by rw [ht]; exact hP, by rw [ht]; exact hz⟩, hS.F ht⟩) hS.2.2 d_Mea_init_13
theorem d_Led_init_0 : decode k_Led_init 0 = .ok (.aload_n 0, 1) := by decide +kernel
theorem d_Led_init_1 : decode k_Led_init 1 = .ok (.invokespecial 3, 3) := by decide +kernel
theorem d_Led_init_4 : decode k_Led_init 4 = .ok (.aload_n 0, 1) := by decide +kernel
theorem d_Led_init_5 : decode k_Led_init 5 = .ok (.bipush 24, 2) := by decide +kernel
theorem d_Led_init_7 : decode k_Led_init 7 = .ok (.newarray .boolean, 2) := by decide +kernel
theorem d_Led_init_9 : decode k_Led_init 9 = .ok (.putfield 9, 3) := by decide +kernel
theorem d_Led_init_12 : decode k_Led_init 12 = .ok (.aload_n 0, 1) := by decide +kernel
theorem d_Led_init_13 : decode k_Led_init 13 = .ok (.bipush 9, 2) := by decide +kernel
theorem d_Led_init_15 : decode k_Led_init 15 = .ok (.newarray .int, 2) := by decide +kernel
theorem d_Led_init_17 : decode k_Led_init 17 = .ok (.putfield 15, 3) := by decide +kernel
theorem d_Led_init_20 : decode k_Led_init 20 = .ok (.aload_n 0, 1) := by decide +kernel
theorem d_Led_init_21 : decode k_Led_init 21 = .ok (.iconst 3, 1) := by decide +kernel
theorem d_Led_init_22 : decode k_Led_init 22 = .ok (.newarray .int, 2) := by decide +kernel
theorem d_Led_init_24 : decode k_Led_init 24 = .ok (.putfield 19, 3) := by decide +kernel
theorem d_Led_init_27 : decode k_Led_init 27 = .ok (.return_, 1) := by decide +kernel
set_option maxHeartbeats 4000000 in
set_option maxRecDepth 100000 in
theorem c_Led_init (l : Launch) {B : Nat} {D : va_G} {cI cZ cQ : ClassId} {w : mm_M} {sz : Nat} {a : Nat} (h_0 : w a = some (.inr (3, [.null, .null, .null]))) (hasz : a < sz) : Met l y_Led_init ws_Led_init (kk_rm 1 3 36) (kk_Pc B D cI cZ cQ [.ref a] w sz) (kk_Qv B D (fun w' sz' => w' = mm_up (mm_up (mm_up (mm_up w a (.inr (3, [.ref sz, .ref (sz + 1), .ref (sz + 2)]))) sz (.inl (cZ, 24, .inl (fun i => nI ((fun _ => 0) i))))) (sz + 1) (.inl (cI, 9, .inl (fun i => nI ((fun _ => 0) i))))) (sz + 2) (.inl (cI, 3, .inl (fun i => nI ((fun _ => 0) i)))) ∧ sz' = sz + 3)) 3 36 (fun q => B ≤ q) := by
  refine Met.ofW (cc := k_Led_init) (maxL := 1) (ret := none) (by decide) rfl ?_
  intro p e s m args below meth c s₁ BB hml hv
  obtain ⟨rfl, hK, hP, hz, hBz⟩ := hv
  have hx := BB.exec
  have hb := BB.bytes
  have hr := BB.returns
  have hts := atoms_spec (ws := ws_Led_init) BB.pre
  have hown : s.vm.findClass "DelegationClosure$Leads" = some m.cls := findClass_of_methodNamed BB.named
  have hlocks := BB.notSynchronized
  have hin : meth.name = "<init>" := (name_of_methodNamed BB.named BB.method).1
  have hS : mm_S B s.heap s.heap [] := va_S.rf
  have hl := lv_entry ([.ref a]) (n := 1) (Nat.le_of_ble_eq_true rfl)
  rw [lg_entry_eq]
  generalize (lg_sl ([.ref a]) ++ List.replicate (1 - (lg_sl ([.ref a])).length) Slot.unset).toArray = ls at hl ⊢
  have hl : lv_has ls 1 [(0, .ref a)] := hl
  refine lv_aload_n hx hb d_Led_init_0 rfl (lv_at hl 0 rfl) ?_
  refine W.objInit hx hb hown (hts _ (List.mem_cons_of_mem _ wd_57)) (hts _ (List.mem_cons_of_mem _ wd_21)) (hts _ (List.mem_cons_of_mem _ wd_objcode)) rfl (by rw [hml]; exact hl.1) rfl d_Led_init_1 (Nat.le_of_ble_eq_true rfl) (Nat.le_of_ble_eq_true rfl) ?_
  refine W.eq (g2 := F0 m 4 ls []) rfl ?_
  refine lv_aload_n hx hb d_Led_init_4 rfl (lv_at hl 0 rfl) ?_
  refine lv_bipush (v := nI 24) hx hb d_Led_init_5 (by decide) ?_
  refine mm_newa (atype := .boolean) (cA := cZ) (a0 := (24, .inl (fun i => nI ((fun _ => 0) i)))) (h := sz) hx hb (hts _ (List.mem_cons_of_mem _ wd_68)) (va_nm_boolean (hK.1.2 1 _ rfl).2) hP hS (fun _ => rfl) (by decide) (by decide +kernel) (by decide) (Nat.le_of_ble_eq_true rfl) (Nat.le_of_ble_eq_true rfl) hz (by omega) d_Led_init_7 (fun H hP hz1 hS => ?_)
  have hz : H.size = sz + 1 := hz1
  obtain ⟨w1, hw1⟩ : ∃ z : mm_M, z = mm_up w sz (.inl (cZ, 24, .inl (fun i => nI ((fun _ => 0) i)))) := ⟨_, rfl⟩
  have hP : mm_P B D kc w1 H := by rw [hw1]; exact hP
  have fr1 : ∀ j, j ≠ sz → w1 j = w j := fun j h9 => by rw [hw1]; exact mm_un h9
  have fa1 : w1 sz = some (.inl (cZ, 24, .inl (fun i => nI ((fun _ => 0) i)))) := by rw [hw1]; exact mm_us _ _ _
  have f2 := (fr1 _ (by omega)).trans (h_0)
  refine mm_putF (D := D) (C := n_Led) (T := T_Led) (N := 3) (v := .ref sz) (ty := (.array .boolean)) hx hb hts lay_Led t_Led ty_Led nm_Led hown hK.1 hP hS f2 rfl 0 (by decide) (hts _ (List.mem_cons_of_mem _ wd_58)) (fun _ h9 => h9) rfl hin rfl (by decide +kernel) rfl rfl (Nat.le_of_ble_eq_true rfl) d_Led_init_9 (fun H locs hP hz1 hS => ?_)
  have hz : H.size = sz + 1 := hz1.trans hz
  obtain ⟨w3, hw3⟩ : ∃ z : mm_M, z = mm_up w1 a (.inr (3, [.ref sz, .null, .null])) := ⟨_, rfl⟩
  have hP : mm_P B D kc w3 H := by rw [hw3]; exact hP
  have fr3 : ∀ j, j ≠ a → w3 j = w1 j := fun j h9 => by rw [hw3]; exact mm_un h9
  have fa3 : w3 a = some (.inr (3, [.ref sz, .null, .null])) := by rw [hw3]; exact mm_us _ _ _
  refine lv_aload_n hx hb d_Led_init_12 rfl (lv_at hl 0 rfl) ?_
  refine lv_bipush (v := nI 9) hx hb d_Led_init_13 (by decide) ?_
  refine mm_newa (atype := .int) (cA := cI) (a0 := (9, .inl (fun i => nI ((fun _ => 0) i)))) (h := sz + 1) hx hb (hts _ (List.mem_cons_of_mem _ wd_51)) (va_nm_int (hK.1.2 0 _ rfl).2) hP hS (fun _ => rfl) (by decide) (by decide +kernel) (by decide) (Nat.le_of_ble_eq_true rfl) (Nat.le_of_ble_eq_true rfl) hz (by omega) d_Led_init_15 (fun H hP hz1 hS => ?_)
  have hz : H.size = sz + 2 := hz1
  obtain ⟨w4, hw4⟩ : ∃ z : mm_M, z = mm_up w3 (sz + 1) (.inl (cI, 9, .inl (fun i => nI ((fun _ => 0) i)))) := ⟨_, rfl⟩
  have hP : mm_P B D kc w4 H := by rw [hw4]; exact hP
  have fr4 : ∀ j, j ≠ sz + 1 → w4 j = w3 j := fun j h9 => by rw [hw4]; exact mm_un h9
  have fa4 : w4 (sz + 1) = some (.inl (cI, 9, .inl (fun i => nI ((fun _ => 0) i)))) := by rw [hw4]; exact mm_us _ _ _
  have f5 := (fr4 _ (by omega)).trans (fa3)
  refine mm_putF (D := D) (C := n_Led) (T := T_Led) (N := 3) (v := .ref (sz + 1)) (ty := (.array .int)) hx hb hts lay_Led t_Led ty_Led nm_Led hown hK.1 hP hS f5 rfl 1 (by decide) (hts _ (List.mem_cons_of_mem _ wd_59)) (fun _ h9 => h9) rfl hin rfl (by decide +kernel) rfl rfl (Nat.le_of_ble_eq_true rfl) d_Led_init_17 (fun H locs hP hz1 hS => ?_)
  have hz : H.size = sz + 2 := hz1.trans hz
  obtain ⟨w6, hw6⟩ : ∃ z : mm_M, z = mm_up w4 a (.inr (3, [.ref sz, .ref (sz + 1), .null])) := ⟨_, rfl⟩
  have hP : mm_P B D kc w6 H := by rw [hw6]; exact hP
  have fr6 : ∀ j, j ≠ a → w6 j = w4 j := fun j h9 => by rw [hw6]; exact mm_un h9
  have fa6 : w6 a = some (.inr (3, [.ref sz, .ref (sz + 1), .null])) := by rw [hw6]; exact mm_us _ _ _
  refine lv_aload_n hx hb d_Led_init_20 rfl (lv_at hl 0 rfl) ?_
  refine lv_iconst (v := nI 3) hx hb d_Led_init_21 (by decide) ?_
  refine mm_newa (atype := .int) (cA := cI) (a0 := (3, .inl (fun i => nI ((fun _ => 0) i)))) (h := sz + 2) hx hb (hts _ (List.mem_cons_of_mem _ wd_51)) (va_nm_int (hK.1.2 0 _ rfl).2) hP hS (fun _ => rfl) (by decide) (by decide +kernel) (by decide) (Nat.le_of_ble_eq_true rfl) (Nat.le_of_ble_eq_true rfl) hz (by omega) d_Led_init_22 (fun H hP hz1 hS => ?_)
  have hz : H.size = sz + 3 := hz1
  obtain ⟨w7, hw7⟩ : ∃ z : mm_M, z = mm_up w6 (sz + 2) (.inl (cI, 3, .inl (fun i => nI ((fun _ => 0) i)))) := ⟨_, rfl⟩
  have hP : mm_P B D kc w7 H := by rw [hw7]; exact hP
  have fr7 : ∀ j, j ≠ sz + 2 → w7 j = w6 j := fun j h9 => by rw [hw7]; exact mm_un h9
  have fa7 : w7 (sz + 2) = some (.inl (cI, 3, .inl (fun i => nI ((fun _ => 0) i)))) := by rw [hw7]; exact mm_us _ _ _
  have f8 := (fr7 _ (by omega)).trans (fa6)
  refine mm_putF (D := D) (C := n_Led) (T := T_Led) (N := 3) (v := .ref (sz + 2)) (ty := (.array .int)) hx hb hts lay_Led t_Led ty_Led nm_Led hown hK.1 hP hS f8 rfl 2 (by decide) (hts _ (List.mem_cons_of_mem _ wd_60)) (fun _ h9 => h9) rfl hin rfl (by decide +kernel) rfl rfl (Nat.le_of_ble_eq_true rfl) d_Led_init_24 (fun H locs hP hz1 hS => ?_)
  have hz : H.size = sz + 3 := hz1.trans hz
  obtain ⟨w9, hw9⟩ : ∃ z : mm_M, z = mm_up w7 a (.inr (3, [.ref sz, .ref (sz + 1), .ref (sz + 2)])) := ⟨_, rfl⟩
  have hP : mm_P B D kc w9 H := by rw [hw9]; exact hP
  have fr9 : ∀ j, j ≠ a → w9 j = w7 j := fun j h9 => by rw [hw9]; exact mm_un h9
  have fa9 : w9 a = some (.inr (3, [.ref sz, .ref (sz + 1), .ref (sz + 2)])) := by rw [hw9]; exact mm_us _ _ _
  exact W.vret hx hb hr (fun t ht hW => ⟨⟨(w9, sz + 3), rfl, ⟨mm_e4 fa9 ((fr9 _ (by omega)).trans ((fr7 _ (by omega)).trans ((fr6 _ (by omega)).trans ((fr4 _ (by omega)).trans ((fr3 _ (by omega)).trans (fa1)))))) ((fr9 _ (by omega)).trans ((fr7 _ (by omega)).trans ((fr6 _ (by omega)).trans (fa4)))) ((fr9 _ (by omega)).trans (fa7)) (fun j g0 g1 g2 g3 => (fr9 j g0).trans ((fr7 j g3).trans ((fr6 j g0).trans ((fr4 j g2).trans ((fr3 j g0).trans (fr1 j g1)))))), rfl⟩, by rw [ht]; exact hP, by rw [ht]; exact hz⟩, hS.F ht⟩) hS.2.2 d_Led_init_27
theorem d_Chn_init_0 : decode k_Chn_init 0 = .ok (.aload_n 0, 1) := by decide +kernel
theorem d_Chn_init_1 : decode k_Chn_init 1 = .ok (.invokespecial 3, 3) := by decide +kernel
theorem d_Chn_init_4 : decode k_Chn_init 4 = .ok (.aload_n 0, 1) := by decide +kernel
theorem d_Chn_init_5 : decode k_Chn_init 5 = .ok (.iconst 0, 1) := by decide +kernel
theorem d_Chn_init_6 : decode k_Chn_init 6 = .ok (.putfield 9, 3) := by decide +kernel
theorem d_Chn_init_9 : decode k_Chn_init 9 = .ok (.aload_n 0, 1) := by decide +kernel
theorem d_Chn_init_10 : decode k_Chn_init 10 = .ok (.iconst 4, 1) := by decide +kernel
theorem d_Chn_init_11 : decode k_Chn_init 11 = .ok (.newarray .int, 2) := by decide +kernel
theorem d_Chn_init_13 : decode k_Chn_init 13 = .ok (.putfield 15, 3) := by decide +kernel
theorem d_Chn_init_16 : decode k_Chn_init 16 = .ok (.aload_n 0, 1) := by decide +kernel
theorem d_Chn_init_17 : decode k_Chn_init 17 = .ok (.iconst 0, 1) := by decide +kernel
theorem d_Chn_init_18 : decode k_Chn_init 18 = .ok (.putfield 19, 3) := by decide +kernel
theorem d_Chn_init_21 : decode k_Chn_init 21 = .ok (.aload_n 0, 1) := by decide +kernel
theorem d_Chn_init_22 : decode k_Chn_init 22 = .ok (.new 22, 3) := by decide +kernel
theorem d_Chn_init_25 : decode k_Chn_init 25 = .ok (.dup, 1) := by decide +kernel
theorem d_Chn_init_26 : decode k_Chn_init 26 = .ok (.invokespecial 24, 3) := by decide +kernel
theorem d_Chn_init_29 : decode k_Chn_init 29 = .ok (.putfield 25, 3) := by decide +kernel
theorem d_Chn_init_32 : decode k_Chn_init 32 = .ok (.aload_n 0, 1) := by decide +kernel
theorem d_Chn_init_33 : decode k_Chn_init 33 = .ok (.new 29, 3) := by decide +kernel
theorem d_Chn_init_36 : decode k_Chn_init 36 = .ok (.dup, 1) := by decide +kernel
theorem d_Chn_init_37 : decode k_Chn_init 37 = .ok (.iconst 0, 1) := by decide +kernel
theorem d_Chn_init_38 : decode k_Chn_init 38 = .ok (.iconst 0, 1) := by decide +kernel
theorem d_Chn_init_39 : decode k_Chn_init 39 = .ok (.invokespecial 31, 3) := by decide +kernel
theorem d_Chn_init_42 : decode k_Chn_init 42 = .ok (.putfield 34, 3) := by decide +kernel
theorem d_Chn_init_45 : decode k_Chn_init 45 = .ok (.aload_n 0, 1) := by decide +kernel
theorem d_Chn_init_46 : decode k_Chn_init 46 = .ok (.iconst 0, 1) := by decide +kernel
theorem d_Chn_init_47 : decode k_Chn_init 47 = .ok (.putfield 38, 3) := by decide +kernel
theorem d_Chn_init_50 : decode k_Chn_init 50 = .ok (.aload_n 0, 1) := by decide +kernel
theorem d_Chn_init_51 : decode k_Chn_init 51 = .ok (.iconst 0, 1) := by decide +kernel
theorem d_Chn_init_52 : decode k_Chn_init 52 = .ok (.putfield 41, 3) := by decide +kernel
theorem d_Chn_init_55 : decode k_Chn_init 55 = .ok (.return_, 1) := by decide +kernel
set_option maxHeartbeats 4000000 in
set_option maxRecDepth 100000 in
theorem c_Chn_init (l : Launch) {B : Nat} {D : va_G} {cI cZ cQ : ClassId} {w : mm_M} {sz : Nat} {a : Nat} (h_0 : w a = some (.inr (4, [.int 0, .null, .int 0, .null, .null, .int 0, .int 0]))) (hasz : a < sz) : Met l y_Chn_init ws_Chn_init (kk_rm 3 4 10) (kk_Pc B D cI cZ cQ [.ref a] w sz) (kk_Qv B D (fun w' sz' => w' = mm_up (mm_up (mm_up (mm_up (mm_up w a (.inr (4, [.int (nI 0), .ref sz, .int (nI 0), .ref (sz + 1), .ref (sz + 3), .int (nI 0), .int (nI 0)]))) sz (.inl (cI, 4, .inl (fun i => nI ((fun _ => 0) i))))) (sz + 1) (.inr (5, [.int (nI 255), .ref (sz + 2)]))) (sz + 2) (.inr (6, [.int (-2147483648), .int 2147483647]))) (sz + 3) (.inr (6, [.int (nI 0), .int (nI 0)])) ∧ sz' = sz + 4)) 4 10 (fun q => B ≤ q) := by
  refine Met.ofW (cc := k_Chn_init) (maxL := 1) (ret := none) (by decide) rfl ?_
  intro p e s m args below meth c s₁ BB hml hv
  obtain ⟨rfl, hK, hP, hz, hBz⟩ := hv
  have hx := BB.exec
  have hb := BB.bytes
  have hr := BB.returns
  have hts := atoms_spec (ws := ws_Chn_init) BB.pre
  have hown : s.vm.findClass "DelegationClosure$Chain" = some m.cls := findClass_of_methodNamed BB.named
  have hlocks := BB.notSynchronized
  have hin : meth.name = "<init>" := (name_of_methodNamed BB.named BB.method).1
  have hS : mm_S B s.heap s.heap [] := va_S.rf
  have hl := lv_entry ([.ref a]) (n := 1) (Nat.le_of_ble_eq_true rfl)
  rw [lg_entry_eq]
  generalize (lg_sl ([.ref a]) ++ List.replicate (1 - (lg_sl ([.ref a])).length) Slot.unset).toArray = ls at hl ⊢
  have hl : lv_has ls 1 [(0, .ref a)] := hl
  refine lv_aload_n hx hb d_Chn_init_0 rfl (lv_at hl 0 rfl) ?_
  refine W.objInit hx hb hown (hts _ (List.mem_cons_of_mem _ wd_74)) (hts _ (List.mem_cons_of_mem _ wd_21)) (hts _ (List.mem_cons_of_mem _ wd_objcode)) rfl (by rw [hml]; exact hl.1) rfl d_Chn_init_1 (Nat.le_of_ble_eq_true rfl) (Nat.le_of_ble_eq_true rfl) ?_
  refine W.eq (g2 := F0 m 4 ls []) rfl ?_
  refine lv_aload_n hx hb d_Chn_init_4 rfl (lv_at hl 0 rfl) ?_
  refine lv_iconst (v := nI 0) hx hb d_Chn_init_5 (by decide) ?_
  refine mm_put (D := D) (C := n_Chn) (T := T_Chn) (N := 7) (v := .int (nI 0)) (ty := .int) hx hb hts lay_Chn t_Chn ty_Chn nm_Chn hown hK.1 hP hS h_0 rfl 0 (by decide) (hts _ (List.mem_cons_of_mem _ wd_105)) (fun _ h9 => h9) rfl (by decide +kernel) rfl rfl (Nat.le_of_ble_eq_true rfl) d_Chn_init_6 (fun H locs hP hz1 hS => ?_)
  have hz : H.size = sz := hz1.trans hz
  obtain ⟨w1, hw1⟩ : ∃ z : mm_M, z = mm_up w a (.inr (4, [.int (nI 0), .null, .int 0, .null, .null, .int 0, .int 0])) := ⟨_, rfl⟩
  have hP : mm_P B D kc w1 H := by rw [hw1]; exact hP
  have fr1 : ∀ j, j ≠ a → w1 j = w j := fun j h9 => by rw [hw1]; exact mm_un h9
  have fa1 : w1 a = some (.inr (4, [.int (nI 0), .null, .int 0, .null, .null, .int 0, .int 0])) := by rw [hw1]; exact mm_us _ _ _
  refine lv_aload_n hx hb d_Chn_init_9 rfl (lv_at hl 0 rfl) ?_
  refine lv_iconst (v := nI 4) hx hb d_Chn_init_10 (by decide) ?_
  refine mm_newa (atype := .int) (cA := cI) (a0 := (4, .inl (fun i => nI ((fun _ => 0) i)))) (h := sz) hx hb (hts _ (List.mem_cons_of_mem _ wd_51)) (va_nm_int (hK.1.2 0 _ rfl).2) hP hS (fun _ => rfl) (by decide) (by decide +kernel) (by decide) (Nat.le_of_ble_eq_true rfl) (Nat.le_of_ble_eq_true rfl) hz (by omega) d_Chn_init_11 (fun H hP hz1 hS => ?_)
  have hz : H.size = sz + 1 := hz1
  obtain ⟨w2, hw2⟩ : ∃ z : mm_M, z = mm_up w1 sz (.inl (cI, 4, .inl (fun i => nI ((fun _ => 0) i)))) := ⟨_, rfl⟩
  have hP : mm_P B D kc w2 H := by rw [hw2]; exact hP
  have fr2 : ∀ j, j ≠ sz → w2 j = w1 j := fun j h9 => by rw [hw2]; exact mm_un h9
  have fa2 : w2 sz = some (.inl (cI, 4, .inl (fun i => nI ((fun _ => 0) i)))) := by rw [hw2]; exact mm_us _ _ _
  have f3 := (fr2 _ (by omega)).trans (fa1)
  refine mm_putF (D := D) (C := n_Chn) (T := T_Chn) (N := 7) (v := .ref sz) (ty := (.array .int)) hx hb hts lay_Chn t_Chn ty_Chn nm_Chn hown hK.1 hP hS f3 rfl 1 (by decide) (hts _ (List.mem_cons_of_mem _ wd_107)) (fun _ h9 => h9) rfl hin rfl (by decide +kernel) rfl rfl (Nat.le_of_ble_eq_true rfl) d_Chn_init_13 (fun H locs hP hz1 hS => ?_)
  have hz : H.size = sz + 1 := hz1.trans hz
  obtain ⟨w4, hw4⟩ : ∃ z : mm_M, z = mm_up w2 a (.inr (4, [.int (nI 0), .ref sz, .int 0, .null, .null, .int 0, .int 0])) := ⟨_, rfl⟩
  have hP : mm_P B D kc w4 H := by rw [hw4]; exact hP
  have fr4 : ∀ j, j ≠ a → w4 j = w2 j := fun j h9 => by rw [hw4]; exact mm_un h9
  have fa4 : w4 a = some (.inr (4, [.int (nI 0), .ref sz, .int 0, .null, .null, .int 0, .int 0])) := by rw [hw4]; exact mm_us _ _ _
  refine lv_aload_n hx hb d_Chn_init_16 rfl (lv_at hl 0 rfl) ?_
  refine lv_iconst (v := nI 0) hx hb d_Chn_init_17 (by decide) ?_
  refine mm_put (D := D) (C := n_Chn) (T := T_Chn) (N := 7) (v := .int (nI 0)) (ty := .int) hx hb hts lay_Chn t_Chn ty_Chn nm_Chn hown hK.1 hP hS fa4 rfl 2 (by decide) (hts _ (List.mem_cons_of_mem _ wd_109)) (fun _ h9 => h9) rfl (by decide +kernel) rfl rfl (Nat.le_of_ble_eq_true rfl) d_Chn_init_18 (fun H locs hP hz1 hS => ?_)
  have hz : H.size = sz + 1 := hz1.trans hz
  obtain ⟨w5, hw5⟩ : ∃ z : mm_M, z = mm_up w4 a (.inr (4, [.int (nI 0), .ref sz, .int (nI 0), .null, .null, .int 0, .int 0])) := ⟨_, rfl⟩
  have hP : mm_P B D kc w5 H := by rw [hw5]; exact hP
  have fr5 : ∀ j, j ≠ a → w5 j = w4 j := fun j h9 => by rw [hw5]; exact mm_un h9
  have fa5 : w5 a = some (.inr (4, [.int (nI 0), .ref sz, .int (nI 0), .null, .null, .int 0, .int 0])) := by rw [hw5]; exact mm_us _ _ _
  refine lv_aload_n hx hb d_Chn_init_21 rfl (lv_at hl 0 rfl) ?_
  refine mm_new (D := D) (C := n_Tag) (T := T_Tag) (N := 2) (ci := 5) (fs := [.int 0, .null]) (h := sz + 1) hx hb hts lay_Tag t_Tag ty_Tag hown (hts _ (List.mem_cons_of_mem _ wd_75)) (hts _ (List.mem_cons_of_mem _ wd_76)) (hts _ (List.mem_cons_of_mem _ wd_6)) hK.1 hP hS rfl def_Tag (Nat.le_of_ble_eq_true rfl) (Nat.le_of_ble_eq_true rfl) hz (by omega) d_Chn_init_22 (fun H hP hz1 hS => ?_)
  have hz : H.size = sz + 2 := hz1
  obtain ⟨w6, hw6⟩ : ∃ z : mm_M, z = mm_up w5 (sz + 1) (.inr (5, [.int 0, .null])) := ⟨_, rfl⟩
  have hP : mm_P B D kc w6 H := by rw [hw6]; exact hP
  have fr6 : ∀ j, j ≠ sz + 1 → w6 j = w5 j := fun j h9 => by rw [hw6]; exact mm_un h9
  have fa6 : w6 (sz + 1) = some (.inr (5, [.int 0, .null])) := by rw [hw6]; exact mm_us _ _ _
  refine lv_dup hx hb d_Chn_init_25 rfl ?_
  refine kk_callv (va_runIN (As := []) (rest := [.ref (sz + 1), .ref a]) ⟨hx, hb, hml, hown, hts⟩ (c_Tag_init l fa6 (by omega)) ⟨va_cnB 0 hts (gW_in (hd := [_]) (kk_1 cw_Tag_init)) rfl rfl rfl (hK.2.1 _ nw_77 rfl) (hts _ (List.mem_cons_of_mem _ wd_6)) ds_Tag_init ⟨Nat.le_of_ble_eq_true rfl, Nat.le_of_ble_eq_true rfl⟩, rfl, (hts _ (List.mem_cons_of_mem _ wd_78))⟩ (kk_preS hK hP hz (by omega)) rfl rfl hl.1 rfl (lv_room (Nat.le_of_ble_eq_true rfl)) d_Chn_init_26 ⟨Nat.le_of_ble_eq_true rfl, Nat.le_of_ble_eq_true rfl⟩) hS (fun w7 sz7 H locs hp7 hP hz hS => ?_)
  obtain ⟨he7, hs7⟩ := hp7
  have hz : H.size = sz + 3 := hz.trans hs7
  have hw8 : w7 = mm_up (mm_up w6 (sz + 1) (.inr (5, [.int (nI 255), .ref (sz + 2)]))) (sz + 2) (.inr (6, [.int (-2147483648), .int 2147483647])) := he7
  have fr8 : ∀ j, j ≠ sz + 1 → j ≠ sz + 2 → w7 j = w6 j := fun j h90 h91 => by rw [hw8]; exact (mm_un h91).trans (mm_un h90)
  have fa8_0 : w7 (sz + 1) = some (.inr (5, [.int (nI 255), .ref (sz + 2)])) := by rw [hw8]; exact (mm_un (by omega)).trans (mm_us _ _ _)
  have fa8_1 : w7 (sz + 2) = some (.inr (6, [.int (-2147483648), .int 2147483647])) := by rw [hw8]; exact mm_us _ _ _
  have f9 := (fr8 _ (by omega) (by omega)).trans ((fr6 _ (by omega)).trans (fa5))
  refine mm_putF (D := D) (C := n_Chn) (T := T_Chn) (N := 7) (v := .ref (sz + 1)) (ty := (.object "DelegationClosure$Tag")) hx hb hts lay_Chn t_Chn ty_Chn nm_Chn hown hK.1 hP hS f9 rfl 3 (by decide) (hts _ (List.mem_cons_of_mem _ wd_111)) (fun _ h9 => h9) rfl hin rfl (by decide +kernel) rfl rfl (Nat.le_of_ble_eq_true rfl) d_Chn_init_29 (fun H locs hP hz1 hS => ?_)
  have hz : H.size = sz + 3 := hz1.trans hz
  obtain ⟨w10, hw10⟩ : ∃ z : mm_M, z = mm_up w7 a (.inr (4, [.int (nI 0), .ref sz, .int (nI 0), .ref (sz + 1), .null, .int 0, .int 0])) := ⟨_, rfl⟩
  have hP : mm_P B D kc w10 H := by rw [hw10]; exact hP
  have fr10 : ∀ j, j ≠ a → w10 j = w7 j := fun j h9 => by rw [hw10]; exact mm_un h9
  have fa10 : w10 a = some (.inr (4, [.int (nI 0), .ref sz, .int (nI 0), .ref (sz + 1), .null, .int 0, .int 0])) := by rw [hw10]; exact mm_us _ _ _
  refine lv_aload_n hx hb d_Chn_init_32 rfl (lv_at hl 0 rfl) ?_
  refine mm_new (D := D) (C := n_Spn) (T := T_Spn) (N := 2) (ci := 6) (fs := [.int 0, .int 0]) (h := sz + 3) hx hb hts lay_Spn t_Spn ty_Spn hown (hts _ (List.mem_cons_of_mem _ wd_103)) (hts _ (List.mem_cons_of_mem _ wd_82)) (hts _ (List.mem_cons_of_mem _ wd_7)) hK.1 hP hS rfl def_Spn (Nat.le_of_ble_eq_true rfl) (Nat.le_of_ble_eq_true rfl) hz (by omega) d_Chn_init_33 (fun H hP hz1 hS => ?_)
  have hz : H.size = sz + 4 := hz1
  obtain ⟨w11, hw11⟩ : ∃ z : mm_M, z = mm_up w10 (sz + 3) (.inr (6, [.int 0, .int 0])) := ⟨_, rfl⟩
  have hP : mm_P B D kc w11 H := by rw [hw11]; exact hP
  have fr11 : ∀ j, j ≠ sz + 3 → w11 j = w10 j := fun j h9 => by rw [hw11]; exact mm_un h9
  have fa11 : w11 (sz + 3) = some (.inr (6, [.int 0, .int 0])) := by rw [hw11]; exact mm_us _ _ _
  refine lv_dup hx hb d_Chn_init_36 rfl ?_
  refine lv_iconst (v := nI 0) hx hb d_Chn_init_37 (by decide) ?_
  refine lv_iconst (v := nI 0) hx hb d_Chn_init_38 (by decide) ?_
  refine kk_callv (va_runI (As := [.int (nI 0), .int (nI 0)]) (rest := [.ref (sz + 3), .ref a]) ⟨hx, hb, hml, hown, hts⟩ (c_Spn_init l fa11) (cwI 2 hts (gW_in (hd := [_]) (kk_1 cw_Spn_init)) rfl rfl rfl (hts _ (List.mem_cons_of_mem _ wd_7)) (hts _ (List.mem_cons_of_mem _ wd_104)) (hts _ (List.mem_cons_of_mem _ wd_86)) rfl ds_Spn_init ⟨Nat.le_of_ble_eq_true rfl, Nat.le_of_ble_eq_true rfl⟩) (kk_preS hK hP hz (by omega)) rfl rfl hl.1 rfl (lv_room (Nat.le_of_ble_eq_true rfl)) d_Chn_init_39 ⟨Nat.le_of_ble_eq_true rfl, Nat.le_of_ble_eq_true rfl⟩) hS (fun w12 sz12 H locs hp12 hP hz hS => ?_)
  obtain ⟨he12, hs12⟩ := hp12
  have hz : H.size = sz + 4 := hz.trans hs12
  have hw13 : w12 = mm_up w11 (sz + 3) (.inr (6, [.int (nI 0), .int (nI 0)])) := he12
  have fr13 : ∀ j, j ≠ sz + 3 → w12 j = w11 j := fun j h90 => by rw [hw13]; exact mm_un h90
  have fa13_0 : w12 (sz + 3) = some (.inr (6, [.int (nI 0), .int (nI 0)])) := by rw [hw13]; exact mm_us _ _ _
  have f14 := (fr13 _ (by omega)).trans ((fr11 _ (by omega)).trans (fa10))
  refine mm_putF (D := D) (C := n_Chn) (T := T_Chn) (N := 7) (v := .ref (sz + 3)) (ty := (.object "DelegationClosure$Span")) hx hb hts lay_Chn t_Chn ty_Chn nm_Chn hown hK.1 hP hS f14 rfl 4 (by decide) (hts _ (List.mem_cons_of_mem _ wd_112)) (fun _ h9 => h9) rfl hin rfl (by decide +kernel) rfl rfl (Nat.le_of_ble_eq_true rfl) d_Chn_init_42 (fun H locs hP hz1 hS => ?_)
  have hz : H.size = sz + 4 := hz1.trans hz
  obtain ⟨w15, hw15⟩ : ∃ z : mm_M, z = mm_up w12 a (.inr (4, [.int (nI 0), .ref sz, .int (nI 0), .ref (sz + 1), .ref (sz + 3), .int 0, .int 0])) := ⟨_, rfl⟩
  have hP : mm_P B D kc w15 H := by rw [hw15]; exact hP
  have fr15 : ∀ j, j ≠ a → w15 j = w12 j := fun j h9 => by rw [hw15]; exact mm_un h9
  have fa15 : w15 a = some (.inr (4, [.int (nI 0), .ref sz, .int (nI 0), .ref (sz + 1), .ref (sz + 3), .int 0, .int 0])) := by rw [hw15]; exact mm_us _ _ _
  refine lv_aload_n hx hb d_Chn_init_45 rfl (lv_at hl 0 rfl) ?_
  refine lv_iconst (v := nI 0) hx hb d_Chn_init_46 (by decide) ?_
  refine mm_put (D := D) (C := n_Chn) (T := T_Chn) (N := 7) (v := .int (nI 0)) (ty := .int) hx hb hts lay_Chn t_Chn ty_Chn nm_Chn hown hK.1 hP hS fa15 rfl 5 (by decide) (hts _ (List.mem_cons_of_mem _ wd_113)) (fun _ h9 => h9) rfl (by decide +kernel) rfl rfl (Nat.le_of_ble_eq_true rfl) d_Chn_init_47 (fun H locs hP hz1 hS => ?_)
  have hz : H.size = sz + 4 := hz1.trans hz
  obtain ⟨w16, hw16⟩ : ∃ z : mm_M, z = mm_up w15 a (.inr (4, [.int (nI 0), .ref sz, .int (nI 0), .ref (sz + 1), .ref (sz + 3), .int (nI 0), .int 0])) := ⟨_, rfl⟩
  have hP : mm_P B D kc w16 H := by rw [hw16]; exact hP
  have fr16 : ∀ j, j ≠ a → w16 j = w15 j := fun j h9 => by rw [hw16]; exact mm_un h9
  have fa16 : w16 a = some (.inr (4, [.int (nI 0), .ref sz, .int (nI 0), .ref (sz + 1), .ref (sz + 3), .int (nI 0), .int 0])) := by rw [hw16]; exact mm_us _ _ _
  refine lv_aload_n hx hb d_Chn_init_50 rfl (lv_at hl 0 rfl) ?_
  refine lv_iconst (v := nI 0) hx hb d_Chn_init_51 (by decide) ?_
  refine mm_put (D := D) (C := n_Chn) (T := T_Chn) (N := 7) (v := .int (nI 0)) (ty := .boolean) hx hb hts lay_Chn t_Chn ty_Chn nm_Chn hown hK.1 hP hS fa16 rfl 6 (by decide) (hts _ (List.mem_cons_of_mem _ wd_115)) (fun _ h9 => h9) rfl (by decide +kernel) rfl rfl (Nat.le_of_ble_eq_true rfl) d_Chn_init_52 (fun H locs hP hz1 hS => ?_)
  have hz : H.size = sz + 4 := hz1.trans hz
  obtain ⟨w17, hw17⟩ : ∃ z : mm_M, z = mm_up w16 a (.inr (4, [.int (nI 0), .ref sz, .int (nI 0), .ref (sz + 1), .ref (sz + 3), .int (nI 0), .int (nI 0)])) := ⟨_, rfl⟩
  have hP : mm_P B D kc w17 H := by rw [hw17]; exact hP
  have fr17 : ∀ j, j ≠ a → w17 j = w16 j := fun j h9 => by rw [hw17]; exact mm_un h9
  have fa17 : w17 a = some (.inr (4, [.int (nI 0), .ref sz, .int (nI 0), .ref (sz + 1), .ref (sz + 3), .int (nI 0), .int (nI 0)])) := by rw [hw17]; exact mm_us _ _ _
  exact W.vret hx hb hr (fun t ht hW => ⟨⟨(w17, sz + 4), rfl, ⟨mm_e5 fa17 ((fr17 _ (by omega)).trans ((fr16 _ (by omega)).trans ((fr15 _ (by omega)).trans ((fr13 _ (by omega)).trans ((fr11 _ (by omega)).trans ((fr10 _ (by omega)).trans ((fr8 _ (by omega) (by omega)).trans ((fr6 _ (by omega)).trans ((fr5 _ (by omega)).trans ((fr4 _ (by omega)).trans (fa2))))))))))) ((fr17 _ (by omega)).trans ((fr16 _ (by omega)).trans ((fr15 _ (by omega)).trans ((fr13 _ (by omega)).trans ((fr11 _ (by omega)).trans ((fr10 _ (by omega)).trans (fa8_0))))))) ((fr17 _ (by omega)).trans ((fr16 _ (by omega)).trans ((fr15 _ (by omega)).trans ((fr13 _ (by omega)).trans ((fr11 _ (by omega)).trans ((fr10 _ (by omega)).trans (fa8_1))))))) ((fr17 _ (by omega)).trans ((fr16 _ (by omega)).trans ((fr15 _ (by omega)).trans (fa13_0)))) (fun j g0 g1 g2 g3 g4 => (fr17 j g0).trans ((fr16 j g0).trans ((fr15 j g0).trans ((fr13 j g4).trans ((fr11 j g4).trans ((fr10 j g0).trans ((fr8 j g2 g3).trans ((fr6 j g2).trans ((fr5 j g0).trans ((fr4 j g0).trans ((fr2 j g1).trans (fr1 j g0)))))))))))), rfl⟩, by rw [ht]; exact hP, by rw [ht]; exact hz⟩, hS.F ht⟩) hS.2.2 d_Chn_init_55
theorem d_X_init_0 : decode k_X_init 0 = .ok (.aload_n 0, 1) := by decide +kernel
theorem d_X_init_1 : decode k_X_init 1 = .ok (.invokespecial 3, 3) := by decide +kernel
theorem d_X_init_4 : decode k_X_init 4 = .ok (.aload_n 0, 1) := by decide +kernel
theorem d_X_init_5 : decode k_X_init 5 = .ok (.new 9, 3) := by decide +kernel
theorem d_X_init_8 : decode k_X_init 8 = .ok (.dup, 1) := by decide +kernel
theorem d_X_init_9 : decode k_X_init 9 = .ok (.invokespecial 11, 3) := by decide +kernel
theorem d_X_init_12 : decode k_X_init 12 = .ok (.putfield 12, 3) := by decide +kernel
theorem d_X_init_15 : decode k_X_init 15 = .ok (.aload_n 0, 1) := by decide +kernel
theorem d_X_init_16 : decode k_X_init 16 = .ok (.new 16, 3) := by decide +kernel
theorem d_X_init_19 : decode k_X_init 19 = .ok (.dup, 1) := by decide +kernel
theorem d_X_init_20 : decode k_X_init 20 = .ok (.invokespecial 18, 3) := by decide +kernel
theorem d_X_init_23 : decode k_X_init 23 = .ok (.putfield 19, 3) := by decide +kernel
theorem d_X_init_26 : decode k_X_init 26 = .ok (.aload_n 0, 1) := by decide +kernel
theorem d_X_init_27 : decode k_X_init 27 = .ok (.new 23, 3) := by decide +kernel
theorem d_X_init_30 : decode k_X_init 30 = .ok (.dup, 1) := by decide +kernel
theorem d_X_init_31 : decode k_X_init 31 = .ok (.invokespecial 25, 3) := by decide +kernel
theorem d_X_init_34 : decode k_X_init 34 = .ok (.putfield 26, 3) := by decide +kernel
theorem d_X_init_37 : decode k_X_init 37 = .ok (.aload_n 0, 1) := by decide +kernel
theorem d_X_init_38 : decode k_X_init 38 = .ok (.new 30, 3) := by decide +kernel
theorem d_X_init_41 : decode k_X_init 41 = .ok (.dup, 1) := by decide +kernel
theorem d_X_init_42 : decode k_X_init 42 = .ok (.invokespecial 32, 3) := by decide +kernel
theorem d_X_init_45 : decode k_X_init 45 = .ok (.putfield 33, 3) := by decide +kernel
theorem d_X_init_48 : decode k_X_init 48 = .ok (.return_, 1) := by decide +kernel
set_option maxHeartbeats 4000000 in
set_option maxRecDepth 100000 in
theorem c_X_init (l : Launch) {B : Nat} {D : va_G} {cI cZ cQ : ClassId} {w : mm_M} {sz : Nat} {a : Nat} (h_0 : w a = some (.inr (0, [.null, .null, .null, .null]))) (hasz : a < sz) : Met l y_X_init ws_X_init (kk_rm 4 13 339) (kk_Pc B D cI cZ cQ [.ref a] w sz) (kk_Qv B D (fun w' sz' => w' = mm_up (mm_up (mm_up (mm_up (mm_up (mm_up (mm_up (mm_up (mm_up (mm_up (mm_up (mm_up (mm_up (mm_up w a (.inr (0, [.ref sz, .ref (sz + 2), .ref (sz + 4), .ref (sz + 8)]))) sz (.inr (1, [.ref (sz + 1), .int (nI 0)]))) (sz + 1) (.inl (cQ, 24, .inr (.inr (.inr (.inr (fun _ => none))))))) (sz + 2) (.inr (2, [.ref (sz + 3)]))) (sz + 3) (.inl (cI, 256, .inl (fun i => nI ((fun _ => 0) i))))) (sz + 4) (.inr (3, [.ref (sz + 5), .ref (sz + 6), .ref (sz + 7)]))) (sz + 5) (.inl (cZ, 24, .inl (fun i => nI ((fun _ => 0) i))))) (sz + 6) (.inl (cI, 9, .inl (fun i => nI ((fun _ => 0) i))))) (sz + 7) (.inl (cI, 3, .inl (fun i => nI ((fun _ => 0) i))))) (sz + 8) (.inr (4, [.int (nI 0), .ref (sz + 9), .int (nI 0), .ref (sz + 10), .ref (sz + 12), .int (nI 0), .int (nI 0)]))) (sz + 9) (.inl (cI, 4, .inl (fun i => nI ((fun _ => 0) i))))) (sz + 10) (.inr (5, [.int (nI 255), .ref (sz + 11)]))) (sz + 11) (.inr (6, [.int (-2147483648), .int 2147483647]))) (sz + 12) (.inr (6, [.int (nI 0), .int (nI 0)])) ∧ sz' = sz + 13)) 13 339 (fun q => B ≤ q) := by
  refine Met.ofW (cc := k_X_init) (maxL := 1) (ret := none) (by decide) rfl ?_
  intro p e s m args below meth c s₁ BB hml hv
  obtain ⟨rfl, hK, hP, hz, hBz⟩ := hv
  have hx := BB.exec
  have hb := BB.bytes
  have hr := BB.returns
  have hts := atoms_spec (ws := ws_X_init) BB.pre
  have hown : s.vm.findClass "DelegationClosure" = some m.cls := findClass_of_methodNamed BB.named
  have hlocks := BB.notSynchronized
  have hin : meth.name = "<init>" := (name_of_methodNamed BB.named BB.method).1
  have hS : mm_S B s.heap s.heap [] := va_S.rf
  have hl := lv_entry ([.ref a]) (n := 1) (Nat.le_of_ble_eq_true rfl)
  rw [lg_entry_eq]
  generalize (lg_sl ([.ref a]) ++ List.replicate (1 - (lg_sl ([.ref a])).length) Slot.unset).toArray = ls at hl ⊢
  have hl : lv_has ls 1 [(0, .ref a)] := hl
  refine lv_aload_n hx hb d_X_init_0 rfl (lv_at hl 0 rfl) ?_
  refine W.objInit hx hb hown (hts _ (List.mem_cons_of_mem _ wd_20)) (hts _ (List.mem_cons_of_mem _ wd_21)) (hts _ (List.mem_cons_of_mem _ wd_objcode)) rfl (by rw [hml]; exact hl.1) rfl d_X_init_1 (Nat.le_of_ble_eq_true rfl) (Nat.le_of_ble_eq_true rfl) ?_
  refine W.eq (g2 := F0 m 4 ls []) rfl ?_
  refine lv_aload_n hx hb d_X_init_4 rfl (lv_at hl 0 rfl) ?_
  refine mm_new (D := D) (C := n_Reg) (T := T_Reg) (N := 2) (ci := 1) (fs := [.null, .int 0]) (h := sz) hx hb hts lay_Reg t_Reg ty_Reg hown (hts _ (List.mem_cons_of_mem _ wd_23)) (hts _ (List.mem_cons_of_mem _ wd_24)) (hts _ (List.mem_cons_of_mem _ wd_2)) hK.1 hP hS rfl def_Reg (Nat.le_of_ble_eq_true rfl) (Nat.le_of_ble_eq_true rfl) hz (by omega) d_X_init_5 (fun H hP hz1 hS => ?_)
  have hz : H.size = sz + 1 := hz1
  obtain ⟨w1, hw1⟩ : ∃ z : mm_M, z = mm_up w sz (.inr (1, [.null, .int 0])) := ⟨_, rfl⟩
  have hP : mm_P B D kc w1 H := by rw [hw1]; exact hP
  have fr1 : ∀ j, j ≠ sz → w1 j = w j := fun j h9 => by rw [hw1]; exact mm_un h9
  have fa1 : w1 sz = some (.inr (1, [.null, .int 0])) := by rw [hw1]; exact mm_us _ _ _
  refine lv_dup hx hb d_X_init_8 rfl ?_
  refine kk_callv (va_runIN (As := []) (rest := [.ref sz, .ref a]) ⟨hx, hb, hml, hown, hts⟩ (c_Reg_init l fa1 (by omega)) ⟨va_cnB 0 hts (gW_in (hd := [_]) (kk_1 cw_Reg_init)) rfl rfl rfl (hK.2.1 _ nw_25 rfl) (hts _ (List.mem_cons_of_mem _ wd_2)) ds_Reg_init ⟨Nat.le_of_ble_eq_true rfl, Nat.le_of_ble_eq_true rfl⟩, rfl, (hts _ (List.mem_cons_of_mem _ wd_26))⟩ (kk_preS hK hP hz (by omega)) rfl rfl hl.1 rfl (lv_room (Nat.le_of_ble_eq_true rfl)) d_X_init_9 ⟨Nat.le_of_ble_eq_true rfl, Nat.le_of_ble_eq_true rfl⟩) hS (fun w2 sz2 H locs hp2 hP hz hS => ?_)
  obtain ⟨he2, hs2⟩ := hp2
  have hz : H.size = sz + 2 := hz.trans hs2
  have hw3 : w2 = mm_up (mm_up w1 sz (.inr (1, [.ref (sz + 1), .int (nI 0)]))) (sz + 1) (.inl (cQ, 24, .inr (.inr (.inr (.inr (fun _ => none)))))) := he2
  have fr3 : ∀ j, j ≠ sz → j ≠ sz + 1 → w2 j = w1 j := fun j h90 h91 => by rw [hw3]; exact (mm_un h91).trans (mm_un h90)
  have fa3_0 : w2 sz = some (.inr (1, [.ref (sz + 1), .int (nI 0)])) := by rw [hw3]; exact (mm_un (by omega)).trans (mm_us _ _ _)
  have fa3_1 : w2 (sz + 1) = some (.inl (cQ, 24, .inr (.inr (.inr (.inr (fun _ => none)))))) := by rw [hw3]; exact mm_us _ _ _
  have f4 := (fr3 _ (by omega) (by omega)).trans ((fr1 _ (by omega)).trans (h_0))
  refine mm_putF (D := D) (C := n_X) (T := T_X) (N := 4) (v := .ref sz) (ty := (.object "DelegationClosure$Register")) hx hb hts lay_X t_X ty_X nm_X hown hK.1 hP hS f4 rfl 0 (by decide) (hts _ (List.mem_cons_of_mem _ wd_132)) (fun _ h9 => h9) rfl hin rfl (by decide +kernel) rfl rfl (Nat.le_of_ble_eq_true rfl) d_X_init_12 (fun H locs hP hz1 hS => ?_)
  have hz : H.size = sz + 2 := hz1.trans hz
  obtain ⟨w5, hw5⟩ : ∃ z : mm_M, z = mm_up w2 a (.inr (0, [.ref sz, .null, .null, .null])) := ⟨_, rfl⟩
  have hP : mm_P B D kc w5 H := by rw [hw5]; exact hP
  have fr5 : ∀ j, j ≠ a → w5 j = w2 j := fun j h9 => by rw [hw5]; exact mm_un h9
  have fa5 : w5 a = some (.inr (0, [.ref sz, .null, .null, .null])) := by rw [hw5]; exact mm_us _ _ _
  refine lv_aload_n hx hb d_X_init_15 rfl (lv_at hl 0 rfl) ?_
  refine mm_new (D := D) (C := n_Mea) (T := T_Mea) (N := 1) (ci := 2) (fs := [.null]) (h := sz + 2) hx hb hts lay_Mea t_Mea ty_Mea hown (hts _ (List.mem_cons_of_mem _ wd_41)) (hts _ (List.mem_cons_of_mem _ wd_42)) (hts _ (List.mem_cons_of_mem _ wd_3)) hK.1 hP hS rfl def_Mea (Nat.le_of_ble_eq_true rfl) (Nat.le_of_ble_eq_true rfl) hz (by omega) d_X_init_16 (fun H hP hz1 hS => ?_)
  have hz : H.size = sz + 3 := hz1
  obtain ⟨w6, hw6⟩ : ∃ z : mm_M, z = mm_up w5 (sz + 2) (.inr (2, [.null])) := ⟨_, rfl⟩
  have hP : mm_P B D kc w6 H := by rw [hw6]; exact hP
  have fr6 : ∀ j, j ≠ sz + 2 → w6 j = w5 j := fun j h9 => by rw [hw6]; exact mm_un h9
  have fa6 : w6 (sz + 2) = some (.inr (2, [.null])) := by rw [hw6]; exact mm_us _ _ _
  refine lv_dup hx hb d_X_init_19 rfl ?_
  refine kk_callv (va_runIN (As := []) (rest := [.ref (sz + 2), .ref a]) ⟨hx, hb, hml, hown, hts⟩ (c_Mea_init l fa6 (by omega)) ⟨va_cnB 0 hts (gW_in (hd := [_]) (kk_1 cw_Mea_init)) rfl rfl rfl (hK.2.1 _ nw_43 rfl) (hts _ (List.mem_cons_of_mem _ wd_3)) ds_Mea_init ⟨Nat.le_of_ble_eq_true rfl, Nat.le_of_ble_eq_true rfl⟩, rfl, (hts _ (List.mem_cons_of_mem _ wd_44))⟩ (kk_preS hK hP hz (by omega)) rfl rfl hl.1 rfl (lv_room (Nat.le_of_ble_eq_true rfl)) d_X_init_20 ⟨Nat.le_of_ble_eq_true rfl, Nat.le_of_ble_eq_true rfl⟩) hS (fun w7 sz7 H locs hp7 hP hz hS => ?_)
  obtain ⟨he7, hs7⟩ := hp7
  have hz : H.size = sz + 4 := hz.trans hs7
  have hw8 : w7 = mm_up (mm_up w6 (sz + 2) (.inr (2, [.ref (sz + 3)]))) (sz + 3) (.inl (cI, 256, .inl (fun i => nI ((fun _ => 0) i)))) := he7
  have fr8 : ∀ j, j ≠ sz + 2 → j ≠ sz + 3 → w7 j = w6 j := fun j h90 h91 => by rw [hw8]; exact (mm_un h91).trans (mm_un h90)
  have fa8_0 : w7 (sz + 2) = some (.inr (2, [.ref (sz + 3)])) := by rw [hw8]; exact (mm_un (by omega)).trans (mm_us _ _ _)
  have fa8_1 : w7 (sz + 3) = some (.inl (cI, 256, .inl (fun i => nI ((fun _ => 0) i)))) := by rw [hw8]; exact mm_us _ _ _
  have f9 := (fr8 _ (by omega) (by omega)).trans ((fr6 _ (by omega)).trans (fa5))
  refine mm_putF (D := D) (C := n_X) (T := T_X) (N := 4) (v := .ref (sz + 2)) (ty := (.object "DelegationClosure$Meanings")) hx hb hts lay_X t_X ty_X nm_X hown hK.1 hP hS f9 rfl 1 (by decide) (hts _ (List.mem_cons_of_mem _ wd_133)) (fun _ h9 => h9) rfl hin rfl (by decide +kernel) rfl rfl (Nat.le_of_ble_eq_true rfl) d_X_init_23 (fun H locs hP hz1 hS => ?_)
  have hz : H.size = sz + 4 := hz1.trans hz
  obtain ⟨w10, hw10⟩ : ∃ z : mm_M, z = mm_up w7 a (.inr (0, [.ref sz, .ref (sz + 2), .null, .null])) := ⟨_, rfl⟩
  have hP : mm_P B D kc w10 H := by rw [hw10]; exact hP
  have fr10 : ∀ j, j ≠ a → w10 j = w7 j := fun j h9 => by rw [hw10]; exact mm_un h9
  have fa10 : w10 a = some (.inr (0, [.ref sz, .ref (sz + 2), .null, .null])) := by rw [hw10]; exact mm_us _ _ _
  refine lv_aload_n hx hb d_X_init_26 rfl (lv_at hl 0 rfl) ?_
  refine mm_new (D := D) (C := n_Led) (T := T_Led) (N := 3) (ci := 3) (fs := [.null, .null, .null]) (h := sz + 4) hx hb hts lay_Led t_Led ty_Led hown (hts _ (List.mem_cons_of_mem _ wd_52)) (hts _ (List.mem_cons_of_mem _ wd_53)) (hts _ (List.mem_cons_of_mem _ wd_4)) hK.1 hP hS rfl def_Led (Nat.le_of_ble_eq_true rfl) (Nat.le_of_ble_eq_true rfl) hz (by omega) d_X_init_27 (fun H hP hz1 hS => ?_)
  have hz : H.size = sz + 5 := hz1
  obtain ⟨w11, hw11⟩ : ∃ z : mm_M, z = mm_up w10 (sz + 4) (.inr (3, [.null, .null, .null])) := ⟨_, rfl⟩
  have hP : mm_P B D kc w11 H := by rw [hw11]; exact hP
  have fr11 : ∀ j, j ≠ sz + 4 → w11 j = w10 j := fun j h9 => by rw [hw11]; exact mm_un h9
  have fa11 : w11 (sz + 4) = some (.inr (3, [.null, .null, .null])) := by rw [hw11]; exact mm_us _ _ _
  refine lv_dup hx hb d_X_init_30 rfl ?_
  refine kk_callv (va_runIN (As := []) (rest := [.ref (sz + 4), .ref a]) ⟨hx, hb, hml, hown, hts⟩ (c_Led_init l fa11 (by omega)) ⟨va_cnB 0 hts (gW_in (hd := [_]) (kk_1 cw_Led_init)) rfl rfl rfl (hK.2.1 _ nw_54 rfl) (hts _ (List.mem_cons_of_mem _ wd_4)) ds_Led_init ⟨Nat.le_of_ble_eq_true rfl, Nat.le_of_ble_eq_true rfl⟩, rfl, (hts _ (List.mem_cons_of_mem _ wd_55))⟩ (kk_preS hK hP hz (by omega)) rfl rfl hl.1 rfl (lv_room (Nat.le_of_ble_eq_true rfl)) d_X_init_31 ⟨Nat.le_of_ble_eq_true rfl, Nat.le_of_ble_eq_true rfl⟩) hS (fun w12 sz12 H locs hp12 hP hz hS => ?_)
  obtain ⟨he12, hs12⟩ := hp12
  have hz : H.size = sz + 8 := hz.trans hs12
  have hw13 : w12 = mm_up (mm_up (mm_up (mm_up w11 (sz + 4) (.inr (3, [.ref (sz + 5), .ref (sz + 6), .ref (sz + 7)]))) (sz + 5) (.inl (cZ, 24, .inl (fun i => nI ((fun _ => 0) i))))) (sz + 6) (.inl (cI, 9, .inl (fun i => nI ((fun _ => 0) i))))) (sz + 7) (.inl (cI, 3, .inl (fun i => nI ((fun _ => 0) i)))) := he12
  have fr13 : ∀ j, j ≠ sz + 4 → j ≠ sz + 5 → j ≠ sz + 6 → j ≠ sz + 7 → w12 j = w11 j := fun j h90 h91 h92 h93 => by rw [hw13]; exact (mm_un h93).trans ((mm_un h92).trans ((mm_un h91).trans (mm_un h90)))
  have fa13_0 : w12 (sz + 4) = some (.inr (3, [.ref (sz + 5), .ref (sz + 6), .ref (sz + 7)])) := by rw [hw13]; exact (mm_un (by omega)).trans ((mm_un (by omega)).trans ((mm_un (by omega)).trans (mm_us _ _ _)))
  have fa13_1 : w12 (sz + 5) = some (.inl (cZ, 24, .inl (fun i => nI ((fun _ => 0) i)))) := by rw [hw13]; exact (mm_un (by omega)).trans ((mm_un (by omega)).trans (mm_us _ _ _))
  have fa13_2 : w12 (sz + 6) = some (.inl (cI, 9, .inl (fun i => nI ((fun _ => 0) i)))) := by rw [hw13]; exact (mm_un (by omega)).trans (mm_us _ _ _)
  have fa13_3 : w12 (sz + 7) = some (.inl (cI, 3, .inl (fun i => nI ((fun _ => 0) i)))) := by rw [hw13]; exact mm_us _ _ _
  have f14 := (fr13 _ (by omega) (by omega) (by omega) (by omega)).trans ((fr11 _ (by omega)).trans (fa10))
  refine mm_putF (D := D) (C := n_X) (T := T_X) (N := 4) (v := .ref (sz + 4)) (ty := (.object "DelegationClosure$Leads")) hx hb hts lay_X t_X ty_X nm_X hown hK.1 hP hS f14 rfl 2 (by decide) (hts _ (List.mem_cons_of_mem _ wd_134)) (fun _ h9 => h9) rfl hin rfl (by decide +kernel) rfl rfl (Nat.le_of_ble_eq_true rfl) d_X_init_34 (fun H locs hP hz1 hS => ?_)
  have hz : H.size = sz + 8 := hz1.trans hz
  obtain ⟨w15, hw15⟩ : ∃ z : mm_M, z = mm_up w12 a (.inr (0, [.ref sz, .ref (sz + 2), .ref (sz + 4), .null])) := ⟨_, rfl⟩
  have hP : mm_P B D kc w15 H := by rw [hw15]; exact hP
  have fr15 : ∀ j, j ≠ a → w15 j = w12 j := fun j h9 => by rw [hw15]; exact mm_un h9
  have fa15 : w15 a = some (.inr (0, [.ref sz, .ref (sz + 2), .ref (sz + 4), .null])) := by rw [hw15]; exact mm_us _ _ _
  refine lv_aload_n hx hb d_X_init_37 rfl (lv_at hl 0 rfl) ?_
  refine mm_new (D := D) (C := n_Chn) (T := T_Chn) (N := 7) (ci := 4) (fs := [.int 0, .null, .int 0, .null, .null, .int 0, .int 0]) (h := sz + 8) hx hb hts lay_Chn t_Chn ty_Chn hown (hts _ (List.mem_cons_of_mem _ wd_69)) (hts _ (List.mem_cons_of_mem _ wd_70)) (hts _ (List.mem_cons_of_mem _ wd_5)) hK.1 hP hS rfl def_Chn (Nat.le_of_ble_eq_true rfl) (Nat.le_of_ble_eq_true rfl) hz (by omega) d_X_init_38 (fun H hP hz1 hS => ?_)
  have hz : H.size = sz + 9 := hz1
  obtain ⟨w16, hw16⟩ : ∃ z : mm_M, z = mm_up w15 (sz + 8) (.inr (4, [.int 0, .null, .int 0, .null, .null, .int 0, .int 0])) := ⟨_, rfl⟩
  have hP : mm_P B D kc w16 H := by rw [hw16]; exact hP
  have fr16 : ∀ j, j ≠ sz + 8 → w16 j = w15 j := fun j h9 => by rw [hw16]; exact mm_un h9
  have fa16 : w16 (sz + 8) = some (.inr (4, [.int 0, .null, .int 0, .null, .null, .int 0, .int 0])) := by rw [hw16]; exact mm_us _ _ _
  refine lv_dup hx hb d_X_init_41 rfl ?_
  refine kk_callv (va_runIN (As := []) (rest := [.ref (sz + 8), .ref a]) ⟨hx, hb, hml, hown, hts⟩ (c_Chn_init l fa16 (by omega)) ⟨va_cnB 0 hts (gW_in (hd := [_]) (kk_1 cw_Chn_init)) rfl rfl rfl (hK.2.1 _ nw_71 rfl) (hts _ (List.mem_cons_of_mem _ wd_5)) ds_Chn_init ⟨Nat.le_of_ble_eq_true rfl, Nat.le_of_ble_eq_true rfl⟩, rfl, (hts _ (List.mem_cons_of_mem _ wd_72))⟩ (kk_preS hK hP hz (by omega)) rfl rfl hl.1 rfl (lv_room (Nat.le_of_ble_eq_true rfl)) d_X_init_42 ⟨Nat.le_of_ble_eq_true rfl, Nat.le_of_ble_eq_true rfl⟩) hS (fun w17 sz17 H locs hp17 hP hz hS => ?_)
  obtain ⟨he17, hs17⟩ := hp17
  have hz : H.size = sz + 13 := hz.trans hs17
  have hw18 : w17 = mm_up (mm_up (mm_up (mm_up (mm_up w16 (sz + 8) (.inr (4, [.int (nI 0), .ref (sz + 9), .int (nI 0), .ref (sz + 10), .ref (sz + 12), .int (nI 0), .int (nI 0)]))) (sz + 9) (.inl (cI, 4, .inl (fun i => nI ((fun _ => 0) i))))) (sz + 10) (.inr (5, [.int (nI 255), .ref (sz + 11)]))) (sz + 11) (.inr (6, [.int (-2147483648), .int 2147483647]))) (sz + 12) (.inr (6, [.int (nI 0), .int (nI 0)])) := he17
  have fr18 : ∀ j, j ≠ sz + 8 → j ≠ sz + 9 → j ≠ sz + 10 → j ≠ sz + 11 → j ≠ sz + 12 → w17 j = w16 j := fun j h90 h91 h92 h93 h94 => by rw [hw18]; exact (mm_un h94).trans ((mm_un h93).trans ((mm_un h92).trans ((mm_un h91).trans (mm_un h90))))
  have fa18_0 : w17 (sz + 8) = some (.inr (4, [.int (nI 0), .ref (sz + 9), .int (nI 0), .ref (sz + 10), .ref (sz + 12), .int (nI 0), .int (nI 0)])) := by rw [hw18]; exact (mm_un (by omega)).trans ((mm_un (by omega)).trans ((mm_un (by omega)).trans ((mm_un (by omega)).trans (mm_us _ _ _))))
  have fa18_1 : w17 (sz + 9) = some (.inl (cI, 4, .inl (fun i => nI ((fun _ => 0) i)))) := by rw [hw18]; exact (mm_un (by omega)).trans ((mm_un (by omega)).trans ((mm_un (by omega)).trans (mm_us _ _ _)))
  have fa18_2 : w17 (sz + 10) = some (.inr (5, [.int (nI 255), .ref (sz + 11)])) := by rw [hw18]; exact (mm_un (by omega)).trans ((mm_un (by omega)).trans (mm_us _ _ _))
  have fa18_3 : w17 (sz + 11) = some (.inr (6, [.int (-2147483648), .int 2147483647])) := by rw [hw18]; exact (mm_un (by omega)).trans (mm_us _ _ _)
  have fa18_4 : w17 (sz + 12) = some (.inr (6, [.int (nI 0), .int (nI 0)])) := by rw [hw18]; exact mm_us _ _ _
  have f19 := (fr18 _ (by omega) (by omega) (by omega) (by omega) (by omega)).trans ((fr16 _ (by omega)).trans (fa15))
  refine mm_putF (D := D) (C := n_X) (T := T_X) (N := 4) (v := .ref (sz + 8)) (ty := (.object "DelegationClosure$Chain")) hx hb hts lay_X t_X ty_X nm_X hown hK.1 hP hS f19 rfl 3 (by decide) (hts _ (List.mem_cons_of_mem _ wd_135)) (fun _ h9 => h9) rfl hin rfl (by decide +kernel) rfl rfl (Nat.le_of_ble_eq_true rfl) d_X_init_45 (fun H locs hP hz1 hS => ?_)
  have hz : H.size = sz + 13 := hz1.trans hz
  obtain ⟨w20, hw20⟩ : ∃ z : mm_M, z = mm_up w17 a (.inr (0, [.ref sz, .ref (sz + 2), .ref (sz + 4), .ref (sz + 8)])) := ⟨_, rfl⟩
  have hP : mm_P B D kc w20 H := by rw [hw20]; exact hP
  have fr20 : ∀ j, j ≠ a → w20 j = w17 j := fun j h9 => by rw [hw20]; exact mm_un h9
  have fa20 : w20 a = some (.inr (0, [.ref sz, .ref (sz + 2), .ref (sz + 4), .ref (sz + 8)])) := by rw [hw20]; exact mm_us _ _ _
  exact W.vret hx hb hr (fun t ht hW => ⟨⟨(w20, sz + 13), rfl, ⟨mm_e14 fa20 ((fr20 _ (by omega)).trans ((fr18 _ (by omega) (by omega) (by omega) (by omega) (by omega)).trans ((fr16 _ (by omega)).trans ((fr15 _ (by omega)).trans ((fr13 _ (by omega) (by omega) (by omega) (by omega)).trans ((fr11 _ (by omega)).trans ((fr10 _ (by omega)).trans ((fr8 _ (by omega) (by omega)).trans ((fr6 _ (by omega)).trans ((fr5 _ (by omega)).trans (fa3_0))))))))))) ((fr20 _ (by omega)).trans ((fr18 _ (by omega) (by omega) (by omega) (by omega) (by omega)).trans ((fr16 _ (by omega)).trans ((fr15 _ (by omega)).trans ((fr13 _ (by omega) (by omega) (by omega) (by omega)).trans ((fr11 _ (by omega)).trans ((fr10 _ (by omega)).trans ((fr8 _ (by omega) (by omega)).trans ((fr6 _ (by omega)).trans ((fr5 _ (by omega)).trans (fa3_1))))))))))) ((fr20 _ (by omega)).trans ((fr18 _ (by omega) (by omega) (by omega) (by omega) (by omega)).trans ((fr16 _ (by omega)).trans ((fr15 _ (by omega)).trans ((fr13 _ (by omega) (by omega) (by omega) (by omega)).trans ((fr11 _ (by omega)).trans ((fr10 _ (by omega)).trans (fa8_0)))))))) ((fr20 _ (by omega)).trans ((fr18 _ (by omega) (by omega) (by omega) (by omega) (by omega)).trans ((fr16 _ (by omega)).trans ((fr15 _ (by omega)).trans ((fr13 _ (by omega) (by omega) (by omega) (by omega)).trans ((fr11 _ (by omega)).trans ((fr10 _ (by omega)).trans (fa8_1)))))))) ((fr20 _ (by omega)).trans ((fr18 _ (by omega) (by omega) (by omega) (by omega) (by omega)).trans ((fr16 _ (by omega)).trans ((fr15 _ (by omega)).trans (fa13_0))))) ((fr20 _ (by omega)).trans ((fr18 _ (by omega) (by omega) (by omega) (by omega) (by omega)).trans ((fr16 _ (by omega)).trans ((fr15 _ (by omega)).trans (fa13_1))))) ((fr20 _ (by omega)).trans ((fr18 _ (by omega) (by omega) (by omega) (by omega) (by omega)).trans ((fr16 _ (by omega)).trans ((fr15 _ (by omega)).trans (fa13_2))))) ((fr20 _ (by omega)).trans ((fr18 _ (by omega) (by omega) (by omega) (by omega) (by omega)).trans ((fr16 _ (by omega)).trans ((fr15 _ (by omega)).trans (fa13_3))))) ((fr20 _ (by omega)).trans (fa18_0)) ((fr20 _ (by omega)).trans (fa18_1)) ((fr20 _ (by omega)).trans (fa18_2)) ((fr20 _ (by omega)).trans (fa18_3)) ((fr20 _ (by omega)).trans (fa18_4)) (fun j g0 g1 g2 g3 g4 g5 g6 g7 g8 g9 g10 g11 g12 g13 => (fr20 j g0).trans ((fr18 j g9 g10 g11 g12 g13).trans ((fr16 j g9).trans ((fr15 j g0).trans ((fr13 j g5 g6 g7 g8).trans ((fr11 j g5).trans ((fr10 j g0).trans ((fr8 j g3 g4).trans ((fr6 j g3).trans ((fr5 j g0).trans ((fr3 j g1 g2).trans (fr1 j g1)))))))))))), rfl⟩, by rw [ht]; exact hP, by rw [ht]; exact hz⟩, hS.F ht⟩) hS.2.2 d_X_init_48
end
section
theorem d_Mea_placeOf_0 : decode k_Mea_placeOf 0 = .ok (.iload_n 0, 1) := by decide +kernel
theorem d_Mea_placeOf_1 : decode k_Mea_placeOf 1 = .ok (.iconst 4, 1) := by decide +kernel
theorem d_Mea_placeOf_2 : decode k_Mea_placeOf 2 = .ok (.imul, 1) := by decide +kernel
theorem d_Mea_placeOf_3 : decode k_Mea_placeOf 3 = .ok (.iload_n 1, 1) := by decide +kernel
theorem d_Mea_placeOf_4 : decode k_Mea_placeOf 4 = .ok (.iadd, 1) := by decide +kernel
theorem d_Mea_placeOf_5 : decode k_Mea_placeOf 5 = .ok (.bipush 8, 2) := by decide +kernel
theorem d_Mea_placeOf_7 : decode k_Mea_placeOf 7 = .ok (.imul, 1) := by decide +kernel
theorem d_Mea_placeOf_8 : decode k_Mea_placeOf 8 = .ok (.iload_n 2, 1) := by decide +kernel
theorem d_Mea_placeOf_9 : decode k_Mea_placeOf 9 = .ok (.iadd, 1) := by decide +kernel
theorem d_Mea_placeOf_10 : decode k_Mea_placeOf 10 = .ok (.ireturn, 1) := by decide +kernel
set_option maxHeartbeats 4000000 in
set_option maxRecDepth 100000 in
theorem c_Mea_placeOf (l : Launch) {B : Nat} {D : va_G} {cI cZ cQ : ClassId} {w : mm_M} {sz : Nat} {s9 m9 y : Nat} (hs : s9 ≤ 8) (hm : m9 ≤ 8) (hy : y ≤ 8) : Met l y_Mea_placeOf ws_Mea_placeOf (kk_rm 0 0 0) (kk_Pc B D cI cZ cQ [.int (nI s9), .int (nI m9), .int (nI y)] w sz) (vp_Si (fun r => r = nI (32 * s9 + 8 * m9 + y))) 0 0 (fun _ => False) := by
  refine Met.ofW (cc := k_Mea_placeOf) (maxL := 3) (ret := (some .int)) (by decide) rfl ?_
  intro p e s m args below meth c s₁ BB hml hv
  obtain ⟨rfl, hK, hP, hz, hBz⟩ := hv
  have hx := BB.exec
  have hb := BB.bytes
  have hr := BB.returns
  have hts := atoms_spec (ws := ws_Mea_placeOf) BB.pre
  have hown : s.vm.findClass "DelegationClosure$Meanings" = some m.cls := findClass_of_methodNamed BB.named
  have hlocks := BB.notSynchronized
  have hS : mm_S B s.heap s.heap [] := va_S.rf
  have hl := lv_entry ([.int (nI s9), .int (nI m9), .int (nI y)]) (n := 3) (Nat.le_of_ble_eq_true rfl)
  rw [lg_entry_eq]
  generalize (lg_sl ([.int (nI s9), .int (nI m9), .int (nI y)]) ++ List.replicate (3 - (lg_sl ([.int (nI s9), .int (nI m9), .int (nI y)])).length) Slot.unset).toArray = ls at hl ⊢
  have hl : lv_has ls 3 [(0, .int (nI s9)), (1, .int (nI m9)), (2, .int (nI y))] := hl
  refine lv_iload_n hx hb d_Mea_placeOf_0 rfl (lv_at hl 0 rfl) ?_
  refine lv_iconst (v := nI 4) hx hb d_Mea_placeOf_1 (by decide) ?_
  refine lv_imul hx hb d_Mea_placeOf_2 ?_
  refine kk_top (pk_mul _ _) ?_
  refine lv_iload_n hx hb d_Mea_placeOf_3 rfl (lv_at hl 1 rfl) ?_
  refine lv_iadd hx hb d_Mea_placeOf_4 ?_
  refine kk_top (nI_add _ _) ?_
  refine lv_bipush (v := nI 8) hx hb d_Mea_placeOf_5 (by decide) ?_
  refine lv_imul hx hb d_Mea_placeOf_7 ?_
  refine kk_top (pk_mul _ _) ?_
  refine lv_iload_n hx hb d_Mea_placeOf_8 rfl (lv_at hl 2 rfl) ?_
  refine lv_iadd hx hb d_Mea_placeOf_9 ?_
  refine kk_top (nI_add _ _) ?_
  exact W.iret hx hb hr (fun t ht hW => ⟨_, rfl, congrArg nI (by omega), ht⟩) (fun q hq => by cases hq) d_Mea_placeOf_10
theorem d_Mea_ofSubject_0 : decode k_Mea_ofSubject 0 = .ok (.iload_n 1, 1) := by decide +kernel
theorem d_Mea_ofSubject_1 : decode k_Mea_ofSubject 1 = .ok (.invokestatic 71, 3) := by decide +kernel
theorem d_Mea_ofSubject_4 : decode k_Mea_ofSubject 4 = .ok (.istore_n 3, 1) := by decide +kernel
theorem d_Mea_ofSubject_5 : decode k_Mea_ofSubject 5 = .ok (.iload_n 1, 1) := by decide +kernel
theorem d_Mea_ofSubject_6 : decode k_Mea_ofSubject 6 = .ok (.invokestatic 75, 3) := by decide +kernel
theorem d_Mea_ofSubject_9 : decode k_Mea_ofSubject 9 = .ok (.istore 4, 2) := by decide +kernel
theorem d_Mea_ofSubject_11 : decode k_Mea_ofSubject 11 = .ok (.iload_n 1, 1) := by decide +kernel
theorem d_Mea_ofSubject_12 : decode k_Mea_ofSubject 12 = .ok (.invokestatic 78, 3) := by decide +kernel
theorem d_Mea_ofSubject_15 : decode k_Mea_ofSubject 15 = .ok (.istore 5, 2) := by decide +kernel
theorem d_Mea_ofSubject_17 : decode k_Mea_ofSubject 17 = .ok (.iload 4, 2) := by decide +kernel
theorem d_Mea_ofSubject_19 : decode k_Mea_ofSubject 19 = .ok (.iconst (-1), 1) := by decide +kernel
theorem d_Mea_ofSubject_20 : decode k_Mea_ofSubject 20 = .ok (.if_icmp .ne 16, 3) := by decide +kernel
theorem d_Mea_ofSubject_23 : decode k_Mea_ofSubject 23 = .ok (.iload_n 3, 1) := by decide +kernel
theorem d_Mea_ofSubject_24 : decode k_Mea_ofSubject 24 = .ok (.iload_n 2, 1) := by decide +kernel
theorem d_Mea_ofSubject_25 : decode k_Mea_ofSubject 25 = .ok (.if_icmp .ne 7, 3) := by decide +kernel
theorem d_Mea_ofSubject_28 : decode k_Mea_ofSubject 28 = .ok (.iconst 0, 1) := by decide +kernel
theorem d_Mea_ofSubject_29 : decode k_Mea_ofSubject 29 = .ok (.goto 6, 3) := by decide +kernel
theorem d_Mea_ofSubject_32 : decode k_Mea_ofSubject 32 = .ok (.sipush 1000, 3) := by decide +kernel
theorem d_Mea_ofSubject_35 : decode k_Mea_ofSubject 35 = .ok (.ireturn, 1) := by decide +kernel
theorem d_Mea_ofSubject_36 : decode k_Mea_ofSubject 36 = .ok (.iload 5, 2) := by decide +kernel
theorem d_Mea_ofSubject_38 : decode k_Mea_ofSubject 38 = .ok (.iconst (-1), 1) := by decide +kernel
theorem d_Mea_ofSubject_39 : decode k_Mea_ofSubject 39 = .ok (.if_icmp .ne 16, 3) := by decide +kernel
theorem d_Mea_ofSubject_42 : decode k_Mea_ofSubject 42 = .ok (.aload_n 0, 1) := by decide +kernel
theorem d_Mea_ofSubject_43 : decode k_Mea_ofSubject 43 = .ok (.getfield 9, 3) := by decide +kernel
theorem d_Mea_ofSubject_46 : decode k_Mea_ofSubject 46 = .ok (.iload_n 3, 1) := by decide +kernel
theorem d_Mea_ofSubject_47 : decode k_Mea_ofSubject 47 = .ok (.iload 4, 2) := by decide +kernel
theorem d_Mea_ofSubject_49 : decode k_Mea_ofSubject 49 = .ok (.iload_n 2, 1) := by decide +kernel
theorem d_Mea_ofSubject_50 : decode k_Mea_ofSubject 50 = .ok (.invokestatic 57, 3) := by decide +kernel
theorem d_Mea_ofSubject_53 : decode k_Mea_ofSubject 53 = .ok (.iaload, 1) := by decide +kernel
theorem d_Mea_ofSubject_54 : decode k_Mea_ofSubject 54 = .ok (.ireturn, 1) := by decide +kernel
theorem d_Mea_ofSubject_55 : decode k_Mea_ofSubject 55 = .ok (.sipush 1000, 3) := by decide +kernel
theorem d_Mea_ofSubject_58 : decode k_Mea_ofSubject 58 = .ok (.istore 6, 2) := by decide +kernel
theorem d_Mea_ofSubject_60 : decode k_Mea_ofSubject 60 = .ok (.iconst 0, 1) := by decide +kernel
theorem d_Mea_ofSubject_61 : decode k_Mea_ofSubject 61 = .ok (.istore 7, 2) := by decide +kernel
theorem d_Mea_ofSubject_63 : decode k_Mea_ofSubject 63 = .ok (.iload 7, 2) := by decide +kernel
theorem d_Mea_ofSubject_65 : decode k_Mea_ofSubject 65 = .ok (.bipush 8, 2) := by decide +kernel
theorem d_Mea_ofSubject_67 : decode k_Mea_ofSubject 67 = .ok (.if_icmp .ge 53, 3) := by decide +kernel
theorem d_Mea_ofSubject_70 : decode k_Mea_ofSubject 70 = .ok (.aload_n 0, 1) := by decide +kernel
theorem d_Mea_ofSubject_71 : decode k_Mea_ofSubject 71 = .ok (.getfield 9, 3) := by decide +kernel
theorem d_Mea_ofSubject_74 : decode k_Mea_ofSubject 74 = .ok (.iload_n 3, 1) := by decide +kernel
theorem d_Mea_ofSubject_75 : decode k_Mea_ofSubject 75 = .ok (.iload 4, 2) := by decide +kernel
theorem d_Mea_ofSubject_77 : decode k_Mea_ofSubject 77 = .ok (.iload 7, 2) := by decide +kernel
theorem d_Mea_ofSubject_79 : decode k_Mea_ofSubject 79 = .ok (.invokestatic 57, 3) := by decide +kernel
theorem d_Mea_ofSubject_82 : decode k_Mea_ofSubject 82 = .ok (.iaload, 1) := by decide +kernel
theorem d_Mea_ofSubject_83 : decode k_Mea_ofSubject 83 = .ok (.istore 8, 2) := by decide +kernel
theorem d_Mea_ofSubject_85 : decode k_Mea_ofSubject 85 = .ok (.aload_n 0, 1) := by decide +kernel
theorem d_Mea_ofSubject_86 : decode k_Mea_ofSubject 86 = .ok (.getfield 9, 3) := by decide +kernel
theorem d_Mea_ofSubject_89 : decode k_Mea_ofSubject 89 = .ok (.iload 7, 2) := by decide +kernel
theorem d_Mea_ofSubject_91 : decode k_Mea_ofSubject 91 = .ok (.iload 5, 2) := by decide +kernel
theorem d_Mea_ofSubject_93 : decode k_Mea_ofSubject 93 = .ok (.iload_n 2, 1) := by decide +kernel
theorem d_Mea_ofSubject_94 : decode k_Mea_ofSubject 94 = .ok (.invokestatic 57, 3) := by decide +kernel
theorem d_Mea_ofSubject_97 : decode k_Mea_ofSubject 97 = .ok (.iaload, 1) := by decide +kernel
theorem d_Mea_ofSubject_98 : decode k_Mea_ofSubject 98 = .ok (.istore 9, 2) := by decide +kernel
theorem d_Mea_ofSubject_100 : decode k_Mea_ofSubject 100 = .ok (.iload 6, 2) := by decide +kernel
theorem d_Mea_ofSubject_102 : decode k_Mea_ofSubject 102 = .ok (.iload 8, 2) := by decide +kernel
theorem d_Mea_ofSubject_104 : decode k_Mea_ofSubject 104 = .ok (.iload 9, 2) := by decide +kernel
theorem d_Mea_ofSubject_106 : decode k_Mea_ofSubject 106 = .ok (.invokestatic 68, 3) := by decide +kernel
theorem d_Mea_ofSubject_109 : decode k_Mea_ofSubject 109 = .ok (.invokestatic 81, 3) := by decide +kernel
theorem d_Mea_ofSubject_112 : decode k_Mea_ofSubject 112 = .ok (.istore 6, 2) := by decide +kernel
theorem d_Mea_ofSubject_114 : decode k_Mea_ofSubject 114 = .ok (.iinc 7 1, 3) := by decide +kernel
theorem d_Mea_ofSubject_117 : decode k_Mea_ofSubject 117 = .ok (.goto (-54), 3) := by decide +kernel
theorem d_Mea_ofSubject_120 : decode k_Mea_ofSubject 120 = .ok (.iload 6, 2) := by decide +kernel
theorem d_Mea_ofSubject_122 : decode k_Mea_ofSubject 122 = .ok (.ireturn, 1) := by decide +kernel
set_option maxHeartbeats 4000000 in
set_option maxRecDepth 100000 in
theorem c_Mea_ofSubject (l : Launch) {B : Nat} {D : va_G} {cI cZ cQ : ClassId} {w : mm_M} {sz : Nat} {a ar n y : Nat} {g : Nat → Nat} (h_0 : w a = some (.inr (2, [.ref ar]))) (h_1 : w ar = some (.inl (cI, 256, .inl (fun i => nI (g i))))) (hn : n < 200) (hy : y < 8) (hg : ∀ j, g j ≤ 1000) : Met l y_Mea_ofSubject ws_Mea_ofSubject (kk_rm 1 0 0) (kk_Pc B D cI cZ cQ [.ref a, .int (nI n), .int (nI y)] w sz) (vp_Si (fun r => r = nI (dm_ofs g n y))) 0 0 (fun _ => False) := by
  refine Met.ofW (cc := k_Mea_ofSubject) (maxL := 10) (ret := (some .int)) (by decide) rfl ?_
  intro p e s m args below meth c s₁ BB hml hv
  obtain ⟨rfl, hK, hP, hz, hBz⟩ := hv
  have hx := BB.exec
  have hb := BB.bytes
  have hr := BB.returns
  have hts := atoms_spec (ws := ws_Mea_ofSubject) BB.pre
  have hown : s.vm.findClass "DelegationClosure$Meanings" = some m.cls := findClass_of_methodNamed BB.named
  have hlocks := BB.notSynchronized
  have hS : mm_S B s.heap s.heap [] := va_S.rf
  have hl := lv_entry ([.ref a, .int (nI n), .int (nI y)]) (n := 10) (Nat.le_of_ble_eq_true rfl)
  rw [lg_entry_eq]
  generalize (lg_sl ([.ref a, .int (nI n), .int (nI y)]) ++ List.replicate (10 - (lg_sl ([.ref a, .int (nI n), .int (nI y)])).length) Slot.unset).toArray = ls at hl ⊢
  have hl : lv_has ls 10 [(0, .ref a), (1, .int (nI n)), (2, .int (nI y))] := hl
  refine lv_iload_n hx hb d_Mea_ofSubject_0 rfl (lv_at hl 1 rfl) ?_
  refine vp_callSi (va_Run.run (va_runSN (As := [.int (nI n)]) (rest := []) ⟨hx, hb, hml, hown, hts⟩ (c_X_keyOf l (by omega)) ⟨va_cnB 1 hts (gW_in (hd := [_]) (kk_1 cw_X_keyOf)) rfl rfl rfl (hK.2.1 _ nw_333 rfl) (hts _ (List.mem_cons_of_mem _ wd_1)) ds_X_keyOf ⟨Nat.le_of_ble_eq_true rfl, Nat.le_of_ble_eq_true rfl⟩, (hts _ (List.mem_cons_of_mem _ wd_334)), trivial⟩ (kk_preS hK hP hz hBz) rfl rfl hl.1 rfl (lv_room (Nat.le_of_ble_eq_true rfl)) d_Mea_ofSubject_1 ⟨Nat.le_of_ble_eq_true rfl, Nat.le_of_ble_eq_true rfl⟩)) (fun r1 hr1 => ?_)
  subst hr1
  refine lv_istore_n hx hb d_Mea_ofSubject_4 rfl hl (by decide) rfl (fun ls hl => ?_)
  have hl : lv_has ls 10 [(3, .int (nI (n % 8))), (0, .ref a), (1, .int (nI n)), (2, .int (nI y))] := hl
  refine lv_iload_n hx hb d_Mea_ofSubject_5 rfl (lv_at hl 2 rfl) ?_
  refine vp_callSi (va_Run.run (va_runSN (As := [.int (nI n)]) (rest := []) ⟨hx, hb, hml, hown, hts⟩ (c_X_firstNameOf l (by omega)) ⟨va_cnB 1 hts (gW_in (hd := [_]) (kk_1 cw_X_firstNameOf)) rfl rfl rfl (hK.2.1 _ nw_336 rfl) (hts _ (List.mem_cons_of_mem _ wd_1)) ds_X_firstNameOf ⟨Nat.le_of_ble_eq_true rfl, Nat.le_of_ble_eq_true rfl⟩, (hts _ (List.mem_cons_of_mem _ wd_156)), trivial⟩ (kk_preS hK hP hz hBz) rfl rfl hl.1 rfl (lv_room (Nat.le_of_ble_eq_true rfl)) d_Mea_ofSubject_6 ⟨Nat.le_of_ble_eq_true rfl, Nat.le_of_ble_eq_true rfl⟩)) (fun r2 hr2 => ?_)
  subst hr2
  refine lv_istore hx hb d_Mea_ofSubject_9 hl (by decide) rfl (fun ls hl => ?_)
  have hl : lv_has ls 10 [(4, .int (nI (n / 8 % 5) - nI 1)), (3, .int (nI (n % 8))), (0, .ref a), (1, .int (nI n)), (2, .int (nI y))] := hl
  refine lv_iload_n hx hb d_Mea_ofSubject_11 rfl (lv_at hl 3 rfl) ?_
  refine vp_callSi (va_Run.run (va_runSN (As := [.int (nI n)]) (rest := []) ⟨hx, hb, hml, hown, hts⟩ (c_X_secondNameOf l (by omega)) ⟨va_cnB 1 hts (gW_in (hd := [_]) (kk_1 cw_X_secondNameOf)) rfl rfl rfl (hK.2.1 _ nw_337 rfl) (hts _ (List.mem_cons_of_mem _ wd_1)) ds_X_secondNameOf ⟨Nat.le_of_ble_eq_true rfl, Nat.le_of_ble_eq_true rfl⟩, (hts _ (List.mem_cons_of_mem _ wd_159)), trivial⟩ (kk_preS hK hP hz hBz) rfl rfl hl.1 rfl (lv_room (Nat.le_of_ble_eq_true rfl)) d_Mea_ofSubject_12 ⟨Nat.le_of_ble_eq_true rfl, Nat.le_of_ble_eq_true rfl⟩)) (fun r3 hr3 => ?_)
  subst hr3
  refine lv_istore hx hb d_Mea_ofSubject_15 hl (by decide) rfl (fun ls hl => ?_)
  have hl : lv_has ls 10 [(5, .int (nI (n / 40) - nI 1)), (4, .int (nI (n / 8 % 5) - nI 1)), (3, .int (nI (n % 8))), (0, .ref a), (1, .int (nI n)), (2, .int (nI y))] := hl
  refine lv_iload hx hb d_Mea_ofSubject_17 (lv_at hl 1 rfl) ?_
  refine lv_iconst (v := (-1)) hx hb d_Mea_ofSubject_19 (by decide) ?_
  refine lv_icmp_ne (tgt := 36) hx hb d_Mea_ofSubject_20 (by decide) (fun cc4 => ?_) (fun cc4 => ?_)
  · have cc4 : ¬ n / 8 % 5 = 0 := fun q => cc4 ((kk_nm (by omega)).mpr q)
    refine lv_iload hx hb d_Mea_ofSubject_36 (lv_at hl 0 rfl) ?_
    refine lv_iconst (v := (-1)) hx hb d_Mea_ofSubject_38 (by decide) ?_
    refine lv_icmp_ne (tgt := 55) hx hb d_Mea_ofSubject_39 (by decide) (fun cc5 => ?_) (fun cc5 => ?_)
    · have cc5 : ¬ n / 40 = 0 := fun q => cc5 ((kk_nm (by omega)).mpr q)
      refine lv_sipush (v := nI 1000) hx hb d_Mea_ofSubject_55 (by decide) ?_
      refine lv_istore hx hb d_Mea_ofSubject_58 hl (by decide) rfl (fun ls hl => ?_)
      have hl : lv_has ls 10 [(6, .int (nI 1000)), (5, .int (nI (n / 40) - nI 1)), (4, .int (nI (n / 8 % 5) - nI 1)), (3, .int (nI (n % 8))), (0, .ref a), (1, .int (nI n)), (2, .int (nI y))] := hl
      refine lv_iconst (v := nI 0) hx hb d_Mea_ofSubject_60 (by decide) ?_
      refine lv_istore hx hb d_Mea_ofSubject_61 hl (by decide) rfl (fun ls hl => ?_)
      have hl : lv_has ls 10 [(7, .int (nI 0)), (6, .int (nI 1000)), (5, .int (nI (n / 40) - nI 1)), (4, .int (nI (n / 8 % 5) - nI 1)), (3, .int (nI (n % 8))), (0, .ref a), (1, .int (nI n)), (2, .int (nI y))] := hl
      have lp6 : ∀ (d : Nat) (k : Nat) (ls : Array Slot), d = 8 - k → (k ≤ 8) → lv_has ls 10 [(7, .int (nI k)), (6, .int (nI (dm_mins (fun z => dm_s (g (32 * (n % 8) + 8 * (n / 8 % 5 - 1) + z)) (g (32 * z + 8 * (n / 40 - 1) + y))) k))), (5, .int (nI (n / 40) - nI 1)), (4, .int (nI (n / 8 % 5) - nI 1)), (3, .int (nI (n % 8))), (0, .ref a), (1, .int (nI n)), (2, .int (nI y))] → W p l e (headSpec ws_Mea_ofSubject (kk_rm 1 0 0)).room s m ([.ref a, .int (nI n), .int (nI y)]).toArray below meth c s.heap [] 0 0 (MQ below (vp_Si (fun r => r = nI (dm_ofs g n y))) ([.ref a, .int (nI n), .int (nI y)]).toArray s 0 0 (fun _ => False)) (F0 m 63 ls []) := by
        intro d
        induction d using Nat.strongRecOn with
        | ind d ih =>
          intro k ls hd hk hl
          refine lv_iload hx hb d_Mea_ofSubject_63 (lv_at hl 0 rfl) ?_
          refine lv_bipush (v := nI 8) hx hb d_Mea_ofSubject_65 (by decide) ?_
          refine lv_icmp_ge (tgt := 120) hx hb d_Mea_ofSubject_67 (by decide) (fun cc7 => ?_) (fun cc7 => ?_)
          · have cc7 : 8 ≤ k := (nI_leI (by omega) (by omega)).mp cc7
            refine lv_iload hx hb d_Mea_ofSubject_120 (lv_at hl 1 rfl) ?_
            exact W.iret hx hb hr (fun t ht hW => ⟨_, rfl, congrArg nI (by obtain rfl : k = 8 := (by omega); unfold dm_ofs; rw [if_neg cc4, if_neg cc5]), ht⟩) (fun q hq => by cases hq) d_Mea_ofSubject_122
          · have cc7 : ¬ (8 ≤ k) := fun q => cc7 ((nI_leI (by omega) (by omega)).mpr q)
            refine lv_aload_n hx hb d_Mea_ofSubject_70 rfl (lv_at hl 5 rfl) ?_
            refine mm_get (D := D) (C := n_Mea) (T := T_Mea) (N := 1) (v := .ref ar) hx hb hts lay_Mea hown hK.1 hP h_0 rfl 0 (by decide) (hts _ (List.mem_cons_of_mem _ wd_47)) (fun _ h9 => h9) rfl d_Mea_ofSubject_71 ?_
            refine lv_iload_n hx hb d_Mea_ofSubject_74 rfl (lv_at hl 4 rfl) ?_
            refine lv_iload hx hb d_Mea_ofSubject_75 (lv_at hl 3 rfl) ?_
            refine kk_top (pk_sub (by omega)) ?_
            refine lv_iload hx hb d_Mea_ofSubject_77 (lv_at hl 0 rfl) ?_
            refine vp_callSi (va_Run.run (va_runS (As := [.int (nI (n % 8)), .int (nI (n / 8 % 5 - 1)), .int (nI k)]) (rest := [.ref ar]) ⟨hx, hb, hml, hown, hts⟩ (c_Mea_placeOf l (by omega) (by omega) (by omega)) (va_cwS 3 hts (gW_in (hd := [_, _, _, _]) (kk_4 wd_326 wd_327 wd_3 cw_Mea_placeOf)) rfl rfl rfl ds_Mea_placeOf ⟨Nat.le_of_ble_eq_true rfl, Nat.le_of_ble_eq_true rfl⟩) (kk_preS hK hP hz hBz) rfl rfl hl.1 rfl (lv_room (Nat.le_of_ble_eq_true rfl)) d_Mea_ofSubject_79 ⟨Nat.le_of_ble_eq_true rfl, Nat.le_of_ble_eq_true rfl⟩)) (fun r8 hr8 => ?_)
            subst hr8
            refine mm_iald hx hb hK.1 hP 0 h_1 rfl (32 * (n % 8) + 8 * (n / 8 % 5 - 1) + k) rfl (by omega) (by decide) d_Mea_ofSubject_82 ?_
            refine W.eq (g2 := F0 m 83 ls [.int (nI (g (32 * (n % 8) + 8 * (n / 8 % 5 - 1) + k)))]) rfl ?_
            refine lv_istore hx hb d_Mea_ofSubject_83 hl (by decide) rfl (fun ls hl => ?_)
            have hl : lv_has ls 10 [(8, .int (nI (g (32 * (n % 8) + 8 * (n / 8 % 5 - 1) + k)))), (7, .int (nI k)), (6, .int (nI (dm_mins (fun z => dm_s (g (32 * (n % 8) + 8 * (n / 8 % 5 - 1) + z)) (g (32 * z + 8 * (n / 40 - 1) + y))) k))), (5, .int (nI (n / 40) - nI 1)), (4, .int (nI (n / 8 % 5) - nI 1)), (3, .int (nI (n % 8))), (0, .ref a), (1, .int (nI n)), (2, .int (nI y))] := hl
            refine lv_aload_n hx hb d_Mea_ofSubject_85 rfl (lv_at hl 6 rfl) ?_
            refine mm_get (D := D) (C := n_Mea) (T := T_Mea) (N := 1) (v := .ref ar) hx hb hts lay_Mea hown hK.1 hP h_0 rfl 0 (by decide) (hts _ (List.mem_cons_of_mem _ wd_47)) (fun _ h9 => h9) rfl d_Mea_ofSubject_86 ?_
            refine lv_iload hx hb d_Mea_ofSubject_89 (lv_at hl 1 rfl) ?_
            refine lv_iload hx hb d_Mea_ofSubject_91 (lv_at hl 3 rfl) ?_
            refine kk_top (pk_sub (by omega)) ?_
            refine lv_iload_n hx hb d_Mea_ofSubject_93 rfl (lv_at hl 8 rfl) ?_
            refine vp_callSi (va_Run.run (va_runS (As := [.int (nI k), .int (nI (n / 40 - 1)), .int (nI y)]) (rest := [.ref ar]) ⟨hx, hb, hml, hown, hts⟩ (c_Mea_placeOf l (by omega) (by omega) (by omega)) (va_cwS 3 hts (gW_in (hd := [_, _, _, _]) (kk_4 wd_326 wd_327 wd_3 cw_Mea_placeOf)) rfl rfl rfl ds_Mea_placeOf ⟨Nat.le_of_ble_eq_true rfl, Nat.le_of_ble_eq_true rfl⟩) (kk_preS hK hP hz hBz) rfl rfl hl.1 rfl (lv_room (Nat.le_of_ble_eq_true rfl)) d_Mea_ofSubject_94 ⟨Nat.le_of_ble_eq_true rfl, Nat.le_of_ble_eq_true rfl⟩)) (fun r9 hr9 => ?_)
            subst hr9
            refine mm_iald hx hb hK.1 hP 0 h_1 rfl (32 * k + 8 * (n / 40 - 1) + y) rfl (by omega) (by decide) d_Mea_ofSubject_97 ?_
            refine W.eq (g2 := F0 m 98 ls [.int (nI (g (32 * k + 8 * (n / 40 - 1) + y)))]) rfl ?_
            refine lv_istore hx hb d_Mea_ofSubject_98 hl (by decide) rfl (fun ls hl => ?_)
            have hl : lv_has ls 10 [(9, .int (nI (g (32 * k + 8 * (n / 40 - 1) + y)))), (8, .int (nI (g (32 * (n % 8) + 8 * (n / 8 % 5 - 1) + k)))), (7, .int (nI k)), (6, .int (nI (dm_mins (fun z => dm_s (g (32 * (n % 8) + 8 * (n / 8 % 5 - 1) + z)) (g (32 * z + 8 * (n / 40 - 1) + y))) k))), (5, .int (nI (n / 40) - nI 1)), (4, .int (nI (n / 8 % 5) - nI 1)), (3, .int (nI (n % 8))), (0, .ref a), (1, .int (nI n)), (2, .int (nI y))] := hl
            refine lv_iload hx hb d_Mea_ofSubject_100 (lv_at hl 3 rfl) ?_
            refine lv_iload hx hb d_Mea_ofSubject_102 (lv_at hl 1 rfl) ?_
            refine lv_iload hx hb d_Mea_ofSubject_104 (lv_at hl 0 rfl) ?_
            have hq1 := hg (32 * (n % 8) + 8 * (n / 8 % 5 - 1) + k)
            have hq2 := hg (32 * k + 8 * (n / 40 - 1) + y)
            refine vp_callSi (va_Run.run (va_runSN (As := [.int (nI (g (32 * (n % 8) + 8 * (n / 8 % 5 - 1) + k))), .int (nI (g (32 * k + 8 * (n / 40 - 1) + y)))]) (rest := [.int (nI (dm_mins (fun z => dm_s (g (32 * (n % 8) + 8 * (n / 8 % 5 - 1) + z)) (g (32 * z + 8 * (n / 40 - 1) + y))) k))]) ⟨hx, hb, hml, hown, hts⟩ (c_X_sumOf l (by omega) (by omega)) ⟨va_cnB 2 hts (gW_in (hd := [_]) (kk_1 cw_X_sumOf)) rfl rfl rfl (hK.2.1 _ nw_338 rfl) (hts _ (List.mem_cons_of_mem _ wd_1)) ds_X_sumOf ⟨Nat.le_of_ble_eq_true rfl, Nat.le_of_ble_eq_true rfl⟩, (hts _ (List.mem_cons_of_mem _ wd_339)), trivial⟩ (kk_preS hK hP hz hBz) rfl rfl hl.1 rfl (lv_room (Nat.le_of_ble_eq_true rfl)) d_Mea_ofSubject_106 ⟨Nat.le_of_ble_eq_true rfl, Nat.le_of_ble_eq_true rfl⟩)) (fun r10 hr10 => ?_)
            subst hr10
            refine va_mmin hx hb (by rw [hml]; exact hl.1.symm) hown (hts _ (List.mem_cons_of_mem _ wd_341)) (hts _ (List.mem_cons_of_mem _ wd_342)) (hts _ (List.mem_cons_of_mem _ wd_13)) (hts _ (List.mem_cons_of_mem _ wd_math_min)) (Nat.le_of_ble_eq_true rfl) (Nat.le_of_ble_eq_true rfl) (Nat.zero_le _) (Nat.zero_le _) d_Mea_ofSubject_109 ?_
            refine kk_top (kk_min (Nat.lt_of_le_of_lt (dm_mins_le _ _) (by decide)) (Nat.lt_of_le_of_lt (dm_s_le _ _) (by decide))) ?_
            refine lv_istore hx hb d_Mea_ofSubject_112 hl (by decide) rfl (fun ls hl => ?_)
            have hl : lv_has ls 10 [(6, .int (nI (dm_mins (fun z => dm_s (g (32 * (n % 8) + 8 * (n / 8 % 5 - 1) + z)) (g (32 * z + 8 * (n / 40 - 1) + y))) (k + 1)))), (9, .int (nI (g (32 * k + 8 * (n / 40 - 1) + y)))), (8, .int (nI (g (32 * (n % 8) + 8 * (n / 8 % 5 - 1) + k)))), (7, .int (nI k)), (5, .int (nI (n / 40) - nI 1)), (4, .int (nI (n / 8 % 5) - nI 1)), (3, .int (nI (n % 8))), (0, .ref a), (1, .int (nI n)), (2, .int (nI y))] := hl
            refine lv_iinc (k := 3) (v := nI (k + 1)) hx hb d_Mea_ofSubject_114 hl rfl (kk_inc _) (by decide) rfl (fun ls hl => ?_)
            have hl : lv_has ls 10 [(7, .int (nI (k + 1))), (6, .int (nI (dm_mins (fun z => dm_s (g (32 * (n % 8) + 8 * (n / 8 % 5 - 1) + z)) (g (32 * z + 8 * (n / 40 - 1) + y))) (k + 1)))), (9, .int (nI (g (32 * k + 8 * (n / 40 - 1) + y)))), (8, .int (nI (g (32 * (n % 8) + 8 * (n / 8 % 5 - 1) + k)))), (5, .int (nI (n / 40) - nI 1)), (4, .int (nI (n / 8 % 5) - nI 1)), (3, .int (nI (n % 8))), (0, .ref a), (1, .int (nI n)), (2, .int (nI y))] := hl
            refine lv_goto (tgt := 63) hx hb d_Mea_ofSubject_117 (by decide) ?_
            exact ih _ (by omega) (k + 1) ls rfl (by omega) (lv_sub hl [0, 1, 4, 5, 6, 7, 8, 9] rfl)
      exact lp6 _ 0 _ rfl (by omega) (lv_sub hl [0, 1, 2, 3, 4, 5, 6, 7] rfl)
    · have cc5 : n / 40 = 0 := (kk_nm (by omega)).mp cc5
      refine lv_aload_n hx hb d_Mea_ofSubject_42 rfl (lv_at hl 3 rfl) ?_
      refine mm_get (D := D) (C := n_Mea) (T := T_Mea) (N := 1) (v := .ref ar) hx hb hts lay_Mea hown hK.1 hP h_0 rfl 0 (by decide) (hts _ (List.mem_cons_of_mem _ wd_47)) (fun _ h9 => h9) rfl d_Mea_ofSubject_43 ?_
      refine lv_iload_n hx hb d_Mea_ofSubject_46 rfl (lv_at hl 2 rfl) ?_
      refine lv_iload hx hb d_Mea_ofSubject_47 (lv_at hl 1 rfl) ?_
      refine kk_top (pk_sub (by omega)) ?_
      refine lv_iload_n hx hb d_Mea_ofSubject_49 rfl (lv_at hl 5 rfl) ?_
      refine vp_callSi (va_Run.run (va_runS (As := [.int (nI (n % 8)), .int (nI (n / 8 % 5 - 1)), .int (nI y)]) (rest := [.ref ar]) ⟨hx, hb, hml, hown, hts⟩ (c_Mea_placeOf l (by omega) (by omega) (by omega)) (va_cwS 3 hts (gW_in (hd := [_, _, _, _]) (kk_4 wd_326 wd_327 wd_3 cw_Mea_placeOf)) rfl rfl rfl ds_Mea_placeOf ⟨Nat.le_of_ble_eq_true rfl, Nat.le_of_ble_eq_true rfl⟩) (kk_preS hK hP hz hBz) rfl rfl hl.1 rfl (lv_room (Nat.le_of_ble_eq_true rfl)) d_Mea_ofSubject_50 ⟨Nat.le_of_ble_eq_true rfl, Nat.le_of_ble_eq_true rfl⟩)) (fun r11 hr11 => ?_)
      subst hr11
      refine mm_iald hx hb hK.1 hP 0 h_1 rfl (32 * (n % 8) + 8 * (n / 8 % 5 - 1) + y) rfl (by omega) (by decide) d_Mea_ofSubject_53 ?_
      refine W.eq (g2 := F0 m 54 ls [.int (nI (g (32 * (n % 8) + 8 * (n / 8 % 5 - 1) + y)))]) rfl ?_
      exact W.iret hx hb hr (fun t ht hW => ⟨_, rfl, congrArg nI (by unfold dm_ofs; rw [if_neg cc4, if_pos cc5]), ht⟩) (fun q hq => by cases hq) d_Mea_ofSubject_54
  · have cc4 : n / 8 % 5 = 0 := (kk_nm (by omega)).mp cc4
    refine lv_iload_n hx hb d_Mea_ofSubject_23 rfl (lv_at hl 2 rfl) ?_
    refine lv_iload_n hx hb d_Mea_ofSubject_24 rfl (lv_at hl 5 rfl) ?_
    refine lv_icmp_ne (tgt := 32) hx hb d_Mea_ofSubject_25 (by decide) (fun cc12 => ?_) (fun cc12 => ?_)
    · have cc12 : ¬ (n % 8 = y) := fun q => cc12 ((nI_eq (by omega) (by omega)).mpr q)
      refine lv_sipush (v := nI 1000) hx hb d_Mea_ofSubject_32 (by decide) ?_
      exact W.iret hx hb hr (fun t ht hW => ⟨_, rfl, congrArg nI (by unfold dm_ofs; rw [if_pos cc4, if_neg cc12]), ht⟩) (fun q hq => by cases hq) d_Mea_ofSubject_35
    · have cc12 : n % 8 = y := (nI_eq (by omega) (by omega)).mp cc12
      refine lv_iconst (v := nI 0) hx hb d_Mea_ofSubject_28 (by decide) ?_
      refine lv_goto (tgt := 35) hx hb d_Mea_ofSubject_29 (by decide) ?_
      exact W.iret hx hb hr (fun t ht hW => ⟨_, rfl, congrArg nI (by unfold dm_ofs; rw [if_pos cc4, if_pos cc12]), ht⟩) (fun q hq => by cases hq) d_Mea_ofSubject_35
theorem d_Arr_fill_0 : decode k_Arr_fill 0 = .ok (.iconst 0, 1) := by decide +kernel
theorem d_Arr_fill_1 : decode k_Arr_fill 1 = .ok (.istore_n 2, 1) := by decide +kernel
theorem d_Arr_fill_2 : decode k_Arr_fill 2 = .ok (.aload_n 0, 1) := by decide +kernel
theorem d_Arr_fill_3 : decode k_Arr_fill 3 = .ok (.arraylength, 1) := by decide +kernel
theorem d_Arr_fill_4 : decode k_Arr_fill 4 = .ok (.istore_n 3, 1) := by decide +kernel
theorem d_Arr_fill_5 : decode k_Arr_fill 5 = .ok (.iload_n 2, 1) := by decide +kernel
theorem d_Arr_fill_6 : decode k_Arr_fill 6 = .ok (.iload_n 3, 1) := by decide +kernel
theorem d_Arr_fill_7 : decode k_Arr_fill 7 = .ok (.if_icmp .ge 13, 3) := by decide +kernel
theorem d_Arr_fill_10 : decode k_Arr_fill 10 = .ok (.aload_n 0, 1) := by decide +kernel
theorem d_Arr_fill_11 : decode k_Arr_fill 11 = .ok (.iload_n 2, 1) := by decide +kernel
theorem d_Arr_fill_12 : decode k_Arr_fill 12 = .ok (.iload_n 1, 1) := by decide +kernel
theorem d_Arr_fill_13 : decode k_Arr_fill 13 = .ok (.iastore, 1) := by decide +kernel
theorem d_Arr_fill_14 : decode k_Arr_fill 14 = .ok (.iinc 2 1, 3) := by decide +kernel
theorem d_Arr_fill_17 : decode k_Arr_fill 17 = .ok (.goto (-12), 3) := by decide +kernel
theorem d_Arr_fill_20 : decode k_Arr_fill 20 = .ok (.return_, 1) := by decide +kernel
set_option maxHeartbeats 4000000 in
set_option maxRecDepth 100000 in
theorem c_Arr_fill (l : Launch) {B : Nat} {D : va_G} {cI cZ cQ : ClassId} {w : mm_M} {sz : Nat} {a n x : Nat} {g : Nat → Nat} (h_0 : w a = some (.inl (cI, n, .inl (fun i => nI (g i))))) (hn : n < 2 ^ 30) : Met l y_Arr_fill ws_Arr_fill (kk_rm 0 0 0) (kk_Pc B D cI cZ cQ [.ref a, .int (nI x)] w sz) (kk_Qv B D (fun w' sz' => w' = mm_up w a (.inl (cI, n, .inl (fun i => nI ((fun _ => x) i)))) ∧ sz' = sz)) 0 0 (fun q => B ≤ q) := by
  refine Met.ofW (cc := k_Arr_fill) (maxL := 4) (ret := none) (by decide) rfl ?_
  intro p e s m args below meth c s₁ BB hml hv
  obtain ⟨rfl, hK, hP, hz, hBz⟩ := hv
  have hx := BB.exec
  have hb := BB.bytes
  have hr := BB.returns
  have hts := atoms_spec (ws := ws_Arr_fill) BB.pre
  have hown : s.vm.findClass "java/util/Arrays" = some m.cls := findClass_of_methodNamed BB.named
  have hlocks := BB.notSynchronized
  have hS : mm_S B s.heap s.heap [] := va_S.rf
  have hl := lv_entry ([.ref a, .int (nI x)]) (n := 4) (Nat.le_of_ble_eq_true rfl)
  rw [lg_entry_eq]
  generalize (lg_sl ([.ref a, .int (nI x)]) ++ List.replicate (4 - (lg_sl ([.ref a, .int (nI x)])).length) Slot.unset).toArray = ls at hl ⊢
  have hl : lv_has ls 4 [(0, .ref a), (1, .int (nI x))] := hl
  refine lv_iconst (v := nI 0) hx hb d_Arr_fill_0 (by decide) ?_
  refine lv_istore_n hx hb d_Arr_fill_1 rfl hl (by decide) rfl (fun ls hl => ?_)
  have hl : lv_has ls 4 [(2, .int (nI 0)), (0, .ref a), (1, .int (nI x))] := hl
  refine lv_aload_n hx hb d_Arr_fill_2 rfl (lv_at hl 1 rfl) ?_
  refine mm_alen hx hb hK.1 hP 0 h_0 rfl d_Arr_fill_3 ?_
  refine lv_istore_n hx hb d_Arr_fill_4 rfl hl (by decide) rfl (fun ls hl => ?_)
  have hl : lv_has ls 4 [(3, .int (nI n)), (2, .int (nI 0)), (0, .ref a), (1, .int (nI x))] := hl
  have lp1 : ∀ (d : Nat) (k : Nat) (w2 : mm_M) (H : Heap) (locs : List Loc) (ls : Array Slot), d = n - k → (mm_P B D kc w2 H) → (H.size = sz) → (mm_S B s.heap H locs) → (∀ j, j ≠ a → w2 j = w j) → (w2 a = some (.inl (cI, n, .inl (fun i => nI ((fun j => if j < k then x else g j) i))))) → (k ≤ n) → lv_has ls 4 [(3, .int (nI n)), (2, .int (nI k)), (0, .ref a), (1, .int (nI x))] → W p l e (headSpec ws_Arr_fill (kk_rm 0 0 0)).room s m ([.ref a, .int (nI x)]).toArray below meth c H locs 0 0 (MQ below (kk_Qv B D (fun w' sz' => w' = mm_up w a (.inl (cI, n, .inl (fun i => nI ((fun _ => x) i)))) ∧ sz' = sz)) ([.ref a, .int (nI x)]).toArray s 0 0 (fun q => B ≤ q)) (F0 m 5 ls []) := by
    intro d
    induction d using Nat.strongRecOn with
    | ind d ih =>
      intro k w2 H locs ls hd hP hz hS frw2 fw2_0 hk hl
      refine lv_iload_n hx hb d_Arr_fill_5 rfl (lv_at hl 1 rfl) ?_
      refine lv_iload_n hx hb d_Arr_fill_6 rfl (lv_at hl 0 rfl) ?_
      refine lv_icmp_ge (tgt := 20) hx hb d_Arr_fill_7 (by decide) (fun cc3 => ?_) (fun cc3 => ?_)
      · have cc3 : n ≤ k := (nI_leI (by omega) (by omega)).mp cc3
        have hP := hP.norm (g := fun i => nI ((fun _ => x) i)) fw2_0 (fun j hj => by show nI (if j < k then x else g j) = nI x; rw [if_pos (by omega)])
        obtain ⟨w4, hw4⟩ : ∃ z : mm_M, z = mm_up w2 a (.inl (cI, n, .inl (fun i => nI ((fun _ => x) i)))) := ⟨_, rfl⟩
        have hP : mm_P B D kc w4 H := by rw [hw4]; exact hP
        have fr4 : ∀ j, j ≠ a → w4 j = w2 j := fun j h9 => by rw [hw4]; exact mm_un h9
        have fa4 : w4 a = some (.inl (cI, n, .inl (fun i => nI ((fun _ => x) i)))) := by rw [hw4]; exact mm_us _ _ _
        exact W.vret hx hb hr (fun t ht hW => ⟨⟨(w4, sz), rfl, ⟨mm_e1 fa4 (fun j g0 => (fr4 j g0).trans (frw2 j g0)), rfl⟩, by rw [ht]; exact hP, by rw [ht]; exact hz⟩, hS.F ht⟩) hS.2.2 d_Arr_fill_20
      · have cc3 : ¬ (n ≤ k) := fun q => cc3 ((nI_leI (by omega) (by omega)).mpr q)
        refine lv_aload_n hx hb d_Arr_fill_10 rfl (lv_at hl 2 rfl) ?_
        refine lv_iload_n hx hb d_Arr_fill_11 rfl (lv_at hl 1 rfl) ?_
        refine lv_iload_n hx hb d_Arr_fill_12 rfl (lv_at hl 3 rfl) ?_
        refine mm_iast hx hb hK.1 hP hS 0 fw2_0 rfl k rfl (by omega) (by omega) d_Arr_fill_13 (fun H locs hP hz1 hS => ?_)
        rw [show upd (fun i => nI ((fun j => if j < k then x else g j) i)) k (nI x) = fun i => nI ((va_up (fun j => if j < k then x else g j) k x) i) from kk_upn _ _ _] at hP
        have hz : H.size = sz := hz1.trans hz
        obtain ⟨w5, hw5⟩ : ∃ z : mm_M, z = mm_up w2 a (.inl (cI, n, .inl (fun i => nI ((va_up (fun j => if j < k then x else g j) k x) i)))) := ⟨_, rfl⟩
        have hP : mm_P B D kc w5 H := by rw [hw5]; exact hP
        have fr5 : ∀ j, j ≠ a → w5 j = w2 j := fun j h9 => by rw [hw5]; exact mm_un h9
        have fa5 : w5 a = some (.inl (cI, n, .inl (fun i => nI ((va_up (fun j => if j < k then x else g j) k x) i)))) := by rw [hw5]; exact mm_us _ _ _
        refine lv_iinc (k := 1) (v := nI (k + 1)) hx hb d_Arr_fill_14 hl rfl (kk_inc _) (by decide) rfl (fun ls hl => ?_)
        have hl : lv_has ls 4 [(2, .int (nI (k + 1))), (3, .int (nI n)), (0, .ref a), (1, .int (nI x))] := hl
        refine lv_goto (tgt := 5) hx hb d_Arr_fill_17 (by decide) ?_
        exact ih _ (by omega) (k + 1) w5 _ _ ls rfl hP hz hS (fun j g0 => (fr5 j g0).trans (frw2 j g0)) (by rw [← ru_fill]; exact fa5) (by omega) (lv_sub hl [1, 0, 2, 3] rfl)
  exact lp1 _ 0 w _ _ _ rfl hP hz hS (fun _ _ => rfl) h_0 (by omega) (lv_sub hl [0, 1, 2, 3] rfl)
theorem d_Mea_improveBy_0 : decode k_Mea_improveBy 0 = .ok (.iconst 0, 1) := by decide +kernel
theorem d_Mea_improveBy_1 : decode k_Mea_improveBy 1 = .ok (.istore_n 2, 1) := by decide +kernel
theorem d_Mea_improveBy_2 : decode k_Mea_improveBy 2 = .ok (.iconst 0, 1) := by decide +kernel
theorem d_Mea_improveBy_3 : decode k_Mea_improveBy 3 = .ok (.istore_n 3, 1) := by decide +kernel
theorem d_Mea_improveBy_4 : decode k_Mea_improveBy 4 = .ok (.iload_n 3, 1) := by decide +kernel
theorem d_Mea_improveBy_5 : decode k_Mea_improveBy 5 = .ok (.bipush 8, 2) := by decide +kernel
theorem d_Mea_improveBy_7 : decode k_Mea_improveBy 7 = .ok (.if_icmp .ge 61, 3) := by decide +kernel
theorem d_Mea_improveBy_10 : decode k_Mea_improveBy 10 = .ok (.aload_n 1, 1) := by decide +kernel
theorem d_Mea_improveBy_11 : decode k_Mea_improveBy 11 = .ok (.getfield 51, 3) := by decide +kernel
theorem d_Mea_improveBy_14 : decode k_Mea_improveBy 14 = .ok (.aload_n 1, 1) := by decide +kernel
theorem d_Mea_improveBy_15 : decode k_Mea_improveBy 15 = .ok (.getfield 54, 3) := by decide +kernel
theorem d_Mea_improveBy_18 : decode k_Mea_improveBy 18 = .ok (.iload_n 3, 1) := by decide +kernel
theorem d_Mea_improveBy_19 : decode k_Mea_improveBy 19 = .ok (.invokestatic 57, 3) := by decide +kernel
theorem d_Mea_improveBy_22 : decode k_Mea_improveBy 22 = .ok (.istore 4, 2) := by decide +kernel
theorem d_Mea_improveBy_24 : decode k_Mea_improveBy 24 = .ok (.iconst 1, 1) := by decide +kernel
theorem d_Mea_improveBy_25 : decode k_Mea_improveBy 25 = .ok (.aload_n 0, 1) := by decide +kernel
theorem d_Mea_improveBy_26 : decode k_Mea_improveBy 26 = .ok (.aload_n 1, 1) := by decide +kernel
theorem d_Mea_improveBy_27 : decode k_Mea_improveBy 27 = .ok (.getfield 61, 3) := by decide +kernel
theorem d_Mea_improveBy_30 : decode k_Mea_improveBy 30 = .ok (.iload_n 3, 1) := by decide +kernel
theorem d_Mea_improveBy_31 : decode k_Mea_improveBy 31 = .ok (.invokevirtual 64, 3) := by decide +kernel
theorem d_Mea_improveBy_34 : decode k_Mea_improveBy 34 = .ok (.invokestatic 68, 3) := by decide +kernel
theorem d_Mea_improveBy_37 : decode k_Mea_improveBy 37 = .ok (.istore 5, 2) := by decide +kernel
theorem d_Mea_improveBy_39 : decode k_Mea_improveBy 39 = .ok (.iload 5, 2) := by decide +kernel
theorem d_Mea_improveBy_41 : decode k_Mea_improveBy 41 = .ok (.aload_n 0, 1) := by decide +kernel
theorem d_Mea_improveBy_42 : decode k_Mea_improveBy 42 = .ok (.getfield 9, 3) := by decide +kernel
theorem d_Mea_improveBy_45 : decode k_Mea_improveBy 45 = .ok (.iload 4, 2) := by decide +kernel
theorem d_Mea_improveBy_47 : decode k_Mea_improveBy 47 = .ok (.iaload, 1) := by decide +kernel
theorem d_Mea_improveBy_48 : decode k_Mea_improveBy 48 = .ok (.if_icmp .ge 14, 3) := by decide +kernel
theorem d_Mea_improveBy_51 : decode k_Mea_improveBy 51 = .ok (.aload_n 0, 1) := by decide +kernel
theorem d_Mea_improveBy_52 : decode k_Mea_improveBy 52 = .ok (.getfield 9, 3) := by decide +kernel
theorem d_Mea_improveBy_55 : decode k_Mea_improveBy 55 = .ok (.iload 4, 2) := by decide +kernel
theorem d_Mea_improveBy_57 : decode k_Mea_improveBy 57 = .ok (.iload 5, 2) := by decide +kernel
theorem d_Mea_improveBy_59 : decode k_Mea_improveBy 59 = .ok (.iastore, 1) := by decide +kernel
theorem d_Mea_improveBy_60 : decode k_Mea_improveBy 60 = .ok (.iconst 1, 1) := by decide +kernel
theorem d_Mea_improveBy_61 : decode k_Mea_improveBy 61 = .ok (.istore_n 2, 1) := by decide +kernel
theorem d_Mea_improveBy_62 : decode k_Mea_improveBy 62 = .ok (.iinc 3 1, 3) := by decide +kernel
theorem d_Mea_improveBy_65 : decode k_Mea_improveBy 65 = .ok (.goto (-61), 3) := by decide +kernel
theorem d_Mea_improveBy_68 : decode k_Mea_improveBy 68 = .ok (.iload_n 2, 1) := by decide +kernel
theorem d_Mea_improveBy_69 : decode k_Mea_improveBy 69 = .ok (.ireturn, 1) := by decide +kernel
set_option maxHeartbeats 4000000 in
set_option maxRecDepth 100000 in
theorem c_Mea_improveBy (l : Launch) {B : Nat} {D : va_G} {cI cZ cQ : ClassId} {w : mm_M} {sz : Nat} {a ar q tm iss gn nm su : Nat} {g : Nat → Nat} (h_0 : w a = some (.inr (2, [.ref ar]))) (h_1 : w ar = some (.inl (cI, 256, .inl (fun i => nI (g i))))) (h_2 : w q = some (.inr (7, [.int (nI iss), .ref tm, .int (nI gn), .int (nI nm), .int (nI su)]))) (his : iss ≤ 7) (hnm : nm ≤ 3) (hsu : su < 200) (hg : ∀ j, g j ≤ 1000) (hne : ar ≠ a) (hne2 : ar ≠ q) : Met l y_Mea_improveBy ws_Mea_improveBy (kk_rm 2 0 0) (kk_Pc B D cI cZ cQ [.ref a, .ref q] w sz) (kk_Qi B D (fun r w' sz' => r = nI (if dm_flag (dm_upto (ru_n iss nm su) 8) g = true then 1 else 0) ∧ w' = mm_up w ar (.inl (cI, 256, .inl (fun i => nI ((dm_pass (dm_upto (ru_n iss nm su) 8) g) i)))) ∧ sz' = sz)) 0 0 (fun q => B ≤ q) := by
  refine Met.ofW (cc := k_Mea_improveBy) (maxL := 6) (ret := (some .boolean)) (by decide) rfl ?_
  intro p e s m args below meth c s₁ BB hml hv
  obtain ⟨rfl, hK, hP, hz, hBz⟩ := hv
  have hx := BB.exec
  have hb := BB.bytes
  have hr := BB.returns
  have hts := atoms_spec (ws := ws_Mea_improveBy) BB.pre
  have hown : s.vm.findClass "DelegationClosure$Meanings" = some m.cls := findClass_of_methodNamed BB.named
  have hlocks := BB.notSynchronized
  have hS : mm_S B s.heap s.heap [] := va_S.rf
  have hl := lv_entry ([.ref a, .ref q]) (n := 6) (Nat.le_of_ble_eq_true rfl)
  rw [lg_entry_eq]
  generalize (lg_sl ([.ref a, .ref q]) ++ List.replicate (6 - (lg_sl ([.ref a, .ref q])).length) Slot.unset).toArray = ls at hl ⊢
  have hl : lv_has ls 6 [(0, .ref a), (1, .ref q)] := hl
  refine lv_iconst (v := nI 0) hx hb d_Mea_improveBy_0 (by decide) ?_
  refine lv_istore_n hx hb d_Mea_improveBy_1 rfl hl (by decide) rfl (fun ls hl => ?_)
  have hl : lv_has ls 6 [(2, .int (nI 0)), (0, .ref a), (1, .ref q)] := hl
  refine lv_iconst (v := nI 0) hx hb d_Mea_improveBy_2 (by decide) ?_
  refine lv_istore_n hx hb d_Mea_improveBy_3 rfl hl (by decide) rfl (fun ls hl => ?_)
  have hl : lv_has ls 6 [(3, .int (nI 0)), (2, .int (nI 0)), (0, .ref a), (1, .ref q)] := hl
  have lp1 : ∀ (d : Nat) (k : Nat) (w2 : mm_M) (H : Heap) (locs : List Loc) (ls : Array Slot), d = 8 - k → (mm_P B D kc w2 H) → (H.size = sz) → (mm_S B s.heap H locs) → (∀ j, j ≠ ar → w2 j = w j) → (w2 ar = some (.inl (cI, 256, .inl (fun i => nI ((dm_pass (dm_upto (ru_n iss nm su) k) g) i))))) → (k ≤ 8) → lv_has ls 6 [(3, .int (nI k)), (2, .int (nI (if dm_flag (dm_upto (ru_n iss nm su) k) g = true then 1 else 0))), (0, .ref a), (1, .ref q)] → W p l e (headSpec ws_Mea_improveBy (kk_rm 2 0 0)).room s m ([.ref a, .ref q]).toArray below meth c H locs 0 0 (MQ below (kk_Qi B D (fun r w' sz' => r = nI (if dm_flag (dm_upto (ru_n iss nm su) 8) g = true then 1 else 0) ∧ w' = mm_up w ar (.inl (cI, 256, .inl (fun i => nI ((dm_pass (dm_upto (ru_n iss nm su) 8) g) i)))) ∧ sz' = sz)) ([.ref a, .ref q]).toArray s 0 0 (fun q => B ≤ q)) (F0 m 4 ls []) := by
    intro d
    induction d using Nat.strongRecOn with
    | ind d ih =>
      intro k w2 H locs ls hd hP hz hS frw2 fw2_0 hk hl
      have hgk := dm_pass_1000 (R := dm_upto (ru_n iss nm su) k) hg
      refine lv_iload_n hx hb d_Mea_improveBy_4 rfl (lv_at hl 0 rfl) ?_
      refine lv_bipush (v := nI 8) hx hb d_Mea_improveBy_5 (by decide) ?_
      refine lv_icmp_ge (tgt := 68) hx hb d_Mea_improveBy_7 (by decide) (fun cc3 => ?_) (fun cc3 => ?_)
      · have cc3 : 8 ≤ k := (nI_leI (by omega) (by omega)).mp cc3
        obtain rfl : k = 8 := by omega
        refine lv_iload_n hx hb d_Mea_improveBy_68 rfl (lv_at hl 1 rfl) ?_
        exact W.zret hx hb hr (kk_nar _) (fun t ht hW => ⟨⟨_, (w2, sz), rfl, ⟨rfl, mm_e1 fw2_0 (fun j g0 => frw2 j g0), rfl⟩, by rw [ht]; exact hP, by rw [ht]; exact hz⟩, hS.F ht⟩) hS.2.2 d_Mea_improveBy_69
      · have cc3 : ¬ (8 ≤ k) := fun q => cc3 ((nI_leI (by omega) (by omega)).mpr q)
        refine lv_aload_n hx hb d_Mea_improveBy_10 rfl (lv_at hl 3 rfl) ?_
        have f4 := (frw2 _ hne2.symm).trans (h_2)
        refine mm_get (D := D) (C := n_Nam) (T := T_Nam) (N := 5) (v := .int (nI iss)) hx hb hts lay_Nam hown hK.1 hP f4 rfl 0 (by decide) (hts _ (List.mem_cons_of_mem _ wd_183)) (fun x9 h9 => u_same (hts _ (List.mem_cons_of_mem _ wd_184)) x9 h9) rfl d_Mea_improveBy_11 ?_
        refine lv_aload_n hx hb d_Mea_improveBy_14 rfl (lv_at hl 3 rfl) ?_
        refine mm_get (D := D) (C := n_Nam) (T := T_Nam) (N := 5) (v := .int (nI nm)) hx hb hts lay_Nam hown hK.1 hP f4 rfl 3 (by decide) (hts _ (List.mem_cons_of_mem _ wd_177)) (fun _ h9 => h9) rfl d_Mea_improveBy_15 ?_
        refine lv_iload_n hx hb d_Mea_improveBy_18 rfl (lv_at hl 0 rfl) ?_
        refine vp_callSi (va_Run.run (va_runS (As := [.int (nI iss), .int (nI nm), .int (nI k)]) (rest := []) ⟨hx, hb, hml, hown, hts⟩ (c_Mea_placeOf l (by omega) (by omega) (by omega)) (va_cwS 3 hts (gW_in (hd := [_, _, _, _]) (kk_4 wd_326 wd_327 wd_3 cw_Mea_placeOf)) rfl rfl rfl ds_Mea_placeOf ⟨Nat.le_of_ble_eq_true rfl, Nat.le_of_ble_eq_true rfl⟩) (kk_preS hK hP hz hBz) rfl rfl hl.1 rfl (lv_room (Nat.le_of_ble_eq_true rfl)) d_Mea_improveBy_19 ⟨Nat.le_of_ble_eq_true rfl, Nat.le_of_ble_eq_true rfl⟩)) (fun r5 hr5 => ?_)
        subst hr5
        refine lv_istore hx hb d_Mea_improveBy_22 hl (by decide) rfl (fun ls hl => ?_)
        have hl : lv_has ls 6 [(4, .int (nI (32 * iss + 8 * nm + k))), (3, .int (nI k)), (2, .int (nI (if dm_flag (dm_upto (ru_n iss nm su) k) g = true then 1 else 0))), (0, .ref a), (1, .ref q)] := hl
        refine lv_iconst (v := nI 1) hx hb d_Mea_improveBy_24 (by decide) ?_
        refine lv_aload_n hx hb d_Mea_improveBy_25 rfl (lv_at hl 3 rfl) ?_
        refine lv_aload_n hx hb d_Mea_improveBy_26 rfl (lv_at hl 4 rfl) ?_
        refine mm_get (D := D) (C := n_Nam) (T := T_Nam) (N := 5) (v := .int (nI su)) hx hb hts lay_Nam hown hK.1 hP f4 rfl 4 (by decide) (hts _ (List.mem_cons_of_mem _ wd_180)) (fun _ h9 => h9) rfl d_Mea_improveBy_27 ?_
        refine lv_iload_n hx hb d_Mea_improveBy_30 rfl (lv_at hl 1 rfl) ?_
        have f6 := (frw2 _ hne.symm).trans (h_0)
        refine vp_callSi (va_Run.run (va_runV (As := [.int (nI su), .int (nI k)]) (rest := [.int (nI 1)]) ⟨hx, hb, hml, hown, hts⟩ (c_Mea_ofSubject l f6 fw2_0 (by omega) (by omega) hgk) (cwV 2 hts (gW_in (hd := [_, _, _, _, _]) (kk_5 wd_329 wd_330 wd_331 wd_3 cw_Mea_ofSubject)) rfl rfl rfl ⟨rfl, ds_Mea_ofSubject⟩ ⟨Nat.le_of_ble_eq_true rfl, Nat.le_of_ble_eq_true rfl⟩) (kk_preV hK hP hz hBz f6 rfl) rfl rfl hl.1 rfl (lv_room (Nat.le_of_ble_eq_true rfl)) d_Mea_improveBy_31 ⟨Nat.le_of_ble_eq_true rfl, Nat.le_of_ble_eq_true rfl⟩)) (fun r7 hr7 => ?_)
        subst hr7
        have hq1 := dm_ofs_le hgk su k
        refine vp_callSi (va_Run.run (va_runSN (As := [.int (nI 1), .int (nI (dm_ofs (dm_pass (dm_upto (ru_n iss nm su) k) g) su k))]) (rest := []) ⟨hx, hb, hml, hown, hts⟩ (c_X_sumOf l (by omega) (by omega)) ⟨va_cnB 2 hts (gW_in (hd := [_]) (kk_1 cw_X_sumOf)) rfl rfl rfl (hK.2.1 _ nw_338 rfl) (hts _ (List.mem_cons_of_mem _ wd_1)) ds_X_sumOf ⟨Nat.le_of_ble_eq_true rfl, Nat.le_of_ble_eq_true rfl⟩, (hts _ (List.mem_cons_of_mem _ wd_339)), trivial⟩ (kk_preS hK hP hz hBz) rfl rfl hl.1 rfl (lv_room (Nat.le_of_ble_eq_true rfl)) d_Mea_improveBy_34 ⟨Nat.le_of_ble_eq_true rfl, Nat.le_of_ble_eq_true rfl⟩)) (fun r8 hr8 => ?_)
        subst hr8
        refine lv_istore hx hb d_Mea_improveBy_37 hl (by decide) rfl (fun ls hl => ?_)
        have hl : lv_has ls 6 [(5, .int (nI (dm_s 1 (dm_ofs (dm_pass (dm_upto (ru_n iss nm su) k) g) su k)))), (4, .int (nI (32 * iss + 8 * nm + k))), (3, .int (nI k)), (2, .int (nI (if dm_flag (dm_upto (ru_n iss nm su) k) g = true then 1 else 0))), (0, .ref a), (1, .ref q)] := hl
        refine lv_iload hx hb d_Mea_improveBy_39 (lv_at hl 0 rfl) ?_
        refine lv_aload_n hx hb d_Mea_improveBy_41 rfl (lv_at hl 4 rfl) ?_
        refine mm_get (D := D) (C := n_Mea) (T := T_Mea) (N := 1) (v := .ref ar) hx hb hts lay_Mea hown hK.1 hP f6 rfl 0 (by decide) (hts _ (List.mem_cons_of_mem _ wd_47)) (fun _ h9 => h9) rfl d_Mea_improveBy_42 ?_
        refine lv_iload hx hb d_Mea_improveBy_45 (lv_at hl 1 rfl) ?_
        refine mm_iald hx hb hK.1 hP 0 fw2_0 rfl (32 * iss + 8 * nm + k) rfl (by omega) (by decide) d_Mea_improveBy_47 ?_
        refine W.eq (g2 := F0 m 48 ls [.int (nI ((dm_pass (dm_upto (ru_n iss nm su) k) g) (32 * iss + 8 * nm + k))), .int (nI (dm_s 1 (dm_ofs (dm_pass (dm_upto (ru_n iss nm su) k) g) su k)))]) rfl ?_
        have hq2 := dm_s_le 1 (dm_ofs (dm_pass (dm_upto (ru_n iss nm su) k) g) su k)
        have hq3 := hgk (32 * iss + 8 * nm + k)
        refine lv_icmp_ge (tgt := 62) hx hb d_Mea_improveBy_48 (by decide) (fun cc9 => ?_) (fun cc9 => ?_)
        · have cc9 : (dm_pass (dm_upto (ru_n iss nm su) k) g) (32 * iss + 8 * nm + k) ≤ dm_s 1 (dm_ofs (dm_pass (dm_upto (ru_n iss nm su) k) g) su k) := (nI_leI (by omega) (by omega)).mp cc9
          have e1 := dm_one_f (f := ru_n iss nm su) (g := g) (k := k) (t := 32 * iss + 8 * nm + k) (F := fun v => dm_s 1 (dm_ofs v su k)) rfl (Nat.not_lt.mpr cc9)
          rw [← e1.2] at hl
          refine lv_iinc (k := 2) (v := nI (k + 1)) hx hb d_Mea_improveBy_62 hl rfl (kk_inc _) (by decide) rfl (fun ls hl => ?_)
          have hl : lv_has ls 6 [(3, .int (nI (k + 1))), (5, .int (nI (dm_s 1 (dm_ofs (dm_pass (dm_upto (ru_n iss nm su) k) g) su k)))), (4, .int (nI (32 * iss + 8 * nm + k))), (2, .int (nI (if dm_flag (dm_upto (ru_n iss nm su) (k + 1)) g = true then 1 else 0))), (0, .ref a), (1, .ref q)] := hl
          refine lv_goto (tgt := 4) hx hb d_Mea_improveBy_65 (by decide) ?_
          exact ih _ (by omega) (k + 1) w2 _ _ ls rfl hP hz hS (fun j g0 => frw2 j g0) (by rw [e1.1]; exact fw2_0) (by omega) (lv_sub hl [0, 3, 4, 5] rfl)
        · have cc9 : ¬ ((dm_pass (dm_upto (ru_n iss nm su) k) g) (32 * iss + 8 * nm + k) ≤ dm_s 1 (dm_ofs (dm_pass (dm_upto (ru_n iss nm su) k) g) su k)) := fun q => cc9 ((nI_leI (by omega) (by omega)).mpr q)
          have e1 := dm_one_t (f := ru_n iss nm su) (g := g) (k := k) (t := 32 * iss + 8 * nm + k) (F := fun v => dm_s 1 (dm_ofs v su k)) rfl (Nat.lt_of_not_le cc9)
          refine lv_aload_n hx hb d_Mea_improveBy_51 rfl (lv_at hl 4 rfl) ?_
          refine mm_get (D := D) (C := n_Mea) (T := T_Mea) (N := 1) (v := .ref ar) hx hb hts lay_Mea hown hK.1 hP f6 rfl 0 (by decide) (hts _ (List.mem_cons_of_mem _ wd_47)) (fun _ h9 => h9) rfl d_Mea_improveBy_52 ?_
          refine lv_iload hx hb d_Mea_improveBy_55 (lv_at hl 1 rfl) ?_
          refine lv_iload hx hb d_Mea_improveBy_57 (lv_at hl 0 rfl) ?_
          refine mm_iast hx hb hK.1 hP hS 0 fw2_0 rfl (32 * iss + 8 * nm + k) rfl (by omega) (by decide) d_Mea_improveBy_59 (fun H locs hP hz1 hS => ?_)
          rw [show upd (fun i => nI ((dm_pass (dm_upto (ru_n iss nm su) k) g) i)) (32 * iss + 8 * nm + k) (nI (dm_s 1 (dm_ofs (dm_pass (dm_upto (ru_n iss nm su) k) g) su k))) = fun i => nI ((va_up (dm_pass (dm_upto (ru_n iss nm su) k) g) (32 * iss + 8 * nm + k) (dm_s 1 (dm_ofs (dm_pass (dm_upto (ru_n iss nm su) k) g) su k))) i) from kk_upn _ _ _] at hP
          have hz : H.size = sz := hz1.trans hz
          obtain ⟨w10, hw10⟩ : ∃ z : mm_M, z = mm_up w2 ar (.inl (cI, 256, .inl (fun i => nI ((va_up (dm_pass (dm_upto (ru_n iss nm su) k) g) (32 * iss + 8 * nm + k) (dm_s 1 (dm_ofs (dm_pass (dm_upto (ru_n iss nm su) k) g) su k))) i)))) := ⟨_, rfl⟩
          have hP : mm_P B D kc w10 H := by rw [hw10]; exact hP
          have fr10 : ∀ j, j ≠ ar → w10 j = w2 j := fun j h9 => by rw [hw10]; exact mm_un h9
          have fa10 : w10 ar = some (.inl (cI, 256, .inl (fun i => nI ((va_up (dm_pass (dm_upto (ru_n iss nm su) k) g) (32 * iss + 8 * nm + k) (dm_s 1 (dm_ofs (dm_pass (dm_upto (ru_n iss nm su) k) g) su k))) i)))) := by rw [hw10]; exact mm_us _ _ _
          refine lv_iconst (v := nI 1) hx hb d_Mea_improveBy_60 (by decide) ?_
          refine kk_top (kk_ift e1.2) ?_
          refine lv_istore_n hx hb d_Mea_improveBy_61 rfl hl (by decide) rfl (fun ls hl => ?_)
          have hl : lv_has ls 6 [(2, .int (nI (if dm_flag (dm_upto (ru_n iss nm su) (k + 1)) g = true then 1 else 0))), (5, .int (nI (dm_s 1 (dm_ofs (dm_pass (dm_upto (ru_n iss nm su) k) g) su k)))), (4, .int (nI (32 * iss + 8 * nm + k))), (3, .int (nI k)), (0, .ref a), (1, .ref q)] := hl
          refine lv_iinc (k := 3) (v := nI (k + 1)) hx hb d_Mea_improveBy_62 hl rfl (kk_inc _) (by decide) rfl (fun ls hl => ?_)
          have hl : lv_has ls 6 [(3, .int (nI (k + 1))), (2, .int (nI (if dm_flag (dm_upto (ru_n iss nm su) (k + 1)) g = true then 1 else 0))), (5, .int (nI (dm_s 1 (dm_ofs (dm_pass (dm_upto (ru_n iss nm su) k) g) su k)))), (4, .int (nI (32 * iss + 8 * nm + k))), (0, .ref a), (1, .ref q)] := hl
          refine lv_goto (tgt := 4) hx hb d_Mea_improveBy_65 (by decide) ?_
          exact ih _ (by omega) (k + 1) w10 _ _ ls rfl hP hz hS (fun j g0 => (fr10 j g0).trans (frw2 j g0)) (by rw [e1.1]; exact fa10) (by omega) (lv_sub hl [0, 1, 4, 5] rfl)
  exact lp1 _ 0 w _ _ _ rfl hP hz hS (fun _ _ => rfl) h_1 (by omega) (lv_sub hl [0, 1, 2, 3] rfl)
end
section
theorem d_Reg_standing_0 : decode k_Reg_standing 0 = .ok (.iload_n 1, 1) := by decide +kernel
theorem d_Reg_standing_1 : decode k_Reg_standing 1 = .ok (.ifCond .lt 11, 3) := by decide +kernel
theorem d_Reg_standing_4 : decode k_Reg_standing 4 = .ok (.iload_n 1, 1) := by decide +kernel
theorem d_Reg_standing_5 : decode k_Reg_standing 5 = .ok (.aload_n 0, 1) := by decide +kernel
theorem d_Reg_standing_6 : decode k_Reg_standing 6 = .ok (.getfield 17, 3) := by decide +kernel
theorem d_Reg_standing_9 : decode k_Reg_standing 9 = .ok (.if_icmp .lt 5, 3) := by decide +kernel
theorem d_Reg_standing_12 : decode k_Reg_standing 12 = .ok (.aconst_null, 1) := by decide +kernel
theorem d_Reg_standing_13 : decode k_Reg_standing 13 = .ok (.areturn, 1) := by decide +kernel
theorem d_Reg_standing_14 : decode k_Reg_standing 14 = .ok (.aload_n 0, 1) := by decide +kernel
theorem d_Reg_standing_15 : decode k_Reg_standing 15 = .ok (.getfield 11, 3) := by decide +kernel
theorem d_Reg_standing_18 : decode k_Reg_standing 18 = .ok (.iload_n 1, 1) := by decide +kernel
theorem d_Reg_standing_19 : decode k_Reg_standing 19 = .ok (.aaload, 1) := by decide +kernel
theorem d_Reg_standing_20 : decode k_Reg_standing 20 = .ok (.astore_n 2, 1) := by decide +kernel
theorem d_Reg_standing_21 : decode k_Reg_standing 21 = .ok (.aload_n 2, 1) := by decide +kernel
theorem d_Reg_standing_22 : decode k_Reg_standing 22 = .ok (.ifnull 10, 3) := by decide +kernel
theorem d_Reg_standing_25 : decode k_Reg_standing 25 = .ok (.aload_n 2, 1) := by decide +kernel
theorem d_Reg_standing_26 : decode k_Reg_standing 26 = .ok (.getfield 25, 3) := by decide +kernel
theorem d_Reg_standing_29 : decode k_Reg_standing 29 = .ok (.ifCond .eq 7, 3) := by decide +kernel
theorem d_Reg_standing_32 : decode k_Reg_standing 32 = .ok (.aconst_null, 1) := by decide +kernel
theorem d_Reg_standing_33 : decode k_Reg_standing 33 = .ok (.goto 4, 3) := by decide +kernel
theorem d_Reg_standing_36 : decode k_Reg_standing 36 = .ok (.aload_n 2, 1) := by decide +kernel
theorem d_Reg_standing_37 : decode k_Reg_standing 37 = .ok (.areturn, 1) := by decide +kernel
set_option maxHeartbeats 4000000 in
set_option maxRecDepth 100000 in
theorem c_Reg_standing (l : Launch) {B : Nat} {D : va_G} {cI cZ cQ : ClassId} {w : mm_M} {sz : Nat} {a : Nat} {nr : Int32} {N : Nat → Nat → Nat} {S : Nat → Nat → Int32} {ad : Nat → Nat} (hRe : re_I a cI cQ N S ad w) (hR : rg_I N) : Met l y_Reg_standing ws_Reg_standing (kk_rm 0 0 0) (kk_Pc B D cI cZ cQ [.ref a, .int nr] w sz) (va_Sq (fun r => r = re_st N ad nr)) 0 0 (fun _ => False) := by
  refine Met.ofW (cc := k_Reg_standing) (maxL := 3) (ret := (some (.object "DelegationClosure$Certificate"))) (by decide) rfl ?_
  intro p e s m args below meth c s₁ BB hml hv
  obtain ⟨rfl, hK, hP, hz, hBz⟩ := hv
  have hx := BB.exec
  have hb := BB.bytes
  have hr := BB.returns
  have hts := atoms_spec (ws := ws_Reg_standing) BB.pre
  have hown : s.vm.findClass "DelegationClosure$Register" = some m.cls := findClass_of_methodNamed BB.named
  have hlocks := BB.notSynchronized
  have hS : mm_S B s.heap s.heap [] := va_S.rf
  have hl := lv_entry ([.ref a, .int nr]) (n := 3) (Nat.le_of_ble_eq_true rfl)
  rw [lg_entry_eq]
  generalize (lg_sl ([.ref a, .int nr]) ++ List.replicate (3 - (lg_sl ([.ref a, .int nr])).length) Slot.unset).toArray = ls at hl ⊢
  have hl : lv_has ls 3 [(0, .ref a), (1, .int nr)] := hl
  rcases re_split hRe.2.2.1 nr with hc | ⟨j, hj, hcj⟩
  · refine lv_iload_n hx hb d_Reg_standing_0 rfl (lv_at hl 1 rfl) ?_
    refine lv_if_lt (tgt := 12) hx hb d_Reg_standing_1 (by decide) (fun cc1 => ?_) (fun cc1 => ?_)
    · refine lv_null hx hb d_Reg_standing_12 ?_
      exact W.aret hx hb hr (Or.inl ⟨_, rfl⟩) (va_rf_or none) (fun t ht hW => ⟨none, rfl, (re_st_out hc).symm, ht⟩) (fun q hq => by cases hq) d_Reg_standing_13
    · refine lv_iload_n hx hb d_Reg_standing_4 rfl (lv_at hl 1 rfl) ?_
      refine lv_aload_n hx hb d_Reg_standing_5 rfl (lv_at hl 0 rfl) ?_
      refine mm_get (D := D) (C := n_Reg) (T := T_Reg) (N := 2) (v := .int (nI (N 0 0))) hx hb hts lay_Reg hown hK.1 hP hRe.1 rfl 1 (by decide) (hts _ (List.mem_cons_of_mem _ wd_32)) (fun _ h9 => h9) rfl d_Reg_standing_6 ?_
      refine lv_icmp_lt (tgt := 14) hx hb d_Reg_standing_9 (by decide) (fun cc2 => ?_) (fun cc2 => ?_)
      · exact (hc.elim cc1 (Int32.not_le.mpr cc2)).elim
      · refine lv_null hx hb d_Reg_standing_12 ?_
        exact W.aret hx hb hr (Or.inl ⟨_, rfl⟩) (va_rf_or none) (fun t ht hW => ⟨none, rfl, (re_st_out hc).symm, ht⟩) (fun q hq => by cases hq) d_Reg_standing_13
  · have hRj := hR j hj
    have hn := hRe.2.2.1
    rcases hRe.2.2.2 j hj with ⟨h2, hn1, hn2⟩ | ⟨h2, hp1, hp2, hp3, hp4, hp5⟩
    · refine lv_iload_n hx hb d_Reg_standing_0 rfl (lv_at hl 1 rfl) ?_
      refine kk_top (hcj) ?_
      refine lv_if_lt (tgt := 12) hx hb d_Reg_standing_1 (by decide) (fun cc3 => ?_) (fun cc3 => ?_)
      · rw [← nI_0] at cc3
        have cc3 : j < 0 := (nI_ltI (by omega) (by omega)).mp cc3
        exact absurd cc3 (by omega)
      · rw [← nI_0] at cc3
        have cc3 : ¬ (j < 0) := fun q => cc3 ((nI_ltI (by omega) (by omega)).mpr q)
        refine lv_iload_n hx hb d_Reg_standing_4 rfl (lv_at hl 1 rfl) ?_
        refine kk_top (hcj) ?_
        refine lv_aload_n hx hb d_Reg_standing_5 rfl (lv_at hl 0 rfl) ?_
        refine mm_get (D := D) (C := n_Reg) (T := T_Reg) (N := 2) (v := .int (nI (N 0 0))) hx hb hts lay_Reg hown hK.1 hP hRe.1 rfl 1 (by decide) (hts _ (List.mem_cons_of_mem _ wd_32)) (fun _ h9 => h9) rfl d_Reg_standing_6 ?_
        refine lv_icmp_lt (tgt := 14) hx hb d_Reg_standing_9 (by decide) (fun cc4 => ?_) (fun cc4 => ?_)
        · have cc4 : j < N 0 0 := (nI_ltI (by omega) (by omega)).mp cc4
          refine lv_aload_n hx hb d_Reg_standing_14 rfl (lv_at hl 0 rfl) ?_
          refine mm_get (D := D) (C := n_Reg) (T := T_Reg) (N := 2) (v := .ref (a + 1)) hx hb hts lay_Reg hown hK.1 hP hRe.1 rfl 0 (by decide) (hts _ (List.mem_cons_of_mem _ wd_31)) (fun _ h9 => h9) rfl d_Reg_standing_15 ?_
          refine lv_iload_n hx hb d_Reg_standing_18 rfl (lv_at hl 1 rfl) ?_
          refine kk_top (hcj) ?_
          refine mm_aald hx hb hK.1 hP 2 hRe.2.1 rfl j rfl (by omega) (by decide) d_Reg_standing_19 ?_
          refine kk_topv (y := .ref (ad j)) (show va_rf (if j < N 0 0 then some (ad j) else none) = _ by rw [if_pos hj]; rfl) ?_
          refine lv_astore_n hx hb d_Reg_standing_20 rfl hl (by decide) rfl (fun ls hl => ?_)
          have hl : lv_has ls 3 [(2, .ref (ad j)), (0, .ref a), (1, .int nr)] := hl
          refine lv_aload_n hx hb d_Reg_standing_21 rfl (lv_at hl 0 rfl) ?_
          refine lv_ifnull hx hb d_Reg_standing_22 ?_
          refine lv_aload_n hx hb d_Reg_standing_25 rfl (lv_at hl 0 rfl) ?_
          refine mm_get (D := D) (C := n_Nam) (T := T_Nam) (N := 5) (v := .int (nI (N 1 j))) hx hb hts lay_Nam hown hK.1 hP hn1 rfl 2 (by decide) (hts _ (List.mem_cons_of_mem _ wd_198)) (fun _ h9 => h9) rfl d_Reg_standing_26 ?_
          refine lv_if_eq (tgt := 36) hx hb d_Reg_standing_29 (by decide) (fun cc5 => ?_) (fun cc5 => ?_)
          · rw [← nI_0] at cc5
            have cc5 : N 1 j = 0 := (nI_eq (by omega) (by omega)).mp cc5
            refine lv_aload_n hx hb d_Reg_standing_36 rfl (lv_at hl 0 rfl) ?_
            exact W.aret hx hb hr (Or.inl ⟨_, rfl⟩) (va_rf_or (some (ad j))) (fun t ht hW => ⟨(some (ad j)), rfl, (by rw [hcj]; exact (re_st_in hj hn cc5).symm), ht⟩) (fun q hq => by cases hq) d_Reg_standing_37
          · rw [← nI_0] at cc5
            have cc5 : ¬ (N 1 j = 0) := fun q => cc5 ((nI_eq (by omega) (by omega)).mpr q)
            refine lv_null hx hb d_Reg_standing_32 ?_
            refine lv_goto (tgt := 37) hx hb d_Reg_standing_33 (by decide) ?_
            exact W.aret hx hb hr (Or.inl ⟨_, rfl⟩) (va_rf_or none) (fun t ht hW => ⟨none, rfl, (by rw [hcj]; exact (re_st_no hj hn cc5).symm), ht⟩) (fun q hq => by cases hq) d_Reg_standing_37
        · have cc4 : ¬ (j < N 0 0) := fun q => cc4 ((nI_ltI (by omega) (by omega)).mpr q)
          exact absurd cc4 (by omega)
    · refine lv_iload_n hx hb d_Reg_standing_0 rfl (lv_at hl 1 rfl) ?_
      refine kk_top (hcj) ?_
      refine lv_if_lt (tgt := 12) hx hb d_Reg_standing_1 (by decide) (fun cc6 => ?_) (fun cc6 => ?_)
      · rw [← nI_0] at cc6
        have cc6 : j < 0 := (nI_ltI (by omega) (by omega)).mp cc6
        exact absurd cc6 (by omega)
      · rw [← nI_0] at cc6
        have cc6 : ¬ (j < 0) := fun q => cc6 ((nI_ltI (by omega) (by omega)).mpr q)
        refine lv_iload_n hx hb d_Reg_standing_4 rfl (lv_at hl 1 rfl) ?_
        refine kk_top (hcj) ?_
        refine lv_aload_n hx hb d_Reg_standing_5 rfl (lv_at hl 0 rfl) ?_
        refine mm_get (D := D) (C := n_Reg) (T := T_Reg) (N := 2) (v := .int (nI (N 0 0))) hx hb hts lay_Reg hown hK.1 hP hRe.1 rfl 1 (by decide) (hts _ (List.mem_cons_of_mem _ wd_32)) (fun _ h9 => h9) rfl d_Reg_standing_6 ?_
        refine lv_icmp_lt (tgt := 14) hx hb d_Reg_standing_9 (by decide) (fun cc7 => ?_) (fun cc7 => ?_)
        · have cc7 : j < N 0 0 := (nI_ltI (by omega) (by omega)).mp cc7
          refine lv_aload_n hx hb d_Reg_standing_14 rfl (lv_at hl 0 rfl) ?_
          refine mm_get (D := D) (C := n_Reg) (T := T_Reg) (N := 2) (v := .ref (a + 1)) hx hb hts lay_Reg hown hK.1 hP hRe.1 rfl 0 (by decide) (hts _ (List.mem_cons_of_mem _ wd_31)) (fun _ h9 => h9) rfl d_Reg_standing_15 ?_
          refine lv_iload_n hx hb d_Reg_standing_18 rfl (lv_at hl 1 rfl) ?_
          refine kk_top (hcj) ?_
          refine mm_aald hx hb hK.1 hP 2 hRe.2.1 rfl j rfl (by omega) (by decide) d_Reg_standing_19 ?_
          refine kk_topv (y := .ref (ad j)) (show va_rf (if j < N 0 0 then some (ad j) else none) = _ by rw [if_pos hj]; rfl) ?_
          refine lv_astore_n hx hb d_Reg_standing_20 rfl hl (by decide) rfl (fun ls hl => ?_)
          have hl : lv_has ls 3 [(2, .ref (ad j)), (0, .ref a), (1, .int nr)] := hl
          refine lv_aload_n hx hb d_Reg_standing_21 rfl (lv_at hl 0 rfl) ?_
          refine lv_ifnull hx hb d_Reg_standing_22 ?_
          refine lv_aload_n hx hb d_Reg_standing_25 rfl (lv_at hl 0 rfl) ?_
          refine mm_get (D := D) (C := n_Prm) (T := T_Prm) (N := 8) (v := .int (nI (N 1 j))) hx hb hts lay_Prm hown hK.1 hP hp1 rfl 2 (by decide) (hts _ (List.mem_cons_of_mem _ wd_198)) (fun _ h9 => h9) rfl d_Reg_standing_26 ?_
          refine lv_if_eq (tgt := 36) hx hb d_Reg_standing_29 (by decide) (fun cc8 => ?_) (fun cc8 => ?_)
          · rw [← nI_0] at cc8
            have cc8 : N 1 j = 0 := (nI_eq (by omega) (by omega)).mp cc8
            refine lv_aload_n hx hb d_Reg_standing_36 rfl (lv_at hl 0 rfl) ?_
            exact W.aret hx hb hr (Or.inl ⟨_, rfl⟩) (va_rf_or (some (ad j))) (fun t ht hW => ⟨(some (ad j)), rfl, (by rw [hcj]; exact (re_st_in hj hn cc8).symm), ht⟩) (fun q hq => by cases hq) d_Reg_standing_37
          · rw [← nI_0] at cc8
            have cc8 : ¬ (N 1 j = 0) := fun q => cc8 ((nI_eq (by omega) (by omega)).mpr q)
            refine lv_null hx hb d_Reg_standing_32 ?_
            refine lv_goto (tgt := 37) hx hb d_Reg_standing_33 (by decide) ?_
            exact W.aret hx hb hr (Or.inl ⟨_, rfl⟩) (va_rf_or none) (fun t ht hW => ⟨none, rfl, (by rw [hcj]; exact (re_st_no hj hn cc8).symm), ht⟩) (fun q hq => by cases hq) d_Reg_standing_37
        · have cc7 : ¬ (j < N 0 0) := fun q => cc7 ((nI_ltI (by omega) (by omega)).mpr q)
          exact absurd cc7 (by omega)
end
section
theorem d_Mea_improve_0 : decode k_Mea_improve 0 = .ok (.iconst 0, 1) := by decide +kernel
theorem d_Mea_improve_1 : decode k_Mea_improve 1 = .ok (.istore_n 3, 1) := by decide +kernel
theorem d_Mea_improve_2 : decode k_Mea_improve 2 = .ok (.iconst 0, 1) := by decide +kernel
theorem d_Mea_improve_3 : decode k_Mea_improve 3 = .ok (.istore 4, 2) := by decide +kernel
theorem d_Mea_improve_5 : decode k_Mea_improve 5 = .ok (.iload 4, 2) := by decide +kernel
theorem d_Mea_improve_7 : decode k_Mea_improve 7 = .ok (.aload_n 1, 1) := by decide +kernel
theorem d_Mea_improve_8 : decode k_Mea_improve 8 = .ok (.getfield 25, 3) := by decide +kernel
theorem d_Mea_improve_11 : decode k_Mea_improve 11 = .ok (.if_icmp .ge 53, 3) := by decide +kernel
theorem d_Mea_improve_14 : decode k_Mea_improve 14 = .ok (.aload_n 1, 1) := by decide +kernel
theorem d_Mea_improve_15 : decode k_Mea_improve 15 = .ok (.iload 4, 2) := by decide +kernel
theorem d_Mea_improve_17 : decode k_Mea_improve 17 = .ok (.invokevirtual 31, 3) := by decide +kernel
theorem d_Mea_improve_20 : decode k_Mea_improve 20 = .ok (.astore 6, 2) := by decide +kernel
theorem d_Mea_improve_22 : decode k_Mea_improve 22 = .ok (.aload 6, 2) := by decide +kernel
theorem d_Mea_improve_24 : decode k_Mea_improve 24 = .ok (.instanceof 35, 3) := by decide +kernel
theorem d_Mea_improve_27 : decode k_Mea_improve 27 = .ok (.ifCond .eq 31, 3) := by decide +kernel
theorem d_Mea_improve_30 : decode k_Mea_improve 30 = .ok (.aload 6, 2) := by decide +kernel
theorem d_Mea_improve_32 : decode k_Mea_improve 32 = .ok (.checkcast 35, 3) := by decide +kernel
theorem d_Mea_improve_35 : decode k_Mea_improve 35 = .ok (.astore 5, 2) := by decide +kernel
theorem d_Mea_improve_37 : decode k_Mea_improve 37 = .ok (.aload 5, 2) := by decide +kernel
theorem d_Mea_improve_39 : decode k_Mea_improve 39 = .ok (.getfield 37, 3) := by decide +kernel
theorem d_Mea_improve_42 : decode k_Mea_improve 42 = .ok (.iload_n 2, 1) := by decide +kernel
theorem d_Mea_improve_43 : decode k_Mea_improve 43 = .ok (.invokevirtual 41, 3) := by decide +kernel
theorem d_Mea_improve_46 : decode k_Mea_improve 46 = .ok (.ifCond .eq 12, 3) := by decide +kernel
theorem d_Mea_improve_49 : decode k_Mea_improve 49 = .ok (.iload_n 3, 1) := by decide +kernel
theorem d_Mea_improve_50 : decode k_Mea_improve 50 = .ok (.aload_n 0, 1) := by decide +kernel
theorem d_Mea_improve_51 : decode k_Mea_improve 51 = .ok (.aload 5, 2) := by decide +kernel
theorem d_Mea_improve_53 : decode k_Mea_improve 53 = .ok (.invokevirtual 47, 3) := by decide +kernel
theorem d_Mea_improve_56 : decode k_Mea_improve 56 = .ok (.ior, 1) := by decide +kernel
theorem d_Mea_improve_57 : decode k_Mea_improve 57 = .ok (.istore_n 3, 1) := by decide +kernel
theorem d_Mea_improve_58 : decode k_Mea_improve 58 = .ok (.iinc 4 1, 3) := by decide +kernel
theorem d_Mea_improve_61 : decode k_Mea_improve 61 = .ok (.goto (-56), 3) := by decide +kernel
theorem d_Mea_improve_64 : decode k_Mea_improve 64 = .ok (.iload_n 3, 1) := by decide +kernel
theorem d_Mea_improve_65 : decode k_Mea_improve 65 = .ok (.ireturn, 1) := by decide +kernel
set_option maxHeartbeats 4000000 in
set_option maxRecDepth 100000 in
theorem c_Mea_improve (l : Launch) {B : Nat} {D : va_G} {cI cZ cQ : ClassId} {w : mm_M} {sz : Nat} {a q : Nat} {t : Int32} {g : Nat → Nat} {N : Nat → Nat → Nat} {S : Nat → Nat → Int32} {ad : Nat → Nat} (h_0 : w a = some (.inr (2, [.ref (a + 1)]))) (h_1 : w (a + 1) = some (.inl (cI, 256, .inl (fun i => nI (g i))))) (hRe : re_I q cI cQ N S ad w) (hR : rg_I N) (hg : ∀ j, g j ≤ 1000) (hq : q + 2 ≤ a) (had : ∀ j, j < N 0 0 → a + 2 ≤ ad j) : Met l y_Mea_improve ws_Mea_improve (kk_rm 3 0 0) (kk_Pc B D cI cZ cQ [.ref a, .ref q, .int t] w sz) (kk_Qi B D (fun r w' sz' => r = nI (if dm_flag (ru_M N S t) g = true then 1 else 0) ∧ w' = mm_up w (a + 1) (.inl (cI, 256, .inl (fun i => nI ((dm_pass (ru_M N S t) g) i)))) ∧ sz' = sz)) 0 0 (fun q => B ≤ q) := by
  refine Met.ofW (cc := k_Mea_improve) (maxL := 7) (ret := (some .boolean)) (by decide) rfl ?_
  intro p e s m args below meth c s₁ BB hml hv
  obtain ⟨rfl, hK, hP, hz, hBz⟩ := hv
  have hx := BB.exec
  have hb := BB.bytes
  have hr := BB.returns
  have hts := atoms_spec (ws := ws_Mea_improve) BB.pre
  have hown : s.vm.findClass "DelegationClosure$Meanings" = some m.cls := findClass_of_methodNamed BB.named
  have hlocks := BB.notSynchronized
  have hS : mm_S B s.heap s.heap [] := va_S.rf
  have hl := lv_entry ([.ref a, .ref q, .int t]) (n := 7) (Nat.le_of_ble_eq_true rfl)
  rw [lg_entry_eq]
  generalize (lg_sl ([.ref a, .ref q, .int t]) ++ List.replicate (7 - (lg_sl ([.ref a, .ref q, .int t])).length) Slot.unset).toArray = ls at hl ⊢
  have hl : lv_has ls 7 [(0, .ref a), (1, .ref q), (2, .int t)] := hl
  have hn := hRe.2.2.1
  refine lv_iconst (v := nI 0) hx hb d_Mea_improve_0 (by decide) ?_
  refine lv_istore_n hx hb d_Mea_improve_1 rfl hl (by decide) rfl (fun ls hl => ?_)
  have hl : lv_has ls 7 [(3, .int (nI 0)), (0, .ref a), (1, .ref q), (2, .int t)] := hl
  refine lv_iconst (v := nI 0) hx hb d_Mea_improve_2 (by decide) ?_
  refine lv_istore hx hb d_Mea_improve_3 hl (by decide) rfl (fun ls hl => ?_)
  have hl : lv_has ls 7 [(4, .int (nI 0)), (3, .int (nI 0)), (0, .ref a), (1, .ref q), (2, .int t)] := hl
  have lp1 : ∀ (d : Nat) (k : Nat) (w2 : mm_M) (H : Heap) (locs : List Loc) (ls : Array Slot), d = N 0 0 - k → (mm_P B D kc w2 H) → (H.size = sz) → (mm_S B s.heap H locs) → (∀ j, j ≠ a + 1 → w2 j = w j) → (w2 (a + 1) = some (.inl (cI, 256, .inl (fun i => nI ((dm_pass (dm_upto (ru_m N S t) k) g) i))))) → (k ≤ N 0 0) → lv_has ls 7 [(4, .int (nI k)), (3, .int (nI (if dm_flag (dm_upto (ru_m N S t) k) g = true then 1 else 0))), (0, .ref a), (1, .ref q), (2, .int t)] → W p l e (headSpec ws_Mea_improve (kk_rm 3 0 0)).room s m ([.ref a, .ref q, .int t]).toArray below meth c H locs 0 0 (MQ below (kk_Qi B D (fun r w' sz' => r = nI (if dm_flag (ru_M N S t) g = true then 1 else 0) ∧ w' = mm_up w (a + 1) (.inl (cI, 256, .inl (fun i => nI ((dm_pass (ru_M N S t) g) i)))) ∧ sz' = sz)) ([.ref a, .ref q, .int t]).toArray s 0 0 (fun q => B ≤ q)) (F0 m 5 ls []) := by
    intro d
    induction d using Nat.strongRecOn with
    | ind d ih =>
      intro k w2 H locs ls hd hP hz hS frw2 fw2_0 hk hl
      have hgk := dm_pass_1000 (R := dm_upto (ru_m N S t) k) hg
      refine lv_iload hx hb d_Mea_improve_5 (lv_at hl 0 rfl) ?_
      refine lv_aload_n hx hb d_Mea_improve_7 rfl (lv_at hl 3 rfl) ?_
      have f3 := (frw2 _ (by omega)).trans (hRe.1)
      refine mm_getN (D := D) (C := n_Reg) (T := T_Reg) (N := 2) (v := .int (nI (N 0 0))) hx hb hts lay_Reg hown hK.1 hP f3 rfl 1 (by decide) (hK.2.1 _ nw_34 rfl) (fun _ h9 => h9) rfl d_Mea_improve_8 ?_
      refine lv_icmp_ge (tgt := 64) hx hb d_Mea_improve_11 (by decide) (fun cc4 => ?_) (fun cc4 => ?_)
      · have cc4 : N 0 0 ≤ k := (nI_leI (by omega) (by omega)).mp cc4
        obtain rfl : k = N 0 0 := by omega
        refine lv_iload_n hx hb d_Mea_improve_64 rfl (lv_at hl 1 rfl) ?_
        exact W.zret hx hb hr (kk_nar _) (fun t ht hW => ⟨⟨_, (w2, sz), rfl, ⟨rfl, mm_e1 fw2_0 (fun j g0 => frw2 j g0), rfl⟩, by rw [ht]; exact hP, by rw [ht]; exact hz⟩, hS.F ht⟩) hS.2.2 d_Mea_improve_65
      · have cc4 : ¬ (N 0 0 ≤ k) := fun q => cc4 ((nI_leI (by omega) (by omega)).mpr q)
        have hk2 : k < N 0 0 := by omega
        have hRk := hRe.keep (fun i9 hi9 => frw2 i9 (by rcases hi9 with h | h | ⟨c9, h, h8, h7⟩ <;> (try have := had c9 h) <;> omega))
        have hRj := hR k hk2
        have hdk := had k hk2
        have hsk : wf_subn (N 7 (3 * k)) := hRj.2.2.2.2.2.1 0 (by omega)
        rcases hRk.2.2.2 k hk2 with ⟨h2, hn1, hn2⟩ | ⟨h2, hp1, hp2, hp3, hp4, hp5⟩
        · by_cases hgn : N 1 k = 0
          · refine lv_aload_n hx hb d_Mea_improve_14 rfl (lv_at hl 3 rfl) ?_
            refine lv_iload hx hb d_Mea_improve_15 (lv_at hl 0 rfl) ?_
            refine va_csq (va_Run.run (va_runV (As := [.int (nI k)]) (rest := []) ⟨hx, hb, hml, hown, hts⟩ (c_Reg_standing l (N := N) (S := S) (ad := ad) hRk hR) (cwV 1 hts (gW_in (hd := [_, _, _, _, _]) (kk_5 wd_316 wd_268 wd_269 wd_2 cw_Reg_standing)) rfl rfl rfl ⟨rfl, ds_Reg_standing⟩ ⟨Nat.le_of_ble_eq_true rfl, Nat.le_of_ble_eq_true rfl⟩) (kk_preV hK hP hz hBz f3 rfl) rfl rfl hl.1 rfl (lv_room (Nat.le_of_ble_eq_true rfl)) d_Mea_improve_17 ⟨Nat.le_of_ble_eq_true rfl, Nat.le_of_ble_eq_true rfl⟩)) (fun r5 hr5 => ?_)
            subst hr5
            refine kk_topv (y := .ref (ad k)) (by rw [re_st_in hk2 hn hgn]; rfl) ?_
            refine lv_astore hx hb d_Mea_improve_20 hl (by decide) rfl (fun ls hl => ?_)
            have hl : lv_has ls 7 [(6, .ref (ad k)), (4, .int (nI k)), (3, .int (nI (if dm_flag (dm_upto (ru_m N S t) k) g = true then 1 else 0))), (0, .ref a), (1, .ref q), (2, .int t)] := hl
            refine lv_aload hx hb d_Mea_improve_22 (lv_at hl 0 rfl) ?_
            refine va_instS hx hb hown (hts _ (List.mem_cons_of_mem _ wd_317)) (hK.1.1 7 _ rfl).2 (mm_recv hK.1 hP hn1 rfl) d_Mea_improve_24 ?_
            refine lv_if_eq (tgt := 58) hx hb d_Mea_improve_27 (by decide) (fun cc6 => ?_) (fun cc6 => ?_)
            · exact absurd cc6 (by decide)
            · refine lv_aload hx hb d_Mea_improve_30 (lv_at hl 0 rfl) ?_
              refine va_castS hx hb hown (hts _ (List.mem_cons_of_mem _ wd_317)) (hK.1.1 7 _ rfl).2 (mm_recv hK.1 hP hn1 rfl) d_Mea_improve_32 ?_
              refine lv_astore hx hb d_Mea_improve_35 hl (by decide) rfl (fun ls hl => ?_)
              have hl : lv_has ls 7 [(5, .ref (ad k)), (6, .ref (ad k)), (4, .int (nI k)), (3, .int (nI (if dm_flag (dm_upto (ru_m N S t) k) g = true then 1 else 0))), (0, .ref a), (1, .ref q), (2, .int t)] := hl
              refine lv_aload hx hb d_Mea_improve_37 (lv_at hl 0 rfl) ?_
              refine mm_get (D := D) (C := n_Nam) (T := T_Nam) (N := 5) (v := .ref (ad k + 1)) hx hb hts lay_Nam hown hK.1 hP hn1 rfl 1 (by decide) (hts _ (List.mem_cons_of_mem _ wd_194)) (fun x9 h9 => u_same (hts _ (List.mem_cons_of_mem _ wd_195)) x9 h9) rfl d_Mea_improve_39 ?_
              refine lv_iload_n hx hb d_Mea_improve_42 rfl (lv_at hl 6 rfl) ?_
              refine vp_callSi (va_Run.run (va_runV (As := [.int t]) (rest := []) ⟨hx, hb, hml, hown, hts⟩ (c_Spn_contains l hn2) (cwV 1 hts (gW_in (hd := [_, _, _, _, _]) (kk_5 wd_318 wd_319 wd_320 wd_7 cw_Spn_contains)) rfl rfl rfl ⟨rfl, ds_Spn_contains⟩ ⟨Nat.le_of_ble_eq_true rfl, Nat.le_of_ble_eq_true rfl⟩) (kk_preV hK hP hz hBz hn2 rfl) rfl rfl hl.1 rfl (lv_room (Nat.le_of_ble_eq_true rfl)) d_Mea_improve_43 ⟨Nat.le_of_ble_eq_true rfl, Nat.le_of_ble_eq_true rfl⟩)) (fun r7 hr7 => ?_)
              subst hr7
              refine lv_if_eq (tgt := 58) hx hb d_Mea_improve_46 (by decide) (fun cc8 => ?_) (fun cc8 => ?_)
              · have cc8 := kk_b0 cc8
                refine lv_iinc (k := 2) (v := nI (k + 1)) hx hb d_Mea_improve_58 hl rfl (kk_inc _) (by decide) rfl (fun ls hl => ?_)
                have hl : lv_has ls 7 [(4, .int (nI (k + 1))), (5, .ref (ad k)), (6, .ref (ad k)), (3, .int (nI (if dm_flag (dm_upto (ru_m N S t) k) g = true then 1 else 0))), (0, .ref a), (1, .ref q), (2, .int t)] := hl
                refine lv_goto (tgt := 5) hx hb d_Mea_improve_61 (by decide) ?_
                have e1 := dm_none (f := ru_m N S t) (g := g) (k := k) (if_neg (fun q => cc8 q.2.2))
                rw [← e1.2] at hl
                exact ih _ (by omega) (k + 1) w2 _ _ ls rfl hP hz hS (fun j g0 => frw2 j g0) (by rw [e1.1]; exact fw2_0) (by omega) (lv_sub hl [0, 3, 4, 5, 6] rfl)
              · have cc8 := kk_b1 cc8
                refine lv_iload_n hx hb d_Mea_improve_49 rfl (lv_at hl 3 rfl) ?_
                refine lv_aload_n hx hb d_Mea_improve_50 rfl (lv_at hl 4 rfl) ?_
                refine lv_aload hx hb d_Mea_improve_51 (lv_at hl 0 rfl) ?_
                have f9 := (frw2 _ (by omega)).trans (h_0)
                refine kk_calli (va_runV (As := [.ref (ad k)]) (rest := [.int (nI (if dm_flag (dm_upto (ru_m N S t) k) g = true then 1 else 0))]) ⟨hx, hb, hml, hown, hts⟩ (c_Mea_improveBy l f9 fw2_0 hn1 (by omega) (by omega) (by omega) hgk (by omega) (by omega)) (cwV 1 hts (gW_in (hd := [_, _, _, _, _]) (kk_5 wd_322 wd_324 sl_Mea_improveBy wd_3 cw_Mea_improveBy)) rfl rfl rfl ⟨rfl, ds_Mea_improveBy⟩ ⟨Nat.le_of_ble_eq_true rfl, Nat.le_of_ble_eq_true rfl⟩) (kk_preV hK hP hz hBz f9 rfl) rfl rfl hl.1 rfl (lv_room (Nat.le_of_ble_eq_true rfl)) d_Mea_improve_53 ⟨Nat.le_of_ble_eq_true rfl, Nat.le_of_ble_eq_true rfl⟩) hS (fun r10 w10 sz10 H locs hp10 hP hz hS => ?_)
                obtain ⟨hr10, he10, hs10⟩ := hp10
                subst hr10
                have hz : H.size = sz := hz.trans hs10
                have hw11 : w10 = mm_up w2 (a + 1) (.inl (cI, 256, .inl (fun i => nI ((dm_pass (dm_upto (ru_n (N 3 k) (N 4 k) (N 7 (3 * k))) 8) (dm_pass (dm_upto (ru_m N S t) k) g)) i)))) := he10
                have fr11 : ∀ j, j ≠ a + 1 → w10 j = w2 j := fun j h90 => by rw [hw11]; exact mm_un h90
                have fa11_0 : w10 (a + 1) = some (.inl (cI, 256, .inl (fun i => nI ((dm_pass (dm_upto (ru_n (N 3 k) (N 4 k) (N 7 (3 * k))) 8) (dm_pass (dm_upto (ru_m N S t) k) g)) i)))) := by rw [hw11]; exact mm_us _ _ _
                refine lv_ior hx hb d_Mea_improve_56 ?_
                have e1 := dm_some (f := ru_m N S t) (g := g) (k := k) (if_pos ⟨hgn, h2, cc8⟩)
                refine kk_top (y := nI (if dm_flag (dm_upto (ru_m N S t) (k + 1)) g = true then 1 else 0)) ((kk_or _ _).trans (kk_iteq (by rw [e1.2, Bool.or_eq_true]))) ?_
                refine lv_istore_n hx hb d_Mea_improve_57 rfl hl (by decide) rfl (fun ls hl => ?_)
                have hl : lv_has ls 7 [(3, .int (nI (if dm_flag (dm_upto (ru_m N S t) (k + 1)) g = true then 1 else 0))), (5, .ref (ad k)), (6, .ref (ad k)), (4, .int (nI k)), (0, .ref a), (1, .ref q), (2, .int t)] := hl
                refine lv_iinc (k := 3) (v := nI (k + 1)) hx hb d_Mea_improve_58 hl rfl (kk_inc _) (by decide) rfl (fun ls hl => ?_)
                have hl : lv_has ls 7 [(4, .int (nI (k + 1))), (3, .int (nI (if dm_flag (dm_upto (ru_m N S t) (k + 1)) g = true then 1 else 0))), (5, .ref (ad k)), (6, .ref (ad k)), (0, .ref a), (1, .ref q), (2, .int t)] := hl
                refine lv_goto (tgt := 5) hx hb d_Mea_improve_61 (by decide) ?_
                exact ih _ (by omega) (k + 1) w10 _ _ ls rfl hP hz hS (fun j g0 => (fr11 j g0).trans (frw2 j g0)) (by rw [e1.1]; exact fa11_0) (by omega) (lv_sub hl [0, 1, 4, 5, 6] rfl)
          · refine lv_aload_n hx hb d_Mea_improve_14 rfl (lv_at hl 3 rfl) ?_
            refine lv_iload hx hb d_Mea_improve_15 (lv_at hl 0 rfl) ?_
            refine va_csq (va_Run.run (va_runV (As := [.int (nI k)]) (rest := []) ⟨hx, hb, hml, hown, hts⟩ (c_Reg_standing l (N := N) (S := S) (ad := ad) hRk hR) (cwV 1 hts (gW_in (hd := [_, _, _, _, _]) (kk_5 wd_316 wd_268 wd_269 wd_2 cw_Reg_standing)) rfl rfl rfl ⟨rfl, ds_Reg_standing⟩ ⟨Nat.le_of_ble_eq_true rfl, Nat.le_of_ble_eq_true rfl⟩) (kk_preV hK hP hz hBz f3 rfl) rfl rfl hl.1 rfl (lv_room (Nat.le_of_ble_eq_true rfl)) d_Mea_improve_17 ⟨Nat.le_of_ble_eq_true rfl, Nat.le_of_ble_eq_true rfl⟩)) (fun r12 hr12 => ?_)
            subst hr12
            refine kk_topv (y := .null) (by rw [re_st_no hk2 hn hgn]; rfl) ?_
            refine lv_astoreN hx hb d_Mea_improve_20 hl (by decide) rfl (fun ls hl => ?_)
            have hl : lv_has ls 7 [(6, .null), (4, .int (nI k)), (3, .int (nI (if dm_flag (dm_upto (ru_m N S t) k) g = true then 1 else 0))), (0, .ref a), (1, .ref q), (2, .int t)] := hl
            refine lv_aloadN hx hb d_Mea_improve_22 (lv_at hl 0 rfl) ?_
            refine lv_instN hx hb d_Mea_improve_24 ?_
            refine lv_if_eq (tgt := 58) hx hb d_Mea_improve_27 (by decide) (fun cc13 => ?_) (fun cc13 => ?_)
            · refine lv_iinc (k := 1) (v := nI (k + 1)) hx hb d_Mea_improve_58 hl rfl (kk_inc _) (by decide) rfl (fun ls hl => ?_)
              have hl : lv_has ls 7 [(4, .int (nI (k + 1))), (6, .null), (3, .int (nI (if dm_flag (dm_upto (ru_m N S t) k) g = true then 1 else 0))), (0, .ref a), (1, .ref q), (2, .int t)] := hl
              refine lv_goto (tgt := 5) hx hb d_Mea_improve_61 (by decide) ?_
              have e1 := dm_none (f := ru_m N S t) (g := g) (k := k) (if_neg (fun q => hgn q.1))
              rw [← e1.2] at hl
              exact ih _ (by omega) (k + 1) w2 _ _ ls rfl hP hz hS (fun j g0 => frw2 j g0) (by rw [e1.1]; exact fw2_0) (by omega) (lv_sub hl [0, 2, 3, 4, 5] rfl)
            · exact absurd cc13 (by decide)
        · by_cases hgn : N 1 k = 0
          · refine lv_aload_n hx hb d_Mea_improve_14 rfl (lv_at hl 3 rfl) ?_
            refine lv_iload hx hb d_Mea_improve_15 (lv_at hl 0 rfl) ?_
            refine va_csq (va_Run.run (va_runV (As := [.int (nI k)]) (rest := []) ⟨hx, hb, hml, hown, hts⟩ (c_Reg_standing l (N := N) (S := S) (ad := ad) hRk hR) (cwV 1 hts (gW_in (hd := [_, _, _, _, _]) (kk_5 wd_316 wd_268 wd_269 wd_2 cw_Reg_standing)) rfl rfl rfl ⟨rfl, ds_Reg_standing⟩ ⟨Nat.le_of_ble_eq_true rfl, Nat.le_of_ble_eq_true rfl⟩) (kk_preV hK hP hz hBz f3 rfl) rfl rfl hl.1 rfl (lv_room (Nat.le_of_ble_eq_true rfl)) d_Mea_improve_17 ⟨Nat.le_of_ble_eq_true rfl, Nat.le_of_ble_eq_true rfl⟩)) (fun r14 hr14 => ?_)
            subst hr14
            refine kk_topv (y := .ref (ad k)) (by rw [re_st_in hk2 hn hgn]; rfl) ?_
            refine lv_astore hx hb d_Mea_improve_20 hl (by decide) rfl (fun ls hl => ?_)
            have hl : lv_has ls 7 [(6, .ref (ad k)), (4, .int (nI k)), (3, .int (nI (if dm_flag (dm_upto (ru_m N S t) k) g = true then 1 else 0))), (0, .ref a), (1, .ref q), (2, .int t)] := hl
            refine lv_aload hx hb d_Mea_improve_22 (lv_at hl 0 rfl) ?_
            refine va_instNo hx hb hown (hts _ (List.mem_cons_of_mem _ wd_317)) hK.2.2.2.2 (mm_recv hK.1 hP hp1 rfl) d_Mea_improve_24 ?_
            refine lv_if_eq (tgt := 58) hx hb d_Mea_improve_27 (by decide) (fun cc15 => ?_) (fun cc15 => ?_)
            · refine lv_iinc (k := 1) (v := nI (k + 1)) hx hb d_Mea_improve_58 hl rfl (kk_inc _) (by decide) rfl (fun ls hl => ?_)
              have hl : lv_has ls 7 [(4, .int (nI (k + 1))), (6, .ref (ad k)), (3, .int (nI (if dm_flag (dm_upto (ru_m N S t) k) g = true then 1 else 0))), (0, .ref a), (1, .ref q), (2, .int t)] := hl
              refine lv_goto (tgt := 5) hx hb d_Mea_improve_61 (by decide) ?_
              have e1 := dm_none (f := ru_m N S t) (g := g) (k := k) (if_neg (fun q => by have := q.2.1; omega))
              rw [← e1.2] at hl
              exact ih _ (by omega) (k + 1) w2 _ _ ls rfl hP hz hS (fun j g0 => frw2 j g0) (by rw [e1.1]; exact fw2_0) (by omega) (lv_sub hl [0, 2, 3, 4, 5] rfl)
            · exact absurd cc15 (by decide)
          · refine lv_aload_n hx hb d_Mea_improve_14 rfl (lv_at hl 3 rfl) ?_
            refine lv_iload hx hb d_Mea_improve_15 (lv_at hl 0 rfl) ?_
            refine va_csq (va_Run.run (va_runV (As := [.int (nI k)]) (rest := []) ⟨hx, hb, hml, hown, hts⟩ (c_Reg_standing l (N := N) (S := S) (ad := ad) hRk hR) (cwV 1 hts (gW_in (hd := [_, _, _, _, _]) (kk_5 wd_316 wd_268 wd_269 wd_2 cw_Reg_standing)) rfl rfl rfl ⟨rfl, ds_Reg_standing⟩ ⟨Nat.le_of_ble_eq_true rfl, Nat.le_of_ble_eq_true rfl⟩) (kk_preV hK hP hz hBz f3 rfl) rfl rfl hl.1 rfl (lv_room (Nat.le_of_ble_eq_true rfl)) d_Mea_improve_17 ⟨Nat.le_of_ble_eq_true rfl, Nat.le_of_ble_eq_true rfl⟩)) (fun r16 hr16 => ?_)
            subst hr16
            refine kk_topv (y := .null) (by rw [re_st_no hk2 hn hgn]; rfl) ?_
            refine lv_astoreN hx hb d_Mea_improve_20 hl (by decide) rfl (fun ls hl => ?_)
            have hl : lv_has ls 7 [(6, .null), (4, .int (nI k)), (3, .int (nI (if dm_flag (dm_upto (ru_m N S t) k) g = true then 1 else 0))), (0, .ref a), (1, .ref q), (2, .int t)] := hl
            refine lv_aloadN hx hb d_Mea_improve_22 (lv_at hl 0 rfl) ?_
            refine lv_instN hx hb d_Mea_improve_24 ?_
            refine lv_if_eq (tgt := 58) hx hb d_Mea_improve_27 (by decide) (fun cc17 => ?_) (fun cc17 => ?_)
            · refine lv_iinc (k := 1) (v := nI (k + 1)) hx hb d_Mea_improve_58 hl rfl (kk_inc _) (by decide) rfl (fun ls hl => ?_)
              have hl : lv_has ls 7 [(4, .int (nI (k + 1))), (6, .null), (3, .int (nI (if dm_flag (dm_upto (ru_m N S t) k) g = true then 1 else 0))), (0, .ref a), (1, .ref q), (2, .int t)] := hl
              refine lv_goto (tgt := 5) hx hb d_Mea_improve_61 (by decide) ?_
              have e1 := dm_none (f := ru_m N S t) (g := g) (k := k) (if_neg (fun q => hgn q.1))
              rw [← e1.2] at hl
              exact ih _ (by omega) (k + 1) w2 _ _ ls rfl hP hz hS (fun j g0 => frw2 j g0) (by rw [e1.1]; exact fw2_0) (by omega) (lv_sub hl [0, 2, 3, 4, 5] rfl)
            · exact absurd cc17 (by decide)
  exact lp1 _ 0 w _ _ _ rfl hP hz hS (fun _ _ => rfl) h_1 (by omega) (lv_sub hl [0, 1, 2, 3, 4] rfl)
theorem d_Mea_workOut_0 : decode k_Mea_workOut 0 = .ok (.aload_n 0, 1) := by decide +kernel
theorem d_Mea_workOut_1 : decode k_Mea_workOut 1 = .ok (.getfield 9, 3) := by decide +kernel
theorem d_Mea_workOut_4 : decode k_Mea_workOut 4 = .ok (.sipush 1000, 3) := by decide +kernel
theorem d_Mea_workOut_7 : decode k_Mea_workOut 7 = .ok (.invokestatic 15, 3) := by decide +kernel
theorem d_Mea_workOut_10 : decode k_Mea_workOut 10 = .ok (.iconst 1, 1) := by decide +kernel
theorem d_Mea_workOut_11 : decode k_Mea_workOut 11 = .ok (.istore_n 3, 1) := by decide +kernel
theorem d_Mea_workOut_12 : decode k_Mea_workOut 12 = .ok (.iconst 0, 1) := by decide +kernel
theorem d_Mea_workOut_13 : decode k_Mea_workOut 13 = .ok (.istore 4, 2) := by decide +kernel
theorem d_Mea_workOut_15 : decode k_Mea_workOut 15 = .ok (.iload_n 3, 1) := by decide +kernel
theorem d_Mea_workOut_16 : decode k_Mea_workOut 16 = .ok (.ifCond .eq 26, 3) := by decide +kernel
theorem d_Mea_workOut_19 : decode k_Mea_workOut 19 = .ok (.iload 4, 2) := by decide +kernel
theorem d_Mea_workOut_21 : decode k_Mea_workOut 21 = .ok (.aload_n 0, 1) := by decide +kernel
theorem d_Mea_workOut_22 : decode k_Mea_workOut 22 = .ok (.getfield 9, 3) := by decide +kernel
theorem d_Mea_workOut_25 : decode k_Mea_workOut 25 = .ok (.arraylength, 1) := by decide +kernel
theorem d_Mea_workOut_26 : decode k_Mea_workOut 26 = .ok (.if_icmp .gt 16, 3) := by decide +kernel
theorem d_Mea_workOut_29 : decode k_Mea_workOut 29 = .ok (.aload_n 0, 1) := by decide +kernel
theorem d_Mea_workOut_30 : decode k_Mea_workOut 30 = .ok (.aload_n 1, 1) := by decide +kernel
theorem d_Mea_workOut_31 : decode k_Mea_workOut 31 = .ok (.iload_n 2, 1) := by decide +kernel
theorem d_Mea_workOut_32 : decode k_Mea_workOut 32 = .ok (.invokevirtual 21, 3) := by decide +kernel
theorem d_Mea_workOut_35 : decode k_Mea_workOut 35 = .ok (.istore_n 3, 1) := by decide +kernel
theorem d_Mea_workOut_36 : decode k_Mea_workOut 36 = .ok (.iinc 4 1, 3) := by decide +kernel
theorem d_Mea_workOut_39 : decode k_Mea_workOut 39 = .ok (.goto (-24), 3) := by decide +kernel
theorem d_Mea_workOut_42 : decode k_Mea_workOut 42 = .ok (.return_, 1) := by decide +kernel
set_option maxHeartbeats 4000000 in
set_option maxRecDepth 100000 in
theorem c_Mea_workOut (l : Launch) {B : Nat} {D : va_G} {cI cZ cQ : ClassId} {w : mm_M} {sz : Nat} {a q : Nat} {t : Int32} {g0 : Nat → Nat} {N : Nat → Nat → Nat} {S : Nat → Nat → Int32} {ad : Nat → Nat} (h_0 : w a = some (.inr (2, [.ref (a + 1)]))) (h_1 : w (a + 1) = some (.inl (cI, 256, .inl (fun i => nI (g0 i))))) (hRe : re_I q cI cQ N S ad w) (hR : rg_I N) (hq : q + 2 ≤ a) (had : ∀ j, j < N 0 0 → a + 2 ≤ ad j) : Met l y_Mea_workOut ws_Mea_workOut (kk_rm 4 0 0) (kk_Pc B D cI cZ cQ [.ref a, .ref q, .int t] w sz) (kk_Qv B D (fun w' sz' => w' = mm_up w (a + 1) (.inl (cI, 256, .inl (fun i => nI ((dm_run (ru_M N S t) 257 (fun _ => 1000)) i)))) ∧ sz' = sz)) 0 0 (fun q => B ≤ q) := by
  refine Met.ofW (cc := k_Mea_workOut) (maxL := 5) (ret := none) (by decide) rfl ?_
  intro p e s m args below meth c s₁ BB hml hv
  obtain ⟨rfl, hK, hP, hz, hBz⟩ := hv
  have hx := BB.exec
  have hb := BB.bytes
  have hr := BB.returns
  have hts := atoms_spec (ws := ws_Mea_workOut) BB.pre
  have hown : s.vm.findClass "DelegationClosure$Meanings" = some m.cls := findClass_of_methodNamed BB.named
  have hlocks := BB.notSynchronized
  have hS : mm_S B s.heap s.heap [] := va_S.rf
  have hl := lv_entry ([.ref a, .ref q, .int t]) (n := 5) (Nat.le_of_ble_eq_true rfl)
  rw [lg_entry_eq]
  generalize (lg_sl ([.ref a, .ref q, .int t]) ++ List.replicate (5 - (lg_sl ([.ref a, .ref q, .int t])).length) Slot.unset).toArray = ls at hl ⊢
  have hl : lv_has ls 5 [(0, .ref a), (1, .ref q), (2, .int t)] := hl
  refine lv_aload_n hx hb d_Mea_workOut_0 rfl (lv_at hl 0 rfl) ?_
  refine mm_get (D := D) (C := n_Mea) (T := T_Mea) (N := 1) (v := .ref (a + 1)) hx hb hts lay_Mea hown hK.1 hP h_0 rfl 0 (by decide) (hts _ (List.mem_cons_of_mem _ wd_47)) (fun _ h9 => h9) rfl d_Mea_workOut_1 ?_
  refine lv_sipush (v := nI 1000) hx hb d_Mea_workOut_4 (by decide) ?_
  refine kk_callv (va_runS (As := [.ref (a + 1), .int (nI 1000)]) (rest := []) ⟨hx, hb, hml, hown, hts⟩ (c_Arr_fill l h_1 (by omega)) (va_cwS 2 hts (gW_in (hd := [_, _, _, _]) (kk_4 wd_309 wd_310 wd_12 cw_Arr_fill)) rfl rfl rfl ds_Arr_fill ⟨Nat.le_of_ble_eq_true rfl, Nat.le_of_ble_eq_true rfl⟩) (kk_preS hK hP hz hBz) rfl rfl hl.1 rfl (lv_room (Nat.le_of_ble_eq_true rfl)) d_Mea_workOut_7 ⟨Nat.le_of_ble_eq_true rfl, Nat.le_of_ble_eq_true rfl⟩) hS (fun w1 sz1 H locs hp1 hP hz hS => ?_)
  obtain ⟨he1, hs1⟩ := hp1
  have hz : H.size = sz := hz.trans hs1
  have hw2 : w1 = mm_up w (a + 1) (.inl (cI, 256, .inl (fun i => nI ((fun _ => 1000) i)))) := he1
  have fr2 : ∀ j, j ≠ a + 1 → w1 j = w j := fun j h90 => by rw [hw2]; exact mm_un h90
  have fa2_0 : w1 (a + 1) = some (.inl (cI, 256, .inl (fun i => nI ((fun _ => 1000) i)))) := by rw [hw2]; exact mm_us _ _ _
  refine lv_iconst (v := nI 1) hx hb d_Mea_workOut_10 (by decide) ?_
  refine lv_istore_n hx hb d_Mea_workOut_11 rfl hl (by decide) rfl (fun ls hl => ?_)
  have hl : lv_has ls 5 [(3, .int (nI 1)), (0, .ref a), (1, .ref q), (2, .int t)] := hl
  refine lv_iconst (v := nI 0) hx hb d_Mea_workOut_12 (by decide) ?_
  refine lv_istore hx hb d_Mea_workOut_13 hl (by decide) rfl (fun ls hl => ?_)
  have hl : lv_has ls 5 [(4, .int (nI 0)), (3, .int (nI 1)), (0, .ref a), (1, .ref q), (2, .int t)] := hl
  have lp3 : ∀ (d : Nat) (k : Nat) (bt : Bool) (g : Nat → Nat) (w4 : mm_M) (H : Heap) (locs : List Loc) (ls : Array Slot), d = 257 - k → (mm_P B D kc w4 H) → (H.size = sz) → (mm_S B s.heap H locs) → (∀ j, j ≠ a + 1 → w4 j = w1 j) → (w4 (a + 1) = some (.inl (cI, 256, .inl (fun i => nI (g i))))) → (k ≤ 257) → (∀ j, g j ≤ 1000) → ((if bt = true then dm_run (ru_M N S t) (257 - k) g else g) = dm_run (ru_M N S t) 257 (fun _ => 1000)) → lv_has ls 5 [(4, .int (nI k)), (3, .int (nI (if bt = true then 1 else 0))), (0, .ref a), (1, .ref q), (2, .int t)] → W p l e (headSpec ws_Mea_workOut (kk_rm 4 0 0)).room s m ([.ref a, .ref q, .int t]).toArray below meth c H locs 0 0 (MQ below (kk_Qv B D (fun w' sz' => w' = mm_up w (a + 1) (.inl (cI, 256, .inl (fun i => nI ((dm_run (ru_M N S t) 257 (fun _ => 1000)) i)))) ∧ sz' = sz)) ([.ref a, .ref q, .int t]).toArray s 0 0 (fun q => B ≤ q)) (F0 m 15 ls []) := by
    intro d
    induction d using Nat.strongRecOn with
    | ind d ih =>
      intro k bt g w4 H locs ls hd hP hz hS frw4 fw4_0 hk hgb hI hl
      have hRk := hRe.keep (fun i9 hi9 => (frw4 i9 (by rcases hi9 with h | h | ⟨c9, h, h8, h7⟩ <;> (try have := had c9 h) <;> omega)).trans (fr2 i9 (by rcases hi9 with h | h | ⟨c9, h, h8, h7⟩ <;> (try have := had c9 h) <;> omega)))
      refine lv_iload_n hx hb d_Mea_workOut_15 rfl (lv_at hl 1 rfl) ?_
      refine lv_if_eq (tgt := 42) hx hb d_Mea_workOut_16 (by decide) (fun cc5 => ?_) (fun cc5 => ?_)
      · have cc5 := kk_b0 cc5
        have hg9 : g = dm_run (ru_M N S t) 257 (fun _ => 1000) := by rw [← hI, if_neg cc5]
        subst hg9
        exact W.vret hx hb hr (fun t ht hW => ⟨⟨(w4, sz), rfl, ⟨mm_e1 fw4_0 (fun j g0 => (frw4 j g0).trans (fr2 j g0)), rfl⟩, by rw [ht]; exact hP, by rw [ht]; exact hz⟩, hS.F ht⟩) hS.2.2 d_Mea_workOut_42
      · have cc5 := kk_b1 cc5
        refine lv_iload hx hb d_Mea_workOut_19 (lv_at hl 0 rfl) ?_
        refine lv_aload_n hx hb d_Mea_workOut_21 rfl (lv_at hl 2 rfl) ?_
        have f6 := (frw4 _ (by omega)).trans ((fr2 _ (by omega)).trans (h_0))
        refine mm_get (D := D) (C := n_Mea) (T := T_Mea) (N := 1) (v := .ref (a + 1)) hx hb hts lay_Mea hown hK.1 hP f6 rfl 0 (by decide) (hts _ (List.mem_cons_of_mem _ wd_47)) (fun _ h9 => h9) rfl d_Mea_workOut_22 ?_
        refine mm_alen hx hb hK.1 hP 0 fw4_0 rfl d_Mea_workOut_25 ?_
        refine lv_icmp_gt (tgt := 42) hx hb d_Mea_workOut_26 (by decide) (fun cc7 => ?_) (fun cc7 => ?_)
        · have cc7 : 256 < k := (nI_ltI (by omega) (by omega)).mp cc7
          have hg9 : g = dm_run (ru_M N S t) 257 (fun _ => 1000) := by rw [← hI, if_pos cc5, show 257 - k = 0 by omega]; rfl
          subst hg9
          exact W.vret hx hb hr (fun t ht hW => ⟨⟨(w4, sz), rfl, ⟨mm_e1 fw4_0 (fun j g0 => (frw4 j g0).trans (fr2 j g0)), rfl⟩, by rw [ht]; exact hP, by rw [ht]; exact hz⟩, hS.F ht⟩) hS.2.2 d_Mea_workOut_42
        · have cc7 : ¬ (256 < k) := fun q => cc7 ((nI_ltI (by omega) (by omega)).mpr q)
          refine lv_aload_n hx hb d_Mea_workOut_29 rfl (lv_at hl 2 rfl) ?_
          refine lv_aload_n hx hb d_Mea_workOut_30 rfl (lv_at hl 3 rfl) ?_
          refine lv_iload_n hx hb d_Mea_workOut_31 rfl (lv_at hl 4 rfl) ?_
          refine kk_calli (va_runV (As := [.ref q, .int t]) (rest := []) ⟨hx, hb, hml, hown, hts⟩ (c_Mea_improve l (N := N) (S := S) (ad := ad) f6 fw4_0 hRk hR hgb (by omega) had) (cwV 2 hts (gW_in (hd := [_, _, _, _, _]) (kk_5 wd_312 wd_314 sl_Mea_improve wd_3 cw_Mea_improve)) rfl rfl rfl ⟨rfl, ds_Mea_improve⟩ ⟨Nat.le_of_ble_eq_true rfl, Nat.le_of_ble_eq_true rfl⟩) (kk_preV hK hP hz hBz f6 rfl) rfl rfl hl.1 rfl (lv_room (Nat.le_of_ble_eq_true rfl)) d_Mea_workOut_32 ⟨Nat.le_of_ble_eq_true rfl, Nat.le_of_ble_eq_true rfl⟩) hS (fun r8 w8 sz8 H locs hp8 hP hz hS => ?_)
          obtain ⟨hr8, he8, hs8⟩ := hp8
          subst hr8
          have hz : H.size = sz := hz.trans hs8
          have hw9 : w8 = mm_up w4 (a + 1) (.inl (cI, 256, .inl (fun i => nI ((dm_pass (ru_M N S t) g) i)))) := he8
          have fr9 : ∀ j, j ≠ a + 1 → w8 j = w4 j := fun j h90 => by rw [hw9]; exact mm_un h90
          have fa9_0 : w8 (a + 1) = some (.inl (cI, 256, .inl (fun i => nI ((dm_pass (ru_M N S t) g) i)))) := by rw [hw9]; exact mm_us _ _ _
          refine lv_istore_n hx hb d_Mea_workOut_35 rfl hl (by decide) rfl (fun ls hl => ?_)
          have hl : lv_has ls 5 [(3, .int (nI (if dm_flag (ru_M N S t) g = true then 1 else 0))), (4, .int (nI k)), (0, .ref a), (1, .ref q), (2, .int t)] := hl
          refine lv_iinc (k := 1) (v := nI (k + 1)) hx hb d_Mea_workOut_36 hl rfl (kk_inc _) (by decide) rfl (fun ls hl => ?_)
          have hl : lv_has ls 5 [(4, .int (nI (k + 1))), (3, .int (nI (if dm_flag (ru_M N S t) g = true then 1 else 0))), (0, .ref a), (1, .ref q), (2, .int t)] := hl
          refine lv_goto (tgt := 15) hx hb d_Mea_workOut_39 (by decide) ?_
          exact ih _ (by omega) (k + 1) (dm_flag (ru_M N S t) g) (dm_pass (ru_M N S t) g) w8 _ _ ls rfl hP hz hS (fun j g0 => (fr9 j g0).trans (frw4 j g0)) fa9_0 (by omega) (dm_pass_1000 hgb) (by rw [← hI, if_pos cc5, show 257 - k = (257 - (k + 1)) + 1 by omega]; rfl) (lv_sub hl [0, 1, 2, 3, 4] rfl)
  exact lp3 _ 0 true (fun _ => 1000) w1 _ _ _ rfl hP hz hS (fun _ _ => rfl) fa2_0 (by omega) (fun _ => Nat.le_refl _) (if_pos rfl) (lv_sub hl [0, 1, 2, 3, 4] rfl)
end
section
theorem d_Led_sortIn_0 : decode k_Led_sortIn 0 = .ok (.iload_n 1, 1) := by decide +kernel
theorem d_Led_sortIn_1 : decode k_Led_sortIn 1 = .ok (.istore_n 3, 1) := by decide +kernel
theorem d_Led_sortIn_2 : decode k_Led_sortIn 2 = .ok (.iload_n 3, 1) := by decide +kernel
theorem d_Led_sortIn_3 : decode k_Led_sortIn 3 = .ok (.ifCond .le 35, 3) := by decide +kernel
theorem d_Led_sortIn_6 : decode k_Led_sortIn 6 = .ok (.aload_n 0, 1) := by decide +kernel
theorem d_Led_sortIn_7 : decode k_Led_sortIn 7 = .ok (.getfield 19, 3) := by decide +kernel
theorem d_Led_sortIn_10 : decode k_Led_sortIn 10 = .ok (.iload_n 3, 1) := by decide +kernel
theorem d_Led_sortIn_11 : decode k_Led_sortIn 11 = .ok (.iconst 1, 1) := by decide +kernel
theorem d_Led_sortIn_12 : decode k_Led_sortIn 12 = .ok (.isub, 1) := by decide +kernel
theorem d_Led_sortIn_13 : decode k_Led_sortIn 13 = .ok (.iaload, 1) := by decide +kernel
theorem d_Led_sortIn_14 : decode k_Led_sortIn 14 = .ok (.iload_n 2, 1) := by decide +kernel
theorem d_Led_sortIn_15 : decode k_Led_sortIn 15 = .ok (.if_icmp .le 23, 3) := by decide +kernel
theorem d_Led_sortIn_18 : decode k_Led_sortIn 18 = .ok (.aload_n 0, 1) := by decide +kernel
theorem d_Led_sortIn_19 : decode k_Led_sortIn 19 = .ok (.getfield 19, 3) := by decide +kernel
theorem d_Led_sortIn_22 : decode k_Led_sortIn 22 = .ok (.iload_n 3, 1) := by decide +kernel
theorem d_Led_sortIn_23 : decode k_Led_sortIn 23 = .ok (.aload_n 0, 1) := by decide +kernel
theorem d_Led_sortIn_24 : decode k_Led_sortIn 24 = .ok (.getfield 19, 3) := by decide +kernel
theorem d_Led_sortIn_27 : decode k_Led_sortIn 27 = .ok (.iload_n 3, 1) := by decide +kernel
theorem d_Led_sortIn_28 : decode k_Led_sortIn 28 = .ok (.iconst 1, 1) := by decide +kernel
theorem d_Led_sortIn_29 : decode k_Led_sortIn 29 = .ok (.isub, 1) := by decide +kernel
theorem d_Led_sortIn_30 : decode k_Led_sortIn 30 = .ok (.iaload, 1) := by decide +kernel
theorem d_Led_sortIn_31 : decode k_Led_sortIn 31 = .ok (.iastore, 1) := by decide +kernel
theorem d_Led_sortIn_32 : decode k_Led_sortIn 32 = .ok (.iinc 3 (-1), 3) := by decide +kernel
theorem d_Led_sortIn_35 : decode k_Led_sortIn 35 = .ok (.goto (-33), 3) := by decide +kernel
theorem d_Led_sortIn_38 : decode k_Led_sortIn 38 = .ok (.aload_n 0, 1) := by decide +kernel
theorem d_Led_sortIn_39 : decode k_Led_sortIn 39 = .ok (.getfield 19, 3) := by decide +kernel
theorem d_Led_sortIn_42 : decode k_Led_sortIn 42 = .ok (.iload_n 3, 1) := by decide +kernel
theorem d_Led_sortIn_43 : decode k_Led_sortIn 43 = .ok (.iload_n 2, 1) := by decide +kernel
theorem d_Led_sortIn_44 : decode k_Led_sortIn 44 = .ok (.iastore, 1) := by decide +kernel
theorem d_Led_sortIn_45 : decode k_Led_sortIn 45 = .ok (.return_, 1) := by decide +kernel
set_option maxHeartbeats 4000000 in
set_option maxRecDepth 100000 in
theorem c_Led_sortIn (l : Launch) {B : Nat} {D : va_G} {cI cZ cQ : ClassId} {w : mm_M} {sz : Nat} {a i9 x : Nat} {so : Nat → Nat} (h_0 : w a = some (.inr (3, [.ref (a + 1), .ref (a + 2), .ref (a + 3)]))) (h_1 : w (a + 3) = some (.inl (cI, 3, .inl (fun i => nI (so i))))) (hi : i9 ≤ 2) (hx9 : x ≤ 1000) (hso : ∀ j, so j ≤ 1000) : Met l y_Led_sortIn ws_Led_sortIn (kk_rm 0 0 0) (kk_Pc B D cI cZ cQ [.ref a, .int (nI i9), .int (nI x)] w sz) (kk_Qv B D (fun w' sz' => w' = mm_up w (a + 3) (.inl (cI, 3, .inl (fun i => nI ((dm_ins so i9 x) i)))) ∧ sz' = sz)) 0 0 (fun q => B ≤ q) := by
  refine Met.ofW (cc := k_Led_sortIn) (maxL := 4) (ret := none) (by decide) rfl ?_
  intro p e s m args below meth c s₁ BB hml hv
  obtain ⟨rfl, hK, hP, hz, hBz⟩ := hv
  have hx := BB.exec
  have hb := BB.bytes
  have hr := BB.returns
  have hts := atoms_spec (ws := ws_Led_sortIn) BB.pre
  have hown : s.vm.findClass "DelegationClosure$Leads" = some m.cls := findClass_of_methodNamed BB.named
  have hlocks := BB.notSynchronized
  have hS : mm_S B s.heap s.heap [] := va_S.rf
  have hl := lv_entry ([.ref a, .int (nI i9), .int (nI x)]) (n := 4) (Nat.le_of_ble_eq_true rfl)
  rw [lg_entry_eq]
  generalize (lg_sl ([.ref a, .int (nI i9), .int (nI x)]) ++ List.replicate (4 - (lg_sl ([.ref a, .int (nI i9), .int (nI x)])).length) Slot.unset).toArray = ls at hl ⊢
  have hl : lv_has ls 4 [(0, .ref a), (1, .int (nI i9)), (2, .int (nI x))] := hl
  refine lv_iload_n hx hb d_Led_sortIn_0 rfl (lv_at hl 1 rfl) ?_
  refine lv_istore_n hx hb d_Led_sortIn_1 rfl hl (by decide) rfl (fun ls hl => ?_)
  have hl : lv_has ls 4 [(3, .int (nI i9)), (0, .ref a), (1, .int (nI i9)), (2, .int (nI x))] := hl
  have lp1 : ∀ (d : Nat) (p9 : Nat) (g : Nat → Nat) (w2 : mm_M) (H : Heap) (locs : List Loc) (ls : Array Slot), d = p9 → (mm_P B D kc w2 H) → (H.size = sz) → (mm_S B s.heap H locs) → (∀ j, j ≠ a + 3 → w2 j = w j) → (w2 (a + 3) = some (.inl (cI, 3, .inl (fun i => nI (g i))))) → (p9 ≤ 2) → (∀ j, g j ≤ 1000) → (dm_ins g p9 x = dm_ins so i9 x) → lv_has ls 4 [(3, .int (nI p9)), (0, .ref a), (1, .int (nI i9)), (2, .int (nI x))] → W p l e (headSpec ws_Led_sortIn (kk_rm 0 0 0)).room s m ([.ref a, .int (nI i9), .int (nI x)]).toArray below meth c H locs 0 0 (MQ below (kk_Qv B D (fun w' sz' => w' = mm_up w (a + 3) (.inl (cI, 3, .inl (fun i => nI ((dm_ins so i9 x) i)))) ∧ sz' = sz)) ([.ref a, .int (nI i9), .int (nI x)]).toArray s 0 0 (fun q => B ≤ q)) (F0 m 2 ls []) := by
    intro d
    induction d using Nat.strongRecOn with
    | ind d ih =>
      intro p9 g w2 H locs ls hd hP hz hS frw2 fw2_0 hp hgb hI hl
      refine lv_iload_n hx hb d_Led_sortIn_2 rfl (lv_at hl 0 rfl) ?_
      refine lv_if_le (tgt := 38) hx hb d_Led_sortIn_3 (by decide) (fun cc3 => ?_) (fun cc3 => ?_)
      · rw [← nI_0] at cc3
        have cc3 : p9 ≤ 0 := (nI_leI (by omega) (by omega)).mp cc3
        have hv9 : va_up g p9 x = dm_ins so i9 x := by rw [← hI]; exact (dm_ins_z (by omega)).symm
        refine lv_aload_n hx hb d_Led_sortIn_38 rfl (lv_at hl 1 rfl) ?_
        have f4 := (frw2 _ (by omega)).trans (h_0)
        refine mm_get (D := D) (C := n_Led) (T := T_Led) (N := 3) (v := .ref (a + 3)) hx hb hts lay_Led hown hK.1 hP f4 rfl 2 (by decide) (hts _ (List.mem_cons_of_mem _ wd_60)) (fun _ h9 => h9) rfl d_Led_sortIn_39 ?_
        refine lv_iload_n hx hb d_Led_sortIn_42 rfl (lv_at hl 0 rfl) ?_
        refine lv_iload_n hx hb d_Led_sortIn_43 rfl (lv_at hl 3 rfl) ?_
        refine mm_iast hx hb hK.1 hP hS 0 fw2_0 rfl p9 rfl (by omega) (by decide) d_Led_sortIn_44 (fun H locs hP hz1 hS => ?_)
        rw [show upd (fun i => nI (g i)) p9 (nI x) = fun i => nI ((va_up g p9 x) i) from kk_upn _ _ _] at hP
        have hz : H.size = sz := hz1.trans hz
        obtain ⟨w5, hw5⟩ : ∃ z : mm_M, z = mm_up w2 (a + 3) (.inl (cI, 3, .inl (fun i => nI ((va_up g p9 x) i)))) := ⟨_, rfl⟩
        have hP : mm_P B D kc w5 H := by rw [hw5]; exact hP
        have fr5 : ∀ j, j ≠ a + 3 → w5 j = w2 j := fun j h9 => by rw [hw5]; exact mm_un h9
        have fa5 : w5 (a + 3) = some (.inl (cI, 3, .inl (fun i => nI ((va_up g p9 x) i)))) := by rw [hw5]; exact mm_us _ _ _
        rw [hv9] at fa5
        exact W.vret hx hb hr (fun t ht hW => ⟨⟨(w5, sz), rfl, ⟨mm_e1 fa5 (fun j g0 => (fr5 j g0).trans (frw2 j g0)), rfl⟩, by rw [ht]; exact hP, by rw [ht]; exact hz⟩, hS.F ht⟩) hS.2.2 d_Led_sortIn_45
      · rw [← nI_0] at cc3
        have cc3 : ¬ (p9 ≤ 0) := fun q => cc3 ((nI_leI (by omega) (by omega)).mpr q)
        refine lv_aload_n hx hb d_Led_sortIn_6 rfl (lv_at hl 1 rfl) ?_
        have f6 := (frw2 _ (by omega)).trans (h_0)
        refine mm_get (D := D) (C := n_Led) (T := T_Led) (N := 3) (v := .ref (a + 3)) hx hb hts lay_Led hown hK.1 hP f6 rfl 2 (by decide) (hts _ (List.mem_cons_of_mem _ wd_60)) (fun _ h9 => h9) rfl d_Led_sortIn_7 ?_
        refine lv_iload_n hx hb d_Led_sortIn_10 rfl (lv_at hl 0 rfl) ?_
        refine lv_iconst (v := nI 1) hx hb d_Led_sortIn_11 (by decide) ?_
        refine lv_isub hx hb d_Led_sortIn_12 ?_
        refine kk_top (pk_sub (by omega)) ?_
        refine mm_iald hx hb hK.1 hP 0 fw2_0 rfl (p9 - 1) rfl (by omega) (by decide) d_Led_sortIn_13 ?_
        refine W.eq (g2 := F0 m 14 ls [.int (nI (g (p9 - 1)))]) rfl ?_
        refine lv_iload_n hx hb d_Led_sortIn_14 rfl (lv_at hl 3 rfl) ?_
        have hq1 := hgb (p9 - 1)
        refine lv_icmp_le (tgt := 38) hx hb d_Led_sortIn_15 (by decide) (fun cc7 => ?_) (fun cc7 => ?_)
        · have cc7 : g (p9 - 1) ≤ x := (nI_leI (by omega) (by omega)).mp cc7
          have hv9 : va_up g p9 x = dm_ins so i9 x := by rw [← hI]; exact (dm_ins_f (by omega) (Nat.not_lt.mpr cc7)).symm
          refine lv_aload_n hx hb d_Led_sortIn_38 rfl (lv_at hl 1 rfl) ?_
          refine mm_get (D := D) (C := n_Led) (T := T_Led) (N := 3) (v := .ref (a + 3)) hx hb hts lay_Led hown hK.1 hP f6 rfl 2 (by decide) (hts _ (List.mem_cons_of_mem _ wd_60)) (fun _ h9 => h9) rfl d_Led_sortIn_39 ?_
          refine lv_iload_n hx hb d_Led_sortIn_42 rfl (lv_at hl 0 rfl) ?_
          refine lv_iload_n hx hb d_Led_sortIn_43 rfl (lv_at hl 3 rfl) ?_
          refine mm_iast hx hb hK.1 hP hS 0 fw2_0 rfl p9 rfl (by omega) (by decide) d_Led_sortIn_44 (fun H locs hP hz1 hS => ?_)
          rw [show upd (fun i => nI (g i)) p9 (nI x) = fun i => nI ((va_up g p9 x) i) from kk_upn _ _ _] at hP
          have hz : H.size = sz := hz1.trans hz
          obtain ⟨w8, hw8⟩ : ∃ z : mm_M, z = mm_up w2 (a + 3) (.inl (cI, 3, .inl (fun i => nI ((va_up g p9 x) i)))) := ⟨_, rfl⟩
          have hP : mm_P B D kc w8 H := by rw [hw8]; exact hP
          have fr8 : ∀ j, j ≠ a + 3 → w8 j = w2 j := fun j h9 => by rw [hw8]; exact mm_un h9
          have fa8 : w8 (a + 3) = some (.inl (cI, 3, .inl (fun i => nI ((va_up g p9 x) i)))) := by rw [hw8]; exact mm_us _ _ _
          rw [hv9] at fa8
          exact W.vret hx hb hr (fun t ht hW => ⟨⟨(w8, sz), rfl, ⟨mm_e1 fa8 (fun j g0 => (fr8 j g0).trans (frw2 j g0)), rfl⟩, by rw [ht]; exact hP, by rw [ht]; exact hz⟩, hS.F ht⟩) hS.2.2 d_Led_sortIn_45
        · have cc7 : ¬ (g (p9 - 1) ≤ x) := fun q => cc7 ((nI_leI (by omega) (by omega)).mpr q)
          refine lv_aload_n hx hb d_Led_sortIn_18 rfl (lv_at hl 1 rfl) ?_
          refine mm_get (D := D) (C := n_Led) (T := T_Led) (N := 3) (v := .ref (a + 3)) hx hb hts lay_Led hown hK.1 hP f6 rfl 2 (by decide) (hts _ (List.mem_cons_of_mem _ wd_60)) (fun _ h9 => h9) rfl d_Led_sortIn_19 ?_
          refine lv_iload_n hx hb d_Led_sortIn_22 rfl (lv_at hl 0 rfl) ?_
          refine lv_aload_n hx hb d_Led_sortIn_23 rfl (lv_at hl 1 rfl) ?_
          refine mm_get (D := D) (C := n_Led) (T := T_Led) (N := 3) (v := .ref (a + 3)) hx hb hts lay_Led hown hK.1 hP f6 rfl 2 (by decide) (hts _ (List.mem_cons_of_mem _ wd_60)) (fun _ h9 => h9) rfl d_Led_sortIn_24 ?_
          refine lv_iload_n hx hb d_Led_sortIn_27 rfl (lv_at hl 0 rfl) ?_
          refine lv_iconst (v := nI 1) hx hb d_Led_sortIn_28 (by decide) ?_
          refine lv_isub hx hb d_Led_sortIn_29 ?_
          refine kk_top (pk_sub (by omega)) ?_
          refine mm_iald hx hb hK.1 hP 0 fw2_0 rfl (p9 - 1) rfl (by omega) (by decide) d_Led_sortIn_30 ?_
          refine W.eq (g2 := F0 m 31 ls [.int (nI (g (p9 - 1))), .int (nI p9), .ref (a + 3)]) rfl ?_
          refine mm_iast hx hb hK.1 hP hS 0 fw2_0 rfl p9 rfl (by omega) (by decide) d_Led_sortIn_31 (fun H locs hP hz1 hS => ?_)
          rw [show upd (fun i => nI (g i)) p9 (nI (g (p9 - 1))) = fun i => nI ((va_up g p9 (g (p9 - 1))) i) from kk_upn _ _ _] at hP
          have hz : H.size = sz := hz1.trans hz
          obtain ⟨w9, hw9⟩ : ∃ z : mm_M, z = mm_up w2 (a + 3) (.inl (cI, 3, .inl (fun i => nI ((va_up g p9 (g (p9 - 1))) i)))) := ⟨_, rfl⟩
          have hP : mm_P B D kc w9 H := by rw [hw9]; exact hP
          have fr9 : ∀ j, j ≠ a + 3 → w9 j = w2 j := fun j h9 => by rw [hw9]; exact mm_un h9
          have fa9 : w9 (a + 3) = some (.inl (cI, 3, .inl (fun i => nI ((va_up g p9 (g (p9 - 1))) i)))) := by rw [hw9]; exact mm_us _ _ _
          refine lv_iinc (k := 0) (v := nI (p9 - 1)) hx hb d_Led_sortIn_32 hl rfl (kk_dec (by omega)) (by decide) rfl (fun ls hl => ?_)
          have hl : lv_has ls 4 [(3, .int (nI (p9 - 1))), (0, .ref a), (1, .int (nI i9)), (2, .int (nI x))] := hl
          refine lv_goto (tgt := 2) hx hb d_Led_sortIn_35 (by decide) ?_
          have hI2 : dm_ins (va_up g p9 (g (p9 - 1))) (p9 - 1) x = dm_ins so i9 x := by rw [← hI]; exact (dm_ins_t (by omega) (Nat.lt_of_not_le cc7)).symm
          exact ih _ (by omega) (p9 - 1) (va_up g p9 (g (p9 - 1))) w9 _ _ ls rfl hP hz hS (fun j g0 => (fr9 j g0).trans (frw2 j g0)) fa9 (by omega) (kk_upb hgb (hgb _)) hI2 (lv_sub hl [0, 1, 2, 3] rfl)
  exact lp1 _ i9 so w _ _ _ rfl hP hz hS (fun _ _ => rfl) h_1 (by omega) hso rfl (lv_sub hl [0, 1, 2, 3] rfl)
theorem d_Led_bySubject_0 : decode k_Led_bySubject 0 = .ok (.aload_n 1, 1) := by decide +kernel
theorem d_Led_bySubject_1 : decode k_Led_bySubject 1 = .ok (.iload_n 2, 1) := by decide +kernel
theorem d_Led_bySubject_2 : decode k_Led_bySubject 2 = .ok (.iload 4, 2) := by decide +kernel
theorem d_Led_bySubject_4 : decode k_Led_bySubject 4 = .ok (.invokevirtual 93, 3) := by decide +kernel
theorem d_Led_bySubject_7 : decode k_Led_bySubject 7 = .ok (.istore 5, 2) := by decide +kernel
theorem d_Led_bySubject_9 : decode k_Led_bySubject 9 = .ok (.iload_n 3, 1) := by decide +kernel
theorem d_Led_bySubject_10 : decode k_Led_bySubject 10 = .ok (.ifCond .ne 6, 3) := by decide +kernel
theorem d_Led_bySubject_13 : decode k_Led_bySubject 13 = .ok (.iload 5, 2) := by decide +kernel
theorem d_Led_bySubject_15 : decode k_Led_bySubject 15 = .ok (.ireturn, 1) := by decide +kernel
theorem d_Led_bySubject_16 : decode k_Led_bySubject 16 = .ok (.iconst 0, 1) := by decide +kernel
theorem d_Led_bySubject_17 : decode k_Led_bySubject 17 = .ok (.istore 6, 2) := by decide +kernel
theorem d_Led_bySubject_19 : decode k_Led_bySubject 19 = .ok (.iload 6, 2) := by decide +kernel
theorem d_Led_bySubject_21 : decode k_Led_bySubject 21 = .ok (.bipush 8, 2) := by decide +kernel
theorem d_Led_bySubject_23 : decode k_Led_bySubject 23 = .ok (.if_icmp .ge 44, 3) := by decide +kernel
theorem d_Led_bySubject_26 : decode k_Led_bySubject 26 = .ok (.iload 6, 2) := by decide +kernel
theorem d_Led_bySubject_28 : decode k_Led_bySubject 28 = .ok (.iload 4, 2) := by decide +kernel
theorem d_Led_bySubject_30 : decode k_Led_bySubject 30 = .ok (.if_icmp .eq 31, 3) := by decide +kernel
theorem d_Led_bySubject_33 : decode k_Led_bySubject 33 = .ok (.aload_n 1, 1) := by decide +kernel
theorem d_Led_bySubject_34 : decode k_Led_bySubject 34 = .ok (.iload_n 2, 1) := by decide +kernel
theorem d_Led_bySubject_35 : decode k_Led_bySubject 35 = .ok (.iload 6, 2) := by decide +kernel
theorem d_Led_bySubject_37 : decode k_Led_bySubject 37 = .ok (.invokevirtual 93, 3) := by decide +kernel
theorem d_Led_bySubject_40 : decode k_Led_bySubject 40 = .ok (.istore 7, 2) := by decide +kernel
theorem d_Led_bySubject_42 : decode k_Led_bySubject 42 = .ok (.iload 5, 2) := by decide +kernel
theorem d_Led_bySubject_44 : decode k_Led_bySubject 44 = .ok (.iload 7, 2) := by decide +kernel
theorem d_Led_bySubject_46 : decode k_Led_bySubject 46 = .ok (.aload_n 0, 1) := by decide +kernel
theorem d_Led_bySubject_47 : decode k_Led_bySubject 47 = .ok (.getfield 15, 3) := by decide +kernel
theorem d_Led_bySubject_50 : decode k_Led_bySubject 50 = .ok (.iload 6, 2) := by decide +kernel
theorem d_Led_bySubject_52 : decode k_Led_bySubject 52 = .ok (.iaload, 1) := by decide +kernel
theorem d_Led_bySubject_53 : decode k_Led_bySubject 53 = .ok (.invokestatic 89, 3) := by decide +kernel
theorem d_Led_bySubject_56 : decode k_Led_bySubject 56 = .ok (.invokestatic 98, 3) := by decide +kernel
theorem d_Led_bySubject_59 : decode k_Led_bySubject 59 = .ok (.istore 5, 2) := by decide +kernel
theorem d_Led_bySubject_61 : decode k_Led_bySubject 61 = .ok (.iinc 6 1, 3) := by decide +kernel
theorem d_Led_bySubject_64 : decode k_Led_bySubject 64 = .ok (.goto (-45), 3) := by decide +kernel
theorem d_Led_bySubject_67 : decode k_Led_bySubject 67 = .ok (.iload 5, 2) := by decide +kernel
theorem d_Led_bySubject_69 : decode k_Led_bySubject 69 = .ok (.ireturn, 1) := by decide +kernel
set_option maxHeartbeats 4000000 in
set_option maxRecDepth 100000 in
theorem c_Led_bySubject (l : Launch) {B : Nat} {D : va_G} {cI cZ cQ : ClassId} {w : mm_M} {sz : Nat} {a m9 s9 dl x : Nat} {g l9 : Nat → Nat} (h_0 : w a = some (.inr (3, [.ref (a + 1), .ref (a + 2), .ref (a + 3)]))) (h_1 : w (a + 2) = some (.inl (cI, 9, .inl (fun i => nI (l9 i))))) (h_2 : w m9 = some (.inr (2, [.ref (m9 + 1)]))) (h_3 : w (m9 + 1) = some (.inl (cI, 256, .inl (fun i => nI (g i))))) (hs : s9 < 200) (hdl : dl ≤ 1) (hx9 : x < 8) (hg : ∀ j, g j ≤ 1000) (hl9 : ∀ j, l9 j ≤ 1000) : Met l y_Led_bySubject ws_Led_bySubject (kk_rm 2 0 0) (kk_Pc B D cI cZ cQ [.ref a, .ref m9, .int (nI s9), .int (nI dl), .int (nI x)] w sz) (vp_Si (fun r => r = nI (dm_by1 (dl == 1) (fun y => dm_ofs g s9 y) l9 x))) 0 0 (fun _ => False) := by
  refine Met.ofW (cc := k_Led_bySubject) (maxL := 8) (ret := (some .int)) (by decide) rfl ?_
  intro p e s m args below meth c s₁ BB hml hv
  obtain ⟨rfl, hK, hP, hz, hBz⟩ := hv
  have hx := BB.exec
  have hb := BB.bytes
  have hr := BB.returns
  have hts := atoms_spec (ws := ws_Led_bySubject) BB.pre
  have hown : s.vm.findClass "DelegationClosure$Leads" = some m.cls := findClass_of_methodNamed BB.named
  have hlocks := BB.notSynchronized
  have hS : mm_S B s.heap s.heap [] := va_S.rf
  have hl := lv_entry ([.ref a, .ref m9, .int (nI s9), .int (nI dl), .int (nI x)]) (n := 8) (Nat.le_of_ble_eq_true rfl)
  rw [lg_entry_eq]
  generalize (lg_sl ([.ref a, .ref m9, .int (nI s9), .int (nI dl), .int (nI x)]) ++ List.replicate (8 - (lg_sl ([.ref a, .ref m9, .int (nI s9), .int (nI dl), .int (nI x)])).length) Slot.unset).toArray = ls at hl ⊢
  have hl : lv_has ls 8 [(0, .ref a), (1, .ref m9), (2, .int (nI s9)), (3, .int (nI dl)), (4, .int (nI x))] := hl
  refine lv_aload_n hx hb d_Led_bySubject_0 rfl (lv_at hl 1 rfl) ?_
  refine lv_iload_n hx hb d_Led_bySubject_1 rfl (lv_at hl 2 rfl) ?_
  refine lv_iload hx hb d_Led_bySubject_2 (lv_at hl 4 rfl) ?_
  refine vp_callSi (va_Run.run (va_runV (As := [.int (nI s9), .int (nI x)]) (rest := []) ⟨hx, hb, hml, hown, hts⟩ (c_Mea_ofSubject l h_2 h_3 (by omega) (by omega) hg) (cwV 2 hts (gW_in (hd := [_, _, _, _, _]) (kk_5 wd_387 wd_330 wd_331 wd_3 cw_Mea_ofSubject)) rfl rfl rfl ⟨rfl, ds_Mea_ofSubject⟩ ⟨Nat.le_of_ble_eq_true rfl, Nat.le_of_ble_eq_true rfl⟩) (kk_preV hK hP hz hBz h_2 rfl) rfl rfl hl.1 rfl (lv_room (Nat.le_of_ble_eq_true rfl)) d_Led_bySubject_4 ⟨Nat.le_of_ble_eq_true rfl, Nat.le_of_ble_eq_true rfl⟩)) (fun r1 hr1 => ?_)
  subst hr1
  refine lv_istore hx hb d_Led_bySubject_7 hl (by decide) rfl (fun ls hl => ?_)
  have hl : lv_has ls 8 [(5, .int (nI (dm_ofs g s9 x))), (0, .ref a), (1, .ref m9), (2, .int (nI s9)), (3, .int (nI dl)), (4, .int (nI x))] := hl
  refine lv_iload_n hx hb d_Led_bySubject_9 rfl (lv_at hl 4 rfl) ?_
  refine lv_if_ne (tgt := 16) hx hb d_Led_bySubject_10 (by decide) (fun cc2 => ?_) (fun cc2 => ?_)
  · rw [← nI_0] at cc2
    have cc2 : ¬ (dl = 0) := fun q => cc2 ((nI_eq (by omega) (by omega)).mpr q)
    refine lv_iconst (v := nI 0) hx hb d_Led_bySubject_16 (by decide) ?_
    refine lv_istore hx hb d_Led_bySubject_17 hl (by decide) rfl (fun ls hl => ?_)
    have hl : lv_has ls 8 [(6, .int (nI 0)), (5, .int (nI (dm_ofs g s9 x))), (0, .ref a), (1, .ref m9), (2, .int (nI s9)), (3, .int (nI dl)), (4, .int (nI x))] := hl
    have lp3 : ∀ (d : Nat) (k : Nat) (ls : Array Slot), d = 8 - k → (k ≤ 8) → lv_has ls 8 [(6, .int (nI k)), (5, .int (nI (dm_bys (fun y => dm_ofs g s9 y) l9 x k))), (0, .ref a), (1, .ref m9), (2, .int (nI s9)), (3, .int (nI dl)), (4, .int (nI x))] → W p l e (headSpec ws_Led_bySubject (kk_rm 2 0 0)).room s m ([.ref a, .ref m9, .int (nI s9), .int (nI dl), .int (nI x)]).toArray below meth c s.heap [] 0 0 (MQ below (vp_Si (fun r => r = nI (dm_by1 (dl == 1) (fun y => dm_ofs g s9 y) l9 x))) ([.ref a, .ref m9, .int (nI s9), .int (nI dl), .int (nI x)]).toArray s 0 0 (fun _ => False)) (F0 m 19 ls []) := by
      intro d
      induction d using Nat.strongRecOn with
      | ind d ih =>
        intro k ls hd hk hl
        refine lv_iload hx hb d_Led_bySubject_19 (lv_at hl 0 rfl) ?_
        refine lv_bipush (v := nI 8) hx hb d_Led_bySubject_21 (by decide) ?_
        refine lv_icmp_ge (tgt := 67) hx hb d_Led_bySubject_23 (by decide) (fun cc4 => ?_) (fun cc4 => ?_)
        · have cc4 : 8 ≤ k := (nI_leI (by omega) (by omega)).mp cc4
          refine lv_iload hx hb d_Led_bySubject_67 (lv_at hl 1 rfl) ?_
          exact W.iret hx hb hr (fun t ht hW => ⟨_, rfl, congrArg nI (by obtain rfl : k = 8 := (by omega); obtain rfl : dl = 1 := (by omega); rfl), ht⟩) (fun q hq => by cases hq) d_Led_bySubject_69
        · have cc4 : ¬ (8 ≤ k) := fun q => cc4 ((nI_leI (by omega) (by omega)).mpr q)
          refine lv_iload hx hb d_Led_bySubject_26 (lv_at hl 0 rfl) ?_
          refine lv_iload hx hb d_Led_bySubject_28 (lv_at hl 6 rfl) ?_
          refine lv_icmp_eq (tgt := 61) hx hb d_Led_bySubject_30 (by decide) (fun cc5 => ?_) (fun cc5 => ?_)
          · have cc5 : k = x := (nI_eq (by omega) (by omega)).mp cc5
            have e1 : dm_bys (fun y => dm_ofs g s9 y) l9 x (k + 1) = dm_bys (fun y => dm_ofs g s9 y) l9 x k := if_pos cc5
            rw [← e1] at hl
            refine lv_iinc (k := 0) (v := nI (k + 1)) hx hb d_Led_bySubject_61 hl rfl (kk_inc _) (by decide) rfl (fun ls hl => ?_)
            have hl : lv_has ls 8 [(6, .int (nI (k + 1))), (5, .int (nI (dm_bys (fun y => dm_ofs g s9 y) l9 x (k + 1)))), (0, .ref a), (1, .ref m9), (2, .int (nI s9)), (3, .int (nI dl)), (4, .int (nI x))] := hl
            refine lv_goto (tgt := 19) hx hb d_Led_bySubject_64 (by decide) ?_
            exact ih _ (by omega) (k + 1) ls rfl (by omega) (lv_sub hl [0, 1, 2, 3, 4, 5, 6] rfl)
          · have cc5 : ¬ (k = x) := fun q => cc5 ((nI_eq (by omega) (by omega)).mpr q)
            refine lv_aload_n hx hb d_Led_bySubject_33 rfl (lv_at hl 3 rfl) ?_
            refine lv_iload_n hx hb d_Led_bySubject_34 rfl (lv_at hl 4 rfl) ?_
            refine lv_iload hx hb d_Led_bySubject_35 (lv_at hl 0 rfl) ?_
            refine vp_callSi (va_Run.run (va_runV (As := [.int (nI s9), .int (nI k)]) (rest := []) ⟨hx, hb, hml, hown, hts⟩ (c_Mea_ofSubject l h_2 h_3 (by omega) (by omega) hg) (cwV 2 hts (gW_in (hd := [_, _, _, _, _]) (kk_5 wd_387 wd_330 wd_331 wd_3 cw_Mea_ofSubject)) rfl rfl rfl ⟨rfl, ds_Mea_ofSubject⟩ ⟨Nat.le_of_ble_eq_true rfl, Nat.le_of_ble_eq_true rfl⟩) (kk_preV hK hP hz hBz h_2 rfl) rfl rfl hl.1 rfl (lv_room (Nat.le_of_ble_eq_true rfl)) d_Led_bySubject_37 ⟨Nat.le_of_ble_eq_true rfl, Nat.le_of_ble_eq_true rfl⟩)) (fun r6 hr6 => ?_)
            subst hr6
            refine lv_istore hx hb d_Led_bySubject_40 hl (by decide) rfl (fun ls hl => ?_)
            have hl : lv_has ls 8 [(7, .int (nI (dm_ofs g s9 k))), (6, .int (nI k)), (5, .int (nI (dm_bys (fun y => dm_ofs g s9 y) l9 x k))), (0, .ref a), (1, .ref m9), (2, .int (nI s9)), (3, .int (nI dl)), (4, .int (nI x))] := hl
            refine lv_iload hx hb d_Led_bySubject_42 (lv_at hl 2 rfl) ?_
            refine lv_iload hx hb d_Led_bySubject_44 (lv_at hl 0 rfl) ?_
            refine lv_aload_n hx hb d_Led_bySubject_46 rfl (lv_at hl 3 rfl) ?_
            refine mm_get (D := D) (C := n_Led) (T := T_Led) (N := 3) (v := .ref (a + 2)) hx hb hts lay_Led hown hK.1 hP h_0 rfl 1 (by decide) (hts _ (List.mem_cons_of_mem _ wd_59)) (fun _ h9 => h9) rfl d_Led_bySubject_47 ?_
            refine lv_iload hx hb d_Led_bySubject_50 (lv_at hl 1 rfl) ?_
            refine mm_iald hx hb hK.1 hP 0 h_1 rfl k rfl (by omega) (by decide) d_Led_bySubject_52 ?_
            refine W.eq (g2 := F0 m 53 ls [.int (nI (l9 k)), .int (nI (dm_ofs g s9 k)), .int (nI (dm_bys (fun y => dm_ofs g s9 y) l9 x k))]) rfl ?_
            have hq1 := dm_ofs_le hg s9 k
            have hq2 := hl9 k
            refine vp_callSi (va_Run.run (va_runSN (As := [.int (nI (dm_ofs g s9 k)), .int (nI (l9 k))]) (rest := [.int (nI (dm_bys (fun y => dm_ofs g s9 y) l9 x k))]) ⟨hx, hb, hml, hown, hts⟩ (c_X_sumOf l (by omega) (by omega)) ⟨va_cnB 2 hts (gW_in (hd := [_]) (kk_1 cw_X_sumOf)) rfl rfl rfl (hK.2.1 _ nw_388 rfl) (hts _ (List.mem_cons_of_mem _ wd_1)) ds_X_sumOf ⟨Nat.le_of_ble_eq_true rfl, Nat.le_of_ble_eq_true rfl⟩, (hts _ (List.mem_cons_of_mem _ wd_339)), trivial⟩ (kk_preS hK hP hz hBz) rfl rfl hl.1 rfl (lv_room (Nat.le_of_ble_eq_true rfl)) d_Led_bySubject_53 ⟨Nat.le_of_ble_eq_true rfl, Nat.le_of_ble_eq_true rfl⟩)) (fun r7 hr7 => ?_)
            subst hr7
            refine va_mmin hx hb (by rw [hml]; exact hl.1.symm) hown (hts _ (List.mem_cons_of_mem _ wd_389)) (hts _ (List.mem_cons_of_mem _ wd_342)) (hts _ (List.mem_cons_of_mem _ wd_13)) (hts _ (List.mem_cons_of_mem _ wd_math_min)) (Nat.le_of_ble_eq_true rfl) (Nat.le_of_ble_eq_true rfl) (Nat.zero_le _) (Nat.zero_le _) d_Led_bySubject_56 ?_
            refine kk_top (y := nI (dm_bys (fun y => dm_ofs g s9 y) l9 x (k + 1))) ((kk_min (Nat.lt_of_le_of_lt (dm_bys_le (fun y => dm_ofs_le hg _ y) _ _) (by decide)) (Nat.lt_of_le_of_lt (dm_s_le _ _) (by decide))).trans (congrArg nI (if_neg cc5).symm)) ?_
            refine lv_istore hx hb d_Led_bySubject_59 hl (by decide) rfl (fun ls hl => ?_)
            have hl : lv_has ls 8 [(5, .int (nI (dm_bys (fun y => dm_ofs g s9 y) l9 x (k + 1)))), (7, .int (nI (dm_ofs g s9 k))), (6, .int (nI k)), (0, .ref a), (1, .ref m9), (2, .int (nI s9)), (3, .int (nI dl)), (4, .int (nI x))] := hl
            refine lv_iinc (k := 2) (v := nI (k + 1)) hx hb d_Led_bySubject_61 hl rfl (kk_inc _) (by decide) rfl (fun ls hl => ?_)
            have hl : lv_has ls 8 [(6, .int (nI (k + 1))), (5, .int (nI (dm_bys (fun y => dm_ofs g s9 y) l9 x (k + 1)))), (7, .int (nI (dm_ofs g s9 k))), (0, .ref a), (1, .ref m9), (2, .int (nI s9)), (3, .int (nI dl)), (4, .int (nI x))] := hl
            refine lv_goto (tgt := 19) hx hb d_Led_bySubject_64 (by decide) ?_
            exact ih _ (by omega) (k + 1) ls rfl (by omega) (lv_sub hl [0, 1, 3, 4, 5, 6, 7] rfl)
    exact lp3 _ 0 _ rfl (by omega) (lv_sub hl [0, 1, 2, 3, 4, 5, 6] rfl)
  · rw [← nI_0] at cc2
    have cc2 : dl = 0 := (nI_eq (by omega) (by omega)).mp cc2
    refine lv_iload hx hb d_Led_bySubject_13 (lv_at hl 0 rfl) ?_
    exact W.iret hx hb hr (fun t ht hW => ⟨_, rfl, congrArg nI (by unfold dm_by1; rw [if_neg (by rw [cc2]; decide)]), ht⟩) (fun q hq => by cases hq) d_Led_bySubject_15
theorem d_Chn_isThere_0 : decode k_Chn_isThere 0 = .ok (.aload_n 0, 1) := by decide +kernel
theorem d_Chn_isThere_1 : decode k_Chn_isThere 1 = .ok (.getfield 38, 3) := by decide +kernel
theorem d_Chn_isThere_4 : decode k_Chn_isThere 4 = .ok (.ifCond .le 7, 3) := by decide +kernel
theorem d_Chn_isThere_7 : decode k_Chn_isThere 7 = .ok (.iconst 1, 1) := by decide +kernel
theorem d_Chn_isThere_8 : decode k_Chn_isThere 8 = .ok (.goto 4, 3) := by decide +kernel
theorem d_Chn_isThere_11 : decode k_Chn_isThere 11 = .ok (.iconst 0, 1) := by decide +kernel
theorem d_Chn_isThere_12 : decode k_Chn_isThere 12 = .ok (.ireturn, 1) := by decide +kernel
set_option maxHeartbeats 4000000 in
set_option maxRecDepth 100000 in
theorem c_Chn_isThere (l : Launch) {B : Nat} {D : va_G} {cI cZ cQ : ClassId} {w : mm_M} {sz : Nat} {a ky nm sz9 tg tm us dl : Nat} (h_0 : w a = some (.inr (4, [.int (nI ky), .ref nm, .int (nI sz9), .ref tg, .ref tm, .int (nI us), .int (nI dl)]))) (hus : us < 2 ^ 30) : Met l y_Chn_isThere ws_Chn_isThere (kk_rm 0 0 0) (kk_Pc B D cI cZ cQ [.ref a] w sz) (vp_Si (fun r => r = nI (if 0 < us then 1 else 0))) 0 0 (fun _ => False) := by
  refine Met.ofW (cc := k_Chn_isThere) (maxL := 1) (ret := (some .boolean)) (by decide) rfl ?_
  intro p e s m args below meth c s₁ BB hml hv
  obtain ⟨rfl, hK, hP, hz, hBz⟩ := hv
  have hx := BB.exec
  have hb := BB.bytes
  have hr := BB.returns
  have hts := atoms_spec (ws := ws_Chn_isThere) BB.pre
  have hown : s.vm.findClass "DelegationClosure$Chain" = some m.cls := findClass_of_methodNamed BB.named
  have hlocks := BB.notSynchronized
  have hS : mm_S B s.heap s.heap [] := va_S.rf
  have hl := lv_entry ([.ref a]) (n := 1) (Nat.le_of_ble_eq_true rfl)
  rw [lg_entry_eq]
  generalize (lg_sl ([.ref a]) ++ List.replicate (1 - (lg_sl ([.ref a])).length) Slot.unset).toArray = ls at hl ⊢
  have hl : lv_has ls 1 [(0, .ref a)] := hl
  refine lv_aload_n hx hb d_Chn_isThere_0 rfl (lv_at hl 0 rfl) ?_
  refine mm_get (D := D) (C := n_Chn) (T := T_Chn) (N := 7) (v := .int (nI us)) hx hb hts lay_Chn hown hK.1 hP h_0 rfl 5 (by decide) (hts _ (List.mem_cons_of_mem _ wd_113)) (fun _ h9 => h9) rfl d_Chn_isThere_1 ?_
  refine lv_if_le (tgt := 11) hx hb d_Chn_isThere_4 (by decide) (fun cc1 => ?_) (fun cc1 => ?_)
  · rw [← nI_0] at cc1
    have cc1 : us ≤ 0 := (nI_leI (by omega) (by omega)).mp cc1
    refine lv_iconst (v := nI 0) hx hb d_Chn_isThere_11 (by decide) ?_
    exact W.zret hx hb hr rfl (fun t ht hW => ⟨_, rfl, kk_iff (by omega), ht⟩) (fun q hq => by cases hq) d_Chn_isThere_12
  · rw [← nI_0] at cc1
    have cc1 : ¬ (us ≤ 0) := fun q => cc1 ((nI_leI (by omega) (by omega)).mpr q)
    refine lv_iconst (v := nI 1) hx hb d_Chn_isThere_7 (by decide) ?_
    refine lv_goto (tgt := 12) hx hb d_Chn_isThere_8 (by decide) ?_
    exact W.zret hx hb hr rfl (fun t ht hW => ⟨_, rfl, kk_ift (by omega), ht⟩) (fun q hq => by cases hq) d_Chn_isThere_12
end
section
theorem d_Mod_keyOf_0 : decode k_Mod_keyOf 0 = .ok (.iload_n 0, 1) := by decide +kernel
theorem d_Mod_keyOf_1 : decode k_Mod_keyOf 1 = .ok (.bipush 8, 2) := by decide +kernel
theorem d_Mod_keyOf_3 : decode k_Mod_keyOf 3 = .ok (.irem, 1) := by decide +kernel
theorem d_Mod_keyOf_4 : decode k_Mod_keyOf 4 = .ok (.ireturn, 1) := by decide +kernel
set_option maxHeartbeats 4000000 in
set_option maxRecDepth 100000 in
theorem c_Mod_keyOf (l : Launch) {B : Nat} {D : va_G} {cI cZ cQ : ClassId} {w : mm_M} {sz : Nat} {n : Nat} (hn : n < 2 ^ 30) : Met l y_Mod_keyOf ws_Mod_keyOf (kk_rm 0 0 0) (kk_Pc B D cI cZ cQ [.int (nI n)] w sz) (vp_Si (fun r => r = nI (n % 8))) 0 0 (fun _ => False) := by
  refine Met.ofW (cc := k_Mod_keyOf) (maxL := 1) (ret := (some .int)) (by decide) rfl ?_
  intro p e s m args below meth c s₁ BB hml hv
  obtain ⟨rfl, hK, hP, hz, hBz⟩ := hv
  have hx := BB.exec
  have hb := BB.bytes
  have hr := BB.returns
  have hts := atoms_spec (ws := ws_Mod_keyOf) BB.pre
  have hown : s.vm.findClass "DelegationClosureModel" = some m.cls := findClass_of_methodNamed BB.named
  have hlocks := BB.notSynchronized
  have hS : mm_S B s.heap s.heap [] := va_S.rf
  have hl := lv_entry ([.int (nI n)]) (n := 1) (Nat.le_of_ble_eq_true rfl)
  rw [lg_entry_eq]
  generalize (lg_sl ([.int (nI n)]) ++ List.replicate (1 - (lg_sl ([.int (nI n)])).length) Slot.unset).toArray = ls at hl ⊢
  have hl : lv_has ls 1 [(0, .int (nI n))] := hl
  refine lv_iload_n hx hb d_Mod_keyOf_0 rfl (lv_at hl 0 rfl) ?_
  refine lv_bipush (v := nI 8) hx hb d_Mod_keyOf_1 (by decide) ?_
  refine lv_irem hx hb d_Mod_keyOf_3 (by decide) ?_
  refine kk_top (pk_rem (by omega) (by omega) (by omega)) ?_
  exact W.iret hx hb hr (fun t ht hW => ⟨_, rfl, rfl, ht⟩) (fun q hq => by cases hq) d_Mod_keyOf_4
theorem d_Mod_nameOf_0 : decode k_Mod_nameOf 0 = .ok (.iload_n 0, 1) := by decide +kernel
theorem d_Mod_nameOf_1 : decode k_Mod_nameOf 1 = .ok (.bipush 8, 2) := by decide +kernel
theorem d_Mod_nameOf_3 : decode k_Mod_nameOf 3 = .ok (.idiv, 1) := by decide +kernel
theorem d_Mod_nameOf_4 : decode k_Mod_nameOf 4 = .ok (.istore_n 2, 1) := by decide +kernel
theorem d_Mod_nameOf_5 : decode k_Mod_nameOf 5 = .ok (.iload_n 1, 1) := by decide +kernel
theorem d_Mod_nameOf_6 : decode k_Mod_nameOf 6 = .ok (.ifCond .eq 11, 3) := by decide +kernel
theorem d_Mod_nameOf_9 : decode k_Mod_nameOf 9 = .ok (.iload_n 2, 1) := by decide +kernel
theorem d_Mod_nameOf_10 : decode k_Mod_nameOf 10 = .ok (.iconst 5, 1) := by decide +kernel
theorem d_Mod_nameOf_11 : decode k_Mod_nameOf 11 = .ok (.idiv, 1) := by decide +kernel
theorem d_Mod_nameOf_12 : decode k_Mod_nameOf 12 = .ok (.iconst 1, 1) := by decide +kernel
theorem d_Mod_nameOf_13 : decode k_Mod_nameOf 13 = .ok (.isub, 1) := by decide +kernel
theorem d_Mod_nameOf_14 : decode k_Mod_nameOf 14 = .ok (.goto 8, 3) := by decide +kernel
theorem d_Mod_nameOf_17 : decode k_Mod_nameOf 17 = .ok (.iload_n 2, 1) := by decide +kernel
theorem d_Mod_nameOf_18 : decode k_Mod_nameOf 18 = .ok (.iconst 5, 1) := by decide +kernel
theorem d_Mod_nameOf_19 : decode k_Mod_nameOf 19 = .ok (.irem, 1) := by decide +kernel
theorem d_Mod_nameOf_20 : decode k_Mod_nameOf 20 = .ok (.iconst 1, 1) := by decide +kernel
theorem d_Mod_nameOf_21 : decode k_Mod_nameOf 21 = .ok (.isub, 1) := by decide +kernel
theorem d_Mod_nameOf_22 : decode k_Mod_nameOf 22 = .ok (.ireturn, 1) := by decide +kernel
set_option maxHeartbeats 4000000 in
set_option maxRecDepth 100000 in
theorem c_Mod_nameOf0 (l : Launch) {B : Nat} {D : va_G} {cI cZ cQ : ClassId} {w : mm_M} {sz : Nat} {n : Nat} (hn : n < 2 ^ 30) : Met l y_Mod_nameOf ws_Mod_nameOf (kk_rm 0 0 0) (kk_Pc B D cI cZ cQ [.int (nI n), .int (nI 0)] w sz) (vp_Si (fun r => r = nI (n / 8 % 5) - nI 1)) 0 0 (fun _ => False) := by
  refine Met.ofW (cc := k_Mod_nameOf) (maxL := 3) (ret := (some .int)) (by decide) rfl ?_
  intro p e s m args below meth c s₁ BB hml hv
  obtain ⟨rfl, hK, hP, hz, hBz⟩ := hv
  have hx := BB.exec
  have hb := BB.bytes
  have hr := BB.returns
  have hts := atoms_spec (ws := ws_Mod_nameOf) BB.pre
  have hown : s.vm.findClass "DelegationClosureModel" = some m.cls := findClass_of_methodNamed BB.named
  have hlocks := BB.notSynchronized
  have hS : mm_S B s.heap s.heap [] := va_S.rf
  have hl := lv_entry ([.int (nI n), .int (nI 0)]) (n := 3) (Nat.le_of_ble_eq_true rfl)
  rw [lg_entry_eq]
  generalize (lg_sl ([.int (nI n), .int (nI 0)]) ++ List.replicate (3 - (lg_sl ([.int (nI n), .int (nI 0)])).length) Slot.unset).toArray = ls at hl ⊢
  have hl : lv_has ls 3 [(0, .int (nI n)), (1, .int (nI 0))] := hl
  refine lv_iload_n hx hb d_Mod_nameOf_0 rfl (lv_at hl 0 rfl) ?_
  refine lv_bipush (v := nI 8) hx hb d_Mod_nameOf_1 (by decide) ?_
  refine lv_idiv hx hb d_Mod_nameOf_3 (by decide) ?_
  refine kk_top (pk_div (by omega) (by omega) (by omega)) ?_
  refine lv_istore_n hx hb d_Mod_nameOf_4 rfl hl (by decide) rfl (fun ls hl => ?_)
  have hl : lv_has ls 3 [(2, .int (nI (n / 8))), (0, .int (nI n)), (1, .int (nI 0))] := hl
  refine lv_iload_n hx hb d_Mod_nameOf_5 rfl (lv_at hl 2 rfl) ?_
  refine lv_if_eq (tgt := 17) hx hb d_Mod_nameOf_6 (by decide) (fun cc1 => ?_) (fun cc1 => ?_)
  · rw [← nI_0] at cc1
    have cc1 : 0 = 0 := (nI_eq (by omega) (by omega)).mp cc1
    refine lv_iload_n hx hb d_Mod_nameOf_17 rfl (lv_at hl 0 rfl) ?_
    refine lv_iconst (v := nI 5) hx hb d_Mod_nameOf_18 (by decide) ?_
    refine lv_irem hx hb d_Mod_nameOf_19 (by decide) ?_
    refine kk_top (pk_rem (by omega) (by omega) (by omega)) ?_
    refine lv_iconst (v := nI 1) hx hb d_Mod_nameOf_20 (by decide) ?_
    refine lv_isub hx hb d_Mod_nameOf_21 ?_
    exact W.iret hx hb hr (fun t ht hW => ⟨_, rfl, rfl, ht⟩) (fun q hq => by cases hq) d_Mod_nameOf_22
  · rw [← nI_0] at cc1
    have cc1 : ¬ (0 = 0) := fun q => cc1 ((nI_eq (by omega) (by omega)).mpr q)
    exact absurd cc1 (by omega)
set_option maxHeartbeats 4000000 in
set_option maxRecDepth 100000 in
theorem c_Mod_nameOf1 (l : Launch) {B : Nat} {D : va_G} {cI cZ cQ : ClassId} {w : mm_M} {sz : Nat} {n : Nat} (hn : n < 2 ^ 30) : Met l y_Mod_nameOf ws_Mod_nameOf (kk_rm 0 0 0) (kk_Pc B D cI cZ cQ [.int (nI n), .int (nI 1)] w sz) (vp_Si (fun r => r = nI (n / 40) - nI 1)) 0 0 (fun _ => False) := by
  refine Met.ofW (cc := k_Mod_nameOf) (maxL := 3) (ret := (some .int)) (by decide) rfl ?_
  intro p e s m args below meth c s₁ BB hml hv
  obtain ⟨rfl, hK, hP, hz, hBz⟩ := hv
  have hx := BB.exec
  have hb := BB.bytes
  have hr := BB.returns
  have hts := atoms_spec (ws := ws_Mod_nameOf) BB.pre
  have hown : s.vm.findClass "DelegationClosureModel" = some m.cls := findClass_of_methodNamed BB.named
  have hlocks := BB.notSynchronized
  have hS : mm_S B s.heap s.heap [] := va_S.rf
  have hl := lv_entry ([.int (nI n), .int (nI 1)]) (n := 3) (Nat.le_of_ble_eq_true rfl)
  rw [lg_entry_eq]
  generalize (lg_sl ([.int (nI n), .int (nI 1)]) ++ List.replicate (3 - (lg_sl ([.int (nI n), .int (nI 1)])).length) Slot.unset).toArray = ls at hl ⊢
  have hl : lv_has ls 3 [(0, .int (nI n)), (1, .int (nI 1))] := hl
  refine lv_iload_n hx hb d_Mod_nameOf_0 rfl (lv_at hl 0 rfl) ?_
  refine lv_bipush (v := nI 8) hx hb d_Mod_nameOf_1 (by decide) ?_
  refine lv_idiv hx hb d_Mod_nameOf_3 (by decide) ?_
  refine kk_top (pk_div (by omega) (by omega) (by omega)) ?_
  refine lv_istore_n hx hb d_Mod_nameOf_4 rfl hl (by decide) rfl (fun ls hl => ?_)
  have hl : lv_has ls 3 [(2, .int (nI (n / 8))), (0, .int (nI n)), (1, .int (nI 1))] := hl
  refine lv_iload_n hx hb d_Mod_nameOf_5 rfl (lv_at hl 2 rfl) ?_
  refine lv_if_eq (tgt := 17) hx hb d_Mod_nameOf_6 (by decide) (fun cc1 => ?_) (fun cc1 => ?_)
  · rw [← nI_0] at cc1
    have cc1 : 1 = 0 := (nI_eq (by omega) (by omega)).mp cc1
    exact absurd cc1 (by omega)
  · rw [← nI_0] at cc1
    have cc1 : ¬ (1 = 0) := fun q => cc1 ((nI_eq (by omega) (by omega)).mpr q)
    refine lv_iload_n hx hb d_Mod_nameOf_9 rfl (lv_at hl 0 rfl) ?_
    refine lv_iconst (v := nI 5) hx hb d_Mod_nameOf_10 (by decide) ?_
    refine lv_idiv hx hb d_Mod_nameOf_11 (by decide) ?_
    refine kk_top (pk_div (by omega) (by omega) (by omega)) ?_
    refine lv_iconst (v := nI 1) hx hb d_Mod_nameOf_12 (by decide) ?_
    refine lv_isub hx hb d_Mod_nameOf_13 ?_
    refine lv_goto (tgt := 22) hx hb d_Mod_nameOf_14 (by decide) ?_
    exact W.iret hx hb hr (fun t ht hW => ⟨_, rfl, congrArg (fun q => nI q - nI 1) (by omega), ht⟩) (fun q hq => by cases hq) d_Mod_nameOf_22
theorem d_Mod_isSubject_0 : decode k_Mod_isSubject 0 = .ok (.iload_n 0, 1) := by decide +kernel
theorem d_Mod_isSubject_1 : decode k_Mod_isSubject 1 = .ok (.ifCond .lt 30, 3) := by decide +kernel
theorem d_Mod_isSubject_4 : decode k_Mod_isSubject 4 = .ok (.iload_n 0, 1) := by decide +kernel
theorem d_Mod_isSubject_5 : decode k_Mod_isSubject 5 = .ok (.sipush 200, 3) := by decide +kernel
theorem d_Mod_isSubject_8 : decode k_Mod_isSubject 8 = .ok (.if_icmp .ge 23, 3) := by decide +kernel
theorem d_Mod_isSubject_11 : decode k_Mod_isSubject 11 = .ok (.iload_n 0, 1) := by decide +kernel
theorem d_Mod_isSubject_12 : decode k_Mod_isSubject 12 = .ok (.iconst 0, 1) := by decide +kernel
theorem d_Mod_isSubject_13 : decode k_Mod_isSubject 13 = .ok (.invokestatic 59, 3) := by decide +kernel
theorem d_Mod_isSubject_16 : decode k_Mod_isSubject 16 = .ok (.ifCond .ge 11, 3) := by decide +kernel
theorem d_Mod_isSubject_19 : decode k_Mod_isSubject 19 = .ok (.iload_n 0, 1) := by decide +kernel
theorem d_Mod_isSubject_20 : decode k_Mod_isSubject 20 = .ok (.iconst 1, 1) := by decide +kernel
theorem d_Mod_isSubject_21 : decode k_Mod_isSubject 21 = .ok (.invokestatic 59, 3) := by decide +kernel
theorem d_Mod_isSubject_24 : decode k_Mod_isSubject 24 = .ok (.ifCond .ge 7, 3) := by decide +kernel
theorem d_Mod_isSubject_27 : decode k_Mod_isSubject 27 = .ok (.iconst 1, 1) := by decide +kernel
theorem d_Mod_isSubject_28 : decode k_Mod_isSubject 28 = .ok (.goto 4, 3) := by decide +kernel
theorem d_Mod_isSubject_31 : decode k_Mod_isSubject 31 = .ok (.iconst 0, 1) := by decide +kernel
theorem d_Mod_isSubject_32 : decode k_Mod_isSubject 32 = .ok (.ireturn, 1) := by decide +kernel
set_option maxHeartbeats 4000000 in
set_option maxRecDepth 100000 in
theorem c_Mod_isSubject (l : Launch) {B : Nat} {D : va_G} {cI cZ cQ : ClassId} {w : mm_M} {sz : Nat} {x : Int32} : Met l y_Mod_isSubject ws_Mod_isSubject (kk_rm 1 0 0) (kk_Pc B D cI cZ cQ [.int x] w sz) (vp_Si (fun r => r = nI (if wf_sub x then 1 else 0))) 0 0 (fun _ => False) := by
  refine Met.ofW (cc := k_Mod_isSubject) (maxL := 1) (ret := (some .boolean)) (by decide) rfl ?_
  intro p e s m args below meth c s₁ BB hml hv
  obtain ⟨rfl, hK, hP, hz, hBz⟩ := hv
  have hx := BB.exec
  have hb := BB.bytes
  have hr := BB.returns
  have hts := atoms_spec (ws := ws_Mod_isSubject) BB.pre
  have hown : s.vm.findClass "DelegationClosureModel" = some m.cls := findClass_of_methodNamed BB.named
  have hlocks := BB.notSynchronized
  have hS : mm_S B s.heap s.heap [] := va_S.rf
  have hl := lv_entry ([.int x]) (n := 1) (Nat.le_of_ble_eq_true rfl)
  rw [lg_entry_eq]
  generalize (lg_sl ([.int x]) ++ List.replicate (1 - (lg_sl ([.int x])).length) Slot.unset).toArray = ls at hl ⊢
  have hl : lv_has ls 1 [(0, .int x)] := hl
  refine lv_iload_n hx hb d_Mod_isSubject_0 rfl (lv_at hl 0 rfl) ?_
  refine lv_if_lt (tgt := 31) hx hb d_Mod_isSubject_1 (by decide) (fun cc1 => ?_) (fun cc1 => ?_)
  · refine lv_iconst (v := nI 0) hx hb d_Mod_isSubject_31 (by decide) ?_
    exact W.zret hx hb hr rfl (fun t ht hW => ⟨_, rfl, kk_iff (fun q => q.1 cc1), ht⟩) (fun q hq => by cases hq) d_Mod_isSubject_32
  · refine lv_iload_n hx hb d_Mod_isSubject_4 rfl (lv_at hl 0 rfl) ?_
    refine lv_sipush (v := nI 200) hx hb d_Mod_isSubject_5 (by decide) ?_
    refine lv_icmp_ge (tgt := 31) hx hb d_Mod_isSubject_8 (by decide) (fun cc2 => ?_) (fun cc2 => ?_)
    · refine lv_iconst (v := nI 0) hx hb d_Mod_isSubject_31 (by decide) ?_
      exact W.zret hx hb hr rfl (fun t ht hW => ⟨_, rfl, kk_iff (fun q => q.2.1 cc2), ht⟩) (fun q hq => by cases hq) d_Mod_isSubject_32
    · obtain ⟨n, hn, hxn⟩ := kk_ofn cc1 cc2 (by omega)
      refine lv_iload_n hx hb d_Mod_isSubject_11 rfl (lv_at hl 0 rfl) ?_
      refine kk_top (hxn) ?_
      refine lv_iconst (v := nI 0) hx hb d_Mod_isSubject_12 (by decide) ?_
      refine vp_callSi (va_Run.run (va_runS (As := [.int (nI n), .int (nI 0)]) (rest := []) ⟨hx, hb, hml, hown, hts⟩ (c_Mod_nameOf0 l (by omega)) (va_cwS 2 hts (gW_in (hd := [_, _, _, _]) (kk_4 wd_580 wd_581 wd_8 cw_Mod_nameOf)) rfl rfl rfl ds_Mod_nameOf ⟨Nat.le_of_ble_eq_true rfl, Nat.le_of_ble_eq_true rfl⟩) (kk_preS hK hP hz hBz) rfl rfl hl.1 rfl (lv_room (Nat.le_of_ble_eq_true rfl)) d_Mod_isSubject_13 ⟨Nat.le_of_ble_eq_true rfl, Nat.le_of_ble_eq_true rfl⟩)) (fun r3 hr3 => ?_)
      subst hr3
      refine lv_if_ge (tgt := 27) hx hb d_Mod_isSubject_16 (by decide) (fun cc4 => ?_) (fun cc4 => ?_)
      · have cc4 := Int32.not_lt.mpr cc4
        have cc4 : ¬ n / 8 % 5 = 0 := fun q => cc4 ((kk_nmlt (by omega)).mpr q)
        refine lv_iconst (v := nI 1) hx hb d_Mod_isSubject_27 (by decide) ?_
        refine lv_goto (tgt := 32) hx hb d_Mod_isSubject_28 (by decide) ?_
        exact W.zret hx hb hr rfl (fun t ht hW => ⟨_, rfl, kk_ift (by rw [hxn, wf_sub_n (by omega)]; omega), ht⟩) (fun q hq => by cases hq) d_Mod_isSubject_32
      · have cc4 := Int32.not_le.mp cc4
        have cc4 : n / 8 % 5 = 0 := (kk_nmlt (by omega)).mp cc4
        refine lv_iload_n hx hb d_Mod_isSubject_19 rfl (lv_at hl 0 rfl) ?_
        refine kk_top (hxn) ?_
        refine lv_iconst (v := nI 1) hx hb d_Mod_isSubject_20 (by decide) ?_
        refine vp_callSi (va_Run.run (va_runS (As := [.int (nI n), .int (nI 1)]) (rest := []) ⟨hx, hb, hml, hown, hts⟩ (c_Mod_nameOf1 l (by omega)) (va_cwS 2 hts (gW_in (hd := [_, _, _, _]) (kk_4 wd_580 wd_581 wd_8 cw_Mod_nameOf)) rfl rfl rfl ds_Mod_nameOf ⟨Nat.le_of_ble_eq_true rfl, Nat.le_of_ble_eq_true rfl⟩) (kk_preS hK hP hz hBz) rfl rfl hl.1 rfl (lv_room (Nat.le_of_ble_eq_true rfl)) d_Mod_isSubject_21 ⟨Nat.le_of_ble_eq_true rfl, Nat.le_of_ble_eq_true rfl⟩)) (fun r5 hr5 => ?_)
        subst hr5
        refine lv_if_ge (tgt := 31) hx hb d_Mod_isSubject_24 (by decide) (fun cc6 => ?_) (fun cc6 => ?_)
        · have cc6 := Int32.not_lt.mpr cc6
          have cc6 : ¬ n / 40 = 0 := fun q => cc6 ((kk_nmlt (by omega)).mpr q)
          refine lv_iconst (v := nI 0) hx hb d_Mod_isSubject_31 (by decide) ?_
          exact W.zret hx hb hr rfl (fun t ht hW => ⟨_, rfl, kk_iff (fun q => by rw [hxn, wf_sub_n (by omega)] at q; omega), ht⟩) (fun q hq => by cases hq) d_Mod_isSubject_32
        · have cc6 := Int32.not_le.mp cc6
          have cc6 : n / 40 = 0 := (kk_nmlt (by omega)).mp cc6
          refine lv_iconst (v := nI 1) hx hb d_Mod_isSubject_27 (by decide) ?_
          refine lv_goto (tgt := 32) hx hb d_Mod_isSubject_28 (by decide) ?_
          exact W.zret hx hb hr rfl (fun t ht hW => ⟨_, rfl, kk_ift (by rw [hxn, wf_sub_n (by omega)]; omega), ht⟩) (fun q hq => by cases hq) d_Mod_isSubject_32
theorem d_Mod_sum_0 : decode k_Mod_sum 0 = .ok (.iload_n 0, 1) := by decide +kernel
theorem d_Mod_sum_1 : decode k_Mod_sum 1 = .ok (.sipush 5000, 3) := by decide +kernel
theorem d_Mod_sum_4 : decode k_Mod_sum 4 = .ok (.if_icmp .eq 10, 3) := by decide +kernel
theorem d_Mod_sum_7 : decode k_Mod_sum 7 = .ok (.iload_n 1, 1) := by decide +kernel
theorem d_Mod_sum_8 : decode k_Mod_sum 8 = .ok (.sipush 5000, 3) := by decide +kernel
theorem d_Mod_sum_11 : decode k_Mod_sum 11 = .ok (.if_icmp .ne 7, 3) := by decide +kernel
theorem d_Mod_sum_14 : decode k_Mod_sum 14 = .ok (.sipush 5000, 3) := by decide +kernel
theorem d_Mod_sum_17 : decode k_Mod_sum 17 = .ok (.ireturn, 1) := by decide +kernel
theorem d_Mod_sum_18 : decode k_Mod_sum 18 = .ok (.iload_n 0, 1) := by decide +kernel
theorem d_Mod_sum_19 : decode k_Mod_sum 19 = .ok (.iload_n 1, 1) := by decide +kernel
theorem d_Mod_sum_20 : decode k_Mod_sum 20 = .ok (.iadd, 1) := by decide +kernel
theorem d_Mod_sum_21 : decode k_Mod_sum 21 = .ok (.sipush 999, 3) := by decide +kernel
theorem d_Mod_sum_24 : decode k_Mod_sum 24 = .ok (.if_icmp .le 9, 3) := by decide +kernel
theorem d_Mod_sum_27 : decode k_Mod_sum 27 = .ok (.sipush 999, 3) := by decide +kernel
theorem d_Mod_sum_30 : decode k_Mod_sum 30 = .ok (.goto 6, 3) := by decide +kernel
theorem d_Mod_sum_33 : decode k_Mod_sum 33 = .ok (.iload_n 0, 1) := by decide +kernel
theorem d_Mod_sum_34 : decode k_Mod_sum 34 = .ok (.iload_n 1, 1) := by decide +kernel
theorem d_Mod_sum_35 : decode k_Mod_sum 35 = .ok (.iadd, 1) := by decide +kernel
theorem d_Mod_sum_36 : decode k_Mod_sum 36 = .ok (.ireturn, 1) := by decide +kernel
set_option maxHeartbeats 4000000 in
set_option maxRecDepth 100000 in
theorem c_Mod_sum (l : Launch) {B : Nat} {D : va_G} {cI cZ cQ : ClassId} {w : mm_M} {sz : Nat} {a b : Nat} (ha1 : a ≤ 1000) (hb1 : b ≤ 1000) : Met l y_Mod_sum ws_Mod_sum (kk_rm 0 0 0) (kk_Pc B D cI cZ cQ [.int (nI (dm_ph a)), .int (nI (dm_ph b))] w sz) (vp_Si (fun r => r = nI (dm_ph (dm_s a b)))) 0 0 (fun _ => False) := by
  refine Met.ofW (cc := k_Mod_sum) (maxL := 2) (ret := (some .int)) (by decide) rfl ?_
  intro p e s m args below meth c s₁ BB hml hv
  obtain ⟨rfl, hK, hP, hz, hBz⟩ := hv
  have hx := BB.exec
  have hb := BB.bytes
  have hr := BB.returns
  have hts := atoms_spec (ws := ws_Mod_sum) BB.pre
  have hown : s.vm.findClass "DelegationClosureModel" = some m.cls := findClass_of_methodNamed BB.named
  have hlocks := BB.notSynchronized
  have hS : mm_S B s.heap s.heap [] := va_S.rf
  have hl := lv_entry ([.int (nI (dm_ph a)), .int (nI (dm_ph b))]) (n := 2) (Nat.le_of_ble_eq_true rfl)
  rw [lg_entry_eq]
  generalize (lg_sl ([.int (nI (dm_ph a)), .int (nI (dm_ph b))]) ++ List.replicate (2 - (lg_sl ([.int (nI (dm_ph a)), .int (nI (dm_ph b))])).length) Slot.unset).toArray = ls at hl ⊢
  have hl : lv_has ls 2 [(0, .int (nI (dm_ph a))), (1, .int (nI (dm_ph b)))] := hl
  have ha5 := dm_ph_le a
  have hb5 := dm_ph_le b
  refine lv_iload_n hx hb d_Mod_sum_0 rfl (lv_at hl 0 rfl) ?_
  refine lv_sipush (v := nI 5000) hx hb d_Mod_sum_1 (by decide) ?_
  refine lv_icmp_eq (tgt := 14) hx hb d_Mod_sum_4 (by decide) (fun cc1 => ?_) (fun cc1 => ?_)
  · have cc1 : dm_ph a = 5000 := (nI_eq (by omega) (by omega)).mp cc1
    refine lv_sipush (v := nI 5000) hx hb d_Mod_sum_14 (by decide) ?_
    exact W.iret hx hb hr (fun t ht hW => ⟨_, rfl, congrArg nI (by rw [dm_ph_s ha1 hb1]; (repeat' split) <;> omega), ht⟩) (fun q hq => by cases hq) d_Mod_sum_17
  · have cc1 : ¬ (dm_ph a = 5000) := fun q => cc1 ((nI_eq (by omega) (by omega)).mpr q)
    refine lv_iload_n hx hb d_Mod_sum_7 rfl (lv_at hl 1 rfl) ?_
    refine lv_sipush (v := nI 5000) hx hb d_Mod_sum_8 (by decide) ?_
    refine lv_icmp_ne (tgt := 18) hx hb d_Mod_sum_11 (by decide) (fun cc2 => ?_) (fun cc2 => ?_)
    · have cc2 : ¬ (dm_ph b = 5000) := fun q => cc2 ((nI_eq (by omega) (by omega)).mpr q)
      refine lv_iload_n hx hb d_Mod_sum_18 rfl (lv_at hl 0 rfl) ?_
      refine lv_iload_n hx hb d_Mod_sum_19 rfl (lv_at hl 1 rfl) ?_
      refine lv_iadd hx hb d_Mod_sum_20 ?_
      refine kk_top (nI_add _ _) ?_
      refine lv_sipush (v := nI 999) hx hb d_Mod_sum_21 (by decide) ?_
      refine lv_icmp_le (tgt := 33) hx hb d_Mod_sum_24 (by decide) (fun cc3 => ?_) (fun cc3 => ?_)
      · have cc3 : (dm_ph a) + (dm_ph b) ≤ 999 := (nI_leI (by omega) (by omega)).mp cc3
        refine lv_iload_n hx hb d_Mod_sum_33 rfl (lv_at hl 0 rfl) ?_
        refine lv_iload_n hx hb d_Mod_sum_34 rfl (lv_at hl 1 rfl) ?_
        refine lv_iadd hx hb d_Mod_sum_35 ?_
        refine kk_top (nI_add _ _) ?_
        exact W.iret hx hb hr (fun t ht hW => ⟨_, rfl, congrArg nI (by rw [dm_ph_s ha1 hb1]; (repeat' split) <;> omega), ht⟩) (fun q hq => by cases hq) d_Mod_sum_36
      · have cc3 : ¬ ((dm_ph a) + (dm_ph b) ≤ 999) := fun q => cc3 ((nI_leI (by omega) (by omega)).mpr q)
        refine lv_sipush (v := nI 999) hx hb d_Mod_sum_27 (by decide) ?_
        refine lv_goto (tgt := 36) hx hb d_Mod_sum_30 (by decide) ?_
        exact W.iret hx hb hr (fun t ht hW => ⟨_, rfl, congrArg nI (by rw [dm_ph_s ha1 hb1]; (repeat' split) <;> omega), ht⟩) (fun q hq => by cases hq) d_Mod_sum_36
    · have cc2 : dm_ph b = 5000 := (nI_eq (by omega) (by omega)).mp cc2
      refine lv_sipush (v := nI 5000) hx hb d_Mod_sum_14 (by decide) ?_
      exact W.iret hx hb hr (fun t ht hW => ⟨_, rfl, congrArg nI (by rw [dm_ph_s ha1 hb1]; (repeat' split) <;> omega), ht⟩) (fun q hq => by cases hq) d_Mod_sum_17
theorem d_Mod_namesOf_0 : decode k_Mod_namesOf 0 = .ok (.iload_n 0, 1) := by decide +kernel
theorem d_Mod_namesOf_1 : decode k_Mod_namesOf 1 = .ok (.iconst 0, 1) := by decide +kernel
theorem d_Mod_namesOf_2 : decode k_Mod_namesOf 2 = .ok (.invokestatic 59, 3) := by decide +kernel
theorem d_Mod_namesOf_5 : decode k_Mod_namesOf 5 = .ok (.ifCond .ge 7, 3) := by decide +kernel
theorem d_Mod_namesOf_8 : decode k_Mod_namesOf 8 = .ok (.iconst 0, 1) := by decide +kernel
theorem d_Mod_namesOf_9 : decode k_Mod_namesOf 9 = .ok (.goto 16, 3) := by decide +kernel
theorem d_Mod_namesOf_12 : decode k_Mod_namesOf 12 = .ok (.iload_n 0, 1) := by decide +kernel
theorem d_Mod_namesOf_13 : decode k_Mod_namesOf 13 = .ok (.iconst 1, 1) := by decide +kernel
theorem d_Mod_namesOf_14 : decode k_Mod_namesOf 14 = .ok (.invokestatic 59, 3) := by decide +kernel
theorem d_Mod_namesOf_17 : decode k_Mod_namesOf 17 = .ok (.ifCond .ge 7, 3) := by decide +kernel
theorem d_Mod_namesOf_20 : decode k_Mod_namesOf 20 = .ok (.iconst 1, 1) := by decide +kernel
theorem d_Mod_namesOf_21 : decode k_Mod_namesOf 21 = .ok (.goto 4, 3) := by decide +kernel
theorem d_Mod_namesOf_24 : decode k_Mod_namesOf 24 = .ok (.iconst 2, 1) := by decide +kernel
theorem d_Mod_namesOf_25 : decode k_Mod_namesOf 25 = .ok (.ireturn, 1) := by decide +kernel
set_option maxHeartbeats 4000000 in
set_option maxRecDepth 100000 in
theorem c_Mod_namesOf (l : Launch) {B : Nat} {D : va_G} {cI cZ cQ : ClassId} {w : mm_M} {sz : Nat} {n : Nat} (hn : n < 2 ^ 30) : Met l y_Mod_namesOf ws_Mod_namesOf (kk_rm 1 0 0) (kk_Pc B D cI cZ cQ [.int (nI n)] w sz) (vp_Si (fun r => r = nI (if n / 8 % 5 = 0 then 0 else if n / 40 = 0 then 1 else 2))) 0 0 (fun _ => False) := by
  refine Met.ofW (cc := k_Mod_namesOf) (maxL := 1) (ret := (some .int)) (by decide) rfl ?_
  intro p e s m args below meth c s₁ BB hml hv
  obtain ⟨rfl, hK, hP, hz, hBz⟩ := hv
  have hx := BB.exec
  have hb := BB.bytes
  have hr := BB.returns
  have hts := atoms_spec (ws := ws_Mod_namesOf) BB.pre
  have hown : s.vm.findClass "DelegationClosureModel" = some m.cls := findClass_of_methodNamed BB.named
  have hlocks := BB.notSynchronized
  have hS : mm_S B s.heap s.heap [] := va_S.rf
  have hl := lv_entry ([.int (nI n)]) (n := 1) (Nat.le_of_ble_eq_true rfl)
  rw [lg_entry_eq]
  generalize (lg_sl ([.int (nI n)]) ++ List.replicate (1 - (lg_sl ([.int (nI n)])).length) Slot.unset).toArray = ls at hl ⊢
  have hl : lv_has ls 1 [(0, .int (nI n))] := hl
  refine lv_iload_n hx hb d_Mod_namesOf_0 rfl (lv_at hl 0 rfl) ?_
  refine lv_iconst (v := nI 0) hx hb d_Mod_namesOf_1 (by decide) ?_
  refine vp_callSi (va_Run.run (va_runS (As := [.int (nI n), .int (nI 0)]) (rest := []) ⟨hx, hb, hml, hown, hts⟩ (c_Mod_nameOf0 l (by omega)) (va_cwS 2 hts (gW_in (hd := [_, _, _, _]) (kk_4 wd_580 wd_581 wd_8 cw_Mod_nameOf)) rfl rfl rfl ds_Mod_nameOf ⟨Nat.le_of_ble_eq_true rfl, Nat.le_of_ble_eq_true rfl⟩) (kk_preS hK hP hz hBz) rfl rfl hl.1 rfl (lv_room (Nat.le_of_ble_eq_true rfl)) d_Mod_namesOf_2 ⟨Nat.le_of_ble_eq_true rfl, Nat.le_of_ble_eq_true rfl⟩)) (fun r1 hr1 => ?_)
  subst hr1
  refine lv_if_ge (tgt := 12) hx hb d_Mod_namesOf_5 (by decide) (fun cc2 => ?_) (fun cc2 => ?_)
  · have cc2 := Int32.not_lt.mpr cc2
    have cc2 : ¬ n / 8 % 5 = 0 := fun q => cc2 ((kk_nmlt (by omega)).mpr q)
    refine lv_iload_n hx hb d_Mod_namesOf_12 rfl (lv_at hl 0 rfl) ?_
    refine lv_iconst (v := nI 1) hx hb d_Mod_namesOf_13 (by decide) ?_
    refine vp_callSi (va_Run.run (va_runS (As := [.int (nI n), .int (nI 1)]) (rest := []) ⟨hx, hb, hml, hown, hts⟩ (c_Mod_nameOf1 l (by omega)) (va_cwS 2 hts (gW_in (hd := [_, _, _, _]) (kk_4 wd_580 wd_581 wd_8 cw_Mod_nameOf)) rfl rfl rfl ds_Mod_nameOf ⟨Nat.le_of_ble_eq_true rfl, Nat.le_of_ble_eq_true rfl⟩) (kk_preS hK hP hz hBz) rfl rfl hl.1 rfl (lv_room (Nat.le_of_ble_eq_true rfl)) d_Mod_namesOf_14 ⟨Nat.le_of_ble_eq_true rfl, Nat.le_of_ble_eq_true rfl⟩)) (fun r3 hr3 => ?_)
    subst hr3
    refine lv_if_ge (tgt := 24) hx hb d_Mod_namesOf_17 (by decide) (fun cc4 => ?_) (fun cc4 => ?_)
    · have cc4 := Int32.not_lt.mpr cc4
      have cc4 : ¬ n / 40 = 0 := fun q => cc4 ((kk_nmlt (by omega)).mpr q)
      refine lv_iconst (v := nI 2) hx hb d_Mod_namesOf_24 (by decide) ?_
      exact W.iret hx hb hr (fun t ht hW => ⟨_, rfl, congrArg nI (by (repeat' split) <;> omega), ht⟩) (fun q hq => by cases hq) d_Mod_namesOf_25
    · have cc4 := Int32.not_le.mp cc4
      have cc4 : n / 40 = 0 := (kk_nmlt (by omega)).mp cc4
      refine lv_iconst (v := nI 1) hx hb d_Mod_namesOf_20 (by decide) ?_
      refine lv_goto (tgt := 25) hx hb d_Mod_namesOf_21 (by decide) ?_
      exact W.iret hx hb hr (fun t ht hW => ⟨_, rfl, congrArg nI (by (repeat' split) <;> omega), ht⟩) (fun q hq => by cases hq) d_Mod_namesOf_25
  · have cc2 := Int32.not_le.mp cc2
    have cc2 : n / 8 % 5 = 0 := (kk_nmlt (by omega)).mp cc2
    refine lv_iconst (v := nI 0) hx hb d_Mod_namesOf_8 (by decide) ?_
    refine lv_goto (tgt := 25) hx hb d_Mod_namesOf_9 (by decide) ?_
    exact W.iret hx hb hr (fun t ht hW => ⟨_, rfl, congrArg nI (by (repeat' split) <;> omega), ht⟩) (fun q hq => by cases hq) d_Mod_namesOf_25
end
section
theorem d_Mod_make_0 : decode k_Mod_make 0 = .ok (.aload_n 0, 1) := by decide +kernel
theorem d_Mod_make_1 : decode k_Mod_make 1 = .ok (.getfield 63, 3) := by decide +kernel
theorem d_Mod_make_4 : decode k_Mod_make 4 = .ok (.istore 6, 2) := by decide +kernel
theorem d_Mod_make_6 : decode k_Mod_make 6 = .ok (.aload_n 0, 1) := by decide +kernel
theorem d_Mod_make_7 : decode k_Mod_make 7 = .ok (.dup, 1) := by decide +kernel
theorem d_Mod_make_8 : decode k_Mod_make 8 = .ok (.getfield 63, 3) := by decide +kernel
theorem d_Mod_make_11 : decode k_Mod_make 11 = .ok (.iconst 1, 1) := by decide +kernel
theorem d_Mod_make_12 : decode k_Mod_make 12 = .ok (.iadd, 1) := by decide +kernel
theorem d_Mod_make_13 : decode k_Mod_make 13 = .ok (.putfield 63, 3) := by decide +kernel
theorem d_Mod_make_16 : decode k_Mod_make 16 = .ok (.aload_n 0, 1) := by decide +kernel
theorem d_Mod_make_17 : decode k_Mod_make 17 = .ok (.getfield 7, 3) := by decide +kernel
theorem d_Mod_make_20 : decode k_Mod_make 20 = .ok (.iload 6, 2) := by decide +kernel
theorem d_Mod_make_22 : decode k_Mod_make 22 = .ok (.iconst 0, 1) := by decide +kernel
theorem d_Mod_make_23 : decode k_Mod_make 23 = .ok (.bastore, 1) := by decide +kernel
theorem d_Mod_make_24 : decode k_Mod_make 24 = .ok (.aload_n 0, 1) := by decide +kernel
theorem d_Mod_make_25 : decode k_Mod_make 25 = .ok (.getfield 13, 3) := by decide +kernel
theorem d_Mod_make_28 : decode k_Mod_make 28 = .ok (.iload 6, 2) := by decide +kernel
theorem d_Mod_make_30 : decode k_Mod_make 30 = .ok (.iload_n 1, 1) := by decide +kernel
theorem d_Mod_make_31 : decode k_Mod_make 31 = .ok (.bastore, 1) := by decide +kernel
theorem d_Mod_make_32 : decode k_Mod_make 32 = .ok (.aload_n 0, 1) := by decide +kernel
theorem d_Mod_make_33 : decode k_Mod_make 33 = .ok (.getfield 16, 3) := by decide +kernel
theorem d_Mod_make_36 : decode k_Mod_make 36 = .ok (.iload 6, 2) := by decide +kernel
theorem d_Mod_make_38 : decode k_Mod_make 38 = .ok (.iload_n 2, 1) := by decide +kernel
theorem d_Mod_make_39 : decode k_Mod_make 39 = .ok (.iastore, 1) := by decide +kernel
theorem d_Mod_make_40 : decode k_Mod_make 40 = .ok (.aload_n 0, 1) := by decide +kernel
theorem d_Mod_make_41 : decode k_Mod_make 41 = .ok (.getfield 29, 3) := by decide +kernel
theorem d_Mod_make_44 : decode k_Mod_make 44 = .ok (.iconst 3, 1) := by decide +kernel
theorem d_Mod_make_45 : decode k_Mod_make 45 = .ok (.iload 6, 2) := by decide +kernel
theorem d_Mod_make_47 : decode k_Mod_make 47 = .ok (.imul, 1) := by decide +kernel
theorem d_Mod_make_48 : decode k_Mod_make 48 = .ok (.iload_n 3, 1) := by decide +kernel
theorem d_Mod_make_49 : decode k_Mod_make 49 = .ok (.iastore, 1) := by decide +kernel
theorem d_Mod_make_50 : decode k_Mod_make 50 = .ok (.aload_n 0, 1) := by decide +kernel
theorem d_Mod_make_51 : decode k_Mod_make 51 = .ok (.getfield 32, 3) := by decide +kernel
theorem d_Mod_make_54 : decode k_Mod_make 54 = .ok (.iload 6, 2) := by decide +kernel
theorem d_Mod_make_56 : decode k_Mod_make 56 = .ok (.iconst 1, 1) := by decide +kernel
theorem d_Mod_make_57 : decode k_Mod_make 57 = .ok (.iastore, 1) := by decide +kernel
theorem d_Mod_make_58 : decode k_Mod_make 58 = .ok (.aload_n 0, 1) := by decide +kernel
theorem d_Mod_make_59 : decode k_Mod_make 59 = .ok (.getfield 35, 3) := by decide +kernel
theorem d_Mod_make_62 : decode k_Mod_make 62 = .ok (.iload 6, 2) := by decide +kernel
theorem d_Mod_make_64 : decode k_Mod_make 64 = .ok (.iconst 1, 1) := by decide +kernel
theorem d_Mod_make_65 : decode k_Mod_make 65 = .ok (.iastore, 1) := by decide +kernel
theorem d_Mod_make_66 : decode k_Mod_make 66 = .ok (.aload_n 0, 1) := by decide +kernel
theorem d_Mod_make_67 : decode k_Mod_make 67 = .ok (.getfield 23, 3) := by decide +kernel
theorem d_Mod_make_70 : decode k_Mod_make 70 = .ok (.iload 6, 2) := by decide +kernel
theorem d_Mod_make_72 : decode k_Mod_make 72 = .ok (.iload 4, 2) := by decide +kernel
theorem d_Mod_make_74 : decode k_Mod_make 74 = .ok (.iastore, 1) := by decide +kernel
theorem d_Mod_make_75 : decode k_Mod_make 75 = .ok (.aload_n 0, 1) := by decide +kernel
theorem d_Mod_make_76 : decode k_Mod_make 76 = .ok (.getfield 26, 3) := by decide +kernel
theorem d_Mod_make_79 : decode k_Mod_make 79 = .ok (.iload 6, 2) := by decide +kernel
theorem d_Mod_make_81 : decode k_Mod_make 81 = .ok (.iload 5, 2) := by decide +kernel
theorem d_Mod_make_83 : decode k_Mod_make 83 = .ok (.iastore, 1) := by decide +kernel
theorem d_Mod_make_84 : decode k_Mod_make 84 = .ok (.aload_n 0, 1) := by decide +kernel
theorem d_Mod_make_85 : decode k_Mod_make 85 = .ok (.getfield 38, 3) := by decide +kernel
theorem d_Mod_make_88 : decode k_Mod_make 88 = .ok (.iload 6, 2) := by decide +kernel
theorem d_Mod_make_90 : decode k_Mod_make 90 = .ok (.sipush 255, 3) := by decide +kernel
theorem d_Mod_make_93 : decode k_Mod_make 93 = .ok (.iastore, 1) := by decide +kernel
theorem d_Mod_make_94 : decode k_Mod_make 94 = .ok (.aload_n 0, 1) := by decide +kernel
theorem d_Mod_make_95 : decode k_Mod_make 95 = .ok (.getfield 41, 3) := by decide +kernel
theorem d_Mod_make_98 : decode k_Mod_make 98 = .ok (.iload 6, 2) := by decide +kernel
theorem d_Mod_make_100 : decode k_Mod_make 100 = .ok (.ldc 67, 2) := by decide +kernel
theorem d_Mod_make_102 : decode k_Mod_make 102 = .ok (.iastore, 1) := by decide +kernel
theorem d_Mod_make_103 : decode k_Mod_make 103 = .ok (.aload_n 0, 1) := by decide +kernel
theorem d_Mod_make_104 : decode k_Mod_make 104 = .ok (.getfield 44, 3) := by decide +kernel
theorem d_Mod_make_107 : decode k_Mod_make 107 = .ok (.iload 6, 2) := by decide +kernel
theorem d_Mod_make_109 : decode k_Mod_make 109 = .ok (.ldc 68, 2) := by decide +kernel
theorem d_Mod_make_111 : decode k_Mod_make 111 = .ok (.iastore, 1) := by decide +kernel
theorem d_Mod_make_112 : decode k_Mod_make 112 = .ok (.iload 6, 2) := by decide +kernel
theorem d_Mod_make_114 : decode k_Mod_make 114 = .ok (.ireturn, 1) := by decide +kernel
set_option maxHeartbeats 4000000 in
set_option maxRecDepth 100000 in
theorem c_Mod_make (l : Launch) {B : Nat} {D : va_G} {cI cZ cQ : ClassId} {w : mm_M} {sz : Nat} {b : Nat} {N : Nat → Nat → Nat} {S : Nat → Nat → Int32} {zz iss su : Nat} {fr to : Int32} (hM : mo_I b cI cZ N S w) (hn : N 0 0 < 24) (hz0 : zz ≤ 1) : Met l y_Mod_make ws_Mod_make (kk_rm 0 0 0) (kk_Pc B D cI cZ cQ [.ref (b + 14), .int (nI zz), .int (nI iss), .int (nI su), .int fr, .int to] w sz) (kk_Qi B D (fun r w' sz' => r = nI (N 0 0) ∧ mo_I b cI cZ (mk_N N zz iss su) (mk_S S (N 0 0) fr to) w' ∧ (∀ j, ¬ (b + 14 ≤ j ∧ j < b + 31) → w' j = w j) ∧ sz' = sz)) 0 0 (fun q => B ≤ q) := by
  refine Met.ofW (cc := k_Mod_make) (maxL := 7) (ret := (some .int)) (by decide) rfl ?_
  intro p e s m args below meth c s₁ BB hml hv
  obtain ⟨rfl, hK, hP, hz, hBz⟩ := hv
  have hx := BB.exec
  have hb := BB.bytes
  have hr := BB.returns
  have hts := atoms_spec (ws := ws_Mod_make) BB.pre
  have hown : s.vm.findClass "DelegationClosureModel" = some m.cls := findClass_of_methodNamed BB.named
  have hlocks := BB.notSynchronized
  have hS : mm_S B s.heap s.heap [] := va_S.rf
  have hl := lv_entry ([.ref (b + 14), .int (nI zz), .int (nI iss), .int (nI su), .int fr, .int to]) (n := 7) (Nat.le_of_ble_eq_true rfl)
  rw [lg_entry_eq]
  generalize (lg_sl ([.ref (b + 14), .int (nI zz), .int (nI iss), .int (nI su), .int fr, .int to]) ++ List.replicate (7 - (lg_sl ([.ref (b + 14), .int (nI zz), .int (nI iss), .int (nI su), .int fr, .int to])).length) Slot.unset).toArray = ls at hl ⊢
  have hl : lv_has ls 7 [(0, .ref (b + 14)), (1, .int (nI zz)), (2, .int (nI iss)), (3, .int (nI su)), (4, .int fr), (5, .int to)] := hl
  have m0 : w (b + 14) = some (.inr (9, [.int (nI (N 0 0)), .ref (b + 15), .ref (b + 16), .ref (b + 17), .ref (b + 18), .ref (b + 19), .ref (b + 20), .ref (b + 21), .ref (b + 22), .ref (b + 23), .ref (b + 24), .ref (b + 25), .ref (b + 26), .ref (b + 27), .ref (b + 28), .ref (b + 29), .int (nI (N 16 0)), .int (nI (N 17 0)), .int (nI (N 18 0)), .ref (b + 30), .int (nI (N 20 0)), .int (S 21 0), .int (S 22 0), .int (S 23 0), .int (S 24 0), .int (nI (N 25 0)), .int (nI (N 26 0))])) := hM.1
  have m1 : w (b + 15) = some (.inl (cZ, 24, .inl (fun i => nI ((N 1) i)))) := hM.2 1 (by decide) (by decide)
  have m2 : w (b + 16) = some (.inl (cZ, 24, .inl (fun i => nI ((N 2) i)))) := hM.2 2 (by decide) (by decide)
  have m3 : w (b + 17) = some (.inl (cI, 24, .inl (fun i => nI ((N 3) i)))) := hM.2 3 (by decide) (by decide)
  have m4 : w (b + 18) = some (.inl (cI, 24, .inl (fun i => nI ((N 4) i)))) := hM.2 4 (by decide) (by decide)
  have m5 : w (b + 19) = some (.inl (cI, 24, .inl (S 5))) := hM.2 5 (by decide) (by decide)
  have m6 : w (b + 20) = some (.inl (cI, 24, .inl (S 6))) := hM.2 6 (by decide) (by decide)
  have m7 : w (b + 21) = some (.inl (cI, 72, .inl (fun i => nI ((N 7) i)))) := hM.2 7 (by decide) (by decide)
  have m8 : w (b + 22) = some (.inl (cI, 24, .inl (fun i => nI ((N 8) i)))) := hM.2 8 (by decide) (by decide)
  have m9 : w (b + 23) = some (.inl (cI, 24, .inl (fun i => nI ((N 9) i)))) := hM.2 9 (by decide) (by decide)
  have m10 : w (b + 24) = some (.inl (cI, 24, .inl (fun i => nI ((N 10) i)))) := hM.2 10 (by decide) (by decide)
  have m11 : w (b + 25) = some (.inl (cI, 24, .inl (S 11))) := hM.2 11 (by decide) (by decide)
  have m12 : w (b + 26) = some (.inl (cI, 24, .inl (S 12))) := hM.2 12 (by decide) (by decide)
  have m13 : w (b + 27) = some (.inl (cZ, 24, .inl (fun i => nI ((N 13) i)))) := hM.2 13 (by decide) (by decide)
  have m14 : w (b + 28) = some (.inl (cI, 256, .inl (fun i => nI ((N 14) i)))) := hM.2 14 (by decide) (by decide)
  have m15 : w (b + 29) = some (.inl (cI, 24, .inl (fun i => nI ((N 15) i)))) := hM.2 15 (by decide) (by decide)
  have m16 : w (b + 30) = some (.inl (cI, 5, .inl (fun i => nI ((N 19) i)))) := hM.2 16 (by decide) (by decide)
  refine lv_aload_n hx hb d_Mod_make_0 rfl (lv_at hl 0 rfl) ?_
  refine mm_get (D := D) (C := n_Mod) (T := T_Mod) (N := 27) (v := .int (nI (N 0 0))) hx hb hts lay_Mod hown hK.1 hP m0 rfl 0 (by decide) (hts _ (List.mem_cons_of_mem _ wd_491)) (fun _ h9 => h9) rfl d_Mod_make_1 ?_
  refine lv_istore hx hb d_Mod_make_4 hl (by decide) rfl (fun ls hl => ?_)
  have hl : lv_has ls 7 [(6, .int (nI (N 0 0))), (0, .ref (b + 14)), (1, .int (nI zz)), (2, .int (nI iss)), (3, .int (nI su)), (4, .int fr), (5, .int to)] := hl
  refine lv_aload_n hx hb d_Mod_make_6 rfl (lv_at hl 1 rfl) ?_
  refine lv_dup hx hb d_Mod_make_7 rfl ?_
  refine mm_get (D := D) (C := n_Mod) (T := T_Mod) (N := 27) (v := .int (nI (N 0 0))) hx hb hts lay_Mod hown hK.1 hP m0 rfl 0 (by decide) (hts _ (List.mem_cons_of_mem _ wd_491)) (fun _ h9 => h9) rfl d_Mod_make_8 ?_
  refine lv_iconst (v := nI 1) hx hb d_Mod_make_11 (by decide) ?_
  refine lv_iadd hx hb d_Mod_make_12 ?_
  refine kk_top (nI_add _ _) ?_
  refine mm_put (D := D) (C := n_Mod) (T := T_Mod) (N := 27) (v := .int (nI ((N 0 0) + 1))) (ty := .int) hx hb hts lay_Mod t_Mod ty_Mod nm_Mod hown hK.1 hP hS m0 rfl 0 (by decide) (hts _ (List.mem_cons_of_mem _ wd_491)) (fun _ h9 => h9) rfl (by decide +kernel) rfl rfl (Nat.le_of_ble_eq_true rfl) d_Mod_make_13 (fun H locs hP hz1 hS => ?_)
  have hz : H.size = sz := hz1.trans hz
  obtain ⟨w1, hw1⟩ : ∃ z : mm_M, z = mm_up w (b + 14) (.inr (9, [.int (nI ((N 0 0) + 1)), .ref (b + 15), .ref (b + 16), .ref (b + 17), .ref (b + 18), .ref (b + 19), .ref (b + 20), .ref (b + 21), .ref (b + 22), .ref (b + 23), .ref (b + 24), .ref (b + 25), .ref (b + 26), .ref (b + 27), .ref (b + 28), .ref (b + 29), .int (nI (N 16 0)), .int (nI (N 17 0)), .int (nI (N 18 0)), .ref (b + 30), .int (nI (N 20 0)), .int (S 21 0), .int (S 22 0), .int (S 23 0), .int (S 24 0), .int (nI (N 25 0)), .int (nI (N 26 0))])) := ⟨_, rfl⟩
  have hP : mm_P B D kc w1 H := by rw [hw1]; exact hP
  have fr1 : ∀ j, j ≠ b + 14 → w1 j = w j := fun j h9 => by rw [hw1]; exact mm_un h9
  have fa1 : w1 (b + 14) = some (.inr (9, [.int (nI ((N 0 0) + 1)), .ref (b + 15), .ref (b + 16), .ref (b + 17), .ref (b + 18), .ref (b + 19), .ref (b + 20), .ref (b + 21), .ref (b + 22), .ref (b + 23), .ref (b + 24), .ref (b + 25), .ref (b + 26), .ref (b + 27), .ref (b + 28), .ref (b + 29), .int (nI (N 16 0)), .int (nI (N 17 0)), .int (nI (N 18 0)), .ref (b + 30), .int (nI (N 20 0)), .int (S 21 0), .int (S 22 0), .int (S 23 0), .int (S 24 0), .int (nI (N 25 0)), .int (nI (N 26 0))])) := by rw [hw1]; exact mm_us _ _ _
  refine lv_aload_n hx hb d_Mod_make_16 rfl (lv_at hl 1 rfl) ?_
  refine mm_get (D := D) (C := n_Mod) (T := T_Mod) (N := 27) (v := .ref (b + 15)) hx hb hts lay_Mod hown hK.1 hP fa1 rfl 1 (by decide) (hts _ (List.mem_cons_of_mem _ wd_492)) (fun _ h9 => h9) rfl d_Mod_make_17 ?_
  refine lv_iload hx hb d_Mod_make_20 (lv_at hl 0 rfl) ?_
  refine lv_iconst (v := nI 0) hx hb d_Mod_make_22 (by decide) ?_
  have f2 := (fr1 _ (by omega)).trans (m1)
  refine mm_zast hx hb hK.1 hP hS 1 f2 rfl (N 0 0) rfl (by omega) (by decide) rfl d_Mod_make_23 (fun H locs hP hz1 hS => ?_)
  rw [show upd (fun i => nI ((N 1) i)) (N 0 0) (nI 0) = fun i => nI ((va_up (N 1) (N 0 0) 0) i) from kk_upn _ _ _] at hP
  have hz : H.size = sz := hz1.trans hz
  obtain ⟨w3, hw3⟩ : ∃ z : mm_M, z = mm_up w1 (b + 15) (.inl (cZ, 24, .inl (fun i => nI ((va_up (N 1) (N 0 0) 0) i)))) := ⟨_, rfl⟩
  have hP : mm_P B D kc w3 H := by rw [hw3]; exact hP
  have fr3 : ∀ j, j ≠ b + 15 → w3 j = w1 j := fun j h9 => by rw [hw3]; exact mm_un h9
  have fa3 : w3 (b + 15) = some (.inl (cZ, 24, .inl (fun i => nI ((va_up (N 1) (N 0 0) 0) i)))) := by rw [hw3]; exact mm_us _ _ _
  refine lv_aload_n hx hb d_Mod_make_24 rfl (lv_at hl 1 rfl) ?_
  have f4 := (fr3 _ (by omega)).trans (fa1)
  refine mm_get (D := D) (C := n_Mod) (T := T_Mod) (N := 27) (v := .ref (b + 16)) hx hb hts lay_Mod hown hK.1 hP f4 rfl 2 (by decide) (hts _ (List.mem_cons_of_mem _ wd_493)) (fun _ h9 => h9) rfl d_Mod_make_25 ?_
  refine lv_iload hx hb d_Mod_make_28 (lv_at hl 0 rfl) ?_
  refine lv_iload_n hx hb d_Mod_make_30 rfl (lv_at hl 2 rfl) ?_
  have f5 := (fr3 _ (by omega)).trans ((fr1 _ (by omega)).trans (m2))
  refine mm_zast hx hb hK.1 hP hS 1 f5 rfl (N 0 0) rfl (by omega) (by decide) (kk_nar1 hz0) d_Mod_make_31 (fun H locs hP hz1 hS => ?_)
  rw [show upd (fun i => nI ((N 2) i)) (N 0 0) (nI zz) = fun i => nI ((va_up (N 2) (N 0 0) zz) i) from kk_upn _ _ _] at hP
  have hz : H.size = sz := hz1.trans hz
  obtain ⟨w6, hw6⟩ : ∃ z : mm_M, z = mm_up w3 (b + 16) (.inl (cZ, 24, .inl (fun i => nI ((va_up (N 2) (N 0 0) zz) i)))) := ⟨_, rfl⟩
  have hP : mm_P B D kc w6 H := by rw [hw6]; exact hP
  have fr6 : ∀ j, j ≠ b + 16 → w6 j = w3 j := fun j h9 => by rw [hw6]; exact mm_un h9
  have fa6 : w6 (b + 16) = some (.inl (cZ, 24, .inl (fun i => nI ((va_up (N 2) (N 0 0) zz) i)))) := by rw [hw6]; exact mm_us _ _ _
  refine lv_aload_n hx hb d_Mod_make_32 rfl (lv_at hl 1 rfl) ?_
  have f7 := (fr6 _ (by omega)).trans (f4)
  refine mm_get (D := D) (C := n_Mod) (T := T_Mod) (N := 27) (v := .ref (b + 17)) hx hb hts lay_Mod hown hK.1 hP f7 rfl 3 (by decide) (hts _ (List.mem_cons_of_mem _ wd_494)) (fun _ h9 => h9) rfl d_Mod_make_33 ?_
  refine lv_iload hx hb d_Mod_make_36 (lv_at hl 0 rfl) ?_
  refine lv_iload_n hx hb d_Mod_make_38 rfl (lv_at hl 3 rfl) ?_
  have f8 := (fr6 _ (by omega)).trans ((fr3 _ (by omega)).trans ((fr1 _ (by omega)).trans (m3)))
  refine mm_iast hx hb hK.1 hP hS 0 f8 rfl (N 0 0) rfl (by omega) (by decide) d_Mod_make_39 (fun H locs hP hz1 hS => ?_)
  rw [show upd (fun i => nI ((N 3) i)) (N 0 0) (nI iss) = fun i => nI ((va_up (N 3) (N 0 0) iss) i) from kk_upn _ _ _] at hP
  have hz : H.size = sz := hz1.trans hz
  obtain ⟨w9, hw9⟩ : ∃ z : mm_M, z = mm_up w6 (b + 17) (.inl (cI, 24, .inl (fun i => nI ((va_up (N 3) (N 0 0) iss) i)))) := ⟨_, rfl⟩
  have hP : mm_P B D kc w9 H := by rw [hw9]; exact hP
  have fr9 : ∀ j, j ≠ b + 17 → w9 j = w6 j := fun j h9 => by rw [hw9]; exact mm_un h9
  have fa9 : w9 (b + 17) = some (.inl (cI, 24, .inl (fun i => nI ((va_up (N 3) (N 0 0) iss) i)))) := by rw [hw9]; exact mm_us _ _ _
  refine lv_aload_n hx hb d_Mod_make_40 rfl (lv_at hl 1 rfl) ?_
  have f10 := (fr9 _ (by omega)).trans (f7)
  refine mm_get (D := D) (C := n_Mod) (T := T_Mod) (N := 27) (v := .ref (b + 21)) hx hb hts lay_Mod hown hK.1 hP f10 rfl 7 (by decide) (hts _ (List.mem_cons_of_mem _ wd_498)) (fun _ h9 => h9) rfl d_Mod_make_41 ?_
  refine lv_iconst (v := nI 3) hx hb d_Mod_make_44 (by decide) ?_
  refine lv_iload hx hb d_Mod_make_45 (lv_at hl 0 rfl) ?_
  refine lv_imul hx hb d_Mod_make_47 ?_
  refine kk_top (pk_mul _ _) ?_
  refine lv_iload_n hx hb d_Mod_make_48 rfl (lv_at hl 4 rfl) ?_
  have f11 := (fr9 _ (by omega)).trans ((fr6 _ (by omega)).trans ((fr3 _ (by omega)).trans ((fr1 _ (by omega)).trans (m7))))
  refine mm_iast hx hb hK.1 hP hS 0 f11 rfl (3 * (N 0 0)) rfl (by omega) (by decide) d_Mod_make_49 (fun H locs hP hz1 hS => ?_)
  rw [show upd (fun i => nI ((N 7) i)) (3 * (N 0 0)) (nI su) = fun i => nI ((va_up (N 7) (3 * (N 0 0)) su) i) from kk_upn _ _ _] at hP
  have hz : H.size = sz := hz1.trans hz
  obtain ⟨w12, hw12⟩ : ∃ z : mm_M, z = mm_up w9 (b + 21) (.inl (cI, 72, .inl (fun i => nI ((va_up (N 7) (3 * (N 0 0)) su) i)))) := ⟨_, rfl⟩
  have hP : mm_P B D kc w12 H := by rw [hw12]; exact hP
  have fr12 : ∀ j, j ≠ b + 21 → w12 j = w9 j := fun j h9 => by rw [hw12]; exact mm_un h9
  have fa12 : w12 (b + 21) = some (.inl (cI, 72, .inl (fun i => nI ((va_up (N 7) (3 * (N 0 0)) su) i)))) := by rw [hw12]; exact mm_us _ _ _
  refine lv_aload_n hx hb d_Mod_make_50 rfl (lv_at hl 1 rfl) ?_
  have f13 := (fr12 _ (by omega)).trans (f10)
  refine mm_get (D := D) (C := n_Mod) (T := T_Mod) (N := 27) (v := .ref (b + 22)) hx hb hts lay_Mod hown hK.1 hP f13 rfl 8 (by decide) (hts _ (List.mem_cons_of_mem _ wd_499)) (fun _ h9 => h9) rfl d_Mod_make_51 ?_
  refine lv_iload hx hb d_Mod_make_54 (lv_at hl 0 rfl) ?_
  refine lv_iconst (v := nI 1) hx hb d_Mod_make_56 (by decide) ?_
  have f14 := (fr12 _ (by omega)).trans ((fr9 _ (by omega)).trans ((fr6 _ (by omega)).trans ((fr3 _ (by omega)).trans ((fr1 _ (by omega)).trans (m8)))))
  refine mm_iast hx hb hK.1 hP hS 0 f14 rfl (N 0 0) rfl (by omega) (by decide) d_Mod_make_57 (fun H locs hP hz1 hS => ?_)
  rw [show upd (fun i => nI ((N 8) i)) (N 0 0) (nI 1) = fun i => nI ((va_up (N 8) (N 0 0) 1) i) from kk_upn _ _ _] at hP
  have hz : H.size = sz := hz1.trans hz
  obtain ⟨w15, hw15⟩ : ∃ z : mm_M, z = mm_up w12 (b + 22) (.inl (cI, 24, .inl (fun i => nI ((va_up (N 8) (N 0 0) 1) i)))) := ⟨_, rfl⟩
  have hP : mm_P B D kc w15 H := by rw [hw15]; exact hP
  have fr15 : ∀ j, j ≠ b + 22 → w15 j = w12 j := fun j h9 => by rw [hw15]; exact mm_un h9
  have fa15 : w15 (b + 22) = some (.inl (cI, 24, .inl (fun i => nI ((va_up (N 8) (N 0 0) 1) i)))) := by rw [hw15]; exact mm_us _ _ _
  refine lv_aload_n hx hb d_Mod_make_58 rfl (lv_at hl 1 rfl) ?_
  have f16 := (fr15 _ (by omega)).trans (f13)
  refine mm_get (D := D) (C := n_Mod) (T := T_Mod) (N := 27) (v := .ref (b + 23)) hx hb hts lay_Mod hown hK.1 hP f16 rfl 9 (by decide) (hts _ (List.mem_cons_of_mem _ wd_500)) (fun _ h9 => h9) rfl d_Mod_make_59 ?_
  refine lv_iload hx hb d_Mod_make_62 (lv_at hl 0 rfl) ?_
  refine lv_iconst (v := nI 1) hx hb d_Mod_make_64 (by decide) ?_
  have f17 := (fr15 _ (by omega)).trans ((fr12 _ (by omega)).trans ((fr9 _ (by omega)).trans ((fr6 _ (by omega)).trans ((fr3 _ (by omega)).trans ((fr1 _ (by omega)).trans (m9))))))
  refine mm_iast hx hb hK.1 hP hS 0 f17 rfl (N 0 0) rfl (by omega) (by decide) d_Mod_make_65 (fun H locs hP hz1 hS => ?_)
  rw [show upd (fun i => nI ((N 9) i)) (N 0 0) (nI 1) = fun i => nI ((va_up (N 9) (N 0 0) 1) i) from kk_upn _ _ _] at hP
  have hz : H.size = sz := hz1.trans hz
  obtain ⟨w18, hw18⟩ : ∃ z : mm_M, z = mm_up w15 (b + 23) (.inl (cI, 24, .inl (fun i => nI ((va_up (N 9) (N 0 0) 1) i)))) := ⟨_, rfl⟩
  have hP : mm_P B D kc w18 H := by rw [hw18]; exact hP
  have fr18 : ∀ j, j ≠ b + 23 → w18 j = w15 j := fun j h9 => by rw [hw18]; exact mm_un h9
  have fa18 : w18 (b + 23) = some (.inl (cI, 24, .inl (fun i => nI ((va_up (N 9) (N 0 0) 1) i)))) := by rw [hw18]; exact mm_us _ _ _
  refine lv_aload_n hx hb d_Mod_make_66 rfl (lv_at hl 1 rfl) ?_
  have f19 := (fr18 _ (by omega)).trans (f16)
  refine mm_get (D := D) (C := n_Mod) (T := T_Mod) (N := 27) (v := .ref (b + 19)) hx hb hts lay_Mod hown hK.1 hP f19 rfl 5 (by decide) (hts _ (List.mem_cons_of_mem _ wd_496)) (fun _ h9 => h9) rfl d_Mod_make_67 ?_
  refine lv_iload hx hb d_Mod_make_70 (lv_at hl 0 rfl) ?_
  refine lv_iload hx hb d_Mod_make_72 (lv_at hl 5 rfl) ?_
  have f20 := (fr18 _ (by omega)).trans ((fr15 _ (by omega)).trans ((fr12 _ (by omega)).trans ((fr9 _ (by omega)).trans ((fr6 _ (by omega)).trans ((fr3 _ (by omega)).trans ((fr1 _ (by omega)).trans (m5)))))))
  refine mm_iast hx hb hK.1 hP hS 0 f20 rfl (N 0 0) rfl (by omega) (by decide) d_Mod_make_74 (fun H locs hP hz1 hS => ?_)
  have hz : H.size = sz := hz1.trans hz
  obtain ⟨w21, hw21⟩ : ∃ z : mm_M, z = mm_up w18 (b + 19) (.inl (cI, 24, .inl (upd (S 5) (N 0 0) fr))) := ⟨_, rfl⟩
  have hP : mm_P B D kc w21 H := by rw [hw21]; exact hP
  have fr21 : ∀ j, j ≠ b + 19 → w21 j = w18 j := fun j h9 => by rw [hw21]; exact mm_un h9
  have fa21 : w21 (b + 19) = some (.inl (cI, 24, .inl (upd (S 5) (N 0 0) fr))) := by rw [hw21]; exact mm_us _ _ _
  refine lv_aload_n hx hb d_Mod_make_75 rfl (lv_at hl 1 rfl) ?_
  have f22 := (fr21 _ (by omega)).trans (f19)
  refine mm_get (D := D) (C := n_Mod) (T := T_Mod) (N := 27) (v := .ref (b + 20)) hx hb hts lay_Mod hown hK.1 hP f22 rfl 6 (by decide) (hts _ (List.mem_cons_of_mem _ wd_497)) (fun _ h9 => h9) rfl d_Mod_make_76 ?_
  refine lv_iload hx hb d_Mod_make_79 (lv_at hl 0 rfl) ?_
  refine lv_iload hx hb d_Mod_make_81 (lv_at hl 6 rfl) ?_
  have f23 := (fr21 _ (by omega)).trans ((fr18 _ (by omega)).trans ((fr15 _ (by omega)).trans ((fr12 _ (by omega)).trans ((fr9 _ (by omega)).trans ((fr6 _ (by omega)).trans ((fr3 _ (by omega)).trans ((fr1 _ (by omega)).trans (m6))))))))
  refine mm_iast hx hb hK.1 hP hS 0 f23 rfl (N 0 0) rfl (by omega) (by decide) d_Mod_make_83 (fun H locs hP hz1 hS => ?_)
  have hz : H.size = sz := hz1.trans hz
  obtain ⟨w24, hw24⟩ : ∃ z : mm_M, z = mm_up w21 (b + 20) (.inl (cI, 24, .inl (upd (S 6) (N 0 0) to))) := ⟨_, rfl⟩
  have hP : mm_P B D kc w24 H := by rw [hw24]; exact hP
  have fr24 : ∀ j, j ≠ b + 20 → w24 j = w21 j := fun j h9 => by rw [hw24]; exact mm_un h9
  have fa24 : w24 (b + 20) = some (.inl (cI, 24, .inl (upd (S 6) (N 0 0) to))) := by rw [hw24]; exact mm_us _ _ _
  refine lv_aload_n hx hb d_Mod_make_84 rfl (lv_at hl 1 rfl) ?_
  have f25 := (fr24 _ (by omega)).trans (f22)
  refine mm_get (D := D) (C := n_Mod) (T := T_Mod) (N := 27) (v := .ref (b + 24)) hx hb hts lay_Mod hown hK.1 hP f25 rfl 10 (by decide) (hts _ (List.mem_cons_of_mem _ wd_501)) (fun _ h9 => h9) rfl d_Mod_make_85 ?_
  refine lv_iload hx hb d_Mod_make_88 (lv_at hl 0 rfl) ?_
  refine lv_sipush (v := nI 255) hx hb d_Mod_make_90 (by decide) ?_
  have f26 := (fr24 _ (by omega)).trans ((fr21 _ (by omega)).trans ((fr18 _ (by omega)).trans ((fr15 _ (by omega)).trans ((fr12 _ (by omega)).trans ((fr9 _ (by omega)).trans ((fr6 _ (by omega)).trans ((fr3 _ (by omega)).trans ((fr1 _ (by omega)).trans (m10)))))))))
  refine mm_iast hx hb hK.1 hP hS 0 f26 rfl (N 0 0) rfl (by omega) (by decide) d_Mod_make_93 (fun H locs hP hz1 hS => ?_)
  rw [show upd (fun i => nI ((N 10) i)) (N 0 0) (nI 255) = fun i => nI ((va_up (N 10) (N 0 0) 255) i) from kk_upn _ _ _] at hP
  have hz : H.size = sz := hz1.trans hz
  obtain ⟨w27, hw27⟩ : ∃ z : mm_M, z = mm_up w24 (b + 24) (.inl (cI, 24, .inl (fun i => nI ((va_up (N 10) (N 0 0) 255) i)))) := ⟨_, rfl⟩
  have hP : mm_P B D kc w27 H := by rw [hw27]; exact hP
  have fr27 : ∀ j, j ≠ b + 24 → w27 j = w24 j := fun j h9 => by rw [hw27]; exact mm_un h9
  have fa27 : w27 (b + 24) = some (.inl (cI, 24, .inl (fun i => nI ((va_up (N 10) (N 0 0) 255) i)))) := by rw [hw27]; exact mm_us _ _ _
  refine lv_aload_n hx hb d_Mod_make_94 rfl (lv_at hl 1 rfl) ?_
  have f28 := (fr27 _ (by omega)).trans (f25)
  refine mm_get (D := D) (C := n_Mod) (T := T_Mod) (N := 27) (v := .ref (b + 25)) hx hb hts lay_Mod hown hK.1 hP f28 rfl 11 (by decide) (hts _ (List.mem_cons_of_mem _ wd_502)) (fun _ h9 => h9) rfl d_Mod_make_95 ?_
  refine lv_iload hx hb d_Mod_make_98 (lv_at hl 0 rfl) ?_
  refine lv_ldc hx hb hown (hts _ (List.mem_cons_of_mem _ wd_587)) d_Mod_make_100 ?_
  have f29 := (fr27 _ (by omega)).trans ((fr24 _ (by omega)).trans ((fr21 _ (by omega)).trans ((fr18 _ (by omega)).trans ((fr15 _ (by omega)).trans ((fr12 _ (by omega)).trans ((fr9 _ (by omega)).trans ((fr6 _ (by omega)).trans ((fr3 _ (by omega)).trans ((fr1 _ (by omega)).trans (m11))))))))))
  refine mm_iast hx hb hK.1 hP hS 0 f29 rfl (N 0 0) rfl (by omega) (by decide) d_Mod_make_102 (fun H locs hP hz1 hS => ?_)
  have hz : H.size = sz := hz1.trans hz
  obtain ⟨w30, hw30⟩ : ∃ z : mm_M, z = mm_up w27 (b + 25) (.inl (cI, 24, .inl (upd (S 11) (N 0 0) (-2147483648)))) := ⟨_, rfl⟩
  have hP : mm_P B D kc w30 H := by rw [hw30]; exact hP
  have fr30 : ∀ j, j ≠ b + 25 → w30 j = w27 j := fun j h9 => by rw [hw30]; exact mm_un h9
  have fa30 : w30 (b + 25) = some (.inl (cI, 24, .inl (upd (S 11) (N 0 0) (-2147483648)))) := by rw [hw30]; exact mm_us _ _ _
  refine lv_aload_n hx hb d_Mod_make_103 rfl (lv_at hl 1 rfl) ?_
  have f31 := (fr30 _ (by omega)).trans (f28)
  refine mm_get (D := D) (C := n_Mod) (T := T_Mod) (N := 27) (v := .ref (b + 26)) hx hb hts lay_Mod hown hK.1 hP f31 rfl 12 (by decide) (hts _ (List.mem_cons_of_mem _ wd_503)) (fun _ h9 => h9) rfl d_Mod_make_104 ?_
  refine lv_iload hx hb d_Mod_make_107 (lv_at hl 0 rfl) ?_
  refine lv_ldc hx hb hown (hts _ (List.mem_cons_of_mem _ wd_588)) d_Mod_make_109 ?_
  have f32 := (fr30 _ (by omega)).trans ((fr27 _ (by omega)).trans ((fr24 _ (by omega)).trans ((fr21 _ (by omega)).trans ((fr18 _ (by omega)).trans ((fr15 _ (by omega)).trans ((fr12 _ (by omega)).trans ((fr9 _ (by omega)).trans ((fr6 _ (by omega)).trans ((fr3 _ (by omega)).trans ((fr1 _ (by omega)).trans (m12)))))))))))
  refine mm_iast hx hb hK.1 hP hS 0 f32 rfl (N 0 0) rfl (by omega) (by decide) d_Mod_make_111 (fun H locs hP hz1 hS => ?_)
  have hz : H.size = sz := hz1.trans hz
  obtain ⟨w33, hw33⟩ : ∃ z : mm_M, z = mm_up w30 (b + 26) (.inl (cI, 24, .inl (upd (S 12) (N 0 0) (2147483647)))) := ⟨_, rfl⟩
  have hP : mm_P B D kc w33 H := by rw [hw33]; exact hP
  have fr33 : ∀ j, j ≠ b + 26 → w33 j = w30 j := fun j h9 => by rw [hw33]; exact mm_un h9
  have fa33 : w33 (b + 26) = some (.inl (cI, 24, .inl (upd (S 12) (N 0 0) (2147483647)))) := by rw [hw33]; exact mm_us _ _ _
  refine lv_iload hx hb d_Mod_make_112 (lv_at hl 0 rfl) ?_
  exact W.iret hx hb hr (fun t ht hW => ⟨⟨_, (w33, sz), rfl, ⟨rfl, (mo_mk ((fr33 _ (by omega)).trans (f31)) ((fr33 _ (by omega)).trans ((fr30 _ (by omega)).trans ((fr27 _ (by omega)).trans ((fr24 _ (by omega)).trans ((fr21 _ (by omega)).trans ((fr18 _ (by omega)).trans ((fr15 _ (by omega)).trans ((fr12 _ (by omega)).trans ((fr9 _ (by omega)).trans ((fr6 _ (by omega)).trans (fa3))))))))))) ((fr33 _ (by omega)).trans ((fr30 _ (by omega)).trans ((fr27 _ (by omega)).trans ((fr24 _ (by omega)).trans ((fr21 _ (by omega)).trans ((fr18 _ (by omega)).trans ((fr15 _ (by omega)).trans ((fr12 _ (by omega)).trans ((fr9 _ (by omega)).trans (fa6)))))))))) ((fr33 _ (by omega)).trans ((fr30 _ (by omega)).trans ((fr27 _ (by omega)).trans ((fr24 _ (by omega)).trans ((fr21 _ (by omega)).trans ((fr18 _ (by omega)).trans ((fr15 _ (by omega)).trans ((fr12 _ (by omega)).trans (fa9))))))))) ((fr33 _ (by omega)).trans ((fr30 _ (by omega)).trans ((fr27 _ (by omega)).trans ((fr24 _ (by omega)).trans ((fr21 _ (by omega)).trans ((fr18 _ (by omega)).trans ((fr15 _ (by omega)).trans ((fr12 _ (by omega)).trans ((fr9 _ (by omega)).trans ((fr6 _ (by omega)).trans ((fr3 _ (by omega)).trans ((fr1 _ (by omega)).trans (m4))))))))))))) ((fr33 _ (by omega)).trans ((fr30 _ (by omega)).trans ((fr27 _ (by omega)).trans ((fr24 _ (by omega)).trans (fa21))))) ((fr33 _ (by omega)).trans ((fr30 _ (by omega)).trans ((fr27 _ (by omega)).trans (fa24)))) ((fr33 _ (by omega)).trans ((fr30 _ (by omega)).trans ((fr27 _ (by omega)).trans ((fr24 _ (by omega)).trans ((fr21 _ (by omega)).trans ((fr18 _ (by omega)).trans ((fr15 _ (by omega)).trans (fa12)))))))) ((fr33 _ (by omega)).trans ((fr30 _ (by omega)).trans ((fr27 _ (by omega)).trans ((fr24 _ (by omega)).trans ((fr21 _ (by omega)).trans ((fr18 _ (by omega)).trans (fa15))))))) ((fr33 _ (by omega)).trans ((fr30 _ (by omega)).trans ((fr27 _ (by omega)).trans ((fr24 _ (by omega)).trans ((fr21 _ (by omega)).trans (fa18)))))) ((fr33 _ (by omega)).trans ((fr30 _ (by omega)).trans (fa27))) ((fr33 _ (by omega)).trans (fa30)) fa33 ((fr33 _ (by omega)).trans ((fr30 _ (by omega)).trans ((fr27 _ (by omega)).trans ((fr24 _ (by omega)).trans ((fr21 _ (by omega)).trans ((fr18 _ (by omega)).trans ((fr15 _ (by omega)).trans ((fr12 _ (by omega)).trans ((fr9 _ (by omega)).trans ((fr6 _ (by omega)).trans ((fr3 _ (by omega)).trans ((fr1 _ (by omega)).trans (m13))))))))))))) ((fr33 _ (by omega)).trans ((fr30 _ (by omega)).trans ((fr27 _ (by omega)).trans ((fr24 _ (by omega)).trans ((fr21 _ (by omega)).trans ((fr18 _ (by omega)).trans ((fr15 _ (by omega)).trans ((fr12 _ (by omega)).trans ((fr9 _ (by omega)).trans ((fr6 _ (by omega)).trans ((fr3 _ (by omega)).trans ((fr1 _ (by omega)).trans (m14))))))))))))) ((fr33 _ (by omega)).trans ((fr30 _ (by omega)).trans ((fr27 _ (by omega)).trans ((fr24 _ (by omega)).trans ((fr21 _ (by omega)).trans ((fr18 _ (by omega)).trans ((fr15 _ (by omega)).trans ((fr12 _ (by omega)).trans ((fr9 _ (by omega)).trans ((fr6 _ (by omega)).trans ((fr3 _ (by omega)).trans ((fr1 _ (by omega)).trans (m15))))))))))))) ((fr33 _ (by omega)).trans ((fr30 _ (by omega)).trans ((fr27 _ (by omega)).trans ((fr24 _ (by omega)).trans ((fr21 _ (by omega)).trans ((fr18 _ (by omega)).trans ((fr15 _ (by omega)).trans ((fr12 _ (by omega)).trans ((fr9 _ (by omega)).trans ((fr6 _ (by omega)).trans ((fr3 _ (by omega)).trans ((fr1 _ (by omega)).trans (m16)))))))))))))), (fun j hj => (fr33 j (by omega)).trans ((fr30 j (by omega)).trans ((fr27 j (by omega)).trans ((fr24 j (by omega)).trans ((fr21 j (by omega)).trans ((fr18 j (by omega)).trans ((fr15 j (by omega)).trans ((fr12 j (by omega)).trans ((fr9 j (by omega)).trans ((fr6 j (by omega)).trans ((fr3 j (by omega)).trans (fr1 j (by omega))))))))))))), rfl⟩, by rw [ht]; exact hP, by rw [ht]; exact hz⟩, hS.F ht⟩) hS.2.2 d_Mod_make_114
theorem d_Mod_isThere_0 : decode k_Mod_isThere 0 = .ok (.iload_n 1, 1) := by decide +kernel
theorem d_Mod_isThere_1 : decode k_Mod_isThere 1 = .ok (.ifCond .lt 24, 3) := by decide +kernel
theorem d_Mod_isThere_4 : decode k_Mod_isThere 4 = .ok (.iload_n 1, 1) := by decide +kernel
theorem d_Mod_isThere_5 : decode k_Mod_isThere 5 = .ok (.aload_n 0, 1) := by decide +kernel
theorem d_Mod_isThere_6 : decode k_Mod_isThere 6 = .ok (.getfield 63, 3) := by decide +kernel
theorem d_Mod_isThere_9 : decode k_Mod_isThere 9 = .ok (.if_icmp .ge 16, 3) := by decide +kernel
theorem d_Mod_isThere_12 : decode k_Mod_isThere 12 = .ok (.aload_n 0, 1) := by decide +kernel
theorem d_Mod_isThere_13 : decode k_Mod_isThere 13 = .ok (.getfield 7, 3) := by decide +kernel
theorem d_Mod_isThere_16 : decode k_Mod_isThere 16 = .ok (.iload_n 1, 1) := by decide +kernel
theorem d_Mod_isThere_17 : decode k_Mod_isThere 17 = .ok (.baload, 1) := by decide +kernel
theorem d_Mod_isThere_18 : decode k_Mod_isThere 18 = .ok (.ifCond .ne 7, 3) := by decide +kernel
theorem d_Mod_isThere_21 : decode k_Mod_isThere 21 = .ok (.iconst 1, 1) := by decide +kernel
theorem d_Mod_isThere_22 : decode k_Mod_isThere 22 = .ok (.goto 4, 3) := by decide +kernel
theorem d_Mod_isThere_25 : decode k_Mod_isThere 25 = .ok (.iconst 0, 1) := by decide +kernel
theorem d_Mod_isThere_26 : decode k_Mod_isThere 26 = .ok (.ireturn, 1) := by decide +kernel
set_option maxHeartbeats 4000000 in
set_option maxRecDepth 100000 in
theorem c_Mod_isThere (l : Launch) {B : Nat} {D : va_G} {cI cZ cQ : ClassId} {w : mm_M} {sz : Nat} {b : Nat} {N : Nat → Nat → Nat} {S : Nat → Nat → Int32} {nr : Int32} (hM : mo_I b cI cZ N S w) (hn : N 0 0 ≤ 24) (hR : rg_I N) : Met l y_Mod_isThere ws_Mod_isThere (kk_rm 0 0 0) (kk_Pc B D cI cZ cQ [.ref (b + 14), .int nr] w sz) (vp_Si (fun r => r = nI (if re_th N nr then 1 else 0))) 0 0 (fun _ => False) := by
  refine Met.ofW (cc := k_Mod_isThere) (maxL := 2) (ret := (some .boolean)) (by decide) rfl ?_
  intro p e s m args below meth c s₁ BB hml hv
  obtain ⟨rfl, hK, hP, hz, hBz⟩ := hv
  have hx := BB.exec
  have hb := BB.bytes
  have hr := BB.returns
  have hts := atoms_spec (ws := ws_Mod_isThere) BB.pre
  have hown : s.vm.findClass "DelegationClosureModel" = some m.cls := findClass_of_methodNamed BB.named
  have hlocks := BB.notSynchronized
  have hS : mm_S B s.heap s.heap [] := va_S.rf
  have hl := lv_entry ([.ref (b + 14), .int nr]) (n := 2) (Nat.le_of_ble_eq_true rfl)
  rw [lg_entry_eq]
  generalize (lg_sl ([.ref (b + 14), .int nr]) ++ List.replicate (2 - (lg_sl ([.ref (b + 14), .int nr])).length) Slot.unset).toArray = ls at hl ⊢
  have hl : lv_has ls 2 [(0, .ref (b + 14)), (1, .int nr)] := hl
  have m0 : w (b + 14) = some (.inr (9, [.int (nI (N 0 0)), .ref (b + 15), .ref (b + 16), .ref (b + 17), .ref (b + 18), .ref (b + 19), .ref (b + 20), .ref (b + 21), .ref (b + 22), .ref (b + 23), .ref (b + 24), .ref (b + 25), .ref (b + 26), .ref (b + 27), .ref (b + 28), .ref (b + 29), .int (nI (N 16 0)), .int (nI (N 17 0)), .int (nI (N 18 0)), .ref (b + 30), .int (nI (N 20 0)), .int (S 21 0), .int (S 22 0), .int (S 23 0), .int (S 24 0), .int (nI (N 25 0)), .int (nI (N 26 0))])) := hM.1
  have m1 : w (b + 15) = some (.inl (cZ, 24, .inl (fun i => nI ((N 1) i)))) := hM.2 1 (by decide) (by decide)
  have m2 : w (b + 16) = some (.inl (cZ, 24, .inl (fun i => nI ((N 2) i)))) := hM.2 2 (by decide) (by decide)
  have m3 : w (b + 17) = some (.inl (cI, 24, .inl (fun i => nI ((N 3) i)))) := hM.2 3 (by decide) (by decide)
  have m4 : w (b + 18) = some (.inl (cI, 24, .inl (fun i => nI ((N 4) i)))) := hM.2 4 (by decide) (by decide)
  have m5 : w (b + 19) = some (.inl (cI, 24, .inl (S 5))) := hM.2 5 (by decide) (by decide)
  have m6 : w (b + 20) = some (.inl (cI, 24, .inl (S 6))) := hM.2 6 (by decide) (by decide)
  have m7 : w (b + 21) = some (.inl (cI, 72, .inl (fun i => nI ((N 7) i)))) := hM.2 7 (by decide) (by decide)
  have m8 : w (b + 22) = some (.inl (cI, 24, .inl (fun i => nI ((N 8) i)))) := hM.2 8 (by decide) (by decide)
  have m9 : w (b + 23) = some (.inl (cI, 24, .inl (fun i => nI ((N 9) i)))) := hM.2 9 (by decide) (by decide)
  have m10 : w (b + 24) = some (.inl (cI, 24, .inl (fun i => nI ((N 10) i)))) := hM.2 10 (by decide) (by decide)
  have m11 : w (b + 25) = some (.inl (cI, 24, .inl (S 11))) := hM.2 11 (by decide) (by decide)
  have m12 : w (b + 26) = some (.inl (cI, 24, .inl (S 12))) := hM.2 12 (by decide) (by decide)
  have m13 : w (b + 27) = some (.inl (cZ, 24, .inl (fun i => nI ((N 13) i)))) := hM.2 13 (by decide) (by decide)
  have m14 : w (b + 28) = some (.inl (cI, 256, .inl (fun i => nI ((N 14) i)))) := hM.2 14 (by decide) (by decide)
  have m15 : w (b + 29) = some (.inl (cI, 24, .inl (fun i => nI ((N 15) i)))) := hM.2 15 (by decide) (by decide)
  have m16 : w (b + 30) = some (.inl (cI, 5, .inl (fun i => nI ((N 19) i)))) := hM.2 16 (by decide) (by decide)
  rcases re_split hn nr with hc | ⟨j, hj, hcj⟩
  · refine lv_iload_n hx hb d_Mod_isThere_0 rfl (lv_at hl 1 rfl) ?_
    refine lv_if_lt (tgt := 25) hx hb d_Mod_isThere_1 (by decide) (fun cc1 => ?_) (fun cc1 => ?_)
    · refine lv_iconst (v := nI 0) hx hb d_Mod_isThere_25 (by decide) ?_
      exact W.zret hx hb hr rfl (fun t ht hW => ⟨_, rfl, kk_iff (re_th_out hc), ht⟩) (fun q hq => by cases hq) d_Mod_isThere_26
    · refine lv_iload_n hx hb d_Mod_isThere_4 rfl (lv_at hl 1 rfl) ?_
      refine lv_aload_n hx hb d_Mod_isThere_5 rfl (lv_at hl 0 rfl) ?_
      refine mm_get (D := D) (C := n_Mod) (T := T_Mod) (N := 27) (v := .int (nI (N 0 0))) hx hb hts lay_Mod hown hK.1 hP m0 rfl 0 (by decide) (hts _ (List.mem_cons_of_mem _ wd_491)) (fun _ h9 => h9) rfl d_Mod_isThere_6 ?_
      refine lv_icmp_ge (tgt := 25) hx hb d_Mod_isThere_9 (by decide) (fun cc2 => ?_) (fun cc2 => ?_)
      · refine lv_iconst (v := nI 0) hx hb d_Mod_isThere_25 (by decide) ?_
        exact W.zret hx hb hr rfl (fun t ht hW => ⟨_, rfl, kk_iff (re_th_out hc), ht⟩) (fun q hq => by cases hq) d_Mod_isThere_26
      · exact (hc.elim cc1 cc2).elim
  · have hRj := hR j hj
    refine lv_iload_n hx hb d_Mod_isThere_0 rfl (lv_at hl 1 rfl) ?_
    refine kk_top (hcj) ?_
    refine lv_if_lt (tgt := 25) hx hb d_Mod_isThere_1 (by decide) (fun cc3 => ?_) (fun cc3 => ?_)
    · rw [← nI_0] at cc3
      have cc3 : j < 0 := (nI_ltI (by omega) (by omega)).mp cc3
      exact absurd cc3 (by omega)
    · rw [← nI_0] at cc3
      have cc3 : ¬ (j < 0) := fun q => cc3 ((nI_ltI (by omega) (by omega)).mpr q)
      refine lv_iload_n hx hb d_Mod_isThere_4 rfl (lv_at hl 1 rfl) ?_
      refine kk_top (hcj) ?_
      refine lv_aload_n hx hb d_Mod_isThere_5 rfl (lv_at hl 0 rfl) ?_
      refine mm_get (D := D) (C := n_Mod) (T := T_Mod) (N := 27) (v := .int (nI (N 0 0))) hx hb hts lay_Mod hown hK.1 hP m0 rfl 0 (by decide) (hts _ (List.mem_cons_of_mem _ wd_491)) (fun _ h9 => h9) rfl d_Mod_isThere_6 ?_
      refine lv_icmp_ge (tgt := 25) hx hb d_Mod_isThere_9 (by decide) (fun cc4 => ?_) (fun cc4 => ?_)
      · have cc4 : N 0 0 ≤ j := (nI_leI (by omega) (by omega)).mp cc4
        exact absurd cc4 (by omega)
      · have cc4 : ¬ (N 0 0 ≤ j) := fun q => cc4 ((nI_leI (by omega) (by omega)).mpr q)
        refine lv_aload_n hx hb d_Mod_isThere_12 rfl (lv_at hl 0 rfl) ?_
        refine mm_get (D := D) (C := n_Mod) (T := T_Mod) (N := 27) (v := .ref (b + 15)) hx hb hts lay_Mod hown hK.1 hP m0 rfl 1 (by decide) (hts _ (List.mem_cons_of_mem _ wd_492)) (fun _ h9 => h9) rfl d_Mod_isThere_13 ?_
        refine lv_iload_n hx hb d_Mod_isThere_16 rfl (lv_at hl 1 rfl) ?_
        refine kk_top (hcj) ?_
        refine mm_zald hx hb hK.1 hP 1 m1 rfl j rfl (by omega) (by decide) d_Mod_isThere_17 ?_
        refine W.eq (g2 := F0 m 18 ls [.int (nI ((N 1) j))]) rfl ?_
        refine lv_if_ne (tgt := 25) hx hb d_Mod_isThere_18 (by decide) (fun cc5 => ?_) (fun cc5 => ?_)
        · rw [← nI_0] at cc5
          have cc5 : ¬ ((N 1) j = 0) := fun q => cc5 ((nI_eq (by omega) (by omega)).mpr q)
          refine lv_iconst (v := nI 0) hx hb d_Mod_isThere_25 (by decide) ?_
          exact W.zret hx hb hr rfl (fun t ht hW => ⟨_, rfl, kk_iff (by rw [hcj, re_th_in hj hn]; omega), ht⟩) (fun q hq => by cases hq) d_Mod_isThere_26
        · rw [← nI_0] at cc5
          have cc5 : (N 1) j = 0 := (nI_eq (by omega) (by omega)).mp cc5
          refine lv_iconst (v := nI 1) hx hb d_Mod_isThere_21 (by decide) ?_
          refine lv_goto (tgt := 26) hx hb d_Mod_isThere_22 (by decide) ?_
          exact W.zret hx hb hr rfl (fun t ht hW => ⟨_, rfl, kk_ift (by rw [hcj, re_th_in hj hn]; omega), ht⟩) (fun q hq => by cases hq) d_Mod_isThere_26
end
section
theorem re_in {N : Nat → Nat → Nat} (hn : N 0 0 ≤ 24) {nr : Int32} (h : ¬ (nr < 0 ∨ nI (N 0 0) ≤ nr)) : ∃ j, j < N 0 0 ∧ nr = nI j := (re_split hn nr).elim (fun q => absurd q h) id
theorem kk_gtm {x : Int32} (n k : Nat) (h : k = n + 1) (hk : k < 2 ^ 31) : nI n < x ↔ nI k ≤ x := by
  subst h; exact kk_gt hk
theorem kk_rng {x : Int32} {a b : Nat} (h1 : ¬ x < nI a) (h2 : x ≤ nI b) (ha : a < 2 ^ 31) (hb : b < 2 ^ 31) : ∃ q, a ≤ q ∧ q ≤ b ∧ x = nI q := by
  have h0 : ¬ x < 0 := by
    rw [← nI_0]
    intro q
    rw [Int32.lt_iff_toInt_lt, nI_toInt (by omega)] at *
    omega
  obtain ⟨j, hj, rfl⟩ := nI_of h0
  exact ⟨j, Nat.le_of_not_lt (fun q => h1 ((nI_ltI hj ha).mpr q)), (nI_leI hj hb).mp h2, rfl⟩
def sp_S (S : Nat → Nat → Int32) (j : Nat) (lo hi : Int32) : Nat → Nat → Int32 := fun k => match k with
  | 11 => upd (S 11) j lo
  | 12 => upd (S 12) j hi
  | k => S k
theorem tg_S_pos {N : Nat → Nat → Nat} {S : Nat → Nat → Int32} {j : Nat} {o lo hi : Int32} (hj : j < 2 ^ 31) (h : tg_ok N (nI j) o lo hi) : tg_S N S (nI j) o lo hi = sp_S S j lo hi := by
  unfold tg_S
  rw [if_pos h, nI_clamp hj]
  rfl
theorem tg_N_pos {N : Nat → Nat → Nat} {j o : Nat} {lo hi : Int32} (hj : j < 2 ^ 31) (ho : o < 2 ^ 31) (h : tg_ok N (nI j) (nI o) lo hi) : tg_N N (nI j) (nI o) lo hi = va_up N 10 (va_up (N 10) j o) := by
  unfold tg_N
  rw [if_pos h, nI_clamp hj, nI_clamp ho]
theorem al_N_pos {N : Nat → Nat → Nat} {j q : Nat} (hj : j < 2 ^ 31) (hq : q < 2 ^ 31) (h : al_ok N (nI j) (nI q)) : al_N N (nI j) (nI q) = va_up (va_up N 7 (va_up (N 7) (3 * j + N 8 j) q)) 8 (va_up (N 8) j (N 8 j + 1)) := by
  unfold al_N
  rw [if_pos h, nI_clamp hj, nI_clamp hq]
theorem qu_N_pos {N : Nat → Nat → Nat} {j q : Nat} (hj : j < 2 ^ 31) (hq : q < 2 ^ 31) (h : qu_ok N (nI j) (nI q)) : qu_N N (nI j) (nI q) = va_up N 9 (va_up (N 9) j q) := by
  unfold qu_N
  rw [if_pos h, nI_clamp hj, nI_clamp hq]
theorem rv_N_pos {N : Nat → Nat → Nat} {j : Nat} (hj : j < 2 ^ 31) (h : re_th N (nI j)) : rv_N N (nI j) = va_up N 1 (va_up (N 1) j 1) := by
  unfold rv_N
  rw [if_pos h, nI_clamp hj]
theorem na_N_pos {N : Nat → Nat → Nat} {a b d : Nat} (ha : a < 2 ^ 31) (hb : b < 2 ^ 31) (hd : d < 2 ^ 31) (h : na_ok N (nI a) (nI b) (nI d)) : na_N N (nI a) (nI b) (nI d) = cm_N N 1 a d b 0 := by
  unfold na_N
  rw [if_pos h, nI_clamp ha, nI_clamp hb, nI_clamp hd]
theorem pe_N_pos {N : Nat → Nat → Nat} {a b d : Nat} (ha : a < 2 ^ 31) (hb : b < 2 ^ 31) (hd : d < 2 ^ 31) (h : pe_ok N (nI a) (nI b)) : pe_N N (nI a) (nI b) (nI d) = cm_N N 0 a b 0 d := by
  unfold pe_N
  rw [if_pos h, nI_clamp ha, nI_clamp hb, nI_clamp hd]
end
section
theorem d_Mod_isPermission_0 : decode k_Mod_isPermission 0 = .ok (.aload_n 0, 1) := by decide +kernel
theorem d_Mod_isPermission_1 : decode k_Mod_isPermission 1 = .ok (.iload_n 1, 1) := by decide +kernel
theorem d_Mod_isPermission_2 : decode k_Mod_isPermission 2 = .ok (.invokevirtual 77, 3) := by decide +kernel
theorem d_Mod_isPermission_5 : decode k_Mod_isPermission 5 = .ok (.ifCond .eq 16, 3) := by decide +kernel
theorem d_Mod_isPermission_8 : decode k_Mod_isPermission 8 = .ok (.aload_n 0, 1) := by decide +kernel
theorem d_Mod_isPermission_9 : decode k_Mod_isPermission 9 = .ok (.getfield 13, 3) := by decide +kernel
theorem d_Mod_isPermission_12 : decode k_Mod_isPermission 12 = .ok (.iload_n 1, 1) := by decide +kernel
theorem d_Mod_isPermission_13 : decode k_Mod_isPermission 13 = .ok (.baload, 1) := by decide +kernel
theorem d_Mod_isPermission_14 : decode k_Mod_isPermission 14 = .ok (.ifCond .ne 7, 3) := by decide +kernel
theorem d_Mod_isPermission_17 : decode k_Mod_isPermission 17 = .ok (.iconst 1, 1) := by decide +kernel
theorem d_Mod_isPermission_18 : decode k_Mod_isPermission 18 = .ok (.goto 4, 3) := by decide +kernel
theorem d_Mod_isPermission_21 : decode k_Mod_isPermission 21 = .ok (.iconst 0, 1) := by decide +kernel
theorem d_Mod_isPermission_22 : decode k_Mod_isPermission 22 = .ok (.ireturn, 1) := by decide +kernel
set_option maxHeartbeats 4000000 in
set_option maxRecDepth 100000 in
theorem c_Mod_isPermission (l : Launch) {B : Nat} {D : va_G} {cI cZ cQ : ClassId} {w : mm_M} {sz : Nat} {b : Nat} {N : Nat → Nat → Nat} {S : Nat → Nat → Int32} {nr : Int32} (hM : mo_I b cI cZ N S w) (hn : N 0 0 ≤ 24) (hR : rg_I N) : Met l y_Mod_isPermission ws_Mod_isPermission (kk_rm 1 0 0) (kk_Pc B D cI cZ cQ [.ref (b + 14), .int nr] w sz) (vp_Si (fun r => r = nI (if re_tp N nr then 1 else 0))) 0 0 (fun _ => False) := by
  refine Met.ofW (cc := k_Mod_isPermission) (maxL := 2) (ret := (some .boolean)) (by decide) rfl ?_
  intro p e s m args below meth c s₁ BB hml hv
  obtain ⟨rfl, hK, hP, hz, hBz⟩ := hv
  have hx := BB.exec
  have hb := BB.bytes
  have hr := BB.returns
  have hts := atoms_spec (ws := ws_Mod_isPermission) BB.pre
  have hown : s.vm.findClass "DelegationClosureModel" = some m.cls := findClass_of_methodNamed BB.named
  have hlocks := BB.notSynchronized
  have hS : mm_S B s.heap s.heap [] := va_S.rf
  have hl := lv_entry ([.ref (b + 14), .int nr]) (n := 2) (Nat.le_of_ble_eq_true rfl)
  rw [lg_entry_eq]
  generalize (lg_sl ([.ref (b + 14), .int nr]) ++ List.replicate (2 - (lg_sl ([.ref (b + 14), .int nr])).length) Slot.unset).toArray = ls at hl ⊢
  have hl : lv_has ls 2 [(0, .ref (b + 14)), (1, .int nr)] := hl
  have m0 : w (b + 14) = some (.inr (9, [.int (nI (N 0 0)), .ref (b + 15), .ref (b + 16), .ref (b + 17), .ref (b + 18), .ref (b + 19), .ref (b + 20), .ref (b + 21), .ref (b + 22), .ref (b + 23), .ref (b + 24), .ref (b + 25), .ref (b + 26), .ref (b + 27), .ref (b + 28), .ref (b + 29), .int (nI (N 16 0)), .int (nI (N 17 0)), .int (nI (N 18 0)), .ref (b + 30), .int (nI (N 20 0)), .int (S 21 0), .int (S 22 0), .int (S 23 0), .int (S 24 0), .int (nI (N 25 0)), .int (nI (N 26 0))])) := hM.1
  have m1 : w (b + 15) = some (.inl (cZ, 24, .inl (fun i => nI ((N 1) i)))) := hM.2 1 (by decide) (by decide)
  have m2 : w (b + 16) = some (.inl (cZ, 24, .inl (fun i => nI ((N 2) i)))) := hM.2 2 (by decide) (by decide)
  have m3 : w (b + 17) = some (.inl (cI, 24, .inl (fun i => nI ((N 3) i)))) := hM.2 3 (by decide) (by decide)
  have m4 : w (b + 18) = some (.inl (cI, 24, .inl (fun i => nI ((N 4) i)))) := hM.2 4 (by decide) (by decide)
  have m5 : w (b + 19) = some (.inl (cI, 24, .inl (S 5))) := hM.2 5 (by decide) (by decide)
  have m6 : w (b + 20) = some (.inl (cI, 24, .inl (S 6))) := hM.2 6 (by decide) (by decide)
  have m7 : w (b + 21) = some (.inl (cI, 72, .inl (fun i => nI ((N 7) i)))) := hM.2 7 (by decide) (by decide)
  have m8 : w (b + 22) = some (.inl (cI, 24, .inl (fun i => nI ((N 8) i)))) := hM.2 8 (by decide) (by decide)
  have m9 : w (b + 23) = some (.inl (cI, 24, .inl (fun i => nI ((N 9) i)))) := hM.2 9 (by decide) (by decide)
  have m10 : w (b + 24) = some (.inl (cI, 24, .inl (fun i => nI ((N 10) i)))) := hM.2 10 (by decide) (by decide)
  have m11 : w (b + 25) = some (.inl (cI, 24, .inl (S 11))) := hM.2 11 (by decide) (by decide)
  have m12 : w (b + 26) = some (.inl (cI, 24, .inl (S 12))) := hM.2 12 (by decide) (by decide)
  have m13 : w (b + 27) = some (.inl (cZ, 24, .inl (fun i => nI ((N 13) i)))) := hM.2 13 (by decide) (by decide)
  have m14 : w (b + 28) = some (.inl (cI, 256, .inl (fun i => nI ((N 14) i)))) := hM.2 14 (by decide) (by decide)
  have m15 : w (b + 29) = some (.inl (cI, 24, .inl (fun i => nI ((N 15) i)))) := hM.2 15 (by decide) (by decide)
  have m16 : w (b + 30) = some (.inl (cI, 5, .inl (fun i => nI ((N 19) i)))) := hM.2 16 (by decide) (by decide)
  refine lv_aload_n hx hb d_Mod_isPermission_0 rfl (lv_at hl 0 rfl) ?_
  refine lv_iload_n hx hb d_Mod_isPermission_1 rfl (lv_at hl 1 rfl) ?_
  refine vp_callSi (va_Run.run (va_runV (As := [.int nr]) (rest := []) ⟨hx, hb, hml, hown, hts⟩ (c_Mod_isThere l (b := b) (N := N) (S := S) hM (by omega) hR) (cwV 1 hts (gW_in (hd := [_, _, _, _, _]) (kk_5 wd_601 wd_603 sl_Mod_isThere wd_8 cw_Mod_isThere)) rfl rfl rfl ⟨rfl, ds_Mod_isThere⟩ ⟨Nat.le_of_ble_eq_true rfl, Nat.le_of_ble_eq_true rfl⟩) (kk_preV hK hP hz hBz m0 rfl) rfl rfl hl.1 rfl (lv_room (Nat.le_of_ble_eq_true rfl)) d_Mod_isPermission_2 ⟨Nat.le_of_ble_eq_true rfl, Nat.le_of_ble_eq_true rfl⟩)) (fun r1 hr1 => ?_)
  subst hr1
  refine lv_if_eq (tgt := 21) hx hb d_Mod_isPermission_5 (by decide) (fun cc2 => ?_) (fun cc2 => ?_)
  · have cc2 := kk_b0 cc2
    refine lv_iconst (v := nI 0) hx hb d_Mod_isPermission_21 (by decide) ?_
    exact W.zret hx hb hr rfl (fun t ht hW => ⟨_, rfl, kk_iff (fun q => cc2 q.1), ht⟩) (fun q hq => by cases hq) d_Mod_isPermission_22
  · have cc2 := kk_b1 cc2
    obtain ⟨j, hj, rfl⟩ := re_in hn cc2.1
    have hRj := hR j hj
    refine lv_aload_n hx hb d_Mod_isPermission_8 rfl (lv_at hl 0 rfl) ?_
    refine mm_get (D := D) (C := n_Mod) (T := T_Mod) (N := 27) (v := .ref (b + 16)) hx hb hts lay_Mod hown hK.1 hP m0 rfl 2 (by decide) (hts _ (List.mem_cons_of_mem _ wd_493)) (fun _ h9 => h9) rfl d_Mod_isPermission_9 ?_
    refine lv_iload_n hx hb d_Mod_isPermission_12 rfl (lv_at hl 1 rfl) ?_
    refine mm_zald hx hb hK.1 hP 1 m2 rfl j rfl (by omega) (by decide) d_Mod_isPermission_13 ?_
    refine W.eq (g2 := F0 m 14 ls [.int (nI ((N 2) j))]) rfl ?_
    refine lv_if_ne (tgt := 21) hx hb d_Mod_isPermission_14 (by decide) (fun cc3 => ?_) (fun cc3 => ?_)
    · rw [← nI_0] at cc3
      have cc3 : ¬ ((N 2) j = 0) := fun q => cc3 ((nI_eq (by omega) (by omega)).mpr q)
      refine lv_iconst (v := nI 0) hx hb d_Mod_isPermission_21 (by decide) ?_
      exact W.zret hx hb hr rfl (fun t ht hW => ⟨_, rfl, kk_iff (fun q => cc3 ((re_tp_in hj hn).mp q).2), ht⟩) (fun q hq => by cases hq) d_Mod_isPermission_22
    · rw [← nI_0] at cc3
      have cc3 : (N 2) j = 0 := (nI_eq (by omega) (by omega)).mp cc3
      refine lv_iconst (v := nI 1) hx hb d_Mod_isPermission_17 (by decide) ?_
      refine lv_goto (tgt := 22) hx hb d_Mod_isPermission_18 (by decide) ?_
      exact W.zret hx hb hr rfl (fun t ht hW => ⟨_, rfl, kk_ift ((re_tp_in hj hn).mpr ⟨(re_th_in hj hn).mp cc2, cc3⟩), ht⟩) (fun q hq => by cases hq) d_Mod_isPermission_22
theorem d_Mod_tag_0 : decode k_Mod_tag 0 = .ok (.aload_n 0, 1) := by decide +kernel
theorem d_Mod_tag_1 : decode k_Mod_tag 1 = .ok (.iload_n 1, 1) := by decide +kernel
theorem d_Mod_tag_2 : decode k_Mod_tag 2 = .ok (.invokevirtual 80, 3) := by decide +kernel
theorem d_Mod_tag_5 : decode k_Mod_tag 5 = .ok (.ifCond .eq 20, 3) := by decide +kernel
theorem d_Mod_tag_8 : decode k_Mod_tag 8 = .ok (.iload_n 2, 1) := by decide +kernel
theorem d_Mod_tag_9 : decode k_Mod_tag 9 = .ok (.ifCond .lt 16, 3) := by decide +kernel
theorem d_Mod_tag_12 : decode k_Mod_tag 12 = .ok (.iload_n 2, 1) := by decide +kernel
theorem d_Mod_tag_13 : decode k_Mod_tag 13 = .ok (.sipush 255, 3) := by decide +kernel
theorem d_Mod_tag_16 : decode k_Mod_tag 16 = .ok (.if_icmp .gt 9, 3) := by decide +kernel
theorem d_Mod_tag_19 : decode k_Mod_tag 19 = .ok (.iload_n 3, 1) := by decide +kernel
theorem d_Mod_tag_20 : decode k_Mod_tag 20 = .ok (.iload 4, 2) := by decide +kernel
theorem d_Mod_tag_22 : decode k_Mod_tag 22 = .ok (.if_icmp .le 5, 3) := by decide +kernel
theorem d_Mod_tag_25 : decode k_Mod_tag 25 = .ok (.iconst 0, 1) := by decide +kernel
theorem d_Mod_tag_26 : decode k_Mod_tag 26 = .ok (.ireturn, 1) := by decide +kernel
theorem d_Mod_tag_27 : decode k_Mod_tag 27 = .ok (.aload_n 0, 1) := by decide +kernel
theorem d_Mod_tag_28 : decode k_Mod_tag 28 = .ok (.getfield 38, 3) := by decide +kernel
theorem d_Mod_tag_31 : decode k_Mod_tag 31 = .ok (.iload_n 1, 1) := by decide +kernel
theorem d_Mod_tag_32 : decode k_Mod_tag 32 = .ok (.iload_n 2, 1) := by decide +kernel
theorem d_Mod_tag_33 : decode k_Mod_tag 33 = .ok (.iastore, 1) := by decide +kernel
theorem d_Mod_tag_34 : decode k_Mod_tag 34 = .ok (.aload_n 0, 1) := by decide +kernel
theorem d_Mod_tag_35 : decode k_Mod_tag 35 = .ok (.getfield 41, 3) := by decide +kernel
theorem d_Mod_tag_38 : decode k_Mod_tag 38 = .ok (.iload_n 1, 1) := by decide +kernel
theorem d_Mod_tag_39 : decode k_Mod_tag 39 = .ok (.iload_n 3, 1) := by decide +kernel
theorem d_Mod_tag_40 : decode k_Mod_tag 40 = .ok (.iastore, 1) := by decide +kernel
theorem d_Mod_tag_41 : decode k_Mod_tag 41 = .ok (.aload_n 0, 1) := by decide +kernel
theorem d_Mod_tag_42 : decode k_Mod_tag 42 = .ok (.getfield 44, 3) := by decide +kernel
theorem d_Mod_tag_45 : decode k_Mod_tag 45 = .ok (.iload_n 1, 1) := by decide +kernel
theorem d_Mod_tag_46 : decode k_Mod_tag 46 = .ok (.iload 4, 2) := by decide +kernel
theorem d_Mod_tag_48 : decode k_Mod_tag 48 = .ok (.iastore, 1) := by decide +kernel
theorem d_Mod_tag_49 : decode k_Mod_tag 49 = .ok (.iconst 1, 1) := by decide +kernel
theorem d_Mod_tag_50 : decode k_Mod_tag 50 = .ok (.ireturn, 1) := by decide +kernel
set_option maxHeartbeats 4000000 in
set_option maxRecDepth 100000 in
theorem c_Mod_tag (l : Launch) {B : Nat} {D : va_G} {cI cZ cQ : ClassId} {w : mm_M} {sz : Nat} {b : Nat} {N : Nat → Nat → Nat} {S : Nat → Nat → Int32} {nr oo lo hi : Int32} (hM : mo_I b cI cZ N S w) (hn : N 0 0 ≤ 24) (hR : rg_I N) : Met l y_Mod_tag ws_Mod_tag (kk_rm 2 0 0) (kk_Pc B D cI cZ cQ [.ref (b + 14), .int nr, .int oo, .int lo, .int hi] w sz) (kk_Qi B D (fun r w' sz' => r = nI (if tg_ok N nr oo lo hi then 1 else 0) ∧ mo_I b cI cZ (tg_N N nr oo lo hi) (tg_S N S nr oo lo hi) w' ∧ (∀ j, ¬ (b + 14 ≤ j ∧ j < b + 31) → w' j = w j) ∧ sz' = sz)) 0 0 (fun q => B ≤ q) := by
  refine Met.ofW (cc := k_Mod_tag) (maxL := 5) (ret := (some .boolean)) (by decide) rfl ?_
  intro p e s m args below meth c s₁ BB hml hv
  obtain ⟨rfl, hK, hP, hz, hBz⟩ := hv
  have hx := BB.exec
  have hb := BB.bytes
  have hr := BB.returns
  have hts := atoms_spec (ws := ws_Mod_tag) BB.pre
  have hown : s.vm.findClass "DelegationClosureModel" = some m.cls := findClass_of_methodNamed BB.named
  have hlocks := BB.notSynchronized
  have hS : mm_S B s.heap s.heap [] := va_S.rf
  have hl := lv_entry ([.ref (b + 14), .int nr, .int oo, .int lo, .int hi]) (n := 5) (Nat.le_of_ble_eq_true rfl)
  rw [lg_entry_eq]
  generalize (lg_sl ([.ref (b + 14), .int nr, .int oo, .int lo, .int hi]) ++ List.replicate (5 - (lg_sl ([.ref (b + 14), .int nr, .int oo, .int lo, .int hi])).length) Slot.unset).toArray = ls at hl ⊢
  have hl : lv_has ls 5 [(0, .ref (b + 14)), (1, .int nr), (2, .int oo), (3, .int lo), (4, .int hi)] := hl
  have m0 : w (b + 14) = some (.inr (9, [.int (nI (N 0 0)), .ref (b + 15), .ref (b + 16), .ref (b + 17), .ref (b + 18), .ref (b + 19), .ref (b + 20), .ref (b + 21), .ref (b + 22), .ref (b + 23), .ref (b + 24), .ref (b + 25), .ref (b + 26), .ref (b + 27), .ref (b + 28), .ref (b + 29), .int (nI (N 16 0)), .int (nI (N 17 0)), .int (nI (N 18 0)), .ref (b + 30), .int (nI (N 20 0)), .int (S 21 0), .int (S 22 0), .int (S 23 0), .int (S 24 0), .int (nI (N 25 0)), .int (nI (N 26 0))])) := hM.1
  have m1 : w (b + 15) = some (.inl (cZ, 24, .inl (fun i => nI ((N 1) i)))) := hM.2 1 (by decide) (by decide)
  have m2 : w (b + 16) = some (.inl (cZ, 24, .inl (fun i => nI ((N 2) i)))) := hM.2 2 (by decide) (by decide)
  have m3 : w (b + 17) = some (.inl (cI, 24, .inl (fun i => nI ((N 3) i)))) := hM.2 3 (by decide) (by decide)
  have m4 : w (b + 18) = some (.inl (cI, 24, .inl (fun i => nI ((N 4) i)))) := hM.2 4 (by decide) (by decide)
  have m5 : w (b + 19) = some (.inl (cI, 24, .inl (S 5))) := hM.2 5 (by decide) (by decide)
  have m6 : w (b + 20) = some (.inl (cI, 24, .inl (S 6))) := hM.2 6 (by decide) (by decide)
  have m7 : w (b + 21) = some (.inl (cI, 72, .inl (fun i => nI ((N 7) i)))) := hM.2 7 (by decide) (by decide)
  have m8 : w (b + 22) = some (.inl (cI, 24, .inl (fun i => nI ((N 8) i)))) := hM.2 8 (by decide) (by decide)
  have m9 : w (b + 23) = some (.inl (cI, 24, .inl (fun i => nI ((N 9) i)))) := hM.2 9 (by decide) (by decide)
  have m10 : w (b + 24) = some (.inl (cI, 24, .inl (fun i => nI ((N 10) i)))) := hM.2 10 (by decide) (by decide)
  have m11 : w (b + 25) = some (.inl (cI, 24, .inl (S 11))) := hM.2 11 (by decide) (by decide)
  have m12 : w (b + 26) = some (.inl (cI, 24, .inl (S 12))) := hM.2 12 (by decide) (by decide)
  have m13 : w (b + 27) = some (.inl (cZ, 24, .inl (fun i => nI ((N 13) i)))) := hM.2 13 (by decide) (by decide)
  have m14 : w (b + 28) = some (.inl (cI, 256, .inl (fun i => nI ((N 14) i)))) := hM.2 14 (by decide) (by decide)
  have m15 : w (b + 29) = some (.inl (cI, 24, .inl (fun i => nI ((N 15) i)))) := hM.2 15 (by decide) (by decide)
  have m16 : w (b + 30) = some (.inl (cI, 5, .inl (fun i => nI ((N 19) i)))) := hM.2 16 (by decide) (by decide)
  by_cases hok : tg_ok N nr oo lo hi
  · obtain ⟨o9, ho9, rfl⟩ := kk_lim_of hok.2.1 (by omega)
    refine lv_aload_n hx hb d_Mod_tag_0 rfl (lv_at hl 0 rfl) ?_
    refine lv_iload_n hx hb d_Mod_tag_1 rfl (lv_at hl 1 rfl) ?_
    refine vp_callSi (va_Run.run (va_runV (As := [.int nr]) (rest := []) ⟨hx, hb, hml, hown, hts⟩ (c_Mod_isPermission l (b := b) (N := N) (S := S) hM (by omega) hR) (cwV 1 hts (gW_in (hd := [_, _, _, _, _]) (kk_5 wd_597 wd_599 sl_Mod_isPermission wd_8 cw_Mod_isPermission)) rfl rfl rfl ⟨rfl, ds_Mod_isPermission⟩ ⟨Nat.le_of_ble_eq_true rfl, Nat.le_of_ble_eq_true rfl⟩) (kk_preV hK hP hz hBz m0 rfl) rfl rfl hl.1 rfl (lv_room (Nat.le_of_ble_eq_true rfl)) d_Mod_tag_2 ⟨Nat.le_of_ble_eq_true rfl, Nat.le_of_ble_eq_true rfl⟩)) (fun r1 hr1 => ?_)
    subst hr1
    refine lv_if_eq (tgt := 25) hx hb d_Mod_tag_5 (by decide) (fun cc2 => ?_) (fun cc2 => ?_)
    · have cc2 := kk_b0 cc2
      exact absurd hok.1 cc2
    · have cc2 := kk_b1 cc2
      obtain ⟨j, hj, rfl⟩ := re_in hn cc2.1.1
      have hRj := hR j hj
      refine lv_iload_n hx hb d_Mod_tag_8 rfl (lv_at hl 2 rfl) ?_
      refine lv_if_lt (tgt := 25) hx hb d_Mod_tag_9 (by decide) (fun cc3 => ?_) (fun cc3 => ?_)
      · rw [← nI_0] at cc3
        have cc3 : o9 < 0 := (nI_ltI (by omega) (by omega)).mp cc3
        exact absurd cc3 (by omega)
      · rw [← nI_0] at cc3
        have cc3 : ¬ (o9 < 0) := fun q => cc3 ((nI_ltI (by omega) (by omega)).mpr q)
        refine lv_iload_n hx hb d_Mod_tag_12 rfl (lv_at hl 2 rfl) ?_
        refine lv_sipush (v := nI 255) hx hb d_Mod_tag_13 (by decide) ?_
        refine lv_icmp_gt (tgt := 25) hx hb d_Mod_tag_16 (by decide) (fun cc4 => ?_) (fun cc4 => ?_)
        · have cc4 : 255 < o9 := (nI_ltI (by omega) (by omega)).mp cc4
          exact absurd cc4 (by omega)
        · have cc4 : ¬ (255 < o9) := fun q => cc4 ((nI_ltI (by omega) (by omega)).mpr q)
          refine lv_iload_n hx hb d_Mod_tag_19 rfl (lv_at hl 3 rfl) ?_
          refine lv_iload hx hb d_Mod_tag_20 (lv_at hl 4 rfl) ?_
          refine lv_icmp_le (tgt := 27) hx hb d_Mod_tag_22 (by decide) (fun cc5 => ?_) (fun cc5 => ?_)
          · refine lv_aload_n hx hb d_Mod_tag_27 rfl (lv_at hl 0 rfl) ?_
            refine mm_get (D := D) (C := n_Mod) (T := T_Mod) (N := 27) (v := .ref (b + 24)) hx hb hts lay_Mod hown hK.1 hP m0 rfl 10 (by decide) (hts _ (List.mem_cons_of_mem _ wd_501)) (fun _ h9 => h9) rfl d_Mod_tag_28 ?_
            refine lv_iload_n hx hb d_Mod_tag_31 rfl (lv_at hl 1 rfl) ?_
            refine lv_iload_n hx hb d_Mod_tag_32 rfl (lv_at hl 2 rfl) ?_
            refine mm_iast hx hb hK.1 hP hS 0 m10 rfl j rfl (by omega) (by decide) d_Mod_tag_33 (fun H locs hP hz1 hS => ?_)
            rw [show upd (fun i => nI ((N 10) i)) j (nI o9) = fun i => nI ((va_up (N 10) j o9) i) from kk_upn _ _ _] at hP
            have hz : H.size = sz := hz1.trans hz
            obtain ⟨w6, hw6⟩ : ∃ z : mm_M, z = mm_up w (b + 24) (.inl (cI, 24, .inl (fun i => nI ((va_up (N 10) j o9) i)))) := ⟨_, rfl⟩
            have hP : mm_P B D kc w6 H := by rw [hw6]; exact hP
            have fr6 : ∀ j, j ≠ b + 24 → w6 j = w j := fun j h9 => by rw [hw6]; exact mm_un h9
            have fa6 : w6 (b + 24) = some (.inl (cI, 24, .inl (fun i => nI ((va_up (N 10) j o9) i)))) := by rw [hw6]; exact mm_us _ _ _
            refine lv_aload_n hx hb d_Mod_tag_34 rfl (lv_at hl 0 rfl) ?_
            have f7 := (fr6 _ (by omega)).trans (m0)
            refine mm_get (D := D) (C := n_Mod) (T := T_Mod) (N := 27) (v := .ref (b + 25)) hx hb hts lay_Mod hown hK.1 hP f7 rfl 11 (by decide) (hts _ (List.mem_cons_of_mem _ wd_502)) (fun _ h9 => h9) rfl d_Mod_tag_35 ?_
            refine lv_iload_n hx hb d_Mod_tag_38 rfl (lv_at hl 1 rfl) ?_
            refine lv_iload_n hx hb d_Mod_tag_39 rfl (lv_at hl 3 rfl) ?_
            have f8 := (fr6 _ (by omega)).trans (m11)
            refine mm_iast hx hb hK.1 hP hS 0 f8 rfl j rfl (by omega) (by decide) d_Mod_tag_40 (fun H locs hP hz1 hS => ?_)
            have hz : H.size = sz := hz1.trans hz
            obtain ⟨w9, hw9⟩ : ∃ z : mm_M, z = mm_up w6 (b + 25) (.inl (cI, 24, .inl (upd (S 11) j lo))) := ⟨_, rfl⟩
            have hP : mm_P B D kc w9 H := by rw [hw9]; exact hP
            have fr9 : ∀ j, j ≠ b + 25 → w9 j = w6 j := fun j h9 => by rw [hw9]; exact mm_un h9
            have fa9 : w9 (b + 25) = some (.inl (cI, 24, .inl (upd (S 11) j lo))) := by rw [hw9]; exact mm_us _ _ _
            refine lv_aload_n hx hb d_Mod_tag_41 rfl (lv_at hl 0 rfl) ?_
            have f10 := (fr9 _ (by omega)).trans (f7)
            refine mm_get (D := D) (C := n_Mod) (T := T_Mod) (N := 27) (v := .ref (b + 26)) hx hb hts lay_Mod hown hK.1 hP f10 rfl 12 (by decide) (hts _ (List.mem_cons_of_mem _ wd_503)) (fun _ h9 => h9) rfl d_Mod_tag_42 ?_
            refine lv_iload_n hx hb d_Mod_tag_45 rfl (lv_at hl 1 rfl) ?_
            refine lv_iload hx hb d_Mod_tag_46 (lv_at hl 4 rfl) ?_
            have f11 := (fr9 _ (by omega)).trans ((fr6 _ (by omega)).trans (m12))
            refine mm_iast hx hb hK.1 hP hS 0 f11 rfl j rfl (by omega) (by decide) d_Mod_tag_48 (fun H locs hP hz1 hS => ?_)
            have hz : H.size = sz := hz1.trans hz
            obtain ⟨w12, hw12⟩ : ∃ z : mm_M, z = mm_up w9 (b + 26) (.inl (cI, 24, .inl (upd (S 12) j hi))) := ⟨_, rfl⟩
            have hP : mm_P B D kc w12 H := by rw [hw12]; exact hP
            have fr12 : ∀ j, j ≠ b + 26 → w12 j = w9 j := fun j h9 => by rw [hw12]; exact mm_un h9
            have fa12 : w12 (b + 26) = some (.inl (cI, 24, .inl (upd (S 12) j hi))) := by rw [hw12]; exact mm_us _ _ _
            refine lv_iconst (v := nI 1) hx hb d_Mod_tag_49 (by decide) ?_
            exact W.zret hx hb hr rfl (fun t ht hW => ⟨⟨_, (w12, sz), rfl, ⟨kk_ift hok, (by rw [tg_N_pos (by omega) (by omega) hok, tg_S_pos (by omega) hok]; exact mo_mk ((fr12 _ (by omega)).trans (f10)) ((fr12 _ (by omega)).trans ((fr9 _ (by omega)).trans ((fr6 _ (by omega)).trans (m1)))) ((fr12 _ (by omega)).trans ((fr9 _ (by omega)).trans ((fr6 _ (by omega)).trans (m2)))) ((fr12 _ (by omega)).trans ((fr9 _ (by omega)).trans ((fr6 _ (by omega)).trans (m3)))) ((fr12 _ (by omega)).trans ((fr9 _ (by omega)).trans ((fr6 _ (by omega)).trans (m4)))) ((fr12 _ (by omega)).trans ((fr9 _ (by omega)).trans ((fr6 _ (by omega)).trans (m5)))) ((fr12 _ (by omega)).trans ((fr9 _ (by omega)).trans ((fr6 _ (by omega)).trans (m6)))) ((fr12 _ (by omega)).trans ((fr9 _ (by omega)).trans ((fr6 _ (by omega)).trans (m7)))) ((fr12 _ (by omega)).trans ((fr9 _ (by omega)).trans ((fr6 _ (by omega)).trans (m8)))) ((fr12 _ (by omega)).trans ((fr9 _ (by omega)).trans ((fr6 _ (by omega)).trans (m9)))) ((fr12 _ (by omega)).trans ((fr9 _ (by omega)).trans (fa6))) ((fr12 _ (by omega)).trans (fa9)) fa12 ((fr12 _ (by omega)).trans ((fr9 _ (by omega)).trans ((fr6 _ (by omega)).trans (m13)))) ((fr12 _ (by omega)).trans ((fr9 _ (by omega)).trans ((fr6 _ (by omega)).trans (m14)))) ((fr12 _ (by omega)).trans ((fr9 _ (by omega)).trans ((fr6 _ (by omega)).trans (m15)))) ((fr12 _ (by omega)).trans ((fr9 _ (by omega)).trans ((fr6 _ (by omega)).trans (m16))))), (fun j hj => (fr12 j (by omega)).trans ((fr9 j (by omega)).trans (fr6 j (by omega)))), rfl⟩, by rw [ht]; exact hP, by rw [ht]; exact hz⟩, hS.F ht⟩) hS.2.2 d_Mod_tag_50
          · exact absurd (Int32.not_lt.mp hok.2.2) cc5
  · refine lv_aload_n hx hb d_Mod_tag_0 rfl (lv_at hl 0 rfl) ?_
    refine lv_iload_n hx hb d_Mod_tag_1 rfl (lv_at hl 1 rfl) ?_
    refine vp_callSi (va_Run.run (va_runV (As := [.int nr]) (rest := []) ⟨hx, hb, hml, hown, hts⟩ (c_Mod_isPermission l (b := b) (N := N) (S := S) hM (by omega) hR) (cwV 1 hts (gW_in (hd := [_, _, _, _, _]) (kk_5 wd_597 wd_599 sl_Mod_isPermission wd_8 cw_Mod_isPermission)) rfl rfl rfl ⟨rfl, ds_Mod_isPermission⟩ ⟨Nat.le_of_ble_eq_true rfl, Nat.le_of_ble_eq_true rfl⟩) (kk_preV hK hP hz hBz m0 rfl) rfl rfl hl.1 rfl (lv_room (Nat.le_of_ble_eq_true rfl)) d_Mod_tag_2 ⟨Nat.le_of_ble_eq_true rfl, Nat.le_of_ble_eq_true rfl⟩)) (fun r13 hr13 => ?_)
    subst hr13
    refine lv_if_eq (tgt := 25) hx hb d_Mod_tag_5 (by decide) (fun cc14 => ?_) (fun cc14 => ?_)
    · have cc14 := kk_b0 cc14
      refine lv_iconst (v := nI 0) hx hb d_Mod_tag_25 (by decide) ?_
      exact W.zret hx hb hr rfl (fun t ht hW => ⟨⟨_, (w, sz), rfl, ⟨kk_iff hok, (by rw [show tg_N N _ _ _ _ = N from if_neg hok, show tg_S N S _ _ _ _ = S from if_neg hok]; exact mo_mk m0 m1 m2 m3 m4 m5 m6 m7 m8 m9 m10 m11 m12 m13 m14 m15 m16), (fun j hj => rfl), rfl⟩, by rw [ht]; exact hP, by rw [ht]; exact hz⟩, hS.F ht⟩) hS.2.2 d_Mod_tag_26
    · have cc14 := kk_b1 cc14
      obtain ⟨j, hj, rfl⟩ := re_in hn cc14.1.1
      have hRj := hR j hj
      refine lv_iload_n hx hb d_Mod_tag_8 rfl (lv_at hl 2 rfl) ?_
      refine lv_if_lt (tgt := 25) hx hb d_Mod_tag_9 (by decide) (fun cc15 => ?_) (fun cc15 => ?_)
      · refine lv_iconst (v := nI 0) hx hb d_Mod_tag_25 (by decide) ?_
        exact W.zret hx hb hr rfl (fun t ht hW => ⟨⟨_, (w, sz), rfl, ⟨kk_iff hok, (by rw [show tg_N N _ _ _ _ = N from if_neg hok, show tg_S N S _ _ _ _ = S from if_neg hok]; exact mo_mk m0 m1 m2 m3 m4 m5 m6 m7 m8 m9 m10 m11 m12 m13 m14 m15 m16), (fun j hj => rfl), rfl⟩, by rw [ht]; exact hP, by rw [ht]; exact hz⟩, hS.F ht⟩) hS.2.2 d_Mod_tag_26
      · refine lv_iload_n hx hb d_Mod_tag_12 rfl (lv_at hl 2 rfl) ?_
        refine lv_sipush (v := nI 255) hx hb d_Mod_tag_13 (by decide) ?_
        refine lv_icmp_gt (tgt := 25) hx hb d_Mod_tag_16 (by decide) (fun cc16 => ?_) (fun cc16 => ?_)
        · refine lv_iconst (v := nI 0) hx hb d_Mod_tag_25 (by decide) ?_
          exact W.zret hx hb hr rfl (fun t ht hW => ⟨⟨_, (w, sz), rfl, ⟨kk_iff hok, (by rw [show tg_N N _ _ _ _ = N from if_neg hok, show tg_S N S _ _ _ _ = S from if_neg hok]; exact mo_mk m0 m1 m2 m3 m4 m5 m6 m7 m8 m9 m10 m11 m12 m13 m14 m15 m16), (fun j hj => rfl), rfl⟩, by rw [ht]; exact hP, by rw [ht]; exact hz⟩, hS.F ht⟩) hS.2.2 d_Mod_tag_26
        · refine lv_iload_n hx hb d_Mod_tag_19 rfl (lv_at hl 3 rfl) ?_
          refine lv_iload hx hb d_Mod_tag_20 (lv_at hl 4 rfl) ?_
          refine lv_icmp_le (tgt := 27) hx hb d_Mod_tag_22 (by decide) (fun cc17 => ?_) (fun cc17 => ?_)
          · exact absurd ⟨cc14, ⟨cc15, fun q => cc16 ((kk_gtm 255 256 rfl (by decide)).mpr q)⟩, Int32.not_lt.mpr cc17⟩ hok
          · refine lv_iconst (v := nI 0) hx hb d_Mod_tag_25 (by decide) ?_
            exact W.zret hx hb hr rfl (fun t ht hW => ⟨⟨_, (w, sz), rfl, ⟨kk_iff hok, (by rw [show tg_N N _ _ _ _ = N from if_neg hok, show tg_S N S _ _ _ _ = S from if_neg hok]; exact mo_mk m0 m1 m2 m3 m4 m5 m6 m7 m8 m9 m10 m11 m12 m13 m14 m15 m16), (fun j hj => rfl), rfl⟩, by rw [ht]; exact hP, by rw [ht]; exact hz⟩, hS.F ht⟩) hS.2.2 d_Mod_tag_26
theorem d_Mod_also_0 : decode k_Mod_also 0 = .ok (.aload_n 0, 1) := by decide +kernel
theorem d_Mod_also_1 : decode k_Mod_also 1 = .ok (.iload_n 1, 1) := by decide +kernel
theorem d_Mod_also_2 : decode k_Mod_also 2 = .ok (.invokevirtual 80, 3) := by decide +kernel
theorem d_Mod_also_5 : decode k_Mod_also 5 = .ok (.ifCond .eq 20, 3) := by decide +kernel
theorem d_Mod_also_8 : decode k_Mod_also 8 = .ok (.iload_n 2, 1) := by decide +kernel
theorem d_Mod_also_9 : decode k_Mod_also 9 = .ok (.invokestatic 69, 3) := by decide +kernel
theorem d_Mod_also_12 : decode k_Mod_also 12 = .ok (.ifCond .eq 13, 3) := by decide +kernel
theorem d_Mod_also_15 : decode k_Mod_also 15 = .ok (.aload_n 0, 1) := by decide +kernel
theorem d_Mod_also_16 : decode k_Mod_also 16 = .ok (.getfield 32, 3) := by decide +kernel
theorem d_Mod_also_19 : decode k_Mod_also 19 = .ok (.iload_n 1, 1) := by decide +kernel
theorem d_Mod_also_20 : decode k_Mod_also 20 = .ok (.iaload, 1) := by decide +kernel
theorem d_Mod_also_21 : decode k_Mod_also 21 = .ok (.iconst 3, 1) := by decide +kernel
theorem d_Mod_also_22 : decode k_Mod_also 22 = .ok (.if_icmp .ne 5, 3) := by decide +kernel
theorem d_Mod_also_25 : decode k_Mod_also 25 = .ok (.iconst (-1), 1) := by decide +kernel
theorem d_Mod_also_26 : decode k_Mod_also 26 = .ok (.ireturn, 1) := by decide +kernel
theorem d_Mod_also_27 : decode k_Mod_also 27 = .ok (.aload_n 0, 1) := by decide +kernel
theorem d_Mod_also_28 : decode k_Mod_also 28 = .ok (.getfield 29, 3) := by decide +kernel
theorem d_Mod_also_31 : decode k_Mod_also 31 = .ok (.iconst 3, 1) := by decide +kernel
theorem d_Mod_also_32 : decode k_Mod_also 32 = .ok (.iload_n 1, 1) := by decide +kernel
theorem d_Mod_also_33 : decode k_Mod_also 33 = .ok (.imul, 1) := by decide +kernel
theorem d_Mod_also_34 : decode k_Mod_also 34 = .ok (.aload_n 0, 1) := by decide +kernel
theorem d_Mod_also_35 : decode k_Mod_also 35 = .ok (.getfield 32, 3) := by decide +kernel
theorem d_Mod_also_38 : decode k_Mod_also 38 = .ok (.iload_n 1, 1) := by decide +kernel
theorem d_Mod_also_39 : decode k_Mod_also 39 = .ok (.iaload, 1) := by decide +kernel
theorem d_Mod_also_40 : decode k_Mod_also 40 = .ok (.iadd, 1) := by decide +kernel
theorem d_Mod_also_41 : decode k_Mod_also 41 = .ok (.iload_n 2, 1) := by decide +kernel
theorem d_Mod_also_42 : decode k_Mod_also 42 = .ok (.iastore, 1) := by decide +kernel
theorem d_Mod_also_43 : decode k_Mod_also 43 = .ok (.aload_n 0, 1) := by decide +kernel
theorem d_Mod_also_44 : decode k_Mod_also 44 = .ok (.getfield 32, 3) := by decide +kernel
theorem d_Mod_also_47 : decode k_Mod_also 47 = .ok (.iload_n 1, 1) := by decide +kernel
theorem d_Mod_also_48 : decode k_Mod_also 48 = .ok (.dup2, 1) := by decide +kernel
theorem d_Mod_also_49 : decode k_Mod_also 49 = .ok (.iaload, 1) := by decide +kernel
theorem d_Mod_also_50 : decode k_Mod_also 50 = .ok (.iconst 1, 1) := by decide +kernel
theorem d_Mod_also_51 : decode k_Mod_also 51 = .ok (.iadd, 1) := by decide +kernel
theorem d_Mod_also_52 : decode k_Mod_also 52 = .ok (.iastore, 1) := by decide +kernel
theorem d_Mod_also_53 : decode k_Mod_also 53 = .ok (.aload_n 0, 1) := by decide +kernel
theorem d_Mod_also_54 : decode k_Mod_also 54 = .ok (.getfield 32, 3) := by decide +kernel
theorem d_Mod_also_57 : decode k_Mod_also 57 = .ok (.iload_n 1, 1) := by decide +kernel
theorem d_Mod_also_58 : decode k_Mod_also 58 = .ok (.iaload, 1) := by decide +kernel
theorem d_Mod_also_59 : decode k_Mod_also 59 = .ok (.ireturn, 1) := by decide +kernel
set_option maxHeartbeats 4000000 in
set_option maxRecDepth 100000 in
theorem c_Mod_also (l : Launch) {B : Nat} {D : va_G} {cI cZ cQ : ClassId} {w : mm_M} {sz : Nat} {b : Nat} {N : Nat → Nat → Nat} {S : Nat → Nat → Int32} {nr sr : Int32} (hM : mo_I b cI cZ N S w) (hn : N 0 0 ≤ 24) (hR : rg_I N) : Met l y_Mod_also ws_Mod_also (kk_rm 2 0 0) (kk_Pc B D cI cZ cQ [.ref (b + 14), .int nr, .int sr] w sz) (kk_Qi B D (fun r w' sz' => r = (if al_ok N nr sr then nI (N 8 (nr).toNatClampNeg + 1) else -1) ∧ mo_I b cI cZ (al_N N nr sr) S w' ∧ (∀ j, ¬ (b + 14 ≤ j ∧ j < b + 31) → w' j = w j) ∧ sz' = sz)) 0 0 (fun q => B ≤ q) := by
  refine Met.ofW (cc := k_Mod_also) (maxL := 3) (ret := (some .int)) (by decide) rfl ?_
  intro p e s m args below meth c s₁ BB hml hv
  obtain ⟨rfl, hK, hP, hz, hBz⟩ := hv
  have hx := BB.exec
  have hb := BB.bytes
  have hr := BB.returns
  have hts := atoms_spec (ws := ws_Mod_also) BB.pre
  have hown : s.vm.findClass "DelegationClosureModel" = some m.cls := findClass_of_methodNamed BB.named
  have hlocks := BB.notSynchronized
  have hS : mm_S B s.heap s.heap [] := va_S.rf
  have hl := lv_entry ([.ref (b + 14), .int nr, .int sr]) (n := 3) (Nat.le_of_ble_eq_true rfl)
  rw [lg_entry_eq]
  generalize (lg_sl ([.ref (b + 14), .int nr, .int sr]) ++ List.replicate (3 - (lg_sl ([.ref (b + 14), .int nr, .int sr])).length) Slot.unset).toArray = ls at hl ⊢
  have hl : lv_has ls 3 [(0, .ref (b + 14)), (1, .int nr), (2, .int sr)] := hl
  have m0 : w (b + 14) = some (.inr (9, [.int (nI (N 0 0)), .ref (b + 15), .ref (b + 16), .ref (b + 17), .ref (b + 18), .ref (b + 19), .ref (b + 20), .ref (b + 21), .ref (b + 22), .ref (b + 23), .ref (b + 24), .ref (b + 25), .ref (b + 26), .ref (b + 27), .ref (b + 28), .ref (b + 29), .int (nI (N 16 0)), .int (nI (N 17 0)), .int (nI (N 18 0)), .ref (b + 30), .int (nI (N 20 0)), .int (S 21 0), .int (S 22 0), .int (S 23 0), .int (S 24 0), .int (nI (N 25 0)), .int (nI (N 26 0))])) := hM.1
  have m1 : w (b + 15) = some (.inl (cZ, 24, .inl (fun i => nI ((N 1) i)))) := hM.2 1 (by decide) (by decide)
  have m2 : w (b + 16) = some (.inl (cZ, 24, .inl (fun i => nI ((N 2) i)))) := hM.2 2 (by decide) (by decide)
  have m3 : w (b + 17) = some (.inl (cI, 24, .inl (fun i => nI ((N 3) i)))) := hM.2 3 (by decide) (by decide)
  have m4 : w (b + 18) = some (.inl (cI, 24, .inl (fun i => nI ((N 4) i)))) := hM.2 4 (by decide) (by decide)
  have m5 : w (b + 19) = some (.inl (cI, 24, .inl (S 5))) := hM.2 5 (by decide) (by decide)
  have m6 : w (b + 20) = some (.inl (cI, 24, .inl (S 6))) := hM.2 6 (by decide) (by decide)
  have m7 : w (b + 21) = some (.inl (cI, 72, .inl (fun i => nI ((N 7) i)))) := hM.2 7 (by decide) (by decide)
  have m8 : w (b + 22) = some (.inl (cI, 24, .inl (fun i => nI ((N 8) i)))) := hM.2 8 (by decide) (by decide)
  have m9 : w (b + 23) = some (.inl (cI, 24, .inl (fun i => nI ((N 9) i)))) := hM.2 9 (by decide) (by decide)
  have m10 : w (b + 24) = some (.inl (cI, 24, .inl (fun i => nI ((N 10) i)))) := hM.2 10 (by decide) (by decide)
  have m11 : w (b + 25) = some (.inl (cI, 24, .inl (S 11))) := hM.2 11 (by decide) (by decide)
  have m12 : w (b + 26) = some (.inl (cI, 24, .inl (S 12))) := hM.2 12 (by decide) (by decide)
  have m13 : w (b + 27) = some (.inl (cZ, 24, .inl (fun i => nI ((N 13) i)))) := hM.2 13 (by decide) (by decide)
  have m14 : w (b + 28) = some (.inl (cI, 256, .inl (fun i => nI ((N 14) i)))) := hM.2 14 (by decide) (by decide)
  have m15 : w (b + 29) = some (.inl (cI, 24, .inl (fun i => nI ((N 15) i)))) := hM.2 15 (by decide) (by decide)
  have m16 : w (b + 30) = some (.inl (cI, 5, .inl (fun i => nI ((N 19) i)))) := hM.2 16 (by decide) (by decide)
  by_cases hok : al_ok N nr sr
  · obtain ⟨s9, rfl, hs9⟩ := wf_sub_of hok.2.1
    refine lv_aload_n hx hb d_Mod_also_0 rfl (lv_at hl 0 rfl) ?_
    refine lv_iload_n hx hb d_Mod_also_1 rfl (lv_at hl 1 rfl) ?_
    refine vp_callSi (va_Run.run (va_runV (As := [.int nr]) (rest := []) ⟨hx, hb, hml, hown, hts⟩ (c_Mod_isPermission l (b := b) (N := N) (S := S) hM (by omega) hR) (cwV 1 hts (gW_in (hd := [_, _, _, _, _]) (kk_5 wd_597 wd_599 sl_Mod_isPermission wd_8 cw_Mod_isPermission)) rfl rfl rfl ⟨rfl, ds_Mod_isPermission⟩ ⟨Nat.le_of_ble_eq_true rfl, Nat.le_of_ble_eq_true rfl⟩) (kk_preV hK hP hz hBz m0 rfl) rfl rfl hl.1 rfl (lv_room (Nat.le_of_ble_eq_true rfl)) d_Mod_also_2 ⟨Nat.le_of_ble_eq_true rfl, Nat.le_of_ble_eq_true rfl⟩)) (fun r1 hr1 => ?_)
    subst hr1
    refine lv_if_eq (tgt := 25) hx hb d_Mod_also_5 (by decide) (fun cc2 => ?_) (fun cc2 => ?_)
    · have cc2 := kk_b0 cc2
      exact absurd hok.1 cc2
    · have cc2 := kk_b1 cc2
      obtain ⟨j, hj, rfl⟩ := re_in hn cc2.1.1
      have hRj := hR j hj
      refine lv_iload_n hx hb d_Mod_also_8 rfl (lv_at hl 2 rfl) ?_
      refine vp_callSi (va_Run.run (va_runS (As := [.int (nI s9)]) (rest := []) ⟨hx, hb, hml, hown, hts⟩ (c_Mod_isSubject l ) (va_cwS 1 hts (gW_in (hd := [_, _, _, _]) (kk_4 wd_577 wd_578 wd_8 cw_Mod_isSubject)) rfl rfl rfl ds_Mod_isSubject ⟨Nat.le_of_ble_eq_true rfl, Nat.le_of_ble_eq_true rfl⟩) (kk_preS hK hP hz hBz) rfl rfl hl.1 rfl (lv_room (Nat.le_of_ble_eq_true rfl)) d_Mod_also_9 ⟨Nat.le_of_ble_eq_true rfl, Nat.le_of_ble_eq_true rfl⟩)) (fun r3 hr3 => ?_)
      subst hr3
      refine lv_if_eq (tgt := 25) hx hb d_Mod_also_12 (by decide) (fun cc4 => ?_) (fun cc4 => ?_)
      · have cc4 := kk_b0 cc4
        exact absurd hok.2.1 cc4
      · have cc4 := kk_b1 cc4
        refine lv_aload_n hx hb d_Mod_also_15 rfl (lv_at hl 0 rfl) ?_
        refine mm_get (D := D) (C := n_Mod) (T := T_Mod) (N := 27) (v := .ref (b + 22)) hx hb hts lay_Mod hown hK.1 hP m0 rfl 8 (by decide) (hts _ (List.mem_cons_of_mem _ wd_499)) (fun _ h9 => h9) rfl d_Mod_also_16 ?_
        refine lv_iload_n hx hb d_Mod_also_19 rfl (lv_at hl 1 rfl) ?_
        refine mm_iald hx hb hK.1 hP 0 m8 rfl j rfl (by omega) (by decide) d_Mod_also_20 ?_
        refine W.eq (g2 := F0 m 21 ls [.int (nI ((N 8) j))]) rfl ?_
        refine lv_iconst (v := nI 3) hx hb d_Mod_also_21 (by decide) ?_
        refine lv_icmp_ne (tgt := 27) hx hb d_Mod_also_22 (by decide) (fun cc5 => ?_) (fun cc5 => ?_)
        · have cc5 : ¬ ((N 8) j = 3) := fun q => cc5 ((nI_eq (by omega) (by omega)).mpr q)
          refine lv_aload_n hx hb d_Mod_also_27 rfl (lv_at hl 0 rfl) ?_
          refine mm_get (D := D) (C := n_Mod) (T := T_Mod) (N := 27) (v := .ref (b + 21)) hx hb hts lay_Mod hown hK.1 hP m0 rfl 7 (by decide) (hts _ (List.mem_cons_of_mem _ wd_498)) (fun _ h9 => h9) rfl d_Mod_also_28 ?_
          refine lv_iconst (v := nI 3) hx hb d_Mod_also_31 (by decide) ?_
          refine lv_iload_n hx hb d_Mod_also_32 rfl (lv_at hl 1 rfl) ?_
          refine lv_imul hx hb d_Mod_also_33 ?_
          refine kk_top (pk_mul _ _) ?_
          refine lv_aload_n hx hb d_Mod_also_34 rfl (lv_at hl 0 rfl) ?_
          refine mm_get (D := D) (C := n_Mod) (T := T_Mod) (N := 27) (v := .ref (b + 22)) hx hb hts lay_Mod hown hK.1 hP m0 rfl 8 (by decide) (hts _ (List.mem_cons_of_mem _ wd_499)) (fun _ h9 => h9) rfl d_Mod_also_35 ?_
          refine lv_iload_n hx hb d_Mod_also_38 rfl (lv_at hl 1 rfl) ?_
          refine mm_iald hx hb hK.1 hP 0 m8 rfl j rfl (by omega) (by decide) d_Mod_also_39 ?_
          refine W.eq (g2 := F0 m 40 ls [.int (nI ((N 8) j)), .int (nI (3 * j)), .ref (b + 21)]) rfl ?_
          refine lv_iadd hx hb d_Mod_also_40 ?_
          refine kk_top (nI_add _ _) ?_
          refine lv_iload_n hx hb d_Mod_also_41 rfl (lv_at hl 2 rfl) ?_
          refine mm_iast hx hb hK.1 hP hS 0 m7 rfl ((3 * j) + ((N 8) j)) rfl (by omega) (by decide) d_Mod_also_42 (fun H locs hP hz1 hS => ?_)
          rw [show upd (fun i => nI ((N 7) i)) ((3 * j) + ((N 8) j)) (nI s9) = fun i => nI ((va_up (N 7) ((3 * j) + ((N 8) j)) s9) i) from kk_upn _ _ _] at hP
          have hz : H.size = sz := hz1.trans hz
          obtain ⟨w6, hw6⟩ : ∃ z : mm_M, z = mm_up w (b + 21) (.inl (cI, 72, .inl (fun i => nI ((va_up (N 7) ((3 * j) + ((N 8) j)) s9) i)))) := ⟨_, rfl⟩
          have hP : mm_P B D kc w6 H := by rw [hw6]; exact hP
          have fr6 : ∀ j, j ≠ b + 21 → w6 j = w j := fun j h9 => by rw [hw6]; exact mm_un h9
          have fa6 : w6 (b + 21) = some (.inl (cI, 72, .inl (fun i => nI ((va_up (N 7) ((3 * j) + ((N 8) j)) s9) i)))) := by rw [hw6]; exact mm_us _ _ _
          refine lv_aload_n hx hb d_Mod_also_43 rfl (lv_at hl 0 rfl) ?_
          have f7 := (fr6 _ (by omega)).trans (m0)
          refine mm_get (D := D) (C := n_Mod) (T := T_Mod) (N := 27) (v := .ref (b + 22)) hx hb hts lay_Mod hown hK.1 hP f7 rfl 8 (by decide) (hts _ (List.mem_cons_of_mem _ wd_499)) (fun _ h9 => h9) rfl d_Mod_also_44 ?_
          refine lv_iload_n hx hb d_Mod_also_47 rfl (lv_at hl 1 rfl) ?_
          refine lv_dup2_11 hx hb d_Mod_also_48 rfl rfl ?_
          have f8 := (fr6 _ (by omega)).trans (m8)
          refine mm_iald hx hb hK.1 hP 0 f8 rfl j rfl (by omega) (by decide) d_Mod_also_49 ?_
          refine W.eq (g2 := F0 m 50 ls [.int (nI ((N 8) j)), .int (nI j), .ref (b + 22)]) rfl ?_
          refine lv_iconst (v := nI 1) hx hb d_Mod_also_50 (by decide) ?_
          refine lv_iadd hx hb d_Mod_also_51 ?_
          refine kk_top (nI_add _ _) ?_
          refine mm_iast hx hb hK.1 hP hS 0 f8 rfl j rfl (by omega) (by decide) d_Mod_also_52 (fun H locs hP hz1 hS => ?_)
          rw [show upd (fun i => nI ((N 8) i)) j (nI (((N 8) j) + 1)) = fun i => nI ((va_up (N 8) j (((N 8) j) + 1)) i) from kk_upn _ _ _] at hP
          have hz : H.size = sz := hz1.trans hz
          obtain ⟨w9, hw9⟩ : ∃ z : mm_M, z = mm_up w6 (b + 22) (.inl (cI, 24, .inl (fun i => nI ((va_up (N 8) j (((N 8) j) + 1)) i)))) := ⟨_, rfl⟩
          have hP : mm_P B D kc w9 H := by rw [hw9]; exact hP
          have fr9 : ∀ j, j ≠ b + 22 → w9 j = w6 j := fun j h9 => by rw [hw9]; exact mm_un h9
          have fa9 : w9 (b + 22) = some (.inl (cI, 24, .inl (fun i => nI ((va_up (N 8) j (((N 8) j) + 1)) i)))) := by rw [hw9]; exact mm_us _ _ _
          refine lv_aload_n hx hb d_Mod_also_53 rfl (lv_at hl 0 rfl) ?_
          have f10 := (fr9 _ (by omega)).trans (f7)
          refine mm_get (D := D) (C := n_Mod) (T := T_Mod) (N := 27) (v := .ref (b + 22)) hx hb hts lay_Mod hown hK.1 hP f10 rfl 8 (by decide) (hts _ (List.mem_cons_of_mem _ wd_499)) (fun _ h9 => h9) rfl d_Mod_also_54 ?_
          refine lv_iload_n hx hb d_Mod_also_57 rfl (lv_at hl 1 rfl) ?_
          refine mm_iald hx hb hK.1 hP 0 fa9 rfl j rfl (by omega) (by decide) d_Mod_also_58 ?_
          refine W.eq (g2 := F0 m 59 ls [.int (nI ((va_up (N 8) j (((N 8) j) + 1)) j))]) rfl ?_
          exact W.iret hx hb hr (fun t ht hW => ⟨⟨_, (w9, sz), rfl, ⟨(by rw [if_pos hok, nI_clamp (by omega)]; exact congrArg nI (if_pos rfl)), (by rw [al_N_pos (by omega) (by omega) hok]; exact mo_mk f10 ((fr9 _ (by omega)).trans ((fr6 _ (by omega)).trans (m1))) ((fr9 _ (by omega)).trans ((fr6 _ (by omega)).trans (m2))) ((fr9 _ (by omega)).trans ((fr6 _ (by omega)).trans (m3))) ((fr9 _ (by omega)).trans ((fr6 _ (by omega)).trans (m4))) ((fr9 _ (by omega)).trans ((fr6 _ (by omega)).trans (m5))) ((fr9 _ (by omega)).trans ((fr6 _ (by omega)).trans (m6))) ((fr9 _ (by omega)).trans (fa6)) fa9 ((fr9 _ (by omega)).trans ((fr6 _ (by omega)).trans (m9))) ((fr9 _ (by omega)).trans ((fr6 _ (by omega)).trans (m10))) ((fr9 _ (by omega)).trans ((fr6 _ (by omega)).trans (m11))) ((fr9 _ (by omega)).trans ((fr6 _ (by omega)).trans (m12))) ((fr9 _ (by omega)).trans ((fr6 _ (by omega)).trans (m13))) ((fr9 _ (by omega)).trans ((fr6 _ (by omega)).trans (m14))) ((fr9 _ (by omega)).trans ((fr6 _ (by omega)).trans (m15))) ((fr9 _ (by omega)).trans ((fr6 _ (by omega)).trans (m16)))), (fun j hj => (fr9 j (by omega)).trans (fr6 j (by omega))), rfl⟩, by rw [ht]; exact hP, by rw [ht]; exact hz⟩, hS.F ht⟩) hS.2.2 d_Mod_also_59
        · have cc5 : (N 8) j = 3 := (nI_eq (by omega) (by omega)).mp cc5
          exact absurd hok.2.2 (by rw [nI_clamp (by omega)]; omega)
  · refine lv_aload_n hx hb d_Mod_also_0 rfl (lv_at hl 0 rfl) ?_
    refine lv_iload_n hx hb d_Mod_also_1 rfl (lv_at hl 1 rfl) ?_
    refine vp_callSi (va_Run.run (va_runV (As := [.int nr]) (rest := []) ⟨hx, hb, hml, hown, hts⟩ (c_Mod_isPermission l (b := b) (N := N) (S := S) hM (by omega) hR) (cwV 1 hts (gW_in (hd := [_, _, _, _, _]) (kk_5 wd_597 wd_599 sl_Mod_isPermission wd_8 cw_Mod_isPermission)) rfl rfl rfl ⟨rfl, ds_Mod_isPermission⟩ ⟨Nat.le_of_ble_eq_true rfl, Nat.le_of_ble_eq_true rfl⟩) (kk_preV hK hP hz hBz m0 rfl) rfl rfl hl.1 rfl (lv_room (Nat.le_of_ble_eq_true rfl)) d_Mod_also_2 ⟨Nat.le_of_ble_eq_true rfl, Nat.le_of_ble_eq_true rfl⟩)) (fun r11 hr11 => ?_)
    subst hr11
    refine lv_if_eq (tgt := 25) hx hb d_Mod_also_5 (by decide) (fun cc12 => ?_) (fun cc12 => ?_)
    · have cc12 := kk_b0 cc12
      refine lv_iconst (v := (-1)) hx hb d_Mod_also_25 (by decide) ?_
      exact W.iret hx hb hr (fun t ht hW => ⟨⟨_, (w, sz), rfl, ⟨(if_neg hok).symm, (by rw [show al_N N _ _ = N from if_neg hok]; exact mo_mk m0 m1 m2 m3 m4 m5 m6 m7 m8 m9 m10 m11 m12 m13 m14 m15 m16), (fun j hj => rfl), rfl⟩, by rw [ht]; exact hP, by rw [ht]; exact hz⟩, hS.F ht⟩) hS.2.2 d_Mod_also_26
    · have cc12 := kk_b1 cc12
      obtain ⟨j, hj, rfl⟩ := re_in hn cc12.1.1
      have hRj := hR j hj
      refine lv_iload_n hx hb d_Mod_also_8 rfl (lv_at hl 2 rfl) ?_
      refine vp_callSi (va_Run.run (va_runS (As := [.int sr]) (rest := []) ⟨hx, hb, hml, hown, hts⟩ (c_Mod_isSubject l ) (va_cwS 1 hts (gW_in (hd := [_, _, _, _]) (kk_4 wd_577 wd_578 wd_8 cw_Mod_isSubject)) rfl rfl rfl ds_Mod_isSubject ⟨Nat.le_of_ble_eq_true rfl, Nat.le_of_ble_eq_true rfl⟩) (kk_preS hK hP hz hBz) rfl rfl hl.1 rfl (lv_room (Nat.le_of_ble_eq_true rfl)) d_Mod_also_9 ⟨Nat.le_of_ble_eq_true rfl, Nat.le_of_ble_eq_true rfl⟩)) (fun r13 hr13 => ?_)
      subst hr13
      refine lv_if_eq (tgt := 25) hx hb d_Mod_also_12 (by decide) (fun cc14 => ?_) (fun cc14 => ?_)
      · have cc14 := kk_b0 cc14
        refine lv_iconst (v := (-1)) hx hb d_Mod_also_25 (by decide) ?_
        exact W.iret hx hb hr (fun t ht hW => ⟨⟨_, (w, sz), rfl, ⟨(if_neg hok).symm, (by rw [show al_N N _ _ = N from if_neg hok]; exact mo_mk m0 m1 m2 m3 m4 m5 m6 m7 m8 m9 m10 m11 m12 m13 m14 m15 m16), (fun j hj => rfl), rfl⟩, by rw [ht]; exact hP, by rw [ht]; exact hz⟩, hS.F ht⟩) hS.2.2 d_Mod_also_26
      · have cc14 := kk_b1 cc14
        refine lv_aload_n hx hb d_Mod_also_15 rfl (lv_at hl 0 rfl) ?_
        refine mm_get (D := D) (C := n_Mod) (T := T_Mod) (N := 27) (v := .ref (b + 22)) hx hb hts lay_Mod hown hK.1 hP m0 rfl 8 (by decide) (hts _ (List.mem_cons_of_mem _ wd_499)) (fun _ h9 => h9) rfl d_Mod_also_16 ?_
        refine lv_iload_n hx hb d_Mod_also_19 rfl (lv_at hl 1 rfl) ?_
        refine mm_iald hx hb hK.1 hP 0 m8 rfl j rfl (by omega) (by decide) d_Mod_also_20 ?_
        refine W.eq (g2 := F0 m 21 ls [.int (nI ((N 8) j))]) rfl ?_
        refine lv_iconst (v := nI 3) hx hb d_Mod_also_21 (by decide) ?_
        refine lv_icmp_ne (tgt := 27) hx hb d_Mod_also_22 (by decide) (fun cc15 => ?_) (fun cc15 => ?_)
        · have cc15 : ¬ ((N 8) j = 3) := fun q => cc15 ((nI_eq (by omega) (by omega)).mpr q)
          exact absurd ⟨cc12, cc14, by rw [nI_clamp (by omega)]; omega⟩ hok
        · have cc15 : (N 8) j = 3 := (nI_eq (by omega) (by omega)).mp cc15
          refine lv_iconst (v := (-1)) hx hb d_Mod_also_25 (by decide) ?_
          exact W.iret hx hb hr (fun t ht hW => ⟨⟨_, (w, sz), rfl, ⟨(if_neg hok).symm, (by rw [show al_N N _ _ = N from if_neg hok]; exact mo_mk m0 m1 m2 m3 m4 m5 m6 m7 m8 m9 m10 m11 m12 m13 m14 m15 m16), (fun j hj => rfl), rfl⟩, by rw [ht]; exact hP, by rw [ht]; exact hz⟩, hS.F ht⟩) hS.2.2 d_Mod_also_26
theorem d_Mod_quorum_0 : decode k_Mod_quorum 0 = .ok (.aload_n 0, 1) := by decide +kernel
theorem d_Mod_quorum_1 : decode k_Mod_quorum 1 = .ok (.iload_n 1, 1) := by decide +kernel
theorem d_Mod_quorum_2 : decode k_Mod_quorum 2 = .ok (.invokevirtual 80, 3) := by decide +kernel
theorem d_Mod_quorum_5 : decode k_Mod_quorum 5 = .ok (.ifCond .eq 18, 3) := by decide +kernel
theorem d_Mod_quorum_8 : decode k_Mod_quorum 8 = .ok (.iload_n 2, 1) := by decide +kernel
theorem d_Mod_quorum_9 : decode k_Mod_quorum 9 = .ok (.iconst 1, 1) := by decide +kernel
theorem d_Mod_quorum_10 : decode k_Mod_quorum 10 = .ok (.if_icmp .lt 13, 3) := by decide +kernel
theorem d_Mod_quorum_13 : decode k_Mod_quorum 13 = .ok (.iload_n 2, 1) := by decide +kernel
theorem d_Mod_quorum_14 : decode k_Mod_quorum 14 = .ok (.aload_n 0, 1) := by decide +kernel
theorem d_Mod_quorum_15 : decode k_Mod_quorum 15 = .ok (.getfield 32, 3) := by decide +kernel
theorem d_Mod_quorum_18 : decode k_Mod_quorum 18 = .ok (.iload_n 1, 1) := by decide +kernel
theorem d_Mod_quorum_19 : decode k_Mod_quorum 19 = .ok (.iaload, 1) := by decide +kernel
theorem d_Mod_quorum_20 : decode k_Mod_quorum 20 = .ok (.if_icmp .le 5, 3) := by decide +kernel
theorem d_Mod_quorum_23 : decode k_Mod_quorum 23 = .ok (.iconst 0, 1) := by decide +kernel
theorem d_Mod_quorum_24 : decode k_Mod_quorum 24 = .ok (.ireturn, 1) := by decide +kernel
theorem d_Mod_quorum_25 : decode k_Mod_quorum 25 = .ok (.aload_n 0, 1) := by decide +kernel
theorem d_Mod_quorum_26 : decode k_Mod_quorum 26 = .ok (.getfield 35, 3) := by decide +kernel
theorem d_Mod_quorum_29 : decode k_Mod_quorum 29 = .ok (.iload_n 1, 1) := by decide +kernel
theorem d_Mod_quorum_30 : decode k_Mod_quorum 30 = .ok (.iload_n 2, 1) := by decide +kernel
theorem d_Mod_quorum_31 : decode k_Mod_quorum 31 = .ok (.iastore, 1) := by decide +kernel
theorem d_Mod_quorum_32 : decode k_Mod_quorum 32 = .ok (.iconst 1, 1) := by decide +kernel
theorem d_Mod_quorum_33 : decode k_Mod_quorum 33 = .ok (.ireturn, 1) := by decide +kernel
set_option maxHeartbeats 4000000 in
set_option maxRecDepth 100000 in
theorem c_Mod_quorum (l : Launch) {B : Nat} {D : va_G} {cI cZ cQ : ClassId} {w : mm_M} {sz : Nat} {b : Nat} {N : Nat → Nat → Nat} {S : Nat → Nat → Int32} {nr kr : Int32} (hM : mo_I b cI cZ N S w) (hn : N 0 0 ≤ 24) (hR : rg_I N) : Met l y_Mod_quorum ws_Mod_quorum (kk_rm 2 0 0) (kk_Pc B D cI cZ cQ [.ref (b + 14), .int nr, .int kr] w sz) (kk_Qi B D (fun r w' sz' => r = nI (if qu_ok N nr kr then 1 else 0) ∧ mo_I b cI cZ (qu_N N nr kr) S w' ∧ (∀ j, ¬ (b + 14 ≤ j ∧ j < b + 31) → w' j = w j) ∧ sz' = sz)) 0 0 (fun q => B ≤ q) := by
  refine Met.ofW (cc := k_Mod_quorum) (maxL := 3) (ret := (some .boolean)) (by decide) rfl ?_
  intro p e s m args below meth c s₁ BB hml hv
  obtain ⟨rfl, hK, hP, hz, hBz⟩ := hv
  have hx := BB.exec
  have hb := BB.bytes
  have hr := BB.returns
  have hts := atoms_spec (ws := ws_Mod_quorum) BB.pre
  have hown : s.vm.findClass "DelegationClosureModel" = some m.cls := findClass_of_methodNamed BB.named
  have hlocks := BB.notSynchronized
  have hS : mm_S B s.heap s.heap [] := va_S.rf
  have hl := lv_entry ([.ref (b + 14), .int nr, .int kr]) (n := 3) (Nat.le_of_ble_eq_true rfl)
  rw [lg_entry_eq]
  generalize (lg_sl ([.ref (b + 14), .int nr, .int kr]) ++ List.replicate (3 - (lg_sl ([.ref (b + 14), .int nr, .int kr])).length) Slot.unset).toArray = ls at hl ⊢
  have hl : lv_has ls 3 [(0, .ref (b + 14)), (1, .int nr), (2, .int kr)] := hl
  have m0 : w (b + 14) = some (.inr (9, [.int (nI (N 0 0)), .ref (b + 15), .ref (b + 16), .ref (b + 17), .ref (b + 18), .ref (b + 19), .ref (b + 20), .ref (b + 21), .ref (b + 22), .ref (b + 23), .ref (b + 24), .ref (b + 25), .ref (b + 26), .ref (b + 27), .ref (b + 28), .ref (b + 29), .int (nI (N 16 0)), .int (nI (N 17 0)), .int (nI (N 18 0)), .ref (b + 30), .int (nI (N 20 0)), .int (S 21 0), .int (S 22 0), .int (S 23 0), .int (S 24 0), .int (nI (N 25 0)), .int (nI (N 26 0))])) := hM.1
  have m1 : w (b + 15) = some (.inl (cZ, 24, .inl (fun i => nI ((N 1) i)))) := hM.2 1 (by decide) (by decide)
  have m2 : w (b + 16) = some (.inl (cZ, 24, .inl (fun i => nI ((N 2) i)))) := hM.2 2 (by decide) (by decide)
  have m3 : w (b + 17) = some (.inl (cI, 24, .inl (fun i => nI ((N 3) i)))) := hM.2 3 (by decide) (by decide)
  have m4 : w (b + 18) = some (.inl (cI, 24, .inl (fun i => nI ((N 4) i)))) := hM.2 4 (by decide) (by decide)
  have m5 : w (b + 19) = some (.inl (cI, 24, .inl (S 5))) := hM.2 5 (by decide) (by decide)
  have m6 : w (b + 20) = some (.inl (cI, 24, .inl (S 6))) := hM.2 6 (by decide) (by decide)
  have m7 : w (b + 21) = some (.inl (cI, 72, .inl (fun i => nI ((N 7) i)))) := hM.2 7 (by decide) (by decide)
  have m8 : w (b + 22) = some (.inl (cI, 24, .inl (fun i => nI ((N 8) i)))) := hM.2 8 (by decide) (by decide)
  have m9 : w (b + 23) = some (.inl (cI, 24, .inl (fun i => nI ((N 9) i)))) := hM.2 9 (by decide) (by decide)
  have m10 : w (b + 24) = some (.inl (cI, 24, .inl (fun i => nI ((N 10) i)))) := hM.2 10 (by decide) (by decide)
  have m11 : w (b + 25) = some (.inl (cI, 24, .inl (S 11))) := hM.2 11 (by decide) (by decide)
  have m12 : w (b + 26) = some (.inl (cI, 24, .inl (S 12))) := hM.2 12 (by decide) (by decide)
  have m13 : w (b + 27) = some (.inl (cZ, 24, .inl (fun i => nI ((N 13) i)))) := hM.2 13 (by decide) (by decide)
  have m14 : w (b + 28) = some (.inl (cI, 256, .inl (fun i => nI ((N 14) i)))) := hM.2 14 (by decide) (by decide)
  have m15 : w (b + 29) = some (.inl (cI, 24, .inl (fun i => nI ((N 15) i)))) := hM.2 15 (by decide) (by decide)
  have m16 : w (b + 30) = some (.inl (cI, 5, .inl (fun i => nI ((N 19) i)))) := hM.2 16 (by decide) (by decide)
  by_cases hok : qu_ok N nr kr
  · refine lv_aload_n hx hb d_Mod_quorum_0 rfl (lv_at hl 0 rfl) ?_
    refine lv_iload_n hx hb d_Mod_quorum_1 rfl (lv_at hl 1 rfl) ?_
    refine vp_callSi (va_Run.run (va_runV (As := [.int nr]) (rest := []) ⟨hx, hb, hml, hown, hts⟩ (c_Mod_isPermission l (b := b) (N := N) (S := S) hM (by omega) hR) (cwV 1 hts (gW_in (hd := [_, _, _, _, _]) (kk_5 wd_597 wd_599 sl_Mod_isPermission wd_8 cw_Mod_isPermission)) rfl rfl rfl ⟨rfl, ds_Mod_isPermission⟩ ⟨Nat.le_of_ble_eq_true rfl, Nat.le_of_ble_eq_true rfl⟩) (kk_preV hK hP hz hBz m0 rfl) rfl rfl hl.1 rfl (lv_room (Nat.le_of_ble_eq_true rfl)) d_Mod_quorum_2 ⟨Nat.le_of_ble_eq_true rfl, Nat.le_of_ble_eq_true rfl⟩)) (fun r1 hr1 => ?_)
    subst hr1
    refine lv_if_eq (tgt := 23) hx hb d_Mod_quorum_5 (by decide) (fun cc2 => ?_) (fun cc2 => ?_)
    · have cc2 := kk_b0 cc2
      exact absurd hok.1 cc2
    · have cc2 := kk_b1 cc2
      obtain ⟨j, hj, rfl⟩ := re_in hn cc2.1.1
      have hRj := hR j hj
      refine lv_iload_n hx hb d_Mod_quorum_8 rfl (lv_at hl 2 rfl) ?_
      refine lv_iconst (v := nI 1) hx hb d_Mod_quorum_9 (by decide) ?_
      refine lv_icmp_lt (tgt := 23) hx hb d_Mod_quorum_10 (by decide) (fun cc3 => ?_) (fun cc3 => ?_)
      · exact absurd cc3 hok.2.1
      · refine lv_iload_n hx hb d_Mod_quorum_13 rfl (lv_at hl 2 rfl) ?_
        refine lv_aload_n hx hb d_Mod_quorum_14 rfl (lv_at hl 0 rfl) ?_
        refine mm_get (D := D) (C := n_Mod) (T := T_Mod) (N := 27) (v := .ref (b + 22)) hx hb hts lay_Mod hown hK.1 hP m0 rfl 8 (by decide) (hts _ (List.mem_cons_of_mem _ wd_499)) (fun _ h9 => h9) rfl d_Mod_quorum_15 ?_
        refine lv_iload_n hx hb d_Mod_quorum_18 rfl (lv_at hl 1 rfl) ?_
        refine mm_iald hx hb hK.1 hP 0 m8 rfl j rfl (by omega) (by decide) d_Mod_quorum_19 ?_
        refine W.eq (g2 := F0 m 20 ls [.int (nI ((N 8) j)), .int kr]) rfl ?_
        refine lv_icmp_le (tgt := 25) hx hb d_Mod_quorum_20 (by decide) (fun cc4 => ?_) (fun cc4 => ?_)
        · obtain ⟨q9, hq1, hq2, rfl⟩ := kk_rng cc3 cc4 (by omega) (by omega)
          refine lv_aload_n hx hb d_Mod_quorum_25 rfl (lv_at hl 0 rfl) ?_
          refine mm_get (D := D) (C := n_Mod) (T := T_Mod) (N := 27) (v := .ref (b + 23)) hx hb hts lay_Mod hown hK.1 hP m0 rfl 9 (by decide) (hts _ (List.mem_cons_of_mem _ wd_500)) (fun _ h9 => h9) rfl d_Mod_quorum_26 ?_
          refine lv_iload_n hx hb d_Mod_quorum_29 rfl (lv_at hl 1 rfl) ?_
          refine lv_iload_n hx hb d_Mod_quorum_30 rfl (lv_at hl 2 rfl) ?_
          refine mm_iast hx hb hK.1 hP hS 0 m9 rfl j rfl (by omega) (by decide) d_Mod_quorum_31 (fun H locs hP hz1 hS => ?_)
          rw [show upd (fun i => nI ((N 9) i)) j (nI q9) = fun i => nI ((va_up (N 9) j q9) i) from kk_upn _ _ _] at hP
          have hz : H.size = sz := hz1.trans hz
          obtain ⟨w5, hw5⟩ : ∃ z : mm_M, z = mm_up w (b + 23) (.inl (cI, 24, .inl (fun i => nI ((va_up (N 9) j q9) i)))) := ⟨_, rfl⟩
          have hP : mm_P B D kc w5 H := by rw [hw5]; exact hP
          have fr5 : ∀ j, j ≠ b + 23 → w5 j = w j := fun j h9 => by rw [hw5]; exact mm_un h9
          have fa5 : w5 (b + 23) = some (.inl (cI, 24, .inl (fun i => nI ((va_up (N 9) j q9) i)))) := by rw [hw5]; exact mm_us _ _ _
          refine lv_iconst (v := nI 1) hx hb d_Mod_quorum_32 (by decide) ?_
          exact W.zret hx hb hr rfl (fun t ht hW => ⟨⟨_, (w5, sz), rfl, ⟨kk_ift hok, (by rw [qu_N_pos (by omega) (by omega) hok]; exact mo_mk ((fr5 _ (by omega)).trans (m0)) ((fr5 _ (by omega)).trans (m1)) ((fr5 _ (by omega)).trans (m2)) ((fr5 _ (by omega)).trans (m3)) ((fr5 _ (by omega)).trans (m4)) ((fr5 _ (by omega)).trans (m5)) ((fr5 _ (by omega)).trans (m6)) ((fr5 _ (by omega)).trans (m7)) ((fr5 _ (by omega)).trans (m8)) fa5 ((fr5 _ (by omega)).trans (m10)) ((fr5 _ (by omega)).trans (m11)) ((fr5 _ (by omega)).trans (m12)) ((fr5 _ (by omega)).trans (m13)) ((fr5 _ (by omega)).trans (m14)) ((fr5 _ (by omega)).trans (m15)) ((fr5 _ (by omega)).trans (m16))), (fun j hj => fr5 j (by omega)), rfl⟩, by rw [ht]; exact hP, by rw [ht]; exact hz⟩, hS.F ht⟩) hS.2.2 d_Mod_quorum_33
        · exact absurd (by have := hok.2.2; rw [nI_clamp (by omega)] at this; exact Int32.not_lt.mp this) cc4
  · refine lv_aload_n hx hb d_Mod_quorum_0 rfl (lv_at hl 0 rfl) ?_
    refine lv_iload_n hx hb d_Mod_quorum_1 rfl (lv_at hl 1 rfl) ?_
    refine vp_callSi (va_Run.run (va_runV (As := [.int nr]) (rest := []) ⟨hx, hb, hml, hown, hts⟩ (c_Mod_isPermission l (b := b) (N := N) (S := S) hM (by omega) hR) (cwV 1 hts (gW_in (hd := [_, _, _, _, _]) (kk_5 wd_597 wd_599 sl_Mod_isPermission wd_8 cw_Mod_isPermission)) rfl rfl rfl ⟨rfl, ds_Mod_isPermission⟩ ⟨Nat.le_of_ble_eq_true rfl, Nat.le_of_ble_eq_true rfl⟩) (kk_preV hK hP hz hBz m0 rfl) rfl rfl hl.1 rfl (lv_room (Nat.le_of_ble_eq_true rfl)) d_Mod_quorum_2 ⟨Nat.le_of_ble_eq_true rfl, Nat.le_of_ble_eq_true rfl⟩)) (fun r6 hr6 => ?_)
    subst hr6
    refine lv_if_eq (tgt := 23) hx hb d_Mod_quorum_5 (by decide) (fun cc7 => ?_) (fun cc7 => ?_)
    · have cc7 := kk_b0 cc7
      refine lv_iconst (v := nI 0) hx hb d_Mod_quorum_23 (by decide) ?_
      exact W.zret hx hb hr rfl (fun t ht hW => ⟨⟨_, (w, sz), rfl, ⟨kk_iff hok, (by rw [show qu_N N _ _ = N from if_neg hok]; exact mo_mk m0 m1 m2 m3 m4 m5 m6 m7 m8 m9 m10 m11 m12 m13 m14 m15 m16), (fun j hj => rfl), rfl⟩, by rw [ht]; exact hP, by rw [ht]; exact hz⟩, hS.F ht⟩) hS.2.2 d_Mod_quorum_24
    · have cc7 := kk_b1 cc7
      obtain ⟨j, hj, rfl⟩ := re_in hn cc7.1.1
      have hRj := hR j hj
      refine lv_iload_n hx hb d_Mod_quorum_8 rfl (lv_at hl 2 rfl) ?_
      refine lv_iconst (v := nI 1) hx hb d_Mod_quorum_9 (by decide) ?_
      refine lv_icmp_lt (tgt := 23) hx hb d_Mod_quorum_10 (by decide) (fun cc8 => ?_) (fun cc8 => ?_)
      · refine lv_iconst (v := nI 0) hx hb d_Mod_quorum_23 (by decide) ?_
        exact W.zret hx hb hr rfl (fun t ht hW => ⟨⟨_, (w, sz), rfl, ⟨kk_iff hok, (by rw [show qu_N N _ _ = N from if_neg hok]; exact mo_mk m0 m1 m2 m3 m4 m5 m6 m7 m8 m9 m10 m11 m12 m13 m14 m15 m16), (fun j hj => rfl), rfl⟩, by rw [ht]; exact hP, by rw [ht]; exact hz⟩, hS.F ht⟩) hS.2.2 d_Mod_quorum_24
      · refine lv_iload_n hx hb d_Mod_quorum_13 rfl (lv_at hl 2 rfl) ?_
        refine lv_aload_n hx hb d_Mod_quorum_14 rfl (lv_at hl 0 rfl) ?_
        refine mm_get (D := D) (C := n_Mod) (T := T_Mod) (N := 27) (v := .ref (b + 22)) hx hb hts lay_Mod hown hK.1 hP m0 rfl 8 (by decide) (hts _ (List.mem_cons_of_mem _ wd_499)) (fun _ h9 => h9) rfl d_Mod_quorum_15 ?_
        refine lv_iload_n hx hb d_Mod_quorum_18 rfl (lv_at hl 1 rfl) ?_
        refine mm_iald hx hb hK.1 hP 0 m8 rfl j rfl (by omega) (by decide) d_Mod_quorum_19 ?_
        refine W.eq (g2 := F0 m 20 ls [.int (nI ((N 8) j)), .int kr]) rfl ?_
        refine lv_icmp_le (tgt := 25) hx hb d_Mod_quorum_20 (by decide) (fun cc9 => ?_) (fun cc9 => ?_)
        · exact absurd ⟨cc7, cc8, by rw [nI_clamp (by omega)]; exact Int32.not_lt.mpr cc9⟩ hok
        · refine lv_iconst (v := nI 0) hx hb d_Mod_quorum_23 (by decide) ?_
          exact W.zret hx hb hr rfl (fun t ht hW => ⟨⟨_, (w, sz), rfl, ⟨kk_iff hok, (by rw [show qu_N N _ _ = N from if_neg hok]; exact mo_mk m0 m1 m2 m3 m4 m5 m6 m7 m8 m9 m10 m11 m12 m13 m14 m15 m16), (fun j hj => rfl), rfl⟩, by rw [ht]; exact hP, by rw [ht]; exact hz⟩, hS.F ht⟩) hS.2.2 d_Mod_quorum_24
theorem d_Mod_revoke_0 : decode k_Mod_revoke 0 = .ok (.aload_n 0, 1) := by decide +kernel
theorem d_Mod_revoke_1 : decode k_Mod_revoke 1 = .ok (.iload_n 1, 1) := by decide +kernel
theorem d_Mod_revoke_2 : decode k_Mod_revoke 2 = .ok (.invokevirtual 77, 3) := by decide +kernel
theorem d_Mod_revoke_5 : decode k_Mod_revoke 5 = .ok (.ifCond .ne 5, 3) := by decide +kernel
theorem d_Mod_revoke_8 : decode k_Mod_revoke 8 = .ok (.iconst 0, 1) := by decide +kernel
theorem d_Mod_revoke_9 : decode k_Mod_revoke 9 = .ok (.ireturn, 1) := by decide +kernel
theorem d_Mod_revoke_10 : decode k_Mod_revoke 10 = .ok (.aload_n 0, 1) := by decide +kernel
theorem d_Mod_revoke_11 : decode k_Mod_revoke 11 = .ok (.getfield 7, 3) := by decide +kernel
theorem d_Mod_revoke_14 : decode k_Mod_revoke 14 = .ok (.iload_n 1, 1) := by decide +kernel
theorem d_Mod_revoke_15 : decode k_Mod_revoke 15 = .ok (.iconst 1, 1) := by decide +kernel
theorem d_Mod_revoke_16 : decode k_Mod_revoke 16 = .ok (.bastore, 1) := by decide +kernel
theorem d_Mod_revoke_17 : decode k_Mod_revoke 17 = .ok (.iconst 1, 1) := by decide +kernel
theorem d_Mod_revoke_18 : decode k_Mod_revoke 18 = .ok (.ireturn, 1) := by decide +kernel
set_option maxHeartbeats 4000000 in
set_option maxRecDepth 100000 in
theorem c_Mod_revoke (l : Launch) {B : Nat} {D : va_G} {cI cZ cQ : ClassId} {w : mm_M} {sz : Nat} {b : Nat} {N : Nat → Nat → Nat} {S : Nat → Nat → Int32} {nr : Int32} (hM : mo_I b cI cZ N S w) (hn : N 0 0 ≤ 24) (hR : rg_I N) : Met l y_Mod_revoke ws_Mod_revoke (kk_rm 1 0 0) (kk_Pc B D cI cZ cQ [.ref (b + 14), .int nr] w sz) (kk_Qi B D (fun r w' sz' => r = nI (if re_th N nr then 1 else 0) ∧ mo_I b cI cZ (rv_N N nr) S w' ∧ (∀ j, ¬ (b + 14 ≤ j ∧ j < b + 31) → w' j = w j) ∧ sz' = sz)) 0 0 (fun q => B ≤ q) := by
  refine Met.ofW (cc := k_Mod_revoke) (maxL := 2) (ret := (some .boolean)) (by decide) rfl ?_
  intro p e s m args below meth c s₁ BB hml hv
  obtain ⟨rfl, hK, hP, hz, hBz⟩ := hv
  have hx := BB.exec
  have hb := BB.bytes
  have hr := BB.returns
  have hts := atoms_spec (ws := ws_Mod_revoke) BB.pre
  have hown : s.vm.findClass "DelegationClosureModel" = some m.cls := findClass_of_methodNamed BB.named
  have hlocks := BB.notSynchronized
  have hS : mm_S B s.heap s.heap [] := va_S.rf
  have hl := lv_entry ([.ref (b + 14), .int nr]) (n := 2) (Nat.le_of_ble_eq_true rfl)
  rw [lg_entry_eq]
  generalize (lg_sl ([.ref (b + 14), .int nr]) ++ List.replicate (2 - (lg_sl ([.ref (b + 14), .int nr])).length) Slot.unset).toArray = ls at hl ⊢
  have hl : lv_has ls 2 [(0, .ref (b + 14)), (1, .int nr)] := hl
  have m0 : w (b + 14) = some (.inr (9, [.int (nI (N 0 0)), .ref (b + 15), .ref (b + 16), .ref (b + 17), .ref (b + 18), .ref (b + 19), .ref (b + 20), .ref (b + 21), .ref (b + 22), .ref (b + 23), .ref (b + 24), .ref (b + 25), .ref (b + 26), .ref (b + 27), .ref (b + 28), .ref (b + 29), .int (nI (N 16 0)), .int (nI (N 17 0)), .int (nI (N 18 0)), .ref (b + 30), .int (nI (N 20 0)), .int (S 21 0), .int (S 22 0), .int (S 23 0), .int (S 24 0), .int (nI (N 25 0)), .int (nI (N 26 0))])) := hM.1
  have m1 : w (b + 15) = some (.inl (cZ, 24, .inl (fun i => nI ((N 1) i)))) := hM.2 1 (by decide) (by decide)
  have m2 : w (b + 16) = some (.inl (cZ, 24, .inl (fun i => nI ((N 2) i)))) := hM.2 2 (by decide) (by decide)
  have m3 : w (b + 17) = some (.inl (cI, 24, .inl (fun i => nI ((N 3) i)))) := hM.2 3 (by decide) (by decide)
  have m4 : w (b + 18) = some (.inl (cI, 24, .inl (fun i => nI ((N 4) i)))) := hM.2 4 (by decide) (by decide)
  have m5 : w (b + 19) = some (.inl (cI, 24, .inl (S 5))) := hM.2 5 (by decide) (by decide)
  have m6 : w (b + 20) = some (.inl (cI, 24, .inl (S 6))) := hM.2 6 (by decide) (by decide)
  have m7 : w (b + 21) = some (.inl (cI, 72, .inl (fun i => nI ((N 7) i)))) := hM.2 7 (by decide) (by decide)
  have m8 : w (b + 22) = some (.inl (cI, 24, .inl (fun i => nI ((N 8) i)))) := hM.2 8 (by decide) (by decide)
  have m9 : w (b + 23) = some (.inl (cI, 24, .inl (fun i => nI ((N 9) i)))) := hM.2 9 (by decide) (by decide)
  have m10 : w (b + 24) = some (.inl (cI, 24, .inl (fun i => nI ((N 10) i)))) := hM.2 10 (by decide) (by decide)
  have m11 : w (b + 25) = some (.inl (cI, 24, .inl (S 11))) := hM.2 11 (by decide) (by decide)
  have m12 : w (b + 26) = some (.inl (cI, 24, .inl (S 12))) := hM.2 12 (by decide) (by decide)
  have m13 : w (b + 27) = some (.inl (cZ, 24, .inl (fun i => nI ((N 13) i)))) := hM.2 13 (by decide) (by decide)
  have m14 : w (b + 28) = some (.inl (cI, 256, .inl (fun i => nI ((N 14) i)))) := hM.2 14 (by decide) (by decide)
  have m15 : w (b + 29) = some (.inl (cI, 24, .inl (fun i => nI ((N 15) i)))) := hM.2 15 (by decide) (by decide)
  have m16 : w (b + 30) = some (.inl (cI, 5, .inl (fun i => nI ((N 19) i)))) := hM.2 16 (by decide) (by decide)
  refine lv_aload_n hx hb d_Mod_revoke_0 rfl (lv_at hl 0 rfl) ?_
  refine lv_iload_n hx hb d_Mod_revoke_1 rfl (lv_at hl 1 rfl) ?_
  refine vp_callSi (va_Run.run (va_runV (As := [.int nr]) (rest := []) ⟨hx, hb, hml, hown, hts⟩ (c_Mod_isThere l (b := b) (N := N) (S := S) hM (by omega) hR) (cwV 1 hts (gW_in (hd := [_, _, _, _, _]) (kk_5 wd_601 wd_603 sl_Mod_isThere wd_8 cw_Mod_isThere)) rfl rfl rfl ⟨rfl, ds_Mod_isThere⟩ ⟨Nat.le_of_ble_eq_true rfl, Nat.le_of_ble_eq_true rfl⟩) (kk_preV hK hP hz hBz m0 rfl) rfl rfl hl.1 rfl (lv_room (Nat.le_of_ble_eq_true rfl)) d_Mod_revoke_2 ⟨Nat.le_of_ble_eq_true rfl, Nat.le_of_ble_eq_true rfl⟩)) (fun r1 hr1 => ?_)
  subst hr1
  refine lv_if_ne (tgt := 10) hx hb d_Mod_revoke_5 (by decide) (fun cc2 => ?_) (fun cc2 => ?_)
  · have cc2 := kk_b1 cc2
    obtain ⟨j, hj, rfl⟩ := re_in hn cc2.1
    have hRj := hR j hj
    refine lv_aload_n hx hb d_Mod_revoke_10 rfl (lv_at hl 0 rfl) ?_
    refine mm_get (D := D) (C := n_Mod) (T := T_Mod) (N := 27) (v := .ref (b + 15)) hx hb hts lay_Mod hown hK.1 hP m0 rfl 1 (by decide) (hts _ (List.mem_cons_of_mem _ wd_492)) (fun _ h9 => h9) rfl d_Mod_revoke_11 ?_
    refine lv_iload_n hx hb d_Mod_revoke_14 rfl (lv_at hl 1 rfl) ?_
    refine lv_iconst (v := nI 1) hx hb d_Mod_revoke_15 (by decide) ?_
    refine mm_zast hx hb hK.1 hP hS 1 m1 rfl j rfl (by omega) (by decide) rfl d_Mod_revoke_16 (fun H locs hP hz1 hS => ?_)
    rw [show upd (fun i => nI ((N 1) i)) j (nI 1) = fun i => nI ((va_up (N 1) j 1) i) from kk_upn _ _ _] at hP
    have hz : H.size = sz := hz1.trans hz
    obtain ⟨w3, hw3⟩ : ∃ z : mm_M, z = mm_up w (b + 15) (.inl (cZ, 24, .inl (fun i => nI ((va_up (N 1) j 1) i)))) := ⟨_, rfl⟩
    have hP : mm_P B D kc w3 H := by rw [hw3]; exact hP
    have fr3 : ∀ j, j ≠ b + 15 → w3 j = w j := fun j h9 => by rw [hw3]; exact mm_un h9
    have fa3 : w3 (b + 15) = some (.inl (cZ, 24, .inl (fun i => nI ((va_up (N 1) j 1) i)))) := by rw [hw3]; exact mm_us _ _ _
    refine lv_iconst (v := nI 1) hx hb d_Mod_revoke_17 (by decide) ?_
    exact W.zret hx hb hr rfl (fun t ht hW => ⟨⟨_, (w3, sz), rfl, ⟨kk_ift cc2, (by rw [rv_N_pos (by omega) cc2]; exact mo_mk ((fr3 _ (by omega)).trans (m0)) fa3 ((fr3 _ (by omega)).trans (m2)) ((fr3 _ (by omega)).trans (m3)) ((fr3 _ (by omega)).trans (m4)) ((fr3 _ (by omega)).trans (m5)) ((fr3 _ (by omega)).trans (m6)) ((fr3 _ (by omega)).trans (m7)) ((fr3 _ (by omega)).trans (m8)) ((fr3 _ (by omega)).trans (m9)) ((fr3 _ (by omega)).trans (m10)) ((fr3 _ (by omega)).trans (m11)) ((fr3 _ (by omega)).trans (m12)) ((fr3 _ (by omega)).trans (m13)) ((fr3 _ (by omega)).trans (m14)) ((fr3 _ (by omega)).trans (m15)) ((fr3 _ (by omega)).trans (m16))), (fun j hj => fr3 j (by omega)), rfl⟩, by rw [ht]; exact hP, by rw [ht]; exact hz⟩, hS.F ht⟩) hS.2.2 d_Mod_revoke_18
  · have cc2 := kk_b0 cc2
    refine lv_iconst (v := nI 0) hx hb d_Mod_revoke_8 (by decide) ?_
    exact W.zret hx hb hr rfl (fun t ht hW => ⟨⟨_, (w, sz), rfl, ⟨kk_iff cc2, (by rw [show rv_N N _ = N from if_neg cc2]; exact mo_mk m0 m1 m2 m3 m4 m5 m6 m7 m8 m9 m10 m11 m12 m13 m14 m15 m16), (fun j hj => rfl), rfl⟩, by rw [ht]; exact hP, by rw [ht]; exact hz⟩, hS.F ht⟩) hS.2.2 d_Mod_revoke_9
theorem d_Mod_certificates_0 : decode k_Mod_certificates 0 = .ok (.aload_n 0, 1) := by decide +kernel
theorem d_Mod_certificates_1 : decode k_Mod_certificates 1 = .ok (.getfield 63, 3) := by decide +kernel
theorem d_Mod_certificates_4 : decode k_Mod_certificates 4 = .ok (.ireturn, 1) := by decide +kernel
set_option maxHeartbeats 4000000 in
set_option maxRecDepth 100000 in
theorem c_Mod_certificates (l : Launch) {B : Nat} {D : va_G} {cI cZ cQ : ClassId} {w : mm_M} {sz : Nat} {b : Nat} {N : Nat → Nat → Nat} {S : Nat → Nat → Int32}  (hM : mo_I b cI cZ N S w)  : Met l y_Mod_certificates ws_Mod_certificates (kk_rm 0 0 0) (kk_Pc B D cI cZ cQ [.ref (b + 14)] w sz) (vp_Si (fun r => r = nI (N 0 0))) 0 0 (fun _ => False) := by
  refine Met.ofW (cc := k_Mod_certificates) (maxL := 1) (ret := (some .int)) (by decide) rfl ?_
  intro p e s m args below meth c s₁ BB hml hv
  obtain ⟨rfl, hK, hP, hz, hBz⟩ := hv
  have hx := BB.exec
  have hb := BB.bytes
  have hr := BB.returns
  have hts := atoms_spec (ws := ws_Mod_certificates) BB.pre
  have hown : s.vm.findClass "DelegationClosureModel" = some m.cls := findClass_of_methodNamed BB.named
  have hlocks := BB.notSynchronized
  have hS : mm_S B s.heap s.heap [] := va_S.rf
  have hl := lv_entry ([.ref (b + 14)]) (n := 1) (Nat.le_of_ble_eq_true rfl)
  rw [lg_entry_eq]
  generalize (lg_sl ([.ref (b + 14)]) ++ List.replicate (1 - (lg_sl ([.ref (b + 14)])).length) Slot.unset).toArray = ls at hl ⊢
  have hl : lv_has ls 1 [(0, .ref (b + 14))] := hl
  have m0 : w (b + 14) = some (.inr (9, [.int (nI (N 0 0)), .ref (b + 15), .ref (b + 16), .ref (b + 17), .ref (b + 18), .ref (b + 19), .ref (b + 20), .ref (b + 21), .ref (b + 22), .ref (b + 23), .ref (b + 24), .ref (b + 25), .ref (b + 26), .ref (b + 27), .ref (b + 28), .ref (b + 29), .int (nI (N 16 0)), .int (nI (N 17 0)), .int (nI (N 18 0)), .ref (b + 30), .int (nI (N 20 0)), .int (S 21 0), .int (S 22 0), .int (S 23 0), .int (S 24 0), .int (nI (N 25 0)), .int (nI (N 26 0))])) := hM.1
  have m1 : w (b + 15) = some (.inl (cZ, 24, .inl (fun i => nI ((N 1) i)))) := hM.2 1 (by decide) (by decide)
  have m2 : w (b + 16) = some (.inl (cZ, 24, .inl (fun i => nI ((N 2) i)))) := hM.2 2 (by decide) (by decide)
  have m3 : w (b + 17) = some (.inl (cI, 24, .inl (fun i => nI ((N 3) i)))) := hM.2 3 (by decide) (by decide)
  have m4 : w (b + 18) = some (.inl (cI, 24, .inl (fun i => nI ((N 4) i)))) := hM.2 4 (by decide) (by decide)
  have m5 : w (b + 19) = some (.inl (cI, 24, .inl (S 5))) := hM.2 5 (by decide) (by decide)
  have m6 : w (b + 20) = some (.inl (cI, 24, .inl (S 6))) := hM.2 6 (by decide) (by decide)
  have m7 : w (b + 21) = some (.inl (cI, 72, .inl (fun i => nI ((N 7) i)))) := hM.2 7 (by decide) (by decide)
  have m8 : w (b + 22) = some (.inl (cI, 24, .inl (fun i => nI ((N 8) i)))) := hM.2 8 (by decide) (by decide)
  have m9 : w (b + 23) = some (.inl (cI, 24, .inl (fun i => nI ((N 9) i)))) := hM.2 9 (by decide) (by decide)
  have m10 : w (b + 24) = some (.inl (cI, 24, .inl (fun i => nI ((N 10) i)))) := hM.2 10 (by decide) (by decide)
  have m11 : w (b + 25) = some (.inl (cI, 24, .inl (S 11))) := hM.2 11 (by decide) (by decide)
  have m12 : w (b + 26) = some (.inl (cI, 24, .inl (S 12))) := hM.2 12 (by decide) (by decide)
  have m13 : w (b + 27) = some (.inl (cZ, 24, .inl (fun i => nI ((N 13) i)))) := hM.2 13 (by decide) (by decide)
  have m14 : w (b + 28) = some (.inl (cI, 256, .inl (fun i => nI ((N 14) i)))) := hM.2 14 (by decide) (by decide)
  have m15 : w (b + 29) = some (.inl (cI, 24, .inl (fun i => nI ((N 15) i)))) := hM.2 15 (by decide) (by decide)
  have m16 : w (b + 30) = some (.inl (cI, 5, .inl (fun i => nI ((N 19) i)))) := hM.2 16 (by decide) (by decide)
  refine lv_aload_n hx hb d_Mod_certificates_0 rfl (lv_at hl 0 rfl) ?_
  refine mm_get (D := D) (C := n_Mod) (T := T_Mod) (N := 27) (v := .int (nI (N 0 0))) hx hb hts lay_Mod hown hK.1 hP m0 rfl 0 (by decide) (hts _ (List.mem_cons_of_mem _ wd_491)) (fun _ h9 => h9) rfl d_Mod_certificates_1 ?_
  exact W.iret hx hb hr (fun t ht hW => ⟨_, rfl, rfl, ht⟩) (fun q hq => by cases hq) d_Mod_certificates_4
end
section
theorem d_Mod_name_0 : decode k_Mod_name 0 = .ok (.iload_n 1, 1) := by decide +kernel
theorem d_Mod_name_1 : decode k_Mod_name 1 = .ok (.ifCond .lt 34, 3) := by decide +kernel
theorem d_Mod_name_4 : decode k_Mod_name 4 = .ok (.iload_n 1, 1) := by decide +kernel
theorem d_Mod_name_5 : decode k_Mod_name 5 = .ok (.bipush 7, 2) := by decide +kernel
theorem d_Mod_name_7 : decode k_Mod_name 7 = .ok (.if_icmp .gt 28, 3) := by decide +kernel
theorem d_Mod_name_10 : decode k_Mod_name 10 = .ok (.iload_n 2, 1) := by decide +kernel
theorem d_Mod_name_11 : decode k_Mod_name 11 = .ok (.ifCond .lt 24, 3) := by decide +kernel
theorem d_Mod_name_14 : decode k_Mod_name 14 = .ok (.iload_n 2, 1) := by decide +kernel
theorem d_Mod_name_15 : decode k_Mod_name 15 = .ok (.iconst 3, 1) := by decide +kernel
theorem d_Mod_name_16 : decode k_Mod_name 16 = .ok (.if_icmp .gt 19, 3) := by decide +kernel
theorem d_Mod_name_19 : decode k_Mod_name 19 = .ok (.iload_n 3, 1) := by decide +kernel
theorem d_Mod_name_20 : decode k_Mod_name 20 = .ok (.invokestatic 69, 3) := by decide +kernel
theorem d_Mod_name_23 : decode k_Mod_name 23 = .ok (.ifCond .eq 12, 3) := by decide +kernel
theorem d_Mod_name_26 : decode k_Mod_name 26 = .ok (.aload_n 0, 1) := by decide +kernel
theorem d_Mod_name_27 : decode k_Mod_name 27 = .ok (.getfield 63, 3) := by decide +kernel
theorem d_Mod_name_30 : decode k_Mod_name 30 = .ok (.bipush 24, 2) := by decide +kernel
theorem d_Mod_name_32 : decode k_Mod_name 32 = .ok (.if_icmp .lt 5, 3) := by decide +kernel
theorem d_Mod_name_35 : decode k_Mod_name 35 = .ok (.iconst (-1), 1) := by decide +kernel
theorem d_Mod_name_36 : decode k_Mod_name 36 = .ok (.ireturn, 1) := by decide +kernel
theorem d_Mod_name_37 : decode k_Mod_name 37 = .ok (.aload_n 0, 1) := by decide +kernel
theorem d_Mod_name_38 : decode k_Mod_name 38 = .ok (.iconst 1, 1) := by decide +kernel
theorem d_Mod_name_39 : decode k_Mod_name 39 = .ok (.iload_n 1, 1) := by decide +kernel
theorem d_Mod_name_40 : decode k_Mod_name 40 = .ok (.iload_n 3, 1) := by decide +kernel
theorem d_Mod_name_41 : decode k_Mod_name 41 = .ok (.iload 4, 2) := by decide +kernel
theorem d_Mod_name_43 : decode k_Mod_name 43 = .ok (.iload 5, 2) := by decide +kernel
theorem d_Mod_name_45 : decode k_Mod_name 45 = .ok (.invokevirtual 73, 3) := by decide +kernel
theorem d_Mod_name_48 : decode k_Mod_name 48 = .ok (.istore 6, 2) := by decide +kernel
theorem d_Mod_name_50 : decode k_Mod_name 50 = .ok (.aload_n 0, 1) := by decide +kernel
theorem d_Mod_name_51 : decode k_Mod_name 51 = .ok (.getfield 20, 3) := by decide +kernel
theorem d_Mod_name_54 : decode k_Mod_name 54 = .ok (.iload 6, 2) := by decide +kernel
theorem d_Mod_name_56 : decode k_Mod_name 56 = .ok (.iload_n 2, 1) := by decide +kernel
theorem d_Mod_name_57 : decode k_Mod_name 57 = .ok (.iastore, 1) := by decide +kernel
theorem d_Mod_name_58 : decode k_Mod_name 58 = .ok (.aload_n 0, 1) := by decide +kernel
theorem d_Mod_name_59 : decode k_Mod_name 59 = .ok (.getfield 47, 3) := by decide +kernel
theorem d_Mod_name_62 : decode k_Mod_name 62 = .ok (.iload 6, 2) := by decide +kernel
theorem d_Mod_name_64 : decode k_Mod_name 64 = .ok (.iconst 0, 1) := by decide +kernel
theorem d_Mod_name_65 : decode k_Mod_name 65 = .ok (.bastore, 1) := by decide +kernel
theorem d_Mod_name_66 : decode k_Mod_name 66 = .ok (.iload 6, 2) := by decide +kernel
theorem d_Mod_name_68 : decode k_Mod_name 68 = .ok (.ireturn, 1) := by decide +kernel
set_option maxHeartbeats 4000000 in
set_option maxRecDepth 100000 in
theorem c_Mod_name (l : Launch) {B : Nat} {D : va_G} {cI cZ cQ : ClassId} {w : mm_M} {sz : Nat} {b : Nat} {N : Nat → Nat → Nat} {S : Nat → Nat → Int32} {ir mr sr fr to : Int32} (hM : mo_I b cI cZ N S w) (hn : N 0 0 ≤ 24) : Met l y_Mod_name ws_Mod_name (kk_rm 2 0 0) (kk_Pc B D cI cZ cQ [.ref (b + 14), .int ir, .int mr, .int sr, .int fr, .int to] w sz) (kk_Qi B D (fun r w' sz' => r = (if na_ok N ir mr sr then nI (N 0 0) else -1) ∧ mo_I b cI cZ (na_N N ir mr sr) (na_S N S ir mr sr fr to) w' ∧ (∀ j, ¬ (b + 14 ≤ j ∧ j < b + 31) → w' j = w j) ∧ sz' = sz)) 0 0 (fun q => B ≤ q) := by
  refine Met.ofW (cc := k_Mod_name) (maxL := 7) (ret := (some .int)) (by decide) rfl ?_
  intro p e s m args below meth c s₁ BB hml hv
  obtain ⟨rfl, hK, hP, hz, hBz⟩ := hv
  have hx := BB.exec
  have hb := BB.bytes
  have hr := BB.returns
  have hts := atoms_spec (ws := ws_Mod_name) BB.pre
  have hown : s.vm.findClass "DelegationClosureModel" = some m.cls := findClass_of_methodNamed BB.named
  have hlocks := BB.notSynchronized
  have hS : mm_S B s.heap s.heap [] := va_S.rf
  have hl := lv_entry ([.ref (b + 14), .int ir, .int mr, .int sr, .int fr, .int to]) (n := 7) (Nat.le_of_ble_eq_true rfl)
  rw [lg_entry_eq]
  generalize (lg_sl ([.ref (b + 14), .int ir, .int mr, .int sr, .int fr, .int to]) ++ List.replicate (7 - (lg_sl ([.ref (b + 14), .int ir, .int mr, .int sr, .int fr, .int to])).length) Slot.unset).toArray = ls at hl ⊢
  have hl : lv_has ls 7 [(0, .ref (b + 14)), (1, .int ir), (2, .int mr), (3, .int sr), (4, .int fr), (5, .int to)] := hl
  have m0 : w (b + 14) = some (.inr (9, [.int (nI (N 0 0)), .ref (b + 15), .ref (b + 16), .ref (b + 17), .ref (b + 18), .ref (b + 19), .ref (b + 20), .ref (b + 21), .ref (b + 22), .ref (b + 23), .ref (b + 24), .ref (b + 25), .ref (b + 26), .ref (b + 27), .ref (b + 28), .ref (b + 29), .int (nI (N 16 0)), .int (nI (N 17 0)), .int (nI (N 18 0)), .ref (b + 30), .int (nI (N 20 0)), .int (S 21 0), .int (S 22 0), .int (S 23 0), .int (S 24 0), .int (nI (N 25 0)), .int (nI (N 26 0))])) := hM.1
  have m1 : w (b + 15) = some (.inl (cZ, 24, .inl (fun i => nI ((N 1) i)))) := hM.2 1 (by decide) (by decide)
  have m2 : w (b + 16) = some (.inl (cZ, 24, .inl (fun i => nI ((N 2) i)))) := hM.2 2 (by decide) (by decide)
  have m3 : w (b + 17) = some (.inl (cI, 24, .inl (fun i => nI ((N 3) i)))) := hM.2 3 (by decide) (by decide)
  have m4 : w (b + 18) = some (.inl (cI, 24, .inl (fun i => nI ((N 4) i)))) := hM.2 4 (by decide) (by decide)
  have m5 : w (b + 19) = some (.inl (cI, 24, .inl (S 5))) := hM.2 5 (by decide) (by decide)
  have m6 : w (b + 20) = some (.inl (cI, 24, .inl (S 6))) := hM.2 6 (by decide) (by decide)
  have m7 : w (b + 21) = some (.inl (cI, 72, .inl (fun i => nI ((N 7) i)))) := hM.2 7 (by decide) (by decide)
  have m8 : w (b + 22) = some (.inl (cI, 24, .inl (fun i => nI ((N 8) i)))) := hM.2 8 (by decide) (by decide)
  have m9 : w (b + 23) = some (.inl (cI, 24, .inl (fun i => nI ((N 9) i)))) := hM.2 9 (by decide) (by decide)
  have m10 : w (b + 24) = some (.inl (cI, 24, .inl (fun i => nI ((N 10) i)))) := hM.2 10 (by decide) (by decide)
  have m11 : w (b + 25) = some (.inl (cI, 24, .inl (S 11))) := hM.2 11 (by decide) (by decide)
  have m12 : w (b + 26) = some (.inl (cI, 24, .inl (S 12))) := hM.2 12 (by decide) (by decide)
  have m13 : w (b + 27) = some (.inl (cZ, 24, .inl (fun i => nI ((N 13) i)))) := hM.2 13 (by decide) (by decide)
  have m14 : w (b + 28) = some (.inl (cI, 256, .inl (fun i => nI ((N 14) i)))) := hM.2 14 (by decide) (by decide)
  have m15 : w (b + 29) = some (.inl (cI, 24, .inl (fun i => nI ((N 15) i)))) := hM.2 15 (by decide) (by decide)
  have m16 : w (b + 30) = some (.inl (cI, 5, .inl (fun i => nI ((N 19) i)))) := hM.2 16 (by decide) (by decide)
  by_cases hok : na_ok N ir mr sr
  · obtain ⟨a9, ha9, rfl⟩ := kk_lim_of hok.1 (by omega)
    obtain ⟨b9, hb9, rfl⟩ := kk_lim_of hok.2.1 (by omega)
    obtain ⟨s9, rfl, hs9⟩ := wf_sub_of hok.2.2.1
    refine lv_iload_n hx hb d_Mod_name_0 rfl (lv_at hl 1 rfl) ?_
    refine lv_if_lt (tgt := 35) hx hb d_Mod_name_1 (by decide) (fun cc1 => ?_) (fun cc1 => ?_)
    · rw [← nI_0] at cc1
      have cc1 : a9 < 0 := (nI_ltI (by omega) (by omega)).mp cc1
      exact absurd cc1 (by omega)
    · rw [← nI_0] at cc1
      have cc1 : ¬ (a9 < 0) := fun q => cc1 ((nI_ltI (by omega) (by omega)).mpr q)
      refine lv_iload_n hx hb d_Mod_name_4 rfl (lv_at hl 1 rfl) ?_
      refine lv_bipush (v := nI 7) hx hb d_Mod_name_5 (by decide) ?_
      refine lv_icmp_gt (tgt := 35) hx hb d_Mod_name_7 (by decide) (fun cc2 => ?_) (fun cc2 => ?_)
      · have cc2 : 7 < a9 := (nI_ltI (by omega) (by omega)).mp cc2
        exact absurd cc2 (by omega)
      · have cc2 : ¬ (7 < a9) := fun q => cc2 ((nI_ltI (by omega) (by omega)).mpr q)
        refine lv_iload_n hx hb d_Mod_name_10 rfl (lv_at hl 2 rfl) ?_
        refine lv_if_lt (tgt := 35) hx hb d_Mod_name_11 (by decide) (fun cc3 => ?_) (fun cc3 => ?_)
        · rw [← nI_0] at cc3
          have cc3 : b9 < 0 := (nI_ltI (by omega) (by omega)).mp cc3
          exact absurd cc3 (by omega)
        · rw [← nI_0] at cc3
          have cc3 : ¬ (b9 < 0) := fun q => cc3 ((nI_ltI (by omega) (by omega)).mpr q)
          refine lv_iload_n hx hb d_Mod_name_14 rfl (lv_at hl 2 rfl) ?_
          refine lv_iconst (v := nI 3) hx hb d_Mod_name_15 (by decide) ?_
          refine lv_icmp_gt (tgt := 35) hx hb d_Mod_name_16 (by decide) (fun cc4 => ?_) (fun cc4 => ?_)
          · have cc4 : 3 < b9 := (nI_ltI (by omega) (by omega)).mp cc4
            exact absurd cc4 (by omega)
          · have cc4 : ¬ (3 < b9) := fun q => cc4 ((nI_ltI (by omega) (by omega)).mpr q)
            refine lv_iload_n hx hb d_Mod_name_19 rfl (lv_at hl 3 rfl) ?_
            refine vp_callSi (va_Run.run (va_runS (As := [.int (nI s9)]) (rest := []) ⟨hx, hb, hml, hown, hts⟩ (c_Mod_isSubject l ) (va_cwS 1 hts (gW_in (hd := [_, _, _, _]) (kk_4 wd_577 wd_578 wd_8 cw_Mod_isSubject)) rfl rfl rfl ds_Mod_isSubject ⟨Nat.le_of_ble_eq_true rfl, Nat.le_of_ble_eq_true rfl⟩) (kk_preS hK hP hz hBz) rfl rfl hl.1 rfl (lv_room (Nat.le_of_ble_eq_true rfl)) d_Mod_name_20 ⟨Nat.le_of_ble_eq_true rfl, Nat.le_of_ble_eq_true rfl⟩)) (fun r5 hr5 => ?_)
            subst hr5
            refine lv_if_eq (tgt := 35) hx hb d_Mod_name_23 (by decide) (fun cc6 => ?_) (fun cc6 => ?_)
            · have cc6 := kk_b0 cc6
              exact absurd hok.2.2.1 cc6
            · have cc6 := kk_b1 cc6
              refine lv_aload_n hx hb d_Mod_name_26 rfl (lv_at hl 0 rfl) ?_
              refine mm_get (D := D) (C := n_Mod) (T := T_Mod) (N := 27) (v := .int (nI (N 0 0))) hx hb hts lay_Mod hown hK.1 hP m0 rfl 0 (by decide) (hts _ (List.mem_cons_of_mem _ wd_491)) (fun _ h9 => h9) rfl d_Mod_name_27 ?_
              refine lv_bipush (v := nI 24) hx hb d_Mod_name_30 (by decide) ?_
              refine lv_icmp_lt (tgt := 37) hx hb d_Mod_name_32 (by decide) (fun cc7 => ?_) (fun cc7 => ?_)
              · have cc7 : N 0 0 < 24 := (nI_ltI (by omega) (by omega)).mp cc7
                refine lv_aload_n hx hb d_Mod_name_37 rfl (lv_at hl 0 rfl) ?_
                refine lv_iconst (v := nI 1) hx hb d_Mod_name_38 (by decide) ?_
                refine lv_iload_n hx hb d_Mod_name_39 rfl (lv_at hl 1 rfl) ?_
                refine lv_iload_n hx hb d_Mod_name_40 rfl (lv_at hl 3 rfl) ?_
                refine lv_iload hx hb d_Mod_name_41 (lv_at hl 4 rfl) ?_
                refine lv_iload hx hb d_Mod_name_43 (lv_at hl 5 rfl) ?_
                refine kk_calli (va_runV (As := [.int (nI 1), .int (nI a9), .int (nI s9), .int fr, .int to]) (rest := []) ⟨hx, hb, hml, hown, hts⟩ (c_Mod_make l (b := b) (N := N) (S := S) hM (by omega) (by omega)) (cwV 5 hts (gW_in (hd := [_, _, _, _, _]) (kk_5 wd_583 wd_585 sl_Mod_make wd_8 cw_Mod_make)) rfl rfl rfl ⟨rfl, ds_Mod_make⟩ ⟨Nat.le_of_ble_eq_true rfl, Nat.le_of_ble_eq_true rfl⟩) (kk_preV hK hP hz hBz m0 rfl) rfl rfl hl.1 rfl (lv_room (Nat.le_of_ble_eq_true rfl)) d_Mod_name_45 ⟨Nat.le_of_ble_eq_true rfl, Nat.le_of_ble_eq_true rfl⟩) hS (fun r8 w8 sz8 H locs hp8 hP hz hS => ?_)
                obtain ⟨hr8, hM8, hf8, hs8⟩ := hp8
                subst hr8
                have hz : H.size = sz := hz.trans hs8
                have m8_0 : w8 (b + 14) = some (.inr (9, [.int (nI ((mk_N N 1 a9 s9) 0 0)), .ref (b + 15), .ref (b + 16), .ref (b + 17), .ref (b + 18), .ref (b + 19), .ref (b + 20), .ref (b + 21), .ref (b + 22), .ref (b + 23), .ref (b + 24), .ref (b + 25), .ref (b + 26), .ref (b + 27), .ref (b + 28), .ref (b + 29), .int (nI ((mk_N N 1 a9 s9) 16 0)), .int (nI ((mk_N N 1 a9 s9) 17 0)), .int (nI ((mk_N N 1 a9 s9) 18 0)), .ref (b + 30), .int (nI ((mk_N N 1 a9 s9) 20 0)), .int ((mk_S S (N 0 0) fr to) 21 0), .int ((mk_S S (N 0 0) fr to) 22 0), .int ((mk_S S (N 0 0) fr to) 23 0), .int ((mk_S S (N 0 0) fr to) 24 0), .int (nI ((mk_N N 1 a9 s9) 25 0)), .int (nI ((mk_N N 1 a9 s9) 26 0))])) := hM8.1
                have m8_1 : w8 (b + 15) = some (.inl (cZ, 24, .inl (fun i => nI (((mk_N N 1 a9 s9) 1) i)))) := hM8.2 1 (by decide) (by decide)
                have m8_2 : w8 (b + 16) = some (.inl (cZ, 24, .inl (fun i => nI (((mk_N N 1 a9 s9) 2) i)))) := hM8.2 2 (by decide) (by decide)
                have m8_3 : w8 (b + 17) = some (.inl (cI, 24, .inl (fun i => nI (((mk_N N 1 a9 s9) 3) i)))) := hM8.2 3 (by decide) (by decide)
                have m8_4 : w8 (b + 18) = some (.inl (cI, 24, .inl (fun i => nI (((mk_N N 1 a9 s9) 4) i)))) := hM8.2 4 (by decide) (by decide)
                have m8_5 : w8 (b + 19) = some (.inl (cI, 24, .inl ((mk_S S (N 0 0) fr to) 5))) := hM8.2 5 (by decide) (by decide)
                have m8_6 : w8 (b + 20) = some (.inl (cI, 24, .inl ((mk_S S (N 0 0) fr to) 6))) := hM8.2 6 (by decide) (by decide)
                have m8_7 : w8 (b + 21) = some (.inl (cI, 72, .inl (fun i => nI (((mk_N N 1 a9 s9) 7) i)))) := hM8.2 7 (by decide) (by decide)
                have m8_8 : w8 (b + 22) = some (.inl (cI, 24, .inl (fun i => nI (((mk_N N 1 a9 s9) 8) i)))) := hM8.2 8 (by decide) (by decide)
                have m8_9 : w8 (b + 23) = some (.inl (cI, 24, .inl (fun i => nI (((mk_N N 1 a9 s9) 9) i)))) := hM8.2 9 (by decide) (by decide)
                have m8_10 : w8 (b + 24) = some (.inl (cI, 24, .inl (fun i => nI (((mk_N N 1 a9 s9) 10) i)))) := hM8.2 10 (by decide) (by decide)
                have m8_11 : w8 (b + 25) = some (.inl (cI, 24, .inl ((mk_S S (N 0 0) fr to) 11))) := hM8.2 11 (by decide) (by decide)
                have m8_12 : w8 (b + 26) = some (.inl (cI, 24, .inl ((mk_S S (N 0 0) fr to) 12))) := hM8.2 12 (by decide) (by decide)
                have m8_13 : w8 (b + 27) = some (.inl (cZ, 24, .inl (fun i => nI (((mk_N N 1 a9 s9) 13) i)))) := hM8.2 13 (by decide) (by decide)
                have m8_14 : w8 (b + 28) = some (.inl (cI, 256, .inl (fun i => nI (((mk_N N 1 a9 s9) 14) i)))) := hM8.2 14 (by decide) (by decide)
                have m8_15 : w8 (b + 29) = some (.inl (cI, 24, .inl (fun i => nI (((mk_N N 1 a9 s9) 15) i)))) := hM8.2 15 (by decide) (by decide)
                have m8_16 : w8 (b + 30) = some (.inl (cI, 5, .inl (fun i => nI (((mk_N N 1 a9 s9) 19) i)))) := hM8.2 16 (by decide) (by decide)
                refine lv_istore hx hb d_Mod_name_48 hl (by decide) rfl (fun ls hl => ?_)
                have hl : lv_has ls 7 [(6, .int (nI (N 0 0))), (0, .ref (b + 14)), (1, .int (nI a9)), (2, .int (nI b9)), (3, .int (nI s9)), (4, .int fr), (5, .int to)] := hl
                refine lv_aload_n hx hb d_Mod_name_50 rfl (lv_at hl 1 rfl) ?_
                refine mm_get (D := D) (C := n_Mod) (T := T_Mod) (N := 27) (v := .ref (b + 18)) hx hb hts lay_Mod hown hK.1 hP m8_0 rfl 4 (by decide) (hts _ (List.mem_cons_of_mem _ wd_495)) (fun _ h9 => h9) rfl d_Mod_name_51 ?_
                refine lv_iload hx hb d_Mod_name_54 (lv_at hl 0 rfl) ?_
                refine lv_iload_n hx hb d_Mod_name_56 rfl (lv_at hl 3 rfl) ?_
                refine mm_iast hx hb hK.1 hP hS 0 m8_4 rfl (N 0 0) rfl (by omega) (by decide) d_Mod_name_57 (fun H locs hP hz1 hS => ?_)
                rw [show upd (fun i => nI (((mk_N N 1 a9 s9) 4) i)) (N 0 0) (nI b9) = fun i => nI ((va_up ((mk_N N 1 a9 s9) 4) (N 0 0) b9) i) from kk_upn _ _ _] at hP
                have hz : H.size = sz := hz1.trans hz
                obtain ⟨w9, hw9⟩ : ∃ z : mm_M, z = mm_up w8 (b + 18) (.inl (cI, 24, .inl (fun i => nI ((va_up ((mk_N N 1 a9 s9) 4) (N 0 0) b9) i)))) := ⟨_, rfl⟩
                have hP : mm_P B D kc w9 H := by rw [hw9]; exact hP
                have fr9 : ∀ j, j ≠ b + 18 → w9 j = w8 j := fun j h9 => by rw [hw9]; exact mm_un h9
                have fa9 : w9 (b + 18) = some (.inl (cI, 24, .inl (fun i => nI ((va_up ((mk_N N 1 a9 s9) 4) (N 0 0) b9) i)))) := by rw [hw9]; exact mm_us _ _ _
                refine lv_aload_n hx hb d_Mod_name_58 rfl (lv_at hl 1 rfl) ?_
                have f10 := (fr9 _ (by omega)).trans (m8_0)
                refine mm_get (D := D) (C := n_Mod) (T := T_Mod) (N := 27) (v := .ref (b + 27)) hx hb hts lay_Mod hown hK.1 hP f10 rfl 13 (by decide) (hts _ (List.mem_cons_of_mem _ wd_504)) (fun _ h9 => h9) rfl d_Mod_name_59 ?_
                refine lv_iload hx hb d_Mod_name_62 (lv_at hl 0 rfl) ?_
                refine lv_iconst (v := nI 0) hx hb d_Mod_name_64 (by decide) ?_
                have f11 := (fr9 _ (by omega)).trans (m8_13)
                refine mm_zast hx hb hK.1 hP hS 1 f11 rfl (N 0 0) rfl (by omega) (by decide) rfl d_Mod_name_65 (fun H locs hP hz1 hS => ?_)
                rw [show upd (fun i => nI (((mk_N N 1 a9 s9) 13) i)) (N 0 0) (nI 0) = fun i => nI ((va_up ((mk_N N 1 a9 s9) 13) (N 0 0) 0) i) from kk_upn _ _ _] at hP
                have hz : H.size = sz := hz1.trans hz
                obtain ⟨w12, hw12⟩ : ∃ z : mm_M, z = mm_up w9 (b + 27) (.inl (cZ, 24, .inl (fun i => nI ((va_up ((mk_N N 1 a9 s9) 13) (N 0 0) 0) i)))) := ⟨_, rfl⟩
                have hP : mm_P B D kc w12 H := by rw [hw12]; exact hP
                have fr12 : ∀ j, j ≠ b + 27 → w12 j = w9 j := fun j h9 => by rw [hw12]; exact mm_un h9
                have fa12 : w12 (b + 27) = some (.inl (cZ, 24, .inl (fun i => nI ((va_up ((mk_N N 1 a9 s9) 13) (N 0 0) 0) i)))) := by rw [hw12]; exact mm_us _ _ _
                refine lv_iload hx hb d_Mod_name_66 (lv_at hl 0 rfl) ?_
                exact W.iret hx hb hr (fun t ht hW => ⟨⟨_, (w12, sz), rfl, ⟨(if_pos hok).symm, (by rw [na_N_pos (by omega) (by omega) (by omega) hok, show na_S N S _ _ _ _ _ = mk_S S (N 0 0) fr to from if_pos hok]; exact mo_mk ((fr12 _ (by omega)).trans (f10)) ((fr12 _ (by omega)).trans ((fr9 _ (by omega)).trans (m8_1))) ((fr12 _ (by omega)).trans ((fr9 _ (by omega)).trans (m8_2))) ((fr12 _ (by omega)).trans ((fr9 _ (by omega)).trans (m8_3))) ((fr12 _ (by omega)).trans (fa9)) ((fr12 _ (by omega)).trans ((fr9 _ (by omega)).trans (m8_5))) ((fr12 _ (by omega)).trans ((fr9 _ (by omega)).trans (m8_6))) ((fr12 _ (by omega)).trans ((fr9 _ (by omega)).trans (m8_7))) ((fr12 _ (by omega)).trans ((fr9 _ (by omega)).trans (m8_8))) ((fr12 _ (by omega)).trans ((fr9 _ (by omega)).trans (m8_9))) ((fr12 _ (by omega)).trans ((fr9 _ (by omega)).trans (m8_10))) ((fr12 _ (by omega)).trans ((fr9 _ (by omega)).trans (m8_11))) ((fr12 _ (by omega)).trans ((fr9 _ (by omega)).trans (m8_12))) fa12 ((fr12 _ (by omega)).trans ((fr9 _ (by omega)).trans (m8_14))) ((fr12 _ (by omega)).trans ((fr9 _ (by omega)).trans (m8_15))) ((fr12 _ (by omega)).trans ((fr9 _ (by omega)).trans (m8_16)))), (fun j hj => (fr12 j (by omega)).trans ((fr9 j (by omega)).trans (hf8 j hj))), rfl⟩, by rw [ht]; exact hP, by rw [ht]; exact hz⟩, hS.F ht⟩) hS.2.2 d_Mod_name_68
              · have cc7 : ¬ (N 0 0 < 24) := fun q => cc7 ((nI_ltI (by omega) (by omega)).mpr q)
                exact absurd hok.2.2.2 (by omega)
  · refine lv_iload_n hx hb d_Mod_name_0 rfl (lv_at hl 1 rfl) ?_
    refine lv_if_lt (tgt := 35) hx hb d_Mod_name_1 (by decide) (fun cc13 => ?_) (fun cc13 => ?_)
    · refine lv_iconst (v := (-1)) hx hb d_Mod_name_35 (by decide) ?_
      exact W.iret hx hb hr (fun t ht hW => ⟨⟨_, (w, sz), rfl, ⟨(if_neg hok).symm, (by rw [show na_N N _ _ _ = N from if_neg hok, show na_S N S _ _ _ _ _ = S from if_neg hok]; exact mo_mk m0 m1 m2 m3 m4 m5 m6 m7 m8 m9 m10 m11 m12 m13 m14 m15 m16), (fun j hj => rfl), rfl⟩, by rw [ht]; exact hP, by rw [ht]; exact hz⟩, hS.F ht⟩) hS.2.2 d_Mod_name_36
    · refine lv_iload_n hx hb d_Mod_name_4 rfl (lv_at hl 1 rfl) ?_
      refine lv_bipush (v := nI 7) hx hb d_Mod_name_5 (by decide) ?_
      refine lv_icmp_gt (tgt := 35) hx hb d_Mod_name_7 (by decide) (fun cc14 => ?_) (fun cc14 => ?_)
      · refine lv_iconst (v := (-1)) hx hb d_Mod_name_35 (by decide) ?_
        exact W.iret hx hb hr (fun t ht hW => ⟨⟨_, (w, sz), rfl, ⟨(if_neg hok).symm, (by rw [show na_N N _ _ _ = N from if_neg hok, show na_S N S _ _ _ _ _ = S from if_neg hok]; exact mo_mk m0 m1 m2 m3 m4 m5 m6 m7 m8 m9 m10 m11 m12 m13 m14 m15 m16), (fun j hj => rfl), rfl⟩, by rw [ht]; exact hP, by rw [ht]; exact hz⟩, hS.F ht⟩) hS.2.2 d_Mod_name_36
      · refine lv_iload_n hx hb d_Mod_name_10 rfl (lv_at hl 2 rfl) ?_
        refine lv_if_lt (tgt := 35) hx hb d_Mod_name_11 (by decide) (fun cc15 => ?_) (fun cc15 => ?_)
        · refine lv_iconst (v := (-1)) hx hb d_Mod_name_35 (by decide) ?_
          exact W.iret hx hb hr (fun t ht hW => ⟨⟨_, (w, sz), rfl, ⟨(if_neg hok).symm, (by rw [show na_N N _ _ _ = N from if_neg hok, show na_S N S _ _ _ _ _ = S from if_neg hok]; exact mo_mk m0 m1 m2 m3 m4 m5 m6 m7 m8 m9 m10 m11 m12 m13 m14 m15 m16), (fun j hj => rfl), rfl⟩, by rw [ht]; exact hP, by rw [ht]; exact hz⟩, hS.F ht⟩) hS.2.2 d_Mod_name_36
        · refine lv_iload_n hx hb d_Mod_name_14 rfl (lv_at hl 2 rfl) ?_
          refine lv_iconst (v := nI 3) hx hb d_Mod_name_15 (by decide) ?_
          refine lv_icmp_gt (tgt := 35) hx hb d_Mod_name_16 (by decide) (fun cc16 => ?_) (fun cc16 => ?_)
          · refine lv_iconst (v := (-1)) hx hb d_Mod_name_35 (by decide) ?_
            exact W.iret hx hb hr (fun t ht hW => ⟨⟨_, (w, sz), rfl, ⟨(if_neg hok).symm, (by rw [show na_N N _ _ _ = N from if_neg hok, show na_S N S _ _ _ _ _ = S from if_neg hok]; exact mo_mk m0 m1 m2 m3 m4 m5 m6 m7 m8 m9 m10 m11 m12 m13 m14 m15 m16), (fun j hj => rfl), rfl⟩, by rw [ht]; exact hP, by rw [ht]; exact hz⟩, hS.F ht⟩) hS.2.2 d_Mod_name_36
          · refine lv_iload_n hx hb d_Mod_name_19 rfl (lv_at hl 3 rfl) ?_
            refine vp_callSi (va_Run.run (va_runS (As := [.int sr]) (rest := []) ⟨hx, hb, hml, hown, hts⟩ (c_Mod_isSubject l ) (va_cwS 1 hts (gW_in (hd := [_, _, _, _]) (kk_4 wd_577 wd_578 wd_8 cw_Mod_isSubject)) rfl rfl rfl ds_Mod_isSubject ⟨Nat.le_of_ble_eq_true rfl, Nat.le_of_ble_eq_true rfl⟩) (kk_preS hK hP hz hBz) rfl rfl hl.1 rfl (lv_room (Nat.le_of_ble_eq_true rfl)) d_Mod_name_20 ⟨Nat.le_of_ble_eq_true rfl, Nat.le_of_ble_eq_true rfl⟩)) (fun r17 hr17 => ?_)
            subst hr17
            refine lv_if_eq (tgt := 35) hx hb d_Mod_name_23 (by decide) (fun cc18 => ?_) (fun cc18 => ?_)
            · have cc18 := kk_b0 cc18
              refine lv_iconst (v := (-1)) hx hb d_Mod_name_35 (by decide) ?_
              exact W.iret hx hb hr (fun t ht hW => ⟨⟨_, (w, sz), rfl, ⟨(if_neg hok).symm, (by rw [show na_N N _ _ _ = N from if_neg hok, show na_S N S _ _ _ _ _ = S from if_neg hok]; exact mo_mk m0 m1 m2 m3 m4 m5 m6 m7 m8 m9 m10 m11 m12 m13 m14 m15 m16), (fun j hj => rfl), rfl⟩, by rw [ht]; exact hP, by rw [ht]; exact hz⟩, hS.F ht⟩) hS.2.2 d_Mod_name_36
            · have cc18 := kk_b1 cc18
              refine lv_aload_n hx hb d_Mod_name_26 rfl (lv_at hl 0 rfl) ?_
              refine mm_get (D := D) (C := n_Mod) (T := T_Mod) (N := 27) (v := .int (nI (N 0 0))) hx hb hts lay_Mod hown hK.1 hP m0 rfl 0 (by decide) (hts _ (List.mem_cons_of_mem _ wd_491)) (fun _ h9 => h9) rfl d_Mod_name_27 ?_
              refine lv_bipush (v := nI 24) hx hb d_Mod_name_30 (by decide) ?_
              refine lv_icmp_lt (tgt := 37) hx hb d_Mod_name_32 (by decide) (fun cc19 => ?_) (fun cc19 => ?_)
              · have cc19 : N 0 0 < 24 := (nI_ltI (by omega) (by omega)).mp cc19
                exact absurd ⟨⟨cc13, fun q => cc14 ((kk_gtm 7 8 rfl (by decide)).mpr q)⟩, ⟨cc15, fun q => cc16 ((kk_gtm 3 4 rfl (by decide)).mpr q)⟩, cc18, by omega⟩ hok
              · have cc19 : ¬ (N 0 0 < 24) := fun q => cc19 ((nI_ltI (by omega) (by omega)).mpr q)
                refine lv_iconst (v := (-1)) hx hb d_Mod_name_35 (by decide) ?_
                exact W.iret hx hb hr (fun t ht hW => ⟨⟨_, (w, sz), rfl, ⟨(if_neg hok).symm, (by rw [show na_N N _ _ _ = N from if_neg hok, show na_S N S _ _ _ _ _ = S from if_neg hok]; exact mo_mk m0 m1 m2 m3 m4 m5 m6 m7 m8 m9 m10 m11 m12 m13 m14 m15 m16), (fun j hj => rfl), rfl⟩, by rw [ht]; exact hP, by rw [ht]; exact hz⟩, hS.F ht⟩) hS.2.2 d_Mod_name_36
theorem d_Mod_permit_0 : decode k_Mod_permit 0 = .ok (.iload_n 1, 1) := by decide +kernel
theorem d_Mod_permit_1 : decode k_Mod_permit 1 = .ok (.ifCond .lt 25, 3) := by decide +kernel
theorem d_Mod_permit_4 : decode k_Mod_permit 4 = .ok (.iload_n 1, 1) := by decide +kernel
theorem d_Mod_permit_5 : decode k_Mod_permit 5 = .ok (.bipush 8, 2) := by decide +kernel
theorem d_Mod_permit_7 : decode k_Mod_permit 7 = .ok (.if_icmp .gt 19, 3) := by decide +kernel
theorem d_Mod_permit_10 : decode k_Mod_permit 10 = .ok (.iload_n 2, 1) := by decide +kernel
theorem d_Mod_permit_11 : decode k_Mod_permit 11 = .ok (.invokestatic 69, 3) := by decide +kernel
theorem d_Mod_permit_14 : decode k_Mod_permit 14 = .ok (.ifCond .eq 12, 3) := by decide +kernel
theorem d_Mod_permit_17 : decode k_Mod_permit 17 = .ok (.aload_n 0, 1) := by decide +kernel
theorem d_Mod_permit_18 : decode k_Mod_permit 18 = .ok (.getfield 63, 3) := by decide +kernel
theorem d_Mod_permit_21 : decode k_Mod_permit 21 = .ok (.bipush 24, 2) := by decide +kernel
theorem d_Mod_permit_23 : decode k_Mod_permit 23 = .ok (.if_icmp .lt 5, 3) := by decide +kernel
theorem d_Mod_permit_26 : decode k_Mod_permit 26 = .ok (.iconst (-1), 1) := by decide +kernel
theorem d_Mod_permit_27 : decode k_Mod_permit 27 = .ok (.ireturn, 1) := by decide +kernel
theorem d_Mod_permit_28 : decode k_Mod_permit 28 = .ok (.aload_n 0, 1) := by decide +kernel
theorem d_Mod_permit_29 : decode k_Mod_permit 29 = .ok (.iconst 0, 1) := by decide +kernel
theorem d_Mod_permit_30 : decode k_Mod_permit 30 = .ok (.iload_n 1, 1) := by decide +kernel
theorem d_Mod_permit_31 : decode k_Mod_permit 31 = .ok (.iload_n 2, 1) := by decide +kernel
theorem d_Mod_permit_32 : decode k_Mod_permit 32 = .ok (.iload 4, 2) := by decide +kernel
theorem d_Mod_permit_34 : decode k_Mod_permit 34 = .ok (.iload 5, 2) := by decide +kernel
theorem d_Mod_permit_36 : decode k_Mod_permit 36 = .ok (.invokevirtual 73, 3) := by decide +kernel
theorem d_Mod_permit_39 : decode k_Mod_permit 39 = .ok (.istore 6, 2) := by decide +kernel
theorem d_Mod_permit_41 : decode k_Mod_permit 41 = .ok (.aload_n 0, 1) := by decide +kernel
theorem d_Mod_permit_42 : decode k_Mod_permit 42 = .ok (.getfield 20, 3) := by decide +kernel
theorem d_Mod_permit_45 : decode k_Mod_permit 45 = .ok (.iload 6, 2) := by decide +kernel
theorem d_Mod_permit_47 : decode k_Mod_permit 47 = .ok (.iconst 0, 1) := by decide +kernel
theorem d_Mod_permit_48 : decode k_Mod_permit 48 = .ok (.iastore, 1) := by decide +kernel
theorem d_Mod_permit_49 : decode k_Mod_permit 49 = .ok (.aload_n 0, 1) := by decide +kernel
theorem d_Mod_permit_50 : decode k_Mod_permit 50 = .ok (.getfield 47, 3) := by decide +kernel
theorem d_Mod_permit_53 : decode k_Mod_permit 53 = .ok (.iload 6, 2) := by decide +kernel
theorem d_Mod_permit_55 : decode k_Mod_permit 55 = .ok (.iload_n 3, 1) := by decide +kernel
theorem d_Mod_permit_56 : decode k_Mod_permit 56 = .ok (.bastore, 1) := by decide +kernel
theorem d_Mod_permit_57 : decode k_Mod_permit 57 = .ok (.iload 6, 2) := by decide +kernel
theorem d_Mod_permit_59 : decode k_Mod_permit 59 = .ok (.ireturn, 1) := by decide +kernel
set_option maxHeartbeats 4000000 in
set_option maxRecDepth 100000 in
theorem c_Mod_permit (l : Launch) {B : Nat} {D : va_G} {cI cZ cQ : ClassId} {w : mm_M} {sz : Nat} {b : Nat} {N : Nat → Nat → Nat} {S : Nat → Nat → Int32} {ir sr : Int32} {dl : Nat} {fr to : Int32} (hM : mo_I b cI cZ N S w) (hn : N 0 0 ≤ 24) (hdl : dl ≤ 1) : Met l y_Mod_permit ws_Mod_permit (kk_rm 2 0 0) (kk_Pc B D cI cZ cQ [.ref (b + 14), .int ir, .int sr, .int (nI dl), .int fr, .int to] w sz) (kk_Qi B D (fun r w' sz' => r = (if pe_ok N ir sr then nI (N 0 0) else -1) ∧ mo_I b cI cZ (pe_N N ir sr (nI dl)) (pe_S N S ir sr fr to) w' ∧ (∀ j, ¬ (b + 14 ≤ j ∧ j < b + 31) → w' j = w j) ∧ sz' = sz)) 0 0 (fun q => B ≤ q) := by
  refine Met.ofW (cc := k_Mod_permit) (maxL := 7) (ret := (some .int)) (by decide) rfl ?_
  intro p e s m args below meth c s₁ BB hml hv
  obtain ⟨rfl, hK, hP, hz, hBz⟩ := hv
  have hx := BB.exec
  have hb := BB.bytes
  have hr := BB.returns
  have hts := atoms_spec (ws := ws_Mod_permit) BB.pre
  have hown : s.vm.findClass "DelegationClosureModel" = some m.cls := findClass_of_methodNamed BB.named
  have hlocks := BB.notSynchronized
  have hS : mm_S B s.heap s.heap [] := va_S.rf
  have hl := lv_entry ([.ref (b + 14), .int ir, .int sr, .int (nI dl), .int fr, .int to]) (n := 7) (Nat.le_of_ble_eq_true rfl)
  rw [lg_entry_eq]
  generalize (lg_sl ([.ref (b + 14), .int ir, .int sr, .int (nI dl), .int fr, .int to]) ++ List.replicate (7 - (lg_sl ([.ref (b + 14), .int ir, .int sr, .int (nI dl), .int fr, .int to])).length) Slot.unset).toArray = ls at hl ⊢
  have hl : lv_has ls 7 [(0, .ref (b + 14)), (1, .int ir), (2, .int sr), (3, .int (nI dl)), (4, .int fr), (5, .int to)] := hl
  have m0 : w (b + 14) = some (.inr (9, [.int (nI (N 0 0)), .ref (b + 15), .ref (b + 16), .ref (b + 17), .ref (b + 18), .ref (b + 19), .ref (b + 20), .ref (b + 21), .ref (b + 22), .ref (b + 23), .ref (b + 24), .ref (b + 25), .ref (b + 26), .ref (b + 27), .ref (b + 28), .ref (b + 29), .int (nI (N 16 0)), .int (nI (N 17 0)), .int (nI (N 18 0)), .ref (b + 30), .int (nI (N 20 0)), .int (S 21 0), .int (S 22 0), .int (S 23 0), .int (S 24 0), .int (nI (N 25 0)), .int (nI (N 26 0))])) := hM.1
  have m1 : w (b + 15) = some (.inl (cZ, 24, .inl (fun i => nI ((N 1) i)))) := hM.2 1 (by decide) (by decide)
  have m2 : w (b + 16) = some (.inl (cZ, 24, .inl (fun i => nI ((N 2) i)))) := hM.2 2 (by decide) (by decide)
  have m3 : w (b + 17) = some (.inl (cI, 24, .inl (fun i => nI ((N 3) i)))) := hM.2 3 (by decide) (by decide)
  have m4 : w (b + 18) = some (.inl (cI, 24, .inl (fun i => nI ((N 4) i)))) := hM.2 4 (by decide) (by decide)
  have m5 : w (b + 19) = some (.inl (cI, 24, .inl (S 5))) := hM.2 5 (by decide) (by decide)
  have m6 : w (b + 20) = some (.inl (cI, 24, .inl (S 6))) := hM.2 6 (by decide) (by decide)
  have m7 : w (b + 21) = some (.inl (cI, 72, .inl (fun i => nI ((N 7) i)))) := hM.2 7 (by decide) (by decide)
  have m8 : w (b + 22) = some (.inl (cI, 24, .inl (fun i => nI ((N 8) i)))) := hM.2 8 (by decide) (by decide)
  have m9 : w (b + 23) = some (.inl (cI, 24, .inl (fun i => nI ((N 9) i)))) := hM.2 9 (by decide) (by decide)
  have m10 : w (b + 24) = some (.inl (cI, 24, .inl (fun i => nI ((N 10) i)))) := hM.2 10 (by decide) (by decide)
  have m11 : w (b + 25) = some (.inl (cI, 24, .inl (S 11))) := hM.2 11 (by decide) (by decide)
  have m12 : w (b + 26) = some (.inl (cI, 24, .inl (S 12))) := hM.2 12 (by decide) (by decide)
  have m13 : w (b + 27) = some (.inl (cZ, 24, .inl (fun i => nI ((N 13) i)))) := hM.2 13 (by decide) (by decide)
  have m14 : w (b + 28) = some (.inl (cI, 256, .inl (fun i => nI ((N 14) i)))) := hM.2 14 (by decide) (by decide)
  have m15 : w (b + 29) = some (.inl (cI, 24, .inl (fun i => nI ((N 15) i)))) := hM.2 15 (by decide) (by decide)
  have m16 : w (b + 30) = some (.inl (cI, 5, .inl (fun i => nI ((N 19) i)))) := hM.2 16 (by decide) (by decide)
  by_cases hok : pe_ok N ir sr
  · obtain ⟨a9, ha9, rfl⟩ := kk_lim_of hok.1 (by omega)
    obtain ⟨s9, rfl, hs9⟩ := wf_sub_of hok.2.1
    refine lv_iload_n hx hb d_Mod_permit_0 rfl (lv_at hl 1 rfl) ?_
    refine lv_if_lt (tgt := 26) hx hb d_Mod_permit_1 (by decide) (fun cc1 => ?_) (fun cc1 => ?_)
    · rw [← nI_0] at cc1
      have cc1 : a9 < 0 := (nI_ltI (by omega) (by omega)).mp cc1
      exact absurd cc1 (by omega)
    · rw [← nI_0] at cc1
      have cc1 : ¬ (a9 < 0) := fun q => cc1 ((nI_ltI (by omega) (by omega)).mpr q)
      refine lv_iload_n hx hb d_Mod_permit_4 rfl (lv_at hl 1 rfl) ?_
      refine lv_bipush (v := nI 8) hx hb d_Mod_permit_5 (by decide) ?_
      refine lv_icmp_gt (tgt := 26) hx hb d_Mod_permit_7 (by decide) (fun cc2 => ?_) (fun cc2 => ?_)
      · have cc2 : 8 < a9 := (nI_ltI (by omega) (by omega)).mp cc2
        exact absurd cc2 (by omega)
      · have cc2 : ¬ (8 < a9) := fun q => cc2 ((nI_ltI (by omega) (by omega)).mpr q)
        refine lv_iload_n hx hb d_Mod_permit_10 rfl (lv_at hl 2 rfl) ?_
        refine vp_callSi (va_Run.run (va_runS (As := [.int (nI s9)]) (rest := []) ⟨hx, hb, hml, hown, hts⟩ (c_Mod_isSubject l ) (va_cwS 1 hts (gW_in (hd := [_, _, _, _]) (kk_4 wd_577 wd_578 wd_8 cw_Mod_isSubject)) rfl rfl rfl ds_Mod_isSubject ⟨Nat.le_of_ble_eq_true rfl, Nat.le_of_ble_eq_true rfl⟩) (kk_preS hK hP hz hBz) rfl rfl hl.1 rfl (lv_room (Nat.le_of_ble_eq_true rfl)) d_Mod_permit_11 ⟨Nat.le_of_ble_eq_true rfl, Nat.le_of_ble_eq_true rfl⟩)) (fun r3 hr3 => ?_)
        subst hr3
        refine lv_if_eq (tgt := 26) hx hb d_Mod_permit_14 (by decide) (fun cc4 => ?_) (fun cc4 => ?_)
        · have cc4 := kk_b0 cc4
          exact absurd hok.2.1 cc4
        · have cc4 := kk_b1 cc4
          refine lv_aload_n hx hb d_Mod_permit_17 rfl (lv_at hl 0 rfl) ?_
          refine mm_get (D := D) (C := n_Mod) (T := T_Mod) (N := 27) (v := .int (nI (N 0 0))) hx hb hts lay_Mod hown hK.1 hP m0 rfl 0 (by decide) (hts _ (List.mem_cons_of_mem _ wd_491)) (fun _ h9 => h9) rfl d_Mod_permit_18 ?_
          refine lv_bipush (v := nI 24) hx hb d_Mod_permit_21 (by decide) ?_
          refine lv_icmp_lt (tgt := 28) hx hb d_Mod_permit_23 (by decide) (fun cc5 => ?_) (fun cc5 => ?_)
          · have cc5 : N 0 0 < 24 := (nI_ltI (by omega) (by omega)).mp cc5
            refine lv_aload_n hx hb d_Mod_permit_28 rfl (lv_at hl 0 rfl) ?_
            refine lv_iconst (v := nI 0) hx hb d_Mod_permit_29 (by decide) ?_
            refine lv_iload_n hx hb d_Mod_permit_30 rfl (lv_at hl 1 rfl) ?_
            refine lv_iload_n hx hb d_Mod_permit_31 rfl (lv_at hl 2 rfl) ?_
            refine lv_iload hx hb d_Mod_permit_32 (lv_at hl 4 rfl) ?_
            refine lv_iload hx hb d_Mod_permit_34 (lv_at hl 5 rfl) ?_
            refine kk_calli (va_runV (As := [.int (nI 0), .int (nI a9), .int (nI s9), .int fr, .int to]) (rest := []) ⟨hx, hb, hml, hown, hts⟩ (c_Mod_make l (b := b) (N := N) (S := S) hM (by omega) (by omega)) (cwV 5 hts (gW_in (hd := [_, _, _, _, _]) (kk_5 wd_583 wd_585 sl_Mod_make wd_8 cw_Mod_make)) rfl rfl rfl ⟨rfl, ds_Mod_make⟩ ⟨Nat.le_of_ble_eq_true rfl, Nat.le_of_ble_eq_true rfl⟩) (kk_preV hK hP hz hBz m0 rfl) rfl rfl hl.1 rfl (lv_room (Nat.le_of_ble_eq_true rfl)) d_Mod_permit_36 ⟨Nat.le_of_ble_eq_true rfl, Nat.le_of_ble_eq_true rfl⟩) hS (fun r6 w6 sz6 H locs hp6 hP hz hS => ?_)
            obtain ⟨hr6, hM6, hf6, hs6⟩ := hp6
            subst hr6
            have hz : H.size = sz := hz.trans hs6
            have m6_0 : w6 (b + 14) = some (.inr (9, [.int (nI ((mk_N N 0 a9 s9) 0 0)), .ref (b + 15), .ref (b + 16), .ref (b + 17), .ref (b + 18), .ref (b + 19), .ref (b + 20), .ref (b + 21), .ref (b + 22), .ref (b + 23), .ref (b + 24), .ref (b + 25), .ref (b + 26), .ref (b + 27), .ref (b + 28), .ref (b + 29), .int (nI ((mk_N N 0 a9 s9) 16 0)), .int (nI ((mk_N N 0 a9 s9) 17 0)), .int (nI ((mk_N N 0 a9 s9) 18 0)), .ref (b + 30), .int (nI ((mk_N N 0 a9 s9) 20 0)), .int ((mk_S S (N 0 0) fr to) 21 0), .int ((mk_S S (N 0 0) fr to) 22 0), .int ((mk_S S (N 0 0) fr to) 23 0), .int ((mk_S S (N 0 0) fr to) 24 0), .int (nI ((mk_N N 0 a9 s9) 25 0)), .int (nI ((mk_N N 0 a9 s9) 26 0))])) := hM6.1
            have m6_1 : w6 (b + 15) = some (.inl (cZ, 24, .inl (fun i => nI (((mk_N N 0 a9 s9) 1) i)))) := hM6.2 1 (by decide) (by decide)
            have m6_2 : w6 (b + 16) = some (.inl (cZ, 24, .inl (fun i => nI (((mk_N N 0 a9 s9) 2) i)))) := hM6.2 2 (by decide) (by decide)
            have m6_3 : w6 (b + 17) = some (.inl (cI, 24, .inl (fun i => nI (((mk_N N 0 a9 s9) 3) i)))) := hM6.2 3 (by decide) (by decide)
            have m6_4 : w6 (b + 18) = some (.inl (cI, 24, .inl (fun i => nI (((mk_N N 0 a9 s9) 4) i)))) := hM6.2 4 (by decide) (by decide)
            have m6_5 : w6 (b + 19) = some (.inl (cI, 24, .inl ((mk_S S (N 0 0) fr to) 5))) := hM6.2 5 (by decide) (by decide)
            have m6_6 : w6 (b + 20) = some (.inl (cI, 24, .inl ((mk_S S (N 0 0) fr to) 6))) := hM6.2 6 (by decide) (by decide)
            have m6_7 : w6 (b + 21) = some (.inl (cI, 72, .inl (fun i => nI (((mk_N N 0 a9 s9) 7) i)))) := hM6.2 7 (by decide) (by decide)
            have m6_8 : w6 (b + 22) = some (.inl (cI, 24, .inl (fun i => nI (((mk_N N 0 a9 s9) 8) i)))) := hM6.2 8 (by decide) (by decide)
            have m6_9 : w6 (b + 23) = some (.inl (cI, 24, .inl (fun i => nI (((mk_N N 0 a9 s9) 9) i)))) := hM6.2 9 (by decide) (by decide)
            have m6_10 : w6 (b + 24) = some (.inl (cI, 24, .inl (fun i => nI (((mk_N N 0 a9 s9) 10) i)))) := hM6.2 10 (by decide) (by decide)
            have m6_11 : w6 (b + 25) = some (.inl (cI, 24, .inl ((mk_S S (N 0 0) fr to) 11))) := hM6.2 11 (by decide) (by decide)
            have m6_12 : w6 (b + 26) = some (.inl (cI, 24, .inl ((mk_S S (N 0 0) fr to) 12))) := hM6.2 12 (by decide) (by decide)
            have m6_13 : w6 (b + 27) = some (.inl (cZ, 24, .inl (fun i => nI (((mk_N N 0 a9 s9) 13) i)))) := hM6.2 13 (by decide) (by decide)
            have m6_14 : w6 (b + 28) = some (.inl (cI, 256, .inl (fun i => nI (((mk_N N 0 a9 s9) 14) i)))) := hM6.2 14 (by decide) (by decide)
            have m6_15 : w6 (b + 29) = some (.inl (cI, 24, .inl (fun i => nI (((mk_N N 0 a9 s9) 15) i)))) := hM6.2 15 (by decide) (by decide)
            have m6_16 : w6 (b + 30) = some (.inl (cI, 5, .inl (fun i => nI (((mk_N N 0 a9 s9) 19) i)))) := hM6.2 16 (by decide) (by decide)
            refine lv_istore hx hb d_Mod_permit_39 hl (by decide) rfl (fun ls hl => ?_)
            have hl : lv_has ls 7 [(6, .int (nI (N 0 0))), (0, .ref (b + 14)), (1, .int (nI a9)), (2, .int (nI s9)), (3, .int (nI dl)), (4, .int fr), (5, .int to)] := hl
            refine lv_aload_n hx hb d_Mod_permit_41 rfl (lv_at hl 1 rfl) ?_
            refine mm_get (D := D) (C := n_Mod) (T := T_Mod) (N := 27) (v := .ref (b + 18)) hx hb hts lay_Mod hown hK.1 hP m6_0 rfl 4 (by decide) (hts _ (List.mem_cons_of_mem _ wd_495)) (fun _ h9 => h9) rfl d_Mod_permit_42 ?_
            refine lv_iload hx hb d_Mod_permit_45 (lv_at hl 0 rfl) ?_
            refine lv_iconst (v := nI 0) hx hb d_Mod_permit_47 (by decide) ?_
            refine mm_iast hx hb hK.1 hP hS 0 m6_4 rfl (N 0 0) rfl (by omega) (by decide) d_Mod_permit_48 (fun H locs hP hz1 hS => ?_)
            rw [show upd (fun i => nI (((mk_N N 0 a9 s9) 4) i)) (N 0 0) (nI 0) = fun i => nI ((va_up ((mk_N N 0 a9 s9) 4) (N 0 0) 0) i) from kk_upn _ _ _] at hP
            have hz : H.size = sz := hz1.trans hz
            obtain ⟨w7, hw7⟩ : ∃ z : mm_M, z = mm_up w6 (b + 18) (.inl (cI, 24, .inl (fun i => nI ((va_up ((mk_N N 0 a9 s9) 4) (N 0 0) 0) i)))) := ⟨_, rfl⟩
            have hP : mm_P B D kc w7 H := by rw [hw7]; exact hP
            have fr7 : ∀ j, j ≠ b + 18 → w7 j = w6 j := fun j h9 => by rw [hw7]; exact mm_un h9
            have fa7 : w7 (b + 18) = some (.inl (cI, 24, .inl (fun i => nI ((va_up ((mk_N N 0 a9 s9) 4) (N 0 0) 0) i)))) := by rw [hw7]; exact mm_us _ _ _
            refine lv_aload_n hx hb d_Mod_permit_49 rfl (lv_at hl 1 rfl) ?_
            have f8 := (fr7 _ (by omega)).trans (m6_0)
            refine mm_get (D := D) (C := n_Mod) (T := T_Mod) (N := 27) (v := .ref (b + 27)) hx hb hts lay_Mod hown hK.1 hP f8 rfl 13 (by decide) (hts _ (List.mem_cons_of_mem _ wd_504)) (fun _ h9 => h9) rfl d_Mod_permit_50 ?_
            refine lv_iload hx hb d_Mod_permit_53 (lv_at hl 0 rfl) ?_
            refine lv_iload_n hx hb d_Mod_permit_55 rfl (lv_at hl 4 rfl) ?_
            have f9 := (fr7 _ (by omega)).trans (m6_13)
            refine mm_zast hx hb hK.1 hP hS 1 f9 rfl (N 0 0) rfl (by omega) (by decide) (kk_nar1 hdl) d_Mod_permit_56 (fun H locs hP hz1 hS => ?_)
            rw [show upd (fun i => nI (((mk_N N 0 a9 s9) 13) i)) (N 0 0) (nI dl) = fun i => nI ((va_up ((mk_N N 0 a9 s9) 13) (N 0 0) dl) i) from kk_upn _ _ _] at hP
            have hz : H.size = sz := hz1.trans hz
            obtain ⟨w10, hw10⟩ : ∃ z : mm_M, z = mm_up w7 (b + 27) (.inl (cZ, 24, .inl (fun i => nI ((va_up ((mk_N N 0 a9 s9) 13) (N 0 0) dl) i)))) := ⟨_, rfl⟩
            have hP : mm_P B D kc w10 H := by rw [hw10]; exact hP
            have fr10 : ∀ j, j ≠ b + 27 → w10 j = w7 j := fun j h9 => by rw [hw10]; exact mm_un h9
            have fa10 : w10 (b + 27) = some (.inl (cZ, 24, .inl (fun i => nI ((va_up ((mk_N N 0 a9 s9) 13) (N 0 0) dl) i)))) := by rw [hw10]; exact mm_us _ _ _
            refine lv_iload hx hb d_Mod_permit_57 (lv_at hl 0 rfl) ?_
            exact W.iret hx hb hr (fun t ht hW => ⟨⟨_, (w10, sz), rfl, ⟨(if_pos hok).symm, (by rw [pe_N_pos (by omega) (by omega) (by omega) hok, show pe_S N S _ _ _ _ = mk_S S (N 0 0) fr to from if_pos hok]; exact mo_mk ((fr10 _ (by omega)).trans (f8)) ((fr10 _ (by omega)).trans ((fr7 _ (by omega)).trans (m6_1))) ((fr10 _ (by omega)).trans ((fr7 _ (by omega)).trans (m6_2))) ((fr10 _ (by omega)).trans ((fr7 _ (by omega)).trans (m6_3))) ((fr10 _ (by omega)).trans (fa7)) ((fr10 _ (by omega)).trans ((fr7 _ (by omega)).trans (m6_5))) ((fr10 _ (by omega)).trans ((fr7 _ (by omega)).trans (m6_6))) ((fr10 _ (by omega)).trans ((fr7 _ (by omega)).trans (m6_7))) ((fr10 _ (by omega)).trans ((fr7 _ (by omega)).trans (m6_8))) ((fr10 _ (by omega)).trans ((fr7 _ (by omega)).trans (m6_9))) ((fr10 _ (by omega)).trans ((fr7 _ (by omega)).trans (m6_10))) ((fr10 _ (by omega)).trans ((fr7 _ (by omega)).trans (m6_11))) ((fr10 _ (by omega)).trans ((fr7 _ (by omega)).trans (m6_12))) fa10 ((fr10 _ (by omega)).trans ((fr7 _ (by omega)).trans (m6_14))) ((fr10 _ (by omega)).trans ((fr7 _ (by omega)).trans (m6_15))) ((fr10 _ (by omega)).trans ((fr7 _ (by omega)).trans (m6_16)))), (fun j hj => (fr10 j (by omega)).trans ((fr7 j (by omega)).trans (hf6 j hj))), rfl⟩, by rw [ht]; exact hP, by rw [ht]; exact hz⟩, hS.F ht⟩) hS.2.2 d_Mod_permit_59
          · have cc5 : ¬ (N 0 0 < 24) := fun q => cc5 ((nI_ltI (by omega) (by omega)).mpr q)
            exact absurd hok.2.2 (by omega)
  · refine lv_iload_n hx hb d_Mod_permit_0 rfl (lv_at hl 1 rfl) ?_
    refine lv_if_lt (tgt := 26) hx hb d_Mod_permit_1 (by decide) (fun cc11 => ?_) (fun cc11 => ?_)
    · refine lv_iconst (v := (-1)) hx hb d_Mod_permit_26 (by decide) ?_
      exact W.iret hx hb hr (fun t ht hW => ⟨⟨_, (w, sz), rfl, ⟨(if_neg hok).symm, (by rw [show pe_N N _ _ _ = N from if_neg hok, show pe_S N S _ _ _ _ = S from if_neg hok]; exact mo_mk m0 m1 m2 m3 m4 m5 m6 m7 m8 m9 m10 m11 m12 m13 m14 m15 m16), (fun j hj => rfl), rfl⟩, by rw [ht]; exact hP, by rw [ht]; exact hz⟩, hS.F ht⟩) hS.2.2 d_Mod_permit_27
    · refine lv_iload_n hx hb d_Mod_permit_4 rfl (lv_at hl 1 rfl) ?_
      refine lv_bipush (v := nI 8) hx hb d_Mod_permit_5 (by decide) ?_
      refine lv_icmp_gt (tgt := 26) hx hb d_Mod_permit_7 (by decide) (fun cc12 => ?_) (fun cc12 => ?_)
      · refine lv_iconst (v := (-1)) hx hb d_Mod_permit_26 (by decide) ?_
        exact W.iret hx hb hr (fun t ht hW => ⟨⟨_, (w, sz), rfl, ⟨(if_neg hok).symm, (by rw [show pe_N N _ _ _ = N from if_neg hok, show pe_S N S _ _ _ _ = S from if_neg hok]; exact mo_mk m0 m1 m2 m3 m4 m5 m6 m7 m8 m9 m10 m11 m12 m13 m14 m15 m16), (fun j hj => rfl), rfl⟩, by rw [ht]; exact hP, by rw [ht]; exact hz⟩, hS.F ht⟩) hS.2.2 d_Mod_permit_27
      · refine lv_iload_n hx hb d_Mod_permit_10 rfl (lv_at hl 2 rfl) ?_
        refine vp_callSi (va_Run.run (va_runS (As := [.int sr]) (rest := []) ⟨hx, hb, hml, hown, hts⟩ (c_Mod_isSubject l ) (va_cwS 1 hts (gW_in (hd := [_, _, _, _]) (kk_4 wd_577 wd_578 wd_8 cw_Mod_isSubject)) rfl rfl rfl ds_Mod_isSubject ⟨Nat.le_of_ble_eq_true rfl, Nat.le_of_ble_eq_true rfl⟩) (kk_preS hK hP hz hBz) rfl rfl hl.1 rfl (lv_room (Nat.le_of_ble_eq_true rfl)) d_Mod_permit_11 ⟨Nat.le_of_ble_eq_true rfl, Nat.le_of_ble_eq_true rfl⟩)) (fun r13 hr13 => ?_)
        subst hr13
        refine lv_if_eq (tgt := 26) hx hb d_Mod_permit_14 (by decide) (fun cc14 => ?_) (fun cc14 => ?_)
        · have cc14 := kk_b0 cc14
          refine lv_iconst (v := (-1)) hx hb d_Mod_permit_26 (by decide) ?_
          exact W.iret hx hb hr (fun t ht hW => ⟨⟨_, (w, sz), rfl, ⟨(if_neg hok).symm, (by rw [show pe_N N _ _ _ = N from if_neg hok, show pe_S N S _ _ _ _ = S from if_neg hok]; exact mo_mk m0 m1 m2 m3 m4 m5 m6 m7 m8 m9 m10 m11 m12 m13 m14 m15 m16), (fun j hj => rfl), rfl⟩, by rw [ht]; exact hP, by rw [ht]; exact hz⟩, hS.F ht⟩) hS.2.2 d_Mod_permit_27
        · have cc14 := kk_b1 cc14
          refine lv_aload_n hx hb d_Mod_permit_17 rfl (lv_at hl 0 rfl) ?_
          refine mm_get (D := D) (C := n_Mod) (T := T_Mod) (N := 27) (v := .int (nI (N 0 0))) hx hb hts lay_Mod hown hK.1 hP m0 rfl 0 (by decide) (hts _ (List.mem_cons_of_mem _ wd_491)) (fun _ h9 => h9) rfl d_Mod_permit_18 ?_
          refine lv_bipush (v := nI 24) hx hb d_Mod_permit_21 (by decide) ?_
          refine lv_icmp_lt (tgt := 28) hx hb d_Mod_permit_23 (by decide) (fun cc15 => ?_) (fun cc15 => ?_)
          · have cc15 : N 0 0 < 24 := (nI_ltI (by omega) (by omega)).mp cc15
            exact absurd ⟨⟨cc11, fun q => cc12 ((kk_gtm 8 9 rfl (by decide)).mpr q)⟩, cc14, by omega⟩ hok
          · have cc15 : ¬ (N 0 0 < 24) := fun q => cc15 ((nI_ltI (by omega) (by omega)).mpr q)
            refine lv_iconst (v := (-1)) hx hb d_Mod_permit_26 (by decide) ?_
            exact W.iret hx hb hr (fun t ht hW => ⟨⟨_, (w, sz), rfl, ⟨(if_neg hok).symm, (by rw [show pe_N N _ _ _ = N from if_neg hok, show pe_S N S _ _ _ _ = S from if_neg hok]; exact mo_mk m0 m1 m2 m3 m4 m5 m6 m7 m8 m9 m10 m11 m12 m13 m14 m15 m16), (fun j hj => rfl), rfl⟩, by rw [ht]; exact hP, by rw [ht]; exact hz⟩, hS.F ht⟩) hS.2.2 d_Mod_permit_27
end
section
theorem kk_upp (v : Nat → Nat) (k x : Nat) : upd (fun i => nI (dm_ph (v i))) k (nI (dm_ph x)) = fun i => nI (dm_ph (va_up v k x i)) := by
  funext j
  unfold upd va_up
  by_cases h : j = k
  · rw [if_pos h, if_pos h]
  · rw [if_neg h, if_neg h]
theorem dm_ph_m1 {x y : Nat} (hx : x ≤ 1000) (hy : y ≤ 1000) (h : dm_ph x ≤ dm_ph y) : dm_ph x = dm_ph (min x y) := by
  unfold dm_ph at *
  (repeat' split) <;> (repeat' split at h) <;> omega
theorem dm_ph_m2 {x y : Nat} (hx : x ≤ 1000) (hy : y ≤ 1000) (h : ¬ dm_ph x ≤ dm_ph y) : dm_ph y = dm_ph (min x y) := by
  unfold dm_ph at *
  (repeat' split) <;> (repeat' split at h) <;> omega
theorem dm_ph_le_iff {x y : Nat} (hx : x ≤ 1000) (hy : y ≤ 1000) : dm_ph x ≤ dm_ph y ↔ x ≤ y := by
  unfold dm_ph
  (repeat' split) <;> omega
end
section
theorem d_Mod_isValid_0 : decode k_Mod_isValid 0 = .ok (.aload_n 0, 1) := by decide +kernel
theorem d_Mod_isValid_1 : decode k_Mod_isValid 1 = .ok (.iload_n 1, 1) := by decide +kernel
theorem d_Mod_isValid_2 : decode k_Mod_isValid 2 = .ok (.invokevirtual 77, 3) := by decide +kernel
theorem d_Mod_isValid_5 : decode k_Mod_isValid 5 = .ok (.ifCond .eq 27, 3) := by decide +kernel
theorem d_Mod_isValid_8 : decode k_Mod_isValid 8 = .ok (.aload_n 0, 1) := by decide +kernel
theorem d_Mod_isValid_9 : decode k_Mod_isValid 9 = .ok (.getfield 23, 3) := by decide +kernel
theorem d_Mod_isValid_12 : decode k_Mod_isValid 12 = .ok (.iload_n 1, 1) := by decide +kernel
theorem d_Mod_isValid_13 : decode k_Mod_isValid 13 = .ok (.iaload, 1) := by decide +kernel
theorem d_Mod_isValid_14 : decode k_Mod_isValid 14 = .ok (.iload_n 2, 1) := by decide +kernel
theorem d_Mod_isValid_15 : decode k_Mod_isValid 15 = .ok (.if_icmp .gt 17, 3) := by decide +kernel
theorem d_Mod_isValid_18 : decode k_Mod_isValid 18 = .ok (.iload_n 2, 1) := by decide +kernel
theorem d_Mod_isValid_19 : decode k_Mod_isValid 19 = .ok (.aload_n 0, 1) := by decide +kernel
theorem d_Mod_isValid_20 : decode k_Mod_isValid 20 = .ok (.getfield 26, 3) := by decide +kernel
theorem d_Mod_isValid_23 : decode k_Mod_isValid 23 = .ok (.iload_n 1, 1) := by decide +kernel
theorem d_Mod_isValid_24 : decode k_Mod_isValid 24 = .ok (.iaload, 1) := by decide +kernel
theorem d_Mod_isValid_25 : decode k_Mod_isValid 25 = .ok (.if_icmp .gt 7, 3) := by decide +kernel
theorem d_Mod_isValid_28 : decode k_Mod_isValid 28 = .ok (.iconst 1, 1) := by decide +kernel
theorem d_Mod_isValid_29 : decode k_Mod_isValid 29 = .ok (.goto 4, 3) := by decide +kernel
theorem d_Mod_isValid_32 : decode k_Mod_isValid 32 = .ok (.iconst 0, 1) := by decide +kernel
theorem d_Mod_isValid_33 : decode k_Mod_isValid 33 = .ok (.ireturn, 1) := by decide +kernel
set_option maxHeartbeats 4000000 in
set_option maxRecDepth 100000 in
theorem c_Mod_isValid (l : Launch) {B : Nat} {D : va_G} {cI cZ cQ : ClassId} {w : mm_M} {sz : Nat} {b : Nat} {N : Nat → Nat → Nat} {S : Nat → Nat → Int32} {j : Nat} {t : Int32} (hM : mo_I b cI cZ N S w) (hn : N 0 0 ≤ 24) (hR : rg_I N) (hj : j < N 0 0) : Met l y_Mod_isValid ws_Mod_isValid (kk_rm 1 0 0) (kk_Pc B D cI cZ cQ [.ref (b + 14), .int (nI j), .int t] w sz) (vp_Si (fun r => r = nI (if N 1 j = 0 ∧ ¬ t < S 5 j ∧ ¬ S 6 j < t then 1 else 0))) 0 0 (fun _ => False) := by
  refine Met.ofW (cc := k_Mod_isValid) (maxL := 3) (ret := (some .boolean)) (by decide) rfl ?_
  intro p e s m args below meth c s₁ BB hml hv
  obtain ⟨rfl, hK, hP, hz, hBz⟩ := hv
  have hx := BB.exec
  have hb := BB.bytes
  have hr := BB.returns
  have hts := atoms_spec (ws := ws_Mod_isValid) BB.pre
  have hown : s.vm.findClass "DelegationClosureModel" = some m.cls := findClass_of_methodNamed BB.named
  have hlocks := BB.notSynchronized
  have hS : mm_S B s.heap s.heap [] := va_S.rf
  have hl := lv_entry ([.ref (b + 14), .int (nI j), .int t]) (n := 3) (Nat.le_of_ble_eq_true rfl)
  rw [lg_entry_eq]
  generalize (lg_sl ([.ref (b + 14), .int (nI j), .int t]) ++ List.replicate (3 - (lg_sl ([.ref (b + 14), .int (nI j), .int t])).length) Slot.unset).toArray = ls at hl ⊢
  have hl : lv_has ls 3 [(0, .ref (b + 14)), (1, .int (nI j)), (2, .int t)] := hl
  have m0 : w (b + 14) = some (.inr (9, [.int (nI (N 0 0)), .ref (b + 15), .ref (b + 16), .ref (b + 17), .ref (b + 18), .ref (b + 19), .ref (b + 20), .ref (b + 21), .ref (b + 22), .ref (b + 23), .ref (b + 24), .ref (b + 25), .ref (b + 26), .ref (b + 27), .ref (b + 28), .ref (b + 29), .int (nI (N 16 0)), .int (nI (N 17 0)), .int (nI (N 18 0)), .ref (b + 30), .int (nI (N 20 0)), .int (S 21 0), .int (S 22 0), .int (S 23 0), .int (S 24 0), .int (nI (N 25 0)), .int (nI (N 26 0))])) := hM.1
  have m1 : w (b + 15) = some (.inl (cZ, 24, .inl (fun i => nI ((N 1) i)))) := hM.2 1 (by decide) (by decide)
  have m2 : w (b + 16) = some (.inl (cZ, 24, .inl (fun i => nI ((N 2) i)))) := hM.2 2 (by decide) (by decide)
  have m3 : w (b + 17) = some (.inl (cI, 24, .inl (fun i => nI ((N 3) i)))) := hM.2 3 (by decide) (by decide)
  have m4 : w (b + 18) = some (.inl (cI, 24, .inl (fun i => nI ((N 4) i)))) := hM.2 4 (by decide) (by decide)
  have m5 : w (b + 19) = some (.inl (cI, 24, .inl (S 5))) := hM.2 5 (by decide) (by decide)
  have m6 : w (b + 20) = some (.inl (cI, 24, .inl (S 6))) := hM.2 6 (by decide) (by decide)
  have m7 : w (b + 21) = some (.inl (cI, 72, .inl (fun i => nI ((N 7) i)))) := hM.2 7 (by decide) (by decide)
  have m8 : w (b + 22) = some (.inl (cI, 24, .inl (fun i => nI ((N 8) i)))) := hM.2 8 (by decide) (by decide)
  have m9 : w (b + 23) = some (.inl (cI, 24, .inl (fun i => nI ((N 9) i)))) := hM.2 9 (by decide) (by decide)
  have m10 : w (b + 24) = some (.inl (cI, 24, .inl (fun i => nI ((N 10) i)))) := hM.2 10 (by decide) (by decide)
  have m11 : w (b + 25) = some (.inl (cI, 24, .inl (S 11))) := hM.2 11 (by decide) (by decide)
  have m12 : w (b + 26) = some (.inl (cI, 24, .inl (S 12))) := hM.2 12 (by decide) (by decide)
  have m13 : w (b + 27) = some (.inl (cZ, 24, .inl (fun i => nI ((N 13) i)))) := hM.2 13 (by decide) (by decide)
  have m14 : w (b + 28) = some (.inl (cI, 256, .inl (fun i => nI ((N 14) i)))) := hM.2 14 (by decide) (by decide)
  have m15 : w (b + 29) = some (.inl (cI, 24, .inl (fun i => nI ((N 15) i)))) := hM.2 15 (by decide) (by decide)
  have m16 : w (b + 30) = some (.inl (cI, 5, .inl (fun i => nI ((N 19) i)))) := hM.2 16 (by decide) (by decide)
  refine lv_aload_n hx hb d_Mod_isValid_0 rfl (lv_at hl 0 rfl) ?_
  refine lv_iload_n hx hb d_Mod_isValid_1 rfl (lv_at hl 1 rfl) ?_
  refine vp_callSi (va_Run.run (va_runV (As := [.int (nI j)]) (rest := []) ⟨hx, hb, hml, hown, hts⟩ (c_Mod_isThere l (b := b) (N := N) (S := S) hM (by omega) hR) (cwV 1 hts (gW_in (hd := [_, _, _, _, _]) (kk_5 wd_601 wd_603 sl_Mod_isThere wd_8 cw_Mod_isThere)) rfl rfl rfl ⟨rfl, ds_Mod_isThere⟩ ⟨Nat.le_of_ble_eq_true rfl, Nat.le_of_ble_eq_true rfl⟩) (kk_preV hK hP hz hBz m0 rfl) rfl rfl hl.1 rfl (lv_room (Nat.le_of_ble_eq_true rfl)) d_Mod_isValid_2 ⟨Nat.le_of_ble_eq_true rfl, Nat.le_of_ble_eq_true rfl⟩)) (fun r1 hr1 => ?_)
  subst hr1
  refine lv_if_eq (tgt := 32) hx hb d_Mod_isValid_5 (by decide) (fun cc2 => ?_) (fun cc2 => ?_)
  · have cc2 := kk_b0 cc2
    refine lv_iconst (v := nI 0) hx hb d_Mod_isValid_32 (by decide) ?_
    exact W.zret hx hb hr rfl (fun t ht hW => ⟨_, rfl, kk_iff (fun q => cc2 ((re_th_in hj hn).mpr q.1)), ht⟩) (fun q hq => by cases hq) d_Mod_isValid_33
  · have cc2 := kk_b1 cc2
    refine lv_aload_n hx hb d_Mod_isValid_8 rfl (lv_at hl 0 rfl) ?_
    refine mm_get (D := D) (C := n_Mod) (T := T_Mod) (N := 27) (v := .ref (b + 19)) hx hb hts lay_Mod hown hK.1 hP m0 rfl 5 (by decide) (hts _ (List.mem_cons_of_mem _ wd_496)) (fun _ h9 => h9) rfl d_Mod_isValid_9 ?_
    refine lv_iload_n hx hb d_Mod_isValid_12 rfl (lv_at hl 1 rfl) ?_
    refine mm_iald hx hb hK.1 hP 0 m5 rfl j rfl (by omega) (by decide) d_Mod_isValid_13 ?_
    refine lv_iload_n hx hb d_Mod_isValid_14 rfl (lv_at hl 2 rfl) ?_
    refine lv_icmp_gt (tgt := 32) hx hb d_Mod_isValid_15 (by decide) (fun cc3 => ?_) (fun cc3 => ?_)
    · refine lv_iconst (v := nI 0) hx hb d_Mod_isValid_32 (by decide) ?_
      exact W.zret hx hb hr rfl (fun t ht hW => ⟨_, rfl, kk_iff (fun q => q.2.1 cc3), ht⟩) (fun q hq => by cases hq) d_Mod_isValid_33
    · refine lv_iload_n hx hb d_Mod_isValid_18 rfl (lv_at hl 2 rfl) ?_
      refine lv_aload_n hx hb d_Mod_isValid_19 rfl (lv_at hl 0 rfl) ?_
      refine mm_get (D := D) (C := n_Mod) (T := T_Mod) (N := 27) (v := .ref (b + 20)) hx hb hts lay_Mod hown hK.1 hP m0 rfl 6 (by decide) (hts _ (List.mem_cons_of_mem _ wd_497)) (fun _ h9 => h9) rfl d_Mod_isValid_20 ?_
      refine lv_iload_n hx hb d_Mod_isValid_23 rfl (lv_at hl 1 rfl) ?_
      refine mm_iald hx hb hK.1 hP 0 m6 rfl j rfl (by omega) (by decide) d_Mod_isValid_24 ?_
      refine lv_icmp_gt (tgt := 32) hx hb d_Mod_isValid_25 (by decide) (fun cc4 => ?_) (fun cc4 => ?_)
      · refine lv_iconst (v := nI 0) hx hb d_Mod_isValid_32 (by decide) ?_
        exact W.zret hx hb hr rfl (fun t ht hW => ⟨_, rfl, kk_iff (fun q => q.2.2 cc4), ht⟩) (fun q hq => by cases hq) d_Mod_isValid_33
      · refine lv_iconst (v := nI 1) hx hb d_Mod_isValid_28 (by decide) ?_
        refine lv_goto (tgt := 33) hx hb d_Mod_isValid_29 (by decide) ?_
        exact W.zret hx hb hr rfl (fun t ht hW => ⟨_, rfl, kk_ift ⟨(re_th_in hj hn).mp cc2, cc3, cc4⟩, ht⟩) (fun q hq => by cases hq) d_Mod_isValid_33
theorem d_Mod_costOf_0 : decode k_Mod_costOf 0 = .ok (.iload_n 1, 1) := by decide +kernel
theorem d_Mod_costOf_1 : decode k_Mod_costOf 1 = .ok (.invokestatic 83, 3) := by decide +kernel
theorem d_Mod_costOf_4 : decode k_Mod_costOf 4 = .ok (.istore_n 3, 1) := by decide +kernel
theorem d_Mod_costOf_5 : decode k_Mod_costOf 5 = .ok (.iload_n 1, 1) := by decide +kernel
theorem d_Mod_costOf_6 : decode k_Mod_costOf 6 = .ok (.iconst 0, 1) := by decide +kernel
theorem d_Mod_costOf_7 : decode k_Mod_costOf 7 = .ok (.invokestatic 59, 3) := by decide +kernel
theorem d_Mod_costOf_10 : decode k_Mod_costOf 10 = .ok (.istore 4, 2) := by decide +kernel
theorem d_Mod_costOf_12 : decode k_Mod_costOf 12 = .ok (.iload_n 1, 1) := by decide +kernel
theorem d_Mod_costOf_13 : decode k_Mod_costOf 13 = .ok (.iconst 1, 1) := by decide +kernel
theorem d_Mod_costOf_14 : decode k_Mod_costOf 14 = .ok (.invokestatic 59, 3) := by decide +kernel
theorem d_Mod_costOf_17 : decode k_Mod_costOf 17 = .ok (.istore 5, 2) := by decide +kernel
theorem d_Mod_costOf_19 : decode k_Mod_costOf 19 = .ok (.iload 4, 2) := by decide +kernel
theorem d_Mod_costOf_21 : decode k_Mod_costOf 21 = .ok (.ifCond .ge 16, 3) := by decide +kernel
theorem d_Mod_costOf_24 : decode k_Mod_costOf 24 = .ok (.iload_n 3, 1) := by decide +kernel
theorem d_Mod_costOf_25 : decode k_Mod_costOf 25 = .ok (.iload_n 2, 1) := by decide +kernel
theorem d_Mod_costOf_26 : decode k_Mod_costOf 26 = .ok (.if_icmp .ne 7, 3) := by decide +kernel
theorem d_Mod_costOf_29 : decode k_Mod_costOf 29 = .ok (.iconst 0, 1) := by decide +kernel
theorem d_Mod_costOf_30 : decode k_Mod_costOf 30 = .ok (.goto 6, 3) := by decide +kernel
theorem d_Mod_costOf_33 : decode k_Mod_costOf 33 = .ok (.sipush 5000, 3) := by decide +kernel
theorem d_Mod_costOf_36 : decode k_Mod_costOf 36 = .ok (.ireturn, 1) := by decide +kernel
theorem d_Mod_costOf_37 : decode k_Mod_costOf 37 = .ok (.iload 5, 2) := by decide +kernel
theorem d_Mod_costOf_39 : decode k_Mod_costOf 39 = .ok (.ifCond .ge 21, 3) := by decide +kernel
theorem d_Mod_costOf_42 : decode k_Mod_costOf 42 = .ok (.aload_n 0, 1) := by decide +kernel
theorem d_Mod_costOf_43 : decode k_Mod_costOf 43 = .ok (.getfield 50, 3) := by decide +kernel
theorem d_Mod_costOf_46 : decode k_Mod_costOf 46 = .ok (.bipush 32, 2) := by decide +kernel
theorem d_Mod_costOf_48 : decode k_Mod_costOf 48 = .ok (.iload_n 3, 1) := by decide +kernel
theorem d_Mod_costOf_49 : decode k_Mod_costOf 49 = .ok (.imul, 1) := by decide +kernel
theorem d_Mod_costOf_50 : decode k_Mod_costOf 50 = .ok (.bipush 8, 2) := by decide +kernel
theorem d_Mod_costOf_52 : decode k_Mod_costOf 52 = .ok (.iload 4, 2) := by decide +kernel
theorem d_Mod_costOf_54 : decode k_Mod_costOf 54 = .ok (.imul, 1) := by decide +kernel
theorem d_Mod_costOf_55 : decode k_Mod_costOf 55 = .ok (.iadd, 1) := by decide +kernel
theorem d_Mod_costOf_56 : decode k_Mod_costOf 56 = .ok (.iload_n 2, 1) := by decide +kernel
theorem d_Mod_costOf_57 : decode k_Mod_costOf 57 = .ok (.iadd, 1) := by decide +kernel
theorem d_Mod_costOf_58 : decode k_Mod_costOf 58 = .ok (.iaload, 1) := by decide +kernel
theorem d_Mod_costOf_59 : decode k_Mod_costOf 59 = .ok (.ireturn, 1) := by decide +kernel
theorem d_Mod_costOf_60 : decode k_Mod_costOf 60 = .ok (.sipush 5000, 3) := by decide +kernel
theorem d_Mod_costOf_63 : decode k_Mod_costOf 63 = .ok (.istore 6, 2) := by decide +kernel
theorem d_Mod_costOf_65 : decode k_Mod_costOf 65 = .ok (.iconst 0, 1) := by decide +kernel
theorem d_Mod_costOf_66 : decode k_Mod_costOf 66 = .ok (.istore 7, 2) := by decide +kernel
theorem d_Mod_costOf_68 : decode k_Mod_costOf 68 = .ok (.iload 7, 2) := by decide +kernel
theorem d_Mod_costOf_70 : decode k_Mod_costOf 70 = .ok (.bipush 8, 2) := by decide +kernel
theorem d_Mod_costOf_72 : decode k_Mod_costOf 72 = .ok (.if_icmp .ge 66, 3) := by decide +kernel
theorem d_Mod_costOf_75 : decode k_Mod_costOf 75 = .ok (.aload_n 0, 1) := by decide +kernel
theorem d_Mod_costOf_76 : decode k_Mod_costOf 76 = .ok (.getfield 50, 3) := by decide +kernel
theorem d_Mod_costOf_79 : decode k_Mod_costOf 79 = .ok (.bipush 32, 2) := by decide +kernel
theorem d_Mod_costOf_81 : decode k_Mod_costOf 81 = .ok (.iload_n 3, 1) := by decide +kernel
theorem d_Mod_costOf_82 : decode k_Mod_costOf 82 = .ok (.imul, 1) := by decide +kernel
theorem d_Mod_costOf_83 : decode k_Mod_costOf 83 = .ok (.bipush 8, 2) := by decide +kernel
theorem d_Mod_costOf_85 : decode k_Mod_costOf 85 = .ok (.iload 4, 2) := by decide +kernel
theorem d_Mod_costOf_87 : decode k_Mod_costOf 87 = .ok (.imul, 1) := by decide +kernel
theorem d_Mod_costOf_88 : decode k_Mod_costOf 88 = .ok (.iadd, 1) := by decide +kernel
theorem d_Mod_costOf_89 : decode k_Mod_costOf 89 = .ok (.iload 7, 2) := by decide +kernel
theorem d_Mod_costOf_91 : decode k_Mod_costOf 91 = .ok (.iadd, 1) := by decide +kernel
theorem d_Mod_costOf_92 : decode k_Mod_costOf 92 = .ok (.iaload, 1) := by decide +kernel
theorem d_Mod_costOf_93 : decode k_Mod_costOf 93 = .ok (.aload_n 0, 1) := by decide +kernel
theorem d_Mod_costOf_94 : decode k_Mod_costOf 94 = .ok (.getfield 50, 3) := by decide +kernel
theorem d_Mod_costOf_97 : decode k_Mod_costOf 97 = .ok (.bipush 32, 2) := by decide +kernel
theorem d_Mod_costOf_99 : decode k_Mod_costOf 99 = .ok (.iload 7, 2) := by decide +kernel
theorem d_Mod_costOf_101 : decode k_Mod_costOf 101 = .ok (.imul, 1) := by decide +kernel
theorem d_Mod_costOf_102 : decode k_Mod_costOf 102 = .ok (.bipush 8, 2) := by decide +kernel
theorem d_Mod_costOf_104 : decode k_Mod_costOf 104 = .ok (.iload 5, 2) := by decide +kernel
theorem d_Mod_costOf_106 : decode k_Mod_costOf 106 = .ok (.imul, 1) := by decide +kernel
theorem d_Mod_costOf_107 : decode k_Mod_costOf 107 = .ok (.iadd, 1) := by decide +kernel
theorem d_Mod_costOf_108 : decode k_Mod_costOf 108 = .ok (.iload_n 2, 1) := by decide +kernel
theorem d_Mod_costOf_109 : decode k_Mod_costOf 109 = .ok (.iadd, 1) := by decide +kernel
theorem d_Mod_costOf_110 : decode k_Mod_costOf 110 = .ok (.iaload, 1) := by decide +kernel
theorem d_Mod_costOf_111 : decode k_Mod_costOf 111 = .ok (.invokestatic 87, 3) := by decide +kernel
theorem d_Mod_costOf_114 : decode k_Mod_costOf 114 = .ok (.istore 8, 2) := by decide +kernel
theorem d_Mod_costOf_116 : decode k_Mod_costOf 116 = .ok (.iload 8, 2) := by decide +kernel
theorem d_Mod_costOf_118 : decode k_Mod_costOf 118 = .ok (.iload 6, 2) := by decide +kernel
theorem d_Mod_costOf_120 : decode k_Mod_costOf 120 = .ok (.if_icmp .ge 8, 3) := by decide +kernel
theorem d_Mod_costOf_123 : decode k_Mod_costOf 123 = .ok (.iload 8, 2) := by decide +kernel
theorem d_Mod_costOf_125 : decode k_Mod_costOf 125 = .ok (.goto 5, 3) := by decide +kernel
theorem d_Mod_costOf_128 : decode k_Mod_costOf 128 = .ok (.iload 6, 2) := by decide +kernel
theorem d_Mod_costOf_130 : decode k_Mod_costOf 130 = .ok (.istore 6, 2) := by decide +kernel
theorem d_Mod_costOf_132 : decode k_Mod_costOf 132 = .ok (.iinc 7 1, 3) := by decide +kernel
theorem d_Mod_costOf_135 : decode k_Mod_costOf 135 = .ok (.goto (-67), 3) := by decide +kernel
theorem d_Mod_costOf_138 : decode k_Mod_costOf 138 = .ok (.iload 6, 2) := by decide +kernel
theorem d_Mod_costOf_140 : decode k_Mod_costOf 140 = .ok (.ireturn, 1) := by decide +kernel
set_option maxHeartbeats 4000000 in
set_option maxRecDepth 100000 in
theorem c_Mod_costOf (l : Launch) {B : Nat} {D : va_G} {cI cZ cQ : ClassId} {w : mm_M} {sz : Nat} {b : Nat} {N : Nat → Nat → Nat} {S : Nat → Nat → Int32} {n y : Nat} {v9 : Nat → Nat} (hM : mo_I b cI cZ N S w) (hn2 : n < 200) (hy : y < 8) (h14 : N 14 = fun j => dm_ph (v9 j)) (hv : ∀ j, v9 j ≤ 1000) : Met l y_Mod_costOf ws_Mod_costOf (kk_rm 2 0 0) (kk_Pc B D cI cZ cQ [.ref (b + 14), .int (nI n), .int (nI y)] w sz) (vp_Si (fun r => r = nI (dm_ph (dm_ofs v9 n y)))) 0 0 (fun _ => False) := by
  refine Met.ofW (cc := k_Mod_costOf) (maxL := 9) (ret := (some .int)) (by decide) rfl ?_
  intro p e s m args below meth c s₁ BB hml hv
  obtain ⟨rfl, hK, hP, hz, hBz⟩ := hv
  have hx := BB.exec
  have hb := BB.bytes
  have hr := BB.returns
  have hts := atoms_spec (ws := ws_Mod_costOf) BB.pre
  have hown : s.vm.findClass "DelegationClosureModel" = some m.cls := findClass_of_methodNamed BB.named
  have hlocks := BB.notSynchronized
  have hS : mm_S B s.heap s.heap [] := va_S.rf
  have hl := lv_entry ([.ref (b + 14), .int (nI n), .int (nI y)]) (n := 9) (Nat.le_of_ble_eq_true rfl)
  rw [lg_entry_eq]
  generalize (lg_sl ([.ref (b + 14), .int (nI n), .int (nI y)]) ++ List.replicate (9 - (lg_sl ([.ref (b + 14), .int (nI n), .int (nI y)])).length) Slot.unset).toArray = ls at hl ⊢
  have hl : lv_has ls 9 [(0, .ref (b + 14)), (1, .int (nI n)), (2, .int (nI y))] := hl
  have m0 : w (b + 14) = some (.inr (9, [.int (nI (N 0 0)), .ref (b + 15), .ref (b + 16), .ref (b + 17), .ref (b + 18), .ref (b + 19), .ref (b + 20), .ref (b + 21), .ref (b + 22), .ref (b + 23), .ref (b + 24), .ref (b + 25), .ref (b + 26), .ref (b + 27), .ref (b + 28), .ref (b + 29), .int (nI (N 16 0)), .int (nI (N 17 0)), .int (nI (N 18 0)), .ref (b + 30), .int (nI (N 20 0)), .int (S 21 0), .int (S 22 0), .int (S 23 0), .int (S 24 0), .int (nI (N 25 0)), .int (nI (N 26 0))])) := hM.1
  have m1 : w (b + 15) = some (.inl (cZ, 24, .inl (fun i => nI ((N 1) i)))) := hM.2 1 (by decide) (by decide)
  have m2 : w (b + 16) = some (.inl (cZ, 24, .inl (fun i => nI ((N 2) i)))) := hM.2 2 (by decide) (by decide)
  have m3 : w (b + 17) = some (.inl (cI, 24, .inl (fun i => nI ((N 3) i)))) := hM.2 3 (by decide) (by decide)
  have m4 : w (b + 18) = some (.inl (cI, 24, .inl (fun i => nI ((N 4) i)))) := hM.2 4 (by decide) (by decide)
  have m5 : w (b + 19) = some (.inl (cI, 24, .inl (S 5))) := hM.2 5 (by decide) (by decide)
  have m6 : w (b + 20) = some (.inl (cI, 24, .inl (S 6))) := hM.2 6 (by decide) (by decide)
  have m7 : w (b + 21) = some (.inl (cI, 72, .inl (fun i => nI ((N 7) i)))) := hM.2 7 (by decide) (by decide)
  have m8 : w (b + 22) = some (.inl (cI, 24, .inl (fun i => nI ((N 8) i)))) := hM.2 8 (by decide) (by decide)
  have m9 : w (b + 23) = some (.inl (cI, 24, .inl (fun i => nI ((N 9) i)))) := hM.2 9 (by decide) (by decide)
  have m10 : w (b + 24) = some (.inl (cI, 24, .inl (fun i => nI ((N 10) i)))) := hM.2 10 (by decide) (by decide)
  have m11 : w (b + 25) = some (.inl (cI, 24, .inl (S 11))) := hM.2 11 (by decide) (by decide)
  have m12 : w (b + 26) = some (.inl (cI, 24, .inl (S 12))) := hM.2 12 (by decide) (by decide)
  have m13 : w (b + 27) = some (.inl (cZ, 24, .inl (fun i => nI ((N 13) i)))) := hM.2 13 (by decide) (by decide)
  have m14 : w (b + 28) = some (.inl (cI, 256, .inl (fun i => nI ((N 14) i)))) := hM.2 14 (by decide) (by decide)
  have m15 : w (b + 29) = some (.inl (cI, 24, .inl (fun i => nI ((N 15) i)))) := hM.2 15 (by decide) (by decide)
  have m16 : w (b + 30) = some (.inl (cI, 5, .inl (fun i => nI ((N 19) i)))) := hM.2 16 (by decide) (by decide)
  have m14 : w (b + 28) = some (.inl (cI, 256, .inl (fun i => nI (dm_ph (v9 i))))) := by have h9 : w (b + 28) = some (.inl (cI, 256, .inl (fun i => nI (N 14 i)))) := hM.2 14 (by decide) (by decide); rw [h14] at h9; exact h9
  refine lv_iload_n hx hb d_Mod_costOf_0 rfl (lv_at hl 1 rfl) ?_
  refine vp_callSi (va_Run.run (va_runS (As := [.int (nI n)]) (rest := []) ⟨hx, hb, hml, hown, hts⟩ (c_Mod_keyOf l (by omega)) (va_cwS 1 hts (gW_in (hd := [_, _, _, _]) (kk_4 wd_641 wd_642 wd_8 cw_Mod_keyOf)) rfl rfl rfl ds_Mod_keyOf ⟨Nat.le_of_ble_eq_true rfl, Nat.le_of_ble_eq_true rfl⟩) (kk_preS hK hP hz hBz) rfl rfl hl.1 rfl (lv_room (Nat.le_of_ble_eq_true rfl)) d_Mod_costOf_1 ⟨Nat.le_of_ble_eq_true rfl, Nat.le_of_ble_eq_true rfl⟩)) (fun r1 hr1 => ?_)
  subst hr1
  refine lv_istore_n hx hb d_Mod_costOf_4 rfl hl (by decide) rfl (fun ls hl => ?_)
  have hl : lv_has ls 9 [(3, .int (nI (n % 8))), (0, .ref (b + 14)), (1, .int (nI n)), (2, .int (nI y))] := hl
  refine lv_iload_n hx hb d_Mod_costOf_5 rfl (lv_at hl 2 rfl) ?_
  refine lv_iconst (v := nI 0) hx hb d_Mod_costOf_6 (by decide) ?_
  refine vp_callSi (va_Run.run (va_runS (As := [.int (nI n), .int (nI 0)]) (rest := []) ⟨hx, hb, hml, hown, hts⟩ (c_Mod_nameOf0 l (by omega)) (va_cwS 2 hts (gW_in (hd := [_, _, _, _]) (kk_4 wd_580 wd_581 wd_8 cw_Mod_nameOf)) rfl rfl rfl ds_Mod_nameOf ⟨Nat.le_of_ble_eq_true rfl, Nat.le_of_ble_eq_true rfl⟩) (kk_preS hK hP hz hBz) rfl rfl hl.1 rfl (lv_room (Nat.le_of_ble_eq_true rfl)) d_Mod_costOf_7 ⟨Nat.le_of_ble_eq_true rfl, Nat.le_of_ble_eq_true rfl⟩)) (fun r2 hr2 => ?_)
  subst hr2
  refine lv_istore hx hb d_Mod_costOf_10 hl (by decide) rfl (fun ls hl => ?_)
  have hl : lv_has ls 9 [(4, .int (nI (n / 8 % 5) - nI 1)), (3, .int (nI (n % 8))), (0, .ref (b + 14)), (1, .int (nI n)), (2, .int (nI y))] := hl
  refine lv_iload_n hx hb d_Mod_costOf_12 rfl (lv_at hl 3 rfl) ?_
  refine lv_iconst (v := nI 1) hx hb d_Mod_costOf_13 (by decide) ?_
  refine vp_callSi (va_Run.run (va_runS (As := [.int (nI n), .int (nI 1)]) (rest := []) ⟨hx, hb, hml, hown, hts⟩ (c_Mod_nameOf1 l (by omega)) (va_cwS 2 hts (gW_in (hd := [_, _, _, _]) (kk_4 wd_580 wd_581 wd_8 cw_Mod_nameOf)) rfl rfl rfl ds_Mod_nameOf ⟨Nat.le_of_ble_eq_true rfl, Nat.le_of_ble_eq_true rfl⟩) (kk_preS hK hP hz hBz) rfl rfl hl.1 rfl (lv_room (Nat.le_of_ble_eq_true rfl)) d_Mod_costOf_14 ⟨Nat.le_of_ble_eq_true rfl, Nat.le_of_ble_eq_true rfl⟩)) (fun r3 hr3 => ?_)
  subst hr3
  refine lv_istore hx hb d_Mod_costOf_17 hl (by decide) rfl (fun ls hl => ?_)
  have hl : lv_has ls 9 [(5, .int (nI (n / 40) - nI 1)), (4, .int (nI (n / 8 % 5) - nI 1)), (3, .int (nI (n % 8))), (0, .ref (b + 14)), (1, .int (nI n)), (2, .int (nI y))] := hl
  refine lv_iload hx hb d_Mod_costOf_19 (lv_at hl 1 rfl) ?_
  refine lv_if_ge (tgt := 37) hx hb d_Mod_costOf_21 (by decide) (fun cc4 => ?_) (fun cc4 => ?_)
  · have cc4 := Int32.not_lt.mpr cc4
    have cc4 : ¬ n / 8 % 5 = 0 := fun q => cc4 ((kk_nmlt (by omega)).mpr q)
    refine lv_iload hx hb d_Mod_costOf_37 (lv_at hl 0 rfl) ?_
    refine lv_if_ge (tgt := 60) hx hb d_Mod_costOf_39 (by decide) (fun cc5 => ?_) (fun cc5 => ?_)
    · have cc5 := Int32.not_lt.mpr cc5
      have cc5 : ¬ n / 40 = 0 := fun q => cc5 ((kk_nmlt (by omega)).mpr q)
      refine lv_sipush (v := nI 5000) hx hb d_Mod_costOf_60 (by decide) ?_
      refine lv_istore hx hb d_Mod_costOf_63 hl (by decide) rfl (fun ls hl => ?_)
      have hl : lv_has ls 9 [(6, .int (nI 5000)), (5, .int (nI (n / 40) - nI 1)), (4, .int (nI (n / 8 % 5) - nI 1)), (3, .int (nI (n % 8))), (0, .ref (b + 14)), (1, .int (nI n)), (2, .int (nI y))] := hl
      refine lv_iconst (v := nI 0) hx hb d_Mod_costOf_65 (by decide) ?_
      refine lv_istore hx hb d_Mod_costOf_66 hl (by decide) rfl (fun ls hl => ?_)
      have hl : lv_has ls 9 [(7, .int (nI 0)), (6, .int (nI 5000)), (5, .int (nI (n / 40) - nI 1)), (4, .int (nI (n / 8 % 5) - nI 1)), (3, .int (nI (n % 8))), (0, .ref (b + 14)), (1, .int (nI n)), (2, .int (nI y))] := hl
      have lp6 : ∀ (d : Nat) (k : Nat) (ls : Array Slot), d = 8 - k → (k ≤ 8) → lv_has ls 9 [(7, .int (nI k)), (6, .int (nI (dm_ph (dm_mins (fun z => dm_s (v9 (32 * (n % 8) + 8 * (n / 8 % 5 - 1) + z)) (v9 (32 * z + 8 * (n / 40 - 1) + y))) k)))), (5, .int (nI (n / 40) - nI 1)), (4, .int (nI (n / 8 % 5) - nI 1)), (3, .int (nI (n % 8))), (0, .ref (b + 14)), (1, .int (nI n)), (2, .int (nI y))] → W p l e (headSpec ws_Mod_costOf (kk_rm 2 0 0)).room s m ([.ref (b + 14), .int (nI n), .int (nI y)]).toArray below meth c s.heap [] 0 0 (MQ below (vp_Si (fun r => r = nI (dm_ph (dm_ofs v9 n y)))) ([.ref (b + 14), .int (nI n), .int (nI y)]).toArray s 0 0 (fun _ => False)) (F0 m 68 ls []) := by
        intro d
        induction d using Nat.strongRecOn with
        | ind d ih =>
          intro k ls hd hk hl
          refine lv_iload hx hb d_Mod_costOf_68 (lv_at hl 0 rfl) ?_
          refine lv_bipush (v := nI 8) hx hb d_Mod_costOf_70 (by decide) ?_
          refine lv_icmp_ge (tgt := 138) hx hb d_Mod_costOf_72 (by decide) (fun cc7 => ?_) (fun cc7 => ?_)
          · have cc7 : 8 ≤ k := (nI_leI (by omega) (by omega)).mp cc7
            refine lv_iload hx hb d_Mod_costOf_138 (lv_at hl 1 rfl) ?_
            exact W.iret hx hb hr (fun t ht hW => ⟨_, rfl, congrArg (fun q => nI (dm_ph q)) (by obtain rfl : k = 8 := (by omega); unfold dm_ofs; rw [if_neg cc4, if_neg cc5]), ht⟩) (fun q hq => by cases hq) d_Mod_costOf_140
          · have cc7 : ¬ (8 ≤ k) := fun q => cc7 ((nI_leI (by omega) (by omega)).mpr q)
            refine lv_aload_n hx hb d_Mod_costOf_75 rfl (lv_at hl 5 rfl) ?_
            refine mm_get (D := D) (C := n_Mod) (T := T_Mod) (N := 27) (v := .ref (b + 28)) hx hb hts lay_Mod hown hK.1 hP m0 rfl 14 (by decide) (hts _ (List.mem_cons_of_mem _ wd_505)) (fun _ h9 => h9) rfl d_Mod_costOf_76 ?_
            refine lv_bipush (v := nI 32) hx hb d_Mod_costOf_79 (by decide) ?_
            refine lv_iload_n hx hb d_Mod_costOf_81 rfl (lv_at hl 4 rfl) ?_
            refine lv_imul hx hb d_Mod_costOf_82 ?_
            refine kk_top (pk_mul _ _) ?_
            refine lv_bipush (v := nI 8) hx hb d_Mod_costOf_83 (by decide) ?_
            refine lv_iload hx hb d_Mod_costOf_85 (lv_at hl 3 rfl) ?_
            refine kk_top (pk_sub (by omega)) ?_
            refine lv_imul hx hb d_Mod_costOf_87 ?_
            refine kk_top (pk_mul _ _) ?_
            refine lv_iadd hx hb d_Mod_costOf_88 ?_
            refine kk_top (nI_add _ _) ?_
            refine lv_iload hx hb d_Mod_costOf_89 (lv_at hl 0 rfl) ?_
            refine lv_iadd hx hb d_Mod_costOf_91 ?_
            refine kk_top (nI_add _ _) ?_
            refine mm_iald hx hb hK.1 hP 0 m14 rfl (((32 * (n % 8)) + (8 * (n / 8 % 5 - 1))) + k) rfl (by omega) (by decide) d_Mod_costOf_92 ?_
            refine W.eq (g2 := F0 m 93 ls [.int (nI (dm_ph (v9 (((32 * (n % 8)) + (8 * (n / 8 % 5 - 1))) + k))))]) rfl ?_
            refine lv_aload_n hx hb d_Mod_costOf_93 rfl (lv_at hl 5 rfl) ?_
            refine mm_get (D := D) (C := n_Mod) (T := T_Mod) (N := 27) (v := .ref (b + 28)) hx hb hts lay_Mod hown hK.1 hP m0 rfl 14 (by decide) (hts _ (List.mem_cons_of_mem _ wd_505)) (fun _ h9 => h9) rfl d_Mod_costOf_94 ?_
            refine lv_bipush (v := nI 32) hx hb d_Mod_costOf_97 (by decide) ?_
            refine lv_iload hx hb d_Mod_costOf_99 (lv_at hl 0 rfl) ?_
            refine lv_imul hx hb d_Mod_costOf_101 ?_
            refine kk_top (pk_mul _ _) ?_
            refine lv_bipush (v := nI 8) hx hb d_Mod_costOf_102 (by decide) ?_
            refine lv_iload hx hb d_Mod_costOf_104 (lv_at hl 2 rfl) ?_
            refine kk_top (pk_sub (by omega)) ?_
            refine lv_imul hx hb d_Mod_costOf_106 ?_
            refine kk_top (pk_mul _ _) ?_
            refine lv_iadd hx hb d_Mod_costOf_107 ?_
            refine kk_top (nI_add _ _) ?_
            refine lv_iload_n hx hb d_Mod_costOf_108 rfl (lv_at hl 7 rfl) ?_
            refine lv_iadd hx hb d_Mod_costOf_109 ?_
            refine kk_top (nI_add _ _) ?_
            refine mm_iald hx hb hK.1 hP 0 m14 rfl (((32 * k) + (8 * (n / 40 - 1))) + y) rfl (by omega) (by decide) d_Mod_costOf_110 ?_
            refine W.eq (g2 := F0 m 111 ls [.int (nI (dm_ph (v9 (((32 * k) + (8 * (n / 40 - 1))) + y)))), .int (nI (dm_ph (v9 (((32 * (n % 8)) + (8 * (n / 8 % 5 - 1))) + k))))]) rfl ?_
            have hq1 := hv (32 * (n % 8) + 8 * (n / 8 % 5 - 1) + k)
            have hq2 := hv (32 * k + 8 * (n / 40 - 1) + y)
            refine vp_callSi (va_Run.run (va_runS (As := [.int (nI (dm_ph (v9 (((32 * (n % 8)) + (8 * (n / 8 % 5 - 1))) + k)))), .int (nI (dm_ph (v9 (((32 * k) + (8 * (n / 40 - 1))) + y))))]) (rest := []) ⟨hx, hb, hml, hown, hts⟩ (c_Mod_sum l (a := (v9 (((32 * (n % 8)) + (8 * (n / 8 % 5 - 1))) + k))) (b := (v9 (((32 * k) + (8 * (n / 40 - 1))) + y))) (by omega) (by omega)) (va_cwS 2 hts (gW_in (hd := [_, _, _, _]) (kk_4 wd_644 wd_645 wd_8 cw_Mod_sum)) rfl rfl rfl ds_Mod_sum ⟨Nat.le_of_ble_eq_true rfl, Nat.le_of_ble_eq_true rfl⟩) (kk_preS hK hP hz hBz) rfl rfl hl.1 rfl (lv_room (Nat.le_of_ble_eq_true rfl)) d_Mod_costOf_111 ⟨Nat.le_of_ble_eq_true rfl, Nat.le_of_ble_eq_true rfl⟩)) (fun r8 hr8 => ?_)
            subst hr8
            refine lv_istore hx hb d_Mod_costOf_114 hl (by decide) rfl (fun ls hl => ?_)
            have hl : lv_has ls 9 [(8, .int (nI (dm_ph (dm_s (v9 (((32 * (n % 8)) + (8 * (n / 8 % 5 - 1))) + k)) (v9 (((32 * k) + (8 * (n / 40 - 1))) + y)))))), (7, .int (nI k)), (6, .int (nI (dm_ph (dm_mins (fun z => dm_s (v9 (32 * (n % 8) + 8 * (n / 8 % 5 - 1) + z)) (v9 (32 * z + 8 * (n / 40 - 1) + y))) k)))), (5, .int (nI (n / 40) - nI 1)), (4, .int (nI (n / 8 % 5) - nI 1)), (3, .int (nI (n % 8))), (0, .ref (b + 14)), (1, .int (nI n)), (2, .int (nI y))] := hl
            refine lv_iload hx hb d_Mod_costOf_116 (lv_at hl 0 rfl) ?_
            refine lv_iload hx hb d_Mod_costOf_118 (lv_at hl 2 rfl) ?_
            have hq3 := dm_ph_le (dm_s (v9 (32 * (n % 8) + 8 * (n / 8 % 5 - 1) + k)) (v9 (32 * k + 8 * (n / 40 - 1) + y)))
            have hq4 := dm_ph_le (dm_mins (fun z => dm_s (v9 (32 * (n % 8) + 8 * (n / 8 % 5 - 1) + z)) (v9 (32 * z + 8 * (n / 40 - 1) + y))) k)
            refine lv_icmp_ge (tgt := 128) hx hb d_Mod_costOf_120 (by decide) (fun cc9 => ?_) (fun cc9 => ?_)
            · have cc9 : dm_ph (dm_mins (fun z => dm_s (v9 (32 * (n % 8) + 8 * (n / 8 % 5 - 1) + z)) (v9 (32 * z + 8 * (n / 40 - 1) + y))) k) ≤ dm_ph (dm_s (v9 (((32 * (n % 8)) + (8 * (n / 8 % 5 - 1))) + k)) (v9 (((32 * k) + (8 * (n / 40 - 1))) + y))) := (nI_leI (by omega) (by omega)).mp cc9
              refine lv_iload hx hb d_Mod_costOf_128 (lv_at hl 2 rfl) ?_
              refine kk_top (y := nI (dm_ph (dm_mins (fun z => dm_s (v9 (32 * (n % 8) + 8 * (n / 8 % 5 - 1) + z)) (v9 (32 * z + 8 * (n / 40 - 1) + y))) (k + 1)))) (congrArg nI (dm_ph_m1 (dm_mins_le _ _) (dm_s_le _ _) cc9)) ?_
              refine lv_istore hx hb d_Mod_costOf_130 hl (by decide) rfl (fun ls hl => ?_)
              have hl : lv_has ls 9 [(6, .int (nI (dm_ph (dm_mins (fun z => dm_s (v9 (32 * (n % 8) + 8 * (n / 8 % 5 - 1) + z)) (v9 (32 * z + 8 * (n / 40 - 1) + y))) (k + 1))))), (8, .int (nI (dm_ph (dm_s (v9 (((32 * (n % 8)) + (8 * (n / 8 % 5 - 1))) + k)) (v9 (((32 * k) + (8 * (n / 40 - 1))) + y)))))), (7, .int (nI k)), (5, .int (nI (n / 40) - nI 1)), (4, .int (nI (n / 8 % 5) - nI 1)), (3, .int (nI (n % 8))), (0, .ref (b + 14)), (1, .int (nI n)), (2, .int (nI y))] := hl
              refine lv_iinc (k := 2) (v := nI (k + 1)) hx hb d_Mod_costOf_132 hl rfl (kk_inc _) (by decide) rfl (fun ls hl => ?_)
              have hl : lv_has ls 9 [(7, .int (nI (k + 1))), (6, .int (nI (dm_ph (dm_mins (fun z => dm_s (v9 (32 * (n % 8) + 8 * (n / 8 % 5 - 1) + z)) (v9 (32 * z + 8 * (n / 40 - 1) + y))) (k + 1))))), (8, .int (nI (dm_ph (dm_s (v9 (((32 * (n % 8)) + (8 * (n / 8 % 5 - 1))) + k)) (v9 (((32 * k) + (8 * (n / 40 - 1))) + y)))))), (5, .int (nI (n / 40) - nI 1)), (4, .int (nI (n / 8 % 5) - nI 1)), (3, .int (nI (n % 8))), (0, .ref (b + 14)), (1, .int (nI n)), (2, .int (nI y))] := hl
              refine lv_goto (tgt := 68) hx hb d_Mod_costOf_135 (by decide) ?_
              exact ih _ (by omega) (k + 1) ls rfl (by omega) (lv_sub hl [0, 1, 3, 4, 5, 6, 7, 8] rfl)
            · have cc9 : ¬ (dm_ph (dm_mins (fun z => dm_s (v9 (32 * (n % 8) + 8 * (n / 8 % 5 - 1) + z)) (v9 (32 * z + 8 * (n / 40 - 1) + y))) k) ≤ dm_ph (dm_s (v9 (((32 * (n % 8)) + (8 * (n / 8 % 5 - 1))) + k)) (v9 (((32 * k) + (8 * (n / 40 - 1))) + y)))) := fun q => cc9 ((nI_leI (by omega) (by omega)).mpr q)
              refine lv_iload hx hb d_Mod_costOf_123 (lv_at hl 0 rfl) ?_
              refine lv_goto (tgt := 130) hx hb d_Mod_costOf_125 (by decide) ?_
              refine kk_top (y := nI (dm_ph (dm_mins (fun z => dm_s (v9 (32 * (n % 8) + 8 * (n / 8 % 5 - 1) + z)) (v9 (32 * z + 8 * (n / 40 - 1) + y))) (k + 1)))) (congrArg nI (dm_ph_m2 (dm_mins_le _ _) (dm_s_le _ _) cc9)) ?_
              refine lv_istore hx hb d_Mod_costOf_130 hl (by decide) rfl (fun ls hl => ?_)
              have hl : lv_has ls 9 [(6, .int (nI (dm_ph (dm_mins (fun z => dm_s (v9 (32 * (n % 8) + 8 * (n / 8 % 5 - 1) + z)) (v9 (32 * z + 8 * (n / 40 - 1) + y))) (k + 1))))), (8, .int (nI (dm_ph (dm_s (v9 (((32 * (n % 8)) + (8 * (n / 8 % 5 - 1))) + k)) (v9 (((32 * k) + (8 * (n / 40 - 1))) + y)))))), (7, .int (nI k)), (5, .int (nI (n / 40) - nI 1)), (4, .int (nI (n / 8 % 5) - nI 1)), (3, .int (nI (n % 8))), (0, .ref (b + 14)), (1, .int (nI n)), (2, .int (nI y))] := hl
              refine lv_iinc (k := 2) (v := nI (k + 1)) hx hb d_Mod_costOf_132 hl rfl (kk_inc _) (by decide) rfl (fun ls hl => ?_)
              have hl : lv_has ls 9 [(7, .int (nI (k + 1))), (6, .int (nI (dm_ph (dm_mins (fun z => dm_s (v9 (32 * (n % 8) + 8 * (n / 8 % 5 - 1) + z)) (v9 (32 * z + 8 * (n / 40 - 1) + y))) (k + 1))))), (8, .int (nI (dm_ph (dm_s (v9 (((32 * (n % 8)) + (8 * (n / 8 % 5 - 1))) + k)) (v9 (((32 * k) + (8 * (n / 40 - 1))) + y)))))), (5, .int (nI (n / 40) - nI 1)), (4, .int (nI (n / 8 % 5) - nI 1)), (3, .int (nI (n % 8))), (0, .ref (b + 14)), (1, .int (nI n)), (2, .int (nI y))] := hl
              refine lv_goto (tgt := 68) hx hb d_Mod_costOf_135 (by decide) ?_
              exact ih _ (by omega) (k + 1) ls rfl (by omega) (lv_sub hl [0, 1, 3, 4, 5, 6, 7, 8] rfl)
      exact lp6 _ 0 _ rfl (by omega) (lv_sub hl [0, 1, 2, 3, 4, 5, 6, 7] rfl)
    · have cc5 := Int32.not_le.mp cc5
      have cc5 : n / 40 = 0 := (kk_nmlt (by omega)).mp cc5
      refine lv_aload_n hx hb d_Mod_costOf_42 rfl (lv_at hl 3 rfl) ?_
      refine mm_get (D := D) (C := n_Mod) (T := T_Mod) (N := 27) (v := .ref (b + 28)) hx hb hts lay_Mod hown hK.1 hP m0 rfl 14 (by decide) (hts _ (List.mem_cons_of_mem _ wd_505)) (fun _ h9 => h9) rfl d_Mod_costOf_43 ?_
      refine lv_bipush (v := nI 32) hx hb d_Mod_costOf_46 (by decide) ?_
      refine lv_iload_n hx hb d_Mod_costOf_48 rfl (lv_at hl 2 rfl) ?_
      refine lv_imul hx hb d_Mod_costOf_49 ?_
      refine kk_top (pk_mul _ _) ?_
      refine lv_bipush (v := nI 8) hx hb d_Mod_costOf_50 (by decide) ?_
      refine lv_iload hx hb d_Mod_costOf_52 (lv_at hl 1 rfl) ?_
      refine kk_top (pk_sub (by omega)) ?_
      refine lv_imul hx hb d_Mod_costOf_54 ?_
      refine kk_top (pk_mul _ _) ?_
      refine lv_iadd hx hb d_Mod_costOf_55 ?_
      refine kk_top (nI_add _ _) ?_
      refine lv_iload_n hx hb d_Mod_costOf_56 rfl (lv_at hl 5 rfl) ?_
      refine lv_iadd hx hb d_Mod_costOf_57 ?_
      refine kk_top (nI_add _ _) ?_
      refine mm_iald hx hb hK.1 hP 0 m14 rfl (((32 * (n % 8)) + (8 * (n / 8 % 5 - 1))) + y) rfl (by omega) (by decide) d_Mod_costOf_58 ?_
      refine W.eq (g2 := F0 m 59 ls [.int (nI (dm_ph (v9 (((32 * (n % 8)) + (8 * (n / 8 % 5 - 1))) + y))))]) rfl ?_
      exact W.iret hx hb hr (fun t ht hW => ⟨_, rfl, congrArg (fun q => nI (dm_ph q)) (by unfold dm_ofs; rw [if_neg cc4, if_pos cc5]), ht⟩) (fun q hq => by cases hq) d_Mod_costOf_59
  · have cc4 := Int32.not_le.mp cc4
    have cc4 : n / 8 % 5 = 0 := (kk_nmlt (by omega)).mp cc4
    refine lv_iload_n hx hb d_Mod_costOf_24 rfl (lv_at hl 2 rfl) ?_
    refine lv_iload_n hx hb d_Mod_costOf_25 rfl (lv_at hl 5 rfl) ?_
    refine lv_icmp_ne (tgt := 33) hx hb d_Mod_costOf_26 (by decide) (fun cc10 => ?_) (fun cc10 => ?_)
    · have cc10 : ¬ (n % 8 = y) := fun q => cc10 ((nI_eq (by omega) (by omega)).mpr q)
      refine lv_sipush (v := nI 5000) hx hb d_Mod_costOf_33 (by decide) ?_
      exact W.iret hx hb hr (fun t ht hW => ⟨_, rfl, congrArg nI (by unfold dm_ofs; rw [if_pos cc4, if_neg cc10]; rfl), ht⟩) (fun q hq => by cases hq) d_Mod_costOf_36
    · have cc10 : n % 8 = y := (nI_eq (by omega) (by omega)).mp cc10
      refine lv_iconst (v := nI 0) hx hb d_Mod_costOf_29 (by decide) ?_
      refine lv_goto (tgt := 36) hx hb d_Mod_costOf_30 (by decide) ?_
      exact W.iret hx hb hr (fun t ht hW => ⟨_, rfl, congrArg nI (by unfold dm_ofs; rw [if_pos cc4, if_pos cc10]; rfl), ht⟩) (fun q hq => by cases hq) d_Mod_costOf_36
end
section
theorem d_Mod_useNames_0 : decode k_Mod_useNames 0 = .ok (.iconst 0, 1) := by decide +kernel
theorem d_Mod_useNames_1 : decode k_Mod_useNames 1 = .ok (.istore_n 2, 1) := by decide +kernel
theorem d_Mod_useNames_2 : decode k_Mod_useNames 2 = .ok (.iconst 0, 1) := by decide +kernel
theorem d_Mod_useNames_3 : decode k_Mod_useNames 3 = .ok (.istore_n 3, 1) := by decide +kernel
theorem d_Mod_useNames_4 : decode k_Mod_useNames 4 = .ok (.iload_n 3, 1) := by decide +kernel
theorem d_Mod_useNames_5 : decode k_Mod_useNames 5 = .ok (.aload_n 0, 1) := by decide +kernel
theorem d_Mod_useNames_6 : decode k_Mod_useNames 6 = .ok (.getfield 63, 3) := by decide +kernel
theorem d_Mod_useNames_9 : decode k_Mod_useNames 9 = .ok (.if_icmp .ge 114, 3) := by decide +kernel
theorem d_Mod_useNames_12 : decode k_Mod_useNames 12 = .ok (.iconst 0, 1) := by decide +kernel
theorem d_Mod_useNames_13 : decode k_Mod_useNames 13 = .ok (.istore 4, 2) := by decide +kernel
theorem d_Mod_useNames_15 : decode k_Mod_useNames 15 = .ok (.iload 4, 2) := by decide +kernel
theorem d_Mod_useNames_17 : decode k_Mod_useNames 17 = .ok (.bipush 8, 2) := by decide +kernel
theorem d_Mod_useNames_19 : decode k_Mod_useNames 19 = .ok (.if_icmp .ge 98, 3) := by decide +kernel
theorem d_Mod_useNames_22 : decode k_Mod_useNames 22 = .ok (.aload_n 0, 1) := by decide +kernel
theorem d_Mod_useNames_23 : decode k_Mod_useNames 23 = .ok (.getfield 13, 3) := by decide +kernel
theorem d_Mod_useNames_26 : decode k_Mod_useNames 26 = .ok (.iload_n 3, 1) := by decide +kernel
theorem d_Mod_useNames_27 : decode k_Mod_useNames 27 = .ok (.baload, 1) := by decide +kernel
theorem d_Mod_useNames_28 : decode k_Mod_useNames 28 = .ok (.ifCond .eq 89, 3) := by decide +kernel
theorem d_Mod_useNames_31 : decode k_Mod_useNames 31 = .ok (.aload_n 0, 1) := by decide +kernel
theorem d_Mod_useNames_32 : decode k_Mod_useNames 32 = .ok (.iload_n 3, 1) := by decide +kernel
theorem d_Mod_useNames_33 : decode k_Mod_useNames 33 = .ok (.iload_n 1, 1) := by decide +kernel
theorem d_Mod_useNames_34 : decode k_Mod_useNames 34 = .ok (.invokevirtual 91, 3) := by decide +kernel
theorem d_Mod_useNames_37 : decode k_Mod_useNames 37 = .ok (.ifCond .eq 80, 3) := by decide +kernel
theorem d_Mod_useNames_40 : decode k_Mod_useNames 40 = .ok (.bipush 32, 2) := by decide +kernel
theorem d_Mod_useNames_42 : decode k_Mod_useNames 42 = .ok (.aload_n 0, 1) := by decide +kernel
theorem d_Mod_useNames_43 : decode k_Mod_useNames 43 = .ok (.getfield 16, 3) := by decide +kernel
theorem d_Mod_useNames_46 : decode k_Mod_useNames 46 = .ok (.iload_n 3, 1) := by decide +kernel
theorem d_Mod_useNames_47 : decode k_Mod_useNames 47 = .ok (.iaload, 1) := by decide +kernel
theorem d_Mod_useNames_48 : decode k_Mod_useNames 48 = .ok (.imul, 1) := by decide +kernel
theorem d_Mod_useNames_49 : decode k_Mod_useNames 49 = .ok (.bipush 8, 2) := by decide +kernel
theorem d_Mod_useNames_51 : decode k_Mod_useNames 51 = .ok (.aload_n 0, 1) := by decide +kernel
theorem d_Mod_useNames_52 : decode k_Mod_useNames 52 = .ok (.getfield 20, 3) := by decide +kernel
theorem d_Mod_useNames_55 : decode k_Mod_useNames 55 = .ok (.iload_n 3, 1) := by decide +kernel
theorem d_Mod_useNames_56 : decode k_Mod_useNames 56 = .ok (.iaload, 1) := by decide +kernel
theorem d_Mod_useNames_57 : decode k_Mod_useNames 57 = .ok (.imul, 1) := by decide +kernel
theorem d_Mod_useNames_58 : decode k_Mod_useNames 58 = .ok (.iadd, 1) := by decide +kernel
theorem d_Mod_useNames_59 : decode k_Mod_useNames 59 = .ok (.iload 4, 2) := by decide +kernel
theorem d_Mod_useNames_61 : decode k_Mod_useNames 61 = .ok (.iadd, 1) := by decide +kernel
theorem d_Mod_useNames_62 : decode k_Mod_useNames 62 = .ok (.istore 5, 2) := by decide +kernel
theorem d_Mod_useNames_64 : decode k_Mod_useNames 64 = .ok (.aload_n 0, 1) := by decide +kernel
theorem d_Mod_useNames_65 : decode k_Mod_useNames 65 = .ok (.aload_n 0, 1) := by decide +kernel
theorem d_Mod_useNames_66 : decode k_Mod_useNames 66 = .ok (.getfield 29, 3) := by decide +kernel
theorem d_Mod_useNames_69 : decode k_Mod_useNames 69 = .ok (.iconst 3, 1) := by decide +kernel
theorem d_Mod_useNames_70 : decode k_Mod_useNames 70 = .ok (.iload_n 3, 1) := by decide +kernel
theorem d_Mod_useNames_71 : decode k_Mod_useNames 71 = .ok (.imul, 1) := by decide +kernel
theorem d_Mod_useNames_72 : decode k_Mod_useNames 72 = .ok (.iaload, 1) := by decide +kernel
theorem d_Mod_useNames_73 : decode k_Mod_useNames 73 = .ok (.iload 4, 2) := by decide +kernel
theorem d_Mod_useNames_75 : decode k_Mod_useNames 75 = .ok (.invokevirtual 95, 3) := by decide +kernel
theorem d_Mod_useNames_78 : decode k_Mod_useNames 78 = .ok (.istore 6, 2) := by decide +kernel
theorem d_Mod_useNames_80 : decode k_Mod_useNames 80 = .ok (.iload 6, 2) := by decide +kernel
theorem d_Mod_useNames_82 : decode k_Mod_useNames 82 = .ok (.iconst 1, 1) := by decide +kernel
theorem d_Mod_useNames_83 : decode k_Mod_useNames 83 = .ok (.invokestatic 87, 3) := by decide +kernel
theorem d_Mod_useNames_86 : decode k_Mod_useNames 86 = .ok (.istore 6, 2) := by decide +kernel
theorem d_Mod_useNames_88 : decode k_Mod_useNames 88 = .ok (.iload 6, 2) := by decide +kernel
theorem d_Mod_useNames_90 : decode k_Mod_useNames 90 = .ok (.aload_n 0, 1) := by decide +kernel
theorem d_Mod_useNames_91 : decode k_Mod_useNames 91 = .ok (.getfield 50, 3) := by decide +kernel
theorem d_Mod_useNames_94 : decode k_Mod_useNames 94 = .ok (.iload 5, 2) := by decide +kernel
theorem d_Mod_useNames_96 : decode k_Mod_useNames 96 = .ok (.iaload, 1) := by decide +kernel
theorem d_Mod_useNames_97 : decode k_Mod_useNames 97 = .ok (.if_icmp .ge 14, 3) := by decide +kernel
theorem d_Mod_useNames_100 : decode k_Mod_useNames 100 = .ok (.aload_n 0, 1) := by decide +kernel
theorem d_Mod_useNames_101 : decode k_Mod_useNames 101 = .ok (.getfield 50, 3) := by decide +kernel
theorem d_Mod_useNames_104 : decode k_Mod_useNames 104 = .ok (.iload 5, 2) := by decide +kernel
theorem d_Mod_useNames_106 : decode k_Mod_useNames 106 = .ok (.iload 6, 2) := by decide +kernel
theorem d_Mod_useNames_108 : decode k_Mod_useNames 108 = .ok (.iastore, 1) := by decide +kernel
theorem d_Mod_useNames_109 : decode k_Mod_useNames 109 = .ok (.iconst 1, 1) := by decide +kernel
theorem d_Mod_useNames_110 : decode k_Mod_useNames 110 = .ok (.istore_n 2, 1) := by decide +kernel
theorem d_Mod_useNames_111 : decode k_Mod_useNames 111 = .ok (.iinc 4 1, 3) := by decide +kernel
theorem d_Mod_useNames_114 : decode k_Mod_useNames 114 = .ok (.goto (-99), 3) := by decide +kernel
theorem d_Mod_useNames_117 : decode k_Mod_useNames 117 = .ok (.iinc 3 1, 3) := by decide +kernel
theorem d_Mod_useNames_120 : decode k_Mod_useNames 120 = .ok (.goto (-116), 3) := by decide +kernel
theorem d_Mod_useNames_123 : decode k_Mod_useNames 123 = .ok (.iload_n 2, 1) := by decide +kernel
theorem d_Mod_useNames_124 : decode k_Mod_useNames 124 = .ok (.ireturn, 1) := by decide +kernel
set_option maxHeartbeats 4000000 in
set_option maxRecDepth 100000 in
theorem c_Mod_useNames (l : Launch) {B : Nat} {D : va_G} {cI cZ cQ : ClassId} {w : mm_M} {sz : Nat} {b : Nat} {N : Nat → Nat → Nat} {S : Nat → Nat → Int32} {t : Int32} {v9 : Nat → Nat} (hM : mo_I b cI cZ N S w) (hn : N 0 0 ≤ 24) (hR : rg_I N) (h14 : N 14 = fun j => dm_ph (v9 j)) (hv : ∀ j, v9 j ≤ 1000) : Met l y_Mod_useNames ws_Mod_useNames (kk_rm 3 0 0) (kk_Pc B D cI cZ cQ [.ref (b + 14), .int t] w sz) (kk_Qi B D (fun r w' sz' => r = nI (if dm_flag (ru_M N S t) v9 = true then 1 else 0) ∧ mo_I b cI cZ (va_up N 14 (fun j => dm_ph (dm_pass (ru_M N S t) v9 j))) S w' ∧ (∀ j, ¬ (b + 14 ≤ j ∧ j < b + 31) → w' j = w j) ∧ sz' = sz)) 0 0 (fun q => B ≤ q) := by
  refine Met.ofW (cc := k_Mod_useNames) (maxL := 7) (ret := (some .boolean)) (by decide) rfl ?_
  intro p e s m args below meth c s₁ BB hml hv
  obtain ⟨rfl, hK, hP, hz, hBz⟩ := hv
  have hx := BB.exec
  have hb := BB.bytes
  have hr := BB.returns
  have hts := atoms_spec (ws := ws_Mod_useNames) BB.pre
  have hown : s.vm.findClass "DelegationClosureModel" = some m.cls := findClass_of_methodNamed BB.named
  have hlocks := BB.notSynchronized
  have hS : mm_S B s.heap s.heap [] := va_S.rf
  have hl := lv_entry ([.ref (b + 14), .int t]) (n := 7) (Nat.le_of_ble_eq_true rfl)
  rw [lg_entry_eq]
  generalize (lg_sl ([.ref (b + 14), .int t]) ++ List.replicate (7 - (lg_sl ([.ref (b + 14), .int t])).length) Slot.unset).toArray = ls at hl ⊢
  have hl : lv_has ls 7 [(0, .ref (b + 14)), (1, .int t)] := hl
  have m0 : w (b + 14) = some (.inr (9, [.int (nI (N 0 0)), .ref (b + 15), .ref (b + 16), .ref (b + 17), .ref (b + 18), .ref (b + 19), .ref (b + 20), .ref (b + 21), .ref (b + 22), .ref (b + 23), .ref (b + 24), .ref (b + 25), .ref (b + 26), .ref (b + 27), .ref (b + 28), .ref (b + 29), .int (nI (N 16 0)), .int (nI (N 17 0)), .int (nI (N 18 0)), .ref (b + 30), .int (nI (N 20 0)), .int (S 21 0), .int (S 22 0), .int (S 23 0), .int (S 24 0), .int (nI (N 25 0)), .int (nI (N 26 0))])) := hM.1
  have m1 : w (b + 15) = some (.inl (cZ, 24, .inl (fun i => nI ((N 1) i)))) := hM.2 1 (by decide) (by decide)
  have m2 : w (b + 16) = some (.inl (cZ, 24, .inl (fun i => nI ((N 2) i)))) := hM.2 2 (by decide) (by decide)
  have m3 : w (b + 17) = some (.inl (cI, 24, .inl (fun i => nI ((N 3) i)))) := hM.2 3 (by decide) (by decide)
  have m4 : w (b + 18) = some (.inl (cI, 24, .inl (fun i => nI ((N 4) i)))) := hM.2 4 (by decide) (by decide)
  have m5 : w (b + 19) = some (.inl (cI, 24, .inl (S 5))) := hM.2 5 (by decide) (by decide)
  have m6 : w (b + 20) = some (.inl (cI, 24, .inl (S 6))) := hM.2 6 (by decide) (by decide)
  have m7 : w (b + 21) = some (.inl (cI, 72, .inl (fun i => nI ((N 7) i)))) := hM.2 7 (by decide) (by decide)
  have m8 : w (b + 22) = some (.inl (cI, 24, .inl (fun i => nI ((N 8) i)))) := hM.2 8 (by decide) (by decide)
  have m9 : w (b + 23) = some (.inl (cI, 24, .inl (fun i => nI ((N 9) i)))) := hM.2 9 (by decide) (by decide)
  have m10 : w (b + 24) = some (.inl (cI, 24, .inl (fun i => nI ((N 10) i)))) := hM.2 10 (by decide) (by decide)
  have m11 : w (b + 25) = some (.inl (cI, 24, .inl (S 11))) := hM.2 11 (by decide) (by decide)
  have m12 : w (b + 26) = some (.inl (cI, 24, .inl (S 12))) := hM.2 12 (by decide) (by decide)
  have m13 : w (b + 27) = some (.inl (cZ, 24, .inl (fun i => nI ((N 13) i)))) := hM.2 13 (by decide) (by decide)
  have m14 : w (b + 28) = some (.inl (cI, 256, .inl (fun i => nI ((N 14) i)))) := hM.2 14 (by decide) (by decide)
  have m15 : w (b + 29) = some (.inl (cI, 24, .inl (fun i => nI ((N 15) i)))) := hM.2 15 (by decide) (by decide)
  have m16 : w (b + 30) = some (.inl (cI, 5, .inl (fun i => nI ((N 19) i)))) := hM.2 16 (by decide) (by decide)
  have m14 : w (b + 28) = some (.inl (cI, 256, .inl (fun i => nI (dm_ph (v9 i))))) := by have h9 : w (b + 28) = some (.inl (cI, 256, .inl (fun i => nI (N 14 i)))) := hM.2 14 (by decide) (by decide); rw [h14] at h9; exact h9
  refine lv_iconst (v := nI 0) hx hb d_Mod_useNames_0 (by decide) ?_
  refine lv_istore_n hx hb d_Mod_useNames_1 rfl hl (by decide) rfl (fun ls hl => ?_)
  have hl : lv_has ls 7 [(2, .int (nI 0)), (0, .ref (b + 14)), (1, .int t)] := hl
  refine lv_iconst (v := nI 0) hx hb d_Mod_useNames_2 (by decide) ?_
  refine lv_istore_n hx hb d_Mod_useNames_3 rfl hl (by decide) rfl (fun ls hl => ?_)
  have hl : lv_has ls 7 [(3, .int (nI 0)), (2, .int (nI 0)), (0, .ref (b + 14)), (1, .int t)] := hl
  have lp1 : ∀ (d : Nat) (k : Nat) (w2 : mm_M) (H : Heap) (locs : List Loc) (ls : Array Slot), d = N 0 0 - k → (mm_P B D kc w2 H) → (H.size = sz) → (mm_S B s.heap H locs) → (∀ j, j ≠ b + 28 → w2 j = w j) → (w2 (b + 28) = some (.inl (cI, 256, .inl (fun i => nI (dm_ph ((dm_pass (dm_upto (ru_m N S t) k) v9) i)))))) → (k ≤ N 0 0) → lv_has ls 7 [(3, .int (nI k)), (2, .int (nI (if dm_flag (dm_upto (ru_m N S t) k) v9 = true then 1 else 0))), (0, .ref (b + 14)), (1, .int t)] → W p l e (headSpec ws_Mod_useNames (kk_rm 3 0 0)).room s m ([.ref (b + 14), .int t]).toArray below meth c H locs 0 0 (MQ below (kk_Qi B D (fun r w' sz' => r = nI (if dm_flag (ru_M N S t) v9 = true then 1 else 0) ∧ mo_I b cI cZ (va_up N 14 (fun j => dm_ph (dm_pass (ru_M N S t) v9 j))) S w' ∧ (∀ j, ¬ (b + 14 ≤ j ∧ j < b + 31) → w' j = w j) ∧ sz' = sz)) ([.ref (b + 14), .int t]).toArray s 0 0 (fun q => B ≤ q)) (F0 m 4 ls []) := by
    intro d
    induction d using Nat.strongRecOn with
    | ind d ih =>
      intro k w2 H locs ls hd hP hz hS frw2 fw2_0 hk hl
      have hvk := dm_pass_1000 (R := dm_upto (ru_m N S t) k) hv
      have hMk : mo_I b cI cZ (va_up N 14 (fun j => dm_ph ((dm_pass (dm_upto (ru_m N S t) k) v9) j))) S w2 := mo_mk ((frw2 _ (by omega)).trans (m0)) ((frw2 _ (by omega)).trans (m1)) ((frw2 _ (by omega)).trans (m2)) ((frw2 _ (by omega)).trans (m3)) ((frw2 _ (by omega)).trans (m4)) ((frw2 _ (by omega)).trans (m5)) ((frw2 _ (by omega)).trans (m6)) ((frw2 _ (by omega)).trans (m7)) ((frw2 _ (by omega)).trans (m8)) ((frw2 _ (by omega)).trans (m9)) ((frw2 _ (by omega)).trans (m10)) ((frw2 _ (by omega)).trans (m11)) ((frw2 _ (by omega)).trans (m12)) ((frw2 _ (by omega)).trans (m13)) fw2_0 ((frw2 _ (by omega)).trans (m15)) ((frw2 _ (by omega)).trans (m16))
      refine lv_iload_n hx hb d_Mod_useNames_4 rfl (lv_at hl 0 rfl) ?_
      refine lv_aload_n hx hb d_Mod_useNames_5 rfl (lv_at hl 2 rfl) ?_
      have f3 := (frw2 _ (by omega)).trans (m0)
      refine mm_get (D := D) (C := n_Mod) (T := T_Mod) (N := 27) (v := .int (nI (N 0 0))) hx hb hts lay_Mod hown hK.1 hP f3 rfl 0 (by decide) (hts _ (List.mem_cons_of_mem _ wd_491)) (fun _ h9 => h9) rfl d_Mod_useNames_6 ?_
      refine lv_icmp_ge (tgt := 123) hx hb d_Mod_useNames_9 (by decide) (fun cc4 => ?_) (fun cc4 => ?_)
      · have cc4 : N 0 0 ≤ k := (nI_leI (by omega) (by omega)).mp cc4
        obtain rfl : k = N 0 0 := by omega
        refine lv_iload_n hx hb d_Mod_useNames_123 rfl (lv_at hl 1 rfl) ?_
        exact W.zret hx hb hr (kk_nar _) (fun t ht hW => ⟨⟨_, (w2, sz), rfl, ⟨rfl, (mo_mk f3 ((frw2 _ (by omega)).trans (m1)) ((frw2 _ (by omega)).trans (m2)) ((frw2 _ (by omega)).trans (m3)) ((frw2 _ (by omega)).trans (m4)) ((frw2 _ (by omega)).trans (m5)) ((frw2 _ (by omega)).trans (m6)) ((frw2 _ (by omega)).trans (m7)) ((frw2 _ (by omega)).trans (m8)) ((frw2 _ (by omega)).trans (m9)) ((frw2 _ (by omega)).trans (m10)) ((frw2 _ (by omega)).trans (m11)) ((frw2 _ (by omega)).trans (m12)) ((frw2 _ (by omega)).trans (m13)) fw2_0 ((frw2 _ (by omega)).trans (m15)) ((frw2 _ (by omega)).trans (m16))), (fun j hj => frw2 j (by omega)), rfl⟩, by rw [ht]; exact hP, by rw [ht]; exact hz⟩, hS.F ht⟩) hS.2.2 d_Mod_useNames_124
      · have cc4 : ¬ (N 0 0 ≤ k) := fun q => cc4 ((nI_leI (by omega) (by omega)).mpr q)
        have hj : k < N 0 0 := by omega
        have hRj := hR k hj
        have hsk : wf_subn (N 7 (3 * k)) := hRj.2.2.2.2.2.1 0 (by omega)
        by_cases hok : ru_ok N S t k
        · have hg7 := hRj.2.2.2.1 hok.2.1
          rw [kk_iteq (P := dm_flag (dm_upto (ru_m N S t) k) v9 = true) (Q := dm_flag (dm_upto (ru_m N S t) k) v9 = true ∨ dm_flag (dm_upto (ru_n (N 3 k) (N 4 k) (N 7 (3 * k))) 0) (dm_pass (dm_upto (ru_m N S t) k) v9) = true) (by simp [dm_upto, dm_flag])] at hl
          refine lv_iconst (v := nI 0) hx hb d_Mod_useNames_12 (by decide) ?_
          refine lv_istore hx hb d_Mod_useNames_13 hl (by decide) rfl (fun ls hl => ?_)
          have hl : lv_has ls 7 [(4, .int (nI 0)), (3, .int (nI k)), (2, .int (nI (if dm_flag (dm_upto (ru_m N S t) k) v9 = true ∨ dm_flag (dm_upto (ru_n (N 3 k) (N 4 k) (N 7 (3 * k))) 0) (dm_pass (dm_upto (ru_m N S t) k) v9) = true then 1 else 0))), (0, .ref (b + 14)), (1, .int t)] := hl
          have lp5 : ∀ (d : Nat) (y : Nat) (w6 : mm_M) (H : Heap) (locs : List Loc) (ls : Array Slot), d = 8 - y → (mm_P B D kc w6 H) → (H.size = sz) → (mm_S B s.heap H locs) → (∀ j, j ≠ b + 28 → w6 j = w2 j) → (w6 (b + 28) = some (.inl (cI, 256, .inl (fun i => nI (dm_ph ((dm_pass (dm_upto (ru_n (N 3 k) (N 4 k) (N 7 (3 * k))) y) (dm_pass (dm_upto (ru_m N S t) k) v9)) i)))))) → (y ≤ 8) → lv_has ls 7 [(4, .int (nI y)), (3, .int (nI k)), (2, .int (nI (if dm_flag (dm_upto (ru_m N S t) k) v9 = true ∨ dm_flag (dm_upto (ru_n (N 3 k) (N 4 k) (N 7 (3 * k))) y) (dm_pass (dm_upto (ru_m N S t) k) v9) = true then 1 else 0))), (0, .ref (b + 14)), (1, .int t)] → W p l e (headSpec ws_Mod_useNames (kk_rm 3 0 0)).room s m ([.ref (b + 14), .int t]).toArray below meth c H locs 0 0 (MQ below (kk_Qi B D (fun r w' sz' => r = nI (if dm_flag (ru_M N S t) v9 = true then 1 else 0) ∧ mo_I b cI cZ (va_up N 14 (fun j => dm_ph (dm_pass (ru_M N S t) v9 j))) S w' ∧ (∀ j, ¬ (b + 14 ≤ j ∧ j < b + 31) → w' j = w j) ∧ sz' = sz)) ([.ref (b + 14), .int t]).toArray s 0 0 (fun q => B ≤ q)) (F0 m 15 ls []) := by
            intro d
            induction d using Nat.strongRecOn with
            | ind d ihlp5 =>
              intro y w6 H locs ls hd hP hz hS frw6 fw6_0 hy hl
              have hvy := dm_pass_1000 (R := dm_upto (ru_n (N 3 k) (N 4 k) (N 7 (3 * k))) y) hvk
              have hMy : mo_I b cI cZ (va_up N 14 (fun j => dm_ph ((dm_pass (dm_upto (ru_n (N 3 k) (N 4 k) (N 7 (3 * k))) y) (dm_pass (dm_upto (ru_m N S t) k) v9)) j))) S w6 := mo_mk ((frw6 _ (by omega)).trans (f3)) ((frw6 _ (by omega)).trans ((frw2 _ (by omega)).trans (m1))) ((frw6 _ (by omega)).trans ((frw2 _ (by omega)).trans (m2))) ((frw6 _ (by omega)).trans ((frw2 _ (by omega)).trans (m3))) ((frw6 _ (by omega)).trans ((frw2 _ (by omega)).trans (m4))) ((frw6 _ (by omega)).trans ((frw2 _ (by omega)).trans (m5))) ((frw6 _ (by omega)).trans ((frw2 _ (by omega)).trans (m6))) ((frw6 _ (by omega)).trans ((frw2 _ (by omega)).trans (m7))) ((frw6 _ (by omega)).trans ((frw2 _ (by omega)).trans (m8))) ((frw6 _ (by omega)).trans ((frw2 _ (by omega)).trans (m9))) ((frw6 _ (by omega)).trans ((frw2 _ (by omega)).trans (m10))) ((frw6 _ (by omega)).trans ((frw2 _ (by omega)).trans (m11))) ((frw6 _ (by omega)).trans ((frw2 _ (by omega)).trans (m12))) ((frw6 _ (by omega)).trans ((frw2 _ (by omega)).trans (m13))) fw6_0 ((frw6 _ (by omega)).trans ((frw2 _ (by omega)).trans (m15))) ((frw6 _ (by omega)).trans ((frw2 _ (by omega)).trans (m16)))
              refine lv_iload hx hb d_Mod_useNames_15 (lv_at hl 0 rfl) ?_
              refine lv_bipush (v := nI 8) hx hb d_Mod_useNames_17 (by decide) ?_
              refine lv_icmp_ge (tgt := 117) hx hb d_Mod_useNames_19 (by decide) (fun cc7 => ?_) (fun cc7 => ?_)
              · have cc7 : 8 ≤ y := (nI_leI (by omega) (by omega)).mp cc7
                obtain rfl : y = 8 := by omega
                refine lv_iinc (k := 1) (v := nI (k + 1)) hx hb d_Mod_useNames_117 hl rfl (kk_inc _) (by decide) rfl (fun ls hl => ?_)
                have hl : lv_has ls 7 [(3, .int (nI (k + 1))), (4, .int (nI 8)), (2, .int (nI (if dm_flag (dm_upto (ru_m N S t) k) v9 = true ∨ dm_flag (dm_upto (ru_n (N 3 k) (N 4 k) (N 7 (3 * k))) 8) (dm_pass (dm_upto (ru_m N S t) k) v9) = true then 1 else 0))), (0, .ref (b + 14)), (1, .int t)] := hl
                refine lv_goto (tgt := 4) hx hb d_Mod_useNames_120 (by decide) ?_
                have e2 := dm_some (f := ru_m N S t) (g := v9) (k := k) (if_pos hok)
                rw [kk_iteq (P := dm_flag (dm_upto (ru_m N S t) k) v9 = true ∨ dm_flag (dm_upto (ru_n (N 3 k) (N 4 k) (N 7 (3 * k))) 8) (dm_pass (dm_upto (ru_m N S t) k) v9) = true) (Q := dm_flag (dm_upto (ru_m N S t) (k + 1)) v9 = true) (by rw [e2.2, Bool.or_eq_true])] at hl
                exact ih _ (by omega) (k + 1) w6 _ _ ls rfl hP hz hS (fun j g0 => (frw6 j g0).trans (frw2 j g0)) (by rw [e2.1]; exact fw6_0) (by omega) (lv_sub hl [0, 2, 3, 4] rfl)
              · have cc7 : ¬ (8 ≤ y) := fun q => cc7 ((nI_leI (by omega) (by omega)).mpr q)
                refine lv_aload_n hx hb d_Mod_useNames_22 rfl (lv_at hl 3 rfl) ?_
                have f8 := (frw6 _ (by omega)).trans (f3)
                refine mm_get (D := D) (C := n_Mod) (T := T_Mod) (N := 27) (v := .ref (b + 16)) hx hb hts lay_Mod hown hK.1 hP f8 rfl 2 (by decide) (hts _ (List.mem_cons_of_mem _ wd_493)) (fun _ h9 => h9) rfl d_Mod_useNames_23 ?_
                refine lv_iload_n hx hb d_Mod_useNames_26 rfl (lv_at hl 1 rfl) ?_
                have f9 := (frw6 _ (by omega)).trans ((frw2 _ (by omega)).trans (m2))
                refine mm_zald hx hb hK.1 hP 1 f9 rfl k rfl (by omega) (by decide) d_Mod_useNames_27 ?_
                refine W.eq (g2 := F0 m 28 ls [.int (nI ((N 2) k))]) rfl ?_
                refine lv_if_eq (tgt := 117) hx hb d_Mod_useNames_28 (by decide) (fun cc10 => ?_) (fun cc10 => ?_)
                · rw [← nI_0] at cc10
                  have cc10 : (N 2) k = 0 := (nI_eq (by omega) (by omega)).mp cc10
                  exact absurd hok.2.1 (by omega)
                · rw [← nI_0] at cc10
                  have cc10 : ¬ ((N 2) k = 0) := fun q => cc10 ((nI_eq (by omega) (by omega)).mpr q)
                  refine lv_aload_n hx hb d_Mod_useNames_31 rfl (lv_at hl 3 rfl) ?_
                  refine lv_iload_n hx hb d_Mod_useNames_32 rfl (lv_at hl 1 rfl) ?_
                  refine lv_iload_n hx hb d_Mod_useNames_33 rfl (lv_at hl 4 rfl) ?_
                  refine vp_callSi (va_Run.run (va_runV (As := [.int (nI k), .int t]) (rest := []) ⟨hx, hb, hml, hown, hts⟩ (c_Mod_isValid l (b := b) (N := (va_up N 14 (fun j => dm_ph ((dm_pass (dm_upto (ru_n (N 3 k) (N 4 k) (N 7 (3 * k))) y) (dm_pass (dm_upto (ru_m N S t) k) v9)) j)))) (S := S) hMy hn hR hj) (cwV 2 hts (gW_in (hd := [_, _, _, _, _]) (kk_5 wd_633 wd_635 sl_Mod_isValid wd_8 cw_Mod_isValid)) rfl rfl rfl ⟨rfl, ds_Mod_isValid⟩ ⟨Nat.le_of_ble_eq_true rfl, Nat.le_of_ble_eq_true rfl⟩) (kk_preV hK hP hz hBz f8 rfl) rfl rfl hl.1 rfl (lv_room (Nat.le_of_ble_eq_true rfl)) d_Mod_useNames_34 ⟨Nat.le_of_ble_eq_true rfl, Nat.le_of_ble_eq_true rfl⟩)) (fun r11 hr11 => ?_)
                  subst hr11
                  refine lv_if_eq (tgt := 117) hx hb d_Mod_useNames_37 (by decide) (fun cc12 => ?_) (fun cc12 => ?_)
                  · have cc12 := kk_b0 cc12
                    exact absurd ⟨hok.1, hok.2.2⟩ cc12
                  · have cc12 := kk_b1 cc12
                    refine lv_bipush (v := nI 32) hx hb d_Mod_useNames_40 (by decide) ?_
                    refine lv_aload_n hx hb d_Mod_useNames_42 rfl (lv_at hl 3 rfl) ?_
                    refine mm_get (D := D) (C := n_Mod) (T := T_Mod) (N := 27) (v := .ref (b + 17)) hx hb hts lay_Mod hown hK.1 hP f8 rfl 3 (by decide) (hts _ (List.mem_cons_of_mem _ wd_494)) (fun _ h9 => h9) rfl d_Mod_useNames_43 ?_
                    refine lv_iload_n hx hb d_Mod_useNames_46 rfl (lv_at hl 1 rfl) ?_
                    have f13 := (frw6 _ (by omega)).trans ((frw2 _ (by omega)).trans (m3))
                    refine mm_iald hx hb hK.1 hP 0 f13 rfl k rfl (by omega) (by decide) d_Mod_useNames_47 ?_
                    refine W.eq (g2 := F0 m 48 ls [.int (nI ((N 3) k)), .int (nI 32)]) rfl ?_
                    refine lv_imul hx hb d_Mod_useNames_48 ?_
                    refine kk_top (pk_mul _ _) ?_
                    refine lv_bipush (v := nI 8) hx hb d_Mod_useNames_49 (by decide) ?_
                    refine lv_aload_n hx hb d_Mod_useNames_51 rfl (lv_at hl 3 rfl) ?_
                    refine mm_get (D := D) (C := n_Mod) (T := T_Mod) (N := 27) (v := .ref (b + 18)) hx hb hts lay_Mod hown hK.1 hP f8 rfl 4 (by decide) (hts _ (List.mem_cons_of_mem _ wd_495)) (fun _ h9 => h9) rfl d_Mod_useNames_52 ?_
                    refine lv_iload_n hx hb d_Mod_useNames_55 rfl (lv_at hl 1 rfl) ?_
                    have f14 := (frw6 _ (by omega)).trans ((frw2 _ (by omega)).trans (m4))
                    refine mm_iald hx hb hK.1 hP 0 f14 rfl k rfl (by omega) (by decide) d_Mod_useNames_56 ?_
                    refine W.eq (g2 := F0 m 57 ls [.int (nI ((N 4) k)), .int (nI 8), .int (nI (32 * ((N 3) k)))]) rfl ?_
                    refine lv_imul hx hb d_Mod_useNames_57 ?_
                    refine kk_top (pk_mul _ _) ?_
                    refine lv_iadd hx hb d_Mod_useNames_58 ?_
                    refine kk_top (nI_add _ _) ?_
                    refine lv_iload hx hb d_Mod_useNames_59 (lv_at hl 0 rfl) ?_
                    refine lv_iadd hx hb d_Mod_useNames_61 ?_
                    refine kk_top (nI_add _ _) ?_
                    refine lv_istore hx hb d_Mod_useNames_62 hl (by decide) rfl (fun ls hl => ?_)
                    have hl : lv_has ls 7 [(5, .int (nI (((32 * ((N 3) k)) + (8 * ((N 4) k))) + y))), (4, .int (nI y)), (3, .int (nI k)), (2, .int (nI (if dm_flag (dm_upto (ru_m N S t) k) v9 = true ∨ dm_flag (dm_upto (ru_n (N 3 k) (N 4 k) (N 7 (3 * k))) y) (dm_pass (dm_upto (ru_m N S t) k) v9) = true then 1 else 0))), (0, .ref (b + 14)), (1, .int t)] := hl
                    refine lv_aload_n hx hb d_Mod_useNames_64 rfl (lv_at hl 4 rfl) ?_
                    refine lv_aload_n hx hb d_Mod_useNames_65 rfl (lv_at hl 4 rfl) ?_
                    refine mm_get (D := D) (C := n_Mod) (T := T_Mod) (N := 27) (v := .ref (b + 21)) hx hb hts lay_Mod hown hK.1 hP f8 rfl 7 (by decide) (hts _ (List.mem_cons_of_mem _ wd_498)) (fun _ h9 => h9) rfl d_Mod_useNames_66 ?_
                    refine lv_iconst (v := nI 3) hx hb d_Mod_useNames_69 (by decide) ?_
                    refine lv_iload_n hx hb d_Mod_useNames_70 rfl (lv_at hl 2 rfl) ?_
                    refine lv_imul hx hb d_Mod_useNames_71 ?_
                    refine kk_top (pk_mul _ _) ?_
                    have f15 := (frw6 _ (by omega)).trans ((frw2 _ (by omega)).trans (m7))
                    refine mm_iald hx hb hK.1 hP 0 f15 rfl (3 * k) rfl (by omega) (by decide) d_Mod_useNames_72 ?_
                    refine W.eq (g2 := F0 m 73 ls [.int (nI ((N 7) (3 * k))), .ref (b + 14)]) rfl ?_
                    refine lv_iload hx hb d_Mod_useNames_73 (lv_at hl 1 rfl) ?_
                    refine vp_callSi (va_Run.run (va_runV (As := [.int (nI ((N 7) (3 * k))), .int (nI y)]) (rest := []) ⟨hx, hb, hml, hown, hts⟩ (c_Mod_costOf l (b := b) (N := (va_up N 14 (fun j => dm_ph ((dm_pass (dm_upto (ru_n (N 3 k) (N 4 k) (N 7 (3 * k))) y) (dm_pass (dm_upto (ru_m N S t) k) v9)) j)))) (S := S) (v9 := (dm_pass (dm_upto (ru_n (N 3 k) (N 4 k) (N 7 (3 * k))) y) (dm_pass (dm_upto (ru_m N S t) k) v9))) hMy (by omega) (by omega) rfl hvy) (cwV 2 hts (gW_in (hd := [_, _, _, _, _]) (kk_5 wd_637 wd_639 sl_Mod_costOf wd_8 cw_Mod_costOf)) rfl rfl rfl ⟨rfl, ds_Mod_costOf⟩ ⟨Nat.le_of_ble_eq_true rfl, Nat.le_of_ble_eq_true rfl⟩) (kk_preV hK hP hz hBz f8 rfl) rfl rfl hl.1 rfl (lv_room (Nat.le_of_ble_eq_true rfl)) d_Mod_useNames_75 ⟨Nat.le_of_ble_eq_true rfl, Nat.le_of_ble_eq_true rfl⟩)) (fun r16 hr16 => ?_)
                    subst hr16
                    refine lv_istore hx hb d_Mod_useNames_78 hl (by decide) rfl (fun ls hl => ?_)
                    have hl : lv_has ls 7 [(6, .int (nI (dm_ph (dm_ofs (dm_pass (dm_upto (ru_n (N 3 k) (N 4 k) (N 7 (3 * k))) y) (dm_pass (dm_upto (ru_m N S t) k) v9)) ((N 7) (3 * k)) y)))), (5, .int (nI (((32 * ((N 3) k)) + (8 * ((N 4) k))) + y))), (4, .int (nI y)), (3, .int (nI k)), (2, .int (nI (if dm_flag (dm_upto (ru_m N S t) k) v9 = true ∨ dm_flag (dm_upto (ru_n (N 3 k) (N 4 k) (N 7 (3 * k))) y) (dm_pass (dm_upto (ru_m N S t) k) v9) = true then 1 else 0))), (0, .ref (b + 14)), (1, .int t)] := hl
                    refine lv_iload hx hb d_Mod_useNames_80 (lv_at hl 0 rfl) ?_
                    refine lv_iconst (v := nI 1) hx hb d_Mod_useNames_82 (by decide) ?_
                    have hq1 := dm_ofs_le hvy (N 7 (3 * k)) y
                    refine vp_callSi (va_Run.run (va_runS (As := [.int (nI (dm_ph (dm_ofs (dm_pass (dm_upto (ru_n (N 3 k) (N 4 k) (N 7 (3 * k))) y) (dm_pass (dm_upto (ru_m N S t) k) v9)) ((N 7) (3 * k)) y))), .int (nI 1)]) (rest := []) ⟨hx, hb, hml, hown, hts⟩ (c_Mod_sum l (a := (dm_ofs (dm_pass (dm_upto (ru_n (N 3 k) (N 4 k) (N 7 (3 * k))) y) (dm_pass (dm_upto (ru_m N S t) k) v9)) ((N 7) (3 * k)) y)) (b := 1) (by omega) (by omega)) (va_cwS 2 hts (gW_in (hd := [_, _, _, _]) (kk_4 wd_644 wd_645 wd_8 cw_Mod_sum)) rfl rfl rfl ds_Mod_sum ⟨Nat.le_of_ble_eq_true rfl, Nat.le_of_ble_eq_true rfl⟩) (kk_preS hK hP hz hBz) rfl rfl hl.1 rfl (lv_room (Nat.le_of_ble_eq_true rfl)) d_Mod_useNames_83 ⟨Nat.le_of_ble_eq_true rfl, Nat.le_of_ble_eq_true rfl⟩)) (fun r17 hr17 => ?_)
                    subst hr17
                    refine lv_istore hx hb d_Mod_useNames_86 hl (by decide) rfl (fun ls hl => ?_)
                    have hl : lv_has ls 7 [(6, .int (nI (dm_ph (dm_s (dm_ofs (dm_pass (dm_upto (ru_n (N 3 k) (N 4 k) (N 7 (3 * k))) y) (dm_pass (dm_upto (ru_m N S t) k) v9)) ((N 7) (3 * k)) y) 1)))), (5, .int (nI (((32 * ((N 3) k)) + (8 * ((N 4) k))) + y))), (4, .int (nI y)), (3, .int (nI k)), (2, .int (nI (if dm_flag (dm_upto (ru_m N S t) k) v9 = true ∨ dm_flag (dm_upto (ru_n (N 3 k) (N 4 k) (N 7 (3 * k))) y) (dm_pass (dm_upto (ru_m N S t) k) v9) = true then 1 else 0))), (0, .ref (b + 14)), (1, .int t)] := hl
                    refine lv_iload hx hb d_Mod_useNames_88 (lv_at hl 0 rfl) ?_
                    refine lv_aload_n hx hb d_Mod_useNames_90 rfl (lv_at hl 5 rfl) ?_
                    refine mm_get (D := D) (C := n_Mod) (T := T_Mod) (N := 27) (v := .ref (b + 28)) hx hb hts lay_Mod hown hK.1 hP f8 rfl 14 (by decide) (hts _ (List.mem_cons_of_mem _ wd_505)) (fun _ h9 => h9) rfl d_Mod_useNames_91 ?_
                    refine lv_iload hx hb d_Mod_useNames_94 (lv_at hl 1 rfl) ?_
                    refine mm_iald hx hb hK.1 hP 0 fw6_0 rfl (((32 * ((N 3) k)) + (8 * ((N 4) k))) + y) rfl (by omega) (by decide) d_Mod_useNames_96 ?_
                    refine W.eq (g2 := F0 m 97 ls [.int (nI (dm_ph ((dm_pass (dm_upto (ru_n (N 3 k) (N 4 k) (N 7 (3 * k))) y) (dm_pass (dm_upto (ru_m N S t) k) v9)) (((32 * ((N 3) k)) + (8 * ((N 4) k))) + y)))), .int (nI (dm_ph (dm_s (dm_ofs (dm_pass (dm_upto (ru_n (N 3 k) (N 4 k) (N 7 (3 * k))) y) (dm_pass (dm_upto (ru_m N S t) k) v9)) ((N 7) (3 * k)) y) 1)))]) rfl ?_
                    have hq2 := dm_s_le (dm_ofs (dm_pass (dm_upto (ru_n (N 3 k) (N 4 k) (N 7 (3 * k))) y) (dm_pass (dm_upto (ru_m N S t) k) v9)) (N 7 (3 * k)) y) 1
                    have hq3 := hvy (32 * N 3 k + 8 * N 4 k + y)
                    have hq4 := dm_ph_le (dm_s (dm_ofs (dm_pass (dm_upto (ru_n (N 3 k) (N 4 k) (N 7 (3 * k))) y) (dm_pass (dm_upto (ru_m N S t) k) v9)) (N 7 (3 * k)) y) 1)
                    have hq5 := dm_ph_le ((dm_pass (dm_upto (ru_n (N 3 k) (N 4 k) (N 7 (3 * k))) y) (dm_pass (dm_upto (ru_m N S t) k) v9)) (32 * N 3 k + 8 * N 4 k + y))
                    refine lv_icmp_ge (tgt := 111) hx hb d_Mod_useNames_97 (by decide) (fun cc18 => ?_) (fun cc18 => ?_)
                    · have cc18 : dm_ph ((dm_pass (dm_upto (ru_n (N 3 k) (N 4 k) (N 7 (3 * k))) y) (dm_pass (dm_upto (ru_m N S t) k) v9)) (((32 * ((N 3) k)) + (8 * ((N 4) k))) + y)) ≤ dm_ph (dm_s (dm_ofs (dm_pass (dm_upto (ru_n (N 3 k) (N 4 k) (N 7 (3 * k))) y) (dm_pass (dm_upto (ru_m N S t) k) v9)) ((N 7) (3 * k)) y) 1) := (nI_leI (by omega) (by omega)).mp cc18
                      have e1 := dm_one_f (f := ru_n (N 3 k) (N 4 k) (N 7 (3 * k))) (g := dm_pass (dm_upto (ru_m N S t) k) v9) (k := y) (t := 32 * N 3 k + 8 * N 4 k + y) (F := fun v => dm_s 1 (dm_ofs v (N 7 (3 * k)) y)) rfl (by rw [dm_s_comm 1]; exact Nat.not_lt.mpr ((dm_ph_le_iff hq3 hq2).mp cc18))
                      rw [← e1.2] at hl
                      refine lv_iinc (k := 2) (v := nI (y + 1)) hx hb d_Mod_useNames_111 hl rfl (kk_inc _) (by decide) rfl (fun ls hl => ?_)
                      have hl : lv_has ls 7 [(4, .int (nI (y + 1))), (6, .int (nI (dm_ph (dm_s (dm_ofs (dm_pass (dm_upto (ru_n (N 3 k) (N 4 k) (N 7 (3 * k))) y) (dm_pass (dm_upto (ru_m N S t) k) v9)) ((N 7) (3 * k)) y) 1)))), (5, .int (nI (((32 * ((N 3) k)) + (8 * ((N 4) k))) + y))), (3, .int (nI k)), (2, .int (nI (if dm_flag (dm_upto (ru_m N S t) k) v9 = true ∨ dm_flag (dm_upto (ru_n (N 3 k) (N 4 k) (N 7 (3 * k))) (y + 1)) (dm_pass (dm_upto (ru_m N S t) k) v9) = true then 1 else 0))), (0, .ref (b + 14)), (1, .int t)] := hl
                      refine lv_goto (tgt := 15) hx hb d_Mod_useNames_114 (by decide) ?_
                      exact ihlp5 _ (by omega) (y + 1) w6 _ _ ls rfl hP hz hS (fun j g0 => frw6 j g0) (by rw [e1.1]; exact fw6_0) (by omega) (lv_sub hl [0, 3, 4, 5, 6] rfl)
                    · have cc18 : ¬ (dm_ph ((dm_pass (dm_upto (ru_n (N 3 k) (N 4 k) (N 7 (3 * k))) y) (dm_pass (dm_upto (ru_m N S t) k) v9)) (((32 * ((N 3) k)) + (8 * ((N 4) k))) + y)) ≤ dm_ph (dm_s (dm_ofs (dm_pass (dm_upto (ru_n (N 3 k) (N 4 k) (N 7 (3 * k))) y) (dm_pass (dm_upto (ru_m N S t) k) v9)) ((N 7) (3 * k)) y) 1)) := fun q => cc18 ((nI_leI (by omega) (by omega)).mpr q)
                      have e1 := dm_one_t (f := ru_n (N 3 k) (N 4 k) (N 7 (3 * k))) (g := dm_pass (dm_upto (ru_m N S t) k) v9) (k := y) (t := 32 * N 3 k + 8 * N 4 k + y) (F := fun v => dm_s 1 (dm_ofs v (N 7 (3 * k)) y)) rfl (by rw [dm_s_comm 1]; exact Nat.lt_of_not_le (fun q => cc18 ((dm_ph_le_iff hq3 hq2).mpr q)))
                      refine lv_aload_n hx hb d_Mod_useNames_100 rfl (lv_at hl 5 rfl) ?_
                      refine mm_get (D := D) (C := n_Mod) (T := T_Mod) (N := 27) (v := .ref (b + 28)) hx hb hts lay_Mod hown hK.1 hP f8 rfl 14 (by decide) (hts _ (List.mem_cons_of_mem _ wd_505)) (fun _ h9 => h9) rfl d_Mod_useNames_101 ?_
                      refine lv_iload hx hb d_Mod_useNames_104 (lv_at hl 1 rfl) ?_
                      refine lv_iload hx hb d_Mod_useNames_106 (lv_at hl 0 rfl) ?_
                      refine mm_iast hx hb hK.1 hP hS 0 fw6_0 rfl (((32 * ((N 3) k)) + (8 * ((N 4) k))) + y) rfl (by omega) (by decide) d_Mod_useNames_108 (fun H locs hP hz1 hS => ?_)
                      rw [show upd (fun i => nI (dm_ph ((dm_pass (dm_upto (ru_n (N 3 k) (N 4 k) (N 7 (3 * k))) y) (dm_pass (dm_upto (ru_m N S t) k) v9)) i))) (((32 * ((N 3) k)) + (8 * ((N 4) k))) + y) (nI (dm_ph (dm_s (dm_ofs (dm_pass (dm_upto (ru_n (N 3 k) (N 4 k) (N 7 (3 * k))) y) (dm_pass (dm_upto (ru_m N S t) k) v9)) ((N 7) (3 * k)) y) 1))) = fun i => nI (dm_ph ((va_up (dm_pass (dm_upto (ru_n (N 3 k) (N 4 k) (N 7 (3 * k))) y) (dm_pass (dm_upto (ru_m N S t) k) v9)) (((32 * ((N 3) k)) + (8 * ((N 4) k))) + y) (dm_s (dm_ofs (dm_pass (dm_upto (ru_n (N 3 k) (N 4 k) (N 7 (3 * k))) y) (dm_pass (dm_upto (ru_m N S t) k) v9)) ((N 7) (3 * k)) y) 1)) i)) from kk_upp _ _ _] at hP
                      have hz : H.size = sz := hz1.trans hz
                      obtain ⟨w19, hw19⟩ : ∃ z : mm_M, z = mm_up w6 (b + 28) (.inl (cI, 256, .inl (fun i => nI (dm_ph ((va_up (dm_pass (dm_upto (ru_n (N 3 k) (N 4 k) (N 7 (3 * k))) y) (dm_pass (dm_upto (ru_m N S t) k) v9)) (((32 * ((N 3) k)) + (8 * ((N 4) k))) + y) (dm_s (dm_ofs (dm_pass (dm_upto (ru_n (N 3 k) (N 4 k) (N 7 (3 * k))) y) (dm_pass (dm_upto (ru_m N S t) k) v9)) ((N 7) (3 * k)) y) 1)) i))))) := ⟨_, rfl⟩
                      have hP : mm_P B D kc w19 H := by rw [hw19]; exact hP
                      have fr19 : ∀ j, j ≠ b + 28 → w19 j = w6 j := fun j h9 => by rw [hw19]; exact mm_un h9
                      have fa19 : w19 (b + 28) = some (.inl (cI, 256, .inl (fun i => nI (dm_ph ((va_up (dm_pass (dm_upto (ru_n (N 3 k) (N 4 k) (N 7 (3 * k))) y) (dm_pass (dm_upto (ru_m N S t) k) v9)) (((32 * ((N 3) k)) + (8 * ((N 4) k))) + y) (dm_s (dm_ofs (dm_pass (dm_upto (ru_n (N 3 k) (N 4 k) (N 7 (3 * k))) y) (dm_pass (dm_upto (ru_m N S t) k) v9)) ((N 7) (3 * k)) y) 1)) i))))) := by rw [hw19]; exact mm_us _ _ _
                      refine lv_iconst (v := nI 1) hx hb d_Mod_useNames_109 (by decide) ?_
                      refine kk_top (y := nI (if dm_flag (dm_upto (ru_m N S t) k) v9 = true ∨ dm_flag (dm_upto (ru_n (N 3 k) (N 4 k) (N 7 (3 * k))) (y + 1)) (dm_pass (dm_upto (ru_m N S t) k) v9) = true then 1 else 0)) (kk_ift (Or.inr e1.2)) ?_
                      refine lv_istore_n hx hb d_Mod_useNames_110 rfl hl (by decide) rfl (fun ls hl => ?_)
                      have hl : lv_has ls 7 [(2, .int (nI (if dm_flag (dm_upto (ru_m N S t) k) v9 = true ∨ dm_flag (dm_upto (ru_n (N 3 k) (N 4 k) (N 7 (3 * k))) (y + 1)) (dm_pass (dm_upto (ru_m N S t) k) v9) = true then 1 else 0))), (6, .int (nI (dm_ph (dm_s (dm_ofs (dm_pass (dm_upto (ru_n (N 3 k) (N 4 k) (N 7 (3 * k))) y) (dm_pass (dm_upto (ru_m N S t) k) v9)) ((N 7) (3 * k)) y) 1)))), (5, .int (nI (((32 * ((N 3) k)) + (8 * ((N 4) k))) + y))), (4, .int (nI y)), (3, .int (nI k)), (0, .ref (b + 14)), (1, .int t)] := hl
                      refine lv_iinc (k := 3) (v := nI (y + 1)) hx hb d_Mod_useNames_111 hl rfl (kk_inc _) (by decide) rfl (fun ls hl => ?_)
                      have hl : lv_has ls 7 [(4, .int (nI (y + 1))), (2, .int (nI (if dm_flag (dm_upto (ru_m N S t) k) v9 = true ∨ dm_flag (dm_upto (ru_n (N 3 k) (N 4 k) (N 7 (3 * k))) (y + 1)) (dm_pass (dm_upto (ru_m N S t) k) v9) = true then 1 else 0))), (6, .int (nI (dm_ph (dm_s (dm_ofs (dm_pass (dm_upto (ru_n (N 3 k) (N 4 k) (N 7 (3 * k))) y) (dm_pass (dm_upto (ru_m N S t) k) v9)) ((N 7) (3 * k)) y) 1)))), (5, .int (nI (((32 * ((N 3) k)) + (8 * ((N 4) k))) + y))), (3, .int (nI k)), (0, .ref (b + 14)), (1, .int t)] := hl
                      refine lv_goto (tgt := 15) hx hb d_Mod_useNames_114 (by decide) ?_
                      rw [dm_s_comm _ 1] at fa19
                      exact ihlp5 _ (by omega) (y + 1) w19 _ _ ls rfl hP hz hS (fun j g0 => (fr19 j g0).trans (frw6 j g0)) (by rw [e1.1]; exact fa19) (by omega) (lv_sub hl [0, 4, 1, 5, 6] rfl)
          exact lp5 _ 0 w2 _ _ _ rfl hP hz hS (fun _ _ => rfl) fw2_0 (by omega) (lv_sub hl [0, 1, 2, 3, 4] rfl)
        · refine lv_iconst (v := nI 0) hx hb d_Mod_useNames_12 (by decide) ?_
          refine lv_istore hx hb d_Mod_useNames_13 hl (by decide) rfl (fun ls hl => ?_)
          have hl : lv_has ls 7 [(4, .int (nI 0)), (3, .int (nI k)), (2, .int (nI (if dm_flag (dm_upto (ru_m N S t) k) v9 = true then 1 else 0))), (0, .ref (b + 14)), (1, .int t)] := hl
          refine lv_iload hx hb d_Mod_useNames_15 (lv_at hl 0 rfl) ?_
          refine lv_bipush (v := nI 8) hx hb d_Mod_useNames_17 (by decide) ?_
          refine lv_icmp_ge (tgt := 117) hx hb d_Mod_useNames_19 (by decide) (fun cc20 => ?_) (fun cc20 => ?_)
          · have cc20 : 8 ≤ 0 := (nI_leI (by omega) (by omega)).mp cc20
            exact absurd cc20 (by omega)
          · have cc20 : ¬ (8 ≤ 0) := fun q => cc20 ((nI_leI (by omega) (by omega)).mpr q)
            refine lv_aload_n hx hb d_Mod_useNames_22 rfl (lv_at hl 3 rfl) ?_
            refine mm_get (D := D) (C := n_Mod) (T := T_Mod) (N := 27) (v := .ref (b + 16)) hx hb hts lay_Mod hown hK.1 hP f3 rfl 2 (by decide) (hts _ (List.mem_cons_of_mem _ wd_493)) (fun _ h9 => h9) rfl d_Mod_useNames_23 ?_
            refine lv_iload_n hx hb d_Mod_useNames_26 rfl (lv_at hl 1 rfl) ?_
            have f21 := (frw2 _ (by omega)).trans (m2)
            refine mm_zald hx hb hK.1 hP 1 f21 rfl k rfl (by omega) (by decide) d_Mod_useNames_27 ?_
            refine W.eq (g2 := F0 m 28 ls [.int (nI ((N 2) k))]) rfl ?_
            refine lv_if_eq (tgt := 117) hx hb d_Mod_useNames_28 (by decide) (fun cc22 => ?_) (fun cc22 => ?_)
            · rw [← nI_0] at cc22
              have cc22 : (N 2) k = 0 := (nI_eq (by omega) (by omega)).mp cc22
              refine lv_iinc (k := 1) (v := nI (k + 1)) hx hb d_Mod_useNames_117 hl rfl (kk_inc _) (by decide) rfl (fun ls hl => ?_)
              have hl : lv_has ls 7 [(3, .int (nI (k + 1))), (4, .int (nI 0)), (2, .int (nI (if dm_flag (dm_upto (ru_m N S t) k) v9 = true then 1 else 0))), (0, .ref (b + 14)), (1, .int t)] := hl
              refine lv_goto (tgt := 4) hx hb d_Mod_useNames_120 (by decide) ?_
              have e2 := dm_none (f := ru_m N S t) (g := v9) (k := k) (if_neg hok)
              rw [← e2.2] at hl
              exact ih _ (by omega) (k + 1) w2 _ _ ls rfl hP hz hS (fun j g0 => frw2 j g0) (by rw [e2.1]; exact fw2_0) (by omega) (lv_sub hl [0, 2, 3, 4] rfl)
            · rw [← nI_0] at cc22
              have cc22 : ¬ ((N 2) k = 0) := fun q => cc22 ((nI_eq (by omega) (by omega)).mpr q)
              refine lv_aload_n hx hb d_Mod_useNames_31 rfl (lv_at hl 3 rfl) ?_
              refine lv_iload_n hx hb d_Mod_useNames_32 rfl (lv_at hl 1 rfl) ?_
              refine lv_iload_n hx hb d_Mod_useNames_33 rfl (lv_at hl 4 rfl) ?_
              refine vp_callSi (va_Run.run (va_runV (As := [.int (nI k), .int t]) (rest := []) ⟨hx, hb, hml, hown, hts⟩ (c_Mod_isValid l (b := b) (N := (va_up N 14 (fun j => dm_ph ((dm_pass (dm_upto (ru_m N S t) k) v9) j)))) (S := S) hMk hn hR hj) (cwV 2 hts (gW_in (hd := [_, _, _, _, _]) (kk_5 wd_633 wd_635 sl_Mod_isValid wd_8 cw_Mod_isValid)) rfl rfl rfl ⟨rfl, ds_Mod_isValid⟩ ⟨Nat.le_of_ble_eq_true rfl, Nat.le_of_ble_eq_true rfl⟩) (kk_preV hK hP hz hBz f3 rfl) rfl rfl hl.1 rfl (lv_room (Nat.le_of_ble_eq_true rfl)) d_Mod_useNames_34 ⟨Nat.le_of_ble_eq_true rfl, Nat.le_of_ble_eq_true rfl⟩)) (fun r23 hr23 => ?_)
              subst hr23
              refine lv_if_eq (tgt := 117) hx hb d_Mod_useNames_37 (by decide) (fun cc24 => ?_) (fun cc24 => ?_)
              · have cc24 := kk_b0 cc24
                refine lv_iinc (k := 1) (v := nI (k + 1)) hx hb d_Mod_useNames_117 hl rfl (kk_inc _) (by decide) rfl (fun ls hl => ?_)
                have hl : lv_has ls 7 [(3, .int (nI (k + 1))), (4, .int (nI 0)), (2, .int (nI (if dm_flag (dm_upto (ru_m N S t) k) v9 = true then 1 else 0))), (0, .ref (b + 14)), (1, .int t)] := hl
                refine lv_goto (tgt := 4) hx hb d_Mod_useNames_120 (by decide) ?_
                have e2 := dm_none (f := ru_m N S t) (g := v9) (k := k) (if_neg hok)
                rw [← e2.2] at hl
                exact ih _ (by omega) (k + 1) w2 _ _ ls rfl hP hz hS (fun j g0 => frw2 j g0) (by rw [e2.1]; exact fw2_0) (by omega) (lv_sub hl [0, 2, 3, 4] rfl)
              · have cc24 := kk_b1 cc24
                exact absurd ⟨cc24.1, by omega, cc24.2⟩ hok
  exact lp1 _ 0 w _ _ _ rfl hP hz hS (fun _ _ => rfl) m14 (by omega) (lv_sub hl [0, 1, 2, 3] rfl)
end
section
theorem va_uu {α : Type} (f : Nat → α) (k : Nat) (x y : α) : va_up (va_up f k x) k y = va_up f k y := by
  funext j
  unfold va_up
  by_cases h : j = k
  · rw [if_pos h, if_pos h]
  · rw [if_neg h, if_neg h, if_neg h]
theorem ru_M_14 (N : Nat → Nat → Nat) (S : Nat → Nat → Int32) (t : Int32) (x : Nat → Nat) : ru_M (va_up N 14 x) S t = ru_M N S t := rfl
end
section
theorem d_Mod_findMeanings_0 : decode k_Mod_findMeanings 0 = .ok (.iconst 0, 1) := by decide +kernel
theorem d_Mod_findMeanings_1 : decode k_Mod_findMeanings 1 = .ok (.istore_n 2, 1) := by decide +kernel
theorem d_Mod_findMeanings_2 : decode k_Mod_findMeanings 2 = .ok (.iload_n 2, 1) := by decide +kernel
theorem d_Mod_findMeanings_3 : decode k_Mod_findMeanings 3 = .ok (.sipush 256, 3) := by decide +kernel
theorem d_Mod_findMeanings_6 : decode k_Mod_findMeanings 6 = .ok (.if_icmp .ge 18, 3) := by decide +kernel
theorem d_Mod_findMeanings_9 : decode k_Mod_findMeanings 9 = .ok (.aload_n 0, 1) := by decide +kernel
theorem d_Mod_findMeanings_10 : decode k_Mod_findMeanings 10 = .ok (.getfield 50, 3) := by decide +kernel
theorem d_Mod_findMeanings_13 : decode k_Mod_findMeanings 13 = .ok (.iload_n 2, 1) := by decide +kernel
theorem d_Mod_findMeanings_14 : decode k_Mod_findMeanings 14 = .ok (.sipush 5000, 3) := by decide +kernel
theorem d_Mod_findMeanings_17 : decode k_Mod_findMeanings 17 = .ok (.iastore, 1) := by decide +kernel
theorem d_Mod_findMeanings_18 : decode k_Mod_findMeanings 18 = .ok (.iinc 2 1, 3) := by decide +kernel
theorem d_Mod_findMeanings_21 : decode k_Mod_findMeanings 21 = .ok (.goto (-19), 3) := by decide +kernel
theorem d_Mod_findMeanings_24 : decode k_Mod_findMeanings 24 = .ok (.iconst 1, 1) := by decide +kernel
theorem d_Mod_findMeanings_25 : decode k_Mod_findMeanings 25 = .ok (.istore_n 2, 1) := by decide +kernel
theorem d_Mod_findMeanings_26 : decode k_Mod_findMeanings 26 = .ok (.iconst 0, 1) := by decide +kernel
theorem d_Mod_findMeanings_27 : decode k_Mod_findMeanings 27 = .ok (.istore_n 3, 1) := by decide +kernel
theorem d_Mod_findMeanings_28 : decode k_Mod_findMeanings 28 = .ok (.iload_n 3, 1) := by decide +kernel
theorem d_Mod_findMeanings_29 : decode k_Mod_findMeanings 29 = .ok (.sipush 300, 3) := by decide +kernel
theorem d_Mod_findMeanings_32 : decode k_Mod_findMeanings 32 = .ok (.if_icmp .ge 19, 3) := by decide +kernel
theorem d_Mod_findMeanings_35 : decode k_Mod_findMeanings 35 = .ok (.iload_n 2, 1) := by decide +kernel
theorem d_Mod_findMeanings_36 : decode k_Mod_findMeanings 36 = .ok (.ifCond .eq 15, 3) := by decide +kernel
theorem d_Mod_findMeanings_39 : decode k_Mod_findMeanings 39 = .ok (.aload_n 0, 1) := by decide +kernel
theorem d_Mod_findMeanings_40 : decode k_Mod_findMeanings 40 = .ok (.iload_n 1, 1) := by decide +kernel
theorem d_Mod_findMeanings_41 : decode k_Mod_findMeanings 41 = .ok (.invokevirtual 98, 3) := by decide +kernel
theorem d_Mod_findMeanings_44 : decode k_Mod_findMeanings 44 = .ok (.istore_n 2, 1) := by decide +kernel
theorem d_Mod_findMeanings_45 : decode k_Mod_findMeanings 45 = .ok (.iinc 3 1, 3) := by decide +kernel
theorem d_Mod_findMeanings_48 : decode k_Mod_findMeanings 48 = .ok (.goto (-20), 3) := by decide +kernel
theorem d_Mod_findMeanings_51 : decode k_Mod_findMeanings 51 = .ok (.return_, 1) := by decide +kernel
set_option maxHeartbeats 4000000 in
set_option maxRecDepth 100000 in
theorem c_Mod_findMeanings (l : Launch) {B : Nat} {D : va_G} {cI cZ cQ : ClassId} {w : mm_M} {sz : Nat} {b : Nat} {N : Nat → Nat → Nat} {S : Nat → Nat → Int32} {t : Int32} (hM : mo_I b cI cZ N S w) (hn : N 0 0 ≤ 24) (hR : rg_I N) : Met l y_Mod_findMeanings ws_Mod_findMeanings (kk_rm 4 0 0) (kk_Pc B D cI cZ cQ [.ref (b + 14), .int t] w sz) (kk_Qv B D (fun w' sz' => mo_I b cI cZ (va_up N 14 (fun j => dm_ph (dm_run (ru_M N S t) 300 (fun _ => 1000) j))) S w' ∧ (∀ j, ¬ (b + 14 ≤ j ∧ j < b + 31) → w' j = w j) ∧ sz' = sz)) 0 0 (fun q => B ≤ q) := by
  refine Met.ofW (cc := k_Mod_findMeanings) (maxL := 4) (ret := none) (by decide) rfl ?_
  intro p e s m args below meth c s₁ BB hml hv
  obtain ⟨rfl, hK, hP, hz, hBz⟩ := hv
  have hx := BB.exec
  have hb := BB.bytes
  have hr := BB.returns
  have hts := atoms_spec (ws := ws_Mod_findMeanings) BB.pre
  have hown : s.vm.findClass "DelegationClosureModel" = some m.cls := findClass_of_methodNamed BB.named
  have hlocks := BB.notSynchronized
  have hS : mm_S B s.heap s.heap [] := va_S.rf
  have hl := lv_entry ([.ref (b + 14), .int t]) (n := 4) (Nat.le_of_ble_eq_true rfl)
  rw [lg_entry_eq]
  generalize (lg_sl ([.ref (b + 14), .int t]) ++ List.replicate (4 - (lg_sl ([.ref (b + 14), .int t])).length) Slot.unset).toArray = ls at hl ⊢
  have hl : lv_has ls 4 [(0, .ref (b + 14)), (1, .int t)] := hl
  have m0 : w (b + 14) = some (.inr (9, [.int (nI (N 0 0)), .ref (b + 15), .ref (b + 16), .ref (b + 17), .ref (b + 18), .ref (b + 19), .ref (b + 20), .ref (b + 21), .ref (b + 22), .ref (b + 23), .ref (b + 24), .ref (b + 25), .ref (b + 26), .ref (b + 27), .ref (b + 28), .ref (b + 29), .int (nI (N 16 0)), .int (nI (N 17 0)), .int (nI (N 18 0)), .ref (b + 30), .int (nI (N 20 0)), .int (S 21 0), .int (S 22 0), .int (S 23 0), .int (S 24 0), .int (nI (N 25 0)), .int (nI (N 26 0))])) := hM.1
  have m1 : w (b + 15) = some (.inl (cZ, 24, .inl (fun i => nI ((N 1) i)))) := hM.2 1 (by decide) (by decide)
  have m2 : w (b + 16) = some (.inl (cZ, 24, .inl (fun i => nI ((N 2) i)))) := hM.2 2 (by decide) (by decide)
  have m3 : w (b + 17) = some (.inl (cI, 24, .inl (fun i => nI ((N 3) i)))) := hM.2 3 (by decide) (by decide)
  have m4 : w (b + 18) = some (.inl (cI, 24, .inl (fun i => nI ((N 4) i)))) := hM.2 4 (by decide) (by decide)
  have m5 : w (b + 19) = some (.inl (cI, 24, .inl (S 5))) := hM.2 5 (by decide) (by decide)
  have m6 : w (b + 20) = some (.inl (cI, 24, .inl (S 6))) := hM.2 6 (by decide) (by decide)
  have m7 : w (b + 21) = some (.inl (cI, 72, .inl (fun i => nI ((N 7) i)))) := hM.2 7 (by decide) (by decide)
  have m8 : w (b + 22) = some (.inl (cI, 24, .inl (fun i => nI ((N 8) i)))) := hM.2 8 (by decide) (by decide)
  have m9 : w (b + 23) = some (.inl (cI, 24, .inl (fun i => nI ((N 9) i)))) := hM.2 9 (by decide) (by decide)
  have m10 : w (b + 24) = some (.inl (cI, 24, .inl (fun i => nI ((N 10) i)))) := hM.2 10 (by decide) (by decide)
  have m11 : w (b + 25) = some (.inl (cI, 24, .inl (S 11))) := hM.2 11 (by decide) (by decide)
  have m12 : w (b + 26) = some (.inl (cI, 24, .inl (S 12))) := hM.2 12 (by decide) (by decide)
  have m13 : w (b + 27) = some (.inl (cZ, 24, .inl (fun i => nI ((N 13) i)))) := hM.2 13 (by decide) (by decide)
  have m14 : w (b + 28) = some (.inl (cI, 256, .inl (fun i => nI ((N 14) i)))) := hM.2 14 (by decide) (by decide)
  have m15 : w (b + 29) = some (.inl (cI, 24, .inl (fun i => nI ((N 15) i)))) := hM.2 15 (by decide) (by decide)
  have m16 : w (b + 30) = some (.inl (cI, 5, .inl (fun i => nI ((N 19) i)))) := hM.2 16 (by decide) (by decide)
  refine lv_iconst (v := nI 0) hx hb d_Mod_findMeanings_0 (by decide) ?_
  refine lv_istore_n hx hb d_Mod_findMeanings_1 rfl hl (by decide) rfl (fun ls hl => ?_)
  have hl : lv_has ls 4 [(2, .int (nI 0)), (0, .ref (b + 14)), (1, .int t)] := hl
  have lp1 : ∀ (d : Nat) (k : Nat) (w2 : mm_M) (H : Heap) (locs : List Loc) (ls : Array Slot), d = 256 - k → (mm_P B D kc w2 H) → (H.size = sz) → (mm_S B s.heap H locs) → (∀ j, j ≠ b + 28 → w2 j = w j) → (w2 (b + 28) = some (.inl (cI, 256, .inl (fun i => nI ((fun j => if j < k then 5000 else N 14 j) i))))) → (k ≤ 256) → lv_has ls 4 [(2, .int (nI k)), (0, .ref (b + 14)), (1, .int t)] → W p l e (headSpec ws_Mod_findMeanings (kk_rm 4 0 0)).room s m ([.ref (b + 14), .int t]).toArray below meth c H locs 0 0 (MQ below (kk_Qv B D (fun w' sz' => mo_I b cI cZ (va_up N 14 (fun j => dm_ph (dm_run (ru_M N S t) 300 (fun _ => 1000) j))) S w' ∧ (∀ j, ¬ (b + 14 ≤ j ∧ j < b + 31) → w' j = w j) ∧ sz' = sz)) ([.ref (b + 14), .int t]).toArray s 0 0 (fun q => B ≤ q)) (F0 m 2 ls []) := by
    intro d
    induction d using Nat.strongRecOn with
    | ind d ih =>
      intro k w2 H locs ls hd hP hz hS frw2 fw2_0 hk hl
      refine lv_iload_n hx hb d_Mod_findMeanings_2 rfl (lv_at hl 0 rfl) ?_
      refine lv_sipush (v := nI 256) hx hb d_Mod_findMeanings_3 (by decide) ?_
      refine lv_icmp_ge (tgt := 24) hx hb d_Mod_findMeanings_6 (by decide) (fun cc3 => ?_) (fun cc3 => ?_)
      · have cc3 : 256 ≤ k := (nI_leI (by omega) (by omega)).mp cc3
        have hP := hP.norm (g := fun i => nI (dm_ph ((fun _ => 1000) i))) fw2_0 (fun j hj => by show nI (if j < k then 5000 else N 14 j) = nI (dm_ph 1000); rw [if_pos (by omega)]; rfl)
        obtain ⟨w4, hw4⟩ : ∃ z : mm_M, z = mm_up w2 (b + 28) (.inl (cI, 256, .inl (fun i => nI (dm_ph ((fun _ => 1000) i))))) := ⟨_, rfl⟩
        have hP : mm_P B D kc w4 H := by rw [hw4]; exact hP
        have fr4 : ∀ j, j ≠ b + 28 → w4 j = w2 j := fun j h9 => by rw [hw4]; exact mm_un h9
        have fa4 : w4 (b + 28) = some (.inl (cI, 256, .inl (fun i => nI (dm_ph ((fun _ => 1000) i))))) := by rw [hw4]; exact mm_us _ _ _
        refine lv_iconst (v := nI 1) hx hb d_Mod_findMeanings_24 (by decide) ?_
        refine lv_istore_n hx hb d_Mod_findMeanings_25 rfl hl (by decide) rfl (fun ls hl => ?_)
        have hl : lv_has ls 4 [(2, .int (nI 1)), (0, .ref (b + 14)), (1, .int t)] := hl
        refine lv_iconst (v := nI 0) hx hb d_Mod_findMeanings_26 (by decide) ?_
        refine lv_istore_n hx hb d_Mod_findMeanings_27 rfl hl (by decide) rfl (fun ls hl => ?_)
        have hl : lv_has ls 4 [(3, .int (nI 0)), (2, .int (nI 1)), (0, .ref (b + 14)), (1, .int t)] := hl
        have lp5 : ∀ (d : Nat) (r9 : Nat) (bt : Bool) (g : Nat → Nat) (w6 : mm_M) (H : Heap) (locs : List Loc) (ls : Array Slot), d = 300 - r9 → (mm_P B D kc w6 H) → (H.size = sz) → (mm_S B s.heap H locs) → (∀ j, ¬ (b + 14 ≤ j ∧ j < b + 31) → w6 j = w4 j) → (w6 (b + 14) = some (.inr (9, [.int (nI (N 0 0)), .ref (b + 15), .ref (b + 16), .ref (b + 17), .ref (b + 18), .ref (b + 19), .ref (b + 20), .ref (b + 21), .ref (b + 22), .ref (b + 23), .ref (b + 24), .ref (b + 25), .ref (b + 26), .ref (b + 27), .ref (b + 28), .ref (b + 29), .int (nI (N 16 0)), .int (nI (N 17 0)), .int (nI (N 18 0)), .ref (b + 30), .int (nI (N 20 0)), .int (S 21 0), .int (S 22 0), .int (S 23 0), .int (S 24 0), .int (nI (N 25 0)), .int (nI (N 26 0))]))) → (w6 (b + 15) = some (.inl (cZ, 24, .inl (fun i => nI ((N 1) i))))) → (w6 (b + 16) = some (.inl (cZ, 24, .inl (fun i => nI ((N 2) i))))) → (w6 (b + 17) = some (.inl (cI, 24, .inl (fun i => nI ((N 3) i))))) → (w6 (b + 18) = some (.inl (cI, 24, .inl (fun i => nI ((N 4) i))))) → (w6 (b + 19) = some (.inl (cI, 24, .inl (S 5)))) → (w6 (b + 20) = some (.inl (cI, 24, .inl (S 6)))) → (w6 (b + 21) = some (.inl (cI, 72, .inl (fun i => nI ((N 7) i))))) → (w6 (b + 22) = some (.inl (cI, 24, .inl (fun i => nI ((N 8) i))))) → (w6 (b + 23) = some (.inl (cI, 24, .inl (fun i => nI ((N 9) i))))) → (w6 (b + 24) = some (.inl (cI, 24, .inl (fun i => nI ((N 10) i))))) → (w6 (b + 25) = some (.inl (cI, 24, .inl (S 11)))) → (w6 (b + 26) = some (.inl (cI, 24, .inl (S 12)))) → (w6 (b + 27) = some (.inl (cZ, 24, .inl (fun i => nI ((N 13) i))))) → (w6 (b + 28) = some (.inl (cI, 256, .inl (fun i => nI (dm_ph (g i)))))) → (w6 (b + 29) = some (.inl (cI, 24, .inl (fun i => nI ((N 15) i))))) → (w6 (b + 30) = some (.inl (cI, 5, .inl (fun i => nI ((N 19) i))))) → (r9 ≤ 300) → (∀ j, g j ≤ 1000) → ((if bt = true then dm_run (ru_M N S t) (300 - r9) g else g) = dm_run (ru_M N S t) 300 (fun _ => 1000)) → lv_has ls 4 [(3, .int (nI r9)), (2, .int (nI (if bt = true then 1 else 0))), (0, .ref (b + 14)), (1, .int t)] → W p l e (headSpec ws_Mod_findMeanings (kk_rm 4 0 0)).room s m ([.ref (b + 14), .int t]).toArray below meth c H locs 0 0 (MQ below (kk_Qv B D (fun w' sz' => mo_I b cI cZ (va_up N 14 (fun j => dm_ph (dm_run (ru_M N S t) 300 (fun _ => 1000) j))) S w' ∧ (∀ j, ¬ (b + 14 ≤ j ∧ j < b + 31) → w' j = w j) ∧ sz' = sz)) ([.ref (b + 14), .int t]).toArray s 0 0 (fun q => B ≤ q)) (F0 m 28 ls []) := by
          intro d
          induction d using Nat.strongRecOn with
          | ind d ihlp5 =>
            intro r9 bt g w6 H locs ls hd hP hz hS frw6 fw6_0 fw6_1 fw6_2 fw6_3 fw6_4 fw6_5 fw6_6 fw6_7 fw6_8 fw6_9 fw6_10 fw6_11 fw6_12 fw6_13 fw6_14 fw6_15 fw6_16 hr9 hgb hI hl
            have hMg : mo_I b cI cZ (va_up N 14 (fun j => dm_ph (g j))) S w6 := mo_mk fw6_0 fw6_1 fw6_2 fw6_3 fw6_4 fw6_5 fw6_6 fw6_7 fw6_8 fw6_9 fw6_10 fw6_11 fw6_12 fw6_13 fw6_14 fw6_15 fw6_16
            refine lv_iload_n hx hb d_Mod_findMeanings_28 rfl (lv_at hl 0 rfl) ?_
            refine lv_sipush (v := nI 300) hx hb d_Mod_findMeanings_29 (by decide) ?_
            refine lv_icmp_ge (tgt := 51) hx hb d_Mod_findMeanings_32 (by decide) (fun cc7 => ?_) (fun cc7 => ?_)
            · have cc7 : 300 ≤ r9 := (nI_leI (by omega) (by omega)).mp cc7
              have hg9 : g = dm_run (ru_M N S t) 300 (fun _ => 1000) := by rw [← hI, show 300 - r9 = 0 by omega]; show g = (if bt = true then g else g); split <;> rfl
              subst hg9
              exact W.vret hx hb hr (fun t ht hW => ⟨⟨(w6, sz), rfl, ⟨(mo_mk fw6_0 fw6_1 fw6_2 fw6_3 fw6_4 fw6_5 fw6_6 fw6_7 fw6_8 fw6_9 fw6_10 fw6_11 fw6_12 fw6_13 fw6_14 fw6_15 fw6_16), (fun j hj => (frw6 j hj).trans ((fr4 j (by omega)).trans (frw2 j (by omega)))), rfl⟩, by rw [ht]; exact hP, by rw [ht]; exact hz⟩, hS.F ht⟩) hS.2.2 d_Mod_findMeanings_51
            · have cc7 : ¬ (300 ≤ r9) := fun q => cc7 ((nI_leI (by omega) (by omega)).mpr q)
              refine lv_iload_n hx hb d_Mod_findMeanings_35 rfl (lv_at hl 1 rfl) ?_
              refine lv_if_eq (tgt := 51) hx hb d_Mod_findMeanings_36 (by decide) (fun cc8 => ?_) (fun cc8 => ?_)
              · have cc8 := kk_b0 cc8
                have hg9 : g = dm_run (ru_M N S t) 300 (fun _ => 1000) := by rw [← hI, if_neg cc8]
                subst hg9
                exact W.vret hx hb hr (fun t ht hW => ⟨⟨(w6, sz), rfl, ⟨(mo_mk fw6_0 fw6_1 fw6_2 fw6_3 fw6_4 fw6_5 fw6_6 fw6_7 fw6_8 fw6_9 fw6_10 fw6_11 fw6_12 fw6_13 fw6_14 fw6_15 fw6_16), (fun j hj => (frw6 j hj).trans ((fr4 j (by omega)).trans (frw2 j (by omega)))), rfl⟩, by rw [ht]; exact hP, by rw [ht]; exact hz⟩, hS.F ht⟩) hS.2.2 d_Mod_findMeanings_51
              · have cc8 := kk_b1 cc8
                refine lv_aload_n hx hb d_Mod_findMeanings_39 rfl (lv_at hl 2 rfl) ?_
                refine lv_iload_n hx hb d_Mod_findMeanings_40 rfl (lv_at hl 3 rfl) ?_
                refine kk_calli (va_runV (As := [.int t]) (rest := []) ⟨hx, hb, hml, hown, hts⟩ (c_Mod_useNames l (b := b) (N := (va_up N 14 (fun j => dm_ph (g j)))) (S := S) (v9 := g) hMg hn hR rfl hgb) (cwV 1 hts (gW_in (hd := [_, _, _, _, _]) (kk_5 wd_629 wd_631 sl_Mod_useNames wd_8 cw_Mod_useNames)) rfl rfl rfl ⟨rfl, ds_Mod_useNames⟩ ⟨Nat.le_of_ble_eq_true rfl, Nat.le_of_ble_eq_true rfl⟩) (kk_preV hK hP hz hBz fw6_0 rfl) rfl rfl hl.1 rfl (lv_room (Nat.le_of_ble_eq_true rfl)) d_Mod_findMeanings_41 ⟨Nat.le_of_ble_eq_true rfl, Nat.le_of_ble_eq_true rfl⟩) hS (fun r9 w9 sz9 H locs hp9 hP hz hS => ?_)
                obtain ⟨hr9, hM9, hf9, hs9⟩ := hp9
                subst hr9
                have hz : H.size = sz := hz.trans hs9
                rw [va_uu, ru_M_14] at hM9
                have hM9 : mo_I b cI cZ (va_up N 14 (fun j => dm_ph (dm_pass (ru_M N S t) g j))) S w9 := hM9
                have m9_0 : w9 (b + 14) = some (.inr (9, [.int (nI ((va_up N 14 (fun j => dm_ph (dm_pass (ru_M N S t) g j))) 0 0)), .ref (b + 15), .ref (b + 16), .ref (b + 17), .ref (b + 18), .ref (b + 19), .ref (b + 20), .ref (b + 21), .ref (b + 22), .ref (b + 23), .ref (b + 24), .ref (b + 25), .ref (b + 26), .ref (b + 27), .ref (b + 28), .ref (b + 29), .int (nI ((va_up N 14 (fun j => dm_ph (dm_pass (ru_M N S t) g j))) 16 0)), .int (nI ((va_up N 14 (fun j => dm_ph (dm_pass (ru_M N S t) g j))) 17 0)), .int (nI ((va_up N 14 (fun j => dm_ph (dm_pass (ru_M N S t) g j))) 18 0)), .ref (b + 30), .int (nI ((va_up N 14 (fun j => dm_ph (dm_pass (ru_M N S t) g j))) 20 0)), .int (S 21 0), .int (S 22 0), .int (S 23 0), .int (S 24 0), .int (nI ((va_up N 14 (fun j => dm_ph (dm_pass (ru_M N S t) g j))) 25 0)), .int (nI ((va_up N 14 (fun j => dm_ph (dm_pass (ru_M N S t) g j))) 26 0))])) := hM9.1
                have m9_1 : w9 (b + 15) = some (.inl (cZ, 24, .inl (fun i => nI (((va_up N 14 (fun j => dm_ph (dm_pass (ru_M N S t) g j))) 1) i)))) := hM9.2 1 (by decide) (by decide)
                have m9_2 : w9 (b + 16) = some (.inl (cZ, 24, .inl (fun i => nI (((va_up N 14 (fun j => dm_ph (dm_pass (ru_M N S t) g j))) 2) i)))) := hM9.2 2 (by decide) (by decide)
                have m9_3 : w9 (b + 17) = some (.inl (cI, 24, .inl (fun i => nI (((va_up N 14 (fun j => dm_ph (dm_pass (ru_M N S t) g j))) 3) i)))) := hM9.2 3 (by decide) (by decide)
                have m9_4 : w9 (b + 18) = some (.inl (cI, 24, .inl (fun i => nI (((va_up N 14 (fun j => dm_ph (dm_pass (ru_M N S t) g j))) 4) i)))) := hM9.2 4 (by decide) (by decide)
                have m9_5 : w9 (b + 19) = some (.inl (cI, 24, .inl (S 5))) := hM9.2 5 (by decide) (by decide)
                have m9_6 : w9 (b + 20) = some (.inl (cI, 24, .inl (S 6))) := hM9.2 6 (by decide) (by decide)
                have m9_7 : w9 (b + 21) = some (.inl (cI, 72, .inl (fun i => nI (((va_up N 14 (fun j => dm_ph (dm_pass (ru_M N S t) g j))) 7) i)))) := hM9.2 7 (by decide) (by decide)
                have m9_8 : w9 (b + 22) = some (.inl (cI, 24, .inl (fun i => nI (((va_up N 14 (fun j => dm_ph (dm_pass (ru_M N S t) g j))) 8) i)))) := hM9.2 8 (by decide) (by decide)
                have m9_9 : w9 (b + 23) = some (.inl (cI, 24, .inl (fun i => nI (((va_up N 14 (fun j => dm_ph (dm_pass (ru_M N S t) g j))) 9) i)))) := hM9.2 9 (by decide) (by decide)
                have m9_10 : w9 (b + 24) = some (.inl (cI, 24, .inl (fun i => nI (((va_up N 14 (fun j => dm_ph (dm_pass (ru_M N S t) g j))) 10) i)))) := hM9.2 10 (by decide) (by decide)
                have m9_11 : w9 (b + 25) = some (.inl (cI, 24, .inl (S 11))) := hM9.2 11 (by decide) (by decide)
                have m9_12 : w9 (b + 26) = some (.inl (cI, 24, .inl (S 12))) := hM9.2 12 (by decide) (by decide)
                have m9_13 : w9 (b + 27) = some (.inl (cZ, 24, .inl (fun i => nI (((va_up N 14 (fun j => dm_ph (dm_pass (ru_M N S t) g j))) 13) i)))) := hM9.2 13 (by decide) (by decide)
                have m9_14 : w9 (b + 28) = some (.inl (cI, 256, .inl (fun i => nI (((va_up N 14 (fun j => dm_ph (dm_pass (ru_M N S t) g j))) 14) i)))) := hM9.2 14 (by decide) (by decide)
                have m9_15 : w9 (b + 29) = some (.inl (cI, 24, .inl (fun i => nI (((va_up N 14 (fun j => dm_ph (dm_pass (ru_M N S t) g j))) 15) i)))) := hM9.2 15 (by decide) (by decide)
                have m9_16 : w9 (b + 30) = some (.inl (cI, 5, .inl (fun i => nI (((va_up N 14 (fun j => dm_ph (dm_pass (ru_M N S t) g j))) 19) i)))) := hM9.2 16 (by decide) (by decide)
                have m9_14 : w9 (b + 28) = some (.inl (cI, 256, .inl (fun i => nI (dm_ph ((dm_pass (ru_M N S t) g) i))))) := m9_14
                refine kk_top (y := nI (if dm_flag (ru_M N S t) g = true then 1 else 0)) rfl ?_
                refine lv_istore_n hx hb d_Mod_findMeanings_44 rfl hl (by decide) rfl (fun ls hl => ?_)
                have hl : lv_has ls 4 [(2, .int (nI (if dm_flag (ru_M N S t) g = true then 1 else 0))), (3, .int (nI r9)), (0, .ref (b + 14)), (1, .int t)] := hl
                refine lv_iinc (k := 1) (v := nI (r9 + 1)) hx hb d_Mod_findMeanings_45 hl rfl (kk_inc _) (by decide) rfl (fun ls hl => ?_)
                have hl : lv_has ls 4 [(3, .int (nI (r9 + 1))), (2, .int (nI (if dm_flag (ru_M N S t) g = true then 1 else 0))), (0, .ref (b + 14)), (1, .int t)] := hl
                refine lv_goto (tgt := 28) hx hb d_Mod_findMeanings_48 (by decide) ?_
                exact ihlp5 _ (by omega) (r9 + 1) (dm_flag (ru_M N S t) g) (dm_pass (ru_M N S t) g) w9 _ _ ls rfl hP hz hS (fun j g0 => (hf9 j g0).trans (frw6 j g0)) m9_0 m9_1 m9_2 m9_3 m9_4 m9_5 m9_6 m9_7 m9_8 m9_9 m9_10 m9_11 m9_12 m9_13 m9_14 m9_15 m9_16 (by omega) (dm_pass_1000 hgb) (by rw [← hI, if_pos cc8, show 300 - r9 = (300 - (r9 + 1)) + 1 by omega]; rfl) (lv_sub hl [0, 1, 2, 3] rfl)
        exact lp5 _ 0 true (fun _ => 1000) w4 _ _ _ rfl hP hz hS (fun _ _ => rfl) ((fr4 _ (by omega)).trans ((frw2 _ (by omega)).trans (m0))) ((fr4 _ (by omega)).trans ((frw2 _ (by omega)).trans (m1))) ((fr4 _ (by omega)).trans ((frw2 _ (by omega)).trans (m2))) ((fr4 _ (by omega)).trans ((frw2 _ (by omega)).trans (m3))) ((fr4 _ (by omega)).trans ((frw2 _ (by omega)).trans (m4))) ((fr4 _ (by omega)).trans ((frw2 _ (by omega)).trans (m5))) ((fr4 _ (by omega)).trans ((frw2 _ (by omega)).trans (m6))) ((fr4 _ (by omega)).trans ((frw2 _ (by omega)).trans (m7))) ((fr4 _ (by omega)).trans ((frw2 _ (by omega)).trans (m8))) ((fr4 _ (by omega)).trans ((frw2 _ (by omega)).trans (m9))) ((fr4 _ (by omega)).trans ((frw2 _ (by omega)).trans (m10))) ((fr4 _ (by omega)).trans ((frw2 _ (by omega)).trans (m11))) ((fr4 _ (by omega)).trans ((frw2 _ (by omega)).trans (m12))) ((fr4 _ (by omega)).trans ((frw2 _ (by omega)).trans (m13))) fa4 ((fr4 _ (by omega)).trans ((frw2 _ (by omega)).trans (m15))) ((fr4 _ (by omega)).trans ((frw2 _ (by omega)).trans (m16))) (by omega) (fun _ => Nat.le_refl _) (if_pos rfl) (lv_sub hl [0, 1, 2, 3] rfl)
      · have cc3 : ¬ (256 ≤ k) := fun q => cc3 ((nI_leI (by omega) (by omega)).mpr q)
        refine lv_aload_n hx hb d_Mod_findMeanings_9 rfl (lv_at hl 1 rfl) ?_
        have f10 := (frw2 _ (by omega)).trans (m0)
        refine mm_get (D := D) (C := n_Mod) (T := T_Mod) (N := 27) (v := .ref (b + 28)) hx hb hts lay_Mod hown hK.1 hP f10 rfl 14 (by decide) (hts _ (List.mem_cons_of_mem _ wd_505)) (fun _ h9 => h9) rfl d_Mod_findMeanings_10 ?_
        refine lv_iload_n hx hb d_Mod_findMeanings_13 rfl (lv_at hl 0 rfl) ?_
        refine lv_sipush (v := nI 5000) hx hb d_Mod_findMeanings_14 (by decide) ?_
        refine mm_iast hx hb hK.1 hP hS 0 fw2_0 rfl k rfl (by omega) (by decide) d_Mod_findMeanings_17 (fun H locs hP hz1 hS => ?_)
        rw [show upd (fun i => nI ((fun j => if j < k then 5000 else N 14 j) i)) k (nI 5000) = fun i => nI ((va_up (fun j => if j < k then 5000 else N 14 j) k 5000) i) from kk_upn _ _ _] at hP
        have hz : H.size = sz := hz1.trans hz
        obtain ⟨w11, hw11⟩ : ∃ z : mm_M, z = mm_up w2 (b + 28) (.inl (cI, 256, .inl (fun i => nI ((va_up (fun j => if j < k then 5000 else N 14 j) k 5000) i)))) := ⟨_, rfl⟩
        have hP : mm_P B D kc w11 H := by rw [hw11]; exact hP
        have fr11 : ∀ j, j ≠ b + 28 → w11 j = w2 j := fun j h9 => by rw [hw11]; exact mm_un h9
        have fa11 : w11 (b + 28) = some (.inl (cI, 256, .inl (fun i => nI ((va_up (fun j => if j < k then 5000 else N 14 j) k 5000) i)))) := by rw [hw11]; exact mm_us _ _ _
        refine lv_iinc (k := 0) (v := nI (k + 1)) hx hb d_Mod_findMeanings_18 hl rfl (kk_inc _) (by decide) rfl (fun ls hl => ?_)
        have hl : lv_has ls 4 [(2, .int (nI (k + 1))), (0, .ref (b + 14)), (1, .int t)] := hl
        refine lv_goto (tgt := 2) hx hb d_Mod_findMeanings_21 (by decide) ?_
        exact ih _ (by omega) (k + 1) w11 _ _ ls rfl hP hz hS (fun j g0 => (fr11 j g0).trans (frw2 j g0)) (by rw [← ru_fill]; exact fa11) (by omega) (lv_sub hl [0, 1, 2] rfl)
  exact lp1 _ 0 w _ _ _ rfl hP hz hS (fun _ _ => rfl) m14 (by omega) (lv_sub hl [0, 1, 2] rfl)
end
section
-- what the questions answer
def me_V (N : Nat → Nat → Nat) (S : Nat → Nat → Int32) (t : Int32) : Nat → Nat := dm_run (ru_M N S t) 300 (fun _ => 1000)
theorem me_V_le (N : Nat → Nat → Nat) (S : Nat → Nat → Int32) (t : Int32) : ∀ j, me_V N S t j ≤ 1000 := dm_run_1000 _ _ _ (fun _ => Nat.le_refl _)
def me_P (v : Nat → Nat) (n : Nat) : Nat → Bool := fun y => decide (¬ dm_ofs v n y = 1000)
def me_r (N : Nat → Nat → Nat) (S : Nat → Nat → Int32) (su t : Int32) : Int32 := if wf_sub su then nI (dm_set (me_P (me_V N S t) su.toNatClampNeg) 8) else -1
def me_N (N : Nat → Nat → Nat) (S : Nat → Nat → Int32) (su t : Int32) : Nat → Nat → Nat := if wf_sub su then va_up N 14 (fun j => dm_ph (me_V N S t j)) else N
theorem me_r_pos {N : Nat → Nat → Nat} {S : Nat → Nat → Int32} {su t : Int32} {n : Nat} (h : wf_sub su) (e : su = nI n) (hn : n < 2 ^ 31) : me_r N S su t = nI (dm_set (me_P (me_V N S t) n) 8) := by
  unfold me_r
  rw [if_pos h, e, nI_clamp hn]
abbrev co_ok (su ky : Int32) : Prop := wf_sub su ∧ kk_lim ky 8
def co_r (N : Nat → Nat → Nat) (S : Nat → Nat → Int32) (su ky t : Int32) : Int32 := if co_ok su ky then (if dm_ofs (me_V N S t) su.toNatClampNeg ky.toNatClampNeg = 1000 then -1 else nI (dm_ofs (me_V N S t) su.toNatClampNeg ky.toNatClampNeg)) else -1
def co_N (N : Nat → Nat → Nat) (S : Nat → Nat → Int32) (su ky t : Int32) : Nat → Nat → Nat := if co_ok su ky then va_up N 14 (fun j => dm_ph (me_V N S t j)) else N
theorem co_r_pos {N : Nat → Nat → Nat} {S : Nat → Nat → Int32} {t : Int32} {n y : Nat} (h : co_ok (nI n) (nI y)) (hn : n < 2 ^ 31) (hy : y < 2 ^ 31) : co_r N S (nI n) (nI y) t = (if dm_ofs (me_V N S t) n y = 1000 then -1 else nI (dm_ofs (me_V N S t) n y)) := by
  unfold co_r
  rw [if_pos h, nI_clamp hn, nI_clamp hy]
theorem me_t {x : Nat} (hx : x ≤ 1000) (h : 5000 ≤ dm_ph x) : x = 1000 := by
  unfold dm_ph at h
  split at h <;> omega
theorem me_f {x : Nat} (hx : x ≤ 1000) (h : ¬ 5000 ≤ dm_ph x) : ¬ x = 1000 := by
  unfold dm_ph at h
  split at h <;> omega
theorem dm_ph_id {x : Nat} (hx : x ≤ 1000) (h : ¬ x = 1000) : dm_ph x = x := by
  unfold dm_ph
  split <;> omega
theorem dm_set_t {P : Nat → Bool} {k : Nat} (h : P k = true) : dm_set P k + 2 ^ k = dm_set P (k + 1) := (if_pos h).symm
theorem dm_set_f {P : Nat → Bool} {k : Nat} (h : ¬ P k = true) : dm_set P k = dm_set P (k + 1) := (if_neg h).symm
end
section
theorem d_Mod_meant_0 : decode k_Mod_meant 0 = .ok (.iload_n 1, 1) := by decide +kernel
theorem d_Mod_meant_1 : decode k_Mod_meant 1 = .ok (.invokestatic 69, 3) := by decide +kernel
theorem d_Mod_meant_4 : decode k_Mod_meant 4 = .ok (.ifCond .ne 5, 3) := by decide +kernel
theorem d_Mod_meant_7 : decode k_Mod_meant 7 = .ok (.iconst (-1), 1) := by decide +kernel
theorem d_Mod_meant_8 : decode k_Mod_meant 8 = .ok (.ireturn, 1) := by decide +kernel
theorem d_Mod_meant_9 : decode k_Mod_meant 9 = .ok (.aload_n 0, 1) := by decide +kernel
theorem d_Mod_meant_10 : decode k_Mod_meant 10 = .ok (.iload_n 2, 1) := by decide +kernel
theorem d_Mod_meant_11 : decode k_Mod_meant 11 = .ok (.invokevirtual 101, 3) := by decide +kernel
theorem d_Mod_meant_14 : decode k_Mod_meant 14 = .ok (.iconst 0, 1) := by decide +kernel
theorem d_Mod_meant_15 : decode k_Mod_meant 15 = .ok (.istore_n 3, 1) := by decide +kernel
theorem d_Mod_meant_16 : decode k_Mod_meant 16 = .ok (.iconst 0, 1) := by decide +kernel
theorem d_Mod_meant_17 : decode k_Mod_meant 17 = .ok (.istore 4, 2) := by decide +kernel
theorem d_Mod_meant_19 : decode k_Mod_meant 19 = .ok (.iload 4, 2) := by decide +kernel
theorem d_Mod_meant_21 : decode k_Mod_meant 21 = .ok (.bipush 8, 2) := by decide +kernel
theorem d_Mod_meant_23 : decode k_Mod_meant 23 = .ok (.if_icmp .ge 33, 3) := by decide +kernel
theorem d_Mod_meant_26 : decode k_Mod_meant 26 = .ok (.aload_n 0, 1) := by decide +kernel
theorem d_Mod_meant_27 : decode k_Mod_meant 27 = .ok (.iload_n 1, 1) := by decide +kernel
theorem d_Mod_meant_28 : decode k_Mod_meant 28 = .ok (.iload 4, 2) := by decide +kernel
theorem d_Mod_meant_30 : decode k_Mod_meant 30 = .ok (.invokevirtual 95, 3) := by decide +kernel
theorem d_Mod_meant_33 : decode k_Mod_meant 33 = .ok (.sipush 5000, 3) := by decide +kernel
theorem d_Mod_meant_36 : decode k_Mod_meant 36 = .ok (.if_icmp .ge 12, 3) := by decide +kernel
theorem d_Mod_meant_39 : decode k_Mod_meant 39 = .ok (.iload_n 3, 1) := by decide +kernel
theorem d_Mod_meant_40 : decode k_Mod_meant 40 = .ok (.iconst 1, 1) := by decide +kernel
theorem d_Mod_meant_41 : decode k_Mod_meant 41 = .ok (.iload 4, 2) := by decide +kernel
theorem d_Mod_meant_43 : decode k_Mod_meant 43 = .ok (.ishl, 1) := by decide +kernel
theorem d_Mod_meant_44 : decode k_Mod_meant 44 = .ok (.iadd, 1) := by decide +kernel
theorem d_Mod_meant_45 : decode k_Mod_meant 45 = .ok (.goto 4, 3) := by decide +kernel
theorem d_Mod_meant_48 : decode k_Mod_meant 48 = .ok (.iload_n 3, 1) := by decide +kernel
theorem d_Mod_meant_49 : decode k_Mod_meant 49 = .ok (.istore_n 3, 1) := by decide +kernel
theorem d_Mod_meant_50 : decode k_Mod_meant 50 = .ok (.iinc 4 1, 3) := by decide +kernel
theorem d_Mod_meant_53 : decode k_Mod_meant 53 = .ok (.goto (-34), 3) := by decide +kernel
theorem d_Mod_meant_56 : decode k_Mod_meant 56 = .ok (.iload_n 3, 1) := by decide +kernel
theorem d_Mod_meant_57 : decode k_Mod_meant 57 = .ok (.ireturn, 1) := by decide +kernel
set_option maxHeartbeats 4000000 in
set_option maxRecDepth 100000 in
theorem c_Mod_meant (l : Launch) {B : Nat} {D : va_G} {cI cZ cQ : ClassId} {w : mm_M} {sz : Nat} {b : Nat} {N : Nat → Nat → Nat} {S : Nat → Nat → Int32} {sr t9 : Int32} (hM : mo_I b cI cZ N S w) (hn : N 0 0 ≤ 24) (hR : rg_I N) : Met l y_Mod_meant ws_Mod_meant (kk_rm 5 0 0) (kk_Pc B D cI cZ cQ [.ref (b + 14), .int sr, .int t9] w sz) (kk_Qi B D (fun r w' sz' => r = me_r N S sr t9 ∧ mo_I b cI cZ (me_N N S sr t9) S w' ∧ (∀ j, ¬ (b + 14 ≤ j ∧ j < b + 31) → w' j = w j) ∧ sz' = sz)) 0 0 (fun q => B ≤ q) := by
  refine Met.ofW (cc := k_Mod_meant) (maxL := 5) (ret := (some .int)) (by decide) rfl ?_
  intro p e s m args below meth c s₁ BB hml hv
  obtain ⟨rfl, hK, hP, hz, hBz⟩ := hv
  have hx := BB.exec
  have hb := BB.bytes
  have hr := BB.returns
  have hts := atoms_spec (ws := ws_Mod_meant) BB.pre
  have hown : s.vm.findClass "DelegationClosureModel" = some m.cls := findClass_of_methodNamed BB.named
  have hlocks := BB.notSynchronized
  have hS : mm_S B s.heap s.heap [] := va_S.rf
  have hl := lv_entry ([.ref (b + 14), .int sr, .int t9]) (n := 5) (Nat.le_of_ble_eq_true rfl)
  rw [lg_entry_eq]
  generalize (lg_sl ([.ref (b + 14), .int sr, .int t9]) ++ List.replicate (5 - (lg_sl ([.ref (b + 14), .int sr, .int t9])).length) Slot.unset).toArray = ls at hl ⊢
  have hl : lv_has ls 5 [(0, .ref (b + 14)), (1, .int sr), (2, .int t9)] := hl
  have m0 : w (b + 14) = some (.inr (9, [.int (nI (N 0 0)), .ref (b + 15), .ref (b + 16), .ref (b + 17), .ref (b + 18), .ref (b + 19), .ref (b + 20), .ref (b + 21), .ref (b + 22), .ref (b + 23), .ref (b + 24), .ref (b + 25), .ref (b + 26), .ref (b + 27), .ref (b + 28), .ref (b + 29), .int (nI (N 16 0)), .int (nI (N 17 0)), .int (nI (N 18 0)), .ref (b + 30), .int (nI (N 20 0)), .int (S 21 0), .int (S 22 0), .int (S 23 0), .int (S 24 0), .int (nI (N 25 0)), .int (nI (N 26 0))])) := hM.1
  have m1 : w (b + 15) = some (.inl (cZ, 24, .inl (fun i => nI ((N 1) i)))) := hM.2 1 (by decide) (by decide)
  have m2 : w (b + 16) = some (.inl (cZ, 24, .inl (fun i => nI ((N 2) i)))) := hM.2 2 (by decide) (by decide)
  have m3 : w (b + 17) = some (.inl (cI, 24, .inl (fun i => nI ((N 3) i)))) := hM.2 3 (by decide) (by decide)
  have m4 : w (b + 18) = some (.inl (cI, 24, .inl (fun i => nI ((N 4) i)))) := hM.2 4 (by decide) (by decide)
  have m5 : w (b + 19) = some (.inl (cI, 24, .inl (S 5))) := hM.2 5 (by decide) (by decide)
  have m6 : w (b + 20) = some (.inl (cI, 24, .inl (S 6))) := hM.2 6 (by decide) (by decide)
  have m7 : w (b + 21) = some (.inl (cI, 72, .inl (fun i => nI ((N 7) i)))) := hM.2 7 (by decide) (by decide)
  have m8 : w (b + 22) = some (.inl (cI, 24, .inl (fun i => nI ((N 8) i)))) := hM.2 8 (by decide) (by decide)
  have m9 : w (b + 23) = some (.inl (cI, 24, .inl (fun i => nI ((N 9) i)))) := hM.2 9 (by decide) (by decide)
  have m10 : w (b + 24) = some (.inl (cI, 24, .inl (fun i => nI ((N 10) i)))) := hM.2 10 (by decide) (by decide)
  have m11 : w (b + 25) = some (.inl (cI, 24, .inl (S 11))) := hM.2 11 (by decide) (by decide)
  have m12 : w (b + 26) = some (.inl (cI, 24, .inl (S 12))) := hM.2 12 (by decide) (by decide)
  have m13 : w (b + 27) = some (.inl (cZ, 24, .inl (fun i => nI ((N 13) i)))) := hM.2 13 (by decide) (by decide)
  have m14 : w (b + 28) = some (.inl (cI, 256, .inl (fun i => nI ((N 14) i)))) := hM.2 14 (by decide) (by decide)
  have m15 : w (b + 29) = some (.inl (cI, 24, .inl (fun i => nI ((N 15) i)))) := hM.2 15 (by decide) (by decide)
  have m16 : w (b + 30) = some (.inl (cI, 5, .inl (fun i => nI ((N 19) i)))) := hM.2 16 (by decide) (by decide)
  refine lv_iload_n hx hb d_Mod_meant_0 rfl (lv_at hl 1 rfl) ?_
  refine vp_callSi (va_Run.run (va_runS (As := [.int sr]) (rest := []) ⟨hx, hb, hml, hown, hts⟩ (c_Mod_isSubject l ) (va_cwS 1 hts (gW_in (hd := [_, _, _, _]) (kk_4 wd_577 wd_578 wd_8 cw_Mod_isSubject)) rfl rfl rfl ds_Mod_isSubject ⟨Nat.le_of_ble_eq_true rfl, Nat.le_of_ble_eq_true rfl⟩) (kk_preS hK hP hz hBz) rfl rfl hl.1 rfl (lv_room (Nat.le_of_ble_eq_true rfl)) d_Mod_meant_1 ⟨Nat.le_of_ble_eq_true rfl, Nat.le_of_ble_eq_true rfl⟩)) (fun r1 hr1 => ?_)
  subst hr1
  refine lv_if_ne (tgt := 9) hx hb d_Mod_meant_4 (by decide) (fun cc2 => ?_) (fun cc2 => ?_)
  · have cc2 := kk_b1 cc2
    obtain ⟨n9, hsn, hn9⟩ := wf_sub_of cc2
    refine lv_aload_n hx hb d_Mod_meant_9 rfl (lv_at hl 0 rfl) ?_
    refine lv_iload_n hx hb d_Mod_meant_10 rfl (lv_at hl 2 rfl) ?_
    refine kk_callv (va_runV (As := [.int t9]) (rest := []) ⟨hx, hb, hml, hown, hts⟩ (c_Mod_findMeanings l (b := b) (N := N) (S := S) hM hn hR) (cwV 1 hts (gW_in (hd := [_, _, _, _, _]) (kk_5 wd_625 wd_627 sl_Mod_findMeanings wd_8 cw_Mod_findMeanings)) rfl rfl rfl ⟨rfl, ds_Mod_findMeanings⟩ ⟨Nat.le_of_ble_eq_true rfl, Nat.le_of_ble_eq_true rfl⟩) (kk_preV hK hP hz hBz m0 rfl) rfl rfl hl.1 rfl (lv_room (Nat.le_of_ble_eq_true rfl)) d_Mod_meant_11 ⟨Nat.le_of_ble_eq_true rfl, Nat.le_of_ble_eq_true rfl⟩) hS (fun w3 sz3 H locs hp3 hP hz hS => ?_)
    obtain ⟨hM3, hf3, hs3⟩ := hp3
    have hz : H.size = sz := hz.trans hs3
    have m3_0 : w3 (b + 14) = some (.inr (9, [.int (nI ((va_up N 14 (fun j => dm_ph (dm_run (ru_M N S t9) 300 (fun _ => 1000) j))) 0 0)), .ref (b + 15), .ref (b + 16), .ref (b + 17), .ref (b + 18), .ref (b + 19), .ref (b + 20), .ref (b + 21), .ref (b + 22), .ref (b + 23), .ref (b + 24), .ref (b + 25), .ref (b + 26), .ref (b + 27), .ref (b + 28), .ref (b + 29), .int (nI ((va_up N 14 (fun j => dm_ph (dm_run (ru_M N S t9) 300 (fun _ => 1000) j))) 16 0)), .int (nI ((va_up N 14 (fun j => dm_ph (dm_run (ru_M N S t9) 300 (fun _ => 1000) j))) 17 0)), .int (nI ((va_up N 14 (fun j => dm_ph (dm_run (ru_M N S t9) 300 (fun _ => 1000) j))) 18 0)), .ref (b + 30), .int (nI ((va_up N 14 (fun j => dm_ph (dm_run (ru_M N S t9) 300 (fun _ => 1000) j))) 20 0)), .int (S 21 0), .int (S 22 0), .int (S 23 0), .int (S 24 0), .int (nI ((va_up N 14 (fun j => dm_ph (dm_run (ru_M N S t9) 300 (fun _ => 1000) j))) 25 0)), .int (nI ((va_up N 14 (fun j => dm_ph (dm_run (ru_M N S t9) 300 (fun _ => 1000) j))) 26 0))])) := hM3.1
    have m3_1 : w3 (b + 15) = some (.inl (cZ, 24, .inl (fun i => nI (((va_up N 14 (fun j => dm_ph (dm_run (ru_M N S t9) 300 (fun _ => 1000) j))) 1) i)))) := hM3.2 1 (by decide) (by decide)
    have m3_2 : w3 (b + 16) = some (.inl (cZ, 24, .inl (fun i => nI (((va_up N 14 (fun j => dm_ph (dm_run (ru_M N S t9) 300 (fun _ => 1000) j))) 2) i)))) := hM3.2 2 (by decide) (by decide)
    have m3_3 : w3 (b + 17) = some (.inl (cI, 24, .inl (fun i => nI (((va_up N 14 (fun j => dm_ph (dm_run (ru_M N S t9) 300 (fun _ => 1000) j))) 3) i)))) := hM3.2 3 (by decide) (by decide)
    have m3_4 : w3 (b + 18) = some (.inl (cI, 24, .inl (fun i => nI (((va_up N 14 (fun j => dm_ph (dm_run (ru_M N S t9) 300 (fun _ => 1000) j))) 4) i)))) := hM3.2 4 (by decide) (by decide)
    have m3_5 : w3 (b + 19) = some (.inl (cI, 24, .inl (S 5))) := hM3.2 5 (by decide) (by decide)
    have m3_6 : w3 (b + 20) = some (.inl (cI, 24, .inl (S 6))) := hM3.2 6 (by decide) (by decide)
    have m3_7 : w3 (b + 21) = some (.inl (cI, 72, .inl (fun i => nI (((va_up N 14 (fun j => dm_ph (dm_run (ru_M N S t9) 300 (fun _ => 1000) j))) 7) i)))) := hM3.2 7 (by decide) (by decide)
    have m3_8 : w3 (b + 22) = some (.inl (cI, 24, .inl (fun i => nI (((va_up N 14 (fun j => dm_ph (dm_run (ru_M N S t9) 300 (fun _ => 1000) j))) 8) i)))) := hM3.2 8 (by decide) (by decide)
    have m3_9 : w3 (b + 23) = some (.inl (cI, 24, .inl (fun i => nI (((va_up N 14 (fun j => dm_ph (dm_run (ru_M N S t9) 300 (fun _ => 1000) j))) 9) i)))) := hM3.2 9 (by decide) (by decide)
    have m3_10 : w3 (b + 24) = some (.inl (cI, 24, .inl (fun i => nI (((va_up N 14 (fun j => dm_ph (dm_run (ru_M N S t9) 300 (fun _ => 1000) j))) 10) i)))) := hM3.2 10 (by decide) (by decide)
    have m3_11 : w3 (b + 25) = some (.inl (cI, 24, .inl (S 11))) := hM3.2 11 (by decide) (by decide)
    have m3_12 : w3 (b + 26) = some (.inl (cI, 24, .inl (S 12))) := hM3.2 12 (by decide) (by decide)
    have m3_13 : w3 (b + 27) = some (.inl (cZ, 24, .inl (fun i => nI (((va_up N 14 (fun j => dm_ph (dm_run (ru_M N S t9) 300 (fun _ => 1000) j))) 13) i)))) := hM3.2 13 (by decide) (by decide)
    have m3_14 : w3 (b + 28) = some (.inl (cI, 256, .inl (fun i => nI (((va_up N 14 (fun j => dm_ph (dm_run (ru_M N S t9) 300 (fun _ => 1000) j))) 14) i)))) := hM3.2 14 (by decide) (by decide)
    have m3_15 : w3 (b + 29) = some (.inl (cI, 24, .inl (fun i => nI (((va_up N 14 (fun j => dm_ph (dm_run (ru_M N S t9) 300 (fun _ => 1000) j))) 15) i)))) := hM3.2 15 (by decide) (by decide)
    have m3_16 : w3 (b + 30) = some (.inl (cI, 5, .inl (fun i => nI (((va_up N 14 (fun j => dm_ph (dm_run (ru_M N S t9) 300 (fun _ => 1000) j))) 19) i)))) := hM3.2 16 (by decide) (by decide)
    have m3_14 : w3 (b + 28) = some (.inl (cI, 256, .inl (fun i => nI (dm_ph ((me_V N S t9) i))))) := m3_14
    refine lv_iconst (v := nI 0) hx hb d_Mod_meant_14 (by decide) ?_
    refine lv_istore_n hx hb d_Mod_meant_15 rfl hl (by decide) rfl (fun ls hl => ?_)
    have hl : lv_has ls 5 [(3, .int (nI 0)), (0, .ref (b + 14)), (1, .int sr), (2, .int t9)] := hl
    refine lv_iconst (v := nI 0) hx hb d_Mod_meant_16 (by decide) ?_
    refine lv_istore hx hb d_Mod_meant_17 hl (by decide) rfl (fun ls hl => ?_)
    have hl : lv_has ls 5 [(4, .int (nI 0)), (3, .int (nI 0)), (0, .ref (b + 14)), (1, .int sr), (2, .int t9)] := hl
    have lp4 : ∀ (d : Nat) (k : Nat) (ls : Array Slot), d = 8 - k → (k ≤ 8) → lv_has ls 5 [(4, .int (nI k)), (3, .int (nI (dm_set (me_P (me_V N S t9) n9) k))), (0, .ref (b + 14)), (1, .int sr), (2, .int t9)] → W p l e (headSpec ws_Mod_meant (kk_rm 5 0 0)).room s m ([.ref (b + 14), .int sr, .int t9]).toArray below meth c H locs 0 0 (MQ below (kk_Qi B D (fun r w' sz' => r = me_r N S sr t9 ∧ mo_I b cI cZ (me_N N S sr t9) S w' ∧ (∀ j, ¬ (b + 14 ≤ j ∧ j < b + 31) → w' j = w j) ∧ sz' = sz)) ([.ref (b + 14), .int sr, .int t9]).toArray s 0 0 (fun q => B ≤ q)) (F0 m 19 ls []) := by
      intro d
      induction d using Nat.strongRecOn with
      | ind d ih =>
        intro k ls hd hk hl
        refine lv_iload hx hb d_Mod_meant_19 (lv_at hl 0 rfl) ?_
        refine lv_bipush (v := nI 8) hx hb d_Mod_meant_21 (by decide) ?_
        refine lv_icmp_ge (tgt := 56) hx hb d_Mod_meant_23 (by decide) (fun cc5 => ?_) (fun cc5 => ?_)
        · have cc5 : 8 ≤ k := (nI_leI (by omega) (by omega)).mp cc5
          refine lv_iload_n hx hb d_Mod_meant_56 rfl (lv_at hl 1 rfl) ?_
          exact W.iret hx hb hr (fun t ht hW => ⟨⟨_, (w3, sz), rfl, ⟨(by rw [me_r_pos cc2 hsn (by omega)]; obtain rfl : k = 8 := (by omega); rfl), (by rw [show me_N N S sr t9 = va_up N 14 (fun j => dm_ph (me_V N S t9 j)) from if_pos cc2]; exact mo_mk m3_0 m3_1 m3_2 m3_3 m3_4 m3_5 m3_6 m3_7 m3_8 m3_9 m3_10 m3_11 m3_12 m3_13 m3_14 m3_15 m3_16), (fun j hj => hf3 j hj), rfl⟩, by rw [ht]; exact hP, by rw [ht]; exact hz⟩, hS.F ht⟩) hS.2.2 d_Mod_meant_57
        · have cc5 : ¬ (8 ≤ k) := fun q => cc5 ((nI_leI (by omega) (by omega)).mpr q)
          refine lv_aload_n hx hb d_Mod_meant_26 rfl (lv_at hl 2 rfl) ?_
          refine lv_iload_n hx hb d_Mod_meant_27 rfl (lv_at hl 3 rfl) ?_
          refine kk_top (hsn) ?_
          refine lv_iload hx hb d_Mod_meant_28 (lv_at hl 0 rfl) ?_
          refine vp_callSi (va_Run.run (va_runV (As := [.int (nI n9), .int (nI k)]) (rest := []) ⟨hx, hb, hml, hown, hts⟩ (c_Mod_costOf l (b := b) (N := (va_up N 14 (fun j => dm_ph (dm_run (ru_M N S t9) 300 (fun _ => 1000) j)))) (S := S) (v9 := (me_V N S t9)) hM3 (by omega) (by omega) rfl (me_V_le _ _ _)) (cwV 2 hts (gW_in (hd := [_, _, _, _, _]) (kk_5 wd_637 wd_639 sl_Mod_costOf wd_8 cw_Mod_costOf)) rfl rfl rfl ⟨rfl, ds_Mod_costOf⟩ ⟨Nat.le_of_ble_eq_true rfl, Nat.le_of_ble_eq_true rfl⟩) (kk_preV hK hP hz hBz m3_0 rfl) rfl rfl hl.1 rfl (lv_room (Nat.le_of_ble_eq_true rfl)) d_Mod_meant_30 ⟨Nat.le_of_ble_eq_true rfl, Nat.le_of_ble_eq_true rfl⟩)) (fun r6 hr6 => ?_)
          subst hr6
          refine lv_sipush (v := nI 5000) hx hb d_Mod_meant_33 (by decide) ?_
          have hq1 := dm_ph_le (dm_ofs (me_V N S t9) n9 k)
          have hq2 := dm_ofs_le (me_V_le N S t9) n9 k
          refine lv_icmp_ge (tgt := 48) hx hb d_Mod_meant_36 (by decide) (fun cc7 => ?_) (fun cc7 => ?_)
          · have cc7 : 5000 ≤ dm_ph (dm_ofs (me_V N S t9) n9 k) := (nI_leI (by omega) (by omega)).mp cc7
            refine lv_iload_n hx hb d_Mod_meant_48 rfl (lv_at hl 1 rfl) ?_
            refine kk_top (y := nI (dm_set (me_P (me_V N S t9) n9) (k + 1))) (congrArg nI (dm_set_f (fun q => of_decide_eq_true q (me_t hq2 cc7)))) ?_
            refine lv_istore_n hx hb d_Mod_meant_49 rfl hl (by decide) rfl (fun ls hl => ?_)
            have hl : lv_has ls 5 [(3, .int (nI (dm_set (me_P (me_V N S t9) n9) (k + 1)))), (4, .int (nI k)), (0, .ref (b + 14)), (1, .int sr), (2, .int t9)] := hl
            refine lv_iinc (k := 1) (v := nI (k + 1)) hx hb d_Mod_meant_50 hl rfl (kk_inc _) (by decide) rfl (fun ls hl => ?_)
            have hl : lv_has ls 5 [(4, .int (nI (k + 1))), (3, .int (nI (dm_set (me_P (me_V N S t9) n9) (k + 1)))), (0, .ref (b + 14)), (1, .int sr), (2, .int t9)] := hl
            refine lv_goto (tgt := 19) hx hb d_Mod_meant_53 (by decide) ?_
            exact ih _ (by omega) (k + 1) ls rfl (by omega) (lv_sub hl [0, 1, 2, 3, 4] rfl)
          · have cc7 : ¬ (5000 ≤ dm_ph (dm_ofs (me_V N S t9) n9 k)) := fun q => cc7 ((nI_leI (by omega) (by omega)).mpr q)
            refine lv_iload_n hx hb d_Mod_meant_39 rfl (lv_at hl 1 rfl) ?_
            refine lv_iconst (v := nI 1) hx hb d_Mod_meant_40 (by decide) ?_
            refine lv_iload hx hb d_Mod_meant_41 (lv_at hl 0 rfl) ?_
            refine lv_ishl hx hb d_Mod_meant_43 ?_
            refine kk_top (y := nI (2 ^ k)) (bt_shl _ (by omega)) ?_
            refine lv_iadd hx hb d_Mod_meant_44 ?_
            refine kk_top (nI_add _ _) ?_
            refine lv_goto (tgt := 49) hx hb d_Mod_meant_45 (by decide) ?_
            refine kk_top (y := nI (dm_set (me_P (me_V N S t9) n9) (k + 1))) (congrArg nI (dm_set_t (decide_eq_true (me_f hq2 cc7)))) ?_
            refine lv_istore_n hx hb d_Mod_meant_49 rfl hl (by decide) rfl (fun ls hl => ?_)
            have hl : lv_has ls 5 [(3, .int (nI (dm_set (me_P (me_V N S t9) n9) (k + 1)))), (4, .int (nI k)), (0, .ref (b + 14)), (1, .int sr), (2, .int t9)] := hl
            refine lv_iinc (k := 1) (v := nI (k + 1)) hx hb d_Mod_meant_50 hl rfl (kk_inc _) (by decide) rfl (fun ls hl => ?_)
            have hl : lv_has ls 5 [(4, .int (nI (k + 1))), (3, .int (nI (dm_set (me_P (me_V N S t9) n9) (k + 1)))), (0, .ref (b + 14)), (1, .int sr), (2, .int t9)] := hl
            refine lv_goto (tgt := 19) hx hb d_Mod_meant_53 (by decide) ?_
            exact ih _ (by omega) (k + 1) ls rfl (by omega) (lv_sub hl [0, 1, 2, 3, 4] rfl)
    exact lp4 _ 0 _ rfl (by omega) (lv_sub hl [0, 1, 2, 3, 4] rfl)
  · have cc2 := kk_b0 cc2
    refine lv_iconst (v := (-1)) hx hb d_Mod_meant_7 (by decide) ?_
    exact W.iret hx hb hr (fun t ht hW => ⟨⟨_, (w, sz), rfl, ⟨(if_neg cc2).symm, (by rw [show me_N N S sr t9 = N from if_neg cc2]; exact mo_mk m0 m1 m2 m3 m4 m5 m6 m7 m8 m9 m10 m11 m12 m13 m14 m15 m16), (fun j hj => rfl), rfl⟩, by rw [ht]; exact hP, by rw [ht]; exact hz⟩, hS.F ht⟩) hS.2.2 d_Mod_meant_8
theorem d_Mod_cost_0 : decode k_Mod_cost 0 = .ok (.iload_n 1, 1) := by decide +kernel
theorem d_Mod_cost_1 : decode k_Mod_cost 1 = .ok (.invokestatic 69, 3) := by decide +kernel
theorem d_Mod_cost_4 : decode k_Mod_cost 4 = .ok (.ifCond .eq 13, 3) := by decide +kernel
theorem d_Mod_cost_7 : decode k_Mod_cost 7 = .ok (.iload_n 2, 1) := by decide +kernel
theorem d_Mod_cost_8 : decode k_Mod_cost 8 = .ok (.ifCond .lt 9, 3) := by decide +kernel
theorem d_Mod_cost_11 : decode k_Mod_cost 11 = .ok (.iload_n 2, 1) := by decide +kernel
theorem d_Mod_cost_12 : decode k_Mod_cost 12 = .ok (.bipush 7, 2) := by decide +kernel
theorem d_Mod_cost_14 : decode k_Mod_cost 14 = .ok (.if_icmp .le 5, 3) := by decide +kernel
theorem d_Mod_cost_17 : decode k_Mod_cost 17 = .ok (.iconst (-1), 1) := by decide +kernel
theorem d_Mod_cost_18 : decode k_Mod_cost 18 = .ok (.ireturn, 1) := by decide +kernel
theorem d_Mod_cost_19 : decode k_Mod_cost 19 = .ok (.aload_n 0, 1) := by decide +kernel
theorem d_Mod_cost_20 : decode k_Mod_cost 20 = .ok (.iload_n 3, 1) := by decide +kernel
theorem d_Mod_cost_21 : decode k_Mod_cost 21 = .ok (.invokevirtual 101, 3) := by decide +kernel
theorem d_Mod_cost_24 : decode k_Mod_cost 24 = .ok (.aload_n 0, 1) := by decide +kernel
theorem d_Mod_cost_25 : decode k_Mod_cost 25 = .ok (.iload_n 1, 1) := by decide +kernel
theorem d_Mod_cost_26 : decode k_Mod_cost 26 = .ok (.iload_n 2, 1) := by decide +kernel
theorem d_Mod_cost_27 : decode k_Mod_cost 27 = .ok (.invokevirtual 95, 3) := by decide +kernel
theorem d_Mod_cost_30 : decode k_Mod_cost 30 = .ok (.istore 4, 2) := by decide +kernel
theorem d_Mod_cost_32 : decode k_Mod_cost 32 = .ok (.iload 4, 2) := by decide +kernel
theorem d_Mod_cost_34 : decode k_Mod_cost 34 = .ok (.sipush 5000, 3) := by decide +kernel
theorem d_Mod_cost_37 : decode k_Mod_cost 37 = .ok (.if_icmp .ne 7, 3) := by decide +kernel
theorem d_Mod_cost_40 : decode k_Mod_cost 40 = .ok (.iconst (-1), 1) := by decide +kernel
theorem d_Mod_cost_41 : decode k_Mod_cost 41 = .ok (.goto 5, 3) := by decide +kernel
theorem d_Mod_cost_44 : decode k_Mod_cost 44 = .ok (.iload 4, 2) := by decide +kernel
theorem d_Mod_cost_46 : decode k_Mod_cost 46 = .ok (.ireturn, 1) := by decide +kernel
set_option maxHeartbeats 4000000 in
set_option maxRecDepth 100000 in
theorem c_Mod_cost (l : Launch) {B : Nat} {D : va_G} {cI cZ cQ : ClassId} {w : mm_M} {sz : Nat} {b : Nat} {N : Nat → Nat → Nat} {S : Nat → Nat → Int32} {sr kr t9 : Int32} (hM : mo_I b cI cZ N S w) (hn : N 0 0 ≤ 24) (hR : rg_I N) : Met l y_Mod_cost ws_Mod_cost (kk_rm 5 0 0) (kk_Pc B D cI cZ cQ [.ref (b + 14), .int sr, .int kr, .int t9] w sz) (kk_Qi B D (fun r w' sz' => r = co_r N S sr kr t9 ∧ mo_I b cI cZ (co_N N S sr kr t9) S w' ∧ (∀ j, ¬ (b + 14 ≤ j ∧ j < b + 31) → w' j = w j) ∧ sz' = sz)) 0 0 (fun q => B ≤ q) := by
  refine Met.ofW (cc := k_Mod_cost) (maxL := 5) (ret := (some .int)) (by decide) rfl ?_
  intro p e s m args below meth c s₁ BB hml hv
  obtain ⟨rfl, hK, hP, hz, hBz⟩ := hv
  have hx := BB.exec
  have hb := BB.bytes
  have hr := BB.returns
  have hts := atoms_spec (ws := ws_Mod_cost) BB.pre
  have hown : s.vm.findClass "DelegationClosureModel" = some m.cls := findClass_of_methodNamed BB.named
  have hlocks := BB.notSynchronized
  have hS : mm_S B s.heap s.heap [] := va_S.rf
  have hl := lv_entry ([.ref (b + 14), .int sr, .int kr, .int t9]) (n := 5) (Nat.le_of_ble_eq_true rfl)
  rw [lg_entry_eq]
  generalize (lg_sl ([.ref (b + 14), .int sr, .int kr, .int t9]) ++ List.replicate (5 - (lg_sl ([.ref (b + 14), .int sr, .int kr, .int t9])).length) Slot.unset).toArray = ls at hl ⊢
  have hl : lv_has ls 5 [(0, .ref (b + 14)), (1, .int sr), (2, .int kr), (3, .int t9)] := hl
  have m0 : w (b + 14) = some (.inr (9, [.int (nI (N 0 0)), .ref (b + 15), .ref (b + 16), .ref (b + 17), .ref (b + 18), .ref (b + 19), .ref (b + 20), .ref (b + 21), .ref (b + 22), .ref (b + 23), .ref (b + 24), .ref (b + 25), .ref (b + 26), .ref (b + 27), .ref (b + 28), .ref (b + 29), .int (nI (N 16 0)), .int (nI (N 17 0)), .int (nI (N 18 0)), .ref (b + 30), .int (nI (N 20 0)), .int (S 21 0), .int (S 22 0), .int (S 23 0), .int (S 24 0), .int (nI (N 25 0)), .int (nI (N 26 0))])) := hM.1
  have m1 : w (b + 15) = some (.inl (cZ, 24, .inl (fun i => nI ((N 1) i)))) := hM.2 1 (by decide) (by decide)
  have m2 : w (b + 16) = some (.inl (cZ, 24, .inl (fun i => nI ((N 2) i)))) := hM.2 2 (by decide) (by decide)
  have m3 : w (b + 17) = some (.inl (cI, 24, .inl (fun i => nI ((N 3) i)))) := hM.2 3 (by decide) (by decide)
  have m4 : w (b + 18) = some (.inl (cI, 24, .inl (fun i => nI ((N 4) i)))) := hM.2 4 (by decide) (by decide)
  have m5 : w (b + 19) = some (.inl (cI, 24, .inl (S 5))) := hM.2 5 (by decide) (by decide)
  have m6 : w (b + 20) = some (.inl (cI, 24, .inl (S 6))) := hM.2 6 (by decide) (by decide)
  have m7 : w (b + 21) = some (.inl (cI, 72, .inl (fun i => nI ((N 7) i)))) := hM.2 7 (by decide) (by decide)
  have m8 : w (b + 22) = some (.inl (cI, 24, .inl (fun i => nI ((N 8) i)))) := hM.2 8 (by decide) (by decide)
  have m9 : w (b + 23) = some (.inl (cI, 24, .inl (fun i => nI ((N 9) i)))) := hM.2 9 (by decide) (by decide)
  have m10 : w (b + 24) = some (.inl (cI, 24, .inl (fun i => nI ((N 10) i)))) := hM.2 10 (by decide) (by decide)
  have m11 : w (b + 25) = some (.inl (cI, 24, .inl (S 11))) := hM.2 11 (by decide) (by decide)
  have m12 : w (b + 26) = some (.inl (cI, 24, .inl (S 12))) := hM.2 12 (by decide) (by decide)
  have m13 : w (b + 27) = some (.inl (cZ, 24, .inl (fun i => nI ((N 13) i)))) := hM.2 13 (by decide) (by decide)
  have m14 : w (b + 28) = some (.inl (cI, 256, .inl (fun i => nI ((N 14) i)))) := hM.2 14 (by decide) (by decide)
  have m15 : w (b + 29) = some (.inl (cI, 24, .inl (fun i => nI ((N 15) i)))) := hM.2 15 (by decide) (by decide)
  have m16 : w (b + 30) = some (.inl (cI, 5, .inl (fun i => nI ((N 19) i)))) := hM.2 16 (by decide) (by decide)
  by_cases hok : co_ok sr kr
  · obtain ⟨n9, rfl, hn9⟩ := wf_sub_of hok.1
    obtain ⟨y9, hy9, rfl⟩ := kk_lim_of hok.2 (by omega)
    refine lv_iload_n hx hb d_Mod_cost_0 rfl (lv_at hl 1 rfl) ?_
    refine vp_callSi (va_Run.run (va_runS (As := [.int (nI n9)]) (rest := []) ⟨hx, hb, hml, hown, hts⟩ (c_Mod_isSubject l ) (va_cwS 1 hts (gW_in (hd := [_, _, _, _]) (kk_4 wd_577 wd_578 wd_8 cw_Mod_isSubject)) rfl rfl rfl ds_Mod_isSubject ⟨Nat.le_of_ble_eq_true rfl, Nat.le_of_ble_eq_true rfl⟩) (kk_preS hK hP hz hBz) rfl rfl hl.1 rfl (lv_room (Nat.le_of_ble_eq_true rfl)) d_Mod_cost_1 ⟨Nat.le_of_ble_eq_true rfl, Nat.le_of_ble_eq_true rfl⟩)) (fun r1 hr1 => ?_)
    subst hr1
    refine lv_if_eq (tgt := 17) hx hb d_Mod_cost_4 (by decide) (fun cc2 => ?_) (fun cc2 => ?_)
    · have cc2 := kk_b0 cc2
      exact absurd hok.1 cc2
    · have cc2 := kk_b1 cc2
      refine lv_iload_n hx hb d_Mod_cost_7 rfl (lv_at hl 2 rfl) ?_
      refine lv_if_lt (tgt := 17) hx hb d_Mod_cost_8 (by decide) (fun cc3 => ?_) (fun cc3 => ?_)
      · rw [← nI_0] at cc3
        have cc3 : y9 < 0 := (nI_ltI (by omega) (by omega)).mp cc3
        exact absurd cc3 (by omega)
      · rw [← nI_0] at cc3
        have cc3 : ¬ (y9 < 0) := fun q => cc3 ((nI_ltI (by omega) (by omega)).mpr q)
        refine lv_iload_n hx hb d_Mod_cost_11 rfl (lv_at hl 2 rfl) ?_
        refine lv_bipush (v := nI 7) hx hb d_Mod_cost_12 (by decide) ?_
        refine lv_icmp_le (tgt := 19) hx hb d_Mod_cost_14 (by decide) (fun cc4 => ?_) (fun cc4 => ?_)
        · have cc4 : y9 ≤ 7 := (nI_leI (by omega) (by omega)).mp cc4
          refine lv_aload_n hx hb d_Mod_cost_19 rfl (lv_at hl 0 rfl) ?_
          refine lv_iload_n hx hb d_Mod_cost_20 rfl (lv_at hl 3 rfl) ?_
          refine kk_callv (va_runV (As := [.int t9]) (rest := []) ⟨hx, hb, hml, hown, hts⟩ (c_Mod_findMeanings l (b := b) (N := N) (S := S) hM hn hR) (cwV 1 hts (gW_in (hd := [_, _, _, _, _]) (kk_5 wd_625 wd_627 sl_Mod_findMeanings wd_8 cw_Mod_findMeanings)) rfl rfl rfl ⟨rfl, ds_Mod_findMeanings⟩ ⟨Nat.le_of_ble_eq_true rfl, Nat.le_of_ble_eq_true rfl⟩) (kk_preV hK hP hz hBz m0 rfl) rfl rfl hl.1 rfl (lv_room (Nat.le_of_ble_eq_true rfl)) d_Mod_cost_21 ⟨Nat.le_of_ble_eq_true rfl, Nat.le_of_ble_eq_true rfl⟩) hS (fun w5 sz5 H locs hp5 hP hz hS => ?_)
          obtain ⟨hM5, hf5, hs5⟩ := hp5
          have hz : H.size = sz := hz.trans hs5
          have m5_0 : w5 (b + 14) = some (.inr (9, [.int (nI ((va_up N 14 (fun j => dm_ph (dm_run (ru_M N S t9) 300 (fun _ => 1000) j))) 0 0)), .ref (b + 15), .ref (b + 16), .ref (b + 17), .ref (b + 18), .ref (b + 19), .ref (b + 20), .ref (b + 21), .ref (b + 22), .ref (b + 23), .ref (b + 24), .ref (b + 25), .ref (b + 26), .ref (b + 27), .ref (b + 28), .ref (b + 29), .int (nI ((va_up N 14 (fun j => dm_ph (dm_run (ru_M N S t9) 300 (fun _ => 1000) j))) 16 0)), .int (nI ((va_up N 14 (fun j => dm_ph (dm_run (ru_M N S t9) 300 (fun _ => 1000) j))) 17 0)), .int (nI ((va_up N 14 (fun j => dm_ph (dm_run (ru_M N S t9) 300 (fun _ => 1000) j))) 18 0)), .ref (b + 30), .int (nI ((va_up N 14 (fun j => dm_ph (dm_run (ru_M N S t9) 300 (fun _ => 1000) j))) 20 0)), .int (S 21 0), .int (S 22 0), .int (S 23 0), .int (S 24 0), .int (nI ((va_up N 14 (fun j => dm_ph (dm_run (ru_M N S t9) 300 (fun _ => 1000) j))) 25 0)), .int (nI ((va_up N 14 (fun j => dm_ph (dm_run (ru_M N S t9) 300 (fun _ => 1000) j))) 26 0))])) := hM5.1
          have m5_1 : w5 (b + 15) = some (.inl (cZ, 24, .inl (fun i => nI (((va_up N 14 (fun j => dm_ph (dm_run (ru_M N S t9) 300 (fun _ => 1000) j))) 1) i)))) := hM5.2 1 (by decide) (by decide)
          have m5_2 : w5 (b + 16) = some (.inl (cZ, 24, .inl (fun i => nI (((va_up N 14 (fun j => dm_ph (dm_run (ru_M N S t9) 300 (fun _ => 1000) j))) 2) i)))) := hM5.2 2 (by decide) (by decide)
          have m5_3 : w5 (b + 17) = some (.inl (cI, 24, .inl (fun i => nI (((va_up N 14 (fun j => dm_ph (dm_run (ru_M N S t9) 300 (fun _ => 1000) j))) 3) i)))) := hM5.2 3 (by decide) (by decide)
          have m5_4 : w5 (b + 18) = some (.inl (cI, 24, .inl (fun i => nI (((va_up N 14 (fun j => dm_ph (dm_run (ru_M N S t9) 300 (fun _ => 1000) j))) 4) i)))) := hM5.2 4 (by decide) (by decide)
          have m5_5 : w5 (b + 19) = some (.inl (cI, 24, .inl (S 5))) := hM5.2 5 (by decide) (by decide)
          have m5_6 : w5 (b + 20) = some (.inl (cI, 24, .inl (S 6))) := hM5.2 6 (by decide) (by decide)
          have m5_7 : w5 (b + 21) = some (.inl (cI, 72, .inl (fun i => nI (((va_up N 14 (fun j => dm_ph (dm_run (ru_M N S t9) 300 (fun _ => 1000) j))) 7) i)))) := hM5.2 7 (by decide) (by decide)
          have m5_8 : w5 (b + 22) = some (.inl (cI, 24, .inl (fun i => nI (((va_up N 14 (fun j => dm_ph (dm_run (ru_M N S t9) 300 (fun _ => 1000) j))) 8) i)))) := hM5.2 8 (by decide) (by decide)
          have m5_9 : w5 (b + 23) = some (.inl (cI, 24, .inl (fun i => nI (((va_up N 14 (fun j => dm_ph (dm_run (ru_M N S t9) 300 (fun _ => 1000) j))) 9) i)))) := hM5.2 9 (by decide) (by decide)
          have m5_10 : w5 (b + 24) = some (.inl (cI, 24, .inl (fun i => nI (((va_up N 14 (fun j => dm_ph (dm_run (ru_M N S t9) 300 (fun _ => 1000) j))) 10) i)))) := hM5.2 10 (by decide) (by decide)
          have m5_11 : w5 (b + 25) = some (.inl (cI, 24, .inl (S 11))) := hM5.2 11 (by decide) (by decide)
          have m5_12 : w5 (b + 26) = some (.inl (cI, 24, .inl (S 12))) := hM5.2 12 (by decide) (by decide)
          have m5_13 : w5 (b + 27) = some (.inl (cZ, 24, .inl (fun i => nI (((va_up N 14 (fun j => dm_ph (dm_run (ru_M N S t9) 300 (fun _ => 1000) j))) 13) i)))) := hM5.2 13 (by decide) (by decide)
          have m5_14 : w5 (b + 28) = some (.inl (cI, 256, .inl (fun i => nI (((va_up N 14 (fun j => dm_ph (dm_run (ru_M N S t9) 300 (fun _ => 1000) j))) 14) i)))) := hM5.2 14 (by decide) (by decide)
          have m5_15 : w5 (b + 29) = some (.inl (cI, 24, .inl (fun i => nI (((va_up N 14 (fun j => dm_ph (dm_run (ru_M N S t9) 300 (fun _ => 1000) j))) 15) i)))) := hM5.2 15 (by decide) (by decide)
          have m5_16 : w5 (b + 30) = some (.inl (cI, 5, .inl (fun i => nI (((va_up N 14 (fun j => dm_ph (dm_run (ru_M N S t9) 300 (fun _ => 1000) j))) 19) i)))) := hM5.2 16 (by decide) (by decide)
          have m5_14 : w5 (b + 28) = some (.inl (cI, 256, .inl (fun i => nI (dm_ph ((me_V N S t9) i))))) := m5_14
          refine lv_aload_n hx hb d_Mod_cost_24 rfl (lv_at hl 0 rfl) ?_
          refine lv_iload_n hx hb d_Mod_cost_25 rfl (lv_at hl 1 rfl) ?_
          refine lv_iload_n hx hb d_Mod_cost_26 rfl (lv_at hl 2 rfl) ?_
          refine vp_callSi (va_Run.run (va_runV (As := [.int (nI n9), .int (nI y9)]) (rest := []) ⟨hx, hb, hml, hown, hts⟩ (c_Mod_costOf l (b := b) (N := (va_up N 14 (fun j => dm_ph (dm_run (ru_M N S t9) 300 (fun _ => 1000) j)))) (S := S) (v9 := (me_V N S t9)) hM5 (by omega) (by omega) rfl (me_V_le _ _ _)) (cwV 2 hts (gW_in (hd := [_, _, _, _, _]) (kk_5 wd_637 wd_639 sl_Mod_costOf wd_8 cw_Mod_costOf)) rfl rfl rfl ⟨rfl, ds_Mod_costOf⟩ ⟨Nat.le_of_ble_eq_true rfl, Nat.le_of_ble_eq_true rfl⟩) (kk_preV hK hP hz hBz m5_0 rfl) rfl rfl hl.1 rfl (lv_room (Nat.le_of_ble_eq_true rfl)) d_Mod_cost_27 ⟨Nat.le_of_ble_eq_true rfl, Nat.le_of_ble_eq_true rfl⟩)) (fun r6 hr6 => ?_)
          subst hr6
          refine lv_istore hx hb d_Mod_cost_30 hl (by decide) rfl (fun ls hl => ?_)
          have hl : lv_has ls 5 [(4, .int (nI (dm_ph (dm_ofs (me_V N S t9) n9 y9)))), (0, .ref (b + 14)), (1, .int (nI n9)), (2, .int (nI y9)), (3, .int t9)] := hl
          refine lv_iload hx hb d_Mod_cost_32 (lv_at hl 0 rfl) ?_
          refine lv_sipush (v := nI 5000) hx hb d_Mod_cost_34 (by decide) ?_
          have hq1 := dm_ph_le (dm_ofs (me_V N S t9) n9 y9)
          have hq2 := dm_ofs_le (me_V_le N S t9) n9 y9
          refine lv_icmp_ne (tgt := 44) hx hb d_Mod_cost_37 (by decide) (fun cc7 => ?_) (fun cc7 => ?_)
          · have cc7 : ¬ (dm_ph (dm_ofs (me_V N S t9) n9 y9) = 5000) := fun q => cc7 ((nI_eq (by omega) (by omega)).mpr q)
            refine lv_iload hx hb d_Mod_cost_44 (lv_at hl 0 rfl) ?_
            exact W.iret hx hb hr (fun t ht hW => ⟨⟨_, (w5, sz), rfl, ⟨(by rw [co_r_pos hok (by omega) (by omega), if_neg (fun q => cc7 ((dm_ph_n hq2).mpr q)), dm_ph_id hq2 (fun q => cc7 ((dm_ph_n hq2).mpr q))]), (by rw [show co_N N S _ _ t9 = va_up N 14 (fun j => dm_ph (me_V N S t9 j)) from if_pos hok]; exact mo_mk m5_0 m5_1 m5_2 m5_3 m5_4 m5_5 m5_6 m5_7 m5_8 m5_9 m5_10 m5_11 m5_12 m5_13 m5_14 m5_15 m5_16), (fun j hj => hf5 j hj), rfl⟩, by rw [ht]; exact hP, by rw [ht]; exact hz⟩, hS.F ht⟩) hS.2.2 d_Mod_cost_46
          · have cc7 : dm_ph (dm_ofs (me_V N S t9) n9 y9) = 5000 := (nI_eq (by omega) (by omega)).mp cc7
            refine lv_iconst (v := (-1)) hx hb d_Mod_cost_40 (by decide) ?_
            refine lv_goto (tgt := 46) hx hb d_Mod_cost_41 (by decide) ?_
            exact W.iret hx hb hr (fun t ht hW => ⟨⟨_, (w5, sz), rfl, ⟨(by rw [co_r_pos hok (by omega) (by omega), if_pos ((dm_ph_n hq2).mp cc7)]), (by rw [show co_N N S _ _ t9 = va_up N 14 (fun j => dm_ph (me_V N S t9 j)) from if_pos hok]; exact mo_mk m5_0 m5_1 m5_2 m5_3 m5_4 m5_5 m5_6 m5_7 m5_8 m5_9 m5_10 m5_11 m5_12 m5_13 m5_14 m5_15 m5_16), (fun j hj => hf5 j hj), rfl⟩, by rw [ht]; exact hP, by rw [ht]; exact hz⟩, hS.F ht⟩) hS.2.2 d_Mod_cost_46
        · have cc4 : ¬ (y9 ≤ 7) := fun q => cc4 ((nI_leI (by omega) (by omega)).mpr q)
          exact absurd cc4 (by omega)
  · refine lv_iload_n hx hb d_Mod_cost_0 rfl (lv_at hl 1 rfl) ?_
    refine vp_callSi (va_Run.run (va_runS (As := [.int sr]) (rest := []) ⟨hx, hb, hml, hown, hts⟩ (c_Mod_isSubject l ) (va_cwS 1 hts (gW_in (hd := [_, _, _, _]) (kk_4 wd_577 wd_578 wd_8 cw_Mod_isSubject)) rfl rfl rfl ds_Mod_isSubject ⟨Nat.le_of_ble_eq_true rfl, Nat.le_of_ble_eq_true rfl⟩) (kk_preS hK hP hz hBz) rfl rfl hl.1 rfl (lv_room (Nat.le_of_ble_eq_true rfl)) d_Mod_cost_1 ⟨Nat.le_of_ble_eq_true rfl, Nat.le_of_ble_eq_true rfl⟩)) (fun r8 hr8 => ?_)
    subst hr8
    refine lv_if_eq (tgt := 17) hx hb d_Mod_cost_4 (by decide) (fun cc9 => ?_) (fun cc9 => ?_)
    · have cc9 := kk_b0 cc9
      refine lv_iconst (v := (-1)) hx hb d_Mod_cost_17 (by decide) ?_
      exact W.iret hx hb hr (fun t ht hW => ⟨⟨_, (w, sz), rfl, ⟨(if_neg hok).symm, (by rw [show co_N N S _ _ t9 = N from if_neg hok]; exact mo_mk m0 m1 m2 m3 m4 m5 m6 m7 m8 m9 m10 m11 m12 m13 m14 m15 m16), (fun j hj => rfl), rfl⟩, by rw [ht]; exact hP, by rw [ht]; exact hz⟩, hS.F ht⟩) hS.2.2 d_Mod_cost_18
    · have cc9 := kk_b1 cc9
      refine lv_iload_n hx hb d_Mod_cost_7 rfl (lv_at hl 2 rfl) ?_
      refine lv_if_lt (tgt := 17) hx hb d_Mod_cost_8 (by decide) (fun cc10 => ?_) (fun cc10 => ?_)
      · refine lv_iconst (v := (-1)) hx hb d_Mod_cost_17 (by decide) ?_
        exact W.iret hx hb hr (fun t ht hW => ⟨⟨_, (w, sz), rfl, ⟨(if_neg hok).symm, (by rw [show co_N N S _ _ t9 = N from if_neg hok]; exact mo_mk m0 m1 m2 m3 m4 m5 m6 m7 m8 m9 m10 m11 m12 m13 m14 m15 m16), (fun j hj => rfl), rfl⟩, by rw [ht]; exact hP, by rw [ht]; exact hz⟩, hS.F ht⟩) hS.2.2 d_Mod_cost_18
      · refine lv_iload_n hx hb d_Mod_cost_11 rfl (lv_at hl 2 rfl) ?_
        refine lv_bipush (v := nI 7) hx hb d_Mod_cost_12 (by decide) ?_
        refine lv_icmp_le (tgt := 19) hx hb d_Mod_cost_14 (by decide) (fun cc11 => ?_) (fun cc11 => ?_)
        · exact absurd ⟨cc9, cc10, fun q => (Int32.not_lt.mpr cc11) ((kk_gtm 7 8 rfl (by decide)).mpr q)⟩ hok
        · refine lv_iconst (v := (-1)) hx hb d_Mod_cost_17 (by decide) ?_
          exact W.iret hx hb hr (fun t ht hW => ⟨⟨_, (w, sz), rfl, ⟨(if_neg hok).symm, (by rw [show co_N N S _ _ t9 = N from if_neg hok]; exact mo_mk m0 m1 m2 m3 m4 m5 m6 m7 m8 m9 m10 m11 m12 m13 m14 m15 m16), (fun j hj => rfl), rfl⟩, by rw [ht]; exact hP, by rw [ht]; exact hz⟩, hS.F ht⟩) hS.2.2 d_Mod_cost_18
end
