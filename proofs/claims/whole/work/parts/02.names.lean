def n_X : String := "DelegationClosure"
def T_X : u_T := fun k => match k with
  | 0 => ("DelegationClosure", "register", "LDelegationClosure$Register;", true)
  | 1 => ("DelegationClosure", "meanings", "LDelegationClosure$Meanings;", true)
  | 2 => ("DelegationClosure", "leads", "LDelegationClosure$Leads;", true)
  | _ => ("DelegationClosure", "chain", "LDelegationClosure$Chain;", true)
def t_X : Nat → FieldType := fun k => match k with
  | 0 => (.object "DelegationClosure$Register")
  | 1 => (.object "DelegationClosure$Meanings")
  | 2 => (.object "DelegationClosure$Leads")
  | _ => (.object "DelegationClosure$Chain")
theorem nm_X : ∀ a, a < 4 → ∀ b, b < 4 → a ≠ b → (T_X a).2.1 ≠ (T_X b).2.1 := by decide +kernel
theorem ty_X : ∀ k, k < 4 → parseFieldDescriptor (T_X k).2.2.1 = some (t_X k) := by decide +kernel
def n_Reg : String := "DelegationClosure$Register"
def T_Reg : u_T := fun k => match k with
  | 0 => ("DelegationClosure$Register", "made", "[LDelegationClosure$Certificate;", true)
  | _ => ("DelegationClosure$Register", "size", "I", false)
def t_Reg : Nat → FieldType := fun k => match k with
  | 0 => (.array (.object "DelegationClosure$Certificate"))
  | _ => .int
theorem nm_Reg : ∀ a, a < 2 → ∀ b, b < 2 → a ≠ b → (T_Reg a).2.1 ≠ (T_Reg b).2.1 := by decide +kernel
theorem ty_Reg : ∀ k, k < 2 → parseFieldDescriptor (T_Reg k).2.2.1 = some (t_Reg k) := by decide +kernel
def n_Mea : String := "DelegationClosure$Meanings"
def T_Mea : u_T := fun k => match k with
  | _ => ("DelegationClosure$Meanings", "least", "[I", true)
def t_Mea : Nat → FieldType := fun k => match k with
  | _ => (.array .int)
theorem nm_Mea : ∀ a, a < 1 → ∀ b, b < 1 → a ≠ b → (T_Mea a).2.1 ≠ (T_Mea b).2.1 := by decide +kernel
theorem ty_Mea : ∀ k, k < 1 → parseFieldDescriptor (T_Mea k).2.2.1 = some (t_Mea k) := by decide +kernel
def n_Led : String := "DelegationClosure$Leads"
def T_Led : u_T := fun k => match k with
  | 0 => ("DelegationClosure$Leads", "counts", "[Z", true)
  | 1 => ("DelegationClosure$Leads", "least", "[I", true)
  | _ => ("DelegationClosure$Leads", "sorted", "[I", true)
def t_Led : Nat → FieldType := fun k => match k with
  | 0 => (.array .boolean)
  | 1 => (.array .int)
  | _ => (.array .int)
theorem nm_Led : ∀ a, a < 3 → ∀ b, b < 3 → a ≠ b → (T_Led a).2.1 ≠ (T_Led b).2.1 := by decide +kernel
theorem ty_Led : ∀ k, k < 3 → parseFieldDescriptor (T_Led k).2.2.1 = some (t_Led k) := by decide +kernel
def n_Chn : String := "DelegationClosure$Chain"
def T_Chn : u_T := fun k => match k with
  | 0 => ("DelegationClosure$Chain", "key", "I", false)
  | 1 => ("DelegationClosure$Chain", "names", "[I", true)
  | 2 => ("DelegationClosure$Chain", "size", "I", false)
  | 3 => ("DelegationClosure$Chain", "tag", "LDelegationClosure$Tag;", true)
  | 4 => ("DelegationClosure$Chain", "times", "LDelegationClosure$Span;", true)
  | 5 => ("DelegationClosure$Chain", "used", "I", false)
  | _ => ("DelegationClosure$Chain", "delegates", "Z", false)
def t_Chn : Nat → FieldType := fun k => match k with
  | 0 => .int
  | 1 => (.array .int)
  | 2 => .int
  | 3 => (.object "DelegationClosure$Tag")
  | 4 => (.object "DelegationClosure$Span")
  | 5 => .int
  | _ => .boolean
theorem nm_Chn : ∀ a, a < 7 → ∀ b, b < 7 → a ≠ b → (T_Chn a).2.1 ≠ (T_Chn b).2.1 := by decide +kernel
theorem ty_Chn : ∀ k, k < 7 → parseFieldDescriptor (T_Chn k).2.2.1 = some (t_Chn k) := by decide +kernel
def n_Tag : String := "DelegationClosure$Tag"
def T_Tag : u_T := fun k => match k with
  | 0 => ("DelegationClosure$Tag", "operations", "I", false)
  | _ => ("DelegationClosure$Tag", "numbers", "LDelegationClosure$Span;", true)
def t_Tag : Nat → FieldType := fun k => match k with
  | 0 => .int
  | _ => (.object "DelegationClosure$Span")
theorem nm_Tag : ∀ a, a < 2 → ∀ b, b < 2 → a ≠ b → (T_Tag a).2.1 ≠ (T_Tag b).2.1 := by decide +kernel
theorem ty_Tag : ∀ k, k < 2 → parseFieldDescriptor (T_Tag k).2.2.1 = some (t_Tag k) := by decide +kernel
def n_Spn : String := "DelegationClosure$Span"
def T_Spn : u_T := fun k => match k with
  | 0 => ("DelegationClosure$Span", "low", "I", false)
  | _ => ("DelegationClosure$Span", "high", "I", false)
def t_Spn : Nat → FieldType := fun k => match k with
  | 0 => .int
  | _ => .int
theorem nm_Spn : ∀ a, a < 2 → ∀ b, b < 2 → a ≠ b → (T_Spn a).2.1 ≠ (T_Spn b).2.1 := by decide +kernel
theorem ty_Spn : ∀ k, k < 2 → parseFieldDescriptor (T_Spn k).2.2.1 = some (t_Spn k) := by decide +kernel
def n_Nam : String := "DelegationClosure$Naming"
def T_Nam : u_T := fun k => match k with
  | 0 => ("DelegationClosure$Certificate", "issuer", "I", true)
  | 1 => ("DelegationClosure$Certificate", "times", "LDelegationClosure$Span;", true)
  | 2 => ("DelegationClosure$Certificate", "revoked", "Z", false)
  | 3 => ("DelegationClosure$Naming", "name", "I", true)
  | _ => ("DelegationClosure$Naming", "subject", "I", true)
def t_Nam : Nat → FieldType := fun k => match k with
  | 0 => .int
  | 1 => (.object "DelegationClosure$Span")
  | 2 => .boolean
  | 3 => .int
  | _ => .int
theorem nm_Nam : ∀ a, a < 5 → ∀ b, b < 5 → a ≠ b → (T_Nam a).2.1 ≠ (T_Nam b).2.1 := by decide +kernel
theorem ty_Nam : ∀ k, k < 5 → parseFieldDescriptor (T_Nam k).2.2.1 = some (t_Nam k) := by decide +kernel
def n_Prm : String := "DelegationClosure$Permission"
def T_Prm : u_T := fun k => match k with
  | 0 => ("DelegationClosure$Certificate", "issuer", "I", true)
  | 1 => ("DelegationClosure$Certificate", "times", "LDelegationClosure$Span;", true)
  | 2 => ("DelegationClosure$Certificate", "revoked", "Z", false)
  | 3 => ("DelegationClosure$Permission", "subjects", "[I", true)
  | 4 => ("DelegationClosure$Permission", "tag", "LDelegationClosure$Tag;", true)
  | 5 => ("DelegationClosure$Permission", "delegates", "Z", true)
  | 6 => ("DelegationClosure$Permission", "size", "I", false)
  | _ => ("DelegationClosure$Permission", "quorum", "I", false)
def t_Prm : Nat → FieldType := fun k => match k with
  | 0 => .int
  | 1 => (.object "DelegationClosure$Span")
  | 2 => .boolean
  | 3 => (.array .int)
  | 4 => (.object "DelegationClosure$Tag")
  | 5 => .boolean
  | 6 => .int
  | _ => .int
theorem nm_Prm : ∀ a, a < 8 → ∀ b, b < 8 → a ≠ b → (T_Prm a).2.1 ≠ (T_Prm b).2.1 := by decide +kernel
theorem ty_Prm : ∀ k, k < 8 → parseFieldDescriptor (T_Prm k).2.2.1 = some (t_Prm k) := by decide +kernel
def n_Mod : String := "DelegationClosureModel"
def T_Mod : u_T := fun k => match k with
  | 0 => ("DelegationClosureModel", "made", "I", false)
  | 1 => ("DelegationClosureModel", "gone", "[Z", false)
  | 2 => ("DelegationClosureModel", "names", "[Z", false)
  | 3 => ("DelegationClosureModel", "issuer", "[I", false)
  | 4 => ("DelegationClosureModel", "named", "[I", false)
  | 5 => ("DelegationClosureModel", "from", "[I", false)
  | 6 => ("DelegationClosureModel", "to", "[I", false)
  | 7 => ("DelegationClosureModel", "subjects", "[I", false)
  | 8 => ("DelegationClosureModel", "many", "[I", false)
  | 9 => ("DelegationClosureModel", "needed", "[I", false)
  | 10 => ("DelegationClosureModel", "operations", "[I", false)
  | 11 => ("DelegationClosureModel", "low", "[I", false)
  | 12 => ("DelegationClosureModel", "high", "[I", false)
  | 13 => ("DelegationClosureModel", "passes", "[Z", false)
  | 14 => ("DelegationClosureModel", "means", "[I", false)
  | 15 => ("DelegationClosureModel", "leads", "[I", false)
  | 16 => ("DelegationClosureModel", "chain", "Z", false)
  | 17 => ("DelegationClosureModel", "chainKey", "I", false)
  | 18 => ("DelegationClosureModel", "chainNames", "I", false)
  | 19 => ("DelegationClosureModel", "chainName", "[I", false)
  | 20 => ("DelegationClosureModel", "chainOperations", "I", false)
  | 21 => ("DelegationClosureModel", "chainLow", "I", false)
  | 22 => ("DelegationClosureModel", "chainHigh", "I", false)
  | 23 => ("DelegationClosureModel", "chainFrom", "I", false)
  | 24 => ("DelegationClosureModel", "chainTo", "I", false)
  | 25 => ("DelegationClosureModel", "chainUsed", "I", false)
  | _ => ("DelegationClosureModel", "chainPasses", "Z", false)
def t_Mod : Nat → FieldType := fun k => match k with
  | 0 => .int
  | 1 => (.array .boolean)
  | 2 => (.array .boolean)
  | 3 => (.array .int)
  | 4 => (.array .int)
  | 5 => (.array .int)
  | 6 => (.array .int)
  | 7 => (.array .int)
  | 8 => (.array .int)
  | 9 => (.array .int)
  | 10 => (.array .int)
  | 11 => (.array .int)
  | 12 => (.array .int)
  | 13 => (.array .boolean)
  | 14 => (.array .int)
  | 15 => (.array .int)
  | 16 => .boolean
  | 17 => .int
  | 18 => .int
  | 19 => (.array .int)
  | 20 => .int
  | 21 => .int
  | 22 => .int
  | 23 => .int
  | 24 => .int
  | 25 => .int
  | _ => .boolean
theorem nm_Mod : ∀ a, a < 27 → ∀ b, b < 27 → a ≠ b → (T_Mod a).2.1 ≠ (T_Mod b).2.1 := by decide +kernel
theorem ty_Mod : ∀ k, k < 27 → parseFieldDescriptor (T_Mod k).2.2.1 = some (t_Mod k) := by decide +kernel
abbrev kc : List vw_C := [(n_X, T_X, 4), (n_Reg, T_Reg, 2), (n_Mea, T_Mea, 1), (n_Led, T_Led, 3), (n_Chn, T_Chn, 7), (n_Tag, T_Tag, 2), (n_Spn, T_Spn, 2), (n_Nam, T_Nam, 5), (n_Prm, T_Prm, 8), (n_Mod, T_Mod, 27)]
/-- all words that every method may use -/
def gW : List Cond := lw_tbl.filter goodWord
theorem gW_t {w : Cond} (i : Nat) (h : tables_1[i]? = some w) (hg : goodWord w = true) : w ∈ gW := List.mem_filter.mpr ⟨List.mem_append_right _ (List.mem_of_getElem? h), hg⟩
theorem gW_s {w : Cond} (i : Nat) (h : (k2_sels lw_privs)[i]? = some w) (hg : goodWord w = true) : w ∈ gW := List.mem_filter.mpr ⟨List.mem_append_left _ (List.mem_of_getElem? h), hg⟩
theorem gW_in {c : Cond} {hd : List Cond} (h : ∀ w, w ∈ hd → w ∈ gW) : GoodIn (c :: gW) (hd ++ gW) := fun w hw => by
  have h1 : w ∈ gW := (List.mem_append.mp hw).elim (h w) id
  exact ⟨List.mem_cons_of_mem _ h1, good_of_word (List.mem_filter.mp h1).2⟩
theorem def_X : ∀ j, j < 4 → defaultValue (t_X j) = vp_V [.null, .null, .null, .null] j := by
  intro j hj
  rcases (show j = 0 ∨ j = 1 ∨ j = 2 ∨ j = 3 by omega) with rfl | rfl | rfl | rfl <;> rfl
theorem def_Reg : ∀ j, j < 2 → defaultValue (t_Reg j) = vp_V [.null, .int 0] j := by
  intro j hj
  rcases (show j = 0 ∨ j = 1 by omega) with rfl | rfl <;> rfl
theorem def_Mea : ∀ j, j < 1 → defaultValue (t_Mea j) = vp_V [.null] j := by
  intro j hj
  rcases (show j = 0 by omega) with rfl <;> rfl
theorem def_Led : ∀ j, j < 3 → defaultValue (t_Led j) = vp_V [.null, .null, .null] j := by
  intro j hj
  rcases (show j = 0 ∨ j = 1 ∨ j = 2 by omega) with rfl | rfl | rfl <;> rfl
theorem def_Chn : ∀ j, j < 7 → defaultValue (t_Chn j) = vp_V [.int 0, .null, .int 0, .null, .null, .int 0, .int 0] j := by
  intro j hj
  rcases (show j = 0 ∨ j = 1 ∨ j = 2 ∨ j = 3 ∨ j = 4 ∨ j = 5 ∨ j = 6 by omega) with rfl | rfl | rfl | rfl | rfl | rfl | rfl <;> rfl
theorem def_Tag : ∀ j, j < 2 → defaultValue (t_Tag j) = vp_V [.int 0, .null] j := by
  intro j hj
  rcases (show j = 0 ∨ j = 1 by omega) with rfl | rfl <;> rfl
theorem def_Spn : ∀ j, j < 2 → defaultValue (t_Spn j) = vp_V [.int 0, .int 0] j := by
  intro j hj
  rcases (show j = 0 ∨ j = 1 by omega) with rfl | rfl <;> rfl
theorem def_Nam : ∀ j, j < 5 → defaultValue (t_Nam j) = vp_V [.int 0, .null, .int 0, .int 0, .int 0] j := by
  intro j hj
  rcases (show j = 0 ∨ j = 1 ∨ j = 2 ∨ j = 3 ∨ j = 4 by omega) with rfl | rfl | rfl | rfl | rfl <;> rfl
theorem def_Prm : ∀ j, j < 8 → defaultValue (t_Prm j) = vp_V [.int 0, .null, .int 0, .null, .null, .int 0, .int 0, .int 0] j := by
  intro j hj
  rcases (show j = 0 ∨ j = 1 ∨ j = 2 ∨ j = 3 ∨ j = 4 ∨ j = 5 ∨ j = 6 ∨ j = 7 by omega) with rfl | rfl | rfl | rfl | rfl | rfl | rfl | rfl <;> rfl
theorem def_Mod : ∀ j, j < 27 → defaultValue (t_Mod j) = vp_V [.int 0, .null, .null, .null, .null, .null, .null, .null, .null, .null, .null, .null, .null, .null, .null, .null, .int 0, .int 0, .int 0, .null, .int 0, .int 0, .int 0, .int 0, .int 0, .int 0, .int 0] j := by
  intro j hj
  rcases (show j = 0 ∨ j = 1 ∨ j = 2 ∨ j = 3 ∨ j = 4 ∨ j = 5 ∨ j = 6 ∨ j = 7 ∨ j = 8 ∨ j = 9 ∨ j = 10 ∨ j = 11 ∨ j = 12 ∨ j = 13 ∨ j = 14 ∨ j = 15 ∨ j = 16 ∨ j = 17 ∨ j = 18 ∨ j = 19 ∨ j = 20 ∨ j = 21 ∨ j = 22 ∨ j = 23 ∨ j = 24 ∨ j = 25 ∨ j = 26 by omega) with rfl | rfl | rfl | rfl | rfl | rfl | rfl | rfl | rfl | rfl | rfl | rfl | rfl | rfl | rfl | rfl | rfl | rfl | rfl | rfl | rfl | rfl | rfl | rfl | rfl | rfl | rfl <;> rfl
abbrev k_X_init : ByteArray := prog_1_method_1_code
def y_X_init : MethodName := ⟨"DelegationClosure", "<init>", "()V"⟩
def ws_X_init : List Cond := .code y_X_init k_X_init 1 none :: gW
theorem ds_X_init : y_X_init.cls ≠ "java/lang/invoke/MethodHandle" ∧ y_X_init.cls ≠ "java/lang/invoke/VarHandle" ∧ (parseMethodDescriptor y_X_init.desc).map (fun d => d.parameters.length) = some 0 := by decide +kernel
abbrev k_Obj_init : ByteArray := object_method_1_code
def y_Obj_init : MethodName := ⟨"java/lang/Object", "<init>", "()V"⟩
def ws_Obj_init : List Cond := .code y_Obj_init k_Obj_init 1 none :: gW
theorem ds_Obj_init : y_Obj_init.cls ≠ "java/lang/invoke/MethodHandle" ∧ y_Obj_init.cls ≠ "java/lang/invoke/VarHandle" ∧ (parseMethodDescriptor y_Obj_init.desc).map (fun d => d.parameters.length) = some 0 := by decide +kernel
abbrev k_Reg_init : ByteArray := prog_8_method_1_code
def y_Reg_init : MethodName := ⟨"DelegationClosure$Register", "<init>", "()V"⟩
def ws_Reg_init : List Cond := .code y_Reg_init k_Reg_init 1 none :: gW
theorem ds_Reg_init : y_Reg_init.cls ≠ "java/lang/invoke/MethodHandle" ∧ y_Reg_init.cls ≠ "java/lang/invoke/VarHandle" ∧ (parseMethodDescriptor y_Reg_init.desc).map (fun d => d.parameters.length) = some 0 := by decide +kernel
abbrev k_Mea_init : ByteArray := prog_5_method_1_code
def y_Mea_init : MethodName := ⟨"DelegationClosure$Meanings", "<init>", "()V"⟩
def ws_Mea_init : List Cond := .code y_Mea_init k_Mea_init 1 none :: gW
theorem ds_Mea_init : y_Mea_init.cls ≠ "java/lang/invoke/MethodHandle" ∧ y_Mea_init.cls ≠ "java/lang/invoke/VarHandle" ∧ (parseMethodDescriptor y_Mea_init.desc).map (fun d => d.parameters.length) = some 0 := by decide +kernel
abbrev k_Led_init : ByteArray := prog_4_method_1_code
def y_Led_init : MethodName := ⟨"DelegationClosure$Leads", "<init>", "()V"⟩
def ws_Led_init : List Cond := .code y_Led_init k_Led_init 1 none :: gW
theorem ds_Led_init : y_Led_init.cls ≠ "java/lang/invoke/MethodHandle" ∧ y_Led_init.cls ≠ "java/lang/invoke/VarHandle" ∧ (parseMethodDescriptor y_Led_init.desc).map (fun d => d.parameters.length) = some 0 := by decide +kernel
abbrev k_Chn_init : ByteArray := prog_3_method_1_code
def y_Chn_init : MethodName := ⟨"DelegationClosure$Chain", "<init>", "()V"⟩
def ws_Chn_init : List Cond := .code y_Chn_init k_Chn_init 1 none :: gW
theorem ds_Chn_init : y_Chn_init.cls ≠ "java/lang/invoke/MethodHandle" ∧ y_Chn_init.cls ≠ "java/lang/invoke/VarHandle" ∧ (parseMethodDescriptor y_Chn_init.desc).map (fun d => d.parameters.length) = some 0 := by decide +kernel
abbrev k_Tag_init : ByteArray := prog_10_method_1_code
def y_Tag_init : MethodName := ⟨"DelegationClosure$Tag", "<init>", "()V"⟩
def ws_Tag_init : List Cond := .code y_Tag_init k_Tag_init 1 none :: gW
theorem ds_Tag_init : y_Tag_init.cls ≠ "java/lang/invoke/MethodHandle" ∧ y_Tag_init.cls ≠ "java/lang/invoke/VarHandle" ∧ (parseMethodDescriptor y_Tag_init.desc).map (fun d => d.parameters.length) = some 0 := by decide +kernel
abbrev k_Spn_init : ByteArray := prog_9_method_1_code
def y_Spn_init : MethodName := ⟨"DelegationClosure$Span", "<init>", "(II)V"⟩
def ws_Spn_init : List Cond := .code y_Spn_init k_Spn_init 3 none :: gW
theorem ds_Spn_init : y_Spn_init.cls ≠ "java/lang/invoke/MethodHandle" ∧ y_Spn_init.cls ≠ "java/lang/invoke/VarHandle" ∧ (parseMethodDescriptor y_Spn_init.desc).map (fun d => d.parameters.length) = some 2 := by decide +kernel
abbrev k_X_name : ByteArray := prog_1_method_2_code
def y_X_name : MethodName := ⟨"DelegationClosure", "name", "(IIIII)I"⟩
def ws_X_name : List Cond := .code y_X_name k_X_name 7 (some .int) :: gW
theorem ds_X_name : y_X_name.cls ≠ "java/lang/invoke/MethodHandle" ∧ y_X_name.cls ≠ "java/lang/invoke/VarHandle" ∧ (parseMethodDescriptor y_X_name.desc).map (fun d => d.parameters.length) = some 5 := by decide +kernel
abbrev k_X_isKey : ByteArray := prog_1_method_20_code
def y_X_isKey : MethodName := ⟨"DelegationClosure", "isKey", "(I)Z"⟩
def ws_X_isKey : List Cond := .code y_X_isKey k_X_isKey 1 (some .boolean) :: gW
theorem ds_X_isKey : y_X_isKey.cls ≠ "java/lang/invoke/MethodHandle" ∧ y_X_isKey.cls ≠ "java/lang/invoke/VarHandle" ∧ (parseMethodDescriptor y_X_isKey.desc).map (fun d => d.parameters.length) = some 1 := by decide +kernel
abbrev k_X_isSubject : ByteArray := prog_1_method_22_code
def y_X_isSubject : MethodName := ⟨"DelegationClosure", "isSubject", "(I)Z"⟩
def ws_X_isSubject : List Cond := .code y_X_isSubject k_X_isSubject 1 (some .boolean) :: gW
theorem ds_X_isSubject : y_X_isSubject.cls ≠ "java/lang/invoke/MethodHandle" ∧ y_X_isSubject.cls ≠ "java/lang/invoke/VarHandle" ∧ (parseMethodDescriptor y_X_isSubject.desc).map (fun d => d.parameters.length) = some 1 := by decide +kernel
abbrev k_X_firstNameOf : ByteArray := prog_1_method_24_code
def y_X_firstNameOf : MethodName := ⟨"DelegationClosure", "firstNameOf", "(I)I"⟩
def ws_X_firstNameOf : List Cond := .code y_X_firstNameOf k_X_firstNameOf 1 (some .int) :: gW
theorem ds_X_firstNameOf : y_X_firstNameOf.cls ≠ "java/lang/invoke/MethodHandle" ∧ y_X_firstNameOf.cls ≠ "java/lang/invoke/VarHandle" ∧ (parseMethodDescriptor y_X_firstNameOf.desc).map (fun d => d.parameters.length) = some 1 := by decide +kernel
abbrev k_X_secondNameOf : ByteArray := prog_1_method_25_code
def y_X_secondNameOf : MethodName := ⟨"DelegationClosure", "secondNameOf", "(I)I"⟩
def ws_X_secondNameOf : List Cond := .code y_X_secondNameOf k_X_secondNameOf 1 (some .int) :: gW
theorem ds_X_secondNameOf : y_X_secondNameOf.cls ≠ "java/lang/invoke/MethodHandle" ∧ y_X_secondNameOf.cls ≠ "java/lang/invoke/VarHandle" ∧ (parseMethodDescriptor y_X_secondNameOf.desc).map (fun d => d.parameters.length) = some 1 := by decide +kernel
abbrev k_Reg_isFull : ByteArray := prog_8_method_2_code
def y_Reg_isFull : MethodName := ⟨"DelegationClosure$Register", "isFull", "()Z"⟩
def ws_Reg_isFull : List Cond := .code y_Reg_isFull k_Reg_isFull 1 (some .boolean) :: gW
theorem ds_Reg_isFull : y_Reg_isFull.cls ≠ "java/lang/invoke/MethodHandle" ∧ y_Reg_isFull.cls ≠ "java/lang/invoke/VarHandle" ∧ (parseMethodDescriptor y_Reg_isFull.desc).map (fun d => d.parameters.length) = some 0 := by decide +kernel
abbrev k_Nam_init : ByteArray := prog_6_method_1_code
def y_Nam_init : MethodName := ⟨"DelegationClosure$Naming", "<init>", "(IIIII)V"⟩
def ws_Nam_init : List Cond := .code y_Nam_init k_Nam_init 6 none :: gW
theorem ds_Nam_init : y_Nam_init.cls ≠ "java/lang/invoke/MethodHandle" ∧ y_Nam_init.cls ≠ "java/lang/invoke/VarHandle" ∧ (parseMethodDescriptor y_Nam_init.desc).map (fun d => d.parameters.length) = some 5 := by decide +kernel
abbrev k_Cer_init : ByteArray := prog_2_method_1_code
def y_Cer_init : MethodName := ⟨"DelegationClosure$Certificate", "<init>", "(III)V"⟩
def ws_Cer_init : List Cond := .code y_Cer_init k_Cer_init 4 none :: gW
theorem ds_Cer_init : y_Cer_init.cls ≠ "java/lang/invoke/MethodHandle" ∧ y_Cer_init.cls ≠ "java/lang/invoke/VarHandle" ∧ (parseMethodDescriptor y_Cer_init.desc).map (fun d => d.parameters.length) = some 3 := by decide +kernel
abbrev k_Reg_add : ByteArray := prog_8_method_3_code
def y_Reg_add : MethodName := ⟨"DelegationClosure$Register", "add", "(LDelegationClosure$Certificate;)I"⟩
def ws_Reg_add : List Cond := .code y_Reg_add k_Reg_add 2 (some .int) :: gW
theorem ds_Reg_add : y_Reg_add.cls ≠ "java/lang/invoke/MethodHandle" ∧ y_Reg_add.cls ≠ "java/lang/invoke/VarHandle" ∧ (parseMethodDescriptor y_Reg_add.desc).map (fun d => d.parameters.length) = some 1 := by decide +kernel
abbrev k_X_permit : ByteArray := prog_1_method_3_code
def y_X_permit : MethodName := ⟨"DelegationClosure", "permit", "(IIZII)I"⟩
def ws_X_permit : List Cond := .code y_X_permit k_X_permit 7 (some .int) :: gW
theorem ds_X_permit : y_X_permit.cls ≠ "java/lang/invoke/MethodHandle" ∧ y_X_permit.cls ≠ "java/lang/invoke/VarHandle" ∧ (parseMethodDescriptor y_X_permit.desc).map (fun d => d.parameters.length) = some 5 := by decide +kernel
abbrev k_Prm_init : ByteArray := prog_7_method_1_code
def y_Prm_init : MethodName := ⟨"DelegationClosure$Permission", "<init>", "(IIZII)V"⟩
def ws_Prm_init : List Cond := .code y_Prm_init k_Prm_init 6 none :: gW
theorem ds_Prm_init : y_Prm_init.cls ≠ "java/lang/invoke/MethodHandle" ∧ y_Prm_init.cls ≠ "java/lang/invoke/VarHandle" ∧ (parseMethodDescriptor y_Prm_init.desc).map (fun d => d.parameters.length) = some 5 := by decide +kernel
abbrev k_X_tag : ByteArray := prog_1_method_4_code
def y_X_tag : MethodName := ⟨"DelegationClosure", "tag", "(IIII)Z"⟩
def ws_X_tag : List Cond := .code y_X_tag k_X_tag 6 (some .boolean) :: gW
theorem ds_X_tag : y_X_tag.cls ≠ "java/lang/invoke/MethodHandle" ∧ y_X_tag.cls ≠ "java/lang/invoke/VarHandle" ∧ (parseMethodDescriptor y_X_tag.desc).map (fun d => d.parameters.length) = some 4 := by decide +kernel
abbrev k_Reg_permission : ByteArray := prog_8_method_5_code
def y_Reg_permission : MethodName := ⟨"DelegationClosure$Register", "permission", "(I)LDelegationClosure$Permission;"⟩
def ws_Reg_permission : List Cond := .code y_Reg_permission k_Reg_permission 4 (some (.object "DelegationClosure$Permission")) :: gW
theorem ds_Reg_permission : y_Reg_permission.cls ≠ "java/lang/invoke/MethodHandle" ∧ y_Reg_permission.cls ≠ "java/lang/invoke/VarHandle" ∧ (parseMethodDescriptor y_Reg_permission.desc).map (fun d => d.parameters.length) = some 1 := by decide +kernel
abbrev k_Reg_standing : ByteArray := prog_8_method_4_code
def y_Reg_standing : MethodName := ⟨"DelegationClosure$Register", "standing", "(I)LDelegationClosure$Certificate;"⟩
def ws_Reg_standing : List Cond := .code y_Reg_standing k_Reg_standing 3 (some (.object "DelegationClosure$Certificate")) :: gW
theorem ds_Reg_standing : y_Reg_standing.cls ≠ "java/lang/invoke/MethodHandle" ∧ y_Reg_standing.cls ≠ "java/lang/invoke/VarHandle" ∧ (parseMethodDescriptor y_Reg_standing.desc).map (fun d => d.parameters.length) = some 1 := by decide +kernel
abbrev k_Tag_set : ByteArray := prog_10_method_3_code
def y_Tag_set : MethodName := ⟨"DelegationClosure$Tag", "set", "(III)V"⟩
def ws_Tag_set : List Cond := .code y_Tag_set k_Tag_set 4 none :: gW
theorem ds_Tag_set : y_Tag_set.cls ≠ "java/lang/invoke/MethodHandle" ∧ y_Tag_set.cls ≠ "java/lang/invoke/VarHandle" ∧ (parseMethodDescriptor y_Tag_set.desc).map (fun d => d.parameters.length) = some 3 := by decide +kernel
abbrev k_Spn_set : ByteArray := prog_9_method_3_code
def y_Spn_set : MethodName := ⟨"DelegationClosure$Span", "set", "(II)V"⟩
def ws_Spn_set : List Cond := .code y_Spn_set k_Spn_set 3 none :: gW
theorem ds_Spn_set : y_Spn_set.cls ≠ "java/lang/invoke/MethodHandle" ∧ y_Spn_set.cls ≠ "java/lang/invoke/VarHandle" ∧ (parseMethodDescriptor y_Spn_set.desc).map (fun d => d.parameters.length) = some 2 := by decide +kernel
abbrev k_X_also : ByteArray := prog_1_method_5_code
def y_X_also : MethodName := ⟨"DelegationClosure", "also", "(II)I"⟩
def ws_X_also : List Cond := .code y_X_also k_X_also 4 (some .int) :: gW
theorem ds_X_also : y_X_also.cls ≠ "java/lang/invoke/MethodHandle" ∧ y_X_also.cls ≠ "java/lang/invoke/VarHandle" ∧ (parseMethodDescriptor y_X_also.desc).map (fun d => d.parameters.length) = some 2 := by decide +kernel
abbrev k_Prm_addSubject : ByteArray := prog_7_method_2_code
def y_Prm_addSubject : MethodName := ⟨"DelegationClosure$Permission", "addSubject", "(I)V"⟩
def ws_Prm_addSubject : List Cond := .code y_Prm_addSubject k_Prm_addSubject 2 none :: gW
theorem ds_Prm_addSubject : y_Prm_addSubject.cls ≠ "java/lang/invoke/MethodHandle" ∧ y_Prm_addSubject.cls ≠ "java/lang/invoke/VarHandle" ∧ (parseMethodDescriptor y_Prm_addSubject.desc).map (fun d => d.parameters.length) = some 1 := by decide +kernel
abbrev k_X_quorum : ByteArray := prog_1_method_6_code
def y_X_quorum : MethodName := ⟨"DelegationClosure", "quorum", "(II)Z"⟩
def ws_X_quorum : List Cond := .code y_X_quorum k_X_quorum 4 (some .boolean) :: gW
theorem ds_X_quorum : y_X_quorum.cls ≠ "java/lang/invoke/MethodHandle" ∧ y_X_quorum.cls ≠ "java/lang/invoke/VarHandle" ∧ (parseMethodDescriptor y_X_quorum.desc).map (fun d => d.parameters.length) = some 2 := by decide +kernel
abbrev k_X_revoke : ByteArray := prog_1_method_7_code
def y_X_revoke : MethodName := ⟨"DelegationClosure", "revoke", "(I)Z"⟩
def ws_X_revoke : List Cond := .code y_X_revoke k_X_revoke 3 (some .boolean) :: gW
theorem ds_X_revoke : y_X_revoke.cls ≠ "java/lang/invoke/MethodHandle" ∧ y_X_revoke.cls ≠ "java/lang/invoke/VarHandle" ∧ (parseMethodDescriptor y_X_revoke.desc).map (fun d => d.parameters.length) = some 1 := by decide +kernel
abbrev k_X_certificates : ByteArray := prog_1_method_8_code
def y_X_certificates : MethodName := ⟨"DelegationClosure", "certificates", "()I"⟩
def ws_X_certificates : List Cond := .code y_X_certificates k_X_certificates 1 (some .int) :: gW
theorem ds_X_certificates : y_X_certificates.cls ≠ "java/lang/invoke/MethodHandle" ∧ y_X_certificates.cls ≠ "java/lang/invoke/VarHandle" ∧ (parseMethodDescriptor y_X_certificates.desc).map (fun d => d.parameters.length) = some 0 := by decide +kernel
abbrev k_X_meant : ByteArray := prog_1_method_9_code
def y_X_meant : MethodName := ⟨"DelegationClosure", "meant", "(II)I"⟩
def ws_X_meant : List Cond := .code y_X_meant k_X_meant 5 (some .int) :: gW
theorem ds_X_meant : y_X_meant.cls ≠ "java/lang/invoke/MethodHandle" ∧ y_X_meant.cls ≠ "java/lang/invoke/VarHandle" ∧ (parseMethodDescriptor y_X_meant.desc).map (fun d => d.parameters.length) = some 2 := by decide +kernel
abbrev k_Mea_workOut : ByteArray := prog_5_method_2_code
def y_Mea_workOut : MethodName := ⟨"DelegationClosure$Meanings", "workOut", "(LDelegationClosure$Register;I)V"⟩
def ws_Mea_workOut : List Cond := .code y_Mea_workOut k_Mea_workOut 5 none :: gW
theorem ds_Mea_workOut : y_Mea_workOut.cls ≠ "java/lang/invoke/MethodHandle" ∧ y_Mea_workOut.cls ≠ "java/lang/invoke/VarHandle" ∧ (parseMethodDescriptor y_Mea_workOut.desc).map (fun d => d.parameters.length) = some 2 := by decide +kernel
abbrev k_Arr_fill : ByteArray := prog_15_method_103_code
def y_Arr_fill : MethodName := ⟨"java/util/Arrays", "fill", "([II)V"⟩
def ws_Arr_fill : List Cond := .code y_Arr_fill k_Arr_fill 4 none :: gW
theorem ds_Arr_fill : y_Arr_fill.cls ≠ "java/lang/invoke/MethodHandle" ∧ y_Arr_fill.cls ≠ "java/lang/invoke/VarHandle" ∧ (parseMethodDescriptor y_Arr_fill.desc).map (fun d => d.parameters.length) = some 2 := by decide +kernel
abbrev k_Mea_improve : ByteArray := prog_5_method_3_code
def y_Mea_improve : MethodName := ⟨"DelegationClosure$Meanings", "improve", "(LDelegationClosure$Register;I)Z"⟩
def ws_Mea_improve : List Cond := .code y_Mea_improve k_Mea_improve 7 (some .boolean) :: gW
theorem ds_Mea_improve : y_Mea_improve.cls ≠ "java/lang/invoke/MethodHandle" ∧ y_Mea_improve.cls ≠ "java/lang/invoke/VarHandle" ∧ (parseMethodDescriptor y_Mea_improve.desc).map (fun d => d.parameters.length) = some 2 := by decide +kernel
abbrev k_Spn_contains : ByteArray := prog_9_method_2_code
def y_Spn_contains : MethodName := ⟨"DelegationClosure$Span", "contains", "(I)Z"⟩
def ws_Spn_contains : List Cond := .code y_Spn_contains k_Spn_contains 2 (some .boolean) :: gW
theorem ds_Spn_contains : y_Spn_contains.cls ≠ "java/lang/invoke/MethodHandle" ∧ y_Spn_contains.cls ≠ "java/lang/invoke/VarHandle" ∧ (parseMethodDescriptor y_Spn_contains.desc).map (fun d => d.parameters.length) = some 1 := by decide +kernel
abbrev k_Mea_improveBy : ByteArray := prog_5_method_4_code
def y_Mea_improveBy : MethodName := ⟨"DelegationClosure$Meanings", "improveBy", "(LDelegationClosure$Naming;)Z"⟩
def ws_Mea_improveBy : List Cond := .code y_Mea_improveBy k_Mea_improveBy 6 (some .boolean) :: gW
theorem ds_Mea_improveBy : y_Mea_improveBy.cls ≠ "java/lang/invoke/MethodHandle" ∧ y_Mea_improveBy.cls ≠ "java/lang/invoke/VarHandle" ∧ (parseMethodDescriptor y_Mea_improveBy.desc).map (fun d => d.parameters.length) = some 1 := by decide +kernel
abbrev k_Mea_placeOf : ByteArray := prog_5_method_6_code
def y_Mea_placeOf : MethodName := ⟨"DelegationClosure$Meanings", "placeOf", "(III)I"⟩
def ws_Mea_placeOf : List Cond := .code y_Mea_placeOf k_Mea_placeOf 3 (some .int) :: gW
theorem ds_Mea_placeOf : y_Mea_placeOf.cls ≠ "java/lang/invoke/MethodHandle" ∧ y_Mea_placeOf.cls ≠ "java/lang/invoke/VarHandle" ∧ (parseMethodDescriptor y_Mea_placeOf.desc).map (fun d => d.parameters.length) = some 3 := by decide +kernel
abbrev k_Mea_ofSubject : ByteArray := prog_5_method_5_code
def y_Mea_ofSubject : MethodName := ⟨"DelegationClosure$Meanings", "ofSubject", "(II)I"⟩
def ws_Mea_ofSubject : List Cond := .code y_Mea_ofSubject k_Mea_ofSubject 10 (some .int) :: gW
theorem ds_Mea_ofSubject : y_Mea_ofSubject.cls ≠ "java/lang/invoke/MethodHandle" ∧ y_Mea_ofSubject.cls ≠ "java/lang/invoke/VarHandle" ∧ (parseMethodDescriptor y_Mea_ofSubject.desc).map (fun d => d.parameters.length) = some 2 := by decide +kernel
abbrev k_X_keyOf : ByteArray := prog_1_method_23_code
def y_X_keyOf : MethodName := ⟨"DelegationClosure", "keyOf", "(I)I"⟩
def ws_X_keyOf : List Cond := .code y_X_keyOf k_X_keyOf 1 (some .int) :: gW
theorem ds_X_keyOf : y_X_keyOf.cls ≠ "java/lang/invoke/MethodHandle" ∧ y_X_keyOf.cls ≠ "java/lang/invoke/VarHandle" ∧ (parseMethodDescriptor y_X_keyOf.desc).map (fun d => d.parameters.length) = some 1 := by decide +kernel
abbrev k_X_sumOf : ByteArray := prog_1_method_27_code
def y_X_sumOf : MethodName := ⟨"DelegationClosure", "sumOf", "(II)I"⟩
def ws_X_sumOf : List Cond := .code y_X_sumOf k_X_sumOf 3 (some .int) :: gW
theorem ds_X_sumOf : y_X_sumOf.cls ≠ "java/lang/invoke/MethodHandle" ∧ y_X_sumOf.cls ≠ "java/lang/invoke/VarHandle" ∧ (parseMethodDescriptor y_X_sumOf.desc).map (fun d => d.parameters.length) = some 2 := by decide +kernel
abbrev k_Mat_min : ByteArray := prog_13_method_69_code
def y_Mat_min : MethodName := ⟨"java/lang/Math", "min", "(II)I"⟩
def ws_Mat_min : List Cond := .code y_Mat_min k_Mat_min 2 (some .int) :: gW
theorem ds_Mat_min : y_Mat_min.cls ≠ "java/lang/invoke/MethodHandle" ∧ y_Mat_min.cls ≠ "java/lang/invoke/VarHandle" ∧ (parseMethodDescriptor y_Mat_min.desc).map (fun d => d.parameters.length) = some 2 := by decide +kernel
abbrev k_X_cost : ByteArray := prog_1_method_10_code
def y_X_cost : MethodName := ⟨"DelegationClosure", "cost", "(III)I"⟩
def ws_X_cost : List Cond := .code y_X_cost k_X_cost 4 (some .int) :: gW
theorem ds_X_cost : y_X_cost.cls ≠ "java/lang/invoke/MethodHandle" ∧ y_X_cost.cls ≠ "java/lang/invoke/VarHandle" ∧ (parseMethodDescriptor y_X_cost.desc).map (fun d => d.parameters.length) = some 3 := by decide +kernel
abbrev k_X_costOrNone : ByteArray := prog_1_method_28_code
def y_X_costOrNone : MethodName := ⟨"DelegationClosure", "costOrNone", "(I)I"⟩
def ws_X_costOrNone : List Cond := .code y_X_costOrNone k_X_costOrNone 1 (some .int) :: gW
theorem ds_X_costOrNone : y_X_costOrNone.cls ≠ "java/lang/invoke/MethodHandle" ∧ y_X_costOrNone.cls ≠ "java/lang/invoke/VarHandle" ∧ (parseMethodDescriptor y_X_costOrNone.desc).map (fun d => d.parameters.length) = some 1 := by decide +kernel
abbrev k_X_may : ByteArray := prog_1_method_11_code
def y_X_may : MethodName := ⟨"DelegationClosure", "may", "(IIII)I"⟩
def ws_X_may : List Cond := .code y_X_may k_X_may 5 (some .int) :: gW
theorem ds_X_may : y_X_may.cls ≠ "java/lang/invoke/MethodHandle" ∧ y_X_may.cls ≠ "java/lang/invoke/VarHandle" ∧ (parseMethodDescriptor y_X_may.desc).map (fun d => d.parameters.length) = some 4 := by decide +kernel
abbrev k_X_isOperation : ByteArray := prog_1_method_21_code
def y_X_isOperation : MethodName := ⟨"DelegationClosure", "isOperation", "(I)Z"⟩
def ws_X_isOperation : List Cond := .code y_X_isOperation k_X_isOperation 1 (some .boolean) :: gW
theorem ds_X_isOperation : y_X_isOperation.cls ≠ "java/lang/invoke/MethodHandle" ∧ y_X_isOperation.cls ≠ "java/lang/invoke/VarHandle" ∧ (parseMethodDescriptor y_X_isOperation.desc).map (fun d => d.parameters.length) = some 1 := by decide +kernel
abbrev k_Led_mark : ByteArray := prog_4_method_2_code
def y_Led_mark : MethodName := ⟨"DelegationClosure$Leads", "mark", "(LDelegationClosure$Register;III)V"⟩
def ws_Led_mark : List Cond := .code y_Led_mark k_Led_mark 7 none :: gW
theorem ds_Led_mark : y_Led_mark.cls ≠ "java/lang/invoke/MethodHandle" ∧ y_Led_mark.cls ≠ "java/lang/invoke/VarHandle" ∧ (parseMethodDescriptor y_Led_mark.desc).map (fun d => d.parameters.length) = some 4 := by decide +kernel
abbrev k_Tag_contains : ByteArray := prog_10_method_2_code
def y_Tag_contains : MethodName := ⟨"DelegationClosure$Tag", "contains", "(II)Z"⟩
def ws_Tag_contains : List Cond := .code y_Tag_contains k_Tag_contains 3 (some .boolean) :: gW
theorem ds_Tag_contains : y_Tag_contains.cls ≠ "java/lang/invoke/MethodHandle" ∧ y_Tag_contains.cls ≠ "java/lang/invoke/VarHandle" ∧ (parseMethodDescriptor y_Tag_contains.desc).map (fun d => d.parameters.length) = some 2 := by decide +kernel
abbrev k_Led_fromOwner : ByteArray := prog_4_method_3_code
def y_Led_fromOwner : MethodName := ⟨"DelegationClosure$Leads", "fromOwner", "(LDelegationClosure$Register;LDelegationClosure$Meanings;I)I"⟩
def ws_Led_fromOwner : List Cond := .code y_Led_fromOwner k_Led_fromOwner 6 (some .int) :: gW
theorem ds_Led_fromOwner : y_Led_fromOwner.cls ≠ "java/lang/invoke/MethodHandle" ∧ y_Led_fromOwner.cls ≠ "java/lang/invoke/VarHandle" ∧ (parseMethodDescriptor y_Led_fromOwner.desc).map (fun d => d.parameters.length) = some 3 := by decide +kernel
abbrev k_Led_improve : ByteArray := prog_4_method_4_code
def y_Led_improve : MethodName := ⟨"DelegationClosure$Leads", "improve", "(LDelegationClosure$Register;LDelegationClosure$Meanings;I)Z"⟩
def ws_Led_improve : List Cond := .code y_Led_improve k_Led_improve 8 (some .boolean) :: gW
theorem ds_Led_improve : y_Led_improve.cls ≠ "java/lang/invoke/MethodHandle" ∧ y_Led_improve.cls ≠ "java/lang/invoke/VarHandle" ∧ (parseMethodDescriptor y_Led_improve.desc).map (fun d => d.parameters.length) = some 3 := by decide +kernel
abbrev k_Led_byCertificate : ByteArray := prog_4_method_5_code
def y_Led_byCertificate : MethodName := ⟨"DelegationClosure$Leads", "byCertificate", "(LDelegationClosure$Meanings;LDelegationClosure$Permission;I)I"⟩
def ws_Led_byCertificate : List Cond := .code y_Led_byCertificate k_Led_byCertificate 6 (some .int) :: gW
theorem ds_Led_byCertificate : y_Led_byCertificate.cls ≠ "java/lang/invoke/MethodHandle" ∧ y_Led_byCertificate.cls ≠ "java/lang/invoke/VarHandle" ∧ (parseMethodDescriptor y_Led_byCertificate.desc).map (fun d => d.parameters.length) = some 3 := by decide +kernel
abbrev k_Led_bySubject : ByteArray := prog_4_method_7_code
def y_Led_bySubject : MethodName := ⟨"DelegationClosure$Leads", "bySubject", "(LDelegationClosure$Meanings;IZI)I"⟩
def ws_Led_bySubject : List Cond := .code y_Led_bySubject k_Led_bySubject 8 (some .int) :: gW
theorem ds_Led_bySubject : y_Led_bySubject.cls ≠ "java/lang/invoke/MethodHandle" ∧ y_Led_bySubject.cls ≠ "java/lang/invoke/VarHandle" ∧ (parseMethodDescriptor y_Led_bySubject.desc).map (fun d => d.parameters.length) = some 4 := by decide +kernel
abbrev k_Led_sortIn : ByteArray := prog_4_method_6_code
def y_Led_sortIn : MethodName := ⟨"DelegationClosure$Leads", "sortIn", "(II)V"⟩
def ws_Led_sortIn : List Cond := .code y_Led_sortIn k_Led_sortIn 4 none :: gW
theorem ds_Led_sortIn : y_Led_sortIn.cls ≠ "java/lang/invoke/MethodHandle" ∧ y_Led_sortIn.cls ≠ "java/lang/invoke/VarHandle" ∧ (parseMethodDescriptor y_Led_sortIn.desc).map (fun d => d.parameters.length) = some 2 := by decide +kernel
abbrev k_X_holders : ByteArray := prog_1_method_12_code
def y_X_holders : MethodName := ⟨"DelegationClosure", "holders", "(III)I"⟩
def ws_X_holders : List Cond := .code y_X_holders k_X_holders 6 (some .int) :: gW
theorem ds_X_holders : y_X_holders.cls ≠ "java/lang/invoke/MethodHandle" ∧ y_X_holders.cls ≠ "java/lang/invoke/VarHandle" ∧ (parseMethodDescriptor y_X_holders.desc).map (fun d => d.parameters.length) = some 3 := by decide +kernel
abbrev k_X_begin : ByteArray := prog_1_method_13_code
def y_X_begin : MethodName := ⟨"DelegationClosure", "begin", "(I)Z"⟩
def ws_X_begin : List Cond := .code y_X_begin k_X_begin 3 (some .boolean) :: gW
theorem ds_X_begin : y_X_begin.cls ≠ "java/lang/invoke/MethodHandle" ∧ y_X_begin.cls ≠ "java/lang/invoke/VarHandle" ∧ (parseMethodDescriptor y_X_begin.desc).map (fun d => d.parameters.length) = some 1 := by decide +kernel
abbrev k_Chn_start : ByteArray := prog_3_method_3_code
def y_Chn_start : MethodName := ⟨"DelegationClosure$Chain", "start", "(LDelegationClosure$Permission;)V"⟩
def ws_Chn_start : List Cond := .code y_Chn_start k_Chn_start 2 none :: gW
theorem ds_Chn_start : y_Chn_start.cls ≠ "java/lang/invoke/MethodHandle" ∧ y_Chn_start.cls ≠ "java/lang/invoke/VarHandle" ∧ (parseMethodDescriptor y_Chn_start.desc).map (fun d => d.parameters.length) = some 1 := by decide +kernel
abbrev k_Chn_putAhead : ByteArray := prog_3_method_7_code
def y_Chn_putAhead : MethodName := ⟨"DelegationClosure$Chain", "putAhead", "(II)V"⟩
def ws_Chn_putAhead : List Cond := .code y_Chn_putAhead k_Chn_putAhead 4 none :: gW
theorem ds_Chn_putAhead : y_Chn_putAhead.cls ≠ "java/lang/invoke/MethodHandle" ∧ y_Chn_putAhead.cls ≠ "java/lang/invoke/VarHandle" ∧ (parseMethodDescriptor y_Chn_putAhead.desc).map (fun d => d.parameters.length) = some 2 := by decide +kernel
abbrev k_X_namesIn : ByteArray := prog_1_method_26_code
def y_X_namesIn : MethodName := ⟨"DelegationClosure", "namesIn", "(I)I"⟩
def ws_X_namesIn : List Cond := .code y_X_namesIn k_X_namesIn 1 (some .int) :: gW
theorem ds_X_namesIn : y_X_namesIn.cls ≠ "java/lang/invoke/MethodHandle" ∧ y_X_namesIn.cls ≠ "java/lang/invoke/VarHandle" ∧ (parseMethodDescriptor y_X_namesIn.desc).map (fun d => d.parameters.length) = some 1 := by decide +kernel
abbrev k_Tag_copy : ByteArray := prog_10_method_4_code
def y_Tag_copy : MethodName := ⟨"DelegationClosure$Tag", "copy", "(LDelegationClosure$Tag;)V"⟩
def ws_Tag_copy : List Cond := .code y_Tag_copy k_Tag_copy 2 none :: gW
theorem ds_Tag_copy : y_Tag_copy.cls ≠ "java/lang/invoke/MethodHandle" ∧ y_Tag_copy.cls ≠ "java/lang/invoke/VarHandle" ∧ (parseMethodDescriptor y_Tag_copy.desc).map (fun d => d.parameters.length) = some 1 := by decide +kernel
abbrev k_Spn_copy : ByteArray := prog_9_method_4_code
def y_Spn_copy : MethodName := ⟨"DelegationClosure$Span", "copy", "(LDelegationClosure$Span;)V"⟩
def ws_Spn_copy : List Cond := .code y_Spn_copy k_Spn_copy 2 none :: gW
theorem ds_Spn_copy : y_Spn_copy.cls ≠ "java/lang/invoke/MethodHandle" ∧ y_Spn_copy.cls ≠ "java/lang/invoke/VarHandle" ∧ (parseMethodDescriptor y_Spn_copy.desc).map (fun d => d.parameters.length) = some 1 := by decide +kernel
abbrev k_X_follow : ByteArray := prog_1_method_14_code
def y_X_follow : MethodName := ⟨"DelegationClosure", "follow", "(I)Z"⟩
def ws_X_follow : List Cond := .code y_X_follow k_X_follow 4 (some .boolean) :: gW
theorem ds_X_follow : y_X_follow.cls ≠ "java/lang/invoke/MethodHandle" ∧ y_X_follow.cls ≠ "java/lang/invoke/VarHandle" ∧ (parseMethodDescriptor y_X_follow.desc).map (fun d => d.parameters.length) = some 1 := by decide +kernel
abbrev k_Chn_replaceName : ByteArray := prog_3_method_4_code
def y_Chn_replaceName : MethodName := ⟨"DelegationClosure$Chain", "replaceName", "(LDelegationClosure$Naming;)Z"⟩
def ws_Chn_replaceName : List Cond := .code y_Chn_replaceName k_Chn_replaceName 3 (some .boolean) :: gW
theorem ds_Chn_replaceName : y_Chn_replaceName.cls ≠ "java/lang/invoke/MethodHandle" ∧ y_Chn_replaceName.cls ≠ "java/lang/invoke/VarHandle" ∧ (parseMethodDescriptor y_Chn_replaceName.desc).map (fun d => d.parameters.length) = some 1 := by decide +kernel
abbrev k_Chn_isThere : ByteArray := prog_3_method_2_code
def y_Chn_isThere : MethodName := ⟨"DelegationClosure$Chain", "isThere", "()Z"⟩
def ws_Chn_isThere : List Cond := .code y_Chn_isThere k_Chn_isThere 1 (some .boolean) :: gW
theorem ds_Chn_isThere : y_Chn_isThere.cls ≠ "java/lang/invoke/MethodHandle" ∧ y_Chn_isThere.cls ≠ "java/lang/invoke/VarHandle" ∧ (parseMethodDescriptor y_Chn_isThere.desc).map (fun d => d.parameters.length) = some 0 := by decide +kernel
abbrev k_Spn_narrowTo : ByteArray := prog_9_method_5_code
def y_Spn_narrowTo : MethodName := ⟨"DelegationClosure$Span", "narrowTo", "(LDelegationClosure$Span;)V"⟩
def ws_Spn_narrowTo : List Cond := .code y_Spn_narrowTo k_Spn_narrowTo 2 none :: gW
theorem ds_Spn_narrowTo : y_Spn_narrowTo.cls ≠ "java/lang/invoke/MethodHandle" ∧ y_Spn_narrowTo.cls ≠ "java/lang/invoke/VarHandle" ∧ (parseMethodDescriptor y_Spn_narrowTo.desc).map (fun d => d.parameters.length) = some 1 := by decide +kernel
abbrev k_Mat_max : ByteArray := prog_13_method_65_code
def y_Mat_max : MethodName := ⟨"java/lang/Math", "max", "(II)I"⟩
def ws_Mat_max : List Cond := .code y_Mat_max k_Mat_max 2 (some .int) :: gW
theorem ds_Mat_max : y_Mat_max.cls ≠ "java/lang/invoke/MethodHandle" ∧ y_Mat_max.cls ≠ "java/lang/invoke/VarHandle" ∧ (parseMethodDescriptor y_Mat_max.desc).map (fun d => d.parameters.length) = some 2 := by decide +kernel
abbrev k_Chn_passOn : ByteArray := prog_3_method_5_code
def y_Chn_passOn : MethodName := ⟨"DelegationClosure$Chain", "passOn", "(LDelegationClosure$Permission;)Z"⟩
def ws_Chn_passOn : List Cond := .code y_Chn_passOn k_Chn_passOn 2 (some .boolean) :: gW
theorem ds_Chn_passOn : y_Chn_passOn.cls ≠ "java/lang/invoke/MethodHandle" ∧ y_Chn_passOn.cls ≠ "java/lang/invoke/VarHandle" ∧ (parseMethodDescriptor y_Chn_passOn.desc).map (fun d => d.parameters.length) = some 1 := by decide +kernel
abbrev k_Tag_narrowTo : ByteArray := prog_10_method_5_code
def y_Tag_narrowTo : MethodName := ⟨"DelegationClosure$Tag", "narrowTo", "(LDelegationClosure$Tag;)V"⟩
def ws_Tag_narrowTo : List Cond := .code y_Tag_narrowTo k_Tag_narrowTo 2 none :: gW
theorem ds_Tag_narrowTo : y_Tag_narrowTo.cls ≠ "java/lang/invoke/MethodHandle" ∧ y_Tag_narrowTo.cls ≠ "java/lang/invoke/VarHandle" ∧ (parseMethodDescriptor y_Tag_narrowTo.desc).map (fun d => d.parameters.length) = some 1 := by decide +kernel
abbrev k_X_head : ByteArray := prog_1_method_15_code
def y_X_head : MethodName := ⟨"DelegationClosure", "head", "()I"⟩
def ws_X_head : List Cond := .code y_X_head k_X_head 1 (some .int) :: gW
theorem ds_X_head : y_X_head.cls ≠ "java/lang/invoke/MethodHandle" ∧ y_X_head.cls ≠ "java/lang/invoke/VarHandle" ∧ (parseMethodDescriptor y_X_head.desc).map (fun d => d.parameters.length) = some 0 := by decide +kernel
abbrev k_X_behind : ByteArray := prog_1_method_16_code
def y_X_behind : MethodName := ⟨"DelegationClosure", "behind", "(I)I"⟩
def ws_X_behind : List Cond := .code y_X_behind k_X_behind 2 (some .int) :: gW
theorem ds_X_behind : y_X_behind.cls ≠ "java/lang/invoke/MethodHandle" ∧ y_X_behind.cls ≠ "java/lang/invoke/VarHandle" ∧ (parseMethodDescriptor y_X_behind.desc).map (fun d => d.parameters.length) = some 1 := by decide +kernel
abbrev k_X_grants : ByteArray := prog_1_method_17_code
def y_X_grants : MethodName := ⟨"DelegationClosure", "grants", "(III)Z"⟩
def ws_X_grants : List Cond := .code y_X_grants k_X_grants 4 (some .boolean) :: gW
theorem ds_X_grants : y_X_grants.cls ≠ "java/lang/invoke/MethodHandle" ∧ y_X_grants.cls ≠ "java/lang/invoke/VarHandle" ∧ (parseMethodDescriptor y_X_grants.desc).map (fun d => d.parameters.length) = some 3 := by decide +kernel
abbrev k_Chn_allows : ByteArray := prog_3_method_6_code
def y_Chn_allows : MethodName := ⟨"DelegationClosure$Chain", "allows", "(III)Z"⟩
def ws_Chn_allows : List Cond := .code y_Chn_allows k_Chn_allows 4 (some .boolean) :: gW
theorem ds_Chn_allows : y_Chn_allows.cls ≠ "java/lang/invoke/MethodHandle" ∧ y_Chn_allows.cls ≠ "java/lang/invoke/VarHandle" ∧ (parseMethodDescriptor y_Chn_allows.desc).map (fun d => d.parameters.length) = some 3 := by decide +kernel
abbrev k_X_used : ByteArray := prog_1_method_18_code
def y_X_used : MethodName := ⟨"DelegationClosure", "used", "()I"⟩
def ws_X_used : List Cond := .code y_X_used k_X_used 1 (some .int) :: gW
theorem ds_X_used : y_X_used.cls ≠ "java/lang/invoke/MethodHandle" ∧ y_X_used.cls ≠ "java/lang/invoke/VarHandle" ∧ (parseMethodDescriptor y_X_used.desc).map (fun d => d.parameters.length) = some 0 := by decide +kernel
abbrev k_X_delegates : ByteArray := prog_1_method_19_code
def y_X_delegates : MethodName := ⟨"DelegationClosure", "delegates", "()Z"⟩
def ws_X_delegates : List Cond := .code y_X_delegates k_X_delegates 1 (some .boolean) :: gW
theorem ds_X_delegates : y_X_delegates.cls ≠ "java/lang/invoke/MethodHandle" ∧ y_X_delegates.cls ≠ "java/lang/invoke/VarHandle" ∧ (parseMethodDescriptor y_X_delegates.desc).map (fun d => d.parameters.length) = some 0 := by decide +kernel
abbrev k_Mod_init : ByteArray := prog_12_method_1_code
def y_Mod_init : MethodName := ⟨"DelegationClosureModel", "<init>", "()V"⟩
def ws_Mod_init : List Cond := .code y_Mod_init k_Mod_init 1 none :: gW
theorem ds_Mod_init : y_Mod_init.cls ≠ "java/lang/invoke/MethodHandle" ∧ y_Mod_init.cls ≠ "java/lang/invoke/VarHandle" ∧ (parseMethodDescriptor y_Mod_init.desc).map (fun d => d.parameters.length) = some 0 := by decide +kernel
abbrev k_Mod_name : ByteArray := prog_12_method_6_code
def y_Mod_name : MethodName := ⟨"DelegationClosureModel", "name", "(IIIII)I"⟩
def ws_Mod_name : List Cond := .code y_Mod_name k_Mod_name 7 (some .int) :: gW
theorem ds_Mod_name : y_Mod_name.cls ≠ "java/lang/invoke/MethodHandle" ∧ y_Mod_name.cls ≠ "java/lang/invoke/VarHandle" ∧ (parseMethodDescriptor y_Mod_name.desc).map (fun d => d.parameters.length) = some 5 := by decide +kernel
abbrev k_Mod_isSubject : ByteArray := prog_12_method_4_code
def y_Mod_isSubject : MethodName := ⟨"DelegationClosureModel", "isSubject", "(I)Z"⟩
def ws_Mod_isSubject : List Cond := .code y_Mod_isSubject k_Mod_isSubject 1 (some .boolean) :: gW
theorem ds_Mod_isSubject : y_Mod_isSubject.cls ≠ "java/lang/invoke/MethodHandle" ∧ y_Mod_isSubject.cls ≠ "java/lang/invoke/VarHandle" ∧ (parseMethodDescriptor y_Mod_isSubject.desc).map (fun d => d.parameters.length) = some 1 := by decide +kernel
abbrev k_Mod_nameOf : ByteArray := prog_12_method_3_code
def y_Mod_nameOf : MethodName := ⟨"DelegationClosureModel", "nameOf", "(IZ)I"⟩
def ws_Mod_nameOf : List Cond := .code y_Mod_nameOf k_Mod_nameOf 3 (some .int) :: gW
theorem ds_Mod_nameOf : y_Mod_nameOf.cls ≠ "java/lang/invoke/MethodHandle" ∧ y_Mod_nameOf.cls ≠ "java/lang/invoke/VarHandle" ∧ (parseMethodDescriptor y_Mod_nameOf.desc).map (fun d => d.parameters.length) = some 2 := by decide +kernel
abbrev k_Mod_make : ByteArray := prog_12_method_5_code
def y_Mod_make : MethodName := ⟨"DelegationClosureModel", "make", "(ZIIII)I"⟩
def ws_Mod_make : List Cond := .code y_Mod_make k_Mod_make 7 (some .int) :: gW
theorem ds_Mod_make : y_Mod_make.cls ≠ "java/lang/invoke/MethodHandle" ∧ y_Mod_make.cls ≠ "java/lang/invoke/VarHandle" ∧ (parseMethodDescriptor y_Mod_make.desc).map (fun d => d.parameters.length) = some 5 := by decide +kernel
abbrev k_Mod_permit : ByteArray := prog_12_method_7_code
def y_Mod_permit : MethodName := ⟨"DelegationClosureModel", "permit", "(IIZII)I"⟩
def ws_Mod_permit : List Cond := .code y_Mod_permit k_Mod_permit 7 (some .int) :: gW
theorem ds_Mod_permit : y_Mod_permit.cls ≠ "java/lang/invoke/MethodHandle" ∧ y_Mod_permit.cls ≠ "java/lang/invoke/VarHandle" ∧ (parseMethodDescriptor y_Mod_permit.desc).map (fun d => d.parameters.length) = some 5 := by decide +kernel
abbrev k_Mod_tag : ByteArray := prog_12_method_10_code
def y_Mod_tag : MethodName := ⟨"DelegationClosureModel", "tag", "(IIII)Z"⟩
def ws_Mod_tag : List Cond := .code y_Mod_tag k_Mod_tag 5 (some .boolean) :: gW
theorem ds_Mod_tag : y_Mod_tag.cls ≠ "java/lang/invoke/MethodHandle" ∧ y_Mod_tag.cls ≠ "java/lang/invoke/VarHandle" ∧ (parseMethodDescriptor y_Mod_tag.desc).map (fun d => d.parameters.length) = some 4 := by decide +kernel
abbrev k_Mod_isPermission : ByteArray := prog_12_method_9_code
def y_Mod_isPermission : MethodName := ⟨"DelegationClosureModel", "isPermission", "(I)Z"⟩
def ws_Mod_isPermission : List Cond := .code y_Mod_isPermission k_Mod_isPermission 2 (some .boolean) :: gW
theorem ds_Mod_isPermission : y_Mod_isPermission.cls ≠ "java/lang/invoke/MethodHandle" ∧ y_Mod_isPermission.cls ≠ "java/lang/invoke/VarHandle" ∧ (parseMethodDescriptor y_Mod_isPermission.desc).map (fun d => d.parameters.length) = some 1 := by decide +kernel
abbrev k_Mod_isThere : ByteArray := prog_12_method_8_code
def y_Mod_isThere : MethodName := ⟨"DelegationClosureModel", "isThere", "(I)Z"⟩
def ws_Mod_isThere : List Cond := .code y_Mod_isThere k_Mod_isThere 2 (some .boolean) :: gW
theorem ds_Mod_isThere : y_Mod_isThere.cls ≠ "java/lang/invoke/MethodHandle" ∧ y_Mod_isThere.cls ≠ "java/lang/invoke/VarHandle" ∧ (parseMethodDescriptor y_Mod_isThere.desc).map (fun d => d.parameters.length) = some 1 := by decide +kernel
abbrev k_Mod_also : ByteArray := prog_12_method_11_code
def y_Mod_also : MethodName := ⟨"DelegationClosureModel", "also", "(II)I"⟩
def ws_Mod_also : List Cond := .code y_Mod_also k_Mod_also 3 (some .int) :: gW
theorem ds_Mod_also : y_Mod_also.cls ≠ "java/lang/invoke/MethodHandle" ∧ y_Mod_also.cls ≠ "java/lang/invoke/VarHandle" ∧ (parseMethodDescriptor y_Mod_also.desc).map (fun d => d.parameters.length) = some 2 := by decide +kernel
abbrev k_Mod_quorum : ByteArray := prog_12_method_12_code
def y_Mod_quorum : MethodName := ⟨"DelegationClosureModel", "quorum", "(II)Z"⟩
def ws_Mod_quorum : List Cond := .code y_Mod_quorum k_Mod_quorum 3 (some .boolean) :: gW
theorem ds_Mod_quorum : y_Mod_quorum.cls ≠ "java/lang/invoke/MethodHandle" ∧ y_Mod_quorum.cls ≠ "java/lang/invoke/VarHandle" ∧ (parseMethodDescriptor y_Mod_quorum.desc).map (fun d => d.parameters.length) = some 2 := by decide +kernel
abbrev k_Mod_revoke : ByteArray := prog_12_method_13_code
def y_Mod_revoke : MethodName := ⟨"DelegationClosureModel", "revoke", "(I)Z"⟩
def ws_Mod_revoke : List Cond := .code y_Mod_revoke k_Mod_revoke 2 (some .boolean) :: gW
theorem ds_Mod_revoke : y_Mod_revoke.cls ≠ "java/lang/invoke/MethodHandle" ∧ y_Mod_revoke.cls ≠ "java/lang/invoke/VarHandle" ∧ (parseMethodDescriptor y_Mod_revoke.desc).map (fun d => d.parameters.length) = some 1 := by decide +kernel
abbrev k_Mod_certificates : ByteArray := prog_12_method_14_code
def y_Mod_certificates : MethodName := ⟨"DelegationClosureModel", "certificates", "()I"⟩
def ws_Mod_certificates : List Cond := .code y_Mod_certificates k_Mod_certificates 1 (some .int) :: gW
theorem ds_Mod_certificates : y_Mod_certificates.cls ≠ "java/lang/invoke/MethodHandle" ∧ y_Mod_certificates.cls ≠ "java/lang/invoke/VarHandle" ∧ (parseMethodDescriptor y_Mod_certificates.desc).map (fun d => d.parameters.length) = some 0 := by decide +kernel
abbrev k_Mod_meant : ByteArray := prog_12_method_20_code
def y_Mod_meant : MethodName := ⟨"DelegationClosureModel", "meant", "(II)I"⟩
def ws_Mod_meant : List Cond := .code y_Mod_meant k_Mod_meant 5 (some .int) :: gW
theorem ds_Mod_meant : y_Mod_meant.cls ≠ "java/lang/invoke/MethodHandle" ∧ y_Mod_meant.cls ≠ "java/lang/invoke/VarHandle" ∧ (parseMethodDescriptor y_Mod_meant.desc).map (fun d => d.parameters.length) = some 2 := by decide +kernel
abbrev k_Mod_findMeanings : ByteArray := prog_12_method_19_code
def y_Mod_findMeanings : MethodName := ⟨"DelegationClosureModel", "findMeanings", "(I)V"⟩
def ws_Mod_findMeanings : List Cond := .code y_Mod_findMeanings k_Mod_findMeanings 4 none :: gW
theorem ds_Mod_findMeanings : y_Mod_findMeanings.cls ≠ "java/lang/invoke/MethodHandle" ∧ y_Mod_findMeanings.cls ≠ "java/lang/invoke/VarHandle" ∧ (parseMethodDescriptor y_Mod_findMeanings.desc).map (fun d => d.parameters.length) = some 1 := by decide +kernel
abbrev k_Mod_useNames : ByteArray := prog_12_method_18_code
def y_Mod_useNames : MethodName := ⟨"DelegationClosureModel", "useNames", "(I)Z"⟩
def ws_Mod_useNames : List Cond := .code y_Mod_useNames k_Mod_useNames 7 (some .boolean) :: gW
theorem ds_Mod_useNames : y_Mod_useNames.cls ≠ "java/lang/invoke/MethodHandle" ∧ y_Mod_useNames.cls ≠ "java/lang/invoke/VarHandle" ∧ (parseMethodDescriptor y_Mod_useNames.desc).map (fun d => d.parameters.length) = some 1 := by decide +kernel
abbrev k_Mod_isValid : ByteArray := prog_12_method_15_code
def y_Mod_isValid : MethodName := ⟨"DelegationClosureModel", "isValid", "(II)Z"⟩
def ws_Mod_isValid : List Cond := .code y_Mod_isValid k_Mod_isValid 3 (some .boolean) :: gW
theorem ds_Mod_isValid : y_Mod_isValid.cls ≠ "java/lang/invoke/MethodHandle" ∧ y_Mod_isValid.cls ≠ "java/lang/invoke/VarHandle" ∧ (parseMethodDescriptor y_Mod_isValid.desc).map (fun d => d.parameters.length) = some 2 := by decide +kernel
abbrev k_Mod_costOf : ByteArray := prog_12_method_17_code
def y_Mod_costOf : MethodName := ⟨"DelegationClosureModel", "costOf", "(II)I"⟩
def ws_Mod_costOf : List Cond := .code y_Mod_costOf k_Mod_costOf 9 (some .int) :: gW
theorem ds_Mod_costOf : y_Mod_costOf.cls ≠ "java/lang/invoke/MethodHandle" ∧ y_Mod_costOf.cls ≠ "java/lang/invoke/VarHandle" ∧ (parseMethodDescriptor y_Mod_costOf.desc).map (fun d => d.parameters.length) = some 2 := by decide +kernel
abbrev k_Mod_keyOf : ByteArray := prog_12_method_2_code
def y_Mod_keyOf : MethodName := ⟨"DelegationClosureModel", "keyOf", "(I)I"⟩
def ws_Mod_keyOf : List Cond := .code y_Mod_keyOf k_Mod_keyOf 1 (some .int) :: gW
theorem ds_Mod_keyOf : y_Mod_keyOf.cls ≠ "java/lang/invoke/MethodHandle" ∧ y_Mod_keyOf.cls ≠ "java/lang/invoke/VarHandle" ∧ (parseMethodDescriptor y_Mod_keyOf.desc).map (fun d => d.parameters.length) = some 1 := by decide +kernel
abbrev k_Mod_sum : ByteArray := prog_12_method_16_code
def y_Mod_sum : MethodName := ⟨"DelegationClosureModel", "sum", "(II)I"⟩
def ws_Mod_sum : List Cond := .code y_Mod_sum k_Mod_sum 2 (some .int) :: gW
theorem ds_Mod_sum : y_Mod_sum.cls ≠ "java/lang/invoke/MethodHandle" ∧ y_Mod_sum.cls ≠ "java/lang/invoke/VarHandle" ∧ (parseMethodDescriptor y_Mod_sum.desc).map (fun d => d.parameters.length) = some 2 := by decide +kernel
abbrev k_Mod_cost : ByteArray := prog_12_method_21_code
def y_Mod_cost : MethodName := ⟨"DelegationClosureModel", "cost", "(III)I"⟩
def ws_Mod_cost : List Cond := .code y_Mod_cost k_Mod_cost 5 (some .int) :: gW
theorem ds_Mod_cost : y_Mod_cost.cls ≠ "java/lang/invoke/MethodHandle" ∧ y_Mod_cost.cls ≠ "java/lang/invoke/VarHandle" ∧ (parseMethodDescriptor y_Mod_cost.desc).map (fun d => d.parameters.length) = some 3 := by decide +kernel
abbrev k_Mod_may : ByteArray := prog_12_method_28_code
def y_Mod_may : MethodName := ⟨"DelegationClosureModel", "may", "(IIII)I"⟩
def ws_Mod_may : List Cond := .code y_Mod_may k_Mod_may 6 (some .int) :: gW
theorem ds_Mod_may : y_Mod_may.cls ≠ "java/lang/invoke/MethodHandle" ∧ y_Mod_may.cls ≠ "java/lang/invoke/VarHandle" ∧ (parseMethodDescriptor y_Mod_may.desc).map (fun d => d.parameters.length) = some 4 := by decide +kernel
abbrev k_Mod_findLeading : ByteArray := prog_12_method_27_code
def y_Mod_findLeading : MethodName := ⟨"DelegationClosureModel", "findLeading", "(IIII)V"⟩
def ws_Mod_findLeading : List Cond := .code y_Mod_findLeading k_Mod_findLeading 9 none :: gW
theorem ds_Mod_findLeading : y_Mod_findLeading.cls ≠ "java/lang/invoke/MethodHandle" ∧ y_Mod_findLeading.cls ≠ "java/lang/invoke/VarHandle" ∧ (parseMethodDescriptor y_Mod_findLeading.desc).map (fun d => d.parameters.length) = some 4 := by decide +kernel
abbrev k_Mod_counts : ByteArray := prog_12_method_22_code
def y_Mod_counts : MethodName := ⟨"DelegationClosureModel", "counts", "(IIII)Z"⟩
def ws_Mod_counts : List Cond := .code y_Mod_counts k_Mod_counts 5 (some .boolean) :: gW
theorem ds_Mod_counts : y_Mod_counts.cls ≠ "java/lang/invoke/MethodHandle" ∧ y_Mod_counts.cls ≠ "java/lang/invoke/VarHandle" ∧ (parseMethodDescriptor y_Mod_counts.desc).map (fun d => d.parameters.length) = some 4 := by decide +kernel
abbrev k_Mod_byCertificate : ByteArray := prog_12_method_26_code
def y_Mod_byCertificate : MethodName := ⟨"DelegationClosureModel", "byCertificate", "(II)I"⟩
def ws_Mod_byCertificate : List Cond := .code y_Mod_byCertificate k_Mod_byCertificate 7 (some .int) :: gW
theorem ds_Mod_byCertificate : y_Mod_byCertificate.cls ≠ "java/lang/invoke/MethodHandle" ∧ y_Mod_byCertificate.cls ≠ "java/lang/invoke/VarHandle" ∧ (parseMethodDescriptor y_Mod_byCertificate.desc).map (fun d => d.parameters.length) = some 2 := by decide +kernel
abbrev k_Mod_bySubject : ByteArray := prog_12_method_24_code
def y_Mod_bySubject : MethodName := ⟨"DelegationClosureModel", "bySubject", "(III)I"⟩
def ws_Mod_bySubject : List Cond := .code y_Mod_bySubject k_Mod_bySubject 7 (some .int) :: gW
theorem ds_Mod_bySubject : y_Mod_bySubject.cls ≠ "java/lang/invoke/MethodHandle" ∧ y_Mod_bySubject.cls ≠ "java/lang/invoke/VarHandle" ∧ (parseMethodDescriptor y_Mod_bySubject.desc).map (fun d => d.parameters.length) = some 3 := by decide +kernel
abbrev k_Mod_leadOf : ByteArray := prog_12_method_23_code
def y_Mod_leadOf : MethodName := ⟨"DelegationClosureModel", "leadOf", "(I)I"⟩
def ws_Mod_leadOf : List Cond := .code y_Mod_leadOf k_Mod_leadOf 4 (some .int) :: gW
theorem ds_Mod_leadOf : y_Mod_leadOf.cls ≠ "java/lang/invoke/MethodHandle" ∧ y_Mod_leadOf.cls ≠ "java/lang/invoke/VarHandle" ∧ (parseMethodDescriptor y_Mod_leadOf.desc).map (fun d => d.parameters.length) = some 1 := by decide +kernel
abbrev k_Mod_leastOf : ByteArray := prog_12_method_25_code
def y_Mod_leastOf : MethodName := ⟨"DelegationClosureModel", "leastOf", "(IIII)I"⟩
def ws_Mod_leastOf : List Cond := .code y_Mod_leastOf k_Mod_leastOf 10 (some .int) :: gW
theorem ds_Mod_leastOf : y_Mod_leastOf.cls ≠ "java/lang/invoke/MethodHandle" ∧ y_Mod_leastOf.cls ≠ "java/lang/invoke/VarHandle" ∧ (parseMethodDescriptor y_Mod_leastOf.desc).map (fun d => d.parameters.length) = some 4 := by decide +kernel
abbrev k_Mod_holders : ByteArray := prog_12_method_29_code
def y_Mod_holders : MethodName := ⟨"DelegationClosureModel", "holders", "(III)I"⟩
def ws_Mod_holders : List Cond := .code y_Mod_holders k_Mod_holders 6 (some .int) :: gW
theorem ds_Mod_holders : y_Mod_holders.cls ≠ "java/lang/invoke/MethodHandle" ∧ y_Mod_holders.cls ≠ "java/lang/invoke/VarHandle" ∧ (parseMethodDescriptor y_Mod_holders.desc).map (fun d => d.parameters.length) = some 3 := by decide +kernel
abbrev k_Mod_begin : ByteArray := prog_12_method_30_code
def y_Mod_begin : MethodName := ⟨"DelegationClosureModel", "begin", "(I)Z"⟩
def ws_Mod_begin : List Cond := .code y_Mod_begin k_Mod_begin 2 (some .boolean) :: gW
theorem ds_Mod_begin : y_Mod_begin.cls ≠ "java/lang/invoke/MethodHandle" ∧ y_Mod_begin.cls ≠ "java/lang/invoke/VarHandle" ∧ (parseMethodDescriptor y_Mod_begin.desc).map (fun d => d.parameters.length) = some 1 := by decide +kernel
abbrev k_Mod_place : ByteArray := prog_12_method_32_code
def y_Mod_place : MethodName := ⟨"DelegationClosureModel", "place", "(I)V"⟩
def ws_Mod_place : List Cond := .code y_Mod_place k_Mod_place 4 none :: gW
theorem ds_Mod_place : y_Mod_place.cls ≠ "java/lang/invoke/MethodHandle" ∧ y_Mod_place.cls ≠ "java/lang/invoke/VarHandle" ∧ (parseMethodDescriptor y_Mod_place.desc).map (fun d => d.parameters.length) = some 1 := by decide +kernel
abbrev k_Mod_namesOf : ByteArray := prog_12_method_31_code
def y_Mod_namesOf : MethodName := ⟨"DelegationClosureModel", "namesOf", "(I)I"⟩
def ws_Mod_namesOf : List Cond := .code y_Mod_namesOf k_Mod_namesOf 1 (some .int) :: gW
theorem ds_Mod_namesOf : y_Mod_namesOf.cls ≠ "java/lang/invoke/MethodHandle" ∧ y_Mod_namesOf.cls ≠ "java/lang/invoke/VarHandle" ∧ (parseMethodDescriptor y_Mod_namesOf.desc).map (fun d => d.parameters.length) = some 1 := by decide +kernel
abbrev k_Mod_follow : ByteArray := prog_12_method_35_code
def y_Mod_follow : MethodName := ⟨"DelegationClosureModel", "follow", "(I)Z"⟩
def ws_Mod_follow : List Cond := .code y_Mod_follow k_Mod_follow 2 (some .boolean) :: gW
theorem ds_Mod_follow : y_Mod_follow.cls ≠ "java/lang/invoke/MethodHandle" ∧ y_Mod_follow.cls ≠ "java/lang/invoke/VarHandle" ∧ (parseMethodDescriptor y_Mod_follow.desc).map (fun d => d.parameters.length) = some 1 := by decide +kernel
abbrev k_Mod_fits : ByteArray := prog_12_method_34_code
def y_Mod_fits : MethodName := ⟨"DelegationClosureModel", "fits", "(I)Z"⟩
def ws_Mod_fits : List Cond := .code y_Mod_fits k_Mod_fits 2 (some .boolean) :: gW
theorem ds_Mod_fits : y_Mod_fits.cls ≠ "java/lang/invoke/MethodHandle" ∧ y_Mod_fits.cls ≠ "java/lang/invoke/VarHandle" ∧ (parseMethodDescriptor y_Mod_fits.desc).map (fun d => d.parameters.length) = some 1 := by decide +kernel
abbrev k_Mod_dropName : ByteArray := prog_12_method_33_code
def y_Mod_dropName : MethodName := ⟨"DelegationClosureModel", "dropName", "()V"⟩
def ws_Mod_dropName : List Cond := .code y_Mod_dropName k_Mod_dropName 2 none :: gW
theorem ds_Mod_dropName : y_Mod_dropName.cls ≠ "java/lang/invoke/MethodHandle" ∧ y_Mod_dropName.cls ≠ "java/lang/invoke/VarHandle" ∧ (parseMethodDescriptor y_Mod_dropName.desc).map (fun d => d.parameters.length) = some 0 := by decide +kernel
abbrev k_Mod_head : ByteArray := prog_12_method_36_code
def y_Mod_head : MethodName := ⟨"DelegationClosureModel", "head", "()I"⟩
def ws_Mod_head : List Cond := .code y_Mod_head k_Mod_head 1 (some .int) :: gW
theorem ds_Mod_head : y_Mod_head.cls ≠ "java/lang/invoke/MethodHandle" ∧ y_Mod_head.cls ≠ "java/lang/invoke/VarHandle" ∧ (parseMethodDescriptor y_Mod_head.desc).map (fun d => d.parameters.length) = some 0 := by decide +kernel
abbrev k_Mod_behind : ByteArray := prog_12_method_37_code
def y_Mod_behind : MethodName := ⟨"DelegationClosureModel", "behind", "(I)I"⟩
def ws_Mod_behind : List Cond := .code y_Mod_behind k_Mod_behind 2 (some .int) :: gW
theorem ds_Mod_behind : y_Mod_behind.cls ≠ "java/lang/invoke/MethodHandle" ∧ y_Mod_behind.cls ≠ "java/lang/invoke/VarHandle" ∧ (parseMethodDescriptor y_Mod_behind.desc).map (fun d => d.parameters.length) = some 1 := by decide +kernel
abbrev k_Mod_grants : ByteArray := prog_12_method_38_code
def y_Mod_grants : MethodName := ⟨"DelegationClosureModel", "grants", "(III)Z"⟩
def ws_Mod_grants : List Cond := .code y_Mod_grants k_Mod_grants 4 (some .boolean) :: gW
theorem ds_Mod_grants : y_Mod_grants.cls ≠ "java/lang/invoke/MethodHandle" ∧ y_Mod_grants.cls ≠ "java/lang/invoke/VarHandle" ∧ (parseMethodDescriptor y_Mod_grants.desc).map (fun d => d.parameters.length) = some 3 := by decide +kernel
abbrev k_Mod_used : ByteArray := prog_12_method_39_code
def y_Mod_used : MethodName := ⟨"DelegationClosureModel", "used", "()I"⟩
def ws_Mod_used : List Cond := .code y_Mod_used k_Mod_used 1 (some .int) :: gW
theorem ds_Mod_used : y_Mod_used.cls ≠ "java/lang/invoke/MethodHandle" ∧ y_Mod_used.cls ≠ "java/lang/invoke/VarHandle" ∧ (parseMethodDescriptor y_Mod_used.desc).map (fun d => d.parameters.length) = some 0 := by decide +kernel
abbrev k_Mod_delegates : ByteArray := prog_12_method_40_code
def y_Mod_delegates : MethodName := ⟨"DelegationClosureModel", "delegates", "()Z"⟩
def ws_Mod_delegates : List Cond := .code y_Mod_delegates k_Mod_delegates 1 (some .boolean) :: gW
theorem ds_Mod_delegates : y_Mod_delegates.cls ≠ "java/lang/invoke/MethodHandle" ∧ y_Mod_delegates.cls ≠ "java/lang/invoke/VarHandle" ∧ (parseMethodDescriptor y_Mod_delegates.desc).map (fun d => d.parameters.length) = some 0 := by decide +kernel
