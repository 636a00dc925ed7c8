theorem sd_selP {y : MethodName} {C : String} {n : Nat} {s : State} {args : Array Value} (hins : (Cond.instantiable C n).before args s = true) (hpriv : (Cond.privateMethod y).before args s = true) (hinst : (Cond.instanceMethod y).before args s = true) (hsame : (Cond.sameMethod y.cls y.cls y.name y.desc).before args s = true) : (Cond.selects C y y).before args s = true := by
  obtain ⟨c, k, hc, hk, -, hniab, -, -⟩ := Cond.instantiable_spec hins
  obtain ⟨mk, methM, hnamed, hmethM, -, -⟩ := Cond.instanceMethod_spec hinst
  obtain ⟨cn, ck, r, hcn, hck, hni, hfound, hn2⟩ := Cond.sameMethod_found hsame
  cases hnamed.symm.trans hn2
  have hcls : mk.cls = cn := Option.some.inj ((findClass_of_methodNamed hnamed).symm.trans hcn)
  have hsel : selectMethod {} s.vm c mk = .method mk := selectMethod_private hmethM (Cond.privateMethod_at hpriv mk methM hnamed hmethM)
  simp only [Cond.before, Cond.holds, Cond.value, hc, hfound, hnamed, hsel, hcls, hck]
  simp; exact hni
def sx_sels : List Cond := [Jvm.Cond.selects "ScriptDesk$Ripemd160" ({ cls := "ScriptDesk$BlockDigest", name := "shiftOf", desc := "(I)I" } : Jvm.MethodName) ({ cls := "ScriptDesk$BlockDigest", name := "shiftOf", desc := "(I)I" } : Jvm.MethodName), Jvm.Cond.selects "ScriptDesk$Ripemd160" ({ cls := "ScriptDesk$BlockDigest", name := "write", desc := "(I[II)V" } : Jvm.MethodName) ({ cls := "ScriptDesk$BlockDigest", name := "write", desc := "(I[II)V" } : Jvm.MethodName), Jvm.Cond.selects "ScriptDesk$Ripemd160" ({ cls := "ScriptDesk$BlockDigest", name := "pad", desc := "(LScriptDesk$Elements;I)I" } : Jvm.MethodName) ({ cls := "ScriptDesk$BlockDigest", name := "pad", desc := "(LScriptDesk$Elements;I)I" } : Jvm.MethodName), Jvm.Cond.selects "ScriptDesk$Ripemd160" ({ cls := "ScriptDesk$BlockDigest", name := "readBlock", desc := "(I)V" } : Jvm.MethodName) ({ cls := "ScriptDesk$BlockDigest", name := "readBlock", desc := "(I)V" } : Jvm.MethodName), Jvm.Cond.selects "ScriptDesk$Sha256" ({ cls := "ScriptDesk$BlockDigest", name := "shiftOf", desc := "(I)I" } : Jvm.MethodName) ({ cls := "ScriptDesk$BlockDigest", name := "shiftOf", desc := "(I)I" } : Jvm.MethodName), Jvm.Cond.selects "ScriptDesk$Sha256" ({ cls := "ScriptDesk$BlockDigest", name := "write", desc := "(I[II)V" } : Jvm.MethodName) ({ cls := "ScriptDesk$BlockDigest", name := "write", desc := "(I[II)V" } : Jvm.MethodName), Jvm.Cond.selects "ScriptDesk$Sha256" ({ cls := "ScriptDesk$BlockDigest", name := "pad", desc := "(LScriptDesk$Elements;I)I" } : Jvm.MethodName) ({ cls := "ScriptDesk$BlockDigest", name := "pad", desc := "(LScriptDesk$Elements;I)I" } : Jvm.MethodName), Jvm.Cond.selects "ScriptDesk$Sha256" ({ cls := "ScriptDesk$BlockDigest", name := "readBlock", desc := "(I)V" } : Jvm.MethodName) ({ cls := "ScriptDesk$BlockDigest", name := "readBlock", desc := "(I)V" } : Jvm.MethodName)]
def sx_tbl : List Cond := sx_sels ++ lw_tbl.filter goodWord
theorem tw_of {i : Nat} {w : Cond} (h : tables_1[i]? = some w) (hg : goodWord w = true) : w ∈ sx_tbl := List.mem_append_right _ (List.mem_filter.mpr ⟨List.mem_append_right _ (List.mem_of_getElem? h), hg⟩)
theorem ts_of {i : Nat} {w : Cond} (h : (k2_sels lw_privs)[i]? = some w) (hg : goodWord w = true) : w ∈ sx_tbl := List.mem_append_right _ (List.mem_filter.mpr ⟨List.mem_append_left _ (List.mem_of_getElem? h), hg⟩)
theorem sx_hts {args : Array Value} {s : State} (hts : ∀ w ∈ lw_tbl, w.before args s = true) : ∀ w ∈ sx_tbl, w.before args s = true := by
  intro w hw
  rcases List.mem_append.mp hw with hw | hw
  · simp only [sx_sels, List.mem_cons, List.not_mem_nil, or_false] at hw
    rcases hw with rfl | rfl | rfl | rfl | rfl | rfl | rfl | rfl
    · exact sd_selP (n := 7) (hts _ (List.mem_append_right _ (List.mem_of_getElem? (i := 122) (by decide +kernel)))) (hts _ (List.mem_append_right _ (List.mem_of_getElem? (i := 393) (by decide +kernel)))) (hts _ (List.mem_append_right _ (List.mem_of_getElem? (i := 394) (by decide +kernel)))) (hts _ (List.mem_append_right _ (List.mem_of_getElem? (i := 799) (by decide +kernel))))
    · exact sd_selP (n := 7) (hts _ (List.mem_append_right _ (List.mem_of_getElem? (i := 122) (by decide +kernel)))) (hts _ (List.mem_append_right _ (List.mem_of_getElem? (i := 389) (by decide +kernel)))) (hts _ (List.mem_append_right _ (List.mem_of_getElem? (i := 390) (by decide +kernel)))) (hts _ (List.mem_append_right _ (List.mem_of_getElem? (i := 798) (by decide +kernel))))
    · exact sd_selP (n := 7) (hts _ (List.mem_append_right _ (List.mem_of_getElem? (i := 122) (by decide +kernel)))) (hts _ (List.mem_append_right _ (List.mem_of_getElem? (i := 381) (by decide +kernel)))) (hts _ (List.mem_append_right _ (List.mem_of_getElem? (i := 382) (by decide +kernel)))) (hts _ (List.mem_append_right _ (List.mem_of_getElem? (i := 797) (by decide +kernel))))
    · exact sd_selP (n := 7) (hts _ (List.mem_append_right _ (List.mem_of_getElem? (i := 122) (by decide +kernel)))) (hts _ (List.mem_append_right _ (List.mem_of_getElem? (i := 412) (by decide +kernel)))) (hts _ (List.mem_append_right _ (List.mem_of_getElem? (i := 413) (by decide +kernel)))) (hts _ (List.mem_append_right _ (List.mem_of_getElem? (i := 800) (by decide +kernel))))
    · exact sd_selP (n := 5) (hts _ (List.mem_append_right _ (List.mem_of_getElem? (i := 89) (by decide +kernel)))) (hts _ (List.mem_append_right _ (List.mem_of_getElem? (i := 393) (by decide +kernel)))) (hts _ (List.mem_append_right _ (List.mem_of_getElem? (i := 394) (by decide +kernel)))) (hts _ (List.mem_append_right _ (List.mem_of_getElem? (i := 799) (by decide +kernel))))
    · exact sd_selP (n := 5) (hts _ (List.mem_append_right _ (List.mem_of_getElem? (i := 89) (by decide +kernel)))) (hts _ (List.mem_append_right _ (List.mem_of_getElem? (i := 389) (by decide +kernel)))) (hts _ (List.mem_append_right _ (List.mem_of_getElem? (i := 390) (by decide +kernel)))) (hts _ (List.mem_append_right _ (List.mem_of_getElem? (i := 798) (by decide +kernel))))
    · exact sd_selP (n := 5) (hts _ (List.mem_append_right _ (List.mem_of_getElem? (i := 89) (by decide +kernel)))) (hts _ (List.mem_append_right _ (List.mem_of_getElem? (i := 381) (by decide +kernel)))) (hts _ (List.mem_append_right _ (List.mem_of_getElem? (i := 382) (by decide +kernel)))) (hts _ (List.mem_append_right _ (List.mem_of_getElem? (i := 797) (by decide +kernel))))
    · exact sd_selP (n := 5) (hts _ (List.mem_append_right _ (List.mem_of_getElem? (i := 89) (by decide +kernel)))) (hts _ (List.mem_append_right _ (List.mem_of_getElem? (i := 412) (by decide +kernel)))) (hts _ (List.mem_append_right _ (List.mem_of_getElem? (i := 413) (by decide +kernel)))) (hts _ (List.mem_append_right _ (List.mem_of_getElem? (i := 800) (by decide +kernel))))
  · exact hts w (List.mem_filter.mp hw).1
theorem lw_good : ∀ w ∈ sx_tbl, (w.onTables && w.keeps) = true ∨ ∃ ty, w = .arrayClass ty := by
  intro w hw
  rcases List.mem_append.mp hw with hw | hw
  · have h : sx_sels.all goodWord = true := by decide +kernel
    exact good_of_word (List.all_eq_true.mp h w hw)
  · exact good_of_word (List.mem_filter.mp hw).2
theorem gd_code {y : MethodName} {c : ByteArray} {n : Nat} {ret : Option FieldType} (h : Cond.code y c n ret ∈ sx_tbl) : GoodIn sx_tbl (Cond.code y c n ret :: sx_tbl) := by
  intro w hw
  rcases List.mem_cons.mp hw with rfl | hw
  · exact ⟨h, lw_good _ h⟩
  · exact ⟨hw, lw_good _ hw⟩
theorem gd_V {own : String} {idx : Nat} {C : String} {y : MethodName} {c : ByteArray} {n : Nat} {ret : Option FieldType} (h1 : Cond.methodLink own idx y ∈ sx_tbl) (h2 : Cond.instanceMethod y ∈ sx_tbl) (h3 : Cond.selects C y y ∈ sx_tbl) (h4 : Cond.initialized C ∈ sx_tbl) (h5 : Cond.code y c n ret ∈ sx_tbl) : GoodIn sx_tbl (wsV own idx C y (Cond.code y c n ret :: sx_tbl)) := by
  intro w hw
  rcases List.mem_append.mp hw with hw | hw
  · simp only [List.mem_cons, List.not_mem_nil, or_false] at hw
    rcases hw with rfl | rfl | rfl | rfl
    · exact ⟨h1, lw_good _ h1⟩
    · exact ⟨h2, lw_good _ h2⟩
    · exact ⟨h3, lw_good _ h3⟩
    · exact ⟨h4, lw_good _ h4⟩
  · exact gd_code h5 w hw
theorem gd_S {own : String} {idx : Nat} {y : MethodName} {c : ByteArray} {n : Nat} {ret : Option FieldType} (h1 : Cond.methodLink own idx y ∈ sx_tbl) (h2 : Cond.static y ∈ sx_tbl) (h4 : Cond.initialized y.cls ∈ sx_tbl) (h5 : Cond.code y c n ret ∈ sx_tbl) : GoodIn sx_tbl (va_wsS own idx y (Cond.code y c n ret :: sx_tbl)) := by
  intro w hw
  rcases List.mem_append.mp hw with hw | hw
  · simp only [List.mem_cons, List.not_mem_nil, or_false] at hw
    rcases hw with rfl | rfl | rfl
    · exact ⟨h1, lw_good _ h1⟩
    · exact ⟨h2, lw_good _ h2⟩
    · exact ⟨h4, lw_good _ h4⟩
  · exact gd_code h5 w hw
theorem gd_U {own : String} {idx : Nat} {C owner : String} {x y : MethodName} {c : ByteArray} {n : Nat} {ret : Option FieldType} (h1 : Cond.methodLink own idx x ∈ sx_tbl) (h2 : Cond.sameMethod x.cls owner x.name x.desc ∈ sx_tbl) (h3 : Cond.selects C x y ∈ sx_tbl) (h4 : Cond.instanceMethod y ∈ sx_tbl) (h6 : Cond.initialized y.cls ∈ sx_tbl) (h5 : Cond.code y c n ret ∈ sx_tbl) : GoodIn sx_tbl (va_wsU own idx C owner x y (Cond.code y c n ret :: sx_tbl)) := by
  intro w hw
  rcases List.mem_append.mp hw with hw | hw
  · simp only [List.mem_cons, List.not_mem_nil, or_false] at hw
    rcases hw with rfl | rfl | rfl | rfl | rfl
    · exact ⟨h1, lw_good _ h1⟩
    · exact ⟨h2, lw_good _ h2⟩
    · exact ⟨h3, lw_good _ h3⟩
    · exact ⟨h4, lw_good _ h4⟩
    · exact ⟨h6, lw_good _ h6⟩
  · exact gd_code h5 w hw
def T_Desk : u_T := fun k => match k with
  | 0 => ("ScriptDesk", "script", "[I", true)
  | 1 => ("ScriptDesk", "scriptLength", "I", false)
  | 2 => ("ScriptDesk", "next", "I", false)
  | 3 => ("ScriptDesk", "stoppedAt", "I", false)
  | 4 => ("ScriptDesk", "elements", "LScriptDesk$Elements;", true)
  | 5 => ("ScriptDesk", "tally", "LScriptDesk$Tally;", true)
  | 6 => ("ScriptDesk", "flow", "LScriptDesk$Flow;", true)
  | 7 => ("ScriptDesk", "signatures", "LScriptDesk$Signatures;", true)
  | 8 => ("ScriptDesk", "sha256", "LScriptDesk$BlockDigest;", true)
  | _ => ("ScriptDesk", "ripemd160", "LScriptDesk$BlockDigest;", true)
def t_Desk : Nat → FieldType := fun k => match k with
  | 0 => .array .int
  | 1 => .int
  | 2 => .int
  | 3 => .int
  | 4 => .object "ScriptDesk$Elements"
  | 5 => .object "ScriptDesk$Tally"
  | 6 => .object "ScriptDesk$Flow"
  | 7 => .object "ScriptDesk$Signatures"
  | 8 => .object "ScriptDesk$BlockDigest"
  | _ => .object "ScriptDesk$BlockDigest"
theorem n_Desk : ∀ a, a < 10 → ∀ b, b < 10 → a ≠ b → (T_Desk a).2.1 ≠ (T_Desk b).2.1 := by decide +kernel
theorem t_Desk_ok : ∀ k, k < 10 → parseFieldDescriptor (T_Desk k).2.2.1 = some (t_Desk k) := by decide +kernel
theorem iw_Desk : ∀ w ∈ u_ws "ScriptDesk" T_Desk 10, w ∈ sx_tbl := by decide +kernel
def T_Elements : u_T := fun k => match k with
  | 0 => ("ScriptDesk$Elements", "octets", "[I", true)
  | 1 => ("ScriptDesk$Elements", "lengths", "[I", true)
  | 2 => ("ScriptDesk$Elements", "order", "[I", true)
  | 3 => ("ScriptDesk$Elements", "side", "I", false)
  | _ => ("ScriptDesk$Elements", "depth", "I", false)
def t_Elements : Nat → FieldType := fun k => match k with
  | 0 => .array .int
  | 1 => .array .int
  | 2 => .array .int
  | 3 => .int
  | _ => .int
theorem n_Elements : ∀ a, a < 5 → ∀ b, b < 5 → a ≠ b → (T_Elements a).2.1 ≠ (T_Elements b).2.1 := by decide +kernel
theorem t_Elements_ok : ∀ k, k < 5 → parseFieldDescriptor (T_Elements k).2.2.1 = some (t_Elements k) := by decide +kernel
theorem iw_Elements : ∀ w ∈ u_ws "ScriptDesk$Elements" T_Elements 5, w ∈ sx_tbl := by decide +kernel
def T_Tally : u_T := fun k => match k with
  | _ => ("ScriptDesk$Tally", "operations", "I", false)
def t_Tally : Nat → FieldType := fun k => match k with
  | _ => .int
theorem n_Tally : ∀ a, a < 1 → ∀ b, b < 1 → a ≠ b → (T_Tally a).2.1 ≠ (T_Tally b).2.1 := by decide +kernel
theorem t_Tally_ok : ∀ k, k < 1 → parseFieldDescriptor (T_Tally k).2.2.1 = some (t_Tally k) := by decide +kernel
theorem iw_Tally : ∀ w ∈ u_ws "ScriptDesk$Tally" T_Tally 1, w ∈ sx_tbl := by decide +kernel
def T_Flow : u_T := fun k => match k with
  | 0 => ("ScriptDesk$Flow", "open", "I", false)
  | _ => ("ScriptDesk$Flow", "firstNotDone", "I", false)
def t_Flow : Nat → FieldType := fun k => match k with
  | 0 => .int
  | _ => .int
theorem n_Flow : ∀ a, a < 2 → ∀ b, b < 2 → a ≠ b → (T_Flow a).2.1 ≠ (T_Flow b).2.1 := by decide +kernel
theorem t_Flow_ok : ∀ k, k < 2 → parseFieldDescriptor (T_Flow k).2.2.1 = some (t_Flow k) := by decide +kernel
theorem iw_Flow : ∀ w ∈ u_ws "ScriptDesk$Flow" T_Flow 2, w ∈ sx_tbl := by decide +kernel
def T_Signatures : u_T := fun k => match k with
  | 0 => ("ScriptDesk$Signatures", "hidden", "I", false)
  | _ => ("ScriptDesk$Signatures", "asked", "I", false)
def t_Signatures : Nat → FieldType := fun k => match k with
  | 0 => .int
  | _ => .int
theorem n_Signatures : ∀ a, a < 2 → ∀ b, b < 2 → a ≠ b → (T_Signatures a).2.1 ≠ (T_Signatures b).2.1 := by decide +kernel
theorem t_Signatures_ok : ∀ k, k < 2 → parseFieldDescriptor (T_Signatures k).2.2.1 = some (t_Signatures k) := by decide +kernel
theorem iw_Signatures : ∀ w ∈ u_ws "ScriptDesk$Signatures" T_Signatures 2, w ∈ sx_tbl := by decide +kernel
def T_Sha256 : u_T := fun k => match k with
  | 0 => ("ScriptDesk$BlockDigest", "message", "[I", true)
  | 1 => ("ScriptDesk$BlockDigest", "result", "[I", true)
  | 2 => ("ScriptDesk$BlockDigest", "highFirst", "Z", true)
  | 3 => ("ScriptDesk$BlockDigest", "words", "[I", true)
  | _ => ("ScriptDesk$BlockDigest", "state", "[I", true)
def t_Sha256 : Nat → FieldType := fun k => match k with
  | 0 => .array .int
  | 1 => .array .int
  | 2 => .boolean
  | 3 => .array .int
  | _ => .array .int
theorem n_Sha256 : ∀ a, a < 5 → ∀ b, b < 5 → a ≠ b → (T_Sha256 a).2.1 ≠ (T_Sha256 b).2.1 := by decide +kernel
theorem t_Sha256_ok : ∀ k, k < 5 → parseFieldDescriptor (T_Sha256 k).2.2.1 = some (t_Sha256 k) := by decide +kernel
theorem iw_Sha256 : ∀ w ∈ u_ws "ScriptDesk$Sha256" T_Sha256 5, w ∈ sx_tbl := by decide +kernel
def T_Ripemd160 : u_T := fun k => match k with
  | 0 => ("ScriptDesk$BlockDigest", "message", "[I", true)
  | 1 => ("ScriptDesk$BlockDigest", "result", "[I", true)
  | 2 => ("ScriptDesk$BlockDigest", "highFirst", "Z", true)
  | 3 => ("ScriptDesk$BlockDigest", "words", "[I", true)
  | 4 => ("ScriptDesk$BlockDigest", "state", "[I", true)
  | 5 => ("ScriptDesk$Ripemd160", "left", "[I", true)
  | _ => ("ScriptDesk$Ripemd160", "right", "[I", true)
def t_Ripemd160 : Nat → FieldType := fun k => match k with
  | 0 => .array .int
  | 1 => .array .int
  | 2 => .boolean
  | 3 => .array .int
  | 4 => .array .int
  | 5 => .array .int
  | _ => .array .int
theorem n_Ripemd160 : ∀ a, a < 7 → ∀ b, b < 7 → a ≠ b → (T_Ripemd160 a).2.1 ≠ (T_Ripemd160 b).2.1 := by decide +kernel
theorem t_Ripemd160_ok : ∀ k, k < 7 → parseFieldDescriptor (T_Ripemd160 k).2.2.1 = some (t_Ripemd160 k) := by decide +kernel
theorem iw_Ripemd160 : ∀ w ∈ u_ws "ScriptDesk$Ripemd160" T_Ripemd160 7, w ∈ sx_tbl := by decide +kernel
def T_Model : u_T := fun k => match k with
  | 0 => ("ScriptDeskModel", "bytes", "[I", true)
  | 1 => ("ScriptDeskModel", "sizes", "[I", true)
  | 2 => ("ScriptDeskModel", "size", "I", false)
  | 3 => ("ScriptDeskModel", "side", "I", false)
  | 4 => ("ScriptDeskModel", "script", "[I", true)
  | 5 => ("ScriptDeskModel", "length", "I", false)
  | 6 => ("ScriptDeskModel", "secret", "J", false)
  | 7 => ("ScriptDeskModel", "fault", "I", false)
  | 8 => ("ScriptDeskModel", "place", "I", false)
  | 9 => ("ScriptDeskModel", "operations", "I", false)
  | 10 => ("ScriptDeskModel", "asked", "I", false)
  | 11 => ("ScriptDeskModel", "depth", "I", false)
  | 12 => ("ScriptDeskModel", "parts", "[I", true)
  | 13 => ("ScriptDeskModel", "number", "J", false)
  | 14 => ("ScriptDeskModel", "message", "[I", true)
  | 15 => ("ScriptDeskModel", "row", "[I", true)
  | 16 => ("ScriptDeskModel", "h", "[I", true)
  | _ => ("ScriptDeskModel", "v", "[I", true)
def t_Model : Nat → FieldType := fun k => match k with
  | 0 => .array .int
  | 1 => .array .int
  | 2 => .int
  | 3 => .int
  | 4 => .array .int
  | 5 => .int
  | 6 => .long
  | 7 => .int
  | 8 => .int
  | 9 => .int
  | 10 => .int
  | 11 => .int
  | 12 => .array .int
  | 13 => .long
  | 14 => .array .int
  | 15 => .array .int
  | 16 => .array .int
  | _ => .array .int
theorem n_Model : ∀ a, a < 18 → ∀ b, b < 18 → a ≠ b → (T_Model a).2.1 ≠ (T_Model b).2.1 := by decide +kernel
theorem t_Model_ok : ∀ k, k < 18 → parseFieldDescriptor (T_Model k).2.2.1 = some (t_Model k) := by decide +kernel
theorem iw_Model : ∀ w ∈ u_ws "ScriptDeskModel" T_Model 18, w ∈ sx_tbl := by decide +kernel
abbrev vwCl : List vw_C := [("ScriptDesk", T_Desk, 10), ("ScriptDesk$Elements", T_Elements, 5), ("ScriptDesk$Tally", T_Tally, 1), ("ScriptDesk$Flow", T_Flow, 2), ("ScriptDesk$Signatures", T_Signatures, 2), ("ScriptDesk$Sha256", T_Sha256, 5), ("ScriptDesk$Ripemd160", T_Ripemd160, 7), ("ScriptDeskModel", T_Model, 18)]
abbrev y_Desk_init : MethodName := ⟨"ScriptDesk", "<init>", "()V"⟩
abbrev w_Desk_init : List Cond := .code y_Desk_init prog_1_method_1_code 1 (Option.none : Option Jvm.ClassFile.FieldType) :: sx_tbl
abbrev y_Elements_init : MethodName := ⟨"ScriptDesk$Elements", "<init>", "()V"⟩
abbrev w_Elements_init : List Cond := .code y_Elements_init prog_3_method_1_code 2 (Option.none : Option Jvm.ClassFile.FieldType) :: sx_tbl
abbrev y_Tally_init : MethodName := ⟨"ScriptDesk$Tally", "<init>", "()V"⟩
abbrev w_Tally_init : List Cond := .code y_Tally_init prog_10_method_1_code 1 (Option.none : Option Jvm.ClassFile.FieldType) :: sx_tbl
abbrev y_Flow_init : MethodName := ⟨"ScriptDesk$Flow", "<init>", "()V"⟩
abbrev w_Flow_init : List Cond := .code y_Flow_init prog_4_method_1_code 1 (Option.none : Option Jvm.ClassFile.FieldType) :: sx_tbl
abbrev y_Signatures_init : MethodName := ⟨"ScriptDesk$Signatures", "<init>", "()V"⟩
abbrev w_Signatures_init : List Cond := .code y_Signatures_init prog_9_method_1_code 1 (Option.none : Option Jvm.ClassFile.FieldType) :: sx_tbl
abbrev y_Sha256_init : MethodName := ⟨"ScriptDesk$Sha256", "<init>", "()V"⟩
abbrev w_Sha256_init : List Cond := .code y_Sha256_init prog_8_method_1_code 1 (Option.none : Option Jvm.ClassFile.FieldType) :: sx_tbl
abbrev y_BlockDigest_init : MethodName := ⟨"ScriptDesk$BlockDigest", "<init>", "(ZII)V"⟩
abbrev w_BlockDigest_init : List Cond := .code y_BlockDigest_init prog_2_method_1_code 4 (Option.none : Option Jvm.ClassFile.FieldType) :: sx_tbl
abbrev y_Ripemd160_init : MethodName := ⟨"ScriptDesk$Ripemd160", "<init>", "()V"⟩
abbrev w_Ripemd160_init : List Cond := .code y_Ripemd160_init prog_7_method_1_code 1 (Option.none : Option Jvm.ClassFile.FieldType) :: sx_tbl
abbrev y_Desk_put : MethodName := ⟨"ScriptDesk", "put", "(JI)Z"⟩
abbrev w_Desk_put : List Cond := .code y_Desk_put prog_1_method_2_code 5 (Option.some Jvm.ClassFile.FieldType.boolean) :: sx_tbl
abbrev y_Desk_secret : MethodName := ⟨"ScriptDesk", "secret", "(I)V"⟩
abbrev w_Desk_secret : List Cond := .code y_Desk_secret prog_1_method_3_code 2 (Option.none : Option Jvm.ClassFile.FieldType) :: sx_tbl
abbrev y_Desk_run : MethodName := ⟨"ScriptDesk", "run", "()I"⟩
abbrev w_Desk_run : List Cond := .code y_Desk_run prog_1_method_4_code 6 (Option.some Jvm.ClassFile.FieldType.int) :: sx_tbl
abbrev y_Desk_restart : MethodName := ⟨"ScriptDesk", "restart", "()V"⟩
abbrev w_Desk_restart : List Cond := .code y_Desk_restart prog_1_method_12_code 1 (Option.none : Option Jvm.ClassFile.FieldType) :: sx_tbl
abbrev y_Flow_restart : MethodName := ⟨"ScriptDesk$Flow", "restart", "()V"⟩
abbrev w_Flow_restart : List Cond := .code y_Flow_restart prog_4_method_2_code 1 (Option.none : Option Jvm.ClassFile.FieldType) :: sx_tbl
abbrev y_Desk_pushFromScript : MethodName := ⟨"ScriptDesk", "pushFromScript", "(III)I"⟩
abbrev w_Desk_pushFromScript : List Cond := .code y_Desk_pushFromScript prog_1_method_13_code 7 (Option.some Jvm.ClassFile.FieldType.int) :: sx_tbl
abbrev y_Flow_isDone : MethodName := ⟨"ScriptDesk$Flow", "isDone", "()Z"⟩
abbrev w_Flow_isDone : List Cond := .code y_Flow_isDone prog_4_method_4_code 1 (Option.some Jvm.ClassFile.FieldType.boolean) :: sx_tbl
abbrev y_Elements_push : MethodName := ⟨"ScriptDesk$Elements", "push", "([III)V"⟩
abbrev w_Elements_push : List Cond := .code y_Elements_push prog_3_method_11_code 5 (Option.none : Option Jvm.ClassFile.FieldType) :: sx_tbl
abbrev y_Desk_perform : MethodName := ⟨"ScriptDesk", "perform", "(I)I"⟩
abbrev w_Desk_perform : List Cond := .code y_Desk_perform prog_1_method_14_code 2 (Option.some Jvm.ClassFile.FieldType.int) :: sx_tbl
abbrev y_Tally_passesLimit : MethodName := ⟨"ScriptDesk$Tally", "passesLimit", "(I)Z"⟩
abbrev w_Tally_passesLimit : List Cond := .code y_Tally_passesLimit prog_10_method_2_code 2 (Option.some Jvm.ClassFile.FieldType.boolean) :: sx_tbl
abbrev y_Desk_enterPart : MethodName := ⟨"ScriptDesk", "enterPart", "(Z)I"⟩
abbrev w_Desk_enterPart : List Cond := .code y_Desk_enterPart prog_1_method_15_code 3 (Option.some Jvm.ClassFile.FieldType.int) :: sx_tbl
abbrev y_Flow_enter : MethodName := ⟨"ScriptDesk$Flow", "enter", "(Z)V"⟩
abbrev w_Flow_enter : List Cond := .code y_Flow_enter prog_4_method_5_code 2 (Option.none : Option Jvm.ClassFile.FieldType) :: sx_tbl
abbrev y_Elements_topHolds : MethodName := ⟨"ScriptDesk$Elements", "topHolds", "()Z"⟩
abbrev w_Elements_topHolds : List Cond := .code y_Elements_topHolds prog_3_method_5_code 3 (Option.some Jvm.ClassFile.FieldType.boolean) :: sx_tbl
abbrev y_Elements_lengthAt : MethodName := ⟨"ScriptDesk$Elements", "lengthAt", "(I)I"⟩
abbrev w_Elements_lengthAt : List Cond := .code y_Elements_lengthAt prog_3_method_3_code 2 (Option.some Jvm.ClassFile.FieldType.int) :: sx_tbl
abbrev y_Elements_octetAt : MethodName := ⟨"ScriptDesk$Elements", "octetAt", "(II)I"⟩
abbrev w_Elements_octetAt : List Cond := .code y_Elements_octetAt prog_3_method_4_code 4 (Option.some Jvm.ClassFile.FieldType.int) :: sx_tbl
abbrev y_Elements_drop : MethodName := ⟨"ScriptDesk$Elements", "drop", "(I)V"⟩
abbrev w_Elements_drop : List Cond := .code y_Elements_drop prog_3_method_9_code 2 (Option.none : Option Jvm.ClassFile.FieldType) :: sx_tbl
abbrev y_Desk_leavePart : MethodName := ⟨"ScriptDesk", "leavePart", "(Z)I"⟩
abbrev w_Desk_leavePart : List Cond := .code y_Desk_leavePart prog_1_method_16_code 2 (Option.some Jvm.ClassFile.FieldType.int) :: sx_tbl
abbrev y_Flow_isInside : MethodName := ⟨"ScriptDesk$Flow", "isInside", "()Z"⟩
abbrev w_Flow_isInside : List Cond := .code y_Flow_isInside prog_4_method_3_code 1 (Option.some Jvm.ClassFile.FieldType.boolean) :: sx_tbl
abbrev y_Flow_end : MethodName := ⟨"ScriptDesk$Flow", "end", "()V"⟩
abbrev w_Flow_end : List Cond := .code y_Flow_end prog_4_method_7_code 1 (Option.none : Option Jvm.ClassFile.FieldType) :: sx_tbl
abbrev y_Flow_turn : MethodName := ⟨"ScriptDesk$Flow", "turn", "()V"⟩
abbrev w_Flow_turn : List Cond := .code y_Flow_turn prog_4_method_6_code 1 (Option.none : Option Jvm.ClassFile.FieldType) :: sx_tbl
abbrev y_Desk_pushSmallNumber : MethodName := ⟨"ScriptDesk", "pushSmallNumber", "(I)I"⟩
abbrev w_Desk_pushSmallNumber : List Cond := .code y_Desk_pushSmallNumber prog_1_method_17_code 2 (Option.some Jvm.ClassFile.FieldType.int) :: sx_tbl
abbrev y_Elements_pushNumber : MethodName := ⟨"ScriptDesk$Elements", "pushNumber", "(J)V"⟩
abbrev w_Elements_pushNumber : List Cond := .code y_Elements_pushNumber prog_3_method_14_code 8 (Option.none : Option Jvm.ClassFile.FieldType) :: sx_tbl
abbrev y_Desk_performPlain : MethodName := ⟨"ScriptDesk", "performPlain", "(I)I"⟩
abbrev w_Desk_performPlain : List Cond := .code y_Desk_performPlain prog_1_method_18_code 2 (Option.some Jvm.ClassFile.FieldType.int) :: sx_tbl
abbrev y_Elements_takeTrue : MethodName := ⟨"ScriptDesk$Elements", "takeTrue", "()I"⟩
abbrev w_Elements_takeTrue : List Cond := .code y_Elements_takeTrue prog_3_method_19_code 1 (Option.some Jvm.ClassFile.FieldType.int) :: sx_tbl
abbrev y_Elements_toSide : MethodName := ⟨"ScriptDesk$Elements", "toSide", "()I"⟩
abbrev w_Elements_toSide : List Cond := .code y_Elements_toSide prog_3_method_17_code 1 (Option.some Jvm.ClassFile.FieldType.int) :: sx_tbl
abbrev y_Elements_swapSlots : MethodName := ⟨"ScriptDesk$Elements", "swapSlots", "(II)V"⟩
abbrev w_Elements_swapSlots : List Cond := .code y_Elements_swapSlots prog_3_method_20_code 4 (Option.none : Option Jvm.ClassFile.FieldType) :: sx_tbl
abbrev y_Elements_fromSide : MethodName := ⟨"ScriptDesk$Elements", "fromSide", "()I"⟩
abbrev w_Elements_fromSide : List Cond := .code y_Elements_fromSide prog_3_method_18_code 1 (Option.some Jvm.ClassFile.FieldType.int) :: sx_tbl
abbrev y_Moves_perform : MethodName := ⟨"ScriptDesk$Moves", "perform", "(LScriptDesk$Elements;I)I"⟩
abbrev w_Moves_perform : List Cond := .code y_Moves_perform prog_5_method_2_code 3 (Option.some Jvm.ClassFile.FieldType.int) :: sx_tbl
abbrev y_Moves_pick : MethodName := ⟨"ScriptDesk$Moves", "pick", "(LScriptDesk$Elements;Z)I"⟩
abbrev w_Moves_pick : List Cond := .code y_Moves_pick prog_5_method_4_code 5 (Option.some Jvm.ClassFile.FieldType.int) :: sx_tbl
abbrev y_Elements_faultOfNumber : MethodName := ⟨"ScriptDesk$Elements", "faultOfNumber", "(I)I"⟩
abbrev w_Elements_faultOfNumber : List Cond := .code y_Elements_faultOfNumber prog_3_method_7_code 2 (Option.some Jvm.ClassFile.FieldType.int) :: sx_tbl
abbrev y_Elements_numberAt : MethodName := ⟨"ScriptDesk$Elements", "numberAt", "(I)J"⟩
abbrev w_Elements_numberAt : List Cond := .code y_Elements_numberAt prog_3_method_8_code 6 (Option.some Jvm.ClassFile.FieldType.long) :: sx_tbl
abbrev y_Elements_lift : MethodName := ⟨"ScriptDesk$Elements", "lift", "(I)V"⟩
abbrev w_Elements_lift : List Cond := .code y_Elements_lift prog_3_method_16_code 5 (Option.none : Option Jvm.ClassFile.FieldType) :: sx_tbl
abbrev y_Elements_pushCopy : MethodName := ⟨"ScriptDesk$Elements", "pushCopy", "(I)V"⟩
abbrev w_Elements_pushCopy : List Cond := .code y_Elements_pushCopy prog_3_method_12_code 3 (Option.none : Option Jvm.ClassFile.FieldType) :: sx_tbl
abbrev y_Moves_operandsOf : MethodName := ⟨"ScriptDesk$Moves", "operandsOf", "(I)I"⟩
abbrev w_Moves_operandsOf : List Cond := .code y_Moves_operandsOf prog_5_method_3_code 1 (Option.some Jvm.ClassFile.FieldType.int) :: sx_tbl
abbrev y_Moves_look : MethodName := ⟨"ScriptDesk$Moves", "look", "(LScriptDesk$Elements;I)I"⟩
abbrev w_Moves_look : List Cond := .code y_Moves_look prog_5_method_7_code 3 (Option.some Jvm.ClassFile.FieldType.int) :: sx_tbl
abbrev y_Elements_areSame : MethodName := ⟨"ScriptDesk$Elements", "areSame", "(II)Z"⟩
abbrev w_Elements_areSame : List Cond := .code y_Elements_areSame prog_3_method_6_code 5 (Option.some Jvm.ClassFile.FieldType.boolean) :: sx_tbl
abbrev y_Elements_replaceByTruth : MethodName := ⟨"ScriptDesk$Elements", "replaceByTruth", "(IZ)V"⟩
abbrev w_Elements_replaceByTruth : List Cond := .code y_Elements_replaceByTruth prog_3_method_15_code 3 (Option.none : Option Jvm.ClassFile.FieldType) :: sx_tbl
abbrev y_Moves_moveGroups : MethodName := ⟨"ScriptDesk$Moves", "moveGroups", "(LScriptDesk$Elements;I)V"⟩
abbrev w_Moves_moveGroups : List Cond := .code y_Moves_moveGroups prog_5_method_5_code 2 (Option.none : Option Jvm.ClassFile.FieldType) :: sx_tbl
abbrev y_Elements_pushCopies : MethodName := ⟨"ScriptDesk$Elements", "pushCopies", "(II)V"⟩
abbrev w_Elements_pushCopies : List Cond := .code y_Elements_pushCopies prog_3_method_13_code 4 (Option.none : Option Jvm.ClassFile.FieldType) :: sx_tbl
abbrev y_Moves_moveSingles : MethodName := ⟨"ScriptDesk$Moves", "moveSingles", "(LScriptDesk$Elements;I)V"⟩
abbrev w_Moves_moveSingles : List Cond := .code y_Moves_moveSingles prog_5_method_6_code 2 (Option.none : Option Jvm.ClassFile.FieldType) :: sx_tbl
abbrev y_Numbers_perform : MethodName := ⟨"ScriptDesk$Numbers", "perform", "(LScriptDesk$Elements;I)I"⟩
abbrev w_Numbers_perform : List Cond := .code y_Numbers_perform prog_6_method_2_code 5 (Option.some Jvm.ClassFile.FieldType.int) :: sx_tbl
abbrev y_Numbers_operandsOf : MethodName := ⟨"ScriptDesk$Numbers", "operandsOf", "(I)I"⟩
abbrev w_Numbers_operandsOf : List Cond := .code y_Numbers_operandsOf prog_6_method_3_code 1 (Option.some Jvm.ClassFile.FieldType.int) :: sx_tbl
abbrev y_Numbers_resultOf : MethodName := ⟨"ScriptDesk$Numbers", "resultOf", "(LScriptDesk$Elements;II)J"⟩
abbrev w_Numbers_resultOf : List Cond := .code y_Numbers_resultOf prog_6_method_4_code 9 (Option.some Jvm.ClassFile.FieldType.long) :: sx_tbl
abbrev y_Numbers_ofOne : MethodName := ⟨"ScriptDesk$Numbers", "ofOne", "(IJ)J"⟩
abbrev w_Numbers_ofOne : List Cond := .code y_Numbers_ofOne prog_6_method_5_code 3 (Option.some Jvm.ClassFile.FieldType.long) :: sx_tbl
abbrev y_Numbers_compare : MethodName := ⟨"ScriptDesk$Numbers", "compare", "(IJJ)Z"⟩
abbrev w_Numbers_compare : List Cond := .code y_Numbers_compare prog_6_method_6_code 5 (Option.some Jvm.ClassFile.FieldType.boolean) :: sx_tbl
abbrev y_Desk_performDigest : MethodName := ⟨"ScriptDesk", "performDigest", "(I)I"⟩
abbrev w_Desk_performDigest : List Cond := .code y_Desk_performDigest prog_1_method_19_code 2 (Option.some Jvm.ClassFile.FieldType.int) :: sx_tbl
abbrev y_BlockDigest_replaceTop : MethodName := ⟨"ScriptDesk$BlockDigest", "replaceTop", "(LScriptDesk$Elements;)V"⟩
abbrev w_BlockDigest_replaceTop : List Cond := .code y_BlockDigest_replaceTop prog_2_method_4_code 5 (Option.none : Option Jvm.ClassFile.FieldType) :: sx_tbl
abbrev y_BlockDigest_pad : MethodName := ⟨"ScriptDesk$BlockDigest", "pad", "(LScriptDesk$Elements;I)I"⟩
abbrev w_BlockDigest_pad : List Cond := .code y_BlockDigest_pad prog_2_method_5_code 5 (Option.some Jvm.ClassFile.FieldType.int) :: sx_tbl
abbrev y_Arrays_fill : MethodName := ⟨"java/util/Arrays", "fill", "([II)V"⟩
abbrev w_Arrays_fill : List Cond := .code y_Arrays_fill prog_15_method_103_code 4 (Option.none : Option Jvm.ClassFile.FieldType) :: sx_tbl
abbrev y_BlockDigest_write : MethodName := ⟨"ScriptDesk$BlockDigest", "write", "(I[II)V"⟩
abbrev w_BlockDigest_write : List Cond := .code y_BlockDigest_write prog_2_method_7_code 5 (Option.none : Option Jvm.ClassFile.FieldType) :: sx_tbl
abbrev y_BlockDigest_shiftOf : MethodName := ⟨"ScriptDesk$BlockDigest", "shiftOf", "(I)I"⟩
abbrev w_BlockDigest_shiftOf : List Cond := .code y_BlockDigest_shiftOf prog_2_method_8_code 2 (Option.some Jvm.ClassFile.FieldType.int) :: sx_tbl
abbrev y_Ripemd160_begin : MethodName := ⟨"ScriptDesk$Ripemd160", "begin", "()V"⟩
abbrev w_Ripemd160_begin : List Cond := .code y_Ripemd160_begin prog_7_method_2_code 1 (Option.none : Option Jvm.ClassFile.FieldType) :: sx_tbl
abbrev y_Sha256_begin : MethodName := ⟨"ScriptDesk$Sha256", "begin", "()V"⟩
abbrev w_Sha256_begin : List Cond := .code y_Sha256_begin prog_8_method_2_code 1 (Option.none : Option Jvm.ClassFile.FieldType) :: sx_tbl
abbrev y_BlockDigest_readBlock : MethodName := ⟨"ScriptDesk$BlockDigest", "readBlock", "(I)V"⟩
abbrev w_BlockDigest_readBlock : List Cond := .code y_BlockDigest_readBlock prog_2_method_6_code 5 (Option.none : Option Jvm.ClassFile.FieldType) :: sx_tbl
abbrev y_Ripemd160_mix : MethodName := ⟨"ScriptDesk$Ripemd160", "mix", "()V"⟩
abbrev w_Ripemd160_mix : List Cond := .code y_Ripemd160_mix prog_7_method_3_code 3 (Option.none : Option Jvm.ClassFile.FieldType) :: sx_tbl
abbrev y_Ripemd160_step : MethodName := ⟨"ScriptDesk$Ripemd160", "step", "([IIII)V"⟩
abbrev w_Ripemd160_step : List Cond := .code y_Ripemd160_step prog_7_method_4_code 6 (Option.none : Option Jvm.ClassFile.FieldType) :: sx_tbl
abbrev y_Ripemd160_blend : MethodName := ⟨"ScriptDesk$Ripemd160", "blend", "(IIII)I"⟩
abbrev w_Ripemd160_blend : List Cond := .code y_Ripemd160_blend prog_7_method_5_code 4 (Option.some Jvm.ClassFile.FieldType.int) :: sx_tbl
abbrev y_Ripemd160_turned : MethodName := ⟨"ScriptDesk$Ripemd160", "turned", "(II)I"⟩
abbrev w_Ripemd160_turned : List Cond := .code y_Ripemd160_turned prog_7_method_6_code 2 (Option.some Jvm.ClassFile.FieldType.int) :: sx_tbl
abbrev y_Sha256_mix : MethodName := ⟨"ScriptDesk$Sha256", "mix", "()V"⟩
abbrev w_Sha256_mix : List Cond := .code y_Sha256_mix prog_8_method_3_code 14 (Option.none : Option Jvm.ClassFile.FieldType) :: sx_tbl
abbrev y_Sha256_spreadWords : MethodName := ⟨"ScriptDesk$Sha256", "spreadWords", "()V"⟩
abbrev w_Sha256_spreadWords : List Cond := .code y_Sha256_spreadWords prog_8_method_4_code 6 (Option.none : Option Jvm.ClassFile.FieldType) :: sx_tbl
abbrev y_Sha256_turned : MethodName := ⟨"ScriptDesk$Sha256", "turned", "(II)I"⟩
abbrev w_Sha256_turned : List Cond := .code y_Sha256_turned prog_8_method_5_code 2 (Option.some Jvm.ClassFile.FieldType.int) :: sx_tbl
abbrev y_Signatures_perform : MethodName := ⟨"ScriptDesk$Signatures", "perform", "(LScriptDesk$Elements;LScriptDesk$Tally;I)I"⟩
abbrev w_Signatures_perform : List Cond := .code y_Signatures_perform prog_9_method_2_code 6 (Option.some Jvm.ClassFile.FieldType.int) :: sx_tbl
abbrev y_Signatures_askOne : MethodName := ⟨"ScriptDesk$Signatures", "askOne", "(LScriptDesk$Elements;)I"⟩
abbrev w_Signatures_askOne : List Cond := .code y_Signatures_askOne prog_9_method_3_code 3 (Option.some Jvm.ClassFile.FieldType.int) :: sx_tbl
abbrev y_Signatures_fits : MethodName := ⟨"ScriptDesk$Signatures", "fits", "(LScriptDesk$Elements;II)Z"⟩
abbrev w_Signatures_fits : List Cond := .code y_Signatures_fits prog_9_method_7_code 12 (Option.some Jvm.ClassFile.FieldType.boolean) :: sx_tbl
abbrev y_Signatures_askMany : MethodName := ⟨"ScriptDesk$Signatures", "askMany", "(LScriptDesk$Elements;LScriptDesk$Tally;)I"⟩
abbrev w_Signatures_askMany : List Cond := .code y_Signatures_askMany prog_9_method_4_code 8 (Option.some Jvm.ClassFile.FieldType.int) :: sx_tbl
abbrev y_Signatures_faultOfAmount : MethodName := ⟨"ScriptDesk$Signatures", "faultOfAmount", "(LScriptDesk$Elements;II)I"⟩
abbrev w_Signatures_faultOfAmount : List Cond := .code y_Signatures_faultOfAmount prog_9_method_5_code 6 (Option.some Jvm.ClassFile.FieldType.int) :: sx_tbl
abbrev y_Signatures_allFit : MethodName := ⟨"ScriptDesk$Signatures", "allFit", "(LScriptDesk$Elements;II)Z"⟩
abbrev w_Signatures_allFit : List Cond := .code y_Signatures_allFit prog_9_method_6_code 6 (Option.some Jvm.ClassFile.FieldType.boolean) :: sx_tbl
abbrev y_Elements_areTooMany : MethodName := ⟨"ScriptDesk$Elements", "areTooMany", "()Z"⟩
abbrev w_Elements_areTooMany : List Cond := .code y_Elements_areTooMany prog_3_method_2_code 1 (Option.some Jvm.ClassFile.FieldType.boolean) :: sx_tbl
abbrev y_Elements_dropSide : MethodName := ⟨"ScriptDesk$Elements", "dropSide", "()V"⟩
abbrev w_Elements_dropSide : List Cond := .code y_Elements_dropSide prog_3_method_10_code 1 (Option.none : Option Jvm.ClassFile.FieldType) :: sx_tbl
abbrev y_Desk_place : MethodName := ⟨"ScriptDesk", "place", "()I"⟩
abbrev w_Desk_place : List Cond := .code y_Desk_place prog_1_method_5_code 1 (Option.some Jvm.ClassFile.FieldType.int) :: sx_tbl
abbrev y_Desk_clear : MethodName := ⟨"ScriptDesk", "clear", "()I"⟩
abbrev w_Desk_clear : List Cond := .code y_Desk_clear prog_1_method_6_code 2 (Option.some Jvm.ClassFile.FieldType.int) :: sx_tbl
abbrev y_Desk_size : MethodName := ⟨"ScriptDesk", "size", "()I"⟩
abbrev w_Desk_size : List Cond := .code y_Desk_size prog_1_method_7_code 1 (Option.some Jvm.ClassFile.FieldType.int) :: sx_tbl
abbrev y_Desk_isTrue : MethodName := ⟨"ScriptDesk", "isTrue", "()Z"⟩
abbrev w_Desk_isTrue : List Cond := .code y_Desk_isTrue prog_1_method_8_code 1 (Option.some Jvm.ClassFile.FieldType.boolean) :: sx_tbl
abbrev y_Desk_bytes : MethodName := ⟨"ScriptDesk", "bytes", "(I)I"⟩
abbrev w_Desk_bytes : List Cond := .code y_Desk_bytes prog_1_method_9_code 2 (Option.some Jvm.ClassFile.FieldType.int) :: sx_tbl
abbrev y_Desk_byteOf : MethodName := ⟨"ScriptDesk", "byteOf", "(II)I"⟩
abbrev w_Desk_byteOf : List Cond := .code y_Desk_byteOf prog_1_method_10_code 3 (Option.some Jvm.ClassFile.FieldType.int) :: sx_tbl
abbrev y_Desk_count : MethodName := ⟨"ScriptDesk", "count", "(I)I"⟩
abbrev w_Desk_count : List Cond := .code y_Desk_count prog_1_method_11_code 2 (Option.some Jvm.ClassFile.FieldType.int) :: sx_tbl
abbrev y_Model_init : MethodName := ⟨"ScriptDeskModel", "<init>", "()V"⟩
abbrev w_Model_init : List Cond := .code y_Model_init prog_12_method_1_code 1 (Option.none : Option Jvm.ClassFile.FieldType) :: sx_tbl
abbrev y_Model_put : MethodName := ⟨"ScriptDeskModel", "put", "(JI)Z"⟩
abbrev w_Model_put : List Cond := .code y_Model_put prog_12_method_2_code 5 (Option.some Jvm.ClassFile.FieldType.boolean) :: sx_tbl
abbrev y_Model_secret : MethodName := ⟨"ScriptDeskModel", "secret", "(I)V"⟩
abbrev w_Model_secret : List Cond := .code y_Model_secret prog_12_method_3_code 2 (Option.none : Option Jvm.ClassFile.FieldType) :: sx_tbl
abbrev y_Model_run : MethodName := ⟨"ScriptDeskModel", "run", "()I"⟩
abbrev w_Model_run : List Cond := .code y_Model_run prog_12_method_38_code 3 (Option.some Jvm.ClassFile.FieldType.int) :: sx_tbl
abbrev y_Model_next : MethodName := ⟨"ScriptDeskModel", "next", "(I)I"⟩
abbrev w_Model_next : List Cond := .code y_Model_next prog_12_method_37_code 6 (Option.some Jvm.ClassFile.FieldType.int) :: sx_tbl
abbrev y_Model_isDone : MethodName := ⟨"ScriptDeskModel", "isDone", "()Z"⟩
abbrev w_Model_isDone : List Cond := .code y_Model_isDone prog_12_method_24_code 1 (Option.some Jvm.ClassFile.FieldType.boolean) :: sx_tbl
abbrev y_Model_fails : MethodName := ⟨"ScriptDeskModel", "fails", "(I)V"⟩
abbrev w_Model_fails : List Cond := .code y_Model_fails prog_12_method_11_code 2 (Option.none : Option Jvm.ClassFile.FieldType) :: sx_tbl
abbrev y_Model_pushes : MethodName := ⟨"ScriptDeskModel", "pushes", "(IIZ)I"⟩
abbrev w_Model_pushes : List Cond := .code y_Model_pushes prog_12_method_36_code 5 (Option.some Jvm.ClassFile.FieldType.int) :: sx_tbl
abbrev y_Model_flow : MethodName := ⟨"ScriptDeskModel", "flow", "(I)V"⟩
abbrev w_Model_flow : List Cond := .code y_Model_flow prog_12_method_25_code 3 (Option.none : Option Jvm.ClassFile.FieldType) :: sx_tbl
abbrev y_Model_has : MethodName := ⟨"ScriptDeskModel", "has", "(I)Z"⟩
abbrev w_Model_has : List Cond := .code y_Model_has prog_12_method_12_code 2 (Option.some Jvm.ClassFile.FieldType.boolean) :: sx_tbl
abbrev y_Model_isTrueRow : MethodName := ⟨"ScriptDeskModel", "isTrueRow", "(I)Z"⟩
abbrev w_Model_isTrueRow : List Cond := .code y_Model_isTrueRow prog_12_method_9_code 5 (Option.some Jvm.ClassFile.FieldType.boolean) :: sx_tbl
abbrev y_Model_pushNumber : MethodName := ⟨"ScriptDeskModel", "pushNumber", "(J)V"⟩
abbrev w_Model_pushNumber : List Cond := .code y_Model_pushNumber prog_12_method_7_code 6 (Option.none : Option Jvm.ClassFile.FieldType) :: sx_tbl
abbrev y_Model_operation : MethodName := ⟨"ScriptDeskModel", "operation", "(I)V"⟩
abbrev w_Model_operation : List Cond := .code y_Model_operation prog_12_method_35_code 2 (Option.none : Option Jvm.ClassFile.FieldType) :: sx_tbl
abbrev y_Model_moves : MethodName := ⟨"ScriptDeskModel", "moves", "(I)V"⟩
abbrev w_Model_moves : List Cond := .code y_Model_moves prog_12_method_30_code 2 (Option.none : Option Jvm.ClassFile.FieldType) :: sx_tbl
abbrev y_Model_copy : MethodName := ⟨"ScriptDeskModel", "copy", "(II)V"⟩
abbrev w_Model_copy : List Cond := .code y_Model_copy prog_12_method_4_code 4 (Option.none : Option Jvm.ClassFile.FieldType) :: sx_tbl
abbrev y_Model_push : MethodName := ⟨"ScriptDeskModel", "push", "(I)V"⟩
abbrev w_Model_push : List Cond := .code y_Model_push prog_12_method_6_code 2 (Option.none : Option Jvm.ClassFile.FieldType) :: sx_tbl
abbrev y_Model_again : MethodName := ⟨"ScriptDeskModel", "again", "(III)V"⟩
abbrev w_Model_again : List Cond := .code y_Model_again prog_12_method_26_code 6 (Option.none : Option Jvm.ClassFile.FieldType) :: sx_tbl
abbrev y_Model_turn : MethodName := ⟨"ScriptDeskModel", "turn", "(II)V"⟩
abbrev w_Model_turn : List Cond := .code y_Model_turn prog_12_method_27_code 5 (Option.none : Option Jvm.ClassFile.FieldType) :: sx_tbl
abbrev y_Model_top : MethodName := ⟨"ScriptDeskModel", "top", "(I)I"⟩
abbrev w_Model_top : List Cond := .code y_Model_top prog_12_method_5_code 2 (Option.some Jvm.ClassFile.FieldType.int) :: sx_tbl
abbrev y_Model_takeOut : MethodName := ⟨"ScriptDeskModel", "takeOut", "(I)V"⟩
abbrev w_Model_takeOut : List Cond := .code y_Model_takeOut prog_12_method_28_code 3 (Option.none : Option Jvm.ClassFile.FieldType) :: sx_tbl
abbrev y_Model_pick : MethodName := ⟨"ScriptDeskModel", "pick", "(Z)V"⟩
abbrev w_Model_pick : List Cond := .code y_Model_pick prog_12_method_29_code 3 (Option.none : Option Jvm.ClassFile.FieldType) :: sx_tbl
abbrev y_Model_reads : MethodName := ⟨"ScriptDeskModel", "reads", "(I)Z"⟩
abbrev w_Model_reads : List Cond := .code y_Model_reads prog_12_method_13_code 5 (Option.some Jvm.ClassFile.FieldType.boolean) :: sx_tbl
abbrev y_Model_equal : MethodName := ⟨"ScriptDeskModel", "equal", "(Z)V"⟩
abbrev w_Model_equal : List Cond := .code y_Model_equal prog_12_method_31_code 3 (Option.none : Option Jvm.ClassFile.FieldType) :: sx_tbl
abbrev y_Model_isSame : MethodName := ⟨"ScriptDeskModel", "isSame", "(II)Z"⟩
abbrev w_Model_isSame : List Cond := .code y_Model_isSame prog_12_method_10_code 5 (Option.some Jvm.ClassFile.FieldType.boolean) :: sx_tbl
abbrev y_Model_pushTruth : MethodName := ⟨"ScriptDeskModel", "pushTruth", "(Z)V"⟩
abbrev w_Model_pushTruth : List Cond := .code y_Model_pushTruth prog_12_method_8_code 2 (Option.none : Option Jvm.ClassFile.FieldType) :: sx_tbl
abbrev y_Model_mustBeTrue : MethodName := ⟨"ScriptDeskModel", "mustBeTrue", "()V"⟩
abbrev w_Model_mustBeTrue : List Cond := .code y_Model_mustBeTrue prog_12_method_14_code 1 (Option.none : Option Jvm.ClassFile.FieldType) :: sx_tbl
abbrev y_Model_numberOfOne : MethodName := ⟨"ScriptDeskModel", "numberOfOne", "(I)V"⟩
abbrev w_Model_numberOfOne : List Cond := .code y_Model_numberOfOne prog_12_method_32_code 4 (Option.none : Option Jvm.ClassFile.FieldType) :: sx_tbl
abbrev y_Model_numberOfTwo : MethodName := ⟨"ScriptDeskModel", "numberOfTwo", "(I)V"⟩
abbrev w_Model_numberOfTwo : List Cond := .code y_Model_numberOfTwo prog_12_method_33_code 6 (Option.none : Option Jvm.ClassFile.FieldType) :: sx_tbl
abbrev y_Model_digest : MethodName := ⟨"ScriptDeskModel", "digest", "(I)V"⟩
abbrev w_Model_digest : List Cond := .code y_Model_digest prog_12_method_34_code 2 (Option.none : Option Jvm.ClassFile.FieldType) :: sx_tbl
abbrev y_Model_wide : MethodName := ⟨"ScriptDeskModel", "wide", "(I)V"⟩
abbrev w_Model_wide : List Cond := .code y_Model_wide prog_12_method_17_code 8 (Option.none : Option Jvm.ClassFile.FieldType) :: sx_tbl
abbrev y_Model_pad : MethodName := ⟨"ScriptDeskModel", "pad", "(IZ)I"⟩
abbrev w_Model_pad : List Cond := .code y_Model_pad prog_12_method_15_code 7 (Option.some Jvm.ClassFile.FieldType.int) :: sx_tbl
abbrev y_Model_right : MethodName := ⟨"ScriptDeskModel", "right", "(II)I"⟩
abbrev w_Model_right : List Cond := .code y_Model_right prog_12_method_16_code 2 (Option.some Jvm.ClassFile.FieldType.int) :: sx_tbl
abbrev y_Model_small : MethodName := ⟨"ScriptDeskModel", "small", "(I)V"⟩
abbrev w_Model_small : List Cond := .code y_Model_small prog_12_method_19_code 8 (Option.none : Option Jvm.ClassFile.FieldType) :: sx_tbl
abbrev y_Model_mixed : MethodName := ⟨"ScriptDeskModel", "mixed", "(IIII)I"⟩
abbrev w_Model_mixed : List Cond := .code y_Model_mixed prog_12_method_18_code 4 (Option.some Jvm.ClassFile.FieldType.int) :: sx_tbl
abbrev y_Model_step : MethodName := ⟨"ScriptDeskModel", "step", "(III)V"⟩
abbrev w_Model_step : List Cond := .code y_Model_step prog_12_method_20_code 5 (Option.none : Option Jvm.ClassFile.FieldType) :: sx_tbl
abbrev y_Model_one : MethodName := ⟨"ScriptDeskModel", "one", "(Z)V"⟩
abbrev w_Model_one : List Cond := .code y_Model_one prog_12_method_22_code 3 (Option.none : Option Jvm.ClassFile.FieldType) :: sx_tbl
abbrev y_Model_fit : MethodName := ⟨"ScriptDeskModel", "fit", "(II)Z"⟩
abbrev w_Model_fit : List Cond := .code y_Model_fit prog_12_method_21_code 5 (Option.some Jvm.ClassFile.FieldType.boolean) :: sx_tbl
abbrev y_Model_several : MethodName := ⟨"ScriptDeskModel", "several", "(Z)V"⟩
abbrev w_Model_several : List Cond := .code y_Model_several prog_12_method_23_code 6 (Option.none : Option Jvm.ClassFile.FieldType) :: sx_tbl
abbrev y_Model_place : MethodName := ⟨"ScriptDeskModel", "place", "()I"⟩
abbrev w_Model_place : List Cond := .code y_Model_place prog_12_method_39_code 1 (Option.some Jvm.ClassFile.FieldType.int) :: sx_tbl
abbrev y_Model_clear : MethodName := ⟨"ScriptDeskModel", "clear", "()I"⟩
abbrev w_Model_clear : List Cond := .code y_Model_clear prog_12_method_40_code 2 (Option.some Jvm.ClassFile.FieldType.int) :: sx_tbl
abbrev y_Model_size : MethodName := ⟨"ScriptDeskModel", "size", "()I"⟩
abbrev w_Model_size : List Cond := .code y_Model_size prog_12_method_41_code 1 (Option.some Jvm.ClassFile.FieldType.int) :: sx_tbl
abbrev y_Model_isTrue : MethodName := ⟨"ScriptDeskModel", "isTrue", "()Z"⟩
abbrev w_Model_isTrue : List Cond := .code y_Model_isTrue prog_12_method_42_code 1 (Option.some Jvm.ClassFile.FieldType.boolean) :: sx_tbl
abbrev y_Model_bytes : MethodName := ⟨"ScriptDeskModel", "bytes", "(I)I"⟩
abbrev w_Model_bytes : List Cond := .code y_Model_bytes prog_12_method_43_code 2 (Option.some Jvm.ClassFile.FieldType.int) :: sx_tbl
abbrev y_Model_byteOf : MethodName := ⟨"ScriptDeskModel", "byteOf", "(II)I"⟩
abbrev w_Model_byteOf : List Cond := .code y_Model_byteOf prog_12_method_44_code 3 (Option.some Jvm.ClassFile.FieldType.int) :: sx_tbl
abbrev y_Model_count : MethodName := ⟨"ScriptDeskModel", "count", "(I)I"⟩
abbrev w_Model_count : List Cond := .code y_Model_count prog_12_method_45_code 2 (Option.some Jvm.ClassFile.FieldType.int) :: sx_tbl
theorem tw_0 : (Jvm.Cond.initialized "ScriptDeskLaw") ∈ sx_tbl := tw_of (i := 0) (by decide +kernel) rfl
theorem tw_1 : (Jvm.Cond.initialized "ScriptDesk") ∈ sx_tbl := tw_of (i := 1) (by decide +kernel) rfl
theorem tw_2 : (Jvm.Cond.initialized "ScriptDesk$Elements") ∈ sx_tbl := tw_of (i := 2) (by decide +kernel) rfl
theorem tw_3 : (Jvm.Cond.initialized "ScriptDesk$Tally") ∈ sx_tbl := tw_of (i := 3) (by decide +kernel) rfl
theorem tw_4 : (Jvm.Cond.initialized "ScriptDesk$Flow") ∈ sx_tbl := tw_of (i := 4) (by decide +kernel) rfl
theorem tw_5 : (Jvm.Cond.initialized "ScriptDesk$Signatures") ∈ sx_tbl := tw_of (i := 5) (by decide +kernel) rfl
theorem tw_6 : (Jvm.Cond.initialized "ScriptDesk$BlockDigest") ∈ sx_tbl := tw_of (i := 6) (by decide +kernel) rfl
theorem tw_7 : (Jvm.Cond.initialized "ScriptDesk$Sha256") ∈ sx_tbl := tw_of (i := 7) (by decide +kernel) rfl
theorem tw_8 : (Jvm.Cond.initialized "ScriptDesk$Ripemd160") ∈ sx_tbl := tw_of (i := 8) (by decide +kernel) rfl
theorem tw_9 : (Jvm.Cond.initialized "ScriptDeskModel") ∈ sx_tbl := tw_of (i := 9) (by decide +kernel) rfl
theorem tw_10 : (Jvm.Cond.initialized "java/lang/System") ∈ sx_tbl := tw_of (i := 10) (by decide +kernel) rfl
theorem tw_11 : (Jvm.Cond.initialized "java/lang/Math") ∈ sx_tbl := tw_of (i := 11) (by decide +kernel) rfl
theorem tw_12 : (Jvm.Cond.initialized "ScriptDesk$Moves") ∈ sx_tbl := tw_of (i := 12) (by decide +kernel) rfl
theorem tw_13 : (Jvm.Cond.initialized "ScriptDesk$Numbers") ∈ sx_tbl := tw_of (i := 13) (by decide +kernel) rfl
theorem tw_14 : (Jvm.Cond.initialized "java/util/Arrays") ∈ sx_tbl := tw_of (i := 14) (by decide +kernel) rfl
theorem tw_15 : (Jvm.Cond.classLink "ScriptDeskLaw" (7 : Nat) "ScriptDesk") ∈ sx_tbl := tw_of (i := 15) (by decide +kernel) rfl
theorem tw_16 : (Jvm.Cond.instantiable "ScriptDesk" (10 : Nat)) ∈ sx_tbl := tw_of (i := 16) (by decide +kernel) rfl
theorem tw_17 : (Jvm.Cond.methodLink "ScriptDeskLaw" (9 : Nat) ({ cls := "ScriptDesk", name := "<init>", desc := "()V" } : Jvm.MethodName)) ∈ sx_tbl := tw_of (i := 17) (by decide +kernel) rfl
theorem tw_18 : (Jvm.Cond.instanceMethod ({ cls := "ScriptDesk", name := "<init>", desc := "()V" } : Jvm.MethodName)) ∈ sx_tbl := tw_of (i := 18) (by decide +kernel) rfl
set_option maxRecDepth 20000 in
theorem tw_19 : (Jvm.Cond.code ({ cls := "ScriptDesk", name := "<init>", desc := "()V" } : Jvm.MethodName) prog_1_method_1_code (1 : Nat) (Option.none : Option Jvm.ClassFile.FieldType)) ∈ sx_tbl := tw_of (i := 19) rfl rfl
theorem tw_20 : (Jvm.Cond.methodLink "ScriptDesk" (1 : Nat) ({ cls := "java/lang/Object", name := "<init>", desc := "()V" } : Jvm.MethodName)) ∈ sx_tbl := tw_of (i := 20) (by decide +kernel) rfl
theorem tw_21 : (Jvm.Cond.instanceMethod ({ cls := "java/lang/Object", name := "<init>", desc := "()V" } : Jvm.MethodName)) ∈ sx_tbl := tw_of (i := 21) (by decide +kernel) rfl
set_option maxRecDepth 20000 in
theorem tw_22 : (Jvm.Cond.code ({ cls := "java/lang/Object", name := "<init>", desc := "()V" } : Jvm.MethodName) object_method_1_code (1 : Nat) (Option.none : Option Jvm.ClassFile.FieldType)) ∈ sx_tbl := tw_of (i := 22) rfl rfl
theorem tw_23 : (Jvm.Cond.classLink "ScriptDesk" (23 : Nat) "ScriptDesk$Elements") ∈ sx_tbl := tw_of (i := 23) (by decide +kernel) rfl
theorem tw_24 : (Jvm.Cond.instantiable "ScriptDesk$Elements" (5 : Nat)) ∈ sx_tbl := tw_of (i := 24) (by decide +kernel) rfl
theorem tw_25 : (Jvm.Cond.methodLink "ScriptDesk" (25 : Nat) ({ cls := "ScriptDesk$Elements", name := "<init>", desc := "()V" } : Jvm.MethodName)) ∈ sx_tbl := tw_of (i := 25) (by decide +kernel) rfl
theorem tw_26 : (Jvm.Cond.instanceMethod ({ cls := "ScriptDesk$Elements", name := "<init>", desc := "()V" } : Jvm.MethodName)) ∈ sx_tbl := tw_of (i := 26) (by decide +kernel) rfl
set_option maxRecDepth 20000 in
theorem tw_27 : (Jvm.Cond.code ({ cls := "ScriptDesk$Elements", name := "<init>", desc := "()V" } : Jvm.MethodName) prog_3_method_1_code (2 : Nat) (Option.none : Option Jvm.ClassFile.FieldType)) ∈ sx_tbl := tw_of (i := 27) rfl rfl
theorem tw_28 : (Jvm.Cond.methodLink "ScriptDesk$Elements" (3 : Nat) ({ cls := "java/lang/Object", name := "<init>", desc := "()V" } : Jvm.MethodName)) ∈ sx_tbl := tw_of (i := 28) (by decide +kernel) rfl
theorem tw_29 : (Jvm.Cond.fieldLink "ScriptDesk$Elements" (11 : Nat) "ScriptDesk$Elements" "octets" "[I") ∈ sx_tbl := tw_of (i := 29) (by decide +kernel) rfl
theorem tw_30 : (Jvm.Cond.fieldLink "ScriptDesk$Elements" (15 : Nat) "ScriptDesk$Elements" "lengths" "[I") ∈ sx_tbl := tw_of (i := 30) (by decide +kernel) rfl
theorem tw_31 : (Jvm.Cond.fieldLink "ScriptDesk$Elements" (18 : Nat) "ScriptDesk$Elements" "order" "[I") ∈ sx_tbl := tw_of (i := 31) (by decide +kernel) rfl
theorem tw_32 : (Jvm.Cond.fieldLink "ScriptDesk$Elements" (25 : Nat) "ScriptDesk$Elements" "side" "I") ∈ sx_tbl := tw_of (i := 32) (by decide +kernel) rfl
theorem tw_33 : (Jvm.Cond.fieldLink "ScriptDesk$Elements" (21 : Nat) "ScriptDesk$Elements" "depth" "I") ∈ sx_tbl := tw_of (i := 33) (by decide +kernel) rfl
theorem tw_34 : (Jvm.Cond.fieldLink "ScriptDesk$Moves" (19 : Nat) "ScriptDesk$Elements" "depth" "I") ∈ sx_tbl := tw_of (i := 34) (by decide +kernel) rfl
theorem tw_35 : (Jvm.Cond.fieldLink "ScriptDesk$Signatures" (25 : Nat) "ScriptDesk$Elements" "depth" "I") ∈ sx_tbl := tw_of (i := 35) (by decide +kernel) rfl
theorem tw_36 : (Jvm.Cond.fieldLink "ScriptDesk" (90 : Nat) "ScriptDesk$Elements" "depth" "I") ∈ sx_tbl := tw_of (i := 36) (by decide +kernel) rfl
theorem tw_48 : (Jvm.Cond.arrayClass Jvm.ClassFile.FieldType.int) ∈ sx_tbl := tw_of (i := 48) (by decide +kernel) rfl
theorem tw_49 : (Jvm.Cond.classLink "ScriptDesk" (30 : Nat) "ScriptDesk$Tally") ∈ sx_tbl := tw_of (i := 49) (by decide +kernel) rfl
theorem tw_50 : (Jvm.Cond.instantiable "ScriptDesk$Tally" (1 : Nat)) ∈ sx_tbl := tw_of (i := 50) (by decide +kernel) rfl
theorem tw_52 : (Jvm.Cond.instanceMethod ({ cls := "ScriptDesk$Tally", name := "<init>", desc := "()V" } : Jvm.MethodName)) ∈ sx_tbl := tw_of (i := 52) (by decide +kernel) rfl
set_option maxRecDepth 20000 in
theorem tw_53 : (Jvm.Cond.code ({ cls := "ScriptDesk$Tally", name := "<init>", desc := "()V" } : Jvm.MethodName) prog_10_method_1_code (1 : Nat) (Option.none : Option Jvm.ClassFile.FieldType)) ∈ sx_tbl := tw_of (i := 53) rfl rfl
theorem tw_54 : (Jvm.Cond.methodLink "ScriptDesk$Tally" (3 : Nat) ({ cls := "java/lang/Object", name := "<init>", desc := "()V" } : Jvm.MethodName)) ∈ sx_tbl := tw_of (i := 54) (by decide +kernel) rfl
theorem tw_55 : (Jvm.Cond.fieldLink "ScriptDesk$Tally" (9 : Nat) "ScriptDesk$Tally" "operations" "I") ∈ sx_tbl := tw_of (i := 55) (by decide +kernel) rfl
theorem tw_56 : (Jvm.Cond.fieldLink "ScriptDesk" (107 : Nat) "ScriptDesk$Tally" "operations" "I") ∈ sx_tbl := tw_of (i := 56) (by decide +kernel) rfl
theorem tw_60 : (Jvm.Cond.classLink "ScriptDesk" (37 : Nat) "ScriptDesk$Flow") ∈ sx_tbl := tw_of (i := 60) (by decide +kernel) rfl
theorem tw_61 : (Jvm.Cond.instantiable "ScriptDesk$Flow" (2 : Nat)) ∈ sx_tbl := tw_of (i := 61) (by decide +kernel) rfl
theorem tw_63 : (Jvm.Cond.instanceMethod ({ cls := "ScriptDesk$Flow", name := "<init>", desc := "()V" } : Jvm.MethodName)) ∈ sx_tbl := tw_of (i := 63) (by decide +kernel) rfl
set_option maxRecDepth 20000 in
theorem tw_64 : (Jvm.Cond.code ({ cls := "ScriptDesk$Flow", name := "<init>", desc := "()V" } : Jvm.MethodName) prog_4_method_1_code (1 : Nat) (Option.none : Option Jvm.ClassFile.FieldType)) ∈ sx_tbl := tw_of (i := 64) rfl rfl
theorem tw_65 : (Jvm.Cond.methodLink "ScriptDesk$Flow" (1 : Nat) ({ cls := "java/lang/Object", name := "<init>", desc := "()V" } : Jvm.MethodName)) ∈ sx_tbl := tw_of (i := 65) (by decide +kernel) rfl
theorem tw_66 : (Jvm.Cond.fieldLink "ScriptDesk$Flow" (7 : Nat) "ScriptDesk$Flow" "open" "I") ∈ sx_tbl := tw_of (i := 66) (by decide +kernel) rfl
theorem tw_67 : (Jvm.Cond.fieldLink "ScriptDesk$Flow" (13 : Nat) "ScriptDesk$Flow" "firstNotDone" "I") ∈ sx_tbl := tw_of (i := 67) (by decide +kernel) rfl
theorem tw_73 : (Jvm.Cond.classLink "ScriptDesk" (44 : Nat) "ScriptDesk$Signatures") ∈ sx_tbl := tw_of (i := 73) (by decide +kernel) rfl
theorem tw_74 : (Jvm.Cond.instantiable "ScriptDesk$Signatures" (2 : Nat)) ∈ sx_tbl := tw_of (i := 74) (by decide +kernel) rfl
theorem tw_76 : (Jvm.Cond.instanceMethod ({ cls := "ScriptDesk$Signatures", name := "<init>", desc := "()V" } : Jvm.MethodName)) ∈ sx_tbl := tw_of (i := 76) (by decide +kernel) rfl
set_option maxRecDepth 20000 in
theorem tw_77 : (Jvm.Cond.code ({ cls := "ScriptDesk$Signatures", name := "<init>", desc := "()V" } : Jvm.MethodName) prog_9_method_1_code (1 : Nat) (Option.none : Option Jvm.ClassFile.FieldType)) ∈ sx_tbl := tw_of (i := 77) rfl rfl
theorem tw_78 : (Jvm.Cond.methodLink "ScriptDesk$Signatures" (3 : Nat) ({ cls := "java/lang/Object", name := "<init>", desc := "()V" } : Jvm.MethodName)) ∈ sx_tbl := tw_of (i := 78) (by decide +kernel) rfl
theorem tw_79 : (Jvm.Cond.fieldLink "ScriptDesk" (66 : Nat) "ScriptDesk$Signatures" "hidden" "I") ∈ sx_tbl := tw_of (i := 79) (by decide +kernel) rfl
theorem tw_80 : (Jvm.Cond.fieldLink "ScriptDesk$Signatures" (68 : Nat) "ScriptDesk$Signatures" "hidden" "I") ∈ sx_tbl := tw_of (i := 80) (by decide +kernel) rfl
theorem tw_81 : (Jvm.Cond.fieldLink "ScriptDesk$Signatures" (58 : Nat) "ScriptDesk$Signatures" "asked" "I") ∈ sx_tbl := tw_of (i := 81) (by decide +kernel) rfl
theorem tw_82 : (Jvm.Cond.fieldLink "ScriptDesk" (110 : Nat) "ScriptDesk$Signatures" "asked" "I") ∈ sx_tbl := tw_of (i := 82) (by decide +kernel) rfl
theorem tw_88 : (Jvm.Cond.classLink "ScriptDesk" (51 : Nat) "ScriptDesk$Sha256") ∈ sx_tbl := tw_of (i := 88) (by decide +kernel) rfl
theorem tw_89 : (Jvm.Cond.instantiable "ScriptDesk$Sha256" (5 : Nat)) ∈ sx_tbl := tw_of (i := 89) (by decide +kernel) rfl
theorem tw_90 : (Jvm.Cond.methodLink "ScriptDesk" (53 : Nat) ({ cls := "ScriptDesk$Sha256", name := "<init>", desc := "()V" } : Jvm.MethodName)) ∈ sx_tbl := tw_of (i := 90) (by decide +kernel) rfl
theorem tw_91 : (Jvm.Cond.instanceMethod ({ cls := "ScriptDesk$Sha256", name := "<init>", desc := "()V" } : Jvm.MethodName)) ∈ sx_tbl := tw_of (i := 91) (by decide +kernel) rfl
set_option maxRecDepth 20000 in
theorem tw_92 : (Jvm.Cond.code ({ cls := "ScriptDesk$Sha256", name := "<init>", desc := "()V" } : Jvm.MethodName) prog_8_method_1_code (1 : Nat) (Option.none : Option Jvm.ClassFile.FieldType)) ∈ sx_tbl := tw_of (i := 92) rfl rfl
theorem tw_93 : (Jvm.Cond.methodLink "ScriptDesk$Sha256" (1 : Nat) ({ cls := "ScriptDesk$BlockDigest", name := "<init>", desc := "(ZII)V" } : Jvm.MethodName)) ∈ sx_tbl := tw_of (i := 93) (by decide +kernel) rfl
theorem tw_94 : (Jvm.Cond.instanceMethod ({ cls := "ScriptDesk$BlockDigest", name := "<init>", desc := "(ZII)V" } : Jvm.MethodName)) ∈ sx_tbl := tw_of (i := 94) (by decide +kernel) rfl
set_option maxRecDepth 20000 in
theorem tw_95 : (Jvm.Cond.code ({ cls := "ScriptDesk$BlockDigest", name := "<init>", desc := "(ZII)V" } : Jvm.MethodName) prog_2_method_1_code (4 : Nat) (Option.none : Option Jvm.ClassFile.FieldType)) ∈ sx_tbl := tw_of (i := 95) rfl rfl
theorem tw_96 : (Jvm.Cond.methodLink "ScriptDesk$BlockDigest" (3 : Nat) ({ cls := "java/lang/Object", name := "<init>", desc := "()V" } : Jvm.MethodName)) ∈ sx_tbl := tw_of (i := 96) (by decide +kernel) rfl
theorem tw_97 : (Jvm.Cond.fieldLink "ScriptDesk$BlockDigest" (11 : Nat) "ScriptDesk$BlockDigest" "message" "[I") ∈ sx_tbl := tw_of (i := 97) (by decide +kernel) rfl
theorem tw_98 : (Jvm.Cond.fieldLink "ScriptDesk$BlockDigest" (25 : Nat) "ScriptDesk$BlockDigest" "result" "[I") ∈ sx_tbl := tw_of (i := 98) (by decide +kernel) rfl
theorem tw_99 : (Jvm.Cond.fieldLink "ScriptDesk$BlockDigest" (15 : Nat) "ScriptDesk$BlockDigest" "highFirst" "Z") ∈ sx_tbl := tw_of (i := 99) (by decide +kernel) rfl
theorem tw_100 : (Jvm.Cond.fieldLink "ScriptDesk$BlockDigest" (19 : Nat) "ScriptDesk$BlockDigest" "words" "[I") ∈ sx_tbl := tw_of (i := 100) (by decide +kernel) rfl
theorem tw_101 : (Jvm.Cond.fieldLink "ScriptDesk$Ripemd160" (28 : Nat) "ScriptDesk$Ripemd160" "words" "[I") ∈ sx_tbl := tw_of (i := 101) (by decide +kernel) rfl
theorem tw_102 : (Jvm.Cond.sameField "ScriptDesk$Ripemd160" "ScriptDesk$BlockDigest" "words" "[I") ∈ sx_tbl := tw_of (i := 102) (by decide +kernel) rfl
theorem tw_103 : (Jvm.Cond.fieldLink "ScriptDesk$Sha256" (33 : Nat) "ScriptDesk$Sha256" "words" "[I") ∈ sx_tbl := tw_of (i := 103) (by decide +kernel) rfl
theorem tw_104 : (Jvm.Cond.sameField "ScriptDesk$Sha256" "ScriptDesk$BlockDigest" "words" "[I") ∈ sx_tbl := tw_of (i := 104) (by decide +kernel) rfl
theorem tw_105 : (Jvm.Cond.fieldLink "ScriptDesk$BlockDigest" (22 : Nat) "ScriptDesk$BlockDigest" "state" "[I") ∈ sx_tbl := tw_of (i := 105) (by decide +kernel) rfl
theorem tw_106 : (Jvm.Cond.fieldLink "ScriptDesk$Ripemd160" (19 : Nat) "ScriptDesk$Ripemd160" "state" "[I") ∈ sx_tbl := tw_of (i := 106) (by decide +kernel) rfl
theorem tw_107 : (Jvm.Cond.sameField "ScriptDesk$Ripemd160" "ScriptDesk$BlockDigest" "state" "[I") ∈ sx_tbl := tw_of (i := 107) (by decide +kernel) rfl
theorem tw_108 : (Jvm.Cond.fieldLink "ScriptDesk$Sha256" (13 : Nat) "ScriptDesk$Sha256" "state" "[I") ∈ sx_tbl := tw_of (i := 108) (by decide +kernel) rfl
theorem tw_109 : (Jvm.Cond.sameField "ScriptDesk$Sha256" "ScriptDesk$BlockDigest" "state" "[I") ∈ sx_tbl := tw_of (i := 109) (by decide +kernel) rfl
theorem tw_121 : (Jvm.Cond.classLink "ScriptDesk" (58 : Nat) "ScriptDesk$Ripemd160") ∈ sx_tbl := tw_of (i := 121) (by decide +kernel) rfl
theorem tw_122 : (Jvm.Cond.instantiable "ScriptDesk$Ripemd160" (7 : Nat)) ∈ sx_tbl := tw_of (i := 122) (by decide +kernel) rfl
theorem tw_123 : (Jvm.Cond.methodLink "ScriptDesk" (60 : Nat) ({ cls := "ScriptDesk$Ripemd160", name := "<init>", desc := "()V" } : Jvm.MethodName)) ∈ sx_tbl := tw_of (i := 123) (by decide +kernel) rfl
theorem tw_124 : (Jvm.Cond.instanceMethod ({ cls := "ScriptDesk$Ripemd160", name := "<init>", desc := "()V" } : Jvm.MethodName)) ∈ sx_tbl := tw_of (i := 124) (by decide +kernel) rfl
set_option maxRecDepth 20000 in
theorem tw_125 : (Jvm.Cond.code ({ cls := "ScriptDesk$Ripemd160", name := "<init>", desc := "()V" } : Jvm.MethodName) prog_7_method_1_code (1 : Nat) (Option.none : Option Jvm.ClassFile.FieldType)) ∈ sx_tbl := tw_of (i := 125) rfl rfl
theorem tw_126 : (Jvm.Cond.methodLink "ScriptDesk$Ripemd160" (1 : Nat) ({ cls := "ScriptDesk$BlockDigest", name := "<init>", desc := "(ZII)V" } : Jvm.MethodName)) ∈ sx_tbl := tw_of (i := 126) (by decide +kernel) rfl
theorem tw_127 : (Jvm.Cond.fieldLink "ScriptDesk$Ripemd160" (7 : Nat) "ScriptDesk$Ripemd160" "left" "[I") ∈ sx_tbl := tw_of (i := 127) (by decide +kernel) rfl
theorem tw_128 : (Jvm.Cond.fieldLink "ScriptDesk$Ripemd160" (13 : Nat) "ScriptDesk$Ripemd160" "right" "[I") ∈ sx_tbl := tw_of (i := 128) (by decide +kernel) rfl
theorem tw_139 : (Jvm.Cond.fieldLink "ScriptDesk" (9 : Nat) "ScriptDesk" "script" "[I") ∈ sx_tbl := tw_of (i := 139) (by decide +kernel) rfl
theorem tw_140 : (Jvm.Cond.fieldLink "ScriptDesk" (13 : Nat) "ScriptDesk" "scriptLength" "I") ∈ sx_tbl := tw_of (i := 140) (by decide +kernel) rfl
theorem tw_141 : (Jvm.Cond.fieldLink "ScriptDesk" (17 : Nat) "ScriptDesk" "next" "I") ∈ sx_tbl := tw_of (i := 141) (by decide +kernel) rfl
theorem tw_142 : (Jvm.Cond.fieldLink "ScriptDesk" (20 : Nat) "ScriptDesk" "stoppedAt" "I") ∈ sx_tbl := tw_of (i := 142) (by decide +kernel) rfl
theorem tw_143 : (Jvm.Cond.fieldLink "ScriptDesk" (26 : Nat) "ScriptDesk" "elements" "LScriptDesk$Elements;") ∈ sx_tbl := tw_of (i := 143) (by decide +kernel) rfl
theorem tw_144 : (Jvm.Cond.fieldLink "ScriptDesk" (33 : Nat) "ScriptDesk" "tally" "LScriptDesk$Tally;") ∈ sx_tbl := tw_of (i := 144) (by decide +kernel) rfl
theorem tw_145 : (Jvm.Cond.fieldLink "ScriptDesk" (40 : Nat) "ScriptDesk" "flow" "LScriptDesk$Flow;") ∈ sx_tbl := tw_of (i := 145) (by decide +kernel) rfl
theorem tw_146 : (Jvm.Cond.fieldLink "ScriptDesk" (47 : Nat) "ScriptDesk" "signatures" "LScriptDesk$Signatures;") ∈ sx_tbl := tw_of (i := 146) (by decide +kernel) rfl
theorem tw_147 : (Jvm.Cond.fieldLink "ScriptDesk" (54 : Nat) "ScriptDesk" "sha256" "LScriptDesk$BlockDigest;") ∈ sx_tbl := tw_of (i := 147) (by decide +kernel) rfl
theorem tw_148 : (Jvm.Cond.fieldLink "ScriptDesk" (61 : Nat) "ScriptDesk" "ripemd160" "LScriptDesk$BlockDigest;") ∈ sx_tbl := tw_of (i := 148) (by decide +kernel) rfl
theorem tw_170 : (Jvm.Cond.methodLink "ScriptDeskLaw" (15 : Nat) ({ cls := "ScriptDesk", name := "put", desc := "(JI)Z" } : Jvm.MethodName)) ∈ sx_tbl := tw_of (i := 170) (by decide +kernel) rfl
theorem tw_171 : (Jvm.Cond.instanceMethod ({ cls := "ScriptDesk", name := "put", desc := "(JI)Z" } : Jvm.MethodName)) ∈ sx_tbl := tw_of (i := 171) (by decide +kernel) rfl
theorem tw_172 : (Jvm.Cond.selects "ScriptDesk" ({ cls := "ScriptDesk", name := "put", desc := "(JI)Z" } : Jvm.MethodName) ({ cls := "ScriptDesk", name := "put", desc := "(JI)Z" } : Jvm.MethodName)) ∈ sx_tbl := tw_of (i := 172) (by decide +kernel) rfl
set_option maxRecDepth 20000 in
theorem tw_173 : (Jvm.Cond.code ({ cls := "ScriptDesk", name := "put", desc := "(JI)Z" } : Jvm.MethodName) prog_1_method_2_code (5 : Nat) (Option.some Jvm.ClassFile.FieldType.boolean)) ∈ sx_tbl := tw_of (i := 173) rfl rfl
theorem tw_174 : (Jvm.Cond.constantLong "ScriptDesk" (64 : Nat) (255 : Int64)) ∈ sx_tbl := tw_of (i := 174) (by decide +kernel) rfl
theorem tw_175 : (Jvm.Cond.methodLink "ScriptDeskLaw" (20 : Nat) ({ cls := "ScriptDesk", name := "secret", desc := "(I)V" } : Jvm.MethodName)) ∈ sx_tbl := tw_of (i := 175) (by decide +kernel) rfl
theorem tw_176 : (Jvm.Cond.instanceMethod ({ cls := "ScriptDesk", name := "secret", desc := "(I)V" } : Jvm.MethodName)) ∈ sx_tbl := tw_of (i := 176) (by decide +kernel) rfl
theorem tw_177 : (Jvm.Cond.selects "ScriptDesk" ({ cls := "ScriptDesk", name := "secret", desc := "(I)V" } : Jvm.MethodName) ({ cls := "ScriptDesk", name := "secret", desc := "(I)V" } : Jvm.MethodName)) ∈ sx_tbl := tw_of (i := 177) (by decide +kernel) rfl
set_option maxRecDepth 20000 in
theorem tw_178 : (Jvm.Cond.code ({ cls := "ScriptDesk", name := "secret", desc := "(I)V" } : Jvm.MethodName) prog_1_method_3_code (2 : Nat) (Option.none : Option Jvm.ClassFile.FieldType)) ∈ sx_tbl := tw_of (i := 178) rfl rfl
theorem tw_179 : (Jvm.Cond.methodLink "ScriptDeskLaw" (25 : Nat) ({ cls := "ScriptDesk", name := "run", desc := "()I" } : Jvm.MethodName)) ∈ sx_tbl := tw_of (i := 179) (by decide +kernel) rfl
theorem tw_180 : (Jvm.Cond.instanceMethod ({ cls := "ScriptDesk", name := "run", desc := "()I" } : Jvm.MethodName)) ∈ sx_tbl := tw_of (i := 180) (by decide +kernel) rfl
theorem tw_181 : (Jvm.Cond.selects "ScriptDesk" ({ cls := "ScriptDesk", name := "run", desc := "()I" } : Jvm.MethodName) ({ cls := "ScriptDesk", name := "run", desc := "()I" } : Jvm.MethodName)) ∈ sx_tbl := tw_of (i := 181) (by decide +kernel) rfl
set_option maxRecDepth 20000 in
theorem tw_182 : (Jvm.Cond.code ({ cls := "ScriptDesk", name := "run", desc := "()I" } : Jvm.MethodName) prog_1_method_4_code (6 : Nat) (Option.some Jvm.ClassFile.FieldType.int)) ∈ sx_tbl := tw_of (i := 182) rfl rfl
theorem tw_183 : (Jvm.Cond.methodLink "ScriptDesk" (69 : Nat) ({ cls := "ScriptDesk", name := "restart", desc := "()V" } : Jvm.MethodName)) ∈ sx_tbl := tw_of (i := 183) (by decide +kernel) rfl
theorem tw_185 : (Jvm.Cond.instanceMethod ({ cls := "ScriptDesk", name := "restart", desc := "()V" } : Jvm.MethodName)) ∈ sx_tbl := tw_of (i := 185) (by decide +kernel) rfl
set_option maxRecDepth 20000 in
theorem tw_186 : (Jvm.Cond.code ({ cls := "ScriptDesk", name := "restart", desc := "()V" } : Jvm.MethodName) prog_1_method_12_code (1 : Nat) (Option.none : Option Jvm.ClassFile.FieldType)) ∈ sx_tbl := tw_of (i := 186) rfl rfl
theorem tw_187 : (Jvm.Cond.methodLink "ScriptDesk" (113 : Nat) ({ cls := "ScriptDesk$Flow", name := "restart", desc := "()V" } : Jvm.MethodName)) ∈ sx_tbl := tw_of (i := 187) (by decide +kernel) rfl
theorem tw_188 : (Jvm.Cond.instanceMethod ({ cls := "ScriptDesk$Flow", name := "restart", desc := "()V" } : Jvm.MethodName)) ∈ sx_tbl := tw_of (i := 188) (by decide +kernel) rfl
theorem tw_189 : (Jvm.Cond.selects "ScriptDesk$Flow" ({ cls := "ScriptDesk$Flow", name := "restart", desc := "()V" } : Jvm.MethodName) ({ cls := "ScriptDesk$Flow", name := "restart", desc := "()V" } : Jvm.MethodName)) ∈ sx_tbl := tw_of (i := 189) (by decide +kernel) rfl
set_option maxRecDepth 20000 in
theorem tw_190 : (Jvm.Cond.code ({ cls := "ScriptDesk$Flow", name := "restart", desc := "()V" } : Jvm.MethodName) prog_4_method_2_code (1 : Nat) (Option.none : Option Jvm.ClassFile.FieldType)) ∈ sx_tbl := tw_of (i := 190) rfl rfl
theorem tw_191 : (Jvm.Cond.methodLink "ScriptDesk" (72 : Nat) ({ cls := "ScriptDesk", name := "pushFromScript", desc := "(III)I" } : Jvm.MethodName)) ∈ sx_tbl := tw_of (i := 191) (by decide +kernel) rfl
theorem tw_193 : (Jvm.Cond.instanceMethod ({ cls := "ScriptDesk", name := "pushFromScript", desc := "(III)I" } : Jvm.MethodName)) ∈ sx_tbl := tw_of (i := 193) (by decide +kernel) rfl
set_option maxRecDepth 20000 in
theorem tw_194 : (Jvm.Cond.code ({ cls := "ScriptDesk", name := "pushFromScript", desc := "(III)I" } : Jvm.MethodName) prog_1_method_13_code (7 : Nat) (Option.some Jvm.ClassFile.FieldType.int)) ∈ sx_tbl := tw_of (i := 194) rfl rfl
theorem tw_195 : (Jvm.Cond.methodLink "ScriptDesk" (114 : Nat) ({ cls := "ScriptDesk$Flow", name := "isDone", desc := "()Z" } : Jvm.MethodName)) ∈ sx_tbl := tw_of (i := 195) (by decide +kernel) rfl
theorem tw_196 : (Jvm.Cond.instanceMethod ({ cls := "ScriptDesk$Flow", name := "isDone", desc := "()Z" } : Jvm.MethodName)) ∈ sx_tbl := tw_of (i := 196) (by decide +kernel) rfl
theorem tw_197 : (Jvm.Cond.selects "ScriptDesk$Flow" ({ cls := "ScriptDesk$Flow", name := "isDone", desc := "()Z" } : Jvm.MethodName) ({ cls := "ScriptDesk$Flow", name := "isDone", desc := "()Z" } : Jvm.MethodName)) ∈ sx_tbl := tw_of (i := 197) (by decide +kernel) rfl
set_option maxRecDepth 20000 in
theorem tw_198 : (Jvm.Cond.code ({ cls := "ScriptDesk$Flow", name := "isDone", desc := "()Z" } : Jvm.MethodName) prog_4_method_4_code (1 : Nat) (Option.some Jvm.ClassFile.FieldType.boolean)) ∈ sx_tbl := tw_of (i := 198) rfl rfl
theorem tw_199 : (Jvm.Cond.methodLink "ScriptDesk" (117 : Nat) ({ cls := "ScriptDesk$Elements", name := "push", desc := "([III)V" } : Jvm.MethodName)) ∈ sx_tbl := tw_of (i := 199) (by decide +kernel) rfl
theorem tw_200 : (Jvm.Cond.instanceMethod ({ cls := "ScriptDesk$Elements", name := "push", desc := "([III)V" } : Jvm.MethodName)) ∈ sx_tbl := tw_of (i := 200) (by decide +kernel) rfl
theorem tw_201 : (Jvm.Cond.selects "ScriptDesk$Elements" ({ cls := "ScriptDesk$Elements", name := "push", desc := "([III)V" } : Jvm.MethodName) ({ cls := "ScriptDesk$Elements", name := "push", desc := "([III)V" } : Jvm.MethodName)) ∈ sx_tbl := tw_of (i := 201) (by decide +kernel) rfl
set_option maxRecDepth 20000 in
theorem tw_202 : (Jvm.Cond.code ({ cls := "ScriptDesk$Elements", name := "push", desc := "([III)V" } : Jvm.MethodName) prog_3_method_11_code (5 : Nat) (Option.none : Option Jvm.ClassFile.FieldType)) ∈ sx_tbl := tw_of (i := 202) rfl rfl
theorem tw_203 : (Jvm.Cond.methodLink "ScriptDesk$Elements" (43 : Nat) ({ cls := "java/lang/System", name := "arraycopy", desc := "(Ljava/lang/Object;ILjava/lang/Object;II)V" } : Jvm.MethodName)) ∈ sx_tbl := tw_of (i := 203) (by decide +kernel) rfl
theorem tw_204 : (Jvm.Cond.static ({ cls := "java/lang/System", name := "arraycopy", desc := "(Ljava/lang/Object;ILjava/lang/Object;II)V" } : Jvm.MethodName)) ∈ sx_tbl := tw_of (i := 204) (by decide +kernel) rfl
theorem tw_205 : (Jvm.Cond.native ({ cls := "java/lang/System", name := "arraycopy", desc := "(Ljava/lang/Object;ILjava/lang/Object;II)V" } : Jvm.MethodName)) ∈ sx_tbl := tw_of (i := 205) (by decide +kernel) rfl
theorem tw_206 : (Jvm.Cond.methodLink "ScriptDesk" (76 : Nat) ({ cls := "ScriptDesk", name := "perform", desc := "(I)I" } : Jvm.MethodName)) ∈ sx_tbl := tw_of (i := 206) (by decide +kernel) rfl
theorem tw_208 : (Jvm.Cond.instanceMethod ({ cls := "ScriptDesk", name := "perform", desc := "(I)I" } : Jvm.MethodName)) ∈ sx_tbl := tw_of (i := 208) (by decide +kernel) rfl
set_option maxRecDepth 20000 in
theorem tw_209 : (Jvm.Cond.code ({ cls := "ScriptDesk", name := "perform", desc := "(I)I" } : Jvm.MethodName) prog_1_method_14_code (2 : Nat) (Option.some Jvm.ClassFile.FieldType.int)) ∈ sx_tbl := tw_of (i := 209) rfl rfl
theorem tw_210 : (Jvm.Cond.methodLink "ScriptDesk" (121 : Nat) ({ cls := "ScriptDesk$Tally", name := "passesLimit", desc := "(I)Z" } : Jvm.MethodName)) ∈ sx_tbl := tw_of (i := 210) (by decide +kernel) rfl
theorem tw_211 : (Jvm.Cond.instanceMethod ({ cls := "ScriptDesk$Tally", name := "passesLimit", desc := "(I)Z" } : Jvm.MethodName)) ∈ sx_tbl := tw_of (i := 211) (by decide +kernel) rfl
theorem tw_212 : (Jvm.Cond.selects "ScriptDesk$Tally" ({ cls := "ScriptDesk$Tally", name := "passesLimit", desc := "(I)Z" } : Jvm.MethodName) ({ cls := "ScriptDesk$Tally", name := "passesLimit", desc := "(I)Z" } : Jvm.MethodName)) ∈ sx_tbl := tw_of (i := 212) (by decide +kernel) rfl
set_option maxRecDepth 20000 in
theorem tw_213 : (Jvm.Cond.code ({ cls := "ScriptDesk$Tally", name := "passesLimit", desc := "(I)Z" } : Jvm.MethodName) prog_10_method_2_code (2 : Nat) (Option.some Jvm.ClassFile.FieldType.boolean)) ∈ sx_tbl := tw_of (i := 213) rfl rfl
theorem tw_214 : (Jvm.Cond.methodLink "ScriptDesk" (125 : Nat) ({ cls := "ScriptDesk", name := "enterPart", desc := "(Z)I" } : Jvm.MethodName)) ∈ sx_tbl := tw_of (i := 214) (by decide +kernel) rfl
theorem tw_216 : (Jvm.Cond.instanceMethod ({ cls := "ScriptDesk", name := "enterPart", desc := "(Z)I" } : Jvm.MethodName)) ∈ sx_tbl := tw_of (i := 216) (by decide +kernel) rfl
set_option maxRecDepth 20000 in
theorem tw_217 : (Jvm.Cond.code ({ cls := "ScriptDesk", name := "enterPart", desc := "(Z)I" } : Jvm.MethodName) prog_1_method_15_code (3 : Nat) (Option.some Jvm.ClassFile.FieldType.int)) ∈ sx_tbl := tw_of (i := 217) rfl rfl
theorem tw_218 : (Jvm.Cond.methodLink "ScriptDesk" (152 : Nat) ({ cls := "ScriptDesk$Flow", name := "enter", desc := "(Z)V" } : Jvm.MethodName)) ∈ sx_tbl := tw_of (i := 218) (by decide +kernel) rfl
theorem tw_219 : (Jvm.Cond.instanceMethod ({ cls := "ScriptDesk$Flow", name := "enter", desc := "(Z)V" } : Jvm.MethodName)) ∈ sx_tbl := tw_of (i := 219) (by decide +kernel) rfl
theorem tw_220 : (Jvm.Cond.selects "ScriptDesk$Flow" ({ cls := "ScriptDesk$Flow", name := "enter", desc := "(Z)V" } : Jvm.MethodName) ({ cls := "ScriptDesk$Flow", name := "enter", desc := "(Z)V" } : Jvm.MethodName)) ∈ sx_tbl := tw_of (i := 220) (by decide +kernel) rfl
set_option maxRecDepth 20000 in
theorem tw_221 : (Jvm.Cond.code ({ cls := "ScriptDesk$Flow", name := "enter", desc := "(Z)V" } : Jvm.MethodName) prog_4_method_5_code (2 : Nat) (Option.none : Option Jvm.ClassFile.FieldType)) ∈ sx_tbl := tw_of (i := 221) rfl rfl
theorem tw_222 : (Jvm.Cond.methodLink "ScriptDesk" (97 : Nat) ({ cls := "ScriptDesk$Elements", name := "topHolds", desc := "()Z" } : Jvm.MethodName)) ∈ sx_tbl := tw_of (i := 222) (by decide +kernel) rfl
theorem tw_223 : (Jvm.Cond.instanceMethod ({ cls := "ScriptDesk$Elements", name := "topHolds", desc := "()Z" } : Jvm.MethodName)) ∈ sx_tbl := tw_of (i := 223) (by decide +kernel) rfl
theorem tw_224 : (Jvm.Cond.selects "ScriptDesk$Elements" ({ cls := "ScriptDesk$Elements", name := "topHolds", desc := "()Z" } : Jvm.MethodName) ({ cls := "ScriptDesk$Elements", name := "topHolds", desc := "()Z" } : Jvm.MethodName)) ∈ sx_tbl := tw_of (i := 224) (by decide +kernel) rfl
set_option maxRecDepth 20000 in
theorem tw_225 : (Jvm.Cond.code ({ cls := "ScriptDesk$Elements", name := "topHolds", desc := "()Z" } : Jvm.MethodName) prog_3_method_5_code (3 : Nat) (Option.some Jvm.ClassFile.FieldType.boolean)) ∈ sx_tbl := tw_of (i := 225) rfl rfl
theorem tw_226 : (Jvm.Cond.methodLink "ScriptDesk$Elements" (28 : Nat) ({ cls := "ScriptDesk$Elements", name := "lengthAt", desc := "(I)I" } : Jvm.MethodName)) ∈ sx_tbl := tw_of (i := 226) (by decide +kernel) rfl
theorem tw_227 : (Jvm.Cond.instanceMethod ({ cls := "ScriptDesk$Elements", name := "lengthAt", desc := "(I)I" } : Jvm.MethodName)) ∈ sx_tbl := tw_of (i := 227) (by decide +kernel) rfl
theorem tw_228 : (Jvm.Cond.selects "ScriptDesk$Elements" ({ cls := "ScriptDesk$Elements", name := "lengthAt", desc := "(I)I" } : Jvm.MethodName) ({ cls := "ScriptDesk$Elements", name := "lengthAt", desc := "(I)I" } : Jvm.MethodName)) ∈ sx_tbl := tw_of (i := 228) (by decide +kernel) rfl
set_option maxRecDepth 20000 in
theorem tw_229 : (Jvm.Cond.code ({ cls := "ScriptDesk$Elements", name := "lengthAt", desc := "(I)I" } : Jvm.MethodName) prog_3_method_3_code (2 : Nat) (Option.some Jvm.ClassFile.FieldType.int)) ∈ sx_tbl := tw_of (i := 229) rfl rfl
theorem tw_230 : (Jvm.Cond.methodLink "ScriptDesk$Elements" (32 : Nat) ({ cls := "ScriptDesk$Elements", name := "octetAt", desc := "(II)I" } : Jvm.MethodName)) ∈ sx_tbl := tw_of (i := 230) (by decide +kernel) rfl
theorem tw_231 : (Jvm.Cond.instanceMethod ({ cls := "ScriptDesk$Elements", name := "octetAt", desc := "(II)I" } : Jvm.MethodName)) ∈ sx_tbl := tw_of (i := 231) (by decide +kernel) rfl
theorem tw_232 : (Jvm.Cond.selects "ScriptDesk$Elements" ({ cls := "ScriptDesk$Elements", name := "octetAt", desc := "(II)I" } : Jvm.MethodName) ({ cls := "ScriptDesk$Elements", name := "octetAt", desc := "(II)I" } : Jvm.MethodName)) ∈ sx_tbl := tw_of (i := 232) (by decide +kernel) rfl
set_option maxRecDepth 20000 in
theorem tw_233 : (Jvm.Cond.code ({ cls := "ScriptDesk$Elements", name := "octetAt", desc := "(II)I" } : Jvm.MethodName) prog_3_method_4_code (4 : Nat) (Option.some Jvm.ClassFile.FieldType.int)) ∈ sx_tbl := tw_of (i := 233) rfl rfl
theorem tw_234 : (Jvm.Cond.methodLink "ScriptDesk" (93 : Nat) ({ cls := "ScriptDesk$Elements", name := "drop", desc := "(I)V" } : Jvm.MethodName)) ∈ sx_tbl := tw_of (i := 234) (by decide +kernel) rfl
theorem tw_235 : (Jvm.Cond.instanceMethod ({ cls := "ScriptDesk$Elements", name := "drop", desc := "(I)V" } : Jvm.MethodName)) ∈ sx_tbl := tw_of (i := 235) (by decide +kernel) rfl
theorem tw_236 : (Jvm.Cond.selects "ScriptDesk$Elements" ({ cls := "ScriptDesk$Elements", name := "drop", desc := "(I)V" } : Jvm.MethodName) ({ cls := "ScriptDesk$Elements", name := "drop", desc := "(I)V" } : Jvm.MethodName)) ∈ sx_tbl := tw_of (i := 236) (by decide +kernel) rfl
set_option maxRecDepth 20000 in
theorem tw_237 : (Jvm.Cond.code ({ cls := "ScriptDesk$Elements", name := "drop", desc := "(I)V" } : Jvm.MethodName) prog_3_method_9_code (2 : Nat) (Option.none : Option Jvm.ClassFile.FieldType)) ∈ sx_tbl := tw_of (i := 237) rfl rfl
theorem tw_238 : (Jvm.Cond.methodLink "ScriptDesk$Elements" (38 : Nat) ({ cls := "java/lang/Math", name := "max", desc := "(II)I" } : Jvm.MethodName)) ∈ sx_tbl := tw_of (i := 238) (by decide +kernel) rfl
theorem tw_239 : (Jvm.Cond.static ({ cls := "java/lang/Math", name := "max", desc := "(II)I" } : Jvm.MethodName)) ∈ sx_tbl := tw_of (i := 239) (by decide +kernel) rfl
set_option maxRecDepth 20000 in
theorem tw_240 : (Jvm.Cond.code ({ cls := "java/lang/Math", name := "max", desc := "(II)I" } : Jvm.MethodName) prog_13_method_65_code (2 : Nat) (Option.some Jvm.ClassFile.FieldType.int)) ∈ sx_tbl := tw_of (i := 240) rfl rfl
theorem tw_241 : (Jvm.Cond.methodLink "ScriptDesk" (129 : Nat) ({ cls := "ScriptDesk", name := "leavePart", desc := "(Z)I" } : Jvm.MethodName)) ∈ sx_tbl := tw_of (i := 241) (by decide +kernel) rfl
theorem tw_243 : (Jvm.Cond.instanceMethod ({ cls := "ScriptDesk", name := "leavePart", desc := "(Z)I" } : Jvm.MethodName)) ∈ sx_tbl := tw_of (i := 243) (by decide +kernel) rfl
set_option maxRecDepth 20000 in
theorem tw_244 : (Jvm.Cond.code ({ cls := "ScriptDesk", name := "leavePart", desc := "(Z)I" } : Jvm.MethodName) prog_1_method_16_code (2 : Nat) (Option.some Jvm.ClassFile.FieldType.int)) ∈ sx_tbl := tw_of (i := 244) rfl rfl
theorem tw_245 : (Jvm.Cond.methodLink "ScriptDesk" (84 : Nat) ({ cls := "ScriptDesk$Flow", name := "isInside", desc := "()Z" } : Jvm.MethodName)) ∈ sx_tbl := tw_of (i := 245) (by decide +kernel) rfl
theorem tw_246 : (Jvm.Cond.instanceMethod ({ cls := "ScriptDesk$Flow", name := "isInside", desc := "()Z" } : Jvm.MethodName)) ∈ sx_tbl := tw_of (i := 246) (by decide +kernel) rfl
theorem tw_247 : (Jvm.Cond.selects "ScriptDesk$Flow" ({ cls := "ScriptDesk$Flow", name := "isInside", desc := "()Z" } : Jvm.MethodName) ({ cls := "ScriptDesk$Flow", name := "isInside", desc := "()Z" } : Jvm.MethodName)) ∈ sx_tbl := tw_of (i := 247) (by decide +kernel) rfl
set_option maxRecDepth 20000 in
theorem tw_248 : (Jvm.Cond.code ({ cls := "ScriptDesk$Flow", name := "isInside", desc := "()Z" } : Jvm.MethodName) prog_4_method_3_code (1 : Nat) (Option.some Jvm.ClassFile.FieldType.boolean)) ∈ sx_tbl := tw_of (i := 248) rfl rfl
theorem tw_249 : (Jvm.Cond.methodLink "ScriptDesk" (156 : Nat) ({ cls := "ScriptDesk$Flow", name := "end", desc := "()V" } : Jvm.MethodName)) ∈ sx_tbl := tw_of (i := 249) (by decide +kernel) rfl
theorem tw_250 : (Jvm.Cond.instanceMethod ({ cls := "ScriptDesk$Flow", name := "end", desc := "()V" } : Jvm.MethodName)) ∈ sx_tbl := tw_of (i := 250) (by decide +kernel) rfl
theorem tw_251 : (Jvm.Cond.selects "ScriptDesk$Flow" ({ cls := "ScriptDesk$Flow", name := "end", desc := "()V" } : Jvm.MethodName) ({ cls := "ScriptDesk$Flow", name := "end", desc := "()V" } : Jvm.MethodName)) ∈ sx_tbl := tw_of (i := 251) (by decide +kernel) rfl
set_option maxRecDepth 20000 in
theorem tw_252 : (Jvm.Cond.code ({ cls := "ScriptDesk$Flow", name := "end", desc := "()V" } : Jvm.MethodName) prog_4_method_7_code (1 : Nat) (Option.none : Option Jvm.ClassFile.FieldType)) ∈ sx_tbl := tw_of (i := 252) rfl rfl
theorem tw_253 : (Jvm.Cond.methodLink "ScriptDesk" (159 : Nat) ({ cls := "ScriptDesk$Flow", name := "turn", desc := "()V" } : Jvm.MethodName)) ∈ sx_tbl := tw_of (i := 253) (by decide +kernel) rfl
theorem tw_254 : (Jvm.Cond.instanceMethod ({ cls := "ScriptDesk$Flow", name := "turn", desc := "()V" } : Jvm.MethodName)) ∈ sx_tbl := tw_of (i := 254) (by decide +kernel) rfl
theorem tw_255 : (Jvm.Cond.selects "ScriptDesk$Flow" ({ cls := "ScriptDesk$Flow", name := "turn", desc := "()V" } : Jvm.MethodName) ({ cls := "ScriptDesk$Flow", name := "turn", desc := "()V" } : Jvm.MethodName)) ∈ sx_tbl := tw_of (i := 255) (by decide +kernel) rfl
set_option maxRecDepth 20000 in
theorem tw_256 : (Jvm.Cond.code ({ cls := "ScriptDesk$Flow", name := "turn", desc := "()V" } : Jvm.MethodName) prog_4_method_6_code (1 : Nat) (Option.none : Option Jvm.ClassFile.FieldType)) ∈ sx_tbl := tw_of (i := 256) rfl rfl
theorem tw_257 : (Jvm.Cond.methodLink "ScriptDesk" (132 : Nat) ({ cls := "ScriptDesk", name := "pushSmallNumber", desc := "(I)I" } : Jvm.MethodName)) ∈ sx_tbl := tw_of (i := 257) (by decide +kernel) rfl
theorem tw_259 : (Jvm.Cond.instanceMethod ({ cls := "ScriptDesk", name := "pushSmallNumber", desc := "(I)I" } : Jvm.MethodName)) ∈ sx_tbl := tw_of (i := 259) (by decide +kernel) rfl
set_option maxRecDepth 20000 in
theorem tw_260 : (Jvm.Cond.code ({ cls := "ScriptDesk", name := "pushSmallNumber", desc := "(I)I" } : Jvm.MethodName) prog_1_method_17_code (2 : Nat) (Option.some Jvm.ClassFile.FieldType.int)) ∈ sx_tbl := tw_of (i := 260) rfl rfl
theorem tw_261 : (Jvm.Cond.methodLink "ScriptDesk" (162 : Nat) ({ cls := "ScriptDesk$Elements", name := "pushNumber", desc := "(J)V" } : Jvm.MethodName)) ∈ sx_tbl := tw_of (i := 261) (by decide +kernel) rfl
theorem tw_262 : (Jvm.Cond.instanceMethod ({ cls := "ScriptDesk$Elements", name := "pushNumber", desc := "(J)V" } : Jvm.MethodName)) ∈ sx_tbl := tw_of (i := 262) (by decide +kernel) rfl
theorem tw_263 : (Jvm.Cond.selects "ScriptDesk$Elements" ({ cls := "ScriptDesk$Elements", name := "pushNumber", desc := "(J)V" } : Jvm.MethodName) ({ cls := "ScriptDesk$Elements", name := "pushNumber", desc := "(J)V" } : Jvm.MethodName)) ∈ sx_tbl := tw_of (i := 263) (by decide +kernel) rfl
set_option maxRecDepth 20000 in
theorem tw_264 : (Jvm.Cond.code ({ cls := "ScriptDesk$Elements", name := "pushNumber", desc := "(J)V" } : Jvm.MethodName) prog_3_method_14_code (8 : Nat) (Option.none : Option Jvm.ClassFile.FieldType)) ∈ sx_tbl := tw_of (i := 264) rfl rfl
theorem tw_265 : (Jvm.Cond.constantLong "ScriptDesk$Elements" (57 : Nat) (255 : Int64)) ∈ sx_tbl := tw_of (i := 265) (by decide +kernel) rfl
theorem tw_266 : (Jvm.Cond.methodLink "ScriptDesk" (135 : Nat) ({ cls := "ScriptDesk", name := "performPlain", desc := "(I)I" } : Jvm.MethodName)) ∈ sx_tbl := tw_of (i := 266) (by decide +kernel) rfl
theorem tw_268 : (Jvm.Cond.instanceMethod ({ cls := "ScriptDesk", name := "performPlain", desc := "(I)I" } : Jvm.MethodName)) ∈ sx_tbl := tw_of (i := 268) (by decide +kernel) rfl
set_option maxRecDepth 20000 in
theorem tw_269 : (Jvm.Cond.code ({ cls := "ScriptDesk", name := "performPlain", desc := "(I)I" } : Jvm.MethodName) prog_1_method_18_code (2 : Nat) (Option.some Jvm.ClassFile.FieldType.int)) ∈ sx_tbl := tw_of (i := 269) rfl rfl
theorem tw_270 : (Jvm.Cond.methodLink "ScriptDesk" (166 : Nat) ({ cls := "ScriptDesk$Elements", name := "takeTrue", desc := "()I" } : Jvm.MethodName)) ∈ sx_tbl := tw_of (i := 270) (by decide +kernel) rfl
theorem tw_271 : (Jvm.Cond.instanceMethod ({ cls := "ScriptDesk$Elements", name := "takeTrue", desc := "()I" } : Jvm.MethodName)) ∈ sx_tbl := tw_of (i := 271) (by decide +kernel) rfl
theorem tw_272 : (Jvm.Cond.selects "ScriptDesk$Elements" ({ cls := "ScriptDesk$Elements", name := "takeTrue", desc := "()I" } : Jvm.MethodName) ({ cls := "ScriptDesk$Elements", name := "takeTrue", desc := "()I" } : Jvm.MethodName)) ∈ sx_tbl := tw_of (i := 272) (by decide +kernel) rfl
set_option maxRecDepth 20000 in
theorem tw_273 : (Jvm.Cond.code ({ cls := "ScriptDesk$Elements", name := "takeTrue", desc := "()I" } : Jvm.MethodName) prog_3_method_19_code (1 : Nat) (Option.some Jvm.ClassFile.FieldType.int)) ∈ sx_tbl := tw_of (i := 273) rfl rfl
theorem tw_274 : (Jvm.Cond.methodLink "ScriptDesk$Elements" (70 : Nat) ({ cls := "ScriptDesk$Elements", name := "topHolds", desc := "()Z" } : Jvm.MethodName)) ∈ sx_tbl := tw_of (i := 274) (by decide +kernel) rfl
theorem tw_275 : (Jvm.Cond.methodLink "ScriptDesk$Elements" (59 : Nat) ({ cls := "ScriptDesk$Elements", name := "drop", desc := "(I)V" } : Jvm.MethodName)) ∈ sx_tbl := tw_of (i := 275) (by decide +kernel) rfl
theorem tw_276 : (Jvm.Cond.methodLink "ScriptDesk" (170 : Nat) ({ cls := "ScriptDesk$Elements", name := "toSide", desc := "()I" } : Jvm.MethodName)) ∈ sx_tbl := tw_of (i := 276) (by decide +kernel) rfl
theorem tw_277 : (Jvm.Cond.instanceMethod ({ cls := "ScriptDesk$Elements", name := "toSide", desc := "()I" } : Jvm.MethodName)) ∈ sx_tbl := tw_of (i := 277) (by decide +kernel) rfl
theorem tw_278 : (Jvm.Cond.selects "ScriptDesk$Elements" ({ cls := "ScriptDesk$Elements", name := "toSide", desc := "()I" } : Jvm.MethodName) ({ cls := "ScriptDesk$Elements", name := "toSide", desc := "()I" } : Jvm.MethodName)) ∈ sx_tbl := tw_of (i := 278) (by decide +kernel) rfl
set_option maxRecDepth 20000 in
theorem tw_279 : (Jvm.Cond.code ({ cls := "ScriptDesk$Elements", name := "toSide", desc := "()I" } : Jvm.MethodName) prog_3_method_17_code (1 : Nat) (Option.some Jvm.ClassFile.FieldType.int)) ∈ sx_tbl := tw_of (i := 279) rfl rfl
theorem tw_280 : (Jvm.Cond.methodLink "ScriptDesk$Elements" (66 : Nat) ({ cls := "ScriptDesk$Elements", name := "swapSlots", desc := "(II)V" } : Jvm.MethodName)) ∈ sx_tbl := tw_of (i := 280) (by decide +kernel) rfl
theorem tw_282 : (Jvm.Cond.instanceMethod ({ cls := "ScriptDesk$Elements", name := "swapSlots", desc := "(II)V" } : Jvm.MethodName)) ∈ sx_tbl := tw_of (i := 282) (by decide +kernel) rfl
set_option maxRecDepth 20000 in
theorem tw_283 : (Jvm.Cond.code ({ cls := "ScriptDesk$Elements", name := "swapSlots", desc := "(II)V" } : Jvm.MethodName) prog_3_method_20_code (4 : Nat) (Option.none : Option Jvm.ClassFile.FieldType)) ∈ sx_tbl := tw_of (i := 283) rfl rfl
theorem tw_284 : (Jvm.Cond.methodLink "ScriptDesk" (173 : Nat) ({ cls := "ScriptDesk$Elements", name := "fromSide", desc := "()I" } : Jvm.MethodName)) ∈ sx_tbl := tw_of (i := 284) (by decide +kernel) rfl
theorem tw_285 : (Jvm.Cond.instanceMethod ({ cls := "ScriptDesk$Elements", name := "fromSide", desc := "()I" } : Jvm.MethodName)) ∈ sx_tbl := tw_of (i := 285) (by decide +kernel) rfl
theorem tw_286 : (Jvm.Cond.selects "ScriptDesk$Elements" ({ cls := "ScriptDesk$Elements", name := "fromSide", desc := "()I" } : Jvm.MethodName) ({ cls := "ScriptDesk$Elements", name := "fromSide", desc := "()I" } : Jvm.MethodName)) ∈ sx_tbl := tw_of (i := 286) (by decide +kernel) rfl
set_option maxRecDepth 20000 in
theorem tw_287 : (Jvm.Cond.code ({ cls := "ScriptDesk$Elements", name := "fromSide", desc := "()I" } : Jvm.MethodName) prog_3_method_18_code (1 : Nat) (Option.some Jvm.ClassFile.FieldType.int)) ∈ sx_tbl := tw_of (i := 287) rfl rfl
theorem tw_288 : (Jvm.Cond.methodLink "ScriptDesk" (138 : Nat) ({ cls := "ScriptDesk$Moves", name := "perform", desc := "(LScriptDesk$Elements;I)I" } : Jvm.MethodName)) ∈ sx_tbl := tw_of (i := 288) (by decide +kernel) rfl
theorem tw_289 : (Jvm.Cond.static ({ cls := "ScriptDesk$Moves", name := "perform", desc := "(LScriptDesk$Elements;I)I" } : Jvm.MethodName)) ∈ sx_tbl := tw_of (i := 289) (by decide +kernel) rfl
set_option maxRecDepth 20000 in
theorem tw_290 : (Jvm.Cond.code ({ cls := "ScriptDesk$Moves", name := "perform", desc := "(LScriptDesk$Elements;I)I" } : Jvm.MethodName) prog_5_method_2_code (3 : Nat) (Option.some Jvm.ClassFile.FieldType.int)) ∈ sx_tbl := tw_of (i := 290) rfl rfl
theorem tw_291 : (Jvm.Cond.methodLink "ScriptDesk$Moves" (9 : Nat) ({ cls := "ScriptDesk$Moves", name := "pick", desc := "(LScriptDesk$Elements;Z)I" } : Jvm.MethodName)) ∈ sx_tbl := tw_of (i := 291) (by decide +kernel) rfl
theorem tw_292 : (Jvm.Cond.static ({ cls := "ScriptDesk$Moves", name := "pick", desc := "(LScriptDesk$Elements;Z)I" } : Jvm.MethodName)) ∈ sx_tbl := tw_of (i := 292) (by decide +kernel) rfl
set_option maxRecDepth 20000 in
theorem tw_293 : (Jvm.Cond.code ({ cls := "ScriptDesk$Moves", name := "pick", desc := "(LScriptDesk$Elements;Z)I" } : Jvm.MethodName) prog_5_method_4_code (5 : Nat) (Option.some Jvm.ClassFile.FieldType.int)) ∈ sx_tbl := tw_of (i := 293) rfl rfl
theorem tw_294 : (Jvm.Cond.methodLink "ScriptDesk$Moves" (36 : Nat) ({ cls := "ScriptDesk$Elements", name := "faultOfNumber", desc := "(I)I" } : Jvm.MethodName)) ∈ sx_tbl := tw_of (i := 294) (by decide +kernel) rfl
theorem tw_295 : (Jvm.Cond.instanceMethod ({ cls := "ScriptDesk$Elements", name := "faultOfNumber", desc := "(I)I" } : Jvm.MethodName)) ∈ sx_tbl := tw_of (i := 295) (by decide +kernel) rfl
theorem tw_296 : (Jvm.Cond.selects "ScriptDesk$Elements" ({ cls := "ScriptDesk$Elements", name := "faultOfNumber", desc := "(I)I" } : Jvm.MethodName) ({ cls := "ScriptDesk$Elements", name := "faultOfNumber", desc := "(I)I" } : Jvm.MethodName)) ∈ sx_tbl := tw_of (i := 296) (by decide +kernel) rfl
set_option maxRecDepth 20000 in
theorem tw_297 : (Jvm.Cond.code ({ cls := "ScriptDesk$Elements", name := "faultOfNumber", desc := "(I)I" } : Jvm.MethodName) prog_3_method_7_code (2 : Nat) (Option.some Jvm.ClassFile.FieldType.int)) ∈ sx_tbl := tw_of (i := 297) rfl rfl
theorem tw_298 : (Jvm.Cond.methodLink "ScriptDesk$Moves" (39 : Nat) ({ cls := "ScriptDesk$Elements", name := "numberAt", desc := "(I)J" } : Jvm.MethodName)) ∈ sx_tbl := tw_of (i := 298) (by decide +kernel) rfl
theorem tw_299 : (Jvm.Cond.instanceMethod ({ cls := "ScriptDesk$Elements", name := "numberAt", desc := "(I)J" } : Jvm.MethodName)) ∈ sx_tbl := tw_of (i := 299) (by decide +kernel) rfl
theorem tw_300 : (Jvm.Cond.selects "ScriptDesk$Elements" ({ cls := "ScriptDesk$Elements", name := "numberAt", desc := "(I)J" } : Jvm.MethodName) ({ cls := "ScriptDesk$Elements", name := "numberAt", desc := "(I)J" } : Jvm.MethodName)) ∈ sx_tbl := tw_of (i := 300) (by decide +kernel) rfl
set_option maxRecDepth 20000 in
theorem tw_301 : (Jvm.Cond.code ({ cls := "ScriptDesk$Elements", name := "numberAt", desc := "(I)J" } : Jvm.MethodName) prog_3_method_8_code (6 : Nat) (Option.some Jvm.ClassFile.FieldType.long)) ∈ sx_tbl := tw_of (i := 301) rfl rfl
theorem tw_302 : (Jvm.Cond.constantLong "ScriptDesk$Elements" (36 : Nat) (256 : Int64)) ∈ sx_tbl := tw_of (i := 302) (by decide +kernel) rfl
theorem tw_303 : (Jvm.Cond.methodLink "ScriptDesk$Moves" (43 : Nat) ({ cls := "ScriptDesk$Elements", name := "drop", desc := "(I)V" } : Jvm.MethodName)) ∈ sx_tbl := tw_of (i := 303) (by decide +kernel) rfl
theorem tw_304 : (Jvm.Cond.methodLink "ScriptDesk$Moves" (47 : Nat) ({ cls := "ScriptDesk$Elements", name := "lift", desc := "(I)V" } : Jvm.MethodName)) ∈ sx_tbl := tw_of (i := 304) (by decide +kernel) rfl
theorem tw_305 : (Jvm.Cond.instanceMethod ({ cls := "ScriptDesk$Elements", name := "lift", desc := "(I)V" } : Jvm.MethodName)) ∈ sx_tbl := tw_of (i := 305) (by decide +kernel) rfl
theorem tw_306 : (Jvm.Cond.selects "ScriptDesk$Elements" ({ cls := "ScriptDesk$Elements", name := "lift", desc := "(I)V" } : Jvm.MethodName) ({ cls := "ScriptDesk$Elements", name := "lift", desc := "(I)V" } : Jvm.MethodName)) ∈ sx_tbl := tw_of (i := 306) (by decide +kernel) rfl
set_option maxRecDepth 20000 in
theorem tw_307 : (Jvm.Cond.code ({ cls := "ScriptDesk$Elements", name := "lift", desc := "(I)V" } : Jvm.MethodName) prog_3_method_16_code (5 : Nat) (Option.none : Option Jvm.ClassFile.FieldType)) ∈ sx_tbl := tw_of (i := 307) rfl rfl
theorem tw_308 : (Jvm.Cond.methodLink "ScriptDesk$Moves" (50 : Nat) ({ cls := "ScriptDesk$Elements", name := "pushCopy", desc := "(I)V" } : Jvm.MethodName)) ∈ sx_tbl := tw_of (i := 308) (by decide +kernel) rfl
theorem tw_309 : (Jvm.Cond.instanceMethod ({ cls := "ScriptDesk$Elements", name := "pushCopy", desc := "(I)V" } : Jvm.MethodName)) ∈ sx_tbl := tw_of (i := 309) (by decide +kernel) rfl
theorem tw_310 : (Jvm.Cond.selects "ScriptDesk$Elements" ({ cls := "ScriptDesk$Elements", name := "pushCopy", desc := "(I)V" } : Jvm.MethodName) ({ cls := "ScriptDesk$Elements", name := "pushCopy", desc := "(I)V" } : Jvm.MethodName)) ∈ sx_tbl := tw_of (i := 310) (by decide +kernel) rfl
set_option maxRecDepth 20000 in
theorem tw_311 : (Jvm.Cond.code ({ cls := "ScriptDesk$Elements", name := "pushCopy", desc := "(I)V" } : Jvm.MethodName) prog_3_method_12_code (3 : Nat) (Option.none : Option Jvm.ClassFile.FieldType)) ∈ sx_tbl := tw_of (i := 311) rfl rfl
theorem tw_312 : (Jvm.Cond.methodLink "ScriptDesk$Elements" (49 : Nat) ({ cls := "ScriptDesk$Elements", name := "push", desc := "([III)V" } : Jvm.MethodName)) ∈ sx_tbl := tw_of (i := 312) (by decide +kernel) rfl
theorem tw_313 : (Jvm.Cond.methodLink "ScriptDesk$Moves" (15 : Nat) ({ cls := "ScriptDesk$Moves", name := "operandsOf", desc := "(I)I" } : Jvm.MethodName)) ∈ sx_tbl := tw_of (i := 313) (by decide +kernel) rfl
theorem tw_314 : (Jvm.Cond.static ({ cls := "ScriptDesk$Moves", name := "operandsOf", desc := "(I)I" } : Jvm.MethodName)) ∈ sx_tbl := tw_of (i := 314) (by decide +kernel) rfl
set_option maxRecDepth 20000 in
theorem tw_315 : (Jvm.Cond.code ({ cls := "ScriptDesk$Moves", name := "operandsOf", desc := "(I)I" } : Jvm.MethodName) prog_5_method_3_code (1 : Nat) (Option.some Jvm.ClassFile.FieldType.int)) ∈ sx_tbl := tw_of (i := 315) rfl rfl
theorem tw_316 : (Jvm.Cond.methodLink "ScriptDesk$Moves" (25 : Nat) ({ cls := "ScriptDesk$Moves", name := "look", desc := "(LScriptDesk$Elements;I)I" } : Jvm.MethodName)) ∈ sx_tbl := tw_of (i := 316) (by decide +kernel) rfl
theorem tw_317 : (Jvm.Cond.static ({ cls := "ScriptDesk$Moves", name := "look", desc := "(LScriptDesk$Elements;I)I" } : Jvm.MethodName)) ∈ sx_tbl := tw_of (i := 317) (by decide +kernel) rfl
set_option maxRecDepth 20000 in
theorem tw_318 : (Jvm.Cond.code ({ cls := "ScriptDesk$Moves", name := "look", desc := "(LScriptDesk$Elements;I)I" } : Jvm.MethodName) prog_5_method_7_code (3 : Nat) (Option.some Jvm.ClassFile.FieldType.int)) ∈ sx_tbl := tw_of (i := 318) rfl rfl
theorem tw_319 : (Jvm.Cond.methodLink "ScriptDesk$Moves" (65 : Nat) ({ cls := "ScriptDesk$Elements", name := "lengthAt", desc := "(I)I" } : Jvm.MethodName)) ∈ sx_tbl := tw_of (i := 319) (by decide +kernel) rfl
theorem tw_320 : (Jvm.Cond.methodLink "ScriptDesk$Moves" (61 : Nat) ({ cls := "ScriptDesk$Elements", name := "pushNumber", desc := "(J)V" } : Jvm.MethodName)) ∈ sx_tbl := tw_of (i := 320) (by decide +kernel) rfl
theorem tw_321 : (Jvm.Cond.methodLink "ScriptDesk$Moves" (68 : Nat) ({ cls := "ScriptDesk$Elements", name := "areSame", desc := "(II)Z" } : Jvm.MethodName)) ∈ sx_tbl := tw_of (i := 321) (by decide +kernel) rfl
theorem tw_322 : (Jvm.Cond.instanceMethod ({ cls := "ScriptDesk$Elements", name := "areSame", desc := "(II)Z" } : Jvm.MethodName)) ∈ sx_tbl := tw_of (i := 322) (by decide +kernel) rfl
theorem tw_323 : (Jvm.Cond.selects "ScriptDesk$Elements" ({ cls := "ScriptDesk$Elements", name := "areSame", desc := "(II)Z" } : Jvm.MethodName) ({ cls := "ScriptDesk$Elements", name := "areSame", desc := "(II)Z" } : Jvm.MethodName)) ∈ sx_tbl := tw_of (i := 323) (by decide +kernel) rfl
set_option maxRecDepth 20000 in
theorem tw_324 : (Jvm.Cond.code ({ cls := "ScriptDesk$Elements", name := "areSame", desc := "(II)Z" } : Jvm.MethodName) prog_3_method_6_code (5 : Nat) (Option.some Jvm.ClassFile.FieldType.boolean)) ∈ sx_tbl := tw_of (i := 324) rfl rfl
theorem tw_325 : (Jvm.Cond.methodLink "ScriptDesk$Moves" (72 : Nat) ({ cls := "ScriptDesk$Elements", name := "replaceByTruth", desc := "(IZ)V" } : Jvm.MethodName)) ∈ sx_tbl := tw_of (i := 325) (by decide +kernel) rfl
theorem tw_326 : (Jvm.Cond.instanceMethod ({ cls := "ScriptDesk$Elements", name := "replaceByTruth", desc := "(IZ)V" } : Jvm.MethodName)) ∈ sx_tbl := tw_of (i := 326) (by decide +kernel) rfl
theorem tw_327 : (Jvm.Cond.selects "ScriptDesk$Elements" ({ cls := "ScriptDesk$Elements", name := "replaceByTruth", desc := "(IZ)V" } : Jvm.MethodName) ({ cls := "ScriptDesk$Elements", name := "replaceByTruth", desc := "(IZ)V" } : Jvm.MethodName)) ∈ sx_tbl := tw_of (i := 327) (by decide +kernel) rfl
set_option maxRecDepth 20000 in
theorem tw_328 : (Jvm.Cond.code ({ cls := "ScriptDesk$Elements", name := "replaceByTruth", desc := "(IZ)V" } : Jvm.MethodName) prog_3_method_15_code (3 : Nat) (Option.none : Option Jvm.ClassFile.FieldType)) ∈ sx_tbl := tw_of (i := 328) rfl rfl
theorem tw_329 : (Jvm.Cond.methodLink "ScriptDesk$Elements" (62 : Nat) ({ cls := "ScriptDesk$Elements", name := "pushNumber", desc := "(J)V" } : Jvm.MethodName)) ∈ sx_tbl := tw_of (i := 329) (by decide +kernel) rfl
theorem tw_330 : (Jvm.Cond.methodLink "ScriptDesk$Moves" (76 : Nat) ({ cls := "ScriptDesk$Elements", name := "takeTrue", desc := "()I" } : Jvm.MethodName)) ∈ sx_tbl := tw_of (i := 330) (by decide +kernel) rfl
theorem tw_331 : (Jvm.Cond.methodLink "ScriptDesk$Moves" (29 : Nat) ({ cls := "ScriptDesk$Moves", name := "moveGroups", desc := "(LScriptDesk$Elements;I)V" } : Jvm.MethodName)) ∈ sx_tbl := tw_of (i := 331) (by decide +kernel) rfl
theorem tw_332 : (Jvm.Cond.static ({ cls := "ScriptDesk$Moves", name := "moveGroups", desc := "(LScriptDesk$Elements;I)V" } : Jvm.MethodName)) ∈ sx_tbl := tw_of (i := 332) (by decide +kernel) rfl
set_option maxRecDepth 20000 in
theorem tw_333 : (Jvm.Cond.code ({ cls := "ScriptDesk$Moves", name := "moveGroups", desc := "(LScriptDesk$Elements;I)V" } : Jvm.MethodName) prog_5_method_5_code (2 : Nat) (Option.none : Option Jvm.ClassFile.FieldType)) ∈ sx_tbl := tw_of (i := 333) rfl rfl
theorem tw_334 : (Jvm.Cond.methodLink "ScriptDesk$Moves" (53 : Nat) ({ cls := "ScriptDesk$Elements", name := "pushCopies", desc := "(II)V" } : Jvm.MethodName)) ∈ sx_tbl := tw_of (i := 334) (by decide +kernel) rfl
theorem tw_335 : (Jvm.Cond.instanceMethod ({ cls := "ScriptDesk$Elements", name := "pushCopies", desc := "(II)V" } : Jvm.MethodName)) ∈ sx_tbl := tw_of (i := 335) (by decide +kernel) rfl
theorem tw_336 : (Jvm.Cond.selects "ScriptDesk$Elements" ({ cls := "ScriptDesk$Elements", name := "pushCopies", desc := "(II)V" } : Jvm.MethodName) ({ cls := "ScriptDesk$Elements", name := "pushCopies", desc := "(II)V" } : Jvm.MethodName)) ∈ sx_tbl := tw_of (i := 336) (by decide +kernel) rfl
set_option maxRecDepth 20000 in
theorem tw_337 : (Jvm.Cond.code ({ cls := "ScriptDesk$Elements", name := "pushCopies", desc := "(II)V" } : Jvm.MethodName) prog_3_method_13_code (4 : Nat) (Option.none : Option Jvm.ClassFile.FieldType)) ∈ sx_tbl := tw_of (i := 337) rfl rfl
theorem tw_338 : (Jvm.Cond.methodLink "ScriptDesk$Elements" (53 : Nat) ({ cls := "ScriptDesk$Elements", name := "pushCopy", desc := "(I)V" } : Jvm.MethodName)) ∈ sx_tbl := tw_of (i := 338) (by decide +kernel) rfl
theorem tw_339 : (Jvm.Cond.methodLink "ScriptDesk$Moves" (33 : Nat) ({ cls := "ScriptDesk$Moves", name := "moveSingles", desc := "(LScriptDesk$Elements;I)V" } : Jvm.MethodName)) ∈ sx_tbl := tw_of (i := 339) (by decide +kernel) rfl
theorem tw_340 : (Jvm.Cond.static ({ cls := "ScriptDesk$Moves", name := "moveSingles", desc := "(LScriptDesk$Elements;I)V" } : Jvm.MethodName)) ∈ sx_tbl := tw_of (i := 340) (by decide +kernel) rfl
set_option maxRecDepth 20000 in
theorem tw_341 : (Jvm.Cond.code ({ cls := "ScriptDesk$Moves", name := "moveSingles", desc := "(LScriptDesk$Elements;I)V" } : Jvm.MethodName) prog_5_method_6_code (2 : Nat) (Option.none : Option Jvm.ClassFile.FieldType)) ∈ sx_tbl := tw_of (i := 341) rfl rfl
theorem tw_342 : (Jvm.Cond.methodLink "ScriptDesk$Moves" (57 : Nat) ({ cls := "ScriptDesk$Elements", name := "topHolds", desc := "()Z" } : Jvm.MethodName)) ∈ sx_tbl := tw_of (i := 342) (by decide +kernel) rfl
theorem tw_343 : (Jvm.Cond.methodLink "ScriptDesk" (143 : Nat) ({ cls := "ScriptDesk$Numbers", name := "perform", desc := "(LScriptDesk$Elements;I)I" } : Jvm.MethodName)) ∈ sx_tbl := tw_of (i := 343) (by decide +kernel) rfl
theorem tw_344 : (Jvm.Cond.static ({ cls := "ScriptDesk$Numbers", name := "perform", desc := "(LScriptDesk$Elements;I)I" } : Jvm.MethodName)) ∈ sx_tbl := tw_of (i := 344) (by decide +kernel) rfl
set_option maxRecDepth 20000 in
theorem tw_345 : (Jvm.Cond.code ({ cls := "ScriptDesk$Numbers", name := "perform", desc := "(LScriptDesk$Elements;I)I" } : Jvm.MethodName) prog_6_method_2_code (5 : Nat) (Option.some Jvm.ClassFile.FieldType.int)) ∈ sx_tbl := tw_of (i := 345) rfl rfl
theorem tw_346 : (Jvm.Cond.methodLink "ScriptDesk$Numbers" (9 : Nat) ({ cls := "ScriptDesk$Numbers", name := "operandsOf", desc := "(I)I" } : Jvm.MethodName)) ∈ sx_tbl := tw_of (i := 346) (by decide +kernel) rfl
theorem tw_347 : (Jvm.Cond.static ({ cls := "ScriptDesk$Numbers", name := "operandsOf", desc := "(I)I" } : Jvm.MethodName)) ∈ sx_tbl := tw_of (i := 347) (by decide +kernel) rfl
set_option maxRecDepth 20000 in
theorem tw_348 : (Jvm.Cond.code ({ cls := "ScriptDesk$Numbers", name := "operandsOf", desc := "(I)I" } : Jvm.MethodName) prog_6_method_3_code (1 : Nat) (Option.some Jvm.ClassFile.FieldType.int)) ∈ sx_tbl := tw_of (i := 348) rfl rfl
theorem tw_349 : (Jvm.Cond.methodLink "ScriptDesk$Numbers" (15 : Nat) ({ cls := "ScriptDesk$Elements", name := "faultOfNumber", desc := "(I)I" } : Jvm.MethodName)) ∈ sx_tbl := tw_of (i := 349) (by decide +kernel) rfl
theorem tw_350 : (Jvm.Cond.methodLink "ScriptDesk$Numbers" (20 : Nat) ({ cls := "ScriptDesk$Numbers", name := "resultOf", desc := "(LScriptDesk$Elements;II)J" } : Jvm.MethodName)) ∈ sx_tbl := tw_of (i := 350) (by decide +kernel) rfl
theorem tw_351 : (Jvm.Cond.static ({ cls := "ScriptDesk$Numbers", name := "resultOf", desc := "(LScriptDesk$Elements;II)J" } : Jvm.MethodName)) ∈ sx_tbl := tw_of (i := 351) (by decide +kernel) rfl
set_option maxRecDepth 20000 in
theorem tw_352 : (Jvm.Cond.code ({ cls := "ScriptDesk$Numbers", name := "resultOf", desc := "(LScriptDesk$Elements;II)J" } : Jvm.MethodName) prog_6_method_4_code (9 : Nat) (Option.some Jvm.ClassFile.FieldType.long)) ∈ sx_tbl := tw_of (i := 352) rfl rfl
theorem tw_353 : (Jvm.Cond.methodLink "ScriptDesk$Numbers" (36 : Nat) ({ cls := "ScriptDesk$Elements", name := "numberAt", desc := "(I)J" } : Jvm.MethodName)) ∈ sx_tbl := tw_of (i := 353) (by decide +kernel) rfl
theorem tw_354 : (Jvm.Cond.methodLink "ScriptDesk$Numbers" (40 : Nat) ({ cls := "ScriptDesk$Numbers", name := "ofOne", desc := "(IJ)J" } : Jvm.MethodName)) ∈ sx_tbl := tw_of (i := 354) (by decide +kernel) rfl
theorem tw_355 : (Jvm.Cond.static ({ cls := "ScriptDesk$Numbers", name := "ofOne", desc := "(IJ)J" } : Jvm.MethodName)) ∈ sx_tbl := tw_of (i := 355) (by decide +kernel) rfl
set_option maxRecDepth 20000 in
theorem tw_356 : (Jvm.Cond.code ({ cls := "ScriptDesk$Numbers", name := "ofOne", desc := "(IJ)J" } : Jvm.MethodName) prog_6_method_5_code (3 : Nat) (Option.some Jvm.ClassFile.FieldType.long)) ∈ sx_tbl := tw_of (i := 356) rfl rfl
theorem tw_357 : (Jvm.Cond.methodLink "ScriptDesk$Numbers" (44 : Nat) ({ cls := "java/lang/Math", name := "min", desc := "(JJ)J" } : Jvm.MethodName)) ∈ sx_tbl := tw_of (i := 357) (by decide +kernel) rfl
theorem tw_358 : (Jvm.Cond.static ({ cls := "java/lang/Math", name := "min", desc := "(JJ)J" } : Jvm.MethodName)) ∈ sx_tbl := tw_of (i := 358) (by decide +kernel) rfl
set_option maxRecDepth 20000 in
theorem tw_359 : (Jvm.Cond.code ({ cls := "java/lang/Math", name := "min", desc := "(JJ)J" } : Jvm.MethodName) prog_13_method_70_code (4 : Nat) (Option.some Jvm.ClassFile.FieldType.long)) ∈ sx_tbl := tw_of (i := 359) rfl rfl
theorem tw_360 : (Jvm.Cond.methodLink "ScriptDesk$Numbers" (50 : Nat) ({ cls := "java/lang/Math", name := "max", desc := "(JJ)J" } : Jvm.MethodName)) ∈ sx_tbl := tw_of (i := 360) (by decide +kernel) rfl
theorem tw_361 : (Jvm.Cond.static ({ cls := "java/lang/Math", name := "max", desc := "(JJ)J" } : Jvm.MethodName)) ∈ sx_tbl := tw_of (i := 361) (by decide +kernel) rfl
set_option maxRecDepth 20000 in
theorem tw_362 : (Jvm.Cond.code ({ cls := "java/lang/Math", name := "max", desc := "(JJ)J" } : Jvm.MethodName) prog_13_method_66_code (4 : Nat) (Option.some Jvm.ClassFile.FieldType.long)) ∈ sx_tbl := tw_of (i := 362) rfl rfl
theorem tw_363 : (Jvm.Cond.methodLink "ScriptDesk$Numbers" (53 : Nat) ({ cls := "ScriptDesk$Numbers", name := "compare", desc := "(IJJ)Z" } : Jvm.MethodName)) ∈ sx_tbl := tw_of (i := 363) (by decide +kernel) rfl
theorem tw_364 : (Jvm.Cond.static ({ cls := "ScriptDesk$Numbers", name := "compare", desc := "(IJJ)Z" } : Jvm.MethodName)) ∈ sx_tbl := tw_of (i := 364) (by decide +kernel) rfl
set_option maxRecDepth 20000 in
theorem tw_365 : (Jvm.Cond.code ({ cls := "ScriptDesk$Numbers", name := "compare", desc := "(IJJ)Z" } : Jvm.MethodName) prog_6_method_6_code (5 : Nat) (Option.some Jvm.ClassFile.FieldType.boolean)) ∈ sx_tbl := tw_of (i := 365) rfl rfl
theorem tw_366 : (Jvm.Cond.methodLink "ScriptDesk$Numbers" (24 : Nat) ({ cls := "ScriptDesk$Elements", name := "drop", desc := "(I)V" } : Jvm.MethodName)) ∈ sx_tbl := tw_of (i := 366) (by decide +kernel) rfl
theorem tw_367 : (Jvm.Cond.methodLink "ScriptDesk$Numbers" (28 : Nat) ({ cls := "ScriptDesk$Elements", name := "pushNumber", desc := "(J)V" } : Jvm.MethodName)) ∈ sx_tbl := tw_of (i := 367) (by decide +kernel) rfl
theorem tw_368 : (Jvm.Cond.methodLink "ScriptDesk$Numbers" (32 : Nat) ({ cls := "ScriptDesk$Elements", name := "takeTrue", desc := "()I" } : Jvm.MethodName)) ∈ sx_tbl := tw_of (i := 368) (by decide +kernel) rfl
theorem tw_369 : (Jvm.Cond.methodLink "ScriptDesk" (146 : Nat) ({ cls := "ScriptDesk", name := "performDigest", desc := "(I)I" } : Jvm.MethodName)) ∈ sx_tbl := tw_of (i := 369) (by decide +kernel) rfl
theorem tw_371 : (Jvm.Cond.instanceMethod ({ cls := "ScriptDesk", name := "performDigest", desc := "(I)I" } : Jvm.MethodName)) ∈ sx_tbl := tw_of (i := 371) (by decide +kernel) rfl
set_option maxRecDepth 20000 in
theorem tw_372 : (Jvm.Cond.code ({ cls := "ScriptDesk", name := "performDigest", desc := "(I)I" } : Jvm.MethodName) prog_1_method_19_code (2 : Nat) (Option.some Jvm.ClassFile.FieldType.int)) ∈ sx_tbl := tw_of (i := 372) rfl rfl
theorem tw_373 : (Jvm.Cond.methodLink "ScriptDesk" (176 : Nat) ({ cls := "ScriptDesk$BlockDigest", name := "replaceTop", desc := "(LScriptDesk$Elements;)V" } : Jvm.MethodName)) ∈ sx_tbl := tw_of (i := 373) (by decide +kernel) rfl
theorem tw_374 : (Jvm.Cond.instanceMethod ({ cls := "ScriptDesk$BlockDigest", name := "replaceTop", desc := "(LScriptDesk$Elements;)V" } : Jvm.MethodName)) ∈ sx_tbl := tw_of (i := 374) (by decide +kernel) rfl
theorem tw_375 : (Jvm.Cond.sameMethod "ScriptDesk$BlockDigest" "ScriptDesk$BlockDigest" "replaceTop" "(LScriptDesk$Elements;)V") ∈ sx_tbl := tw_of (i := 375) (by decide +kernel) rfl
theorem tw_376 : (Jvm.Cond.selects "ScriptDesk$Ripemd160" ({ cls := "ScriptDesk$BlockDigest", name := "replaceTop", desc := "(LScriptDesk$Elements;)V" } : Jvm.MethodName) ({ cls := "ScriptDesk$BlockDigest", name := "replaceTop", desc := "(LScriptDesk$Elements;)V" } : Jvm.MethodName)) ∈ sx_tbl := tw_of (i := 376) (by decide +kernel) rfl
theorem tw_377 : (Jvm.Cond.selects "ScriptDesk$Sha256" ({ cls := "ScriptDesk$BlockDigest", name := "replaceTop", desc := "(LScriptDesk$Elements;)V" } : Jvm.MethodName) ({ cls := "ScriptDesk$BlockDigest", name := "replaceTop", desc := "(LScriptDesk$Elements;)V" } : Jvm.MethodName)) ∈ sx_tbl := tw_of (i := 377) (by decide +kernel) rfl
set_option maxRecDepth 20000 in
theorem tw_378 : (Jvm.Cond.code ({ cls := "ScriptDesk$BlockDigest", name := "replaceTop", desc := "(LScriptDesk$Elements;)V" } : Jvm.MethodName) prog_2_method_4_code (5 : Nat) (Option.none : Option Jvm.ClassFile.FieldType)) ∈ sx_tbl := tw_of (i := 378) rfl rfl
theorem tw_379 : (Jvm.Cond.methodLink "ScriptDesk$BlockDigest" (28 : Nat) ({ cls := "ScriptDesk$Elements", name := "lengthAt", desc := "(I)I" } : Jvm.MethodName)) ∈ sx_tbl := tw_of (i := 379) (by decide +kernel) rfl
theorem tw_380 : (Jvm.Cond.methodLink "ScriptDesk$BlockDigest" (34 : Nat) ({ cls := "ScriptDesk$BlockDigest", name := "pad", desc := "(LScriptDesk$Elements;I)I" } : Jvm.MethodName)) ∈ sx_tbl := tw_of (i := 380) (by decide +kernel) rfl
theorem tw_382 : (Jvm.Cond.instanceMethod ({ cls := "ScriptDesk$BlockDigest", name := "pad", desc := "(LScriptDesk$Elements;I)I" } : Jvm.MethodName)) ∈ sx_tbl := tw_of (i := 382) (by decide +kernel) rfl
set_option maxRecDepth 20000 in
theorem tw_383 : (Jvm.Cond.code ({ cls := "ScriptDesk$BlockDigest", name := "pad", desc := "(LScriptDesk$Elements;I)I" } : Jvm.MethodName) prog_2_method_5_code (5 : Nat) (Option.some Jvm.ClassFile.FieldType.int)) ∈ sx_tbl := tw_of (i := 383) rfl rfl
theorem tw_384 : (Jvm.Cond.methodLink "ScriptDesk$BlockDigest" (59 : Nat) ({ cls := "java/util/Arrays", name := "fill", desc := "([II)V" } : Jvm.MethodName)) ∈ sx_tbl := tw_of (i := 384) (by decide +kernel) rfl
theorem tw_385 : (Jvm.Cond.static ({ cls := "java/util/Arrays", name := "fill", desc := "([II)V" } : Jvm.MethodName)) ∈ sx_tbl := tw_of (i := 385) (by decide +kernel) rfl
set_option maxRecDepth 20000 in
theorem tw_386 : (Jvm.Cond.code ({ cls := "java/util/Arrays", name := "fill", desc := "([II)V" } : Jvm.MethodName) prog_15_method_103_code (4 : Nat) (Option.none : Option Jvm.ClassFile.FieldType)) ∈ sx_tbl := tw_of (i := 386) rfl rfl
theorem tw_387 : (Jvm.Cond.methodLink "ScriptDesk$BlockDigest" (65 : Nat) ({ cls := "ScriptDesk$Elements", name := "octetAt", desc := "(II)I" } : Jvm.MethodName)) ∈ sx_tbl := tw_of (i := 387) (by decide +kernel) rfl
theorem tw_388 : (Jvm.Cond.methodLink "ScriptDesk$BlockDigest" (48 : Nat) ({ cls := "ScriptDesk$BlockDigest", name := "write", desc := "(I[II)V" } : Jvm.MethodName)) ∈ sx_tbl := tw_of (i := 388) (by decide +kernel) rfl
theorem tw_390 : (Jvm.Cond.instanceMethod ({ cls := "ScriptDesk$BlockDigest", name := "write", desc := "(I[II)V" } : Jvm.MethodName)) ∈ sx_tbl := tw_of (i := 390) (by decide +kernel) rfl
set_option maxRecDepth 20000 in
theorem tw_391 : (Jvm.Cond.code ({ cls := "ScriptDesk$BlockDigest", name := "write", desc := "(I[II)V" } : Jvm.MethodName) prog_2_method_7_code (5 : Nat) (Option.none : Option Jvm.ClassFile.FieldType)) ∈ sx_tbl := tw_of (i := 391) rfl rfl
theorem tw_392 : (Jvm.Cond.methodLink "ScriptDesk$BlockDigest" (69 : Nat) ({ cls := "ScriptDesk$BlockDigest", name := "shiftOf", desc := "(I)I" } : Jvm.MethodName)) ∈ sx_tbl := tw_of (i := 392) (by decide +kernel) rfl
theorem tw_394 : (Jvm.Cond.instanceMethod ({ cls := "ScriptDesk$BlockDigest", name := "shiftOf", desc := "(I)I" } : Jvm.MethodName)) ∈ sx_tbl := tw_of (i := 394) (by decide +kernel) rfl
set_option maxRecDepth 20000 in
theorem tw_395 : (Jvm.Cond.code ({ cls := "ScriptDesk$BlockDigest", name := "shiftOf", desc := "(I)I" } : Jvm.MethodName) prog_2_method_8_code (2 : Nat) (Option.some Jvm.ClassFile.FieldType.int)) ∈ sx_tbl := tw_of (i := 395) rfl rfl
theorem tw_396 : (Jvm.Cond.methodLink "ScriptDesk$BlockDigest" (38 : Nat) ({ cls := "ScriptDesk$BlockDigest", name := "begin", desc := "()V" } : Jvm.MethodName)) ∈ sx_tbl := tw_of (i := 396) (by decide +kernel) rfl
theorem tw_398 : (Jvm.Cond.sameMethod "ScriptDesk$BlockDigest" "ScriptDesk$BlockDigest" "begin" "()V") ∈ sx_tbl := tw_of (i := 398) (by decide +kernel) rfl
theorem tw_399 : (Jvm.Cond.selects "ScriptDesk$Ripemd160" ({ cls := "ScriptDesk$BlockDigest", name := "begin", desc := "()V" } : Jvm.MethodName) ({ cls := "ScriptDesk$Ripemd160", name := "begin", desc := "()V" } : Jvm.MethodName)) ∈ sx_tbl := tw_of (i := 399) (by decide +kernel) rfl
theorem tw_400 : (Jvm.Cond.instanceMethod ({ cls := "ScriptDesk$Ripemd160", name := "begin", desc := "()V" } : Jvm.MethodName)) ∈ sx_tbl := tw_of (i := 400) (by decide +kernel) rfl
set_option maxRecDepth 20000 in
theorem tw_401 : (Jvm.Cond.code ({ cls := "ScriptDesk$Ripemd160", name := "begin", desc := "()V" } : Jvm.MethodName) prog_7_method_2_code (1 : Nat) (Option.none : Option Jvm.ClassFile.FieldType)) ∈ sx_tbl := tw_of (i := 401) rfl rfl
theorem tw_402 : (Jvm.Cond.fieldLink "ScriptDesk$Ripemd160" (16 : Nat) "ScriptDesk$Ripemd160" "FIRST" "[I") ∈ sx_tbl := tw_of (i := 402) (by decide +kernel) rfl
theorem tw_404 : (Jvm.Cond.methodLink "ScriptDesk$Ripemd160" (22 : Nat) ({ cls := "java/lang/System", name := "arraycopy", desc := "(Ljava/lang/Object;ILjava/lang/Object;II)V" } : Jvm.MethodName)) ∈ sx_tbl := tw_of (i := 404) (by decide +kernel) rfl
theorem tw_405 : (Jvm.Cond.selects "ScriptDesk$Sha256" ({ cls := "ScriptDesk$BlockDigest", name := "begin", desc := "()V" } : Jvm.MethodName) ({ cls := "ScriptDesk$Sha256", name := "begin", desc := "()V" } : Jvm.MethodName)) ∈ sx_tbl := tw_of (i := 405) (by decide +kernel) rfl
theorem tw_406 : (Jvm.Cond.instanceMethod ({ cls := "ScriptDesk$Sha256", name := "begin", desc := "()V" } : Jvm.MethodName)) ∈ sx_tbl := tw_of (i := 406) (by decide +kernel) rfl
set_option maxRecDepth 20000 in
theorem tw_407 : (Jvm.Cond.code ({ cls := "ScriptDesk$Sha256", name := "begin", desc := "()V" } : Jvm.MethodName) prog_8_method_2_code (1 : Nat) (Option.none : Option Jvm.ClassFile.FieldType)) ∈ sx_tbl := tw_of (i := 407) rfl rfl
theorem tw_408 : (Jvm.Cond.fieldLink "ScriptDesk$Sha256" (7 : Nat) "ScriptDesk$Sha256" "FIRST" "[I") ∈ sx_tbl := tw_of (i := 408) (by decide +kernel) rfl
theorem tw_410 : (Jvm.Cond.methodLink "ScriptDesk$Sha256" (16 : Nat) ({ cls := "java/lang/System", name := "arraycopy", desc := "(Ljava/lang/Object;ILjava/lang/Object;II)V" } : Jvm.MethodName)) ∈ sx_tbl := tw_of (i := 410) (by decide +kernel) rfl
theorem tw_411 : (Jvm.Cond.methodLink "ScriptDesk$BlockDigest" (41 : Nat) ({ cls := "ScriptDesk$BlockDigest", name := "readBlock", desc := "(I)V" } : Jvm.MethodName)) ∈ sx_tbl := tw_of (i := 411) (by decide +kernel) rfl
theorem tw_413 : (Jvm.Cond.instanceMethod ({ cls := "ScriptDesk$BlockDigest", name := "readBlock", desc := "(I)V" } : Jvm.MethodName)) ∈ sx_tbl := tw_of (i := 413) (by decide +kernel) rfl
set_option maxRecDepth 20000 in
theorem tw_414 : (Jvm.Cond.code ({ cls := "ScriptDesk$BlockDigest", name := "readBlock", desc := "(I)V" } : Jvm.MethodName) prog_2_method_6_code (5 : Nat) (Option.none : Option Jvm.ClassFile.FieldType)) ∈ sx_tbl := tw_of (i := 414) rfl rfl
theorem tw_415 : (Jvm.Cond.methodLink "ScriptDesk$BlockDigest" (45 : Nat) ({ cls := "ScriptDesk$BlockDigest", name := "mix", desc := "()V" } : Jvm.MethodName)) ∈ sx_tbl := tw_of (i := 415) (by decide +kernel) rfl
theorem tw_417 : (Jvm.Cond.sameMethod "ScriptDesk$BlockDigest" "ScriptDesk$BlockDigest" "mix" "()V") ∈ sx_tbl := tw_of (i := 417) (by decide +kernel) rfl
theorem tw_418 : (Jvm.Cond.selects "ScriptDesk$Ripemd160" ({ cls := "ScriptDesk$BlockDigest", name := "mix", desc := "()V" } : Jvm.MethodName) ({ cls := "ScriptDesk$Ripemd160", name := "mix", desc := "()V" } : Jvm.MethodName)) ∈ sx_tbl := tw_of (i := 418) (by decide +kernel) rfl
theorem tw_419 : (Jvm.Cond.instanceMethod ({ cls := "ScriptDesk$Ripemd160", name := "mix", desc := "()V" } : Jvm.MethodName)) ∈ sx_tbl := tw_of (i := 419) (by decide +kernel) rfl
set_option maxRecDepth 20000 in
theorem tw_420 : (Jvm.Cond.code ({ cls := "ScriptDesk$Ripemd160", name := "mix", desc := "()V" } : Jvm.MethodName) prog_7_method_3_code (3 : Nat) (Option.none : Option Jvm.ClassFile.FieldType)) ∈ sx_tbl := tw_of (i := 420) rfl rfl
theorem tw_421 : (Jvm.Cond.fieldLink "ScriptDesk$Ripemd160" (31 : Nat) "ScriptDesk$Ripemd160" "LEFT_WORD" "[I") ∈ sx_tbl := tw_of (i := 421) (by decide +kernel) rfl
theorem tw_423 : (Jvm.Cond.fieldLink "ScriptDesk$Ripemd160" (34 : Nat) "ScriptDesk$Ripemd160" "LEFT_ADDED" "[I") ∈ sx_tbl := tw_of (i := 423) (by decide +kernel) rfl
theorem tw_425 : (Jvm.Cond.fieldLink "ScriptDesk$Ripemd160" (37 : Nat) "ScriptDesk$Ripemd160" "LEFT_TURN" "[I") ∈ sx_tbl := tw_of (i := 425) (by decide +kernel) rfl
theorem tw_427 : (Jvm.Cond.methodLink "ScriptDesk$Ripemd160" (40 : Nat) ({ cls := "ScriptDesk$Ripemd160", name := "step", desc := "([IIII)V" } : Jvm.MethodName)) ∈ sx_tbl := tw_of (i := 427) (by decide +kernel) rfl
theorem tw_428 : (Jvm.Cond.static ({ cls := "ScriptDesk$Ripemd160", name := "step", desc := "([IIII)V" } : Jvm.MethodName)) ∈ sx_tbl := tw_of (i := 428) (by decide +kernel) rfl
set_option maxRecDepth 20000 in
theorem tw_429 : (Jvm.Cond.code ({ cls := "ScriptDesk$Ripemd160", name := "step", desc := "([IIII)V" } : Jvm.MethodName) prog_7_method_4_code (6 : Nat) (Option.none : Option Jvm.ClassFile.FieldType)) ∈ sx_tbl := tw_of (i := 429) rfl rfl
theorem tw_430 : (Jvm.Cond.methodLink "ScriptDesk$Ripemd160" (53 : Nat) ({ cls := "ScriptDesk$Ripemd160", name := "blend", desc := "(IIII)I" } : Jvm.MethodName)) ∈ sx_tbl := tw_of (i := 430) (by decide +kernel) rfl
theorem tw_431 : (Jvm.Cond.static ({ cls := "ScriptDesk$Ripemd160", name := "blend", desc := "(IIII)I" } : Jvm.MethodName)) ∈ sx_tbl := tw_of (i := 431) (by decide +kernel) rfl
set_option maxRecDepth 20000 in
theorem tw_432 : (Jvm.Cond.code ({ cls := "ScriptDesk$Ripemd160", name := "blend", desc := "(IIII)I" } : Jvm.MethodName) prog_7_method_5_code (4 : Nat) (Option.some Jvm.ClassFile.FieldType.int)) ∈ sx_tbl := tw_of (i := 432) rfl rfl
theorem tw_433 : (Jvm.Cond.methodLink "ScriptDesk$Ripemd160" (57 : Nat) ({ cls := "ScriptDesk$Ripemd160", name := "turned", desc := "(II)I" } : Jvm.MethodName)) ∈ sx_tbl := tw_of (i := 433) (by decide +kernel) rfl
theorem tw_434 : (Jvm.Cond.static ({ cls := "ScriptDesk$Ripemd160", name := "turned", desc := "(II)I" } : Jvm.MethodName)) ∈ sx_tbl := tw_of (i := 434) (by decide +kernel) rfl
set_option maxRecDepth 20000 in
theorem tw_435 : (Jvm.Cond.code ({ cls := "ScriptDesk$Ripemd160", name := "turned", desc := "(II)I" } : Jvm.MethodName) prog_7_method_6_code (2 : Nat) (Option.some Jvm.ClassFile.FieldType.int)) ∈ sx_tbl := tw_of (i := 435) rfl rfl
theorem tw_436 : (Jvm.Cond.fieldLink "ScriptDesk$Ripemd160" (44 : Nat) "ScriptDesk$Ripemd160" "RIGHT_WORD" "[I") ∈ sx_tbl := tw_of (i := 436) (by decide +kernel) rfl
theorem tw_438 : (Jvm.Cond.fieldLink "ScriptDesk$Ripemd160" (47 : Nat) "ScriptDesk$Ripemd160" "RIGHT_ADDED" "[I") ∈ sx_tbl := tw_of (i := 438) (by decide +kernel) rfl
theorem tw_440 : (Jvm.Cond.fieldLink "ScriptDesk$Ripemd160" (50 : Nat) "ScriptDesk$Ripemd160" "RIGHT_TURN" "[I") ∈ sx_tbl := tw_of (i := 440) (by decide +kernel) rfl
theorem tw_442 : (Jvm.Cond.selects "ScriptDesk$Sha256" ({ cls := "ScriptDesk$BlockDigest", name := "mix", desc := "()V" } : Jvm.MethodName) ({ cls := "ScriptDesk$Sha256", name := "mix", desc := "()V" } : Jvm.MethodName)) ∈ sx_tbl := tw_of (i := 442) (by decide +kernel) rfl
theorem tw_443 : (Jvm.Cond.instanceMethod ({ cls := "ScriptDesk$Sha256", name := "mix", desc := "()V" } : Jvm.MethodName)) ∈ sx_tbl := tw_of (i := 443) (by decide +kernel) rfl
set_option maxRecDepth 20000 in
theorem tw_444 : (Jvm.Cond.code ({ cls := "ScriptDesk$Sha256", name := "mix", desc := "()V" } : Jvm.MethodName) prog_8_method_3_code (14 : Nat) (Option.none : Option Jvm.ClassFile.FieldType)) ∈ sx_tbl := tw_of (i := 444) rfl rfl
theorem tw_445 : (Jvm.Cond.methodLink "ScriptDesk$Sha256" (22 : Nat) ({ cls := "ScriptDesk$Sha256", name := "spreadWords", desc := "()V" } : Jvm.MethodName)) ∈ sx_tbl := tw_of (i := 445) (by decide +kernel) rfl
theorem tw_447 : (Jvm.Cond.instanceMethod ({ cls := "ScriptDesk$Sha256", name := "spreadWords", desc := "()V" } : Jvm.MethodName)) ∈ sx_tbl := tw_of (i := 447) (by decide +kernel) rfl
set_option maxRecDepth 20000 in
theorem tw_448 : (Jvm.Cond.code ({ cls := "ScriptDesk$Sha256", name := "spreadWords", desc := "()V" } : Jvm.MethodName) prog_8_method_4_code (6 : Nat) (Option.none : Option Jvm.ClassFile.FieldType)) ∈ sx_tbl := tw_of (i := 448) rfl rfl
theorem tw_449 : (Jvm.Cond.methodLink "ScriptDesk$Sha256" (26 : Nat) ({ cls := "ScriptDesk$Sha256", name := "turned", desc := "(II)I" } : Jvm.MethodName)) ∈ sx_tbl := tw_of (i := 449) (by decide +kernel) rfl
theorem tw_450 : (Jvm.Cond.static ({ cls := "ScriptDesk$Sha256", name := "turned", desc := "(II)I" } : Jvm.MethodName)) ∈ sx_tbl := tw_of (i := 450) (by decide +kernel) rfl
set_option maxRecDepth 20000 in
theorem tw_451 : (Jvm.Cond.code ({ cls := "ScriptDesk$Sha256", name := "turned", desc := "(II)I" } : Jvm.MethodName) prog_8_method_5_code (2 : Nat) (Option.some Jvm.ClassFile.FieldType.int)) ∈ sx_tbl := tw_of (i := 451) rfl rfl
theorem tw_452 : (Jvm.Cond.fieldLink "ScriptDesk$Sha256" (30 : Nat) "ScriptDesk$Sha256" "ROUND" "[I") ∈ sx_tbl := tw_of (i := 452) (by decide +kernel) rfl
theorem tw_454 : (Jvm.Cond.methodLink "ScriptDesk$BlockDigest" (52 : Nat) ({ cls := "ScriptDesk$Elements", name := "drop", desc := "(I)V" } : Jvm.MethodName)) ∈ sx_tbl := tw_of (i := 454) (by decide +kernel) rfl
theorem tw_455 : (Jvm.Cond.methodLink "ScriptDesk$BlockDigest" (55 : Nat) ({ cls := "ScriptDesk$Elements", name := "push", desc := "([III)V" } : Jvm.MethodName)) ∈ sx_tbl := tw_of (i := 455) (by decide +kernel) rfl
theorem tw_456 : (Jvm.Cond.methodLink "ScriptDesk" (149 : Nat) ({ cls := "ScriptDesk$Signatures", name := "perform", desc := "(LScriptDesk$Elements;LScriptDesk$Tally;I)I" } : Jvm.MethodName)) ∈ sx_tbl := tw_of (i := 456) (by decide +kernel) rfl
theorem tw_457 : (Jvm.Cond.instanceMethod ({ cls := "ScriptDesk$Signatures", name := "perform", desc := "(LScriptDesk$Elements;LScriptDesk$Tally;I)I" } : Jvm.MethodName)) ∈ sx_tbl := tw_of (i := 457) (by decide +kernel) rfl
theorem tw_458 : (Jvm.Cond.selects "ScriptDesk$Signatures" ({ cls := "ScriptDesk$Signatures", name := "perform", desc := "(LScriptDesk$Elements;LScriptDesk$Tally;I)I" } : Jvm.MethodName) ({ cls := "ScriptDesk$Signatures", name := "perform", desc := "(LScriptDesk$Elements;LScriptDesk$Tally;I)I" } : Jvm.MethodName)) ∈ sx_tbl := tw_of (i := 458) (by decide +kernel) rfl
set_option maxRecDepth 20000 in
theorem tw_459 : (Jvm.Cond.code ({ cls := "ScriptDesk$Signatures", name := "perform", desc := "(LScriptDesk$Elements;LScriptDesk$Tally;I)I" } : Jvm.MethodName) prog_9_method_2_code (6 : Nat) (Option.some Jvm.ClassFile.FieldType.int)) ∈ sx_tbl := tw_of (i := 459) rfl rfl
theorem tw_460 : (Jvm.Cond.methodLink "ScriptDesk$Signatures" (9 : Nat) ({ cls := "ScriptDesk$Signatures", name := "askOne", desc := "(LScriptDesk$Elements;)I" } : Jvm.MethodName)) ∈ sx_tbl := tw_of (i := 460) (by decide +kernel) rfl
theorem tw_462 : (Jvm.Cond.instanceMethod ({ cls := "ScriptDesk$Signatures", name := "askOne", desc := "(LScriptDesk$Elements;)I" } : Jvm.MethodName)) ∈ sx_tbl := tw_of (i := 462) (by decide +kernel) rfl
set_option maxRecDepth 20000 in
theorem tw_463 : (Jvm.Cond.code ({ cls := "ScriptDesk$Signatures", name := "askOne", desc := "(LScriptDesk$Elements;)I" } : Jvm.MethodName) prog_9_method_3_code (3 : Nat) (Option.some Jvm.ClassFile.FieldType.int)) ∈ sx_tbl := tw_of (i := 463) rfl rfl
theorem tw_464 : (Jvm.Cond.methodLink "ScriptDesk$Signatures" (29 : Nat) ({ cls := "ScriptDesk$Signatures", name := "fits", desc := "(LScriptDesk$Elements;II)Z" } : Jvm.MethodName)) ∈ sx_tbl := tw_of (i := 464) (by decide +kernel) rfl
theorem tw_466 : (Jvm.Cond.instanceMethod ({ cls := "ScriptDesk$Signatures", name := "fits", desc := "(LScriptDesk$Elements;II)Z" } : Jvm.MethodName)) ∈ sx_tbl := tw_of (i := 466) (by decide +kernel) rfl
set_option maxRecDepth 20000 in
theorem tw_467 : (Jvm.Cond.code ({ cls := "ScriptDesk$Signatures", name := "fits", desc := "(LScriptDesk$Elements;II)Z" } : Jvm.MethodName) prog_9_method_7_code (12 : Nat) (Option.some Jvm.ClassFile.FieldType.boolean)) ∈ sx_tbl := tw_of (i := 467) rfl rfl
theorem tw_468 : (Jvm.Cond.methodLink "ScriptDesk$Signatures" (61 : Nat) ({ cls := "ScriptDesk$Elements", name := "lengthAt", desc := "(I)I" } : Jvm.MethodName)) ∈ sx_tbl := tw_of (i := 468) (by decide +kernel) rfl
theorem tw_469 : (Jvm.Cond.methodLink "ScriptDesk$Signatures" (64 : Nat) ({ cls := "ScriptDesk$Elements", name := "octetAt", desc := "(II)I" } : Jvm.MethodName)) ∈ sx_tbl := tw_of (i := 469) (by decide +kernel) rfl
theorem tw_470 : (Jvm.Cond.constantLong "ScriptDesk$Signatures" (71 : Nat) (3 : Int64)) ∈ sx_tbl := tw_of (i := 470) (by decide +kernel) rfl
theorem tw_471 : (Jvm.Cond.methodLink "ScriptDesk$Signatures" (33 : Nat) ({ cls := "ScriptDesk$Elements", name := "replaceByTruth", desc := "(IZ)V" } : Jvm.MethodName)) ∈ sx_tbl := tw_of (i := 471) (by decide +kernel) rfl
theorem tw_472 : (Jvm.Cond.methodLink "ScriptDesk$Signatures" (15 : Nat) ({ cls := "ScriptDesk$Signatures", name := "askMany", desc := "(LScriptDesk$Elements;LScriptDesk$Tally;)I" } : Jvm.MethodName)) ∈ sx_tbl := tw_of (i := 472) (by decide +kernel) rfl
theorem tw_474 : (Jvm.Cond.instanceMethod ({ cls := "ScriptDesk$Signatures", name := "askMany", desc := "(LScriptDesk$Elements;LScriptDesk$Tally;)I" } : Jvm.MethodName)) ∈ sx_tbl := tw_of (i := 474) (by decide +kernel) rfl
set_option maxRecDepth 20000 in
theorem tw_475 : (Jvm.Cond.code ({ cls := "ScriptDesk$Signatures", name := "askMany", desc := "(LScriptDesk$Elements;LScriptDesk$Tally;)I" } : Jvm.MethodName) prog_9_method_4_code (8 : Nat) (Option.some Jvm.ClassFile.FieldType.int)) ∈ sx_tbl := tw_of (i := 475) rfl rfl
theorem tw_476 : (Jvm.Cond.methodLink "ScriptDesk$Signatures" (37 : Nat) ({ cls := "ScriptDesk$Signatures", name := "faultOfAmount", desc := "(LScriptDesk$Elements;II)I" } : Jvm.MethodName)) ∈ sx_tbl := tw_of (i := 476) (by decide +kernel) rfl
theorem tw_477 : (Jvm.Cond.static ({ cls := "ScriptDesk$Signatures", name := "faultOfAmount", desc := "(LScriptDesk$Elements;II)I" } : Jvm.MethodName)) ∈ sx_tbl := tw_of (i := 477) (by decide +kernel) rfl
set_option maxRecDepth 20000 in
theorem tw_478 : (Jvm.Cond.code ({ cls := "ScriptDesk$Signatures", name := "faultOfAmount", desc := "(LScriptDesk$Elements;II)I" } : Jvm.MethodName) prog_9_method_5_code (6 : Nat) (Option.some Jvm.ClassFile.FieldType.int)) ∈ sx_tbl := tw_of (i := 478) rfl rfl
theorem tw_479 : (Jvm.Cond.methodLink "ScriptDesk$Signatures" (54 : Nat) ({ cls := "ScriptDesk$Elements", name := "faultOfNumber", desc := "(I)I" } : Jvm.MethodName)) ∈ sx_tbl := tw_of (i := 479) (by decide +kernel) rfl
theorem tw_480 : (Jvm.Cond.methodLink "ScriptDesk$Signatures" (41 : Nat) ({ cls := "ScriptDesk$Elements", name := "numberAt", desc := "(I)J" } : Jvm.MethodName)) ∈ sx_tbl := tw_of (i := 480) (by decide +kernel) rfl
theorem tw_481 : (Jvm.Cond.methodLink "ScriptDesk$Signatures" (45 : Nat) ({ cls := "ScriptDesk$Tally", name := "passesLimit", desc := "(I)Z" } : Jvm.MethodName)) ∈ sx_tbl := tw_of (i := 481) (by decide +kernel) rfl
theorem tw_482 : (Jvm.Cond.methodLink "ScriptDesk$Signatures" (51 : Nat) ({ cls := "ScriptDesk$Signatures", name := "allFit", desc := "(LScriptDesk$Elements;II)Z" } : Jvm.MethodName)) ∈ sx_tbl := tw_of (i := 482) (by decide +kernel) rfl
theorem tw_484 : (Jvm.Cond.instanceMethod ({ cls := "ScriptDesk$Signatures", name := "allFit", desc := "(LScriptDesk$Elements;II)Z" } : Jvm.MethodName)) ∈ sx_tbl := tw_of (i := 484) (by decide +kernel) rfl
set_option maxRecDepth 20000 in
theorem tw_485 : (Jvm.Cond.code ({ cls := "ScriptDesk$Signatures", name := "allFit", desc := "(LScriptDesk$Elements;II)Z" } : Jvm.MethodName) prog_9_method_6_code (6 : Nat) (Option.some Jvm.ClassFile.FieldType.boolean)) ∈ sx_tbl := tw_of (i := 485) rfl rfl
theorem tw_486 : (Jvm.Cond.methodLink "ScriptDesk$Signatures" (19 : Nat) ({ cls := "ScriptDesk$Elements", name := "takeTrue", desc := "()I" } : Jvm.MethodName)) ∈ sx_tbl := tw_of (i := 486) (by decide +kernel) rfl
theorem tw_487 : (Jvm.Cond.methodLink "ScriptDesk" (80 : Nat) ({ cls := "ScriptDesk$Elements", name := "areTooMany", desc := "()Z" } : Jvm.MethodName)) ∈ sx_tbl := tw_of (i := 487) (by decide +kernel) rfl
theorem tw_488 : (Jvm.Cond.instanceMethod ({ cls := "ScriptDesk$Elements", name := "areTooMany", desc := "()Z" } : Jvm.MethodName)) ∈ sx_tbl := tw_of (i := 488) (by decide +kernel) rfl
theorem tw_489 : (Jvm.Cond.selects "ScriptDesk$Elements" ({ cls := "ScriptDesk$Elements", name := "areTooMany", desc := "()Z" } : Jvm.MethodName) ({ cls := "ScriptDesk$Elements", name := "areTooMany", desc := "()Z" } : Jvm.MethodName)) ∈ sx_tbl := tw_of (i := 489) (by decide +kernel) rfl
set_option maxRecDepth 20000 in
theorem tw_490 : (Jvm.Cond.code ({ cls := "ScriptDesk$Elements", name := "areTooMany", desc := "()Z" } : Jvm.MethodName) prog_3_method_2_code (1 : Nat) (Option.some Jvm.ClassFile.FieldType.boolean)) ∈ sx_tbl := tw_of (i := 490) rfl rfl
theorem tw_491 : (Jvm.Cond.methodLink "ScriptDesk" (87 : Nat) ({ cls := "ScriptDesk$Elements", name := "dropSide", desc := "()V" } : Jvm.MethodName)) ∈ sx_tbl := tw_of (i := 491) (by decide +kernel) rfl
theorem tw_492 : (Jvm.Cond.instanceMethod ({ cls := "ScriptDesk$Elements", name := "dropSide", desc := "()V" } : Jvm.MethodName)) ∈ sx_tbl := tw_of (i := 492) (by decide +kernel) rfl
theorem tw_493 : (Jvm.Cond.selects "ScriptDesk$Elements" ({ cls := "ScriptDesk$Elements", name := "dropSide", desc := "()V" } : Jvm.MethodName) ({ cls := "ScriptDesk$Elements", name := "dropSide", desc := "()V" } : Jvm.MethodName)) ∈ sx_tbl := tw_of (i := 493) (by decide +kernel) rfl
set_option maxRecDepth 20000 in
theorem tw_494 : (Jvm.Cond.code ({ cls := "ScriptDesk$Elements", name := "dropSide", desc := "()V" } : Jvm.MethodName) prog_3_method_10_code (1 : Nat) (Option.none : Option Jvm.ClassFile.FieldType)) ∈ sx_tbl := tw_of (i := 494) rfl rfl
theorem tw_495 : (Jvm.Cond.methodLink "ScriptDeskLaw" (30 : Nat) ({ cls := "ScriptDesk", name := "place", desc := "()I" } : Jvm.MethodName)) ∈ sx_tbl := tw_of (i := 495) (by decide +kernel) rfl
theorem tw_496 : (Jvm.Cond.instanceMethod ({ cls := "ScriptDesk", name := "place", desc := "()I" } : Jvm.MethodName)) ∈ sx_tbl := tw_of (i := 496) (by decide +kernel) rfl
theorem tw_497 : (Jvm.Cond.selects "ScriptDesk" ({ cls := "ScriptDesk", name := "place", desc := "()I" } : Jvm.MethodName) ({ cls := "ScriptDesk", name := "place", desc := "()I" } : Jvm.MethodName)) ∈ sx_tbl := tw_of (i := 497) (by decide +kernel) rfl
set_option maxRecDepth 20000 in
theorem tw_498 : (Jvm.Cond.code ({ cls := "ScriptDesk", name := "place", desc := "()I" } : Jvm.MethodName) prog_1_method_5_code (1 : Nat) (Option.some Jvm.ClassFile.FieldType.int)) ∈ sx_tbl := tw_of (i := 498) rfl rfl
theorem tw_499 : (Jvm.Cond.methodLink "ScriptDeskLaw" (34 : Nat) ({ cls := "ScriptDesk", name := "clear", desc := "()I" } : Jvm.MethodName)) ∈ sx_tbl := tw_of (i := 499) (by decide +kernel) rfl
theorem tw_500 : (Jvm.Cond.instanceMethod ({ cls := "ScriptDesk", name := "clear", desc := "()I" } : Jvm.MethodName)) ∈ sx_tbl := tw_of (i := 500) (by decide +kernel) rfl
theorem tw_501 : (Jvm.Cond.selects "ScriptDesk" ({ cls := "ScriptDesk", name := "clear", desc := "()I" } : Jvm.MethodName) ({ cls := "ScriptDesk", name := "clear", desc := "()I" } : Jvm.MethodName)) ∈ sx_tbl := tw_of (i := 501) (by decide +kernel) rfl
set_option maxRecDepth 20000 in
theorem tw_502 : (Jvm.Cond.code ({ cls := "ScriptDesk", name := "clear", desc := "()I" } : Jvm.MethodName) prog_1_method_6_code (2 : Nat) (Option.some Jvm.ClassFile.FieldType.int)) ∈ sx_tbl := tw_of (i := 502) rfl rfl
theorem tw_503 : (Jvm.Cond.methodLink "ScriptDeskLaw" (38 : Nat) ({ cls := "ScriptDesk", name := "size", desc := "()I" } : Jvm.MethodName)) ∈ sx_tbl := tw_of (i := 503) (by decide +kernel) rfl
theorem tw_504 : (Jvm.Cond.instanceMethod ({ cls := "ScriptDesk", name := "size", desc := "()I" } : Jvm.MethodName)) ∈ sx_tbl := tw_of (i := 504) (by decide +kernel) rfl
theorem tw_505 : (Jvm.Cond.selects "ScriptDesk" ({ cls := "ScriptDesk", name := "size", desc := "()I" } : Jvm.MethodName) ({ cls := "ScriptDesk", name := "size", desc := "()I" } : Jvm.MethodName)) ∈ sx_tbl := tw_of (i := 505) (by decide +kernel) rfl
set_option maxRecDepth 20000 in
theorem tw_506 : (Jvm.Cond.code ({ cls := "ScriptDesk", name := "size", desc := "()I" } : Jvm.MethodName) prog_1_method_7_code (1 : Nat) (Option.some Jvm.ClassFile.FieldType.int)) ∈ sx_tbl := tw_of (i := 506) rfl rfl
theorem tw_507 : (Jvm.Cond.methodLink "ScriptDeskLaw" (42 : Nat) ({ cls := "ScriptDesk", name := "isTrue", desc := "()Z" } : Jvm.MethodName)) ∈ sx_tbl := tw_of (i := 507) (by decide +kernel) rfl
theorem tw_508 : (Jvm.Cond.instanceMethod ({ cls := "ScriptDesk", name := "isTrue", desc := "()Z" } : Jvm.MethodName)) ∈ sx_tbl := tw_of (i := 508) (by decide +kernel) rfl
theorem tw_509 : (Jvm.Cond.selects "ScriptDesk" ({ cls := "ScriptDesk", name := "isTrue", desc := "()Z" } : Jvm.MethodName) ({ cls := "ScriptDesk", name := "isTrue", desc := "()Z" } : Jvm.MethodName)) ∈ sx_tbl := tw_of (i := 509) (by decide +kernel) rfl
set_option maxRecDepth 20000 in
theorem tw_510 : (Jvm.Cond.code ({ cls := "ScriptDesk", name := "isTrue", desc := "()Z" } : Jvm.MethodName) prog_1_method_8_code (1 : Nat) (Option.some Jvm.ClassFile.FieldType.boolean)) ∈ sx_tbl := tw_of (i := 510) rfl rfl
theorem tw_511 : (Jvm.Cond.methodLink "ScriptDeskLaw" (47 : Nat) ({ cls := "ScriptDesk", name := "bytes", desc := "(I)I" } : Jvm.MethodName)) ∈ sx_tbl := tw_of (i := 511) (by decide +kernel) rfl
theorem tw_512 : (Jvm.Cond.instanceMethod ({ cls := "ScriptDesk", name := "bytes", desc := "(I)I" } : Jvm.MethodName)) ∈ sx_tbl := tw_of (i := 512) (by decide +kernel) rfl
theorem tw_513 : (Jvm.Cond.selects "ScriptDesk" ({ cls := "ScriptDesk", name := "bytes", desc := "(I)I" } : Jvm.MethodName) ({ cls := "ScriptDesk", name := "bytes", desc := "(I)I" } : Jvm.MethodName)) ∈ sx_tbl := tw_of (i := 513) (by decide +kernel) rfl
set_option maxRecDepth 20000 in
theorem tw_514 : (Jvm.Cond.code ({ cls := "ScriptDesk", name := "bytes", desc := "(I)I" } : Jvm.MethodName) prog_1_method_9_code (2 : Nat) (Option.some Jvm.ClassFile.FieldType.int)) ∈ sx_tbl := tw_of (i := 514) rfl rfl
theorem tw_515 : (Jvm.Cond.methodLink "ScriptDesk" (100 : Nat) ({ cls := "ScriptDesk$Elements", name := "lengthAt", desc := "(I)I" } : Jvm.MethodName)) ∈ sx_tbl := tw_of (i := 515) (by decide +kernel) rfl
theorem tw_516 : (Jvm.Cond.methodLink "ScriptDeskLaw" (52 : Nat) ({ cls := "ScriptDesk", name := "byteOf", desc := "(II)I" } : Jvm.MethodName)) ∈ sx_tbl := tw_of (i := 516) (by decide +kernel) rfl
theorem tw_517 : (Jvm.Cond.instanceMethod ({ cls := "ScriptDesk", name := "byteOf", desc := "(II)I" } : Jvm.MethodName)) ∈ sx_tbl := tw_of (i := 517) (by decide +kernel) rfl
theorem tw_518 : (Jvm.Cond.selects "ScriptDesk" ({ cls := "ScriptDesk", name := "byteOf", desc := "(II)I" } : Jvm.MethodName) ({ cls := "ScriptDesk", name := "byteOf", desc := "(II)I" } : Jvm.MethodName)) ∈ sx_tbl := tw_of (i := 518) (by decide +kernel) rfl
set_option maxRecDepth 20000 in
theorem tw_519 : (Jvm.Cond.code ({ cls := "ScriptDesk", name := "byteOf", desc := "(II)I" } : Jvm.MethodName) prog_1_method_10_code (3 : Nat) (Option.some Jvm.ClassFile.FieldType.int)) ∈ sx_tbl := tw_of (i := 519) rfl rfl
theorem tw_520 : (Jvm.Cond.methodLink "ScriptDesk" (103 : Nat) ({ cls := "ScriptDesk$Elements", name := "octetAt", desc := "(II)I" } : Jvm.MethodName)) ∈ sx_tbl := tw_of (i := 520) (by decide +kernel) rfl
theorem tw_521 : (Jvm.Cond.methodLink "ScriptDeskLaw" (57 : Nat) ({ cls := "ScriptDesk", name := "count", desc := "(I)I" } : Jvm.MethodName)) ∈ sx_tbl := tw_of (i := 521) (by decide +kernel) rfl
theorem tw_522 : (Jvm.Cond.instanceMethod ({ cls := "ScriptDesk", name := "count", desc := "(I)I" } : Jvm.MethodName)) ∈ sx_tbl := tw_of (i := 522) (by decide +kernel) rfl
theorem tw_523 : (Jvm.Cond.selects "ScriptDesk" ({ cls := "ScriptDesk", name := "count", desc := "(I)I" } : Jvm.MethodName) ({ cls := "ScriptDesk", name := "count", desc := "(I)I" } : Jvm.MethodName)) ∈ sx_tbl := tw_of (i := 523) (by decide +kernel) rfl
set_option maxRecDepth 20000 in
theorem tw_524 : (Jvm.Cond.code ({ cls := "ScriptDesk", name := "count", desc := "(I)I" } : Jvm.MethodName) prog_1_method_11_code (2 : Nat) (Option.some Jvm.ClassFile.FieldType.int)) ∈ sx_tbl := tw_of (i := 524) rfl rfl
theorem tw_525 : (Jvm.Cond.classLink "ScriptDeskLaw" (10 : Nat) "ScriptDeskModel") ∈ sx_tbl := tw_of (i := 525) (by decide +kernel) rfl
theorem tw_526 : (Jvm.Cond.instantiable "ScriptDeskModel" (18 : Nat)) ∈ sx_tbl := tw_of (i := 526) (by decide +kernel) rfl
theorem tw_527 : (Jvm.Cond.methodLink "ScriptDeskLaw" (12 : Nat) ({ cls := "ScriptDeskModel", name := "<init>", desc := "()V" } : Jvm.MethodName)) ∈ sx_tbl := tw_of (i := 527) (by decide +kernel) rfl
theorem tw_528 : (Jvm.Cond.instanceMethod ({ cls := "ScriptDeskModel", name := "<init>", desc := "()V" } : Jvm.MethodName)) ∈ sx_tbl := tw_of (i := 528) (by decide +kernel) rfl
set_option maxRecDepth 20000 in
theorem tw_529 : (Jvm.Cond.code ({ cls := "ScriptDeskModel", name := "<init>", desc := "()V" } : Jvm.MethodName) prog_12_method_1_code (1 : Nat) (Option.none : Option Jvm.ClassFile.FieldType)) ∈ sx_tbl := tw_of (i := 529) rfl rfl
theorem tw_530 : (Jvm.Cond.methodLink "ScriptDeskModel" (1 : Nat) ({ cls := "java/lang/Object", name := "<init>", desc := "()V" } : Jvm.MethodName)) ∈ sx_tbl := tw_of (i := 530) (by decide +kernel) rfl
theorem tw_531 : (Jvm.Cond.fieldLink "ScriptDeskModel" (7 : Nat) "ScriptDeskModel" "bytes" "[I") ∈ sx_tbl := tw_of (i := 531) (by decide +kernel) rfl
theorem tw_532 : (Jvm.Cond.fieldLink "ScriptDeskModel" (13 : Nat) "ScriptDeskModel" "sizes" "[I") ∈ sx_tbl := tw_of (i := 532) (by decide +kernel) rfl
theorem tw_533 : (Jvm.Cond.fieldLink "ScriptDeskModel" (47 : Nat) "ScriptDeskModel" "size" "I") ∈ sx_tbl := tw_of (i := 533) (by decide +kernel) rfl
theorem tw_534 : (Jvm.Cond.fieldLink "ScriptDeskModel" (170 : Nat) "ScriptDeskModel" "side" "I") ∈ sx_tbl := tw_of (i := 534) (by decide +kernel) rfl
theorem tw_535 : (Jvm.Cond.fieldLink "ScriptDeskModel" (16 : Nat) "ScriptDeskModel" "script" "[I") ∈ sx_tbl := tw_of (i := 535) (by decide +kernel) rfl
theorem tw_536 : (Jvm.Cond.fieldLink "ScriptDeskModel" (38 : Nat) "ScriptDeskModel" "length" "I") ∈ sx_tbl := tw_of (i := 536) (by decide +kernel) rfl
theorem tw_537 : (Jvm.Cond.fieldLink "ScriptDeskModel" (43 : Nat) "ScriptDeskModel" "secret" "J") ∈ sx_tbl := tw_of (i := 537) (by decide +kernel) rfl
theorem tw_538 : (Jvm.Cond.fieldLink "ScriptDeskModel" (60 : Nat) "ScriptDeskModel" "fault" "I") ∈ sx_tbl := tw_of (i := 538) (by decide +kernel) rfl
theorem tw_539 : (Jvm.Cond.fieldLink "ScriptDeskModel" (19 : Nat) "ScriptDeskModel" "place" "I") ∈ sx_tbl := tw_of (i := 539) (by decide +kernel) rfl
theorem tw_540 : (Jvm.Cond.fieldLink "ScriptDeskModel" (154 : Nat) "ScriptDeskModel" "operations" "I") ∈ sx_tbl := tw_of (i := 540) (by decide +kernel) rfl
theorem tw_541 : (Jvm.Cond.fieldLink "ScriptDeskModel" (133 : Nat) "ScriptDeskModel" "asked" "I") ∈ sx_tbl := tw_of (i := 541) (by decide +kernel) rfl
theorem tw_542 : (Jvm.Cond.fieldLink "ScriptDeskModel" (157 : Nat) "ScriptDeskModel" "depth" "I") ∈ sx_tbl := tw_of (i := 542) (by decide +kernel) rfl
theorem tw_543 : (Jvm.Cond.fieldLink "ScriptDeskModel" (23 : Nat) "ScriptDeskModel" "parts" "[I") ∈ sx_tbl := tw_of (i := 543) (by decide +kernel) rfl
theorem tw_544 : (Jvm.Cond.fieldLink "ScriptDeskModel" (75 : Nat) "ScriptDeskModel" "number" "J") ∈ sx_tbl := tw_of (i := 544) (by decide +kernel) rfl
theorem tw_545 : (Jvm.Cond.fieldLink "ScriptDeskModel" (26 : Nat) "ScriptDeskModel" "message" "[I") ∈ sx_tbl := tw_of (i := 545) (by decide +kernel) rfl
theorem tw_546 : (Jvm.Cond.fieldLink "ScriptDeskModel" (29 : Nat) "ScriptDeskModel" "row" "[I") ∈ sx_tbl := tw_of (i := 546) (by decide +kernel) rfl
theorem tw_547 : (Jvm.Cond.fieldLink "ScriptDeskModel" (32 : Nat) "ScriptDeskModel" "h" "[I") ∈ sx_tbl := tw_of (i := 547) (by decide +kernel) rfl
theorem tw_548 : (Jvm.Cond.fieldLink "ScriptDeskModel" (35 : Nat) "ScriptDeskModel" "v" "[I") ∈ sx_tbl := tw_of (i := 548) (by decide +kernel) rfl
theorem tw_586 : (Jvm.Cond.methodLink "ScriptDeskLaw" (19 : Nat) ({ cls := "ScriptDeskModel", name := "put", desc := "(JI)Z" } : Jvm.MethodName)) ∈ sx_tbl := tw_of (i := 586) (by decide +kernel) rfl
theorem tw_587 : (Jvm.Cond.instanceMethod ({ cls := "ScriptDeskModel", name := "put", desc := "(JI)Z" } : Jvm.MethodName)) ∈ sx_tbl := tw_of (i := 587) (by decide +kernel) rfl
theorem tw_588 : (Jvm.Cond.selects "ScriptDeskModel" ({ cls := "ScriptDeskModel", name := "put", desc := "(JI)Z" } : Jvm.MethodName) ({ cls := "ScriptDeskModel", name := "put", desc := "(JI)Z" } : Jvm.MethodName)) ∈ sx_tbl := tw_of (i := 588) (by decide +kernel) rfl
set_option maxRecDepth 20000 in
theorem tw_589 : (Jvm.Cond.code ({ cls := "ScriptDeskModel", name := "put", desc := "(JI)Z" } : Jvm.MethodName) prog_12_method_2_code (5 : Nat) (Option.some Jvm.ClassFile.FieldType.boolean)) ∈ sx_tbl := tw_of (i := 589) rfl rfl
theorem tw_590 : (Jvm.Cond.constantLong "ScriptDeskModel" (41 : Nat) (255 : Int64)) ∈ sx_tbl := tw_of (i := 590) (by decide +kernel) rfl
theorem tw_591 : (Jvm.Cond.methodLink "ScriptDeskLaw" (24 : Nat) ({ cls := "ScriptDeskModel", name := "secret", desc := "(I)V" } : Jvm.MethodName)) ∈ sx_tbl := tw_of (i := 591) (by decide +kernel) rfl
theorem tw_592 : (Jvm.Cond.instanceMethod ({ cls := "ScriptDeskModel", name := "secret", desc := "(I)V" } : Jvm.MethodName)) ∈ sx_tbl := tw_of (i := 592) (by decide +kernel) rfl
theorem tw_593 : (Jvm.Cond.selects "ScriptDeskModel" ({ cls := "ScriptDeskModel", name := "secret", desc := "(I)V" } : Jvm.MethodName) ({ cls := "ScriptDeskModel", name := "secret", desc := "(I)V" } : Jvm.MethodName)) ∈ sx_tbl := tw_of (i := 593) (by decide +kernel) rfl
set_option maxRecDepth 20000 in
theorem tw_594 : (Jvm.Cond.code ({ cls := "ScriptDeskModel", name := "secret", desc := "(I)V" } : Jvm.MethodName) prog_12_method_3_code (2 : Nat) (Option.none : Option Jvm.ClassFile.FieldType)) ∈ sx_tbl := tw_of (i := 594) rfl rfl
theorem tw_595 : (Jvm.Cond.methodLink "ScriptDeskLaw" (29 : Nat) ({ cls := "ScriptDeskModel", name := "run", desc := "()I" } : Jvm.MethodName)) ∈ sx_tbl := tw_of (i := 595) (by decide +kernel) rfl
theorem tw_596 : (Jvm.Cond.instanceMethod ({ cls := "ScriptDeskModel", name := "run", desc := "()I" } : Jvm.MethodName)) ∈ sx_tbl := tw_of (i := 596) (by decide +kernel) rfl
theorem tw_597 : (Jvm.Cond.selects "ScriptDeskModel" ({ cls := "ScriptDeskModel", name := "run", desc := "()I" } : Jvm.MethodName) ({ cls := "ScriptDeskModel", name := "run", desc := "()I" } : Jvm.MethodName)) ∈ sx_tbl := tw_of (i := 597) (by decide +kernel) rfl
set_option maxRecDepth 20000 in
theorem tw_598 : (Jvm.Cond.code ({ cls := "ScriptDeskModel", name := "run", desc := "()I" } : Jvm.MethodName) prog_12_method_38_code (3 : Nat) (Option.some Jvm.ClassFile.FieldType.int)) ∈ sx_tbl := tw_of (i := 598) rfl rfl
theorem tw_599 : (Jvm.Cond.methodLink "ScriptDeskModel" (224 : Nat) ({ cls := "ScriptDeskModel", name := "next", desc := "(I)I" } : Jvm.MethodName)) ∈ sx_tbl := tw_of (i := 599) (by decide +kernel) rfl
theorem tw_601 : (Jvm.Cond.instanceMethod ({ cls := "ScriptDeskModel", name := "next", desc := "(I)I" } : Jvm.MethodName)) ∈ sx_tbl := tw_of (i := 601) (by decide +kernel) rfl
set_option maxRecDepth 20000 in
theorem tw_602 : (Jvm.Cond.code ({ cls := "ScriptDeskModel", name := "next", desc := "(I)I" } : Jvm.MethodName) prog_12_method_37_code (6 : Nat) (Option.some Jvm.ClassFile.FieldType.int)) ∈ sx_tbl := tw_of (i := 602) rfl rfl
theorem tw_603 : (Jvm.Cond.methodLink "ScriptDeskModel" (160 : Nat) ({ cls := "ScriptDeskModel", name := "isDone", desc := "()Z" } : Jvm.MethodName)) ∈ sx_tbl := tw_of (i := 603) (by decide +kernel) rfl
theorem tw_605 : (Jvm.Cond.instanceMethod ({ cls := "ScriptDeskModel", name := "isDone", desc := "()Z" } : Jvm.MethodName)) ∈ sx_tbl := tw_of (i := 605) (by decide +kernel) rfl
set_option maxRecDepth 20000 in
theorem tw_606 : (Jvm.Cond.code ({ cls := "ScriptDeskModel", name := "isDone", desc := "()Z" } : Jvm.MethodName) prog_12_method_24_code (1 : Nat) (Option.some Jvm.ClassFile.FieldType.boolean)) ∈ sx_tbl := tw_of (i := 606) rfl rfl
theorem tw_607 : (Jvm.Cond.methodLink "ScriptDeskModel" (63 : Nat) ({ cls := "ScriptDeskModel", name := "fails", desc := "(I)V" } : Jvm.MethodName)) ∈ sx_tbl := tw_of (i := 607) (by decide +kernel) rfl
theorem tw_609 : (Jvm.Cond.instanceMethod ({ cls := "ScriptDeskModel", name := "fails", desc := "(I)V" } : Jvm.MethodName)) ∈ sx_tbl := tw_of (i := 609) (by decide +kernel) rfl
set_option maxRecDepth 20000 in
theorem tw_610 : (Jvm.Cond.code ({ cls := "ScriptDeskModel", name := "fails", desc := "(I)V" } : Jvm.MethodName) prog_12_method_11_code (2 : Nat) (Option.none : Option Jvm.ClassFile.FieldType)) ∈ sx_tbl := tw_of (i := 610) rfl rfl
theorem tw_611 : (Jvm.Cond.methodLink "ScriptDeskModel" (212 : Nat) ({ cls := "ScriptDeskModel", name := "pushes", desc := "(IIZ)I" } : Jvm.MethodName)) ∈ sx_tbl := tw_of (i := 611) (by decide +kernel) rfl
theorem tw_613 : (Jvm.Cond.instanceMethod ({ cls := "ScriptDeskModel", name := "pushes", desc := "(IIZ)I" } : Jvm.MethodName)) ∈ sx_tbl := tw_of (i := 613) (by decide +kernel) rfl
set_option maxRecDepth 20000 in
theorem tw_614 : (Jvm.Cond.code ({ cls := "ScriptDeskModel", name := "pushes", desc := "(IIZ)I" } : Jvm.MethodName) prog_12_method_36_code (5 : Nat) (Option.some Jvm.ClassFile.FieldType.int)) ∈ sx_tbl := tw_of (i := 614) rfl rfl
theorem tw_615 : (Jvm.Cond.methodLink "ScriptDeskModel" (216 : Nat) ({ cls := "ScriptDeskModel", name := "flow", desc := "(I)V" } : Jvm.MethodName)) ∈ sx_tbl := tw_of (i := 615) (by decide +kernel) rfl
theorem tw_617 : (Jvm.Cond.instanceMethod ({ cls := "ScriptDeskModel", name := "flow", desc := "(I)V" } : Jvm.MethodName)) ∈ sx_tbl := tw_of (i := 617) (by decide +kernel) rfl
set_option maxRecDepth 20000 in
theorem tw_618 : (Jvm.Cond.code ({ cls := "ScriptDeskModel", name := "flow", desc := "(I)V" } : Jvm.MethodName) prog_12_method_25_code (3 : Nat) (Option.none : Option Jvm.ClassFile.FieldType)) ∈ sx_tbl := tw_of (i := 618) rfl rfl
theorem tw_619 : (Jvm.Cond.methodLink "ScriptDeskModel" (67 : Nat) ({ cls := "ScriptDeskModel", name := "has", desc := "(I)Z" } : Jvm.MethodName)) ∈ sx_tbl := tw_of (i := 619) (by decide +kernel) rfl
theorem tw_621 : (Jvm.Cond.instanceMethod ({ cls := "ScriptDeskModel", name := "has", desc := "(I)Z" } : Jvm.MethodName)) ∈ sx_tbl := tw_of (i := 621) (by decide +kernel) rfl
set_option maxRecDepth 20000 in
theorem tw_622 : (Jvm.Cond.code ({ cls := "ScriptDeskModel", name := "has", desc := "(I)Z" } : Jvm.MethodName) prog_12_method_12_code (2 : Nat) (Option.some Jvm.ClassFile.FieldType.boolean)) ∈ sx_tbl := tw_of (i := 622) rfl rfl
theorem tw_623 : (Jvm.Cond.methodLink "ScriptDeskModel" (78 : Nat) ({ cls := "ScriptDeskModel", name := "isTrueRow", desc := "(I)Z" } : Jvm.MethodName)) ∈ sx_tbl := tw_of (i := 623) (by decide +kernel) rfl
theorem tw_625 : (Jvm.Cond.instanceMethod ({ cls := "ScriptDeskModel", name := "isTrueRow", desc := "(I)Z" } : Jvm.MethodName)) ∈ sx_tbl := tw_of (i := 625) (by decide +kernel) rfl
set_option maxRecDepth 20000 in
theorem tw_626 : (Jvm.Cond.code ({ cls := "ScriptDeskModel", name := "isTrueRow", desc := "(I)Z" } : Jvm.MethodName) prog_12_method_9_code (5 : Nat) (Option.some Jvm.ClassFile.FieldType.boolean)) ∈ sx_tbl := tw_of (i := 626) rfl rfl
theorem tw_627 : (Jvm.Cond.constantLong "ScriptDeskModel" (219 : Nat) (-1 : Int64)) ∈ sx_tbl := tw_of (i := 627) (by decide +kernel) rfl
theorem tw_628 : (Jvm.Cond.methodLink "ScriptDeskModel" (56 : Nat) ({ cls := "ScriptDeskModel", name := "pushNumber", desc := "(J)V" } : Jvm.MethodName)) ∈ sx_tbl := tw_of (i := 628) (by decide +kernel) rfl
theorem tw_630 : (Jvm.Cond.instanceMethod ({ cls := "ScriptDeskModel", name := "pushNumber", desc := "(J)V" } : Jvm.MethodName)) ∈ sx_tbl := tw_of (i := 630) (by decide +kernel) rfl
set_option maxRecDepth 20000 in
theorem tw_631 : (Jvm.Cond.code ({ cls := "ScriptDeskModel", name := "pushNumber", desc := "(J)V" } : Jvm.MethodName) prog_12_method_7_code (6 : Nat) (Option.none : Option Jvm.ClassFile.FieldType)) ∈ sx_tbl := tw_of (i := 631) rfl rfl
theorem tw_632 : (Jvm.Cond.constantLong "ScriptDeskModel" (54 : Nat) (256 : Int64)) ∈ sx_tbl := tw_of (i := 632) (by decide +kernel) rfl
theorem tw_633 : (Jvm.Cond.methodLink "ScriptDeskModel" (221 : Nat) ({ cls := "ScriptDeskModel", name := "operation", desc := "(I)V" } : Jvm.MethodName)) ∈ sx_tbl := tw_of (i := 633) (by decide +kernel) rfl
theorem tw_635 : (Jvm.Cond.instanceMethod ({ cls := "ScriptDeskModel", name := "operation", desc := "(I)V" } : Jvm.MethodName)) ∈ sx_tbl := tw_of (i := 635) (by decide +kernel) rfl
set_option maxRecDepth 20000 in
theorem tw_636 : (Jvm.Cond.code ({ cls := "ScriptDeskModel", name := "operation", desc := "(I)V" } : Jvm.MethodName) prog_12_method_35_code (2 : Nat) (Option.none : Option Jvm.ClassFile.FieldType)) ∈ sx_tbl := tw_of (i := 636) rfl rfl
theorem tw_637 : (Jvm.Cond.methodLink "ScriptDeskModel" (191 : Nat) ({ cls := "ScriptDeskModel", name := "moves", desc := "(I)V" } : Jvm.MethodName)) ∈ sx_tbl := tw_of (i := 637) (by decide +kernel) rfl
theorem tw_639 : (Jvm.Cond.instanceMethod ({ cls := "ScriptDeskModel", name := "moves", desc := "(I)V" } : Jvm.MethodName)) ∈ sx_tbl := tw_of (i := 639) (by decide +kernel) rfl
set_option maxRecDepth 20000 in
theorem tw_640 : (Jvm.Cond.code ({ cls := "ScriptDeskModel", name := "moves", desc := "(I)V" } : Jvm.MethodName) prog_12_method_30_code (2 : Nat) (Option.none : Option Jvm.ClassFile.FieldType)) ∈ sx_tbl := tw_of (i := 640) rfl rfl
theorem tw_641 : (Jvm.Cond.methodLink "ScriptDeskModel" (50 : Nat) ({ cls := "ScriptDeskModel", name := "copy", desc := "(II)V" } : Jvm.MethodName)) ∈ sx_tbl := tw_of (i := 641) (by decide +kernel) rfl
theorem tw_643 : (Jvm.Cond.instanceMethod ({ cls := "ScriptDeskModel", name := "copy", desc := "(II)V" } : Jvm.MethodName)) ∈ sx_tbl := tw_of (i := 643) (by decide +kernel) rfl
set_option maxRecDepth 20000 in
theorem tw_644 : (Jvm.Cond.code ({ cls := "ScriptDeskModel", name := "copy", desc := "(II)V" } : Jvm.MethodName) prog_12_method_4_code (4 : Nat) (Option.none : Option Jvm.ClassFile.FieldType)) ∈ sx_tbl := tw_of (i := 644) rfl rfl
theorem tw_645 : (Jvm.Cond.methodLink "ScriptDeskModel" (164 : Nat) ({ cls := "ScriptDeskModel", name := "push", desc := "(I)V" } : Jvm.MethodName)) ∈ sx_tbl := tw_of (i := 645) (by decide +kernel) rfl
theorem tw_647 : (Jvm.Cond.instanceMethod ({ cls := "ScriptDeskModel", name := "push", desc := "(I)V" } : Jvm.MethodName)) ∈ sx_tbl := tw_of (i := 647) (by decide +kernel) rfl
set_option maxRecDepth 20000 in
theorem tw_648 : (Jvm.Cond.code ({ cls := "ScriptDeskModel", name := "push", desc := "(I)V" } : Jvm.MethodName) prog_12_method_6_code (2 : Nat) (Option.none : Option Jvm.ClassFile.FieldType)) ∈ sx_tbl := tw_of (i := 648) rfl rfl
theorem tw_649 : (Jvm.Cond.methodLink "ScriptDeskModel" (173 : Nat) ({ cls := "ScriptDeskModel", name := "again", desc := "(III)V" } : Jvm.MethodName)) ∈ sx_tbl := tw_of (i := 649) (by decide +kernel) rfl
theorem tw_651 : (Jvm.Cond.instanceMethod ({ cls := "ScriptDeskModel", name := "again", desc := "(III)V" } : Jvm.MethodName)) ∈ sx_tbl := tw_of (i := 651) (by decide +kernel) rfl
set_option maxRecDepth 20000 in
theorem tw_652 : (Jvm.Cond.code ({ cls := "ScriptDeskModel", name := "again", desc := "(III)V" } : Jvm.MethodName) prog_12_method_26_code (6 : Nat) (Option.none : Option Jvm.ClassFile.FieldType)) ∈ sx_tbl := tw_of (i := 652) rfl rfl
theorem tw_653 : (Jvm.Cond.methodLink "ScriptDeskModel" (176 : Nat) ({ cls := "ScriptDeskModel", name := "turn", desc := "(II)V" } : Jvm.MethodName)) ∈ sx_tbl := tw_of (i := 653) (by decide +kernel) rfl
theorem tw_655 : (Jvm.Cond.instanceMethod ({ cls := "ScriptDeskModel", name := "turn", desc := "(II)V" } : Jvm.MethodName)) ∈ sx_tbl := tw_of (i := 655) (by decide +kernel) rfl
set_option maxRecDepth 20000 in
theorem tw_656 : (Jvm.Cond.code ({ cls := "ScriptDeskModel", name := "turn", desc := "(II)V" } : Jvm.MethodName) prog_12_method_27_code (5 : Nat) (Option.none : Option Jvm.ClassFile.FieldType)) ∈ sx_tbl := tw_of (i := 656) rfl rfl
theorem tw_657 : (Jvm.Cond.methodLink "ScriptDeskModel" (71 : Nat) ({ cls := "ScriptDeskModel", name := "top", desc := "(I)I" } : Jvm.MethodName)) ∈ sx_tbl := tw_of (i := 657) (by decide +kernel) rfl
theorem tw_659 : (Jvm.Cond.instanceMethod ({ cls := "ScriptDeskModel", name := "top", desc := "(I)I" } : Jvm.MethodName)) ∈ sx_tbl := tw_of (i := 659) (by decide +kernel) rfl
set_option maxRecDepth 20000 in
theorem tw_660 : (Jvm.Cond.code ({ cls := "ScriptDeskModel", name := "top", desc := "(I)I" } : Jvm.MethodName) prog_12_method_5_code (2 : Nat) (Option.some Jvm.ClassFile.FieldType.int)) ∈ sx_tbl := tw_of (i := 660) rfl rfl
theorem tw_661 : (Jvm.Cond.methodLink "ScriptDeskModel" (167 : Nat) ({ cls := "ScriptDeskModel", name := "takeOut", desc := "(I)V" } : Jvm.MethodName)) ∈ sx_tbl := tw_of (i := 661) (by decide +kernel) rfl
theorem tw_663 : (Jvm.Cond.instanceMethod ({ cls := "ScriptDeskModel", name := "takeOut", desc := "(I)V" } : Jvm.MethodName)) ∈ sx_tbl := tw_of (i := 663) (by decide +kernel) rfl
set_option maxRecDepth 20000 in
theorem tw_664 : (Jvm.Cond.code ({ cls := "ScriptDeskModel", name := "takeOut", desc := "(I)V" } : Jvm.MethodName) prog_12_method_28_code (3 : Nat) (Option.none : Option Jvm.ClassFile.FieldType)) ∈ sx_tbl := tw_of (i := 664) rfl rfl
theorem tw_665 : (Jvm.Cond.methodLink "ScriptDeskModel" (179 : Nat) ({ cls := "ScriptDeskModel", name := "pick", desc := "(Z)V" } : Jvm.MethodName)) ∈ sx_tbl := tw_of (i := 665) (by decide +kernel) rfl
theorem tw_667 : (Jvm.Cond.instanceMethod ({ cls := "ScriptDeskModel", name := "pick", desc := "(Z)V" } : Jvm.MethodName)) ∈ sx_tbl := tw_of (i := 667) (by decide +kernel) rfl
set_option maxRecDepth 20000 in
theorem tw_668 : (Jvm.Cond.code ({ cls := "ScriptDeskModel", name := "pick", desc := "(Z)V" } : Jvm.MethodName) prog_12_method_29_code (3 : Nat) (Option.none : Option Jvm.ClassFile.FieldType)) ∈ sx_tbl := tw_of (i := 668) rfl rfl
theorem tw_669 : (Jvm.Cond.methodLink "ScriptDeskModel" (149 : Nat) ({ cls := "ScriptDeskModel", name := "reads", desc := "(I)Z" } : Jvm.MethodName)) ∈ sx_tbl := tw_of (i := 669) (by decide +kernel) rfl
theorem tw_671 : (Jvm.Cond.instanceMethod ({ cls := "ScriptDeskModel", name := "reads", desc := "(I)Z" } : Jvm.MethodName)) ∈ sx_tbl := tw_of (i := 671) (by decide +kernel) rfl
set_option maxRecDepth 20000 in
theorem tw_672 : (Jvm.Cond.code ({ cls := "ScriptDeskModel", name := "reads", desc := "(I)Z" } : Jvm.MethodName) prog_12_method_13_code (5 : Nat) (Option.some Jvm.ClassFile.FieldType.boolean)) ∈ sx_tbl := tw_of (i := 672) rfl rfl
theorem tw_673 : (Jvm.Cond.methodLink "ScriptDeskModel" (194 : Nat) ({ cls := "ScriptDeskModel", name := "equal", desc := "(Z)V" } : Jvm.MethodName)) ∈ sx_tbl := tw_of (i := 673) (by decide +kernel) rfl
theorem tw_675 : (Jvm.Cond.instanceMethod ({ cls := "ScriptDeskModel", name := "equal", desc := "(Z)V" } : Jvm.MethodName)) ∈ sx_tbl := tw_of (i := 675) (by decide +kernel) rfl
set_option maxRecDepth 20000 in
theorem tw_676 : (Jvm.Cond.code ({ cls := "ScriptDeskModel", name := "equal", desc := "(Z)V" } : Jvm.MethodName) prog_12_method_31_code (3 : Nat) (Option.none : Option Jvm.ClassFile.FieldType)) ∈ sx_tbl := tw_of (i := 676) rfl rfl
theorem tw_677 : (Jvm.Cond.methodLink "ScriptDeskModel" (182 : Nat) ({ cls := "ScriptDeskModel", name := "isSame", desc := "(II)Z" } : Jvm.MethodName)) ∈ sx_tbl := tw_of (i := 677) (by decide +kernel) rfl
theorem tw_679 : (Jvm.Cond.instanceMethod ({ cls := "ScriptDeskModel", name := "isSame", desc := "(II)Z" } : Jvm.MethodName)) ∈ sx_tbl := tw_of (i := 679) (by decide +kernel) rfl
set_option maxRecDepth 20000 in
theorem tw_680 : (Jvm.Cond.code ({ cls := "ScriptDeskModel", name := "isSame", desc := "(II)Z" } : Jvm.MethodName) prog_12_method_10_code (5 : Nat) (Option.some Jvm.ClassFile.FieldType.boolean)) ∈ sx_tbl := tw_of (i := 680) rfl rfl
theorem tw_681 : (Jvm.Cond.methodLink "ScriptDeskModel" (142 : Nat) ({ cls := "ScriptDeskModel", name := "pushTruth", desc := "(Z)V" } : Jvm.MethodName)) ∈ sx_tbl := tw_of (i := 681) (by decide +kernel) rfl
theorem tw_683 : (Jvm.Cond.instanceMethod ({ cls := "ScriptDeskModel", name := "pushTruth", desc := "(Z)V" } : Jvm.MethodName)) ∈ sx_tbl := tw_of (i := 683) (by decide +kernel) rfl
set_option maxRecDepth 20000 in
theorem tw_684 : (Jvm.Cond.code ({ cls := "ScriptDeskModel", name := "pushTruth", desc := "(Z)V" } : Jvm.MethodName) prog_12_method_8_code (2 : Nat) (Option.none : Option Jvm.ClassFile.FieldType)) ∈ sx_tbl := tw_of (i := 684) rfl rfl
theorem tw_685 : (Jvm.Cond.methodLink "ScriptDeskModel" (146 : Nat) ({ cls := "ScriptDeskModel", name := "mustBeTrue", desc := "()V" } : Jvm.MethodName)) ∈ sx_tbl := tw_of (i := 685) (by decide +kernel) rfl
theorem tw_687 : (Jvm.Cond.instanceMethod ({ cls := "ScriptDeskModel", name := "mustBeTrue", desc := "()V" } : Jvm.MethodName)) ∈ sx_tbl := tw_of (i := 687) (by decide +kernel) rfl
set_option maxRecDepth 20000 in
theorem tw_688 : (Jvm.Cond.code ({ cls := "ScriptDeskModel", name := "mustBeTrue", desc := "()V" } : Jvm.MethodName) prog_12_method_14_code (1 : Nat) (Option.none : Option Jvm.ClassFile.FieldType)) ∈ sx_tbl := tw_of (i := 688) rfl rfl
theorem tw_689 : (Jvm.Cond.methodLink "ScriptDeskModel" (197 : Nat) ({ cls := "ScriptDeskModel", name := "numberOfOne", desc := "(I)V" } : Jvm.MethodName)) ∈ sx_tbl := tw_of (i := 689) (by decide +kernel) rfl
theorem tw_691 : (Jvm.Cond.instanceMethod ({ cls := "ScriptDeskModel", name := "numberOfOne", desc := "(I)V" } : Jvm.MethodName)) ∈ sx_tbl := tw_of (i := 691) (by decide +kernel) rfl
set_option maxRecDepth 20000 in
theorem tw_692 : (Jvm.Cond.code ({ cls := "ScriptDeskModel", name := "numberOfOne", desc := "(I)V" } : Jvm.MethodName) prog_12_method_32_code (4 : Nat) (Option.none : Option Jvm.ClassFile.FieldType)) ∈ sx_tbl := tw_of (i := 692) rfl rfl
theorem tw_693 : (Jvm.Cond.methodLink "ScriptDeskModel" (200 : Nat) ({ cls := "ScriptDeskModel", name := "numberOfTwo", desc := "(I)V" } : Jvm.MethodName)) ∈ sx_tbl := tw_of (i := 693) (by decide +kernel) rfl
theorem tw_695 : (Jvm.Cond.instanceMethod ({ cls := "ScriptDeskModel", name := "numberOfTwo", desc := "(I)V" } : Jvm.MethodName)) ∈ sx_tbl := tw_of (i := 695) (by decide +kernel) rfl
set_option maxRecDepth 20000 in
theorem tw_696 : (Jvm.Cond.code ({ cls := "ScriptDeskModel", name := "numberOfTwo", desc := "(I)V" } : Jvm.MethodName) prog_12_method_33_code (6 : Nat) (Option.none : Option Jvm.ClassFile.FieldType)) ∈ sx_tbl := tw_of (i := 696) rfl rfl
theorem tw_697 : (Jvm.Cond.methodLink "ScriptDeskModel" (203 : Nat) ({ cls := "ScriptDeskModel", name := "digest", desc := "(I)V" } : Jvm.MethodName)) ∈ sx_tbl := tw_of (i := 697) (by decide +kernel) rfl
theorem tw_699 : (Jvm.Cond.instanceMethod ({ cls := "ScriptDeskModel", name := "digest", desc := "(I)V" } : Jvm.MethodName)) ∈ sx_tbl := tw_of (i := 699) (by decide +kernel) rfl
set_option maxRecDepth 20000 in
theorem tw_700 : (Jvm.Cond.code ({ cls := "ScriptDeskModel", name := "digest", desc := "(I)V" } : Jvm.MethodName) prog_12_method_34_code (2 : Nat) (Option.none : Option Jvm.ClassFile.FieldType)) ∈ sx_tbl := tw_of (i := 700) rfl rfl
theorem tw_701 : (Jvm.Cond.methodLink "ScriptDeskModel" (185 : Nat) ({ cls := "ScriptDeskModel", name := "wide", desc := "(I)V" } : Jvm.MethodName)) ∈ sx_tbl := tw_of (i := 701) (by decide +kernel) rfl
theorem tw_703 : (Jvm.Cond.instanceMethod ({ cls := "ScriptDeskModel", name := "wide", desc := "(I)V" } : Jvm.MethodName)) ∈ sx_tbl := tw_of (i := 703) (by decide +kernel) rfl
set_option maxRecDepth 20000 in
theorem tw_704 : (Jvm.Cond.code ({ cls := "ScriptDeskModel", name := "wide", desc := "(I)V" } : Jvm.MethodName) prog_12_method_17_code (8 : Nat) (Option.none : Option Jvm.ClassFile.FieldType)) ∈ sx_tbl := tw_of (i := 704) rfl rfl
theorem tw_705 : (Jvm.Cond.methodLink "ScriptDeskModel" (81 : Nat) ({ cls := "ScriptDeskModel", name := "pad", desc := "(IZ)I" } : Jvm.MethodName)) ∈ sx_tbl := tw_of (i := 705) (by decide +kernel) rfl
theorem tw_707 : (Jvm.Cond.instanceMethod ({ cls := "ScriptDeskModel", name := "pad", desc := "(IZ)I" } : Jvm.MethodName)) ∈ sx_tbl := tw_of (i := 707) (by decide +kernel) rfl
set_option maxRecDepth 20000 in
theorem tw_708 : (Jvm.Cond.code ({ cls := "ScriptDeskModel", name := "pad", desc := "(IZ)I" } : Jvm.MethodName) prog_12_method_15_code (7 : Nat) (Option.some Jvm.ClassFile.FieldType.int)) ∈ sx_tbl := tw_of (i := 708) rfl rfl
theorem tw_709 : (Jvm.Cond.constant "ScriptDeskModel" (85 : Nat) (1779033703 : Int32)) ∈ sx_tbl := tw_of (i := 709) (by decide +kernel) rfl
theorem tw_710 : (Jvm.Cond.constant "ScriptDeskModel" (86 : Nat) (-1150833019 : Int32)) ∈ sx_tbl := tw_of (i := 710) (by decide +kernel) rfl
theorem tw_711 : (Jvm.Cond.constant "ScriptDeskModel" (87 : Nat) (1013904242 : Int32)) ∈ sx_tbl := tw_of (i := 711) (by decide +kernel) rfl
theorem tw_712 : (Jvm.Cond.constant "ScriptDeskModel" (88 : Nat) (-1521486534 : Int32)) ∈ sx_tbl := tw_of (i := 712) (by decide +kernel) rfl
theorem tw_713 : (Jvm.Cond.constant "ScriptDeskModel" (89 : Nat) (1359893119 : Int32)) ∈ sx_tbl := tw_of (i := 713) (by decide +kernel) rfl
theorem tw_714 : (Jvm.Cond.constant "ScriptDeskModel" (90 : Nat) (-1694144372 : Int32)) ∈ sx_tbl := tw_of (i := 714) (by decide +kernel) rfl
theorem tw_715 : (Jvm.Cond.constant "ScriptDeskModel" (91 : Nat) (528734635 : Int32)) ∈ sx_tbl := tw_of (i := 715) (by decide +kernel) rfl
theorem tw_716 : (Jvm.Cond.constant "ScriptDeskModel" (92 : Nat) (1541459225 : Int32)) ∈ sx_tbl := tw_of (i := 716) (by decide +kernel) rfl
theorem tw_717 : (Jvm.Cond.methodLink "ScriptDeskModel" (93 : Nat) ({ cls := "ScriptDeskModel", name := "right", desc := "(II)I" } : Jvm.MethodName)) ∈ sx_tbl := tw_of (i := 717) (by decide +kernel) rfl
theorem tw_718 : (Jvm.Cond.static ({ cls := "ScriptDeskModel", name := "right", desc := "(II)I" } : Jvm.MethodName)) ∈ sx_tbl := tw_of (i := 718) (by decide +kernel) rfl
set_option maxRecDepth 20000 in
theorem tw_719 : (Jvm.Cond.code ({ cls := "ScriptDeskModel", name := "right", desc := "(II)I" } : Jvm.MethodName) prog_12_method_16_code (2 : Nat) (Option.some Jvm.ClassFile.FieldType.int)) ∈ sx_tbl := tw_of (i := 719) rfl rfl
theorem tw_720 : (Jvm.Cond.fieldLink "ScriptDeskModel" (97 : Nat) "ScriptDeskModel" "CUBES" "[I") ∈ sx_tbl := tw_of (i := 720) (by decide +kernel) rfl
theorem tw_722 : (Jvm.Cond.methodLink "ScriptDeskModel" (188 : Nat) ({ cls := "ScriptDeskModel", name := "small", desc := "(I)V" } : Jvm.MethodName)) ∈ sx_tbl := tw_of (i := 722) (by decide +kernel) rfl
theorem tw_724 : (Jvm.Cond.instanceMethod ({ cls := "ScriptDeskModel", name := "small", desc := "(I)V" } : Jvm.MethodName)) ∈ sx_tbl := tw_of (i := 724) (by decide +kernel) rfl
set_option maxRecDepth 20000 in
theorem tw_725 : (Jvm.Cond.code ({ cls := "ScriptDeskModel", name := "small", desc := "(I)V" } : Jvm.MethodName) prog_12_method_19_code (8 : Nat) (Option.none : Option Jvm.ClassFile.FieldType)) ∈ sx_tbl := tw_of (i := 725) rfl rfl
theorem tw_726 : (Jvm.Cond.constant "ScriptDeskModel" (100 : Nat) (1732584193 : Int32)) ∈ sx_tbl := tw_of (i := 726) (by decide +kernel) rfl
theorem tw_727 : (Jvm.Cond.constant "ScriptDeskModel" (101 : Nat) (-271733879 : Int32)) ∈ sx_tbl := tw_of (i := 727) (by decide +kernel) rfl
theorem tw_728 : (Jvm.Cond.constant "ScriptDeskModel" (102 : Nat) (-1732584194 : Int32)) ∈ sx_tbl := tw_of (i := 728) (by decide +kernel) rfl
theorem tw_729 : (Jvm.Cond.constant "ScriptDeskModel" (103 : Nat) (271733878 : Int32)) ∈ sx_tbl := tw_of (i := 729) (by decide +kernel) rfl
theorem tw_730 : (Jvm.Cond.constant "ScriptDeskModel" (104 : Nat) (-1009589776 : Int32)) ∈ sx_tbl := tw_of (i := 730) (by decide +kernel) rfl
theorem tw_731 : (Jvm.Cond.constant "ScriptDeskModel" (105 : Nat) (1518500249 : Int32)) ∈ sx_tbl := tw_of (i := 731) (by decide +kernel) rfl
theorem tw_732 : (Jvm.Cond.constant "ScriptDeskModel" (106 : Nat) (1859775393 : Int32)) ∈ sx_tbl := tw_of (i := 732) (by decide +kernel) rfl
theorem tw_733 : (Jvm.Cond.constant "ScriptDeskModel" (107 : Nat) (-1894007588 : Int32)) ∈ sx_tbl := tw_of (i := 733) (by decide +kernel) rfl
theorem tw_734 : (Jvm.Cond.constant "ScriptDeskModel" (108 : Nat) (-1454113458 : Int32)) ∈ sx_tbl := tw_of (i := 734) (by decide +kernel) rfl
theorem tw_735 : (Jvm.Cond.constant "ScriptDeskModel" (109 : Nat) (1352829926 : Int32)) ∈ sx_tbl := tw_of (i := 735) (by decide +kernel) rfl
theorem tw_736 : (Jvm.Cond.constant "ScriptDeskModel" (110 : Nat) (1548603684 : Int32)) ∈ sx_tbl := tw_of (i := 736) (by decide +kernel) rfl
theorem tw_737 : (Jvm.Cond.constant "ScriptDeskModel" (111 : Nat) (1836072691 : Int32)) ∈ sx_tbl := tw_of (i := 737) (by decide +kernel) rfl
theorem tw_738 : (Jvm.Cond.constant "ScriptDeskModel" (112 : Nat) (2053994217 : Int32)) ∈ sx_tbl := tw_of (i := 738) (by decide +kernel) rfl
theorem tw_739 : (Jvm.Cond.methodLink "ScriptDeskModel" (113 : Nat) ({ cls := "ScriptDeskModel", name := "mixed", desc := "(IIII)I" } : Jvm.MethodName)) ∈ sx_tbl := tw_of (i := 739) (by decide +kernel) rfl
theorem tw_740 : (Jvm.Cond.static ({ cls := "ScriptDeskModel", name := "mixed", desc := "(IIII)I" } : Jvm.MethodName)) ∈ sx_tbl := tw_of (i := 740) (by decide +kernel) rfl
set_option maxRecDepth 20000 in
theorem tw_741 : (Jvm.Cond.code ({ cls := "ScriptDeskModel", name := "mixed", desc := "(IIII)I" } : Jvm.MethodName) prog_12_method_18_code (4 : Nat) (Option.some Jvm.ClassFile.FieldType.int)) ∈ sx_tbl := tw_of (i := 741) rfl rfl
theorem tw_742 : (Jvm.Cond.fieldLink "ScriptDeskModel" (117 : Nat) "ScriptDeskModel" "WORDS" "[I") ∈ sx_tbl := tw_of (i := 742) (by decide +kernel) rfl
theorem tw_744 : (Jvm.Cond.fieldLink "ScriptDeskModel" (120 : Nat) "ScriptDeskModel" "TURNS" "[I") ∈ sx_tbl := tw_of (i := 744) (by decide +kernel) rfl
theorem tw_746 : (Jvm.Cond.methodLink "ScriptDeskModel" (123 : Nat) ({ cls := "ScriptDeskModel", name := "step", desc := "(III)V" } : Jvm.MethodName)) ∈ sx_tbl := tw_of (i := 746) (by decide +kernel) rfl
theorem tw_748 : (Jvm.Cond.instanceMethod ({ cls := "ScriptDeskModel", name := "step", desc := "(III)V" } : Jvm.MethodName)) ∈ sx_tbl := tw_of (i := 748) (by decide +kernel) rfl
set_option maxRecDepth 20000 in
theorem tw_749 : (Jvm.Cond.code ({ cls := "ScriptDeskModel", name := "step", desc := "(III)V" } : Jvm.MethodName) prog_12_method_20_code (5 : Nat) (Option.none : Option Jvm.ClassFile.FieldType)) ∈ sx_tbl := tw_of (i := 749) rfl rfl
theorem tw_750 : (Jvm.Cond.fieldLink "ScriptDeskModel" (127 : Nat) "ScriptDeskModel" "OTHERS" "[I") ∈ sx_tbl := tw_of (i := 750) (by decide +kernel) rfl
theorem tw_752 : (Jvm.Cond.fieldLink "ScriptDeskModel" (130 : Nat) "ScriptDeskModel" "OTHER_TURNS" "[I") ∈ sx_tbl := tw_of (i := 752) (by decide +kernel) rfl
theorem tw_754 : (Jvm.Cond.methodLink "ScriptDeskModel" (206 : Nat) ({ cls := "ScriptDeskModel", name := "one", desc := "(Z)V" } : Jvm.MethodName)) ∈ sx_tbl := tw_of (i := 754) (by decide +kernel) rfl
theorem tw_756 : (Jvm.Cond.instanceMethod ({ cls := "ScriptDeskModel", name := "one", desc := "(Z)V" } : Jvm.MethodName)) ∈ sx_tbl := tw_of (i := 756) (by decide +kernel) rfl
set_option maxRecDepth 20000 in
theorem tw_757 : (Jvm.Cond.code ({ cls := "ScriptDeskModel", name := "one", desc := "(Z)V" } : Jvm.MethodName) prog_12_method_22_code (3 : Nat) (Option.none : Option Jvm.ClassFile.FieldType)) ∈ sx_tbl := tw_of (i := 757) rfl rfl
theorem tw_758 : (Jvm.Cond.methodLink "ScriptDeskModel" (138 : Nat) ({ cls := "ScriptDeskModel", name := "fit", desc := "(II)Z" } : Jvm.MethodName)) ∈ sx_tbl := tw_of (i := 758) (by decide +kernel) rfl
theorem tw_760 : (Jvm.Cond.instanceMethod ({ cls := "ScriptDeskModel", name := "fit", desc := "(II)Z" } : Jvm.MethodName)) ∈ sx_tbl := tw_of (i := 760) (by decide +kernel) rfl
set_option maxRecDepth 20000 in
theorem tw_761 : (Jvm.Cond.code ({ cls := "ScriptDeskModel", name := "fit", desc := "(II)Z" } : Jvm.MethodName) prog_12_method_21_code (5 : Nat) (Option.some Jvm.ClassFile.FieldType.boolean)) ∈ sx_tbl := tw_of (i := 761) rfl rfl
theorem tw_762 : (Jvm.Cond.constantLong "ScriptDeskModel" (136 : Nat) (3 : Int64)) ∈ sx_tbl := tw_of (i := 762) (by decide +kernel) rfl
theorem tw_763 : (Jvm.Cond.methodLink "ScriptDeskModel" (209 : Nat) ({ cls := "ScriptDeskModel", name := "several", desc := "(Z)V" } : Jvm.MethodName)) ∈ sx_tbl := tw_of (i := 763) (by decide +kernel) rfl
theorem tw_765 : (Jvm.Cond.instanceMethod ({ cls := "ScriptDeskModel", name := "several", desc := "(Z)V" } : Jvm.MethodName)) ∈ sx_tbl := tw_of (i := 765) (by decide +kernel) rfl
set_option maxRecDepth 20000 in
theorem tw_766 : (Jvm.Cond.code ({ cls := "ScriptDeskModel", name := "several", desc := "(Z)V" } : Jvm.MethodName) prog_12_method_23_code (6 : Nat) (Option.none : Option Jvm.ClassFile.FieldType)) ∈ sx_tbl := tw_of (i := 766) rfl rfl
theorem tw_767 : (Jvm.Cond.constantLong "ScriptDeskModel" (152 : Nat) (8 : Int64)) ∈ sx_tbl := tw_of (i := 767) (by decide +kernel) rfl
theorem tw_768 : (Jvm.Cond.methodLink "ScriptDeskLaw" (33 : Nat) ({ cls := "ScriptDeskModel", name := "place", desc := "()I" } : Jvm.MethodName)) ∈ sx_tbl := tw_of (i := 768) (by decide +kernel) rfl
theorem tw_769 : (Jvm.Cond.instanceMethod ({ cls := "ScriptDeskModel", name := "place", desc := "()I" } : Jvm.MethodName)) ∈ sx_tbl := tw_of (i := 769) (by decide +kernel) rfl
theorem tw_770 : (Jvm.Cond.selects "ScriptDeskModel" ({ cls := "ScriptDeskModel", name := "place", desc := "()I" } : Jvm.MethodName) ({ cls := "ScriptDeskModel", name := "place", desc := "()I" } : Jvm.MethodName)) ∈ sx_tbl := tw_of (i := 770) (by decide +kernel) rfl
set_option maxRecDepth 20000 in
theorem tw_771 : (Jvm.Cond.code ({ cls := "ScriptDeskModel", name := "place", desc := "()I" } : Jvm.MethodName) prog_12_method_39_code (1 : Nat) (Option.some Jvm.ClassFile.FieldType.int)) ∈ sx_tbl := tw_of (i := 771) rfl rfl
theorem tw_772 : (Jvm.Cond.methodLink "ScriptDeskLaw" (37 : Nat) ({ cls := "ScriptDeskModel", name := "clear", desc := "()I" } : Jvm.MethodName)) ∈ sx_tbl := tw_of (i := 772) (by decide +kernel) rfl
theorem tw_773 : (Jvm.Cond.instanceMethod ({ cls := "ScriptDeskModel", name := "clear", desc := "()I" } : Jvm.MethodName)) ∈ sx_tbl := tw_of (i := 773) (by decide +kernel) rfl
theorem tw_774 : (Jvm.Cond.selects "ScriptDeskModel" ({ cls := "ScriptDeskModel", name := "clear", desc := "()I" } : Jvm.MethodName) ({ cls := "ScriptDeskModel", name := "clear", desc := "()I" } : Jvm.MethodName)) ∈ sx_tbl := tw_of (i := 774) (by decide +kernel) rfl
set_option maxRecDepth 20000 in
theorem tw_775 : (Jvm.Cond.code ({ cls := "ScriptDeskModel", name := "clear", desc := "()I" } : Jvm.MethodName) prog_12_method_40_code (2 : Nat) (Option.some Jvm.ClassFile.FieldType.int)) ∈ sx_tbl := tw_of (i := 775) rfl rfl
theorem tw_776 : (Jvm.Cond.methodLink "ScriptDeskLaw" (41 : Nat) ({ cls := "ScriptDeskModel", name := "size", desc := "()I" } : Jvm.MethodName)) ∈ sx_tbl := tw_of (i := 776) (by decide +kernel) rfl
theorem tw_777 : (Jvm.Cond.instanceMethod ({ cls := "ScriptDeskModel", name := "size", desc := "()I" } : Jvm.MethodName)) ∈ sx_tbl := tw_of (i := 777) (by decide +kernel) rfl
theorem tw_778 : (Jvm.Cond.selects "ScriptDeskModel" ({ cls := "ScriptDeskModel", name := "size", desc := "()I" } : Jvm.MethodName) ({ cls := "ScriptDeskModel", name := "size", desc := "()I" } : Jvm.MethodName)) ∈ sx_tbl := tw_of (i := 778) (by decide +kernel) rfl
set_option maxRecDepth 20000 in
theorem tw_779 : (Jvm.Cond.code ({ cls := "ScriptDeskModel", name := "size", desc := "()I" } : Jvm.MethodName) prog_12_method_41_code (1 : Nat) (Option.some Jvm.ClassFile.FieldType.int)) ∈ sx_tbl := tw_of (i := 779) rfl rfl
theorem tw_780 : (Jvm.Cond.methodLink "ScriptDeskLaw" (46 : Nat) ({ cls := "ScriptDeskModel", name := "isTrue", desc := "()Z" } : Jvm.MethodName)) ∈ sx_tbl := tw_of (i := 780) (by decide +kernel) rfl
theorem tw_781 : (Jvm.Cond.instanceMethod ({ cls := "ScriptDeskModel", name := "isTrue", desc := "()Z" } : Jvm.MethodName)) ∈ sx_tbl := tw_of (i := 781) (by decide +kernel) rfl
theorem tw_782 : (Jvm.Cond.selects "ScriptDeskModel" ({ cls := "ScriptDeskModel", name := "isTrue", desc := "()Z" } : Jvm.MethodName) ({ cls := "ScriptDeskModel", name := "isTrue", desc := "()Z" } : Jvm.MethodName)) ∈ sx_tbl := tw_of (i := 782) (by decide +kernel) rfl
set_option maxRecDepth 20000 in
theorem tw_783 : (Jvm.Cond.code ({ cls := "ScriptDeskModel", name := "isTrue", desc := "()Z" } : Jvm.MethodName) prog_12_method_42_code (1 : Nat) (Option.some Jvm.ClassFile.FieldType.boolean)) ∈ sx_tbl := tw_of (i := 783) rfl rfl
theorem tw_784 : (Jvm.Cond.methodLink "ScriptDeskLaw" (51 : Nat) ({ cls := "ScriptDeskModel", name := "bytes", desc := "(I)I" } : Jvm.MethodName)) ∈ sx_tbl := tw_of (i := 784) (by decide +kernel) rfl
theorem tw_785 : (Jvm.Cond.instanceMethod ({ cls := "ScriptDeskModel", name := "bytes", desc := "(I)I" } : Jvm.MethodName)) ∈ sx_tbl := tw_of (i := 785) (by decide +kernel) rfl
theorem tw_786 : (Jvm.Cond.selects "ScriptDeskModel" ({ cls := "ScriptDeskModel", name := "bytes", desc := "(I)I" } : Jvm.MethodName) ({ cls := "ScriptDeskModel", name := "bytes", desc := "(I)I" } : Jvm.MethodName)) ∈ sx_tbl := tw_of (i := 786) (by decide +kernel) rfl
set_option maxRecDepth 20000 in
theorem tw_787 : (Jvm.Cond.code ({ cls := "ScriptDeskModel", name := "bytes", desc := "(I)I" } : Jvm.MethodName) prog_12_method_43_code (2 : Nat) (Option.some Jvm.ClassFile.FieldType.int)) ∈ sx_tbl := tw_of (i := 787) rfl rfl
theorem tw_788 : (Jvm.Cond.methodLink "ScriptDeskLaw" (56 : Nat) ({ cls := "ScriptDeskModel", name := "byteOf", desc := "(II)I" } : Jvm.MethodName)) ∈ sx_tbl := tw_of (i := 788) (by decide +kernel) rfl
theorem tw_789 : (Jvm.Cond.instanceMethod ({ cls := "ScriptDeskModel", name := "byteOf", desc := "(II)I" } : Jvm.MethodName)) ∈ sx_tbl := tw_of (i := 789) (by decide +kernel) rfl
theorem tw_790 : (Jvm.Cond.selects "ScriptDeskModel" ({ cls := "ScriptDeskModel", name := "byteOf", desc := "(II)I" } : Jvm.MethodName) ({ cls := "ScriptDeskModel", name := "byteOf", desc := "(II)I" } : Jvm.MethodName)) ∈ sx_tbl := tw_of (i := 790) (by decide +kernel) rfl
set_option maxRecDepth 20000 in
theorem tw_791 : (Jvm.Cond.code ({ cls := "ScriptDeskModel", name := "byteOf", desc := "(II)I" } : Jvm.MethodName) prog_12_method_44_code (3 : Nat) (Option.some Jvm.ClassFile.FieldType.int)) ∈ sx_tbl := tw_of (i := 791) rfl rfl
theorem tw_792 : (Jvm.Cond.methodLink "ScriptDeskLaw" (60 : Nat) ({ cls := "ScriptDeskModel", name := "count", desc := "(I)I" } : Jvm.MethodName)) ∈ sx_tbl := tw_of (i := 792) (by decide +kernel) rfl
theorem tw_793 : (Jvm.Cond.instanceMethod ({ cls := "ScriptDeskModel", name := "count", desc := "(I)I" } : Jvm.MethodName)) ∈ sx_tbl := tw_of (i := 793) (by decide +kernel) rfl
theorem tw_794 : (Jvm.Cond.selects "ScriptDeskModel" ({ cls := "ScriptDeskModel", name := "count", desc := "(I)I" } : Jvm.MethodName) ({ cls := "ScriptDeskModel", name := "count", desc := "(I)I" } : Jvm.MethodName)) ∈ sx_tbl := tw_of (i := 794) (by decide +kernel) rfl
set_option maxRecDepth 20000 in
theorem tw_795 : (Jvm.Cond.code ({ cls := "ScriptDeskModel", name := "count", desc := "(I)I" } : Jvm.MethodName) prog_12_method_45_code (2 : Nat) (Option.some Jvm.ClassFile.FieldType.int)) ∈ sx_tbl := tw_of (i := 795) rfl rfl
theorem tw_796 : (Jvm.Cond.constantLong "ScriptDeskLaw" (13 : Nat) (4294967295 : Int64)) ∈ sx_tbl := tw_of (i := 796) (by decide +kernel) rfl
theorem tw_797 : (Jvm.Cond.sameMethod "ScriptDesk$BlockDigest" "ScriptDesk$BlockDigest" "pad" "(LScriptDesk$Elements;I)I") ∈ sx_tbl := tw_of (i := 797) (by decide +kernel) rfl
theorem tw_798 : (Jvm.Cond.sameMethod "ScriptDesk$BlockDigest" "ScriptDesk$BlockDigest" "write" "(I[II)V") ∈ sx_tbl := tw_of (i := 798) (by decide +kernel) rfl
theorem tw_799 : (Jvm.Cond.sameMethod "ScriptDesk$BlockDigest" "ScriptDesk$BlockDigest" "shiftOf" "(I)I") ∈ sx_tbl := tw_of (i := 799) (by decide +kernel) rfl
theorem tw_800 : (Jvm.Cond.sameMethod "ScriptDesk$BlockDigest" "ScriptDesk$BlockDigest" "readBlock" "(I)V") ∈ sx_tbl := tw_of (i := 800) (by decide +kernel) rfl
theorem ts_0 : Jvm.Cond.selects "ScriptDesk" ({ cls := "ScriptDesk", name := "restart", desc := "()V" } : Jvm.MethodName) ({ cls := "ScriptDesk", name := "restart", desc := "()V" } : Jvm.MethodName) ∈ sx_tbl := ts_of (i := 0) rfl rfl
theorem ts_1 : Jvm.Cond.selects "ScriptDesk" ({ cls := "ScriptDesk", name := "pushFromScript", desc := "(III)I" } : Jvm.MethodName) ({ cls := "ScriptDesk", name := "pushFromScript", desc := "(III)I" } : Jvm.MethodName) ∈ sx_tbl := ts_of (i := 1) rfl rfl
theorem ts_2 : Jvm.Cond.selects "ScriptDesk" ({ cls := "ScriptDesk", name := "perform", desc := "(I)I" } : Jvm.MethodName) ({ cls := "ScriptDesk", name := "perform", desc := "(I)I" } : Jvm.MethodName) ∈ sx_tbl := ts_of (i := 2) rfl rfl
theorem ts_3 : Jvm.Cond.selects "ScriptDesk" ({ cls := "ScriptDesk", name := "enterPart", desc := "(Z)I" } : Jvm.MethodName) ({ cls := "ScriptDesk", name := "enterPart", desc := "(Z)I" } : Jvm.MethodName) ∈ sx_tbl := ts_of (i := 3) rfl rfl
theorem ts_4 : Jvm.Cond.selects "ScriptDesk" ({ cls := "ScriptDesk", name := "leavePart", desc := "(Z)I" } : Jvm.MethodName) ({ cls := "ScriptDesk", name := "leavePart", desc := "(Z)I" } : Jvm.MethodName) ∈ sx_tbl := ts_of (i := 4) rfl rfl
theorem ts_5 : Jvm.Cond.selects "ScriptDesk" ({ cls := "ScriptDesk", name := "pushSmallNumber", desc := "(I)I" } : Jvm.MethodName) ({ cls := "ScriptDesk", name := "pushSmallNumber", desc := "(I)I" } : Jvm.MethodName) ∈ sx_tbl := ts_of (i := 5) rfl rfl
theorem ts_6 : Jvm.Cond.selects "ScriptDesk" ({ cls := "ScriptDesk", name := "performPlain", desc := "(I)I" } : Jvm.MethodName) ({ cls := "ScriptDesk", name := "performPlain", desc := "(I)I" } : Jvm.MethodName) ∈ sx_tbl := ts_of (i := 6) rfl rfl
theorem ts_7 : Jvm.Cond.selects "ScriptDesk$Elements" ({ cls := "ScriptDesk$Elements", name := "swapSlots", desc := "(II)V" } : Jvm.MethodName) ({ cls := "ScriptDesk$Elements", name := "swapSlots", desc := "(II)V" } : Jvm.MethodName) ∈ sx_tbl := ts_of (i := 7) rfl rfl
theorem ts_8 : Jvm.Cond.selects "ScriptDesk" ({ cls := "ScriptDesk", name := "performDigest", desc := "(I)I" } : Jvm.MethodName) ({ cls := "ScriptDesk", name := "performDigest", desc := "(I)I" } : Jvm.MethodName) ∈ sx_tbl := ts_of (i := 8) rfl rfl
theorem ts_9 : Jvm.Cond.selects "ScriptDesk$Sha256" ({ cls := "ScriptDesk$Sha256", name := "spreadWords", desc := "()V" } : Jvm.MethodName) ({ cls := "ScriptDesk$Sha256", name := "spreadWords", desc := "()V" } : Jvm.MethodName) ∈ sx_tbl := ts_of (i := 9) rfl rfl
theorem ts_10 : Jvm.Cond.selects "ScriptDesk$Signatures" ({ cls := "ScriptDesk$Signatures", name := "askOne", desc := "(LScriptDesk$Elements;)I" } : Jvm.MethodName) ({ cls := "ScriptDesk$Signatures", name := "askOne", desc := "(LScriptDesk$Elements;)I" } : Jvm.MethodName) ∈ sx_tbl := ts_of (i := 10) rfl rfl
theorem ts_11 : Jvm.Cond.selects "ScriptDesk$Signatures" ({ cls := "ScriptDesk$Signatures", name := "fits", desc := "(LScriptDesk$Elements;II)Z" } : Jvm.MethodName) ({ cls := "ScriptDesk$Signatures", name := "fits", desc := "(LScriptDesk$Elements;II)Z" } : Jvm.MethodName) ∈ sx_tbl := ts_of (i := 11) rfl rfl
theorem ts_12 : Jvm.Cond.selects "ScriptDesk$Signatures" ({ cls := "ScriptDesk$Signatures", name := "askMany", desc := "(LScriptDesk$Elements;LScriptDesk$Tally;)I" } : Jvm.MethodName) ({ cls := "ScriptDesk$Signatures", name := "askMany", desc := "(LScriptDesk$Elements;LScriptDesk$Tally;)I" } : Jvm.MethodName) ∈ sx_tbl := ts_of (i := 12) rfl rfl
theorem ts_13 : Jvm.Cond.selects "ScriptDesk$Signatures" ({ cls := "ScriptDesk$Signatures", name := "allFit", desc := "(LScriptDesk$Elements;II)Z" } : Jvm.MethodName) ({ cls := "ScriptDesk$Signatures", name := "allFit", desc := "(LScriptDesk$Elements;II)Z" } : Jvm.MethodName) ∈ sx_tbl := ts_of (i := 13) rfl rfl
theorem ts_14 : Jvm.Cond.selects "ScriptDeskModel" ({ cls := "ScriptDeskModel", name := "next", desc := "(I)I" } : Jvm.MethodName) ({ cls := "ScriptDeskModel", name := "next", desc := "(I)I" } : Jvm.MethodName) ∈ sx_tbl := ts_of (i := 14) rfl rfl
theorem ts_15 : Jvm.Cond.selects "ScriptDeskModel" ({ cls := "ScriptDeskModel", name := "isDone", desc := "()Z" } : Jvm.MethodName) ({ cls := "ScriptDeskModel", name := "isDone", desc := "()Z" } : Jvm.MethodName) ∈ sx_tbl := ts_of (i := 15) rfl rfl
theorem ts_16 : Jvm.Cond.selects "ScriptDeskModel" ({ cls := "ScriptDeskModel", name := "fails", desc := "(I)V" } : Jvm.MethodName) ({ cls := "ScriptDeskModel", name := "fails", desc := "(I)V" } : Jvm.MethodName) ∈ sx_tbl := ts_of (i := 16) rfl rfl
theorem ts_17 : Jvm.Cond.selects "ScriptDeskModel" ({ cls := "ScriptDeskModel", name := "pushes", desc := "(IIZ)I" } : Jvm.MethodName) ({ cls := "ScriptDeskModel", name := "pushes", desc := "(IIZ)I" } : Jvm.MethodName) ∈ sx_tbl := ts_of (i := 17) rfl rfl
theorem ts_18 : Jvm.Cond.selects "ScriptDeskModel" ({ cls := "ScriptDeskModel", name := "flow", desc := "(I)V" } : Jvm.MethodName) ({ cls := "ScriptDeskModel", name := "flow", desc := "(I)V" } : Jvm.MethodName) ∈ sx_tbl := ts_of (i := 18) rfl rfl
theorem ts_19 : Jvm.Cond.selects "ScriptDeskModel" ({ cls := "ScriptDeskModel", name := "has", desc := "(I)Z" } : Jvm.MethodName) ({ cls := "ScriptDeskModel", name := "has", desc := "(I)Z" } : Jvm.MethodName) ∈ sx_tbl := ts_of (i := 19) rfl rfl
theorem ts_20 : Jvm.Cond.selects "ScriptDeskModel" ({ cls := "ScriptDeskModel", name := "isTrueRow", desc := "(I)Z" } : Jvm.MethodName) ({ cls := "ScriptDeskModel", name := "isTrueRow", desc := "(I)Z" } : Jvm.MethodName) ∈ sx_tbl := ts_of (i := 20) rfl rfl
theorem ts_21 : Jvm.Cond.selects "ScriptDeskModel" ({ cls := "ScriptDeskModel", name := "pushNumber", desc := "(J)V" } : Jvm.MethodName) ({ cls := "ScriptDeskModel", name := "pushNumber", desc := "(J)V" } : Jvm.MethodName) ∈ sx_tbl := ts_of (i := 21) rfl rfl
theorem ts_22 : Jvm.Cond.selects "ScriptDeskModel" ({ cls := "ScriptDeskModel", name := "operation", desc := "(I)V" } : Jvm.MethodName) ({ cls := "ScriptDeskModel", name := "operation", desc := "(I)V" } : Jvm.MethodName) ∈ sx_tbl := ts_of (i := 22) rfl rfl
theorem ts_23 : Jvm.Cond.selects "ScriptDeskModel" ({ cls := "ScriptDeskModel", name := "moves", desc := "(I)V" } : Jvm.MethodName) ({ cls := "ScriptDeskModel", name := "moves", desc := "(I)V" } : Jvm.MethodName) ∈ sx_tbl := ts_of (i := 23) rfl rfl
theorem ts_24 : Jvm.Cond.selects "ScriptDeskModel" ({ cls := "ScriptDeskModel", name := "copy", desc := "(II)V" } : Jvm.MethodName) ({ cls := "ScriptDeskModel", name := "copy", desc := "(II)V" } : Jvm.MethodName) ∈ sx_tbl := ts_of (i := 24) rfl rfl
theorem ts_25 : Jvm.Cond.selects "ScriptDeskModel" ({ cls := "ScriptDeskModel", name := "push", desc := "(I)V" } : Jvm.MethodName) ({ cls := "ScriptDeskModel", name := "push", desc := "(I)V" } : Jvm.MethodName) ∈ sx_tbl := ts_of (i := 25) rfl rfl
theorem ts_26 : Jvm.Cond.selects "ScriptDeskModel" ({ cls := "ScriptDeskModel", name := "again", desc := "(III)V" } : Jvm.MethodName) ({ cls := "ScriptDeskModel", name := "again", desc := "(III)V" } : Jvm.MethodName) ∈ sx_tbl := ts_of (i := 26) rfl rfl
theorem ts_27 : Jvm.Cond.selects "ScriptDeskModel" ({ cls := "ScriptDeskModel", name := "turn", desc := "(II)V" } : Jvm.MethodName) ({ cls := "ScriptDeskModel", name := "turn", desc := "(II)V" } : Jvm.MethodName) ∈ sx_tbl := ts_of (i := 27) rfl rfl
theorem ts_28 : Jvm.Cond.selects "ScriptDeskModel" ({ cls := "ScriptDeskModel", name := "top", desc := "(I)I" } : Jvm.MethodName) ({ cls := "ScriptDeskModel", name := "top", desc := "(I)I" } : Jvm.MethodName) ∈ sx_tbl := ts_of (i := 28) rfl rfl
theorem ts_29 : Jvm.Cond.selects "ScriptDeskModel" ({ cls := "ScriptDeskModel", name := "takeOut", desc := "(I)V" } : Jvm.MethodName) ({ cls := "ScriptDeskModel", name := "takeOut", desc := "(I)V" } : Jvm.MethodName) ∈ sx_tbl := ts_of (i := 29) rfl rfl
theorem ts_30 : Jvm.Cond.selects "ScriptDeskModel" ({ cls := "ScriptDeskModel", name := "pick", desc := "(Z)V" } : Jvm.MethodName) ({ cls := "ScriptDeskModel", name := "pick", desc := "(Z)V" } : Jvm.MethodName) ∈ sx_tbl := ts_of (i := 30) rfl rfl
theorem ts_31 : Jvm.Cond.selects "ScriptDeskModel" ({ cls := "ScriptDeskModel", name := "reads", desc := "(I)Z" } : Jvm.MethodName) ({ cls := "ScriptDeskModel", name := "reads", desc := "(I)Z" } : Jvm.MethodName) ∈ sx_tbl := ts_of (i := 31) rfl rfl
theorem ts_32 : Jvm.Cond.selects "ScriptDeskModel" ({ cls := "ScriptDeskModel", name := "equal", desc := "(Z)V" } : Jvm.MethodName) ({ cls := "ScriptDeskModel", name := "equal", desc := "(Z)V" } : Jvm.MethodName) ∈ sx_tbl := ts_of (i := 32) rfl rfl
theorem ts_33 : Jvm.Cond.selects "ScriptDeskModel" ({ cls := "ScriptDeskModel", name := "isSame", desc := "(II)Z" } : Jvm.MethodName) ({ cls := "ScriptDeskModel", name := "isSame", desc := "(II)Z" } : Jvm.MethodName) ∈ sx_tbl := ts_of (i := 33) rfl rfl
theorem ts_34 : Jvm.Cond.selects "ScriptDeskModel" ({ cls := "ScriptDeskModel", name := "pushTruth", desc := "(Z)V" } : Jvm.MethodName) ({ cls := "ScriptDeskModel", name := "pushTruth", desc := "(Z)V" } : Jvm.MethodName) ∈ sx_tbl := ts_of (i := 34) rfl rfl
theorem ts_35 : Jvm.Cond.selects "ScriptDeskModel" ({ cls := "ScriptDeskModel", name := "mustBeTrue", desc := "()V" } : Jvm.MethodName) ({ cls := "ScriptDeskModel", name := "mustBeTrue", desc := "()V" } : Jvm.MethodName) ∈ sx_tbl := ts_of (i := 35) rfl rfl
theorem ts_36 : Jvm.Cond.selects "ScriptDeskModel" ({ cls := "ScriptDeskModel", name := "numberOfOne", desc := "(I)V" } : Jvm.MethodName) ({ cls := "ScriptDeskModel", name := "numberOfOne", desc := "(I)V" } : Jvm.MethodName) ∈ sx_tbl := ts_of (i := 36) rfl rfl
theorem ts_37 : Jvm.Cond.selects "ScriptDeskModel" ({ cls := "ScriptDeskModel", name := "numberOfTwo", desc := "(I)V" } : Jvm.MethodName) ({ cls := "ScriptDeskModel", name := "numberOfTwo", desc := "(I)V" } : Jvm.MethodName) ∈ sx_tbl := ts_of (i := 37) rfl rfl
theorem ts_38 : Jvm.Cond.selects "ScriptDeskModel" ({ cls := "ScriptDeskModel", name := "digest", desc := "(I)V" } : Jvm.MethodName) ({ cls := "ScriptDeskModel", name := "digest", desc := "(I)V" } : Jvm.MethodName) ∈ sx_tbl := ts_of (i := 38) rfl rfl
theorem ts_39 : Jvm.Cond.selects "ScriptDeskModel" ({ cls := "ScriptDeskModel", name := "wide", desc := "(I)V" } : Jvm.MethodName) ({ cls := "ScriptDeskModel", name := "wide", desc := "(I)V" } : Jvm.MethodName) ∈ sx_tbl := ts_of (i := 39) rfl rfl
theorem ts_40 : Jvm.Cond.selects "ScriptDeskModel" ({ cls := "ScriptDeskModel", name := "pad", desc := "(IZ)I" } : Jvm.MethodName) ({ cls := "ScriptDeskModel", name := "pad", desc := "(IZ)I" } : Jvm.MethodName) ∈ sx_tbl := ts_of (i := 40) rfl rfl
theorem ts_41 : Jvm.Cond.selects "ScriptDeskModel" ({ cls := "ScriptDeskModel", name := "small", desc := "(I)V" } : Jvm.MethodName) ({ cls := "ScriptDeskModel", name := "small", desc := "(I)V" } : Jvm.MethodName) ∈ sx_tbl := ts_of (i := 41) rfl rfl
theorem ts_42 : Jvm.Cond.selects "ScriptDeskModel" ({ cls := "ScriptDeskModel", name := "step", desc := "(III)V" } : Jvm.MethodName) ({ cls := "ScriptDeskModel", name := "step", desc := "(III)V" } : Jvm.MethodName) ∈ sx_tbl := ts_of (i := 42) rfl rfl
theorem ts_43 : Jvm.Cond.selects "ScriptDeskModel" ({ cls := "ScriptDeskModel", name := "one", desc := "(Z)V" } : Jvm.MethodName) ({ cls := "ScriptDeskModel", name := "one", desc := "(Z)V" } : Jvm.MethodName) ∈ sx_tbl := ts_of (i := 43) rfl rfl
theorem ts_44 : Jvm.Cond.selects "ScriptDeskModel" ({ cls := "ScriptDeskModel", name := "fit", desc := "(II)Z" } : Jvm.MethodName) ({ cls := "ScriptDeskModel", name := "fit", desc := "(II)Z" } : Jvm.MethodName) ∈ sx_tbl := ts_of (i := 44) rfl rfl
theorem ts_45 : Jvm.Cond.selects "ScriptDeskModel" ({ cls := "ScriptDeskModel", name := "several", desc := "(Z)V" } : Jvm.MethodName) ({ cls := "ScriptDeskModel", name := "several", desc := "(Z)V" } : Jvm.MethodName) ∈ sx_tbl := ts_of (i := 45) rfl rfl
theorem sp_0 : Jvm.Cond.selects "ScriptDesk$Ripemd160" ({ cls := "ScriptDesk$BlockDigest", name := "shiftOf", desc := "(I)I" } : Jvm.MethodName) ({ cls := "ScriptDesk$BlockDigest", name := "shiftOf", desc := "(I)I" } : Jvm.MethodName) ∈ sx_tbl := List.mem_append_left _ (List.mem_of_getElem? (i := 0) rfl)
theorem sp_1 : Jvm.Cond.selects "ScriptDesk$Ripemd160" ({ cls := "ScriptDesk$BlockDigest", name := "write", desc := "(I[II)V" } : Jvm.MethodName) ({ cls := "ScriptDesk$BlockDigest", name := "write", desc := "(I[II)V" } : Jvm.MethodName) ∈ sx_tbl := List.mem_append_left _ (List.mem_of_getElem? (i := 1) rfl)
theorem sp_2 : Jvm.Cond.selects "ScriptDesk$Ripemd160" ({ cls := "ScriptDesk$BlockDigest", name := "pad", desc := "(LScriptDesk$Elements;I)I" } : Jvm.MethodName) ({ cls := "ScriptDesk$BlockDigest", name := "pad", desc := "(LScriptDesk$Elements;I)I" } : Jvm.MethodName) ∈ sx_tbl := List.mem_append_left _ (List.mem_of_getElem? (i := 2) rfl)
theorem sp_3 : Jvm.Cond.selects "ScriptDesk$Ripemd160" ({ cls := "ScriptDesk$BlockDigest", name := "readBlock", desc := "(I)V" } : Jvm.MethodName) ({ cls := "ScriptDesk$BlockDigest", name := "readBlock", desc := "(I)V" } : Jvm.MethodName) ∈ sx_tbl := List.mem_append_left _ (List.mem_of_getElem? (i := 3) rfl)
theorem sp_4 : Jvm.Cond.selects "ScriptDesk$Sha256" ({ cls := "ScriptDesk$BlockDigest", name := "shiftOf", desc := "(I)I" } : Jvm.MethodName) ({ cls := "ScriptDesk$BlockDigest", name := "shiftOf", desc := "(I)I" } : Jvm.MethodName) ∈ sx_tbl := List.mem_append_left _ (List.mem_of_getElem? (i := 4) rfl)
theorem sp_5 : Jvm.Cond.selects "ScriptDesk$Sha256" ({ cls := "ScriptDesk$BlockDigest", name := "write", desc := "(I[II)V" } : Jvm.MethodName) ({ cls := "ScriptDesk$BlockDigest", name := "write", desc := "(I[II)V" } : Jvm.MethodName) ∈ sx_tbl := List.mem_append_left _ (List.mem_of_getElem? (i := 5) rfl)
theorem sp_6 : Jvm.Cond.selects "ScriptDesk$Sha256" ({ cls := "ScriptDesk$BlockDigest", name := "pad", desc := "(LScriptDesk$Elements;I)I" } : Jvm.MethodName) ({ cls := "ScriptDesk$BlockDigest", name := "pad", desc := "(LScriptDesk$Elements;I)I" } : Jvm.MethodName) ∈ sx_tbl := List.mem_append_left _ (List.mem_of_getElem? (i := 6) rfl)
theorem sp_7 : Jvm.Cond.selects "ScriptDesk$Sha256" ({ cls := "ScriptDesk$BlockDigest", name := "readBlock", desc := "(I)V" } : Jvm.MethodName) ({ cls := "ScriptDesk$BlockDigest", name := "readBlock", desc := "(I)V" } : Jvm.MethodName) ∈ sx_tbl := List.mem_append_left _ (List.mem_of_getElem? (i := 7) rfl)
