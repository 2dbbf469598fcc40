/-! classes: their fields, the shapes of the cells in the order in which they are made -/
def tT_E : u_T := fun k => match k with
  | 0 => ("EditorCore", "text", "LEditorCore$Text;", true)
  | 1 => ("EditorCore", "kills", "LEditorCore$Kills;", true)
  | 2 => ("EditorCore", "history", "LEditorCore$History;", true)
  | 3 => ("EditorCore", "keys", "LEditorCore$Keys;", true)
  | 4 => ("EditorCore", "events", "LEditorCore$Events;", true)
  | 5 => ("EditorCore", "window", "LEditorCore$Window;", true)
  | 6 => ("EditorCore", "draft", "LEditorCore$Letters;", true)
  | 7 => ("EditorCore", "times", "I", false)
  | 8 => ("EditorCore", "last", "I", false)
  | 9 => ("EditorCore", "goalColumn", "I", false)
  | 10 => ("EditorCore", "yanked", "I", false)
  | _ => ("EditorCore", "undone", "I", false)
def tT_T : u_T := fun k => match k with
  | 0 => ("EditorCore$Text", "body", "LEditorCore$Letters;", true)
  | 1 => ("EditorCore$Text", "places", "[I", true)
  | 2 => ("EditorCore$Text", "following", "[Z", true)
  | _ => ("EditorCore$Text", "point", "I", false)
def tT_L : u_T := fun k => match k with
  | 0 => ("EditorCore$Letters", "codes", "[I", true)
  | _ => ("EditorCore$Letters", "size", "I", false)
def tT_K : u_T := fun k => match k with
  | 0 => ("EditorCore$Kills", "rows", "[LEditorCore$Letters;", true)
  | _ => ("EditorCore$Kills", "count", "I", false)
def tT_H : u_T := fun k => match k with
  | 0 => ("EditorCore$History", "at", "[I", true)
  | 1 => ("EditorCore$History", "putIn", "[I", true)
  | 2 => ("EditorCore$History", "takenOut", "[LEditorCore$Letters;", true)
  | _ => ("EditorCore$History", "made", "I", false)
def tT_Y : u_T := fun k => match k with
  | 0 => ("EditorCore$Keys", "bound", "[I", true)
  | 1 => ("EditorCore$Keys", "called", "[I", true)
  | 2 => ("EditorCore$Keys", "count", "I", false)
  | _ => ("EditorCore$Keys", "pending", "I", false)
def tT_V : u_T := fun k => match k with
  | 0 => ("EditorCore$Events", "codes", "[I", true)
  | 1 => ("EditorCore$Events", "typed", "[Z", true)
  | 2 => ("EditorCore$Events", "size", "I", false)
  | _ => ("EditorCore$Events", "recorded", "Z", false)
def tT_N : u_T := fun k => match k with
  | 0 => ("EditorCore$Window", "columns", "I", false)
  | 1 => ("EditorCore$Window", "rows", "I", false)
  | _ => ("EditorCore$Window", "firstRow", "I", false)
def tT_R : u_T := fun k => match k with
  | 0 => ("EditorCoreModel", "text", "[I", true)
  | 1 => ("EditorCoreModel", "old", "[I", true)
  | 2 => ("EditorCoreModel", "fresh", "[I", true)
  | 3 => ("EditorCoreModel", "length", "I", false)
  | 4 => ("EditorCoreModel", "freshLength", "I", false)
  | 5 => ("EditorCoreModel", "point", "I", false)
  | 6 => ("EditorCoreModel", "mark", "I", false)
  | 7 => ("EditorCoreModel", "n", "I", false)
  | 8 => ("EditorCoreModel", "last", "I", false)
  | 9 => ("EditorCoreModel", "goal", "I", false)
  | 10 => ("EditorCoreModel", "marker", "[I", true)
  | 11 => ("EditorCoreModel", "following", "[Z", true)
  | 12 => ("EditorCoreModel", "kill", "[I", true)
  | 13 => ("EditorCoreModel", "killLength", "[I", true)
  | 14 => ("EditorCoreModel", "kills", "I", false)
  | 15 => ("EditorCoreModel", "yankAt", "I", false)
  | 16 => ("EditorCoreModel", "yankLength", "I", false)
  | 17 => ("EditorCoreModel", "yankKill", "I", false)
  | 18 => ("EditorCoreModel", "before", "[I", true)
  | 19 => ("EditorCoreModel", "beforeLength", "[I", true)
  | 20 => ("EditorCoreModel", "stepAt", "[I", true)
  | 21 => ("EditorCoreModel", "stepTook", "[I", true)
  | 22 => ("EditorCoreModel", "stepPut", "[I", true)
  | 23 => ("EditorCoreModel", "steps", "I", false)
  | 24 => ("EditorCoreModel", "undone", "I", false)
  | 25 => ("EditorCoreModel", "bound", "[I", true)
  | 26 => ("EditorCoreModel", "command", "[I", true)
  | 27 => ("EditorCoreModel", "bindings", "I", false)
  | 28 => ("EditorCoreModel", "pending", "[I", true)
  | 29 => ("EditorCoreModel", "pendings", "I", false)
  | 30 => ("EditorCoreModel", "event", "[I", true)
  | 31 => ("EditorCoreModel", "events", "I", false)
  | 32 => ("EditorCoreModel", "recorded", "Z", false)
  | 33 => ("EditorCoreModel", "columns", "I", false)
  | 34 => ("EditorCoreModel", "rows", "I", false)
  | _ => ("EditorCoreModel", "firstRow", "I", false)
def mm_cl : List vw_C := [("EditorCore", tT_E, 12), ("EditorCore$Text", tT_T, 4), ("EditorCore$Letters", tT_L, 2), ("EditorCore$Kills", tT_K, 2), ("EditorCore$History", tT_H, 4), ("EditorCore$Keys", tT_Y, 4), ("EditorCore$Events", tT_V, 4), ("EditorCore$Window", tT_N, 3), ("EditorCoreModel", tT_R, 36)]
def mm_fdL : List (List FieldType) := [[.object "EditorCore$Text", .object "EditorCore$Kills", .object "EditorCore$History", .object "EditorCore$Keys", .object "EditorCore$Events", .object "EditorCore$Window", .object "EditorCore$Letters", .int, .int, .int, .int, .int], [.object "EditorCore$Letters", .array .int, .array .boolean, .int], [.array .int, .int], [.array (.object "EditorCore$Letters"), .int], [.array .int, .array .int, .array (.object "EditorCore$Letters"), .int], [.array .int, .array .int, .int, .int], [.array .int, .array .boolean, .int, .boolean], [.int, .int, .int], [.array .int, .array .int, .array .int, .int, .int, .int, .int, .int, .int, .int, .array .int, .array .boolean, .array .int, .array .int, .int, .int, .int, .int, .array .int, .array .int, .array .int, .array .int, .array .int, .int, .int, .array .int, .array .int, .int, .array .int, .int, .array .int, .int, .boolean, .int, .int, .int]]
def mm_ffL : List (List Bool) := [[true, true, true, true, true, true, true, false, false, false, false, false], [true, true, true, false], [true, false], [true, false], [true, true, true, false], [true, true, false, false], [true, true, false, false], [false, false, false], [true, true, true, false, false, false, false, false, false, false, true, true, true, true, false, false, false, false, true, true, true, true, true, false, false, true, true, false, true, false, true, false, false, false, false, false]]
def mm_foL : List String := ["EditorCore", "EditorCore$Text", "EditorCore$Letters", "EditorCore$Kills", "EditorCore$History", "EditorCore$Keys", "EditorCore$Events", "EditorCore$Window", "EditorCoreModel"]
def mm_fd (ci k : Nat) : FieldType := (mm_fdL.getD ci []).getD k .int
def mm_ff (ci k : Nat) : Bool := (mm_ffL.getD ci []).getD k false
def mm_fo (ci _k : Nat) : String := mm_foL.getD ci ""
def mm_fr (ci k : Nat) : Bool := refKind (mm_fd ci k)
def mm_ty : List FieldType := [.int, .boolean, .object "EditorCore$Letters"]
def mm_shL : List (Nat ⊕ (Nat × Nat)) := [.inl 0, .inl 1, .inl 2, .inr (0, 100), .inr (0, 5), .inr (1, 5), .inl 3, .inr (2, 4), .inl 2, .inr (0, 100), .inl 2, .inr (0, 100), .inl 2, .inr (0, 100), .inl 2, .inr (0, 100), .inl 4, .inr (0, 20), .inr (0, 20), .inr (2, 20), .inl 2, .inr (0, 100), .inl 2, .inr (0, 100), .inl 2, .inr (0, 100), .inl 2, .inr (0, 100), .inl 2, .inr (0, 100), .inl 2, .inr (0, 100), .inl 2, .inr (0, 100), .inl 2, .inr (0, 100), .inl 2, .inr (0, 100), .inl 2, .inr (0, 100), .inl 2, .inr (0, 100), .inl 2, .inr (0, 100), .inl 2, .inr (0, 100), .inl 2, .inr (0, 100), .inl 2, .inr (0, 100), .inl 2, .inr (0, 100), .inl 2, .inr (0, 100), .inl 2, .inr (0, 100), .inl 2, .inr (0, 100), .inl 2, .inr (0, 100), .inl 5, .inr (0, 24), .inr (0, 24), .inl 6, .inr (0, 12), .inr (1, 12), .inl 7, .inl 2, .inr (0, 100), .inl 8, .inr (0, 100), .inr (0, 100), .inr (0, 100), .inr (0, 4), .inr (1, 4), .inr (0, 400), .inr (0, 4), .inr (0, 2000), .inr (0, 20), .inr (0, 20), .inr (0, 20), .inr (0, 20), .inr (0, 72), .inr (0, 24), .inr (0, 3), .inr (0, 12)]
def mm_SH (i : Nat) : Nat ⊕ (Nat × Nat) := mm_shL.getD i (.inl 0)
def lw_t2 : List Cond := lw_tbl.filter goodWord
def mm_X (s : State) : Prop := va_AO "EditorCore$Letters" s ∧ va_Nw (.methodLinkNest "EditorCore$Text" 50 ⟨"EditorCore", "isLetter", "(I)Z"⟩ "EditorCore") s
theorem mm_X_warm {s U : State} (hW : s.WarmedH U.vm) (h : mm_X s) : mm_X U := ⟨va_AO.moved hW.alike h.1, va_Nw.warmM hW h.2⟩
theorem mm_X_same {u U : State} (h : u.vm = U.vm) (hx : mm_X u) : mm_X U := ⟨va_AO.moved (by rw [← h]; exact Vm.Alike.refl _) hx.1, va_Nw.same rfl h hx.2⟩
theorem wd_0 : (Cond.initialized "EditorCoreLaw") ∈ lw_t2 := List.mem_filter.mpr ⟨List.mem_of_getElem? (i := 51) (by decide +kernel), by decide +kernel⟩
theorem wd_1 : (Cond.initialized "EditorCore") ∈ lw_t2 := List.mem_filter.mpr ⟨List.mem_of_getElem? (i := 52) (by decide +kernel), by decide +kernel⟩
theorem wd_2 : (Cond.initialized "EditorCore$Text") ∈ lw_t2 := List.mem_filter.mpr ⟨List.mem_of_getElem? (i := 53) (by decide +kernel), by decide +kernel⟩
theorem wd_3 : (Cond.initialized "EditorCore$Letters") ∈ lw_t2 := List.mem_filter.mpr ⟨List.mem_of_getElem? (i := 54) (by decide +kernel), by decide +kernel⟩
theorem wd_4 : (Cond.initialized "EditorCore$Kills") ∈ lw_t2 := List.mem_filter.mpr ⟨List.mem_of_getElem? (i := 55) (by decide +kernel), by decide +kernel⟩
theorem wd_5 : (Cond.initialized "EditorCore$History") ∈ lw_t2 := List.mem_filter.mpr ⟨List.mem_of_getElem? (i := 56) (by decide +kernel), by decide +kernel⟩
theorem wd_6 : (Cond.initialized "EditorCore$Keys") ∈ lw_t2 := List.mem_filter.mpr ⟨List.mem_of_getElem? (i := 57) (by decide +kernel), by decide +kernel⟩
theorem wd_7 : (Cond.initialized "EditorCore$Events") ∈ lw_t2 := List.mem_filter.mpr ⟨List.mem_of_getElem? (i := 58) (by decide +kernel), by decide +kernel⟩
theorem wd_8 : (Cond.initialized "EditorCore$Window") ∈ lw_t2 := List.mem_filter.mpr ⟨List.mem_of_getElem? (i := 59) (by decide +kernel), by decide +kernel⟩
theorem wd_9 : (Cond.initialized "EditorCoreModel") ∈ lw_t2 := List.mem_filter.mpr ⟨List.mem_of_getElem? (i := 60) (by decide +kernel), by decide +kernel⟩
theorem wd_10 : (Cond.initialized "java/lang/Math") ∈ lw_t2 := List.mem_filter.mpr ⟨List.mem_of_getElem? (i := 61) (by decide +kernel), by decide +kernel⟩
theorem wd_11 : (Cond.initialized "java/lang/System") ∈ lw_t2 := List.mem_filter.mpr ⟨List.mem_of_getElem? (i := 62) (by decide +kernel), by decide +kernel⟩
theorem wd_12 : (Cond.classLink "EditorCoreLaw" 7 "EditorCore") ∈ lw_t2 := List.mem_filter.mpr ⟨List.mem_of_getElem? (i := 63) (by decide +kernel), by decide +kernel⟩
theorem wd_13 : (Cond.instantiable "EditorCore" 12) ∈ lw_t2 := List.mem_filter.mpr ⟨List.mem_of_getElem? (i := 64) (by decide +kernel), by decide +kernel⟩
theorem wd_14 : (Cond.methodLink "EditorCoreLaw" 9 ⟨"EditorCore", "<init>", "()V"⟩) ∈ lw_t2 := List.mem_filter.mpr ⟨List.mem_of_getElem? (i := 65) (by decide +kernel), by decide +kernel⟩
theorem wd_15 : (Cond.instanceMethod ⟨"EditorCore", "<init>", "()V"⟩) ∈ lw_t2 := List.mem_filter.mpr ⟨List.mem_of_getElem? (i := 66) (by decide +kernel), by decide +kernel⟩
theorem wd_16 : (Cond.code ⟨"EditorCore", "<init>", "()V"⟩ prog_1_method_1_code 1 none) ∈ lw_t2 := List.mem_filter.mpr ⟨List.mem_of_getElem? (i := 67) (by decide +kernel), by decide +kernel⟩
theorem wd_17 : (Cond.methodLink "EditorCore" 1 ⟨"java/lang/Object", "<init>", "()V"⟩) ∈ lw_t2 := List.mem_filter.mpr ⟨List.mem_of_getElem? (i := 68) (by decide +kernel), by decide +kernel⟩
theorem wd_18 : (Cond.instanceMethod ⟨"java/lang/Object", "<init>", "()V"⟩) ∈ lw_t2 := List.mem_filter.mpr ⟨List.mem_of_getElem? (i := 69) (by decide +kernel), by decide +kernel⟩
theorem wd_19 : (Cond.code ⟨"java/lang/Object", "<init>", "()V"⟩ object_method_1_code 1 none) ∈ lw_t2 := List.mem_filter.mpr ⟨List.mem_of_getElem? (i := 70) (by decide +kernel), by decide +kernel⟩
theorem wd_20 : (Cond.classLink "EditorCore" 7 "EditorCore$Text") ∈ lw_t2 := List.mem_filter.mpr ⟨List.mem_of_getElem? (i := 71) (by decide +kernel), by decide +kernel⟩
theorem wd_21 : (Cond.instantiable "EditorCore$Text" 4) ∈ lw_t2 := List.mem_filter.mpr ⟨List.mem_of_getElem? (i := 72) (by decide +kernel), by decide +kernel⟩
theorem wd_22 : (Cond.methodLink "EditorCore" 9 ⟨"EditorCore$Text", "<init>", "()V"⟩) ∈ lw_t2 := List.mem_filter.mpr ⟨List.mem_of_getElem? (i := 73) (by decide +kernel), by decide +kernel⟩
theorem wd_23 : (Cond.instanceMethod ⟨"EditorCore$Text", "<init>", "()V"⟩) ∈ lw_t2 := List.mem_filter.mpr ⟨List.mem_of_getElem? (i := 74) (by decide +kernel), by decide +kernel⟩
theorem wd_24 : (Cond.code ⟨"EditorCore$Text", "<init>", "()V"⟩ prog_7_method_1_code 2 none) ∈ lw_t2 := List.mem_filter.mpr ⟨List.mem_of_getElem? (i := 75) (by decide +kernel), by decide +kernel⟩
theorem wd_25 : (Cond.methodLink "EditorCore$Text" 3 ⟨"java/lang/Object", "<init>", "()V"⟩) ∈ lw_t2 := List.mem_filter.mpr ⟨List.mem_of_getElem? (i := 76) (by decide +kernel), by decide +kernel⟩
theorem wd_26 : (Cond.classLink "EditorCore$Text" 9 "EditorCore$Letters") ∈ lw_t2 := List.mem_filter.mpr ⟨List.mem_of_getElem? (i := 77) (by decide +kernel), by decide +kernel⟩
theorem wd_27 : (Cond.instantiable "EditorCore$Letters" 2) ∈ lw_t2 := List.mem_filter.mpr ⟨List.mem_of_getElem? (i := 78) (by decide +kernel), by decide +kernel⟩
theorem wd_28 : (Cond.methodLink "EditorCore$Text" 11 ⟨"EditorCore$Letters", "<init>", "()V"⟩) ∈ lw_t2 := List.mem_filter.mpr ⟨List.mem_of_getElem? (i := 79) (by decide +kernel), by decide +kernel⟩
theorem wd_29 : (Cond.instanceMethod ⟨"EditorCore$Letters", "<init>", "()V"⟩) ∈ lw_t2 := List.mem_filter.mpr ⟨List.mem_of_getElem? (i := 80) (by decide +kernel), by decide +kernel⟩
theorem wd_30 : (Cond.code ⟨"EditorCore$Letters", "<init>", "()V"⟩ prog_6_method_1_code 1 none) ∈ lw_t2 := List.mem_filter.mpr ⟨List.mem_of_getElem? (i := 81) (by decide +kernel), by decide +kernel⟩
theorem wd_31 : (Cond.methodLink "EditorCore$Letters" 3 ⟨"java/lang/Object", "<init>", "()V"⟩) ∈ lw_t2 := List.mem_filter.mpr ⟨List.mem_of_getElem? (i := 82) (by decide +kernel), by decide +kernel⟩
theorem wd_32 : (Cond.fieldLink "EditorCore$Letters" 9 "EditorCore$Letters" "codes" "[I") ∈ lw_t2 := List.mem_filter.mpr ⟨List.mem_of_getElem? (i := 83) (by decide +kernel), by decide +kernel⟩
theorem wd_33 : (Cond.fieldLink "EditorCore$Text" 30 "EditorCore$Letters" "codes" "[I") ∈ lw_t2 := List.mem_filter.mpr ⟨List.mem_of_getElem? (i := 84) (by decide +kernel), by decide +kernel⟩
theorem wd_34 : (Cond.fieldLink "EditorCore$Window" 26 "EditorCore$Letters" "codes" "[I") ∈ lw_t2 := List.mem_filter.mpr ⟨List.mem_of_getElem? (i := 85) (by decide +kernel), by decide +kernel⟩
theorem wd_35 : (Cond.fieldLink "EditorCore" 126 "EditorCore$Letters" "codes" "[I") ∈ lw_t2 := List.mem_filter.mpr ⟨List.mem_of_getElem? (i := 86) (by decide +kernel), by decide +kernel⟩
theorem wd_36 : (Cond.fieldLink "EditorCore$Letters" 15 "EditorCore$Letters" "size" "I") ∈ lw_t2 := List.mem_filter.mpr ⟨List.mem_of_getElem? (i := 87) (by decide +kernel), by decide +kernel⟩
theorem wd_37 : (Cond.fieldLink "EditorCore$Text" 26 "EditorCore$Letters" "size" "I") ∈ lw_t2 := List.mem_filter.mpr ⟨List.mem_of_getElem? (i := 88) (by decide +kernel), by decide +kernel⟩
theorem wd_38 : (Cond.fieldLink "EditorCore$Window" 21 "EditorCore$Letters" "size" "I") ∈ lw_t2 := List.mem_filter.mpr ⟨List.mem_of_getElem? (i := 89) (by decide +kernel), by decide +kernel⟩
theorem wd_39 : (Cond.fieldLink "EditorCore$History" 45 "EditorCore$Letters" "size" "I") ∈ lw_t2 := List.mem_filter.mpr ⟨List.mem_of_getElem? (i := 90) (by decide +kernel), by decide +kernel⟩
theorem wd_40 : (Cond.fieldLink "EditorCore" 125 "EditorCore$Letters" "size" "I") ∈ lw_t2 := List.mem_filter.mpr ⟨List.mem_of_getElem? (i := 91) (by decide +kernel), by decide +kernel⟩
theorem wd_41 : (Cond.laysFinal "EditorCore$Letters" "EditorCore$Letters" "codes" "[I") ∈ lw_t2 := List.mem_filter.mpr ⟨List.mem_of_getElem? (i := 92) (by decide +kernel), by decide +kernel⟩
theorem wd_43 : (Cond.lays "EditorCore$Letters" "EditorCore$Letters" "size" "I") ∈ lw_t2 := List.mem_filter.mpr ⟨List.mem_of_getElem? (i := 94) (by decide +kernel), by decide +kernel⟩
theorem wd_46 : (Cond.arrayClass FieldType.int) ∈ lw_t2 := List.mem_filter.mpr ⟨List.mem_of_getElem? (i := 97) (by decide +kernel), by decide +kernel⟩
theorem wd_47 : (Cond.fieldLink "EditorCore$Text" 12 "EditorCore$Text" "body" "LEditorCore$Letters;") ∈ lw_t2 := List.mem_filter.mpr ⟨List.mem_of_getElem? (i := 98) (by decide +kernel), by decide +kernel⟩
theorem wd_48 : (Cond.fieldLink "EditorCore$Window" 30 "EditorCore$Text" "body" "LEditorCore$Letters;") ∈ lw_t2 := List.mem_filter.mpr ⟨List.mem_of_getElem? (i := 99) (by decide +kernel), by decide +kernel⟩
theorem wd_49 : (Cond.fieldLink "EditorCore$History" 51 "EditorCore$Text" "body" "LEditorCore$Letters;") ∈ lw_t2 := List.mem_filter.mpr ⟨List.mem_of_getElem? (i := 100) (by decide +kernel), by decide +kernel⟩
theorem wd_50 : (Cond.fieldLink "EditorCore" 122 "EditorCore$Text" "body" "LEditorCore$Letters;") ∈ lw_t2 := List.mem_filter.mpr ⟨List.mem_of_getElem? (i := 101) (by decide +kernel), by decide +kernel⟩
theorem wd_51 : (Cond.fieldLink "EditorCore$Text" 18 "EditorCore$Text" "places" "[I") ∈ lw_t2 := List.mem_filter.mpr ⟨List.mem_of_getElem? (i := 102) (by decide +kernel), by decide +kernel⟩
theorem wd_52 : (Cond.fieldLink "EditorCore" 108 "EditorCore$Text" "places" "[I") ∈ lw_t2 := List.mem_filter.mpr ⟨List.mem_of_getElem? (i := 103) (by decide +kernel), by decide +kernel⟩
theorem wd_53 : (Cond.fieldLink "EditorCore$Text" 22 "EditorCore$Text" "following" "[Z") ∈ lw_t2 := List.mem_filter.mpr ⟨List.mem_of_getElem? (i := 104) (by decide +kernel), by decide +kernel⟩
theorem wd_54 : (Cond.fieldLink "EditorCore" 115 "EditorCore$Text" "following" "[Z") ∈ lw_t2 := List.mem_filter.mpr ⟨List.mem_of_getElem? (i := 105) (by decide +kernel), by decide +kernel⟩
theorem wd_55 : (Cond.fieldLink "EditorCore$Window" 36 "EditorCore$Text" "point" "I") ∈ lw_t2 := List.mem_filter.mpr ⟨List.mem_of_getElem? (i := 106) (by decide +kernel), by decide +kernel⟩
theorem wd_56 : (Cond.fieldLink "EditorCore" 112 "EditorCore$Text" "point" "I") ∈ lw_t2 := List.mem_filter.mpr ⟨List.mem_of_getElem? (i := 107) (by decide +kernel), by decide +kernel⟩
theorem wd_57 : (Cond.laysFinal "EditorCore$Text" "EditorCore$Text" "body" "LEditorCore$Letters;") ∈ lw_t2 := List.mem_filter.mpr ⟨List.mem_of_getElem? (i := 108) (by decide +kernel), by decide +kernel⟩
theorem wd_59 : (Cond.laysFinal "EditorCore$Text" "EditorCore$Text" "places" "[I") ∈ lw_t2 := List.mem_filter.mpr ⟨List.mem_of_getElem? (i := 110) (by decide +kernel), by decide +kernel⟩
theorem wd_61 : (Cond.laysFinal "EditorCore$Text" "EditorCore$Text" "following" "[Z") ∈ lw_t2 := List.mem_filter.mpr ⟨List.mem_of_getElem? (i := 112) (by decide +kernel), by decide +kernel⟩
theorem wd_63 : (Cond.lays "EditorCore$Text" "EditorCore$Text" "point" "I") ∈ lw_t2 := List.mem_filter.mpr ⟨List.mem_of_getElem? (i := 114) (by decide +kernel), by decide +kernel⟩
theorem wd_66 : (Cond.arrayClass FieldType.boolean) ∈ lw_t2 := List.mem_filter.mpr ⟨List.mem_of_getElem? (i := 117) (by decide +kernel), by decide +kernel⟩
theorem wd_67 : (Cond.classLink "EditorCore" 16 "EditorCore$Kills") ∈ lw_t2 := List.mem_filter.mpr ⟨List.mem_of_getElem? (i := 118) (by decide +kernel), by decide +kernel⟩
theorem wd_68 : (Cond.instantiable "EditorCore$Kills" 2) ∈ lw_t2 := List.mem_filter.mpr ⟨List.mem_of_getElem? (i := 119) (by decide +kernel), by decide +kernel⟩
theorem wd_69 : (Cond.methodLink "EditorCore" 18 ⟨"EditorCore$Kills", "<init>", "()V"⟩) ∈ lw_t2 := List.mem_filter.mpr ⟨List.mem_of_getElem? (i := 120) (by decide +kernel), by decide +kernel⟩
theorem wd_70 : (Cond.instanceMethod ⟨"EditorCore$Kills", "<init>", "()V"⟩) ∈ lw_t2 := List.mem_filter.mpr ⟨List.mem_of_getElem? (i := 121) (by decide +kernel), by decide +kernel⟩
theorem wd_71 : (Cond.code ⟨"EditorCore$Kills", "<init>", "()V"⟩ prog_5_method_1_code 2 none) ∈ lw_t2 := List.mem_filter.mpr ⟨List.mem_of_getElem? (i := 122) (by decide +kernel), by decide +kernel⟩
theorem wd_72 : (Cond.methodLink "EditorCore$Kills" 1 ⟨"java/lang/Object", "<init>", "()V"⟩) ∈ lw_t2 := List.mem_filter.mpr ⟨List.mem_of_getElem? (i := 123) (by decide +kernel), by decide +kernel⟩
theorem wd_73 : (Cond.classLink "EditorCore$Kills" 9 "EditorCore$Letters") ∈ lw_t2 := List.mem_filter.mpr ⟨List.mem_of_getElem? (i := 124) (by decide +kernel), by decide +kernel⟩
theorem wd_75 : (Cond.methodLink "EditorCore$Kills" 15 ⟨"EditorCore$Letters", "<init>", "()V"⟩) ∈ lw_t2 := List.mem_filter.mpr ⟨List.mem_of_getElem? (i := 126) (by decide +kernel), by decide +kernel⟩
theorem wd_76 : (Cond.fieldLink "EditorCore$Kills" 11 "EditorCore$Kills" "rows" "[LEditorCore$Letters;") ∈ lw_t2 := List.mem_filter.mpr ⟨List.mem_of_getElem? (i := 127) (by decide +kernel), by decide +kernel⟩
theorem wd_77 : (Cond.fieldLink "EditorCore" 132 "EditorCore$Kills" "rows" "[LEditorCore$Letters;") ∈ lw_t2 := List.mem_filter.mpr ⟨List.mem_of_getElem? (i := 128) (by decide +kernel), by decide +kernel⟩
theorem wd_78 : (Cond.fieldLink "EditorCore$Kills" 26 "EditorCore$Kills" "count" "I") ∈ lw_t2 := List.mem_filter.mpr ⟨List.mem_of_getElem? (i := 129) (by decide +kernel), by decide +kernel⟩
theorem wd_79 : (Cond.fieldLink "EditorCore" 129 "EditorCore$Kills" "count" "I") ∈ lw_t2 := List.mem_filter.mpr ⟨List.mem_of_getElem? (i := 130) (by decide +kernel), by decide +kernel⟩
theorem wd_80 : (Cond.laysFinal "EditorCore$Kills" "EditorCore$Kills" "rows" "[LEditorCore$Letters;") ∈ lw_t2 := List.mem_filter.mpr ⟨List.mem_of_getElem? (i := 131) (by decide +kernel), by decide +kernel⟩
theorem wd_82 : (Cond.lays "EditorCore$Kills" "EditorCore$Kills" "count" "I") ∈ lw_t2 := List.mem_filter.mpr ⟨List.mem_of_getElem? (i := 133) (by decide +kernel), by decide +kernel⟩
theorem wd_85 : (Cond.classLink "EditorCore" 23 "EditorCore$History") ∈ lw_t2 := List.mem_filter.mpr ⟨List.mem_of_getElem? (i := 136) (by decide +kernel), by decide +kernel⟩
theorem wd_86 : (Cond.instantiable "EditorCore$History" 4) ∈ lw_t2 := List.mem_filter.mpr ⟨List.mem_of_getElem? (i := 137) (by decide +kernel), by decide +kernel⟩
theorem wd_87 : (Cond.methodLink "EditorCore" 25 ⟨"EditorCore$History", "<init>", "()V"⟩) ∈ lw_t2 := List.mem_filter.mpr ⟨List.mem_of_getElem? (i := 138) (by decide +kernel), by decide +kernel⟩
theorem wd_88 : (Cond.instanceMethod ⟨"EditorCore$History", "<init>", "()V"⟩) ∈ lw_t2 := List.mem_filter.mpr ⟨List.mem_of_getElem? (i := 139) (by decide +kernel), by decide +kernel⟩
theorem wd_89 : (Cond.code ⟨"EditorCore$History", "<init>", "()V"⟩ prog_3_method_1_code 2 none) ∈ lw_t2 := List.mem_filter.mpr ⟨List.mem_of_getElem? (i := 140) (by decide +kernel), by decide +kernel⟩
theorem wd_90 : (Cond.methodLink "EditorCore$History" 3 ⟨"java/lang/Object", "<init>", "()V"⟩) ∈ lw_t2 := List.mem_filter.mpr ⟨List.mem_of_getElem? (i := 141) (by decide +kernel), by decide +kernel⟩
theorem wd_91 : (Cond.classLink "EditorCore$History" 18 "EditorCore$Letters") ∈ lw_t2 := List.mem_filter.mpr ⟨List.mem_of_getElem? (i := 142) (by decide +kernel), by decide +kernel⟩
theorem wd_92 : (Cond.methodLink "EditorCore$History" 24 ⟨"EditorCore$Letters", "<init>", "()V"⟩) ∈ lw_t2 := List.mem_filter.mpr ⟨List.mem_of_getElem? (i := 143) (by decide +kernel), by decide +kernel⟩
theorem wd_93 : (Cond.fieldLink "EditorCore$History" 11 "EditorCore$History" "at" "[I") ∈ lw_t2 := List.mem_filter.mpr ⟨List.mem_of_getElem? (i := 144) (by decide +kernel), by decide +kernel⟩
theorem wd_94 : (Cond.fieldLink "EditorCore" 278 "EditorCore$History" "at" "[I") ∈ lw_t2 := List.mem_filter.mpr ⟨List.mem_of_getElem? (i := 145) (by decide +kernel), by decide +kernel⟩
theorem wd_95 : (Cond.fieldLink "EditorCore$History" 15 "EditorCore$History" "putIn" "[I") ∈ lw_t2 := List.mem_filter.mpr ⟨List.mem_of_getElem? (i := 146) (by decide +kernel), by decide +kernel⟩
theorem wd_96 : (Cond.fieldLink "EditorCore" 288 "EditorCore$History" "putIn" "[I") ∈ lw_t2 := List.mem_filter.mpr ⟨List.mem_of_getElem? (i := 147) (by decide +kernel), by decide +kernel⟩
theorem wd_97 : (Cond.fieldLink "EditorCore$History" 20 "EditorCore$History" "takenOut" "[LEditorCore$Letters;") ∈ lw_t2 := List.mem_filter.mpr ⟨List.mem_of_getElem? (i := 148) (by decide +kernel), by decide +kernel⟩
theorem wd_98 : (Cond.fieldLink "EditorCore" 281 "EditorCore$History" "takenOut" "[LEditorCore$Letters;") ∈ lw_t2 := List.mem_filter.mpr ⟨List.mem_of_getElem? (i := 149) (by decide +kernel), by decide +kernel⟩
theorem wd_99 : (Cond.fieldLink "EditorCore$History" 31 "EditorCore$History" "made" "I") ∈ lw_t2 := List.mem_filter.mpr ⟨List.mem_of_getElem? (i := 150) (by decide +kernel), by decide +kernel⟩
theorem wd_100 : (Cond.fieldLink "EditorCore" 152 "EditorCore$History" "made" "I") ∈ lw_t2 := List.mem_filter.mpr ⟨List.mem_of_getElem? (i := 151) (by decide +kernel), by decide +kernel⟩
theorem wd_101 : (Cond.laysFinal "EditorCore$History" "EditorCore$History" "at" "[I") ∈ lw_t2 := List.mem_filter.mpr ⟨List.mem_of_getElem? (i := 152) (by decide +kernel), by decide +kernel⟩
theorem wd_103 : (Cond.laysFinal "EditorCore$History" "EditorCore$History" "putIn" "[I") ∈ lw_t2 := List.mem_filter.mpr ⟨List.mem_of_getElem? (i := 154) (by decide +kernel), by decide +kernel⟩
theorem wd_105 : (Cond.laysFinal "EditorCore$History" "EditorCore$History" "takenOut" "[LEditorCore$Letters;") ∈ lw_t2 := List.mem_filter.mpr ⟨List.mem_of_getElem? (i := 156) (by decide +kernel), by decide +kernel⟩
theorem wd_107 : (Cond.lays "EditorCore$History" "EditorCore$History" "made" "I") ∈ lw_t2 := List.mem_filter.mpr ⟨List.mem_of_getElem? (i := 158) (by decide +kernel), by decide +kernel⟩
theorem wd_110 : (Cond.classLink "EditorCore" 30 "EditorCore$Keys") ∈ lw_t2 := List.mem_filter.mpr ⟨List.mem_of_getElem? (i := 161) (by decide +kernel), by decide +kernel⟩
theorem wd_111 : (Cond.instantiable "EditorCore$Keys" 4) ∈ lw_t2 := List.mem_filter.mpr ⟨List.mem_of_getElem? (i := 162) (by decide +kernel), by decide +kernel⟩
theorem wd_112 : (Cond.methodLink "EditorCore" 32 ⟨"EditorCore$Keys", "<init>", "()V"⟩) ∈ lw_t2 := List.mem_filter.mpr ⟨List.mem_of_getElem? (i := 163) (by decide +kernel), by decide +kernel⟩
theorem wd_113 : (Cond.instanceMethod ⟨"EditorCore$Keys", "<init>", "()V"⟩) ∈ lw_t2 := List.mem_filter.mpr ⟨List.mem_of_getElem? (i := 164) (by decide +kernel), by decide +kernel⟩
theorem wd_114 : (Cond.code ⟨"EditorCore$Keys", "<init>", "()V"⟩ prog_4_method_1_code 1 none) ∈ lw_t2 := List.mem_filter.mpr ⟨List.mem_of_getElem? (i := 165) (by decide +kernel), by decide +kernel⟩
theorem wd_115 : (Cond.methodLink "EditorCore$Keys" 5 ⟨"java/lang/Object", "<init>", "()V"⟩) ∈ lw_t2 := List.mem_filter.mpr ⟨List.mem_of_getElem? (i := 166) (by decide +kernel), by decide +kernel⟩
theorem wd_116 : (Cond.fieldLink "EditorCore$Keys" 11 "EditorCore$Keys" "bound" "[I") ∈ lw_t2 := List.mem_filter.mpr ⟨List.mem_of_getElem? (i := 167) (by decide +kernel), by decide +kernel⟩
theorem wd_117 : (Cond.fieldLink "EditorCore$Keys" 15 "EditorCore$Keys" "called" "[I") ∈ lw_t2 := List.mem_filter.mpr ⟨List.mem_of_getElem? (i := 168) (by decide +kernel), by decide +kernel⟩
theorem wd_118 : (Cond.fieldLink "EditorCore$Keys" 26 "EditorCore$Keys" "count" "I") ∈ lw_t2 := List.mem_filter.mpr ⟨List.mem_of_getElem? (i := 169) (by decide +kernel), by decide +kernel⟩
theorem wd_119 : (Cond.fieldLink "EditorCore" 158 "EditorCore$Keys" "count" "I") ∈ lw_t2 := List.mem_filter.mpr ⟨List.mem_of_getElem? (i := 170) (by decide +kernel), by decide +kernel⟩
theorem wd_120 : (Cond.fieldLink "EditorCore$Keys" 22 "EditorCore$Keys" "pending" "I") ∈ lw_t2 := List.mem_filter.mpr ⟨List.mem_of_getElem? (i := 171) (by decide +kernel), by decide +kernel⟩
theorem wd_121 : (Cond.laysFinal "EditorCore$Keys" "EditorCore$Keys" "bound" "[I") ∈ lw_t2 := List.mem_filter.mpr ⟨List.mem_of_getElem? (i := 172) (by decide +kernel), by decide +kernel⟩
theorem wd_123 : (Cond.laysFinal "EditorCore$Keys" "EditorCore$Keys" "called" "[I") ∈ lw_t2 := List.mem_filter.mpr ⟨List.mem_of_getElem? (i := 174) (by decide +kernel), by decide +kernel⟩
theorem wd_125 : (Cond.lays "EditorCore$Keys" "EditorCore$Keys" "count" "I") ∈ lw_t2 := List.mem_filter.mpr ⟨List.mem_of_getElem? (i := 176) (by decide +kernel), by decide +kernel⟩
theorem wd_127 : (Cond.lays "EditorCore$Keys" "EditorCore$Keys" "pending" "I") ∈ lw_t2 := List.mem_filter.mpr ⟨List.mem_of_getElem? (i := 178) (by decide +kernel), by decide +kernel⟩
theorem wd_130 : (Cond.classLink "EditorCore" 37 "EditorCore$Events") ∈ lw_t2 := List.mem_filter.mpr ⟨List.mem_of_getElem? (i := 181) (by decide +kernel), by decide +kernel⟩
theorem wd_131 : (Cond.instantiable "EditorCore$Events" 4) ∈ lw_t2 := List.mem_filter.mpr ⟨List.mem_of_getElem? (i := 182) (by decide +kernel), by decide +kernel⟩
theorem wd_132 : (Cond.methodLink "EditorCore" 39 ⟨"EditorCore$Events", "<init>", "()V"⟩) ∈ lw_t2 := List.mem_filter.mpr ⟨List.mem_of_getElem? (i := 183) (by decide +kernel), by decide +kernel⟩
theorem wd_133 : (Cond.instanceMethod ⟨"EditorCore$Events", "<init>", "()V"⟩) ∈ lw_t2 := List.mem_filter.mpr ⟨List.mem_of_getElem? (i := 184) (by decide +kernel), by decide +kernel⟩
theorem wd_134 : (Cond.code ⟨"EditorCore$Events", "<init>", "()V"⟩ prog_2_method_1_code 1 none) ∈ lw_t2 := List.mem_filter.mpr ⟨List.mem_of_getElem? (i := 185) (by decide +kernel), by decide +kernel⟩
theorem wd_135 : (Cond.methodLink "EditorCore$Events" 1 ⟨"java/lang/Object", "<init>", "()V"⟩) ∈ lw_t2 := List.mem_filter.mpr ⟨List.mem_of_getElem? (i := 186) (by decide +kernel), by decide +kernel⟩
theorem wd_136 : (Cond.fieldLink "EditorCore$Events" 9 "EditorCore$Events" "codes" "[I") ∈ lw_t2 := List.mem_filter.mpr ⟨List.mem_of_getElem? (i := 187) (by decide +kernel), by decide +kernel⟩
theorem wd_137 : (Cond.fieldLink "EditorCore" 180 "EditorCore$Events" "codes" "[I") ∈ lw_t2 := List.mem_filter.mpr ⟨List.mem_of_getElem? (i := 188) (by decide +kernel), by decide +kernel⟩
theorem wd_138 : (Cond.fieldLink "EditorCore$Events" 13 "EditorCore$Events" "typed" "[Z") ∈ lw_t2 := List.mem_filter.mpr ⟨List.mem_of_getElem? (i := 189) (by decide +kernel), by decide +kernel⟩
theorem wd_139 : (Cond.fieldLink "EditorCore" 181 "EditorCore$Events" "typed" "[Z") ∈ lw_t2 := List.mem_filter.mpr ⟨List.mem_of_getElem? (i := 190) (by decide +kernel), by decide +kernel⟩
theorem wd_140 : (Cond.fieldLink "EditorCore$Events" 21 "EditorCore$Events" "size" "I") ∈ lw_t2 := List.mem_filter.mpr ⟨List.mem_of_getElem? (i := 191) (by decide +kernel), by decide +kernel⟩
theorem wd_141 : (Cond.fieldLink "EditorCore" 105 "EditorCore$Events" "size" "I") ∈ lw_t2 := List.mem_filter.mpr ⟨List.mem_of_getElem? (i := 192) (by decide +kernel), by decide +kernel⟩
theorem wd_142 : (Cond.fieldLink "EditorCore$Events" 17 "EditorCore$Events" "recorded" "Z") ∈ lw_t2 := List.mem_filter.mpr ⟨List.mem_of_getElem? (i := 193) (by decide +kernel), by decide +kernel⟩
theorem wd_143 : (Cond.fieldLink "EditorCore" 101 "EditorCore$Events" "recorded" "Z") ∈ lw_t2 := List.mem_filter.mpr ⟨List.mem_of_getElem? (i := 194) (by decide +kernel), by decide +kernel⟩
theorem wd_144 : (Cond.laysFinal "EditorCore$Events" "EditorCore$Events" "codes" "[I") ∈ lw_t2 := List.mem_filter.mpr ⟨List.mem_of_getElem? (i := 195) (by decide +kernel), by decide +kernel⟩
theorem wd_146 : (Cond.laysFinal "EditorCore$Events" "EditorCore$Events" "typed" "[Z") ∈ lw_t2 := List.mem_filter.mpr ⟨List.mem_of_getElem? (i := 197) (by decide +kernel), by decide +kernel⟩
theorem wd_148 : (Cond.lays "EditorCore$Events" "EditorCore$Events" "size" "I") ∈ lw_t2 := List.mem_filter.mpr ⟨List.mem_of_getElem? (i := 199) (by decide +kernel), by decide +kernel⟩
theorem wd_150 : (Cond.lays "EditorCore$Events" "EditorCore$Events" "recorded" "Z") ∈ lw_t2 := List.mem_filter.mpr ⟨List.mem_of_getElem? (i := 201) (by decide +kernel), by decide +kernel⟩
theorem wd_153 : (Cond.classLink "EditorCore" 44 "EditorCore$Window") ∈ lw_t2 := List.mem_filter.mpr ⟨List.mem_of_getElem? (i := 204) (by decide +kernel), by decide +kernel⟩
theorem wd_154 : (Cond.instantiable "EditorCore$Window" 3) ∈ lw_t2 := List.mem_filter.mpr ⟨List.mem_of_getElem? (i := 205) (by decide +kernel), by decide +kernel⟩
theorem wd_155 : (Cond.methodLink "EditorCore" 46 ⟨"EditorCore$Window", "<init>", "()V"⟩) ∈ lw_t2 := List.mem_filter.mpr ⟨List.mem_of_getElem? (i := 206) (by decide +kernel), by decide +kernel⟩
theorem wd_156 : (Cond.instanceMethod ⟨"EditorCore$Window", "<init>", "()V"⟩) ∈ lw_t2 := List.mem_filter.mpr ⟨List.mem_of_getElem? (i := 207) (by decide +kernel), by decide +kernel⟩
theorem wd_157 : (Cond.code ⟨"EditorCore$Window", "<init>", "()V"⟩ prog_8_method_1_code 1 none) ∈ lw_t2 := List.mem_filter.mpr ⟨List.mem_of_getElem? (i := 208) (by decide +kernel), by decide +kernel⟩
theorem wd_158 : (Cond.methodLink "EditorCore$Window" 3 ⟨"java/lang/Object", "<init>", "()V"⟩) ∈ lw_t2 := List.mem_filter.mpr ⟨List.mem_of_getElem? (i := 209) (by decide +kernel), by decide +kernel⟩
theorem wd_159 : (Cond.fieldLink "EditorCore$Window" 9 "EditorCore$Window" "columns" "I") ∈ lw_t2 := List.mem_filter.mpr ⟨List.mem_of_getElem? (i := 210) (by decide +kernel), by decide +kernel⟩
theorem wd_160 : (Cond.fieldLink "EditorCore" 138 "EditorCore$Window" "columns" "I") ∈ lw_t2 := List.mem_filter.mpr ⟨List.mem_of_getElem? (i := 211) (by decide +kernel), by decide +kernel⟩
theorem wd_161 : (Cond.fieldLink "EditorCore$Window" 15 "EditorCore$Window" "rows" "I") ∈ lw_t2 := List.mem_filter.mpr ⟨List.mem_of_getElem? (i := 212) (by decide +kernel), by decide +kernel⟩
theorem wd_162 : (Cond.fieldLink "EditorCore" 136 "EditorCore$Window" "rows" "I") ∈ lw_t2 := List.mem_filter.mpr ⟨List.mem_of_getElem? (i := 213) (by decide +kernel), by decide +kernel⟩
theorem wd_163 : (Cond.fieldLink "EditorCore$Window" 18 "EditorCore$Window" "firstRow" "I") ∈ lw_t2 := List.mem_filter.mpr ⟨List.mem_of_getElem? (i := 214) (by decide +kernel), by decide +kernel⟩
theorem wd_164 : (Cond.fieldLink "EditorCore" 145 "EditorCore$Window" "firstRow" "I") ∈ lw_t2 := List.mem_filter.mpr ⟨List.mem_of_getElem? (i := 215) (by decide +kernel), by decide +kernel⟩
theorem wd_165 : (Cond.lays "EditorCore$Window" "EditorCore$Window" "columns" "I") ∈ lw_t2 := List.mem_filter.mpr ⟨List.mem_of_getElem? (i := 216) (by decide +kernel), by decide +kernel⟩
theorem wd_167 : (Cond.lays "EditorCore$Window" "EditorCore$Window" "rows" "I") ∈ lw_t2 := List.mem_filter.mpr ⟨List.mem_of_getElem? (i := 218) (by decide +kernel), by decide +kernel⟩
theorem wd_169 : (Cond.lays "EditorCore$Window" "EditorCore$Window" "firstRow" "I") ∈ lw_t2 := List.mem_filter.mpr ⟨List.mem_of_getElem? (i := 220) (by decide +kernel), by decide +kernel⟩
theorem wd_172 : (Cond.classLink "EditorCore" 51 "EditorCore$Letters") ∈ lw_t2 := List.mem_filter.mpr ⟨List.mem_of_getElem? (i := 223) (by decide +kernel), by decide +kernel⟩
theorem wd_173 : (Cond.methodLink "EditorCore" 53 ⟨"EditorCore$Letters", "<init>", "()V"⟩) ∈ lw_t2 := List.mem_filter.mpr ⟨List.mem_of_getElem? (i := 224) (by decide +kernel), by decide +kernel⟩
theorem wd_174 : (Cond.fieldLink "EditorCore" 10 "EditorCore" "text" "LEditorCore$Text;") ∈ lw_t2 := List.mem_filter.mpr ⟨List.mem_of_getElem? (i := 225) (by decide +kernel), by decide +kernel⟩
theorem wd_175 : (Cond.fieldLink "EditorCore" 19 "EditorCore" "kills" "LEditorCore$Kills;") ∈ lw_t2 := List.mem_filter.mpr ⟨List.mem_of_getElem? (i := 226) (by decide +kernel), by decide +kernel⟩
theorem wd_176 : (Cond.fieldLink "EditorCore" 26 "EditorCore" "history" "LEditorCore$History;") ∈ lw_t2 := List.mem_filter.mpr ⟨List.mem_of_getElem? (i := 227) (by decide +kernel), by decide +kernel⟩
theorem wd_177 : (Cond.fieldLink "EditorCore" 33 "EditorCore" "keys" "LEditorCore$Keys;") ∈ lw_t2 := List.mem_filter.mpr ⟨List.mem_of_getElem? (i := 228) (by decide +kernel), by decide +kernel⟩
theorem wd_178 : (Cond.fieldLink "EditorCore" 40 "EditorCore" "events" "LEditorCore$Events;") ∈ lw_t2 := List.mem_filter.mpr ⟨List.mem_of_getElem? (i := 229) (by decide +kernel), by decide +kernel⟩
theorem wd_179 : (Cond.fieldLink "EditorCore" 47 "EditorCore" "window" "LEditorCore$Window;") ∈ lw_t2 := List.mem_filter.mpr ⟨List.mem_of_getElem? (i := 230) (by decide +kernel), by decide +kernel⟩
theorem wd_180 : (Cond.fieldLink "EditorCore" 54 "EditorCore" "draft" "LEditorCore$Letters;") ∈ lw_t2 := List.mem_filter.mpr ⟨List.mem_of_getElem? (i := 231) (by decide +kernel), by decide +kernel⟩
theorem wd_181 : (Cond.fieldLink "EditorCore" 58 "EditorCore" "times" "I") ∈ lw_t2 := List.mem_filter.mpr ⟨List.mem_of_getElem? (i := 232) (by decide +kernel), by decide +kernel⟩
theorem wd_182 : (Cond.fieldLink "EditorCore" 62 "EditorCore" "last" "I") ∈ lw_t2 := List.mem_filter.mpr ⟨List.mem_of_getElem? (i := 233) (by decide +kernel), by decide +kernel⟩
theorem wd_183 : (Cond.fieldLink "EditorCore" 259 "EditorCore" "goalColumn" "I") ∈ lw_t2 := List.mem_filter.mpr ⟨List.mem_of_getElem? (i := 234) (by decide +kernel), by decide +kernel⟩
theorem wd_184 : (Cond.fieldLink "EditorCore" 266 "EditorCore" "yanked" "I") ∈ lw_t2 := List.mem_filter.mpr ⟨List.mem_of_getElem? (i := 235) (by decide +kernel), by decide +kernel⟩
theorem wd_185 : (Cond.fieldLink "EditorCore" 269 "EditorCore" "undone" "I") ∈ lw_t2 := List.mem_filter.mpr ⟨List.mem_of_getElem? (i := 236) (by decide +kernel), by decide +kernel⟩
theorem wd_186 : (Cond.laysFinal "EditorCore" "EditorCore" "text" "LEditorCore$Text;") ∈ lw_t2 := List.mem_filter.mpr ⟨List.mem_of_getElem? (i := 237) (by decide +kernel), by decide +kernel⟩
theorem wd_188 : (Cond.laysFinal "EditorCore" "EditorCore" "kills" "LEditorCore$Kills;") ∈ lw_t2 := List.mem_filter.mpr ⟨List.mem_of_getElem? (i := 239) (by decide +kernel), by decide +kernel⟩
theorem wd_190 : (Cond.laysFinal "EditorCore" "EditorCore" "history" "LEditorCore$History;") ∈ lw_t2 := List.mem_filter.mpr ⟨List.mem_of_getElem? (i := 241) (by decide +kernel), by decide +kernel⟩
theorem wd_192 : (Cond.laysFinal "EditorCore" "EditorCore" "keys" "LEditorCore$Keys;") ∈ lw_t2 := List.mem_filter.mpr ⟨List.mem_of_getElem? (i := 243) (by decide +kernel), by decide +kernel⟩
theorem wd_194 : (Cond.laysFinal "EditorCore" "EditorCore" "events" "LEditorCore$Events;") ∈ lw_t2 := List.mem_filter.mpr ⟨List.mem_of_getElem? (i := 245) (by decide +kernel), by decide +kernel⟩
theorem wd_196 : (Cond.laysFinal "EditorCore" "EditorCore" "window" "LEditorCore$Window;") ∈ lw_t2 := List.mem_filter.mpr ⟨List.mem_of_getElem? (i := 247) (by decide +kernel), by decide +kernel⟩
theorem wd_198 : (Cond.laysFinal "EditorCore" "EditorCore" "draft" "LEditorCore$Letters;") ∈ lw_t2 := List.mem_filter.mpr ⟨List.mem_of_getElem? (i := 249) (by decide +kernel), by decide +kernel⟩
theorem wd_200 : (Cond.lays "EditorCore" "EditorCore" "times" "I") ∈ lw_t2 := List.mem_filter.mpr ⟨List.mem_of_getElem? (i := 251) (by decide +kernel), by decide +kernel⟩
theorem wd_202 : (Cond.lays "EditorCore" "EditorCore" "last" "I") ∈ lw_t2 := List.mem_filter.mpr ⟨List.mem_of_getElem? (i := 253) (by decide +kernel), by decide +kernel⟩
theorem wd_204 : (Cond.lays "EditorCore" "EditorCore" "goalColumn" "I") ∈ lw_t2 := List.mem_filter.mpr ⟨List.mem_of_getElem? (i := 255) (by decide +kernel), by decide +kernel⟩
theorem wd_206 : (Cond.lays "EditorCore" "EditorCore" "yanked" "I") ∈ lw_t2 := List.mem_filter.mpr ⟨List.mem_of_getElem? (i := 257) (by decide +kernel), by decide +kernel⟩
theorem wd_208 : (Cond.lays "EditorCore" "EditorCore" "undone" "I") ∈ lw_t2 := List.mem_filter.mpr ⟨List.mem_of_getElem? (i := 259) (by decide +kernel), by decide +kernel⟩
theorem wd_211 : (Cond.methodLink "EditorCoreLaw" 13 ⟨"EditorCore", "type", "(I)I"⟩) ∈ lw_t2 := List.mem_filter.mpr ⟨List.mem_of_getElem? (i := 262) (by decide +kernel), by decide +kernel⟩
theorem wd_212 : (Cond.instanceMethod ⟨"EditorCore", "type", "(I)I"⟩) ∈ lw_t2 := List.mem_filter.mpr ⟨List.mem_of_getElem? (i := 263) (by decide +kernel), by decide +kernel⟩
theorem wd_213 : (Cond.selects "EditorCore" ⟨"EditorCore", "type", "(I)I"⟩ ⟨"EditorCore", "type", "(I)I"⟩) ∈ lw_t2 := List.mem_filter.mpr ⟨List.mem_of_getElem? (i := 264) (by decide +kernel), by decide +kernel⟩
theorem wd_214 : (Cond.code ⟨"EditorCore", "type", "(I)I"⟩ prog_1_method_2_code 3 (some FieldType.int)) ∈ lw_t2 := List.mem_filter.mpr ⟨List.mem_of_getElem? (i := 265) (by decide +kernel), by decide +kernel⟩
theorem wd_215 : (Cond.methodLink "EditorCore" 65 ⟨"EditorCore", "isLetter", "(I)Z"⟩) ∈ lw_t2 := List.mem_filter.mpr ⟨List.mem_of_getElem? (i := 266) (by decide +kernel), by decide +kernel⟩
theorem wd_216 : (Cond.static ⟨"EditorCore", "isLetter", "(I)Z"⟩) ∈ lw_t2 := List.mem_filter.mpr ⟨List.mem_of_getElem? (i := 267) (by decide +kernel), by decide +kernel⟩
theorem wd_217 : (Cond.code ⟨"EditorCore", "isLetter", "(I)Z"⟩ prog_1_method_15_code 1 (some FieldType.boolean)) ∈ lw_t2 := List.mem_filter.mpr ⟨List.mem_of_getElem? (i := 268) (by decide +kernel), by decide +kernel⟩
theorem wd_218 : (Cond.methodLink "EditorCore" 69 ⟨"EditorCore", "insert", "(I)I"⟩) ∈ lw_t2 := List.mem_filter.mpr ⟨List.mem_of_getElem? (i := 269) (by decide +kernel), by decide +kernel⟩
theorem wd_220 : (Cond.instanceMethod ⟨"EditorCore", "insert", "(I)I"⟩) ∈ lw_t2 := List.mem_filter.mpr ⟨List.mem_of_getElem? (i := 271) (by decide +kernel), by decide +kernel⟩
theorem wd_221 : (Cond.code ⟨"EditorCore", "insert", "(I)I"⟩ prog_1_method_19_code 3 (some FieldType.int)) ∈ lw_t2 := List.mem_filter.mpr ⟨List.mem_of_getElem? (i := 272) (by decide +kernel), by decide +kernel⟩
theorem wd_222 : (Cond.methodLink "EditorCore" 163 ⟨"EditorCore$Letters", "clear", "()V"⟩) ∈ lw_t2 := List.mem_filter.mpr ⟨List.mem_of_getElem? (i := 273) (by decide +kernel), by decide +kernel⟩
theorem wd_223 : (Cond.instanceMethod ⟨"EditorCore$Letters", "clear", "()V"⟩) ∈ lw_t2 := List.mem_filter.mpr ⟨List.mem_of_getElem? (i := 274) (by decide +kernel), by decide +kernel⟩
theorem wd_224 : (Cond.selects "EditorCore$Letters" ⟨"EditorCore$Letters", "clear", "()V"⟩ ⟨"EditorCore$Letters", "clear", "()V"⟩) ∈ lw_t2 := List.mem_filter.mpr ⟨List.mem_of_getElem? (i := 275) (by decide +kernel), by decide +kernel⟩
theorem wd_225 : (Cond.code ⟨"EditorCore$Letters", "clear", "()V"⟩ prog_6_method_2_code 1 none) ∈ lw_t2 := List.mem_filter.mpr ⟨List.mem_of_getElem? (i := 276) (by decide +kernel), by decide +kernel⟩
theorem wd_226 : (Cond.methodLink "EditorCore" 166 ⟨"EditorCore$Letters", "add", "(I)V"⟩) ∈ lw_t2 := List.mem_filter.mpr ⟨List.mem_of_getElem? (i := 277) (by decide +kernel), by decide +kernel⟩
theorem wd_227 : (Cond.instanceMethod ⟨"EditorCore$Letters", "add", "(I)V"⟩) ∈ lw_t2 := List.mem_filter.mpr ⟨List.mem_of_getElem? (i := 278) (by decide +kernel), by decide +kernel⟩
theorem wd_228 : (Cond.selects "EditorCore$Letters" ⟨"EditorCore$Letters", "add", "(I)V"⟩ ⟨"EditorCore$Letters", "add", "(I)V"⟩) ∈ lw_t2 := List.mem_filter.mpr ⟨List.mem_of_getElem? (i := 279) (by decide +kernel), by decide +kernel⟩
theorem wd_229 : (Cond.code ⟨"EditorCore$Letters", "add", "(I)V"⟩ prog_6_method_3_code 2 none) ∈ lw_t2 := List.mem_filter.mpr ⟨List.mem_of_getElem? (i := 280) (by decide +kernel), by decide +kernel⟩
theorem wd_230 : (Cond.methodLink "EditorCore" 170 ⟨"EditorCore$History", "latestPut", "()I"⟩) ∈ lw_t2 := List.mem_filter.mpr ⟨List.mem_of_getElem? (i := 281) (by decide +kernel), by decide +kernel⟩
theorem wd_231 : (Cond.instanceMethod ⟨"EditorCore$History", "latestPut", "()I"⟩) ∈ lw_t2 := List.mem_filter.mpr ⟨List.mem_of_getElem? (i := 282) (by decide +kernel), by decide +kernel⟩
theorem wd_232 : (Cond.selects "EditorCore$History" ⟨"EditorCore$History", "latestPut", "()I"⟩ ⟨"EditorCore$History", "latestPut", "()I"⟩) ∈ lw_t2 := List.mem_filter.mpr ⟨List.mem_of_getElem? (i := 283) (by decide +kernel), by decide +kernel⟩
theorem wd_233 : (Cond.code ⟨"EditorCore$History", "latestPut", "()I"⟩ prog_3_method_4_code 1 (some FieldType.int)) ∈ lw_t2 := List.mem_filter.mpr ⟨List.mem_of_getElem? (i := 284) (by decide +kernel), by decide +kernel⟩
theorem wd_234 : (Cond.methodLink "EditorCore$History" 35 ⟨"EditorCore$History", "slotOf", "(I)I"⟩) ∈ lw_t2 := List.mem_filter.mpr ⟨List.mem_of_getElem? (i := 285) (by decide +kernel), by decide +kernel⟩
theorem wd_235 : (Cond.static ⟨"EditorCore$History", "slotOf", "(I)I"⟩) ∈ lw_t2 := List.mem_filter.mpr ⟨List.mem_of_getElem? (i := 286) (by decide +kernel), by decide +kernel⟩
theorem wd_236 : (Cond.code ⟨"EditorCore$History", "slotOf", "(I)I"⟩ prog_3_method_2_code 1 (some FieldType.int)) ∈ lw_t2 := List.mem_filter.mpr ⟨List.mem_of_getElem? (i := 287) (by decide +kernel), by decide +kernel⟩
theorem wd_237 : (Cond.methodLink "EditorCore$History" 25 ⟨"java/lang/Math", "floorMod", "(II)I"⟩) ∈ lw_t2 := List.mem_filter.mpr ⟨List.mem_of_getElem? (i := 288) (by decide +kernel), by decide +kernel⟩
theorem wd_238 : (Cond.static ⟨"java/lang/Math", "floorMod", "(II)I"⟩) ∈ lw_t2 := List.mem_filter.mpr ⟨List.mem_of_getElem? (i := 289) (by decide +kernel), by decide +kernel⟩
theorem wd_239 : (Cond.code ⟨"java/lang/Math", "floorMod", "(II)I"⟩ prog_11_method_50_code 3 (some FieldType.int)) ∈ lw_t2 := List.mem_filter.mpr ⟨List.mem_of_getElem? (i := 290) (by decide +kernel), by decide +kernel⟩
theorem wd_240 : (Cond.methodLink "EditorCore" 173 ⟨"EditorCore$History", "edit", "(LEditorCore$Text;IILEditorCore$Letters;Z)I"⟩) ∈ lw_t2 := List.mem_filter.mpr ⟨List.mem_of_getElem? (i := 291) (by decide +kernel), by decide +kernel⟩
theorem wd_241 : (Cond.instanceMethod ⟨"EditorCore$History", "edit", "(LEditorCore$Text;IILEditorCore$Letters;Z)I"⟩) ∈ lw_t2 := List.mem_filter.mpr ⟨List.mem_of_getElem? (i := 292) (by decide +kernel), by decide +kernel⟩
theorem wd_242 : (Cond.selects "EditorCore$History" ⟨"EditorCore$History", "edit", "(LEditorCore$Text;IILEditorCore$Letters;Z)I"⟩ ⟨"EditorCore$History", "edit", "(LEditorCore$Text;IILEditorCore$Letters;Z)I"⟩) ∈ lw_t2 := List.mem_filter.mpr ⟨List.mem_of_getElem? (i := 293) (by decide +kernel), by decide +kernel⟩
theorem wd_243 : (Cond.code ⟨"EditorCore$History", "edit", "(LEditorCore$Text;IILEditorCore$Letters;Z)I"⟩ prog_3_method_5_code 7 (some FieldType.int)) ∈ lw_t2 := List.mem_filter.mpr ⟨List.mem_of_getElem? (i := 294) (by decide +kernel), by decide +kernel⟩
theorem wd_244 : (Cond.methodLink "EditorCore$History" 39 ⟨"EditorCore$Text", "takes", "(IILEditorCore$Letters;)Z"⟩) ∈ lw_t2 := List.mem_filter.mpr ⟨List.mem_of_getElem? (i := 295) (by decide +kernel), by decide +kernel⟩
theorem wd_245 : (Cond.instanceMethod ⟨"EditorCore$Text", "takes", "(IILEditorCore$Letters;)Z"⟩) ∈ lw_t2 := List.mem_filter.mpr ⟨List.mem_of_getElem? (i := 296) (by decide +kernel), by decide +kernel⟩
theorem wd_246 : (Cond.selects "EditorCore$Text" ⟨"EditorCore$Text", "takes", "(IILEditorCore$Letters;)Z"⟩ ⟨"EditorCore$Text", "takes", "(IILEditorCore$Letters;)Z"⟩) ∈ lw_t2 := List.mem_filter.mpr ⟨List.mem_of_getElem? (i := 297) (by decide +kernel), by decide +kernel⟩
theorem wd_247 : (Cond.code ⟨"EditorCore$Text", "takes", "(IILEditorCore$Letters;)Z"⟩ prog_7_method_2_code 4 (some FieldType.boolean)) ∈ lw_t2 := List.mem_filter.mpr ⟨List.mem_of_getElem? (i := 298) (by decide +kernel), by decide +kernel⟩
theorem wd_248 : (Cond.methodLink "EditorCore$History" 48 ⟨"EditorCore$Letters", "clear", "()V"⟩) ∈ lw_t2 := List.mem_filter.mpr ⟨List.mem_of_getElem? (i := 299) (by decide +kernel), by decide +kernel⟩
theorem wd_249 : (Cond.methodLink "EditorCore$History" 55 ⟨"EditorCore$Letters", "append", "(LEditorCore$Letters;II)V"⟩) ∈ lw_t2 := List.mem_filter.mpr ⟨List.mem_of_getElem? (i := 300) (by decide +kernel), by decide +kernel⟩
theorem wd_250 : (Cond.instanceMethod ⟨"EditorCore$Letters", "append", "(LEditorCore$Letters;II)V"⟩) ∈ lw_t2 := List.mem_filter.mpr ⟨List.mem_of_getElem? (i := 301) (by decide +kernel), by decide +kernel⟩
theorem wd_251 : (Cond.selects "EditorCore$Letters" ⟨"EditorCore$Letters", "append", "(LEditorCore$Letters;II)V"⟩ ⟨"EditorCore$Letters", "append", "(LEditorCore$Letters;II)V"⟩) ∈ lw_t2 := List.mem_filter.mpr ⟨List.mem_of_getElem? (i := 302) (by decide +kernel), by decide +kernel⟩
theorem wd_252 : (Cond.code ⟨"EditorCore$Letters", "append", "(LEditorCore$Letters;II)V"⟩ prog_6_method_4_code 5 none) ∈ lw_t2 := List.mem_filter.mpr ⟨List.mem_of_getElem? (i := 303) (by decide +kernel), by decide +kernel⟩
theorem wd_253 : (Cond.methodLink "EditorCore$Letters" 19 ⟨"java/lang/System", "arraycopy", "(Ljava/lang/Object;ILjava/lang/Object;II)V"⟩) ∈ lw_t2 := List.mem_filter.mpr ⟨List.mem_of_getElem? (i := 304) (by decide +kernel), by decide +kernel⟩
theorem wd_254 : (Cond.static ⟨"java/lang/System", "arraycopy", "(Ljava/lang/Object;ILjava/lang/Object;II)V"⟩) ∈ lw_t2 := List.mem_filter.mpr ⟨List.mem_of_getElem? (i := 305) (by decide +kernel), by decide +kernel⟩
theorem wd_255 : (Cond.native ⟨"java/lang/System", "arraycopy", "(Ljava/lang/Object;ILjava/lang/Object;II)V"⟩) ∈ lw_t2 := List.mem_filter.mpr ⟨List.mem_of_getElem? (i := 306) (by decide +kernel), by decide +kernel⟩
theorem wd_256 : (Cond.methodLink "EditorCore$History" 59 ⟨"EditorCore$Text", "replace", "(IILEditorCore$Letters;)V"⟩) ∈ lw_t2 := List.mem_filter.mpr ⟨List.mem_of_getElem? (i := 307) (by decide +kernel), by decide +kernel⟩
theorem wd_257 : (Cond.instanceMethod ⟨"EditorCore$Text", "replace", "(IILEditorCore$Letters;)V"⟩) ∈ lw_t2 := List.mem_filter.mpr ⟨List.mem_of_getElem? (i := 308) (by decide +kernel), by decide +kernel⟩
theorem wd_258 : (Cond.selects "EditorCore$Text" ⟨"EditorCore$Text", "replace", "(IILEditorCore$Letters;)V"⟩ ⟨"EditorCore$Text", "replace", "(IILEditorCore$Letters;)V"⟩) ∈ lw_t2 := List.mem_filter.mpr ⟨List.mem_of_getElem? (i := 309) (by decide +kernel), by decide +kernel⟩
theorem wd_259 : (Cond.code ⟨"EditorCore$Text", "replace", "(IILEditorCore$Letters;)V"⟩ prog_7_method_3_code 7 none) ∈ lw_t2 := List.mem_filter.mpr ⟨List.mem_of_getElem? (i := 310) (by decide +kernel), by decide +kernel⟩
theorem wd_260 : (Cond.methodLink "EditorCore$Text" 33 ⟨"java/lang/System", "arraycopy", "(Ljava/lang/Object;ILjava/lang/Object;II)V"⟩) ∈ lw_t2 := List.mem_filter.mpr ⟨List.mem_of_getElem? (i := 311) (by decide +kernel), by decide +kernel⟩
theorem wd_261 : (Cond.methodLink "EditorCore$Text" 39 ⟨"EditorCore$Text", "moved", "(IZIII)I"⟩) ∈ lw_t2 := List.mem_filter.mpr ⟨List.mem_of_getElem? (i := 312) (by decide +kernel), by decide +kernel⟩
theorem wd_262 : (Cond.static ⟨"EditorCore$Text", "moved", "(IZIII)I"⟩) ∈ lw_t2 := List.mem_filter.mpr ⟨List.mem_of_getElem? (i := 313) (by decide +kernel), by decide +kernel⟩
theorem wd_263 : (Cond.code ⟨"EditorCore$Text", "moved", "(IZIII)I"⟩ prog_7_method_4_code 5 (some FieldType.int)) ∈ lw_t2 := List.mem_filter.mpr ⟨List.mem_of_getElem? (i := 314) (by decide +kernel), by decide +kernel⟩
theorem wd_264 : (Cond.methodLink "EditorCore" 177 ⟨"EditorCore", "finish", "(I)V"⟩) ∈ lw_t2 := List.mem_filter.mpr ⟨List.mem_of_getElem? (i := 315) (by decide +kernel), by decide +kernel⟩
theorem wd_266 : (Cond.instanceMethod ⟨"EditorCore", "finish", "(I)V"⟩) ∈ lw_t2 := List.mem_filter.mpr ⟨List.mem_of_getElem? (i := 317) (by decide +kernel), by decide +kernel⟩
theorem wd_267 : (Cond.code ⟨"EditorCore", "finish", "(I)V"⟩ prog_1_method_18_code 2 none) ∈ lw_t2 := List.mem_filter.mpr ⟨List.mem_of_getElem? (i := 318) (by decide +kernel), by decide +kernel⟩
theorem wd_268 : (Cond.methodLink "EditorCore" 73 ⟨"EditorCore$Events", "note", "(IZ)V"⟩) ∈ lw_t2 := List.mem_filter.mpr ⟨List.mem_of_getElem? (i := 319) (by decide +kernel), by decide +kernel⟩
theorem wd_269 : (Cond.instanceMethod ⟨"EditorCore$Events", "note", "(IZ)V"⟩) ∈ lw_t2 := List.mem_filter.mpr ⟨List.mem_of_getElem? (i := 320) (by decide +kernel), by decide +kernel⟩
theorem wd_270 : (Cond.selects "EditorCore$Events" ⟨"EditorCore$Events", "note", "(IZ)V"⟩ ⟨"EditorCore$Events", "note", "(IZ)V"⟩) ∈ lw_t2 := List.mem_filter.mpr ⟨List.mem_of_getElem? (i := 321) (by decide +kernel), by decide +kernel⟩
theorem wd_271 : (Cond.code ⟨"EditorCore$Events", "note", "(IZ)V"⟩ prog_2_method_2_code 3 none) ∈ lw_t2 := List.mem_filter.mpr ⟨List.mem_of_getElem? (i := 322) (by decide +kernel), by decide +kernel⟩
theorem wd_272 : (Cond.methodLink "EditorCoreLaw" 18 ⟨"EditorCore", "command", "(I)I"⟩) ∈ lw_t2 := List.mem_filter.mpr ⟨List.mem_of_getElem? (i := 323) (by decide +kernel), by decide +kernel⟩
theorem wd_273 : (Cond.instanceMethod ⟨"EditorCore", "command", "(I)I"⟩) ∈ lw_t2 := List.mem_filter.mpr ⟨List.mem_of_getElem? (i := 324) (by decide +kernel), by decide +kernel⟩
theorem wd_274 : (Cond.selects "EditorCore" ⟨"EditorCore", "command", "(I)I"⟩ ⟨"EditorCore", "command", "(I)I"⟩) ∈ lw_t2 := List.mem_filter.mpr ⟨List.mem_of_getElem? (i := 325) (by decide +kernel), by decide +kernel⟩
theorem wd_275 : (Cond.code ⟨"EditorCore", "command", "(I)I"⟩ prog_1_method_3_code 2 (some FieldType.int)) ∈ lw_t2 := List.mem_filter.mpr ⟨List.mem_of_getElem? (i := 326) (by decide +kernel), by decide +kernel⟩
theorem wd_276 : (Cond.methodLink "EditorCore" 77 ⟨"EditorCore", "replay", "()I"⟩) ∈ lw_t2 := List.mem_filter.mpr ⟨List.mem_of_getElem? (i := 327) (by decide +kernel), by decide +kernel⟩
theorem wd_278 : (Cond.instanceMethod ⟨"EditorCore", "replay", "()I"⟩) ∈ lw_t2 := List.mem_filter.mpr ⟨List.mem_of_getElem? (i := 329) (by decide +kernel), by decide +kernel⟩
theorem wd_279 : (Cond.code ⟨"EditorCore", "replay", "()I"⟩ prog_1_method_20_code 7 (some FieldType.int)) ∈ lw_t2 := List.mem_filter.mpr ⟨List.mem_of_getElem? (i := 330) (by decide +kernel), by decide +kernel⟩
theorem wd_280 : (Cond.methodLink "EditorCore" 98 ⟨"EditorCore$Keys", "stroke", "(I)I"⟩) ∈ lw_t2 := List.mem_filter.mpr ⟨List.mem_of_getElem? (i := 331) (by decide +kernel), by decide +kernel⟩
theorem wd_281 : (Cond.instanceMethod ⟨"EditorCore$Keys", "stroke", "(I)I"⟩) ∈ lw_t2 := List.mem_filter.mpr ⟨List.mem_of_getElem? (i := 332) (by decide +kernel), by decide +kernel⟩
theorem wd_282 : (Cond.selects "EditorCore$Keys" ⟨"EditorCore$Keys", "stroke", "(I)I"⟩ ⟨"EditorCore$Keys", "stroke", "(I)I"⟩) ∈ lw_t2 := List.mem_filter.mpr ⟨List.mem_of_getElem? (i := 333) (by decide +kernel), by decide +kernel⟩
theorem wd_283 : (Cond.code ⟨"EditorCore$Keys", "stroke", "(I)I"⟩ prog_4_method_8_code 4 (some FieldType.int)) ∈ lw_t2 := List.mem_filter.mpr ⟨List.mem_of_getElem? (i := 334) (by decide +kernel), by decide +kernel⟩
theorem wd_284 : (Cond.methodLink "EditorCore$Keys" 18 ⟨"EditorCore$Keys", "span", "(I)I"⟩) ∈ lw_t2 := List.mem_filter.mpr ⟨List.mem_of_getElem? (i := 335) (by decide +kernel), by decide +kernel⟩
theorem wd_285 : (Cond.static ⟨"EditorCore$Keys", "span", "(I)I"⟩) ∈ lw_t2 := List.mem_filter.mpr ⟨List.mem_of_getElem? (i := 336) (by decide +kernel), by decide +kernel⟩
theorem wd_286 : (Cond.code ⟨"EditorCore$Keys", "span", "(I)I"⟩ prog_4_method_3_code 1 (some FieldType.int)) ∈ lw_t2 := List.mem_filter.mpr ⟨List.mem_of_getElem? (i := 337) (by decide +kernel), by decide +kernel⟩
theorem wd_287 : (Cond.methodLink "EditorCore$Keys" 29 ⟨"EditorCore$Keys", "isLonger", "(II)Z"⟩) ∈ lw_t2 := List.mem_filter.mpr ⟨List.mem_of_getElem? (i := 338) (by decide +kernel), by decide +kernel⟩
theorem wd_288 : (Cond.static ⟨"EditorCore$Keys", "isLonger", "(II)Z"⟩) ∈ lw_t2 := List.mem_filter.mpr ⟨List.mem_of_getElem? (i := 339) (by decide +kernel), by decide +kernel⟩
theorem wd_289 : (Cond.code ⟨"EditorCore$Keys", "isLonger", "(II)Z"⟩ prog_4_method_4_code 2 (some FieldType.boolean)) ∈ lw_t2 := List.mem_filter.mpr ⟨List.mem_of_getElem? (i := 340) (by decide +kernel), by decide +kernel⟩
theorem wd_290 : (Cond.methodLink "EditorCore" 81 ⟨"EditorCore", "perform", "(I)I"⟩) ∈ lw_t2 := List.mem_filter.mpr ⟨List.mem_of_getElem? (i := 341) (by decide +kernel), by decide +kernel⟩
theorem wd_292 : (Cond.instanceMethod ⟨"EditorCore", "perform", "(I)I"⟩) ∈ lw_t2 := List.mem_filter.mpr ⟨List.mem_of_getElem? (i := 343) (by decide +kernel), by decide +kernel⟩
theorem wd_293 : (Cond.code ⟨"EditorCore", "perform", "(I)I"⟩ prog_1_method_21_code 3 (some FieldType.int)) ∈ lw_t2 := List.mem_filter.mpr ⟨List.mem_of_getElem? (i := 344) (by decide +kernel), by decide +kernel⟩
theorem wd_294 : (Cond.methodLink "EditorCore" 184 ⟨"EditorCore", "carryOut", "(I)I"⟩) ∈ lw_t2 := List.mem_filter.mpr ⟨List.mem_of_getElem? (i := 345) (by decide +kernel), by decide +kernel⟩
theorem wd_296 : (Cond.instanceMethod ⟨"EditorCore", "carryOut", "(I)I"⟩) ∈ lw_t2 := List.mem_filter.mpr ⟨List.mem_of_getElem? (i := 347) (by decide +kernel), by decide +kernel⟩
theorem wd_297 : (Cond.code ⟨"EditorCore", "carryOut", "(I)I"⟩ prog_1_method_22_code 2 (some FieldType.int)) ∈ lw_t2 := List.mem_filter.mpr ⟨List.mem_of_getElem? (i := 348) (by decide +kernel), by decide +kernel⟩
theorem wd_298 : (Cond.methodLink "EditorCore" 187 ⟨"java/lang/Math", "min", "(II)I"⟩) ∈ lw_t2 := List.mem_filter.mpr ⟨List.mem_of_getElem? (i := 349) (by decide +kernel), by decide +kernel⟩
theorem wd_299 : (Cond.static ⟨"java/lang/Math", "min", "(II)I"⟩) ∈ lw_t2 := List.mem_filter.mpr ⟨List.mem_of_getElem? (i := 350) (by decide +kernel), by decide +kernel⟩
theorem wd_300 : (Cond.code ⟨"java/lang/Math", "min", "(II)I"⟩ prog_11_method_69_code 2 (some FieldType.int)) ∈ lw_t2 := List.mem_filter.mpr ⟨List.mem_of_getElem? (i := 351) (by decide +kernel), by decide +kernel⟩
theorem wd_301 : (Cond.methodLink "EditorCore" 192 ⟨"EditorCore", "moveTo", "(I)I"⟩) ∈ lw_t2 := List.mem_filter.mpr ⟨List.mem_of_getElem? (i := 352) (by decide +kernel), by decide +kernel⟩
theorem wd_303 : (Cond.instanceMethod ⟨"EditorCore", "moveTo", "(I)I"⟩) ∈ lw_t2 := List.mem_filter.mpr ⟨List.mem_of_getElem? (i := 354) (by decide +kernel), by decide +kernel⟩
theorem wd_304 : (Cond.code ⟨"EditorCore", "moveTo", "(I)I"⟩ prog_1_method_23_code 2 (some FieldType.int)) ∈ lw_t2 := List.mem_filter.mpr ⟨List.mem_of_getElem? (i := 355) (by decide +kernel), by decide +kernel⟩
theorem wd_305 : (Cond.methodLink "EditorCore" 195 ⟨"java/lang/Math", "max", "(II)I"⟩) ∈ lw_t2 := List.mem_filter.mpr ⟨List.mem_of_getElem? (i := 356) (by decide +kernel), by decide +kernel⟩
theorem wd_306 : (Cond.static ⟨"java/lang/Math", "max", "(II)I"⟩) ∈ lw_t2 := List.mem_filter.mpr ⟨List.mem_of_getElem? (i := 357) (by decide +kernel), by decide +kernel⟩
theorem wd_307 : (Cond.code ⟨"java/lang/Math", "max", "(II)I"⟩ prog_11_method_65_code 2 (some FieldType.int)) ∈ lw_t2 := List.mem_filter.mpr ⟨List.mem_of_getElem? (i := 358) (by decide +kernel), by decide +kernel⟩
theorem wd_308 : (Cond.methodLink "EditorCore" 198 ⟨"EditorCore$Text", "beginningBelow", "(II)I"⟩) ∈ lw_t2 := List.mem_filter.mpr ⟨List.mem_of_getElem? (i := 359) (by decide +kernel), by decide +kernel⟩
theorem wd_309 : (Cond.instanceMethod ⟨"EditorCore$Text", "beginningBelow", "(II)I"⟩) ∈ lw_t2 := List.mem_filter.mpr ⟨List.mem_of_getElem? (i := 360) (by decide +kernel), by decide +kernel⟩
theorem wd_310 : (Cond.selects "EditorCore$Text" ⟨"EditorCore$Text", "beginningBelow", "(II)I"⟩ ⟨"EditorCore$Text", "beginningBelow", "(II)I"⟩) ∈ lw_t2 := List.mem_filter.mpr ⟨List.mem_of_getElem? (i := 361) (by decide +kernel), by decide +kernel⟩
theorem wd_311 : (Cond.code ⟨"EditorCore$Text", "beginningBelow", "(II)I"⟩ prog_7_method_7_code 6 (some FieldType.int)) ∈ lw_t2 := List.mem_filter.mpr ⟨List.mem_of_getElem? (i := 362) (by decide +kernel), by decide +kernel⟩
theorem wd_312 : (Cond.methodLink "EditorCore$Text" 43 ⟨"EditorCore$Text", "lineBeginning", "(I)I"⟩) ∈ lw_t2 := List.mem_filter.mpr ⟨List.mem_of_getElem? (i := 363) (by decide +kernel), by decide +kernel⟩
theorem wd_313 : (Cond.instanceMethod ⟨"EditorCore$Text", "lineBeginning", "(I)I"⟩) ∈ lw_t2 := List.mem_filter.mpr ⟨List.mem_of_getElem? (i := 364) (by decide +kernel), by decide +kernel⟩
theorem wd_314 : (Cond.selects "EditorCore$Text" ⟨"EditorCore$Text", "lineBeginning", "(I)I"⟩ ⟨"EditorCore$Text", "lineBeginning", "(I)I"⟩) ∈ lw_t2 := List.mem_filter.mpr ⟨List.mem_of_getElem? (i := 365) (by decide +kernel), by decide +kernel⟩
theorem wd_315 : (Cond.code ⟨"EditorCore$Text", "lineBeginning", "(I)I"⟩ prog_7_method_5_code 3 (some FieldType.int)) ∈ lw_t2 := List.mem_filter.mpr ⟨List.mem_of_getElem? (i := 366) (by decide +kernel), by decide +kernel⟩
theorem wd_316 : (Cond.methodLink "EditorCore$Text" 47 ⟨"EditorCore$Text", "lineEnd", "(I)I"⟩) ∈ lw_t2 := List.mem_filter.mpr ⟨List.mem_of_getElem? (i := 367) (by decide +kernel), by decide +kernel⟩
theorem wd_317 : (Cond.instanceMethod ⟨"EditorCore$Text", "lineEnd", "(I)I"⟩) ∈ lw_t2 := List.mem_filter.mpr ⟨List.mem_of_getElem? (i := 368) (by decide +kernel), by decide +kernel⟩
theorem wd_318 : (Cond.selects "EditorCore$Text" ⟨"EditorCore$Text", "lineEnd", "(I)I"⟩ ⟨"EditorCore$Text", "lineEnd", "(I)I"⟩) ∈ lw_t2 := List.mem_filter.mpr ⟨List.mem_of_getElem? (i := 369) (by decide +kernel), by decide +kernel⟩
theorem wd_319 : (Cond.code ⟨"EditorCore$Text", "lineEnd", "(I)I"⟩ prog_7_method_6_code 3 (some FieldType.int)) ∈ lw_t2 := List.mem_filter.mpr ⟨List.mem_of_getElem? (i := 370) (by decide +kernel), by decide +kernel⟩
theorem wd_320 : (Cond.methodLink "EditorCore" 201 ⟨"EditorCore", "moveToGoal", "(I)I"⟩) ∈ lw_t2 := List.mem_filter.mpr ⟨List.mem_of_getElem? (i := 371) (by decide +kernel), by decide +kernel⟩
theorem wd_322 : (Cond.instanceMethod ⟨"EditorCore", "moveToGoal", "(I)I"⟩) ∈ lw_t2 := List.mem_filter.mpr ⟨List.mem_of_getElem? (i := 373) (by decide +kernel), by decide +kernel⟩
theorem wd_323 : (Cond.code ⟨"EditorCore", "moveToGoal", "(I)I"⟩ prog_1_method_24_code 2 (some FieldType.int)) ∈ lw_t2 := List.mem_filter.mpr ⟨List.mem_of_getElem? (i := 374) (by decide +kernel), by decide +kernel⟩
theorem wd_324 : (Cond.methodLink "EditorCore" 207 ⟨"EditorCore$Text", "lineBeginning", "(I)I"⟩) ∈ lw_t2 := List.mem_filter.mpr ⟨List.mem_of_getElem? (i := 375) (by decide +kernel), by decide +kernel⟩
theorem wd_325 : (Cond.methodLink "EditorCore" 210 ⟨"EditorCore$Text", "lineEnd", "(I)I"⟩) ∈ lw_t2 := List.mem_filter.mpr ⟨List.mem_of_getElem? (i := 376) (by decide +kernel), by decide +kernel⟩
theorem wd_326 : (Cond.methodLink "EditorCore" 204 ⟨"EditorCore$Text", "beginningAbove", "(II)I"⟩) ∈ lw_t2 := List.mem_filter.mpr ⟨List.mem_of_getElem? (i := 377) (by decide +kernel), by decide +kernel⟩
theorem wd_327 : (Cond.instanceMethod ⟨"EditorCore$Text", "beginningAbove", "(II)I"⟩) ∈ lw_t2 := List.mem_filter.mpr ⟨List.mem_of_getElem? (i := 378) (by decide +kernel), by decide +kernel⟩
theorem wd_328 : (Cond.selects "EditorCore$Text" ⟨"EditorCore$Text", "beginningAbove", "(II)I"⟩ ⟨"EditorCore$Text", "beginningAbove", "(II)I"⟩) ∈ lw_t2 := List.mem_filter.mpr ⟨List.mem_of_getElem? (i := 379) (by decide +kernel), by decide +kernel⟩
theorem wd_329 : (Cond.code ⟨"EditorCore$Text", "beginningAbove", "(II)I"⟩ prog_7_method_8_code 5 (some FieldType.int)) ∈ lw_t2 := List.mem_filter.mpr ⟨List.mem_of_getElem? (i := 380) (by decide +kernel), by decide +kernel⟩
theorem wd_330 : (Cond.methodLink "EditorCore" 213 ⟨"EditorCore$Text", "behindWords", "(II)I"⟩) ∈ lw_t2 := List.mem_filter.mpr ⟨List.mem_of_getElem? (i := 381) (by decide +kernel), by decide +kernel⟩
theorem wd_331 : (Cond.instanceMethod ⟨"EditorCore$Text", "behindWords", "(II)I"⟩) ∈ lw_t2 := List.mem_filter.mpr ⟨List.mem_of_getElem? (i := 382) (by decide +kernel), by decide +kernel⟩
theorem wd_332 : (Cond.selects "EditorCore$Text" ⟨"EditorCore$Text", "behindWords", "(II)I"⟩ ⟨"EditorCore$Text", "behindWords", "(II)I"⟩) ∈ lw_t2 := List.mem_filter.mpr ⟨List.mem_of_getElem? (i := 383) (by decide +kernel), by decide +kernel⟩
theorem wd_333 : (Cond.code ⟨"EditorCore$Text", "behindWords", "(II)I"⟩ prog_7_method_9_code 5 (some FieldType.int)) ∈ lw_t2 := List.mem_filter.mpr ⟨List.mem_of_getElem? (i := 384) (by decide +kernel), by decide +kernel⟩
theorem wd_335 : (Cond.methodLink "EditorCore" 216 ⟨"EditorCore$Text", "beforeWords", "(II)I"⟩) ∈ lw_t2 := List.mem_filter.mpr ⟨List.mem_of_getElem? (i := 386) (by decide +kernel), by decide +kernel⟩
theorem wd_336 : (Cond.instanceMethod ⟨"EditorCore$Text", "beforeWords", "(II)I"⟩) ∈ lw_t2 := List.mem_filter.mpr ⟨List.mem_of_getElem? (i := 387) (by decide +kernel), by decide +kernel⟩
theorem wd_337 : (Cond.selects "EditorCore$Text" ⟨"EditorCore$Text", "beforeWords", "(II)I"⟩ ⟨"EditorCore$Text", "beforeWords", "(II)I"⟩) ∈ lw_t2 := List.mem_filter.mpr ⟨List.mem_of_getElem? (i := 388) (by decide +kernel), by decide +kernel⟩
theorem wd_338 : (Cond.code ⟨"EditorCore$Text", "beforeWords", "(II)I"⟩ prog_7_method_10_code 5 (some FieldType.int)) ∈ lw_t2 := List.mem_filter.mpr ⟨List.mem_of_getElem? (i := 389) (by decide +kernel), by decide +kernel⟩
theorem wd_339 : (Cond.methodLink "EditorCore" 219 ⟨"EditorCore", "takeOut", "(II)I"⟩) ∈ lw_t2 := List.mem_filter.mpr ⟨List.mem_of_getElem? (i := 390) (by decide +kernel), by decide +kernel⟩
theorem wd_341 : (Cond.instanceMethod ⟨"EditorCore", "takeOut", "(II)I"⟩) ∈ lw_t2 := List.mem_filter.mpr ⟨List.mem_of_getElem? (i := 392) (by decide +kernel), by decide +kernel⟩
theorem wd_342 : (Cond.code ⟨"EditorCore", "takeOut", "(II)I"⟩ prog_1_method_25_code 3 (some FieldType.int)) ∈ lw_t2 := List.mem_filter.mpr ⟨List.mem_of_getElem? (i := 393) (by decide +kernel), by decide +kernel⟩
theorem wd_343 : (Cond.methodLink "EditorCore" 222 ⟨"EditorCore", "lineKillEnd", "()I"⟩) ∈ lw_t2 := List.mem_filter.mpr ⟨List.mem_of_getElem? (i := 394) (by decide +kernel), by decide +kernel⟩
theorem wd_345 : (Cond.instanceMethod ⟨"EditorCore", "lineKillEnd", "()I"⟩) ∈ lw_t2 := List.mem_filter.mpr ⟨List.mem_of_getElem? (i := 396) (by decide +kernel), by decide +kernel⟩
theorem wd_346 : (Cond.code ⟨"EditorCore", "lineKillEnd", "()I"⟩ prog_1_method_26_code 2 (some FieldType.int)) ∈ lw_t2 := List.mem_filter.mpr ⟨List.mem_of_getElem? (i := 397) (by decide +kernel), by decide +kernel⟩
theorem wd_347 : (Cond.methodLink "EditorCore" 225 ⟨"EditorCore", "kill", "(IIZ)I"⟩) ∈ lw_t2 := List.mem_filter.mpr ⟨List.mem_of_getElem? (i := 398) (by decide +kernel), by decide +kernel⟩
theorem wd_349 : (Cond.instanceMethod ⟨"EditorCore", "kill", "(IIZ)I"⟩) ∈ lw_t2 := List.mem_filter.mpr ⟨List.mem_of_getElem? (i := 400) (by decide +kernel), by decide +kernel⟩
theorem wd_350 : (Cond.code ⟨"EditorCore", "kill", "(IIZ)I"⟩ prog_1_method_29_code 4 (some FieldType.int)) ∈ lw_t2 := List.mem_filter.mpr ⟨List.mem_of_getElem? (i := 401) (by decide +kernel), by decide +kernel⟩
theorem wd_351 : (Cond.methodLink "EditorCore" 262 ⟨"EditorCore$Kills", "take", "(LEditorCore$Letters;IIZ)V"⟩) ∈ lw_t2 := List.mem_filter.mpr ⟨List.mem_of_getElem? (i := 402) (by decide +kernel), by decide +kernel⟩
theorem wd_352 : (Cond.instanceMethod ⟨"EditorCore$Kills", "take", "(LEditorCore$Letters;IIZ)V"⟩) ∈ lw_t2 := List.mem_filter.mpr ⟨List.mem_of_getElem? (i := 403) (by decide +kernel), by decide +kernel⟩
theorem wd_353 : (Cond.selects "EditorCore$Kills" ⟨"EditorCore$Kills", "take", "(LEditorCore$Letters;IIZ)V"⟩ ⟨"EditorCore$Kills", "take", "(LEditorCore$Letters;IIZ)V"⟩) ∈ lw_t2 := List.mem_filter.mpr ⟨List.mem_of_getElem? (i := 404) (by decide +kernel), by decide +kernel⟩
theorem wd_354 : (Cond.code ⟨"EditorCore$Kills", "take", "(LEditorCore$Letters;IIZ)V"⟩ prog_5_method_2_code 5 none) ∈ lw_t2 := List.mem_filter.mpr ⟨List.mem_of_getElem? (i := 405) (by decide +kernel), by decide +kernel⟩
theorem wd_355 : (Cond.methodLink "EditorCore$Kills" 16 ⟨"EditorCore$Kills", "makeNewest", "()V"⟩) ∈ lw_t2 := List.mem_filter.mpr ⟨List.mem_of_getElem? (i := 406) (by decide +kernel), by decide +kernel⟩
theorem wd_357 : (Cond.instanceMethod ⟨"EditorCore$Kills", "makeNewest", "()V"⟩) ∈ lw_t2 := List.mem_filter.mpr ⟨List.mem_of_getElem? (i := 408) (by decide +kernel), by decide +kernel⟩
theorem wd_358 : (Cond.code ⟨"EditorCore$Kills", "makeNewest", "()V"⟩ prog_5_method_3_code 3 none) ∈ lw_t2 := List.mem_filter.mpr ⟨List.mem_of_getElem? (i := 409) (by decide +kernel), by decide +kernel⟩
theorem wd_359 : (Cond.methodLink "EditorCore$Kills" 23 ⟨"EditorCore$Letters", "clear", "()V"⟩) ∈ lw_t2 := List.mem_filter.mpr ⟨List.mem_of_getElem? (i := 410) (by decide +kernel), by decide +kernel⟩
theorem wd_360 : (Cond.methodLink "EditorCore$Kills" 30 ⟨"java/lang/Math", "min", "(II)I"⟩) ∈ lw_t2 := List.mem_filter.mpr ⟨List.mem_of_getElem? (i := 411) (by decide +kernel), by decide +kernel⟩
theorem wd_361 : (Cond.methodLink "EditorCore$Kills" 19 ⟨"EditorCore$Letters", "append", "(LEditorCore$Letters;II)V"⟩) ∈ lw_t2 := List.mem_filter.mpr ⟨List.mem_of_getElem? (i := 412) (by decide +kernel), by decide +kernel⟩
theorem wd_362 : (Cond.methodLink "EditorCore" 229 ⟨"EditorCore", "regionBeginning", "()I"⟩) ∈ lw_t2 := List.mem_filter.mpr ⟨List.mem_of_getElem? (i := 413) (by decide +kernel), by decide +kernel⟩
theorem wd_364 : (Cond.instanceMethod ⟨"EditorCore", "regionBeginning", "()I"⟩) ∈ lw_t2 := List.mem_filter.mpr ⟨List.mem_of_getElem? (i := 415) (by decide +kernel), by decide +kernel⟩
theorem wd_365 : (Cond.code ⟨"EditorCore", "regionBeginning", "()I"⟩ prog_1_method_27_code 2 (some FieldType.int)) ∈ lw_t2 := List.mem_filter.mpr ⟨List.mem_of_getElem? (i := 416) (by decide +kernel), by decide +kernel⟩
theorem wd_366 : (Cond.methodLink "EditorCore" 232 ⟨"EditorCore", "regionEnd", "()I"⟩) ∈ lw_t2 := List.mem_filter.mpr ⟨List.mem_of_getElem? (i := 417) (by decide +kernel), by decide +kernel⟩
theorem wd_368 : (Cond.instanceMethod ⟨"EditorCore", "regionEnd", "()I"⟩) ∈ lw_t2 := List.mem_filter.mpr ⟨List.mem_of_getElem? (i := 419) (by decide +kernel), by decide +kernel⟩
theorem wd_369 : (Cond.code ⟨"EditorCore", "regionEnd", "()I"⟩ prog_1_method_28_code 1 (some FieldType.int)) ∈ lw_t2 := List.mem_filter.mpr ⟨List.mem_of_getElem? (i := 420) (by decide +kernel), by decide +kernel⟩
theorem wd_370 : (Cond.methodLink "EditorCore" 235 ⟨"EditorCore", "copy", "(II)I"⟩) ∈ lw_t2 := List.mem_filter.mpr ⟨List.mem_of_getElem? (i := 421) (by decide +kernel), by decide +kernel⟩
theorem wd_372 : (Cond.instanceMethod ⟨"EditorCore", "copy", "(II)I"⟩) ∈ lw_t2 := List.mem_filter.mpr ⟨List.mem_of_getElem? (i := 423) (by decide +kernel), by decide +kernel⟩
theorem wd_373 : (Cond.code ⟨"EditorCore", "copy", "(II)I"⟩ prog_1_method_30_code 3 (some FieldType.int)) ∈ lw_t2 := List.mem_filter.mpr ⟨List.mem_of_getElem? (i := 424) (by decide +kernel), by decide +kernel⟩
theorem wd_374 : (Cond.methodLink "EditorCore" 238 ⟨"EditorCore", "putKill", "(II)I"⟩) ∈ lw_t2 := List.mem_filter.mpr ⟨List.mem_of_getElem? (i := 425) (by decide +kernel), by decide +kernel⟩
theorem wd_376 : (Cond.instanceMethod ⟨"EditorCore", "putKill", "(II)I"⟩) ∈ lw_t2 := List.mem_filter.mpr ⟨List.mem_of_getElem? (i := 427) (by decide +kernel), by decide +kernel⟩
theorem wd_377 : (Cond.code ⟨"EditorCore", "putKill", "(II)I"⟩ prog_1_method_31_code 4 (some FieldType.int)) ∈ lw_t2 := List.mem_filter.mpr ⟨List.mem_of_getElem? (i := 428) (by decide +kernel), by decide +kernel⟩
theorem wd_378 : (Cond.methodLink "EditorCore" 244 ⟨"EditorCore", "setMark", "(I)I"⟩) ∈ lw_t2 := List.mem_filter.mpr ⟨List.mem_of_getElem? (i := 429) (by decide +kernel), by decide +kernel⟩
theorem wd_380 : (Cond.instanceMethod ⟨"EditorCore", "setMark", "(I)I"⟩) ∈ lw_t2 := List.mem_filter.mpr ⟨List.mem_of_getElem? (i := 431) (by decide +kernel), by decide +kernel⟩
theorem wd_381 : (Cond.code ⟨"EditorCore", "setMark", "(I)I"⟩ prog_1_method_33_code 2 (some FieldType.int)) ∈ lw_t2 := List.mem_filter.mpr ⟨List.mem_of_getElem? (i := 432) (by decide +kernel), by decide +kernel⟩
theorem wd_382 : (Cond.methodLink "EditorCore" 241 ⟨"EditorCore", "olderKill", "()I"⟩) ∈ lw_t2 := List.mem_filter.mpr ⟨List.mem_of_getElem? (i := 433) (by decide +kernel), by decide +kernel⟩
theorem wd_384 : (Cond.instanceMethod ⟨"EditorCore", "olderKill", "()I"⟩) ∈ lw_t2 := List.mem_filter.mpr ⟨List.mem_of_getElem? (i := 435) (by decide +kernel), by decide +kernel⟩
theorem wd_385 : (Cond.code ⟨"EditorCore", "olderKill", "()I"⟩ prog_1_method_32_code 1 (some FieldType.int)) ∈ lw_t2 := List.mem_filter.mpr ⟨List.mem_of_getElem? (i := 436) (by decide +kernel), by decide +kernel⟩
theorem wd_386 : (Cond.methodLink "EditorCore" 247 ⟨"EditorCore", "swapMark", "()I"⟩) ∈ lw_t2 := List.mem_filter.mpr ⟨List.mem_of_getElem? (i := 437) (by decide +kernel), by decide +kernel⟩
theorem wd_388 : (Cond.instanceMethod ⟨"EditorCore", "swapMark", "()I"⟩) ∈ lw_t2 := List.mem_filter.mpr ⟨List.mem_of_getElem? (i := 439) (by decide +kernel), by decide +kernel⟩
theorem wd_389 : (Cond.code ⟨"EditorCore", "swapMark", "()I"⟩ prog_1_method_34_code 2 (some FieldType.int)) ∈ lw_t2 := List.mem_filter.mpr ⟨List.mem_of_getElem? (i := 440) (by decide +kernel), by decide +kernel⟩
theorem wd_390 : (Cond.methodLink "EditorCore" 250 ⟨"EditorCore", "swapCharacters", "()I"⟩) ∈ lw_t2 := List.mem_filter.mpr ⟨List.mem_of_getElem? (i := 441) (by decide +kernel), by decide +kernel⟩
theorem wd_392 : (Cond.instanceMethod ⟨"EditorCore", "swapCharacters", "()I"⟩) ∈ lw_t2 := List.mem_filter.mpr ⟨List.mem_of_getElem? (i := 443) (by decide +kernel), by decide +kernel⟩
theorem wd_393 : (Cond.code ⟨"EditorCore", "swapCharacters", "()I"⟩ prog_1_method_35_code 2 (some FieldType.int)) ∈ lw_t2 := List.mem_filter.mpr ⟨List.mem_of_getElem? (i := 444) (by decide +kernel), by decide +kernel⟩
theorem wd_394 : (Cond.methodLink "EditorCore" 253 ⟨"EditorCore", "undo", "()I"⟩) ∈ lw_t2 := List.mem_filter.mpr ⟨List.mem_of_getElem? (i := 445) (by decide +kernel), by decide +kernel⟩
theorem wd_396 : (Cond.instanceMethod ⟨"EditorCore", "undo", "()I"⟩) ∈ lw_t2 := List.mem_filter.mpr ⟨List.mem_of_getElem? (i := 447) (by decide +kernel), by decide +kernel⟩
theorem wd_397 : (Cond.code ⟨"EditorCore", "undo", "()I"⟩ prog_1_method_36_code 5 (some FieldType.int)) ∈ lw_t2 := List.mem_filter.mpr ⟨List.mem_of_getElem? (i := 448) (by decide +kernel), by decide +kernel⟩
theorem wd_398 : (Cond.methodLink "EditorCore" 272 ⟨"EditorCore$History", "keeps", "(I)Z"⟩) ∈ lw_t2 := List.mem_filter.mpr ⟨List.mem_of_getElem? (i := 449) (by decide +kernel), by decide +kernel⟩
theorem wd_399 : (Cond.instanceMethod ⟨"EditorCore$History", "keeps", "(I)Z"⟩) ∈ lw_t2 := List.mem_filter.mpr ⟨List.mem_of_getElem? (i := 450) (by decide +kernel), by decide +kernel⟩
theorem wd_400 : (Cond.selects "EditorCore$History" ⟨"EditorCore$History", "keeps", "(I)Z"⟩ ⟨"EditorCore$History", "keeps", "(I)Z"⟩) ∈ lw_t2 := List.mem_filter.mpr ⟨List.mem_of_getElem? (i := 451) (by decide +kernel), by decide +kernel⟩
theorem wd_401 : (Cond.code ⟨"EditorCore$History", "keeps", "(I)Z"⟩ prog_3_method_3_code 2 (some FieldType.boolean)) ∈ lw_t2 := List.mem_filter.mpr ⟨List.mem_of_getElem? (i := 452) (by decide +kernel), by decide +kernel⟩
theorem wd_402 : (Cond.methodLink "EditorCore" 275 ⟨"EditorCore$History", "slotOf", "(I)I"⟩) ∈ lw_t2 := List.mem_filter.mpr ⟨List.mem_of_getElem? (i := 453) (by decide +kernel), by decide +kernel⟩
theorem wd_403 : (Cond.methodLink "EditorCore" 284 ⟨"EditorCore$Letters", "append", "(LEditorCore$Letters;II)V"⟩) ∈ lw_t2 := List.mem_filter.mpr ⟨List.mem_of_getElem? (i := 454) (by decide +kernel), by decide +kernel⟩
theorem wd_404 : (Cond.methodLink "EditorCore" 256 ⟨"EditorCore", "search", "()I"⟩) ∈ lw_t2 := List.mem_filter.mpr ⟨List.mem_of_getElem? (i := 455) (by decide +kernel), by decide +kernel⟩
theorem wd_406 : (Cond.instanceMethod ⟨"EditorCore", "search", "()I"⟩) ∈ lw_t2 := List.mem_filter.mpr ⟨List.mem_of_getElem? (i := 457) (by decide +kernel), by decide +kernel⟩
theorem wd_407 : (Cond.code ⟨"EditorCore", "search", "()I"⟩ prog_1_method_37_code 3 (some FieldType.int)) ∈ lw_t2 := List.mem_filter.mpr ⟨List.mem_of_getElem? (i := 458) (by decide +kernel), by decide +kernel⟩
theorem wd_408 : (Cond.methodLink "EditorCore" 291 ⟨"EditorCore$Letters", "has", "(LEditorCore$Letters;I)Z"⟩) ∈ lw_t2 := List.mem_filter.mpr ⟨List.mem_of_getElem? (i := 459) (by decide +kernel), by decide +kernel⟩
theorem wd_409 : (Cond.instanceMethod ⟨"EditorCore$Letters", "has", "(LEditorCore$Letters;I)Z"⟩) ∈ lw_t2 := List.mem_filter.mpr ⟨List.mem_of_getElem? (i := 460) (by decide +kernel), by decide +kernel⟩
theorem wd_410 : (Cond.selects "EditorCore$Letters" ⟨"EditorCore$Letters", "has", "(LEditorCore$Letters;I)Z"⟩ ⟨"EditorCore$Letters", "has", "(LEditorCore$Letters;I)Z"⟩) ∈ lw_t2 := List.mem_filter.mpr ⟨List.mem_of_getElem? (i := 461) (by decide +kernel), by decide +kernel⟩
theorem wd_411 : (Cond.code ⟨"EditorCore$Letters", "has", "(LEditorCore$Letters;I)Z"⟩ prog_6_method_5_code 4 (some FieldType.boolean)) ∈ lw_t2 := List.mem_filter.mpr ⟨List.mem_of_getElem? (i := 462) (by decide +kernel), by decide +kernel⟩
theorem wd_412 : (Cond.methodLink "EditorCoreLaw" 22 ⟨"EditorCore", "argument", "(I)I"⟩) ∈ lw_t2 := List.mem_filter.mpr ⟨List.mem_of_getElem? (i := 463) (by decide +kernel), by decide +kernel⟩
theorem wd_413 : (Cond.instanceMethod ⟨"EditorCore", "argument", "(I)I"⟩) ∈ lw_t2 := List.mem_filter.mpr ⟨List.mem_of_getElem? (i := 464) (by decide +kernel), by decide +kernel⟩
theorem wd_414 : (Cond.selects "EditorCore" ⟨"EditorCore", "argument", "(I)I"⟩ ⟨"EditorCore", "argument", "(I)I"⟩) ∈ lw_t2 := List.mem_filter.mpr ⟨List.mem_of_getElem? (i := 465) (by decide +kernel), by decide +kernel⟩
theorem wd_415 : (Cond.code ⟨"EditorCore", "argument", "(I)I"⟩ prog_1_method_4_code 2 (some FieldType.int)) ∈ lw_t2 := List.mem_filter.mpr ⟨List.mem_of_getElem? (i := 466) (by decide +kernel), by decide +kernel⟩
theorem wd_416 : (Cond.methodLink "EditorCoreLaw" 26 ⟨"EditorCore", "bind", "(IIII)I"⟩) ∈ lw_t2 := List.mem_filter.mpr ⟨List.mem_of_getElem? (i := 467) (by decide +kernel), by decide +kernel⟩
theorem wd_417 : (Cond.instanceMethod ⟨"EditorCore", "bind", "(IIII)I"⟩) ∈ lw_t2 := List.mem_filter.mpr ⟨List.mem_of_getElem? (i := 468) (by decide +kernel), by decide +kernel⟩
theorem wd_418 : (Cond.selects "EditorCore" ⟨"EditorCore", "bind", "(IIII)I"⟩ ⟨"EditorCore", "bind", "(IIII)I"⟩) ∈ lw_t2 := List.mem_filter.mpr ⟨List.mem_of_getElem? (i := 469) (by decide +kernel), by decide +kernel⟩
theorem wd_419 : (Cond.code ⟨"EditorCore", "bind", "(IIII)I"⟩ prog_1_method_5_code 6 (some FieldType.int)) ∈ lw_t2 := List.mem_filter.mpr ⟨List.mem_of_getElem? (i := 470) (by decide +kernel), by decide +kernel⟩
theorem wd_420 : (Cond.methodLink "EditorCore" 84 ⟨"EditorCore", "isKey", "(I)Z"⟩) ∈ lw_t2 := List.mem_filter.mpr ⟨List.mem_of_getElem? (i := 471) (by decide +kernel), by decide +kernel⟩
theorem wd_421 : (Cond.static ⟨"EditorCore", "isKey", "(I)Z"⟩) ∈ lw_t2 := List.mem_filter.mpr ⟨List.mem_of_getElem? (i := 472) (by decide +kernel), by decide +kernel⟩
theorem wd_422 : (Cond.code ⟨"EditorCore", "isKey", "(I)Z"⟩ prog_1_method_16_code 1 (some FieldType.boolean)) ∈ lw_t2 := List.mem_filter.mpr ⟨List.mem_of_getElem? (i := 473) (by decide +kernel), by decide +kernel⟩
theorem wd_423 : (Cond.methodLink "EditorCore" 87 ⟨"EditorCore", "isKeyOrNone", "(I)Z"⟩) ∈ lw_t2 := List.mem_filter.mpr ⟨List.mem_of_getElem? (i := 474) (by decide +kernel), by decide +kernel⟩
theorem wd_424 : (Cond.static ⟨"EditorCore", "isKeyOrNone", "(I)Z"⟩) ∈ lw_t2 := List.mem_filter.mpr ⟨List.mem_of_getElem? (i := 475) (by decide +kernel), by decide +kernel⟩
theorem wd_425 : (Cond.code ⟨"EditorCore", "isKeyOrNone", "(I)Z"⟩ prog_1_method_17_code 1 (some FieldType.boolean)) ∈ lw_t2 := List.mem_filter.mpr ⟨List.mem_of_getElem? (i := 476) (by decide +kernel), by decide +kernel⟩
theorem wd_426 : (Cond.methodLink "EditorCore" 90 ⟨"EditorCore$Keys", "join", "(III)I"⟩) ∈ lw_t2 := List.mem_filter.mpr ⟨List.mem_of_getElem? (i := 477) (by decide +kernel), by decide +kernel⟩
theorem wd_427 : (Cond.static ⟨"EditorCore$Keys", "join", "(III)I"⟩) ∈ lw_t2 := List.mem_filter.mpr ⟨List.mem_of_getElem? (i := 478) (by decide +kernel), by decide +kernel⟩
theorem wd_428 : (Cond.code ⟨"EditorCore$Keys", "join", "(III)I"⟩ prog_4_method_2_code 3 (some FieldType.int)) ∈ lw_t2 := List.mem_filter.mpr ⟨List.mem_of_getElem? (i := 479) (by decide +kernel), by decide +kernel⟩
theorem wd_429 : (Cond.methodLink "EditorCore" 94 ⟨"EditorCore$Keys", "assign", "(II)I"⟩) ∈ lw_t2 := List.mem_filter.mpr ⟨List.mem_of_getElem? (i := 480) (by decide +kernel), by decide +kernel⟩
theorem wd_430 : (Cond.instanceMethod ⟨"EditorCore$Keys", "assign", "(II)I"⟩) ∈ lw_t2 := List.mem_filter.mpr ⟨List.mem_of_getElem? (i := 481) (by decide +kernel), by decide +kernel⟩
theorem wd_431 : (Cond.selects "EditorCore$Keys" ⟨"EditorCore$Keys", "assign", "(II)I"⟩ ⟨"EditorCore$Keys", "assign", "(II)I"⟩) ∈ lw_t2 := List.mem_filter.mpr ⟨List.mem_of_getElem? (i := 482) (by decide +kernel), by decide +kernel⟩
theorem wd_432 : (Cond.code ⟨"EditorCore$Keys", "assign", "(II)I"⟩ prog_4_method_6_code 5 (some FieldType.int)) ∈ lw_t2 := List.mem_filter.mpr ⟨List.mem_of_getElem? (i := 483) (by decide +kernel), by decide +kernel⟩
theorem wd_433 : (Cond.methodLink "EditorCore$Keys" 33 ⟨"EditorCore$Keys", "drop", "(II)V"⟩) ∈ lw_t2 := List.mem_filter.mpr ⟨List.mem_of_getElem? (i := 484) (by decide +kernel), by decide +kernel⟩
theorem wd_435 : (Cond.instanceMethod ⟨"EditorCore$Keys", "drop", "(II)V"⟩) ∈ lw_t2 := List.mem_filter.mpr ⟨List.mem_of_getElem? (i := 486) (by decide +kernel), by decide +kernel⟩
theorem wd_436 : (Cond.code ⟨"EditorCore$Keys", "drop", "(II)V"⟩ prog_4_method_7_code 5 none) ∈ lw_t2 := List.mem_filter.mpr ⟨List.mem_of_getElem? (i := 487) (by decide +kernel), by decide +kernel⟩
theorem wd_437 : (Cond.methodLink "EditorCoreLaw" 31 ⟨"EditorCore", "press", "(I)I"⟩) ∈ lw_t2 := List.mem_filter.mpr ⟨List.mem_of_getElem? (i := 488) (by decide +kernel), by decide +kernel⟩
theorem wd_438 : (Cond.instanceMethod ⟨"EditorCore", "press", "(I)I"⟩) ∈ lw_t2 := List.mem_filter.mpr ⟨List.mem_of_getElem? (i := 489) (by decide +kernel), by decide +kernel⟩
theorem wd_439 : (Cond.selects "EditorCore" ⟨"EditorCore", "press", "(I)I"⟩ ⟨"EditorCore", "press", "(I)I"⟩) ∈ lw_t2 := List.mem_filter.mpr ⟨List.mem_of_getElem? (i := 490) (by decide +kernel), by decide +kernel⟩
theorem wd_440 : (Cond.code ⟨"EditorCore", "press", "(I)I"⟩ prog_1_method_6_code 4 (some FieldType.int)) ∈ lw_t2 := List.mem_filter.mpr ⟨List.mem_of_getElem? (i := 491) (by decide +kernel), by decide +kernel⟩
theorem wd_441 : (Cond.methodLink "EditorCoreLaw" 35 ⟨"EditorCore", "macro", "(Z)I"⟩) ∈ lw_t2 := List.mem_filter.mpr ⟨List.mem_of_getElem? (i := 492) (by decide +kernel), by decide +kernel⟩
theorem wd_442 : (Cond.instanceMethod ⟨"EditorCore", "macro", "(Z)I"⟩) ∈ lw_t2 := List.mem_filter.mpr ⟨List.mem_of_getElem? (i := 493) (by decide +kernel), by decide +kernel⟩
theorem wd_443 : (Cond.selects "EditorCore" ⟨"EditorCore", "macro", "(Z)I"⟩ ⟨"EditorCore", "macro", "(Z)I"⟩) ∈ lw_t2 := List.mem_filter.mpr ⟨List.mem_of_getElem? (i := 494) (by decide +kernel), by decide +kernel⟩
theorem wd_444 : (Cond.code ⟨"EditorCore", "macro", "(Z)I"⟩ prog_1_method_7_code 2 (some FieldType.int)) ∈ lw_t2 := List.mem_filter.mpr ⟨List.mem_of_getElem? (i := 495) (by decide +kernel), by decide +kernel⟩
theorem wd_445 : (Cond.methodLink "EditorCoreLaw" 40 ⟨"EditorCore", "marker", "(IZ)I"⟩) ∈ lw_t2 := List.mem_filter.mpr ⟨List.mem_of_getElem? (i := 496) (by decide +kernel), by decide +kernel⟩
theorem wd_446 : (Cond.instanceMethod ⟨"EditorCore", "marker", "(IZ)I"⟩) ∈ lw_t2 := List.mem_filter.mpr ⟨List.mem_of_getElem? (i := 497) (by decide +kernel), by decide +kernel⟩
theorem wd_447 : (Cond.selects "EditorCore" ⟨"EditorCore", "marker", "(IZ)I"⟩ ⟨"EditorCore", "marker", "(IZ)I"⟩) ∈ lw_t2 := List.mem_filter.mpr ⟨List.mem_of_getElem? (i := 498) (by decide +kernel), by decide +kernel⟩
theorem wd_448 : (Cond.code ⟨"EditorCore", "marker", "(IZ)I"⟩ prog_1_method_8_code 3 (some FieldType.int)) ∈ lw_t2 := List.mem_filter.mpr ⟨List.mem_of_getElem? (i := 499) (by decide +kernel), by decide +kernel⟩
theorem wd_449 : (Cond.methodLink "EditorCoreLaw" 45 ⟨"EditorCore", "frame", "(II)I"⟩) ∈ lw_t2 := List.mem_filter.mpr ⟨List.mem_of_getElem? (i := 500) (by decide +kernel), by decide +kernel⟩
theorem wd_450 : (Cond.instanceMethod ⟨"EditorCore", "frame", "(II)I"⟩) ∈ lw_t2 := List.mem_filter.mpr ⟨List.mem_of_getElem? (i := 501) (by decide +kernel), by decide +kernel⟩
theorem wd_451 : (Cond.selects "EditorCore" ⟨"EditorCore", "frame", "(II)I"⟩ ⟨"EditorCore", "frame", "(II)I"⟩) ∈ lw_t2 := List.mem_filter.mpr ⟨List.mem_of_getElem? (i := 502) (by decide +kernel), by decide +kernel⟩
theorem wd_452 : (Cond.code ⟨"EditorCore", "frame", "(II)I"⟩ prog_1_method_9_code 3 (some FieldType.int)) ∈ lw_t2 := List.mem_filter.mpr ⟨List.mem_of_getElem? (i := 503) (by decide +kernel), by decide +kernel⟩
theorem wd_453 : (Cond.methodLink "EditorCore" 119 ⟨"EditorCore$Window", "resize", "(II)I"⟩) ∈ lw_t2 := List.mem_filter.mpr ⟨List.mem_of_getElem? (i := 504) (by decide +kernel), by decide +kernel⟩
theorem wd_454 : (Cond.instanceMethod ⟨"EditorCore$Window", "resize", "(II)I"⟩) ∈ lw_t2 := List.mem_filter.mpr ⟨List.mem_of_getElem? (i := 505) (by decide +kernel), by decide +kernel⟩
theorem wd_455 : (Cond.selects "EditorCore$Window" ⟨"EditorCore$Window", "resize", "(II)I"⟩ ⟨"EditorCore$Window", "resize", "(II)I"⟩) ∈ lw_t2 := List.mem_filter.mpr ⟨List.mem_of_getElem? (i := 506) (by decide +kernel), by decide +kernel⟩
theorem wd_456 : (Cond.code ⟨"EditorCore$Window", "resize", "(II)I"⟩ prog_8_method_2_code 3 (some FieldType.int)) ∈ lw_t2 := List.mem_filter.mpr ⟨List.mem_of_getElem? (i := 507) (by decide +kernel), by decide +kernel⟩
theorem wd_457 : (Cond.methodLink "EditorCoreLaw" 50 ⟨"EditorCore", "character", "(I)I"⟩) ∈ lw_t2 := List.mem_filter.mpr ⟨List.mem_of_getElem? (i := 508) (by decide +kernel), by decide +kernel⟩
theorem wd_458 : (Cond.instanceMethod ⟨"EditorCore", "character", "(I)I"⟩) ∈ lw_t2 := List.mem_filter.mpr ⟨List.mem_of_getElem? (i := 509) (by decide +kernel), by decide +kernel⟩
theorem wd_459 : (Cond.selects "EditorCore" ⟨"EditorCore", "character", "(I)I"⟩ ⟨"EditorCore", "character", "(I)I"⟩) ∈ lw_t2 := List.mem_filter.mpr ⟨List.mem_of_getElem? (i := 510) (by decide +kernel), by decide +kernel⟩
theorem wd_460 : (Cond.code ⟨"EditorCore", "character", "(I)I"⟩ prog_1_method_10_code 2 (some FieldType.int)) ∈ lw_t2 := List.mem_filter.mpr ⟨List.mem_of_getElem? (i := 511) (by decide +kernel), by decide +kernel⟩
theorem wd_461 : (Cond.methodLink "EditorCoreLaw" 54 ⟨"EditorCore", "markerAt", "(I)I"⟩) ∈ lw_t2 := List.mem_filter.mpr ⟨List.mem_of_getElem? (i := 512) (by decide +kernel), by decide +kernel⟩
theorem wd_462 : (Cond.instanceMethod ⟨"EditorCore", "markerAt", "(I)I"⟩) ∈ lw_t2 := List.mem_filter.mpr ⟨List.mem_of_getElem? (i := 513) (by decide +kernel), by decide +kernel⟩
theorem wd_463 : (Cond.selects "EditorCore" ⟨"EditorCore", "markerAt", "(I)I"⟩ ⟨"EditorCore", "markerAt", "(I)I"⟩) ∈ lw_t2 := List.mem_filter.mpr ⟨List.mem_of_getElem? (i := 514) (by decide +kernel), by decide +kernel⟩
theorem wd_464 : (Cond.code ⟨"EditorCore", "markerAt", "(I)I"⟩ prog_1_method_11_code 2 (some FieldType.int)) ∈ lw_t2 := List.mem_filter.mpr ⟨List.mem_of_getElem? (i := 515) (by decide +kernel), by decide +kernel⟩
theorem wd_465 : (Cond.methodLink "EditorCoreLaw" 58 ⟨"EditorCore", "killed", "(II)I"⟩) ∈ lw_t2 := List.mem_filter.mpr ⟨List.mem_of_getElem? (i := 516) (by decide +kernel), by decide +kernel⟩
theorem wd_466 : (Cond.instanceMethod ⟨"EditorCore", "killed", "(II)I"⟩) ∈ lw_t2 := List.mem_filter.mpr ⟨List.mem_of_getElem? (i := 517) (by decide +kernel), by decide +kernel⟩
theorem wd_467 : (Cond.selects "EditorCore" ⟨"EditorCore", "killed", "(II)I"⟩ ⟨"EditorCore", "killed", "(II)I"⟩) ∈ lw_t2 := List.mem_filter.mpr ⟨List.mem_of_getElem? (i := 518) (by decide +kernel), by decide +kernel⟩
theorem wd_468 : (Cond.code ⟨"EditorCore", "killed", "(II)I"⟩ prog_1_method_12_code 4 (some FieldType.int)) ∈ lw_t2 := List.mem_filter.mpr ⟨List.mem_of_getElem? (i := 519) (by decide +kernel), by decide +kernel⟩
theorem wd_469 : (Cond.methodLink "EditorCoreLaw" 62 ⟨"EditorCore", "cell", "(II)I"⟩) ∈ lw_t2 := List.mem_filter.mpr ⟨List.mem_of_getElem? (i := 520) (by decide +kernel), by decide +kernel⟩
theorem wd_470 : (Cond.instanceMethod ⟨"EditorCore", "cell", "(II)I"⟩) ∈ lw_t2 := List.mem_filter.mpr ⟨List.mem_of_getElem? (i := 521) (by decide +kernel), by decide +kernel⟩
theorem wd_471 : (Cond.selects "EditorCore" ⟨"EditorCore", "cell", "(II)I"⟩ ⟨"EditorCore", "cell", "(II)I"⟩) ∈ lw_t2 := List.mem_filter.mpr ⟨List.mem_of_getElem? (i := 522) (by decide +kernel), by decide +kernel⟩
theorem wd_472 : (Cond.code ⟨"EditorCore", "cell", "(II)I"⟩ prog_1_method_13_code 3 (some FieldType.int)) ∈ lw_t2 := List.mem_filter.mpr ⟨List.mem_of_getElem? (i := 523) (by decide +kernel), by decide +kernel⟩
theorem wd_473 : (Cond.methodLink "EditorCore" 141 ⟨"EditorCore$Window", "follow", "(LEditorCore$Text;)V"⟩) ∈ lw_t2 := List.mem_filter.mpr ⟨List.mem_of_getElem? (i := 524) (by decide +kernel), by decide +kernel⟩
theorem wd_474 : (Cond.instanceMethod ⟨"EditorCore$Window", "follow", "(LEditorCore$Text;)V"⟩) ∈ lw_t2 := List.mem_filter.mpr ⟨List.mem_of_getElem? (i := 525) (by decide +kernel), by decide +kernel⟩
theorem wd_475 : (Cond.selects "EditorCore$Window" ⟨"EditorCore$Window", "follow", "(LEditorCore$Text;)V"⟩ ⟨"EditorCore$Window", "follow", "(LEditorCore$Text;)V"⟩) ∈ lw_t2 := List.mem_filter.mpr ⟨List.mem_of_getElem? (i := 526) (by decide +kernel), by decide +kernel⟩
theorem wd_476 : (Cond.code ⟨"EditorCore$Window", "follow", "(LEditorCore$Text;)V"⟩ prog_8_method_4_code 3 none) ∈ lw_t2 := List.mem_filter.mpr ⟨List.mem_of_getElem? (i := 527) (by decide +kernel), by decide +kernel⟩
theorem wd_477 : (Cond.methodLink "EditorCore$Window" 39 ⟨"EditorCore$Window", "rowOf", "(LEditorCore$Letters;I)I"⟩) ∈ lw_t2 := List.mem_filter.mpr ⟨List.mem_of_getElem? (i := 528) (by decide +kernel), by decide +kernel⟩
theorem wd_478 : (Cond.instanceMethod ⟨"EditorCore$Window", "rowOf", "(LEditorCore$Letters;I)I"⟩) ∈ lw_t2 := List.mem_filter.mpr ⟨List.mem_of_getElem? (i := 529) (by decide +kernel), by decide +kernel⟩
theorem wd_479 : (Cond.selects "EditorCore$Window" ⟨"EditorCore$Window", "rowOf", "(LEditorCore$Letters;I)I"⟩ ⟨"EditorCore$Window", "rowOf", "(LEditorCore$Letters;I)I"⟩) ∈ lw_t2 := List.mem_filter.mpr ⟨List.mem_of_getElem? (i := 530) (by decide +kernel), by decide +kernel⟩
theorem wd_480 : (Cond.code ⟨"EditorCore$Window", "rowOf", "(LEditorCore$Letters;I)I"⟩ prog_8_method_3_code 6 (some FieldType.int)) ∈ lw_t2 := List.mem_filter.mpr ⟨List.mem_of_getElem? (i := 531) (by decide +kernel), by decide +kernel⟩
theorem wd_481 : (Cond.methodLink "EditorCore$Window" 43 ⟨"java/lang/Math", "min", "(II)I"⟩) ∈ lw_t2 := List.mem_filter.mpr ⟨List.mem_of_getElem? (i := 532) (by decide +kernel), by decide +kernel⟩
theorem wd_482 : (Cond.methodLink "EditorCore$Window" 49 ⟨"java/lang/Math", "max", "(II)I"⟩) ∈ lw_t2 := List.mem_filter.mpr ⟨List.mem_of_getElem? (i := 533) (by decide +kernel), by decide +kernel⟩
theorem wd_483 : (Cond.methodLink "EditorCore" 148 ⟨"EditorCore$Window", "codeAt", "(LEditorCore$Letters;II)I"⟩) ∈ lw_t2 := List.mem_filter.mpr ⟨List.mem_of_getElem? (i := 534) (by decide +kernel), by decide +kernel⟩
theorem wd_484 : (Cond.instanceMethod ⟨"EditorCore$Window", "codeAt", "(LEditorCore$Letters;II)I"⟩) ∈ lw_t2 := List.mem_filter.mpr ⟨List.mem_of_getElem? (i := 535) (by decide +kernel), by decide +kernel⟩
theorem wd_485 : (Cond.selects "EditorCore$Window" ⟨"EditorCore$Window", "codeAt", "(LEditorCore$Letters;II)I"⟩ ⟨"EditorCore$Window", "codeAt", "(LEditorCore$Letters;II)I"⟩) ∈ lw_t2 := List.mem_filter.mpr ⟨List.mem_of_getElem? (i := 536) (by decide +kernel), by decide +kernel⟩
theorem wd_486 : (Cond.code ⟨"EditorCore$Window", "codeAt", "(LEditorCore$Letters;II)I"⟩ prog_8_method_5_code 8 (some FieldType.int)) ∈ lw_t2 := List.mem_filter.mpr ⟨List.mem_of_getElem? (i := 537) (by decide +kernel), by decide +kernel⟩
theorem wd_487 : (Cond.methodLink "EditorCoreLaw" 66 ⟨"EditorCore", "info", "(I)I"⟩) ∈ lw_t2 := List.mem_filter.mpr ⟨List.mem_of_getElem? (i := 538) (by decide +kernel), by decide +kernel⟩
theorem wd_488 : (Cond.instanceMethod ⟨"EditorCore", "info", "(I)I"⟩) ∈ lw_t2 := List.mem_filter.mpr ⟨List.mem_of_getElem? (i := 539) (by decide +kernel), by decide +kernel⟩
theorem wd_489 : (Cond.selects "EditorCore" ⟨"EditorCore", "info", "(I)I"⟩ ⟨"EditorCore", "info", "(I)I"⟩) ∈ lw_t2 := List.mem_filter.mpr ⟨List.mem_of_getElem? (i := 540) (by decide +kernel), by decide +kernel⟩
theorem wd_490 : (Cond.code ⟨"EditorCore", "info", "(I)I"⟩ prog_1_method_14_code 2 (some FieldType.int)) ∈ lw_t2 := List.mem_filter.mpr ⟨List.mem_of_getElem? (i := 541) (by decide +kernel), by decide +kernel⟩
theorem wd_491 : (Cond.methodLink "EditorCore" 155 ⟨"EditorCore$Keys", "pendingCount", "()I"⟩) ∈ lw_t2 := List.mem_filter.mpr ⟨List.mem_of_getElem? (i := 542) (by decide +kernel), by decide +kernel⟩
theorem wd_492 : (Cond.instanceMethod ⟨"EditorCore$Keys", "pendingCount", "()I"⟩) ∈ lw_t2 := List.mem_filter.mpr ⟨List.mem_of_getElem? (i := 543) (by decide +kernel), by decide +kernel⟩
theorem wd_493 : (Cond.selects "EditorCore$Keys" ⟨"EditorCore$Keys", "pendingCount", "()I"⟩ ⟨"EditorCore$Keys", "pendingCount", "()I"⟩) ∈ lw_t2 := List.mem_filter.mpr ⟨List.mem_of_getElem? (i := 544) (by decide +kernel), by decide +kernel⟩
theorem wd_494 : (Cond.code ⟨"EditorCore$Keys", "pendingCount", "()I"⟩ prog_4_method_5_code 2 (some FieldType.int)) ∈ lw_t2 := List.mem_filter.mpr ⟨List.mem_of_getElem? (i := 545) (by decide +kernel), by decide +kernel⟩
theorem wd_495 : (Cond.methodLink "EditorCore" 159 ⟨"EditorCore$Window", "rowOf", "(LEditorCore$Letters;I)I"⟩) ∈ lw_t2 := List.mem_filter.mpr ⟨List.mem_of_getElem? (i := 546) (by decide +kernel), by decide +kernel⟩
theorem wd_496 : (Cond.classLink "EditorCoreLaw" 10 "EditorCoreModel") ∈ lw_t2 := List.mem_filter.mpr ⟨List.mem_of_getElem? (i := 547) (by decide +kernel), by decide +kernel⟩
theorem wd_497 : (Cond.instantiable "EditorCoreModel" 36) ∈ lw_t2 := List.mem_filter.mpr ⟨List.mem_of_getElem? (i := 548) (by decide +kernel), by decide +kernel⟩
theorem wd_498 : (Cond.methodLink "EditorCoreLaw" 12 ⟨"EditorCoreModel", "<init>", "()V"⟩) ∈ lw_t2 := List.mem_filter.mpr ⟨List.mem_of_getElem? (i := 549) (by decide +kernel), by decide +kernel⟩
theorem wd_499 : (Cond.instanceMethod ⟨"EditorCoreModel", "<init>", "()V"⟩) ∈ lw_t2 := List.mem_filter.mpr ⟨List.mem_of_getElem? (i := 550) (by decide +kernel), by decide +kernel⟩
theorem wd_500 : (Cond.code ⟨"EditorCoreModel", "<init>", "()V"⟩ prog_10_method_1_code 2 none) ∈ lw_t2 := List.mem_filter.mpr ⟨List.mem_of_getElem? (i := 551) (by decide +kernel), by decide +kernel⟩
theorem wd_501 : (Cond.methodLink "EditorCoreModel" 1 ⟨"java/lang/Object", "<init>", "()V"⟩) ∈ lw_t2 := List.mem_filter.mpr ⟨List.mem_of_getElem? (i := 552) (by decide +kernel), by decide +kernel⟩
theorem wd_502 : (Cond.fieldLink "EditorCoreModel" 7 "EditorCoreModel" "text" "[I") ∈ lw_t2 := List.mem_filter.mpr ⟨List.mem_of_getElem? (i := 553) (by decide +kernel), by decide +kernel⟩
theorem wd_503 : (Cond.fieldLink "EditorCoreModel" 13 "EditorCoreModel" "old" "[I") ∈ lw_t2 := List.mem_filter.mpr ⟨List.mem_of_getElem? (i := 554) (by decide +kernel), by decide +kernel⟩
theorem wd_504 : (Cond.fieldLink "EditorCoreModel" 16 "EditorCoreModel" "fresh" "[I") ∈ lw_t2 := List.mem_filter.mpr ⟨List.mem_of_getElem? (i := 555) (by decide +kernel), by decide +kernel⟩
theorem wd_505 : (Cond.fieldLink "EditorCoreModel" 75 "EditorCoreModel" "length" "I") ∈ lw_t2 := List.mem_filter.mpr ⟨List.mem_of_getElem? (i := 556) (by decide +kernel), by decide +kernel⟩
theorem wd_506 : (Cond.fieldLink "EditorCoreModel" 78 "EditorCoreModel" "freshLength" "I") ∈ lw_t2 := List.mem_filter.mpr ⟨List.mem_of_getElem? (i := 557) (by decide +kernel), by decide +kernel⟩
theorem wd_507 : (Cond.fieldLink "EditorCoreModel" 96 "EditorCoreModel" "point" "I") ∈ lw_t2 := List.mem_filter.mpr ⟨List.mem_of_getElem? (i := 558) (by decide +kernel), by decide +kernel⟩
theorem wd_508 : (Cond.fieldLink "EditorCoreModel" 19 "EditorCoreModel" "mark" "I") ∈ lw_t2 := List.mem_filter.mpr ⟨List.mem_of_getElem? (i := 559) (by decide +kernel), by decide +kernel⟩
theorem wd_509 : (Cond.fieldLink "EditorCoreModel" 23 "EditorCoreModel" "n" "I") ∈ lw_t2 := List.mem_filter.mpr ⟨List.mem_of_getElem? (i := 560) (by decide +kernel), by decide +kernel⟩
theorem wd_510 : (Cond.fieldLink "EditorCoreModel" 26 "EditorCoreModel" "last" "I") ∈ lw_t2 := List.mem_filter.mpr ⟨List.mem_of_getElem? (i := 561) (by decide +kernel), by decide +kernel⟩
theorem wd_511 : (Cond.fieldLink "EditorCoreModel" 109 "EditorCoreModel" "goal" "I") ∈ lw_t2 := List.mem_filter.mpr ⟨List.mem_of_getElem? (i := 562) (by decide +kernel), by decide +kernel⟩
theorem wd_512 : (Cond.fieldLink "EditorCoreModel" 29 "EditorCoreModel" "marker" "[I") ∈ lw_t2 := List.mem_filter.mpr ⟨List.mem_of_getElem? (i := 563) (by decide +kernel), by decide +kernel⟩
theorem wd_513 : (Cond.fieldLink "EditorCoreModel" 32 "EditorCoreModel" "following" "[Z") ∈ lw_t2 := List.mem_filter.mpr ⟨List.mem_of_getElem? (i := 564) (by decide +kernel), by decide +kernel⟩
theorem wd_514 : (Cond.fieldLink "EditorCoreModel" 36 "EditorCoreModel" "kill" "[I") ∈ lw_t2 := List.mem_filter.mpr ⟨List.mem_of_getElem? (i := 565) (by decide +kernel), by decide +kernel⟩
theorem wd_515 : (Cond.fieldLink "EditorCoreModel" 39 "EditorCoreModel" "killLength" "[I") ∈ lw_t2 := List.mem_filter.mpr ⟨List.mem_of_getElem? (i := 566) (by decide +kernel), by decide +kernel⟩
theorem wd_516 : (Cond.fieldLink "EditorCoreModel" 115 "EditorCoreModel" "kills" "I") ∈ lw_t2 := List.mem_filter.mpr ⟨List.mem_of_getElem? (i := 567) (by decide +kernel), by decide +kernel⟩
theorem wd_517 : (Cond.fieldLink "EditorCoreModel" 126 "EditorCoreModel" "yankAt" "I") ∈ lw_t2 := List.mem_filter.mpr ⟨List.mem_of_getElem? (i := 568) (by decide +kernel), by decide +kernel⟩
theorem wd_518 : (Cond.fieldLink "EditorCoreModel" 129 "EditorCoreModel" "yankLength" "I") ∈ lw_t2 := List.mem_filter.mpr ⟨List.mem_of_getElem? (i := 569) (by decide +kernel), by decide +kernel⟩
theorem wd_519 : (Cond.fieldLink "EditorCoreModel" 132 "EditorCoreModel" "yankKill" "I") ∈ lw_t2 := List.mem_filter.mpr ⟨List.mem_of_getElem? (i := 570) (by decide +kernel), by decide +kernel⟩
theorem wd_520 : (Cond.fieldLink "EditorCoreModel" 42 "EditorCoreModel" "before" "[I") ∈ lw_t2 := List.mem_filter.mpr ⟨List.mem_of_getElem? (i := 571) (by decide +kernel), by decide +kernel⟩
theorem wd_521 : (Cond.fieldLink "EditorCoreModel" 45 "EditorCoreModel" "beforeLength" "[I") ∈ lw_t2 := List.mem_filter.mpr ⟨List.mem_of_getElem? (i := 572) (by decide +kernel), by decide +kernel⟩
theorem wd_522 : (Cond.fieldLink "EditorCoreModel" 48 "EditorCoreModel" "stepAt" "[I") ∈ lw_t2 := List.mem_filter.mpr ⟨List.mem_of_getElem? (i := 573) (by decide +kernel), by decide +kernel⟩
theorem wd_523 : (Cond.fieldLink "EditorCoreModel" 51 "EditorCoreModel" "stepTook" "[I") ∈ lw_t2 := List.mem_filter.mpr ⟨List.mem_of_getElem? (i := 574) (by decide +kernel), by decide +kernel⟩
theorem wd_524 : (Cond.fieldLink "EditorCoreModel" 54 "EditorCoreModel" "stepPut" "[I") ∈ lw_t2 := List.mem_filter.mpr ⟨List.mem_of_getElem? (i := 575) (by decide +kernel), by decide +kernel⟩
theorem wd_525 : (Cond.fieldLink "EditorCoreModel" 85 "EditorCoreModel" "steps" "I") ∈ lw_t2 := List.mem_filter.mpr ⟨List.mem_of_getElem? (i := 576) (by decide +kernel), by decide +kernel⟩
theorem wd_526 : (Cond.fieldLink "EditorCoreModel" 135 "EditorCoreModel" "undone" "I") ∈ lw_t2 := List.mem_filter.mpr ⟨List.mem_of_getElem? (i := 577) (by decide +kernel), by decide +kernel⟩
theorem wd_527 : (Cond.fieldLink "EditorCoreModel" 57 "EditorCoreModel" "bound" "[I") ∈ lw_t2 := List.mem_filter.mpr ⟨List.mem_of_getElem? (i := 578) (by decide +kernel), by decide +kernel⟩
theorem wd_528 : (Cond.fieldLink "EditorCoreModel" 60 "EditorCoreModel" "command" "[I") ∈ lw_t2 := List.mem_filter.mpr ⟨List.mem_of_getElem? (i := 579) (by decide +kernel), by decide +kernel⟩
theorem wd_529 : (Cond.fieldLink "EditorCoreModel" 176 "EditorCoreModel" "bindings" "I") ∈ lw_t2 := List.mem_filter.mpr ⟨List.mem_of_getElem? (i := 580) (by decide +kernel), by decide +kernel⟩
theorem wd_530 : (Cond.fieldLink "EditorCoreModel" 63 "EditorCoreModel" "pending" "[I") ∈ lw_t2 := List.mem_filter.mpr ⟨List.mem_of_getElem? (i := 581) (by decide +kernel), by decide +kernel⟩
theorem wd_531 : (Cond.fieldLink "EditorCoreModel" 189 "EditorCoreModel" "pendings" "I") ∈ lw_t2 := List.mem_filter.mpr ⟨List.mem_of_getElem? (i := 582) (by decide +kernel), by decide +kernel⟩
theorem wd_532 : (Cond.fieldLink "EditorCoreModel" 66 "EditorCoreModel" "event" "[I") ∈ lw_t2 := List.mem_filter.mpr ⟨List.mem_of_getElem? (i := 583) (by decide +kernel), by decide +kernel⟩
theorem wd_533 : (Cond.fieldLink "EditorCoreModel" 196 "EditorCoreModel" "events" "I") ∈ lw_t2 := List.mem_filter.mpr ⟨List.mem_of_getElem? (i := 584) (by decide +kernel), by decide +kernel⟩
theorem wd_534 : (Cond.fieldLink "EditorCoreModel" 192 "EditorCoreModel" "recorded" "Z") ∈ lw_t2 := List.mem_filter.mpr ⟨List.mem_of_getElem? (i := 585) (by decide +kernel), by decide +kernel⟩
theorem wd_535 : (Cond.fieldLink "EditorCoreModel" 69 "EditorCoreModel" "columns" "I") ∈ lw_t2 := List.mem_filter.mpr ⟨List.mem_of_getElem? (i := 586) (by decide +kernel), by decide +kernel⟩
theorem wd_536 : (Cond.fieldLink "EditorCoreModel" 72 "EditorCoreModel" "rows" "I") ∈ lw_t2 := List.mem_filter.mpr ⟨List.mem_of_getElem? (i := 587) (by decide +kernel), by decide +kernel⟩
theorem wd_537 : (Cond.fieldLink "EditorCoreModel" 214 "EditorCoreModel" "firstRow" "I") ∈ lw_t2 := List.mem_filter.mpr ⟨List.mem_of_getElem? (i := 588) (by decide +kernel), by decide +kernel⟩
theorem wd_538 : (Cond.laysFinal "EditorCoreModel" "EditorCoreModel" "text" "[I") ∈ lw_t2 := List.mem_filter.mpr ⟨List.mem_of_getElem? (i := 589) (by decide +kernel), by decide +kernel⟩
theorem wd_540 : (Cond.laysFinal "EditorCoreModel" "EditorCoreModel" "old" "[I") ∈ lw_t2 := List.mem_filter.mpr ⟨List.mem_of_getElem? (i := 591) (by decide +kernel), by decide +kernel⟩
theorem wd_542 : (Cond.laysFinal "EditorCoreModel" "EditorCoreModel" "fresh" "[I") ∈ lw_t2 := List.mem_filter.mpr ⟨List.mem_of_getElem? (i := 593) (by decide +kernel), by decide +kernel⟩
theorem wd_544 : (Cond.lays "EditorCoreModel" "EditorCoreModel" "length" "I") ∈ lw_t2 := List.mem_filter.mpr ⟨List.mem_of_getElem? (i := 595) (by decide +kernel), by decide +kernel⟩
theorem wd_546 : (Cond.lays "EditorCoreModel" "EditorCoreModel" "freshLength" "I") ∈ lw_t2 := List.mem_filter.mpr ⟨List.mem_of_getElem? (i := 597) (by decide +kernel), by decide +kernel⟩
theorem wd_548 : (Cond.lays "EditorCoreModel" "EditorCoreModel" "point" "I") ∈ lw_t2 := List.mem_filter.mpr ⟨List.mem_of_getElem? (i := 599) (by decide +kernel), by decide +kernel⟩
theorem wd_550 : (Cond.lays "EditorCoreModel" "EditorCoreModel" "mark" "I") ∈ lw_t2 := List.mem_filter.mpr ⟨List.mem_of_getElem? (i := 601) (by decide +kernel), by decide +kernel⟩
theorem wd_552 : (Cond.lays "EditorCoreModel" "EditorCoreModel" "n" "I") ∈ lw_t2 := List.mem_filter.mpr ⟨List.mem_of_getElem? (i := 603) (by decide +kernel), by decide +kernel⟩
theorem wd_554 : (Cond.lays "EditorCoreModel" "EditorCoreModel" "last" "I") ∈ lw_t2 := List.mem_filter.mpr ⟨List.mem_of_getElem? (i := 605) (by decide +kernel), by decide +kernel⟩
theorem wd_556 : (Cond.lays "EditorCoreModel" "EditorCoreModel" "goal" "I") ∈ lw_t2 := List.mem_filter.mpr ⟨List.mem_of_getElem? (i := 607) (by decide +kernel), by decide +kernel⟩
theorem wd_558 : (Cond.laysFinal "EditorCoreModel" "EditorCoreModel" "marker" "[I") ∈ lw_t2 := List.mem_filter.mpr ⟨List.mem_of_getElem? (i := 609) (by decide +kernel), by decide +kernel⟩
theorem wd_560 : (Cond.laysFinal "EditorCoreModel" "EditorCoreModel" "following" "[Z") ∈ lw_t2 := List.mem_filter.mpr ⟨List.mem_of_getElem? (i := 611) (by decide +kernel), by decide +kernel⟩
theorem wd_562 : (Cond.laysFinal "EditorCoreModel" "EditorCoreModel" "kill" "[I") ∈ lw_t2 := List.mem_filter.mpr ⟨List.mem_of_getElem? (i := 613) (by decide +kernel), by decide +kernel⟩
theorem wd_564 : (Cond.laysFinal "EditorCoreModel" "EditorCoreModel" "killLength" "[I") ∈ lw_t2 := List.mem_filter.mpr ⟨List.mem_of_getElem? (i := 615) (by decide +kernel), by decide +kernel⟩
theorem wd_566 : (Cond.lays "EditorCoreModel" "EditorCoreModel" "kills" "I") ∈ lw_t2 := List.mem_filter.mpr ⟨List.mem_of_getElem? (i := 617) (by decide +kernel), by decide +kernel⟩
theorem wd_568 : (Cond.lays "EditorCoreModel" "EditorCoreModel" "yankAt" "I") ∈ lw_t2 := List.mem_filter.mpr ⟨List.mem_of_getElem? (i := 619) (by decide +kernel), by decide +kernel⟩
theorem wd_570 : (Cond.lays "EditorCoreModel" "EditorCoreModel" "yankLength" "I") ∈ lw_t2 := List.mem_filter.mpr ⟨List.mem_of_getElem? (i := 621) (by decide +kernel), by decide +kernel⟩
theorem wd_572 : (Cond.lays "EditorCoreModel" "EditorCoreModel" "yankKill" "I") ∈ lw_t2 := List.mem_filter.mpr ⟨List.mem_of_getElem? (i := 623) (by decide +kernel), by decide +kernel⟩
theorem wd_574 : (Cond.laysFinal "EditorCoreModel" "EditorCoreModel" "before" "[I") ∈ lw_t2 := List.mem_filter.mpr ⟨List.mem_of_getElem? (i := 625) (by decide +kernel), by decide +kernel⟩
theorem wd_576 : (Cond.laysFinal "EditorCoreModel" "EditorCoreModel" "beforeLength" "[I") ∈ lw_t2 := List.mem_filter.mpr ⟨List.mem_of_getElem? (i := 627) (by decide +kernel), by decide +kernel⟩
theorem wd_578 : (Cond.laysFinal "EditorCoreModel" "EditorCoreModel" "stepAt" "[I") ∈ lw_t2 := List.mem_filter.mpr ⟨List.mem_of_getElem? (i := 629) (by decide +kernel), by decide +kernel⟩
theorem wd_580 : (Cond.laysFinal "EditorCoreModel" "EditorCoreModel" "stepTook" "[I") ∈ lw_t2 := List.mem_filter.mpr ⟨List.mem_of_getElem? (i := 631) (by decide +kernel), by decide +kernel⟩
theorem wd_582 : (Cond.laysFinal "EditorCoreModel" "EditorCoreModel" "stepPut" "[I") ∈ lw_t2 := List.mem_filter.mpr ⟨List.mem_of_getElem? (i := 633) (by decide +kernel), by decide +kernel⟩
theorem wd_584 : (Cond.lays "EditorCoreModel" "EditorCoreModel" "steps" "I") ∈ lw_t2 := List.mem_filter.mpr ⟨List.mem_of_getElem? (i := 635) (by decide +kernel), by decide +kernel⟩
theorem wd_586 : (Cond.lays "EditorCoreModel" "EditorCoreModel" "undone" "I") ∈ lw_t2 := List.mem_filter.mpr ⟨List.mem_of_getElem? (i := 637) (by decide +kernel), by decide +kernel⟩
theorem wd_588 : (Cond.laysFinal "EditorCoreModel" "EditorCoreModel" "bound" "[I") ∈ lw_t2 := List.mem_filter.mpr ⟨List.mem_of_getElem? (i := 639) (by decide +kernel), by decide +kernel⟩
theorem wd_590 : (Cond.laysFinal "EditorCoreModel" "EditorCoreModel" "command" "[I") ∈ lw_t2 := List.mem_filter.mpr ⟨List.mem_of_getElem? (i := 641) (by decide +kernel), by decide +kernel⟩
theorem wd_592 : (Cond.lays "EditorCoreModel" "EditorCoreModel" "bindings" "I") ∈ lw_t2 := List.mem_filter.mpr ⟨List.mem_of_getElem? (i := 643) (by decide +kernel), by decide +kernel⟩
theorem wd_594 : (Cond.laysFinal "EditorCoreModel" "EditorCoreModel" "pending" "[I") ∈ lw_t2 := List.mem_filter.mpr ⟨List.mem_of_getElem? (i := 645) (by decide +kernel), by decide +kernel⟩
theorem wd_596 : (Cond.lays "EditorCoreModel" "EditorCoreModel" "pendings" "I") ∈ lw_t2 := List.mem_filter.mpr ⟨List.mem_of_getElem? (i := 647) (by decide +kernel), by decide +kernel⟩
theorem wd_598 : (Cond.laysFinal "EditorCoreModel" "EditorCoreModel" "event" "[I") ∈ lw_t2 := List.mem_filter.mpr ⟨List.mem_of_getElem? (i := 649) (by decide +kernel), by decide +kernel⟩
theorem wd_600 : (Cond.lays "EditorCoreModel" "EditorCoreModel" "events" "I") ∈ lw_t2 := List.mem_filter.mpr ⟨List.mem_of_getElem? (i := 651) (by decide +kernel), by decide +kernel⟩
theorem wd_602 : (Cond.lays "EditorCoreModel" "EditorCoreModel" "recorded" "Z") ∈ lw_t2 := List.mem_filter.mpr ⟨List.mem_of_getElem? (i := 653) (by decide +kernel), by decide +kernel⟩
theorem wd_604 : (Cond.lays "EditorCoreModel" "EditorCoreModel" "columns" "I") ∈ lw_t2 := List.mem_filter.mpr ⟨List.mem_of_getElem? (i := 655) (by decide +kernel), by decide +kernel⟩
theorem wd_606 : (Cond.lays "EditorCoreModel" "EditorCoreModel" "rows" "I") ∈ lw_t2 := List.mem_filter.mpr ⟨List.mem_of_getElem? (i := 657) (by decide +kernel), by decide +kernel⟩
theorem wd_608 : (Cond.lays "EditorCoreModel" "EditorCoreModel" "firstRow" "I") ∈ lw_t2 := List.mem_filter.mpr ⟨List.mem_of_getElem? (i := 659) (by decide +kernel), by decide +kernel⟩
theorem wd_611 : (Cond.methodLink "EditorCoreLaw" 30 ⟨"EditorCoreModel", "bind", "(IIII)I"⟩) ∈ lw_t2 := List.mem_filter.mpr ⟨List.mem_of_getElem? (i := 662) (by decide +kernel), by decide +kernel⟩
theorem wd_612 : (Cond.instanceMethod ⟨"EditorCoreModel", "bind", "(IIII)I"⟩) ∈ lw_t2 := List.mem_filter.mpr ⟨List.mem_of_getElem? (i := 663) (by decide +kernel), by decide +kernel⟩
theorem wd_613 : (Cond.selects "EditorCoreModel" ⟨"EditorCoreModel", "bind", "(IIII)I"⟩ ⟨"EditorCoreModel", "bind", "(IIII)I"⟩) ∈ lw_t2 := List.mem_filter.mpr ⟨List.mem_of_getElem? (i := 664) (by decide +kernel), by decide +kernel⟩
theorem wd_614 : (Cond.code ⟨"EditorCoreModel", "bind", "(IIII)I"⟩ prog_10_method_27_code 9 (some FieldType.int)) ∈ lw_t2 := List.mem_filter.mpr ⟨List.mem_of_getElem? (i := 665) (by decide +kernel), by decide +kernel⟩
theorem wd_615 : (Cond.methodLink "EditorCoreModel" 179 ⟨"EditorCoreModel", "size", "(I)I"⟩) ∈ lw_t2 := List.mem_filter.mpr ⟨List.mem_of_getElem? (i := 666) (by decide +kernel), by decide +kernel⟩
theorem wd_617 : (Cond.instanceMethod ⟨"EditorCoreModel", "size", "(I)I"⟩) ∈ lw_t2 := List.mem_filter.mpr ⟨List.mem_of_getElem? (i := 668) (by decide +kernel), by decide +kernel⟩
theorem wd_618 : (Cond.code ⟨"EditorCoreModel", "size", "(I)I"⟩ prog_10_method_24_code 2 (some FieldType.int)) ∈ lw_t2 := List.mem_filter.mpr ⟨List.mem_of_getElem? (i := 669) (by decide +kernel), by decide +kernel⟩
theorem wd_619 : (Cond.methodLink "EditorCoreModel" 182 ⟨"EditorCoreModel", "begins", "(IIIII)Z"⟩) ∈ lw_t2 := List.mem_filter.mpr ⟨List.mem_of_getElem? (i := 670) (by decide +kernel), by decide +kernel⟩
theorem wd_621 : (Cond.instanceMethod ⟨"EditorCoreModel", "begins", "(IIIII)Z"⟩) ∈ lw_t2 := List.mem_filter.mpr ⟨List.mem_of_getElem? (i := 672) (by decide +kernel), by decide +kernel⟩
theorem wd_622 : (Cond.code ⟨"EditorCoreModel", "begins", "(IIIII)Z"⟩ prog_10_method_26_code 6 (some FieldType.boolean)) ∈ lw_t2 := List.mem_filter.mpr ⟨List.mem_of_getElem? (i := 673) (by decide +kernel), by decide +kernel⟩
theorem wd_623 : (Cond.methodLink "EditorCoreModel" 186 ⟨"EditorCoreModel", "dropBinding", "(I)V"⟩) ∈ lw_t2 := List.mem_filter.mpr ⟨List.mem_of_getElem? (i := 674) (by decide +kernel), by decide +kernel⟩
theorem wd_625 : (Cond.instanceMethod ⟨"EditorCoreModel", "dropBinding", "(I)V"⟩) ∈ lw_t2 := List.mem_filter.mpr ⟨List.mem_of_getElem? (i := 676) (by decide +kernel), by decide +kernel⟩
theorem wd_626 : (Cond.code ⟨"EditorCoreModel", "dropBinding", "(I)V"⟩ prog_10_method_25_code 3 none) ∈ lw_t2 := List.mem_filter.mpr ⟨List.mem_of_getElem? (i := 677) (by decide +kernel), by decide +kernel⟩
theorem wd_627 : (Cond.methodLink "EditorCoreLaw" 17 ⟨"EditorCoreModel", "type", "(I)I"⟩) ∈ lw_t2 := List.mem_filter.mpr ⟨List.mem_of_getElem? (i := 678) (by decide +kernel), by decide +kernel⟩
theorem wd_628 : (Cond.instanceMethod ⟨"EditorCoreModel", "type", "(I)I"⟩) ∈ lw_t2 := List.mem_filter.mpr ⟨List.mem_of_getElem? (i := 679) (by decide +kernel), by decide +kernel⟩
theorem wd_629 : (Cond.selects "EditorCoreModel" ⟨"EditorCoreModel", "type", "(I)I"⟩ ⟨"EditorCoreModel", "type", "(I)I"⟩) ∈ lw_t2 := List.mem_filter.mpr ⟨List.mem_of_getElem? (i := 680) (by decide +kernel), by decide +kernel⟩
theorem wd_630 : (Cond.code ⟨"EditorCoreModel", "type", "(I)I"⟩ prog_10_method_31_code 3 (some FieldType.int)) ∈ lw_t2 := List.mem_filter.mpr ⟨List.mem_of_getElem? (i := 681) (by decide +kernel), by decide +kernel⟩
theorem wd_631 : (Cond.methodLink "EditorCoreModel" 199 ⟨"EditorCoreModel", "insert", "(I)I"⟩) ∈ lw_t2 := List.mem_filter.mpr ⟨List.mem_of_getElem? (i := 682) (by decide +kernel), by decide +kernel⟩
theorem wd_633 : (Cond.instanceMethod ⟨"EditorCoreModel", "insert", "(I)I"⟩) ∈ lw_t2 := List.mem_filter.mpr ⟨List.mem_of_getElem? (i := 684) (by decide +kernel), by decide +kernel⟩
theorem wd_634 : (Cond.code ⟨"EditorCoreModel", "insert", "(I)I"⟩ prog_10_method_7_code 3 (some FieldType.int)) ∈ lw_t2 := List.mem_filter.mpr ⟨List.mem_of_getElem? (i := 685) (by decide +kernel), by decide +kernel⟩
theorem wd_635 : (Cond.methodLink "EditorCoreModel" 92 ⟨"EditorCoreModel", "letter", "(I)Z"⟩) ∈ lw_t2 := List.mem_filter.mpr ⟨List.mem_of_getElem? (i := 686) (by decide +kernel), by decide +kernel⟩
theorem wd_636 : (Cond.static ⟨"EditorCoreModel", "letter", "(I)Z"⟩) ∈ lw_t2 := List.mem_filter.mpr ⟨List.mem_of_getElem? (i := 687) (by decide +kernel), by decide +kernel⟩
theorem wd_637 : (Cond.code ⟨"EditorCoreModel", "letter", "(I)Z"⟩ prog_10_method_2_code 1 (some FieldType.boolean)) ∈ lw_t2 := List.mem_filter.mpr ⟨List.mem_of_getElem? (i := 688) (by decide +kernel), by decide +kernel⟩
theorem wd_638 : (Cond.methodLink "EditorCoreModel" 88 ⟨"EditorCoreModel", "edit", "(II)V"⟩) ∈ lw_t2 := List.mem_filter.mpr ⟨List.mem_of_getElem? (i := 689) (by decide +kernel), by decide +kernel⟩
theorem wd_640 : (Cond.instanceMethod ⟨"EditorCoreModel", "edit", "(II)V"⟩) ∈ lw_t2 := List.mem_filter.mpr ⟨List.mem_of_getElem? (i := 691) (by decide +kernel), by decide +kernel⟩
theorem wd_641 : (Cond.code ⟨"EditorCoreModel", "edit", "(II)V"⟩ prog_10_method_4_code 5 none) ∈ lw_t2 := List.mem_filter.mpr ⟨List.mem_of_getElem? (i := 692) (by decide +kernel), by decide +kernel⟩
theorem wd_642 : (Cond.methodLink "EditorCoreModel" 81 ⟨"EditorCoreModel", "moved", "(IIIIZ)I"⟩) ∈ lw_t2 := List.mem_filter.mpr ⟨List.mem_of_getElem? (i := 693) (by decide +kernel), by decide +kernel⟩
theorem wd_643 : (Cond.static ⟨"EditorCoreModel", "moved", "(IIIIZ)I"⟩) ∈ lw_t2 := List.mem_filter.mpr ⟨List.mem_of_getElem? (i := 694) (by decide +kernel), by decide +kernel⟩
theorem wd_644 : (Cond.code ⟨"EditorCoreModel", "moved", "(IIIIZ)I"⟩ prog_10_method_3_code 5 (some FieldType.int)) ∈ lw_t2 := List.mem_filter.mpr ⟨List.mem_of_getElem? (i := 695) (by decide +kernel), by decide +kernel⟩
theorem wd_645 : (Cond.methodLink "EditorCoreModel" 99 ⟨"EditorCoreModel", "step", "(II)V"⟩) ∈ lw_t2 := List.mem_filter.mpr ⟨List.mem_of_getElem? (i := 696) (by decide +kernel), by decide +kernel⟩
theorem wd_647 : (Cond.instanceMethod ⟨"EditorCoreModel", "step", "(II)V"⟩) ∈ lw_t2 := List.mem_filter.mpr ⟨List.mem_of_getElem? (i := 698) (by decide +kernel), by decide +kernel⟩
theorem wd_648 : (Cond.code ⟨"EditorCoreModel", "step", "(II)V"⟩ prog_10_method_5_code 5 none) ∈ lw_t2 := List.mem_filter.mpr ⟨List.mem_of_getElem? (i := 699) (by decide +kernel), by decide +kernel⟩
theorem wd_649 : (Cond.methodLink "EditorCoreModel" 102 ⟨"EditorCoreModel", "done", "(I)I"⟩) ∈ lw_t2 := List.mem_filter.mpr ⟨List.mem_of_getElem? (i := 700) (by decide +kernel), by decide +kernel⟩
theorem wd_651 : (Cond.instanceMethod ⟨"EditorCoreModel", "done", "(I)I"⟩) ∈ lw_t2 := List.mem_filter.mpr ⟨List.mem_of_getElem? (i := 702) (by decide +kernel), by decide +kernel⟩
theorem wd_652 : (Cond.code ⟨"EditorCoreModel", "done", "(I)I"⟩ prog_10_method_6_code 2 (some FieldType.int)) ∈ lw_t2 := List.mem_filter.mpr ⟨List.mem_of_getElem? (i := 703) (by decide +kernel), by decide +kernel⟩
theorem wd_653 : (Cond.methodLink "EditorCoreModel" 208 ⟨"EditorCoreModel", "jot", "(I)V"⟩) ∈ lw_t2 := List.mem_filter.mpr ⟨List.mem_of_getElem? (i := 704) (by decide +kernel), by decide +kernel⟩
theorem wd_655 : (Cond.instanceMethod ⟨"EditorCoreModel", "jot", "(I)V"⟩) ∈ lw_t2 := List.mem_filter.mpr ⟨List.mem_of_getElem? (i := 706) (by decide +kernel), by decide +kernel⟩
theorem wd_656 : (Cond.code ⟨"EditorCoreModel", "jot", "(I)V"⟩ prog_10_method_30_code 2 none) ∈ lw_t2 := List.mem_filter.mpr ⟨List.mem_of_getElem? (i := 707) (by decide +kernel), by decide +kernel⟩
theorem wd_657 : (Cond.methodLink "EditorCoreLaw" 21 ⟨"EditorCoreModel", "command", "(I)I"⟩) ∈ lw_t2 := List.mem_filter.mpr ⟨List.mem_of_getElem? (i := 708) (by decide +kernel), by decide +kernel⟩
theorem wd_658 : (Cond.instanceMethod ⟨"EditorCoreModel", "command", "(I)I"⟩) ∈ lw_t2 := List.mem_filter.mpr ⟨List.mem_of_getElem? (i := 709) (by decide +kernel), by decide +kernel⟩
theorem wd_659 : (Cond.selects "EditorCoreModel" ⟨"EditorCoreModel", "command", "(I)I"⟩ ⟨"EditorCoreModel", "command", "(I)I"⟩) ∈ lw_t2 := List.mem_filter.mpr ⟨List.mem_of_getElem? (i := 710) (by decide +kernel), by decide +kernel⟩
theorem wd_660 : (Cond.code ⟨"EditorCoreModel", "command", "(I)I"⟩ prog_10_method_32_code 2 (some FieldType.int)) ∈ lw_t2 := List.mem_filter.mpr ⟨List.mem_of_getElem? (i := 711) (by decide +kernel), by decide +kernel⟩
theorem wd_661 : (Cond.methodLink "EditorCoreModel" 211 ⟨"EditorCoreModel", "play", "()I"⟩) ∈ lw_t2 := List.mem_filter.mpr ⟨List.mem_of_getElem? (i := 712) (by decide +kernel), by decide +kernel⟩
theorem wd_663 : (Cond.instanceMethod ⟨"EditorCoreModel", "play", "()I"⟩) ∈ lw_t2 := List.mem_filter.mpr ⟨List.mem_of_getElem? (i := 714) (by decide +kernel), by decide +kernel⟩
theorem wd_664 : (Cond.code ⟨"EditorCoreModel", "play", "()I"⟩ prog_10_method_29_code 6 (some FieldType.int)) ∈ lw_t2 := List.mem_filter.mpr ⟨List.mem_of_getElem? (i := 715) (by decide +kernel), by decide +kernel⟩
theorem wd_665 : (Cond.methodLink "EditorCoreModel" 202 ⟨"EditorCoreModel", "resolve", "(I)I"⟩) ∈ lw_t2 := List.mem_filter.mpr ⟨List.mem_of_getElem? (i := 716) (by decide +kernel), by decide +kernel⟩
theorem wd_667 : (Cond.instanceMethod ⟨"EditorCoreModel", "resolve", "(I)I"⟩) ∈ lw_t2 := List.mem_filter.mpr ⟨List.mem_of_getElem? (i := 718) (by decide +kernel), by decide +kernel⟩
theorem wd_668 : (Cond.code ⟨"EditorCoreModel", "resolve", "(I)I"⟩ prog_10_method_28_code 4 (some FieldType.int)) ∈ lw_t2 := List.mem_filter.mpr ⟨List.mem_of_getElem? (i := 719) (by decide +kernel), by decide +kernel⟩
theorem wd_669 : (Cond.methodLink "EditorCoreModel" 205 ⟨"EditorCoreModel", "perform", "(I)I"⟩) ∈ lw_t2 := List.mem_filter.mpr ⟨List.mem_of_getElem? (i := 720) (by decide +kernel), by decide +kernel⟩
theorem wd_671 : (Cond.instanceMethod ⟨"EditorCoreModel", "perform", "(I)I"⟩) ∈ lw_t2 := List.mem_filter.mpr ⟨List.mem_of_getElem? (i := 722) (by decide +kernel), by decide +kernel⟩
theorem wd_672 : (Cond.code ⟨"EditorCoreModel", "perform", "(I)I"⟩ prog_10_method_23_code 3 (some FieldType.int)) ∈ lw_t2 := List.mem_filter.mpr ⟨List.mem_of_getElem? (i := 723) (by decide +kernel), by decide +kernel⟩
theorem wd_673 : (Cond.methodLink "EditorCoreModel" 173 ⟨"EditorCoreModel", "work", "(I)I"⟩) ∈ lw_t2 := List.mem_filter.mpr ⟨List.mem_of_getElem? (i := 724) (by decide +kernel), by decide +kernel⟩
theorem wd_675 : (Cond.instanceMethod ⟨"EditorCoreModel", "work", "(I)I"⟩) ∈ lw_t2 := List.mem_filter.mpr ⟨List.mem_of_getElem? (i := 726) (by decide +kernel), by decide +kernel⟩
theorem wd_676 : (Cond.code ⟨"EditorCoreModel", "work", "(I)I"⟩ prog_10_method_22_code 2 (some FieldType.int)) ∈ lw_t2 := List.mem_filter.mpr ⟨List.mem_of_getElem? (i := 727) (by decide +kernel), by decide +kernel⟩
theorem wd_677 : (Cond.methodLink "EditorCoreModel" 122 ⟨"EditorCoreModel", "erase", "(II)I"⟩) ∈ lw_t2 := List.mem_filter.mpr ⟨List.mem_of_getElem? (i := 728) (by decide +kernel), by decide +kernel⟩
theorem wd_679 : (Cond.instanceMethod ⟨"EditorCoreModel", "erase", "(II)I"⟩) ∈ lw_t2 := List.mem_filter.mpr ⟨List.mem_of_getElem? (i := 730) (by decide +kernel), by decide +kernel⟩
theorem wd_680 : (Cond.code ⟨"EditorCoreModel", "erase", "(II)I"⟩ prog_10_method_12_code 3 (some FieldType.int)) ∈ lw_t2 := List.mem_filter.mpr ⟨List.mem_of_getElem? (i := 731) (by decide +kernel), by decide +kernel⟩
theorem wd_681 : (Cond.methodLink "EditorCoreModel" 146 ⟨"EditorCoreModel", "killLine", "()I"⟩) ∈ lw_t2 := List.mem_filter.mpr ⟨List.mem_of_getElem? (i := 732) (by decide +kernel), by decide +kernel⟩
theorem wd_683 : (Cond.instanceMethod ⟨"EditorCoreModel", "killLine", "()I"⟩) ∈ lw_t2 := List.mem_filter.mpr ⟨List.mem_of_getElem? (i := 734) (by decide +kernel), by decide +kernel⟩
theorem wd_684 : (Cond.code ⟨"EditorCoreModel", "killLine", "()I"⟩ prog_10_method_14_code 3 (some FieldType.int)) ∈ lw_t2 := List.mem_filter.mpr ⟨List.mem_of_getElem? (i := 735) (by decide +kernel), by decide +kernel⟩
theorem wd_685 : (Cond.methodLink "EditorCoreModel" 112 ⟨"EditorCoreModel", "lineEnd", "(I)I"⟩) ∈ lw_t2 := List.mem_filter.mpr ⟨List.mem_of_getElem? (i := 736) (by decide +kernel), by decide +kernel⟩
theorem wd_687 : (Cond.instanceMethod ⟨"EditorCoreModel", "lineEnd", "(I)I"⟩) ∈ lw_t2 := List.mem_filter.mpr ⟨List.mem_of_getElem? (i := 738) (by decide +kernel), by decide +kernel⟩
theorem wd_688 : (Cond.code ⟨"EditorCoreModel", "lineEnd", "(I)I"⟩ prog_10_method_9_code 3 (some FieldType.int)) ∈ lw_t2 := List.mem_filter.mpr ⟨List.mem_of_getElem? (i := 739) (by decide +kernel), by decide +kernel⟩
theorem wd_689 : (Cond.methodLink "EditorCoreModel" 118 ⟨"EditorCoreModel", "keep", "(IIZ)V"⟩) ∈ lw_t2 := List.mem_filter.mpr ⟨List.mem_of_getElem? (i := 740) (by decide +kernel), by decide +kernel⟩
theorem wd_691 : (Cond.instanceMethod ⟨"EditorCoreModel", "keep", "(IIZ)V"⟩) ∈ lw_t2 := List.mem_filter.mpr ⟨List.mem_of_getElem? (i := 742) (by decide +kernel), by decide +kernel⟩
theorem wd_692 : (Cond.code ⟨"EditorCoreModel", "keep", "(IIZ)V"⟩ prog_10_method_13_code 6 none) ∈ lw_t2 := List.mem_filter.mpr ⟨List.mem_of_getElem? (i := 743) (by decide +kernel), by decide +kernel⟩
theorem wd_693 : (Cond.methodLink "EditorCoreModel" 150 ⟨"EditorCoreModel", "killRegion", "(Z)I"⟩) ∈ lw_t2 := List.mem_filter.mpr ⟨List.mem_of_getElem? (i := 744) (by decide +kernel), by decide +kernel⟩
theorem wd_695 : (Cond.instanceMethod ⟨"EditorCoreModel", "killRegion", "(Z)I"⟩) ∈ lw_t2 := List.mem_filter.mpr ⟨List.mem_of_getElem? (i := 746) (by decide +kernel), by decide +kernel⟩
theorem wd_696 : (Cond.code ⟨"EditorCoreModel", "killRegion", "(Z)I"⟩ prog_10_method_15_code 4 (some FieldType.int)) ∈ lw_t2 := List.mem_filter.mpr ⟨List.mem_of_getElem? (i := 747) (by decide +kernel), by decide +kernel⟩
theorem wd_697 : (Cond.methodLink "EditorCoreModel" 154 ⟨"EditorCoreModel", "yank", "(III)I"⟩) ∈ lw_t2 := List.mem_filter.mpr ⟨List.mem_of_getElem? (i := 748) (by decide +kernel), by decide +kernel⟩
theorem wd_699 : (Cond.instanceMethod ⟨"EditorCoreModel", "yank", "(III)I"⟩) ∈ lw_t2 := List.mem_filter.mpr ⟨List.mem_of_getElem? (i := 750) (by decide +kernel), by decide +kernel⟩
theorem wd_700 : (Cond.code ⟨"EditorCoreModel", "yank", "(III)I"⟩ prog_10_method_16_code 5 (some FieldType.int)) ∈ lw_t2 := List.mem_filter.mpr ⟨List.mem_of_getElem? (i := 751) (by decide +kernel), by decide +kernel⟩
theorem wd_701 : (Cond.methodLink "EditorCoreModel" 158 ⟨"EditorCoreModel", "exchange", "()I"⟩) ∈ lw_t2 := List.mem_filter.mpr ⟨List.mem_of_getElem? (i := 752) (by decide +kernel), by decide +kernel⟩
theorem wd_703 : (Cond.instanceMethod ⟨"EditorCoreModel", "exchange", "()I"⟩) ∈ lw_t2 := List.mem_filter.mpr ⟨List.mem_of_getElem? (i := 754) (by decide +kernel), by decide +kernel⟩
theorem wd_704 : (Cond.code ⟨"EditorCoreModel", "exchange", "()I"⟩ prog_10_method_20_code 2 (some FieldType.int)) ∈ lw_t2 := List.mem_filter.mpr ⟨List.mem_of_getElem? (i := 755) (by decide +kernel), by decide +kernel⟩
theorem wd_705 : (Cond.methodLink "EditorCoreModel" 161 ⟨"EditorCoreModel", "swap", "()I"⟩) ∈ lw_t2 := List.mem_filter.mpr ⟨List.mem_of_getElem? (i := 756) (by decide +kernel), by decide +kernel⟩
theorem wd_707 : (Cond.instanceMethod ⟨"EditorCoreModel", "swap", "()I"⟩) ∈ lw_t2 := List.mem_filter.mpr ⟨List.mem_of_getElem? (i := 758) (by decide +kernel), by decide +kernel⟩
theorem wd_708 : (Cond.code ⟨"EditorCoreModel", "swap", "()I"⟩ prog_10_method_17_code 2 (some FieldType.int)) ∈ lw_t2 := List.mem_filter.mpr ⟨List.mem_of_getElem? (i := 759) (by decide +kernel), by decide +kernel⟩
theorem wd_709 : (Cond.methodLink "EditorCoreModel" 164 ⟨"EditorCoreModel", "undo", "()I"⟩) ∈ lw_t2 := List.mem_filter.mpr ⟨List.mem_of_getElem? (i := 760) (by decide +kernel), by decide +kernel⟩
theorem wd_711 : (Cond.instanceMethod ⟨"EditorCoreModel", "undo", "()I"⟩) ∈ lw_t2 := List.mem_filter.mpr ⟨List.mem_of_getElem? (i := 762) (by decide +kernel), by decide +kernel⟩
theorem wd_712 : (Cond.code ⟨"EditorCoreModel", "undo", "()I"⟩ prog_10_method_18_code 5 (some FieldType.int)) ∈ lw_t2 := List.mem_filter.mpr ⟨List.mem_of_getElem? (i := 763) (by decide +kernel), by decide +kernel⟩
theorem wd_713 : (Cond.methodLink "EditorCoreModel" 167 ⟨"EditorCoreModel", "search", "()I"⟩) ∈ lw_t2 := List.mem_filter.mpr ⟨List.mem_of_getElem? (i := 764) (by decide +kernel), by decide +kernel⟩
theorem wd_715 : (Cond.instanceMethod ⟨"EditorCoreModel", "search", "()I"⟩) ∈ lw_t2 := List.mem_filter.mpr ⟨List.mem_of_getElem? (i := 766) (by decide +kernel), by decide +kernel⟩
theorem wd_716 : (Cond.code ⟨"EditorCoreModel", "search", "()I"⟩ prog_10_method_19_code 4 (some FieldType.int)) ∈ lw_t2 := List.mem_filter.mpr ⟨List.mem_of_getElem? (i := 767) (by decide +kernel), by decide +kernel⟩
theorem wd_717 : (Cond.methodLink "EditorCoreModel" 170 ⟨"EditorCoreModel", "move", "(I)I"⟩) ∈ lw_t2 := List.mem_filter.mpr ⟨List.mem_of_getElem? (i := 768) (by decide +kernel), by decide +kernel⟩
theorem wd_719 : (Cond.instanceMethod ⟨"EditorCoreModel", "move", "(I)I"⟩) ∈ lw_t2 := List.mem_filter.mpr ⟨List.mem_of_getElem? (i := 770) (by decide +kernel), by decide +kernel⟩
theorem wd_720 : (Cond.code ⟨"EditorCoreModel", "move", "(I)I"⟩ prog_10_method_21_code 2 (some FieldType.int)) ∈ lw_t2 := List.mem_filter.mpr ⟨List.mem_of_getElem? (i := 771) (by decide +kernel), by decide +kernel⟩
theorem wd_721 : (Cond.methodLink "EditorCoreModel" 138 ⟨"EditorCoreModel", "vertical", "(I)V"⟩) ∈ lw_t2 := List.mem_filter.mpr ⟨List.mem_of_getElem? (i := 772) (by decide +kernel), by decide +kernel⟩
theorem wd_723 : (Cond.instanceMethod ⟨"EditorCoreModel", "vertical", "(I)V"⟩) ∈ lw_t2 := List.mem_filter.mpr ⟨List.mem_of_getElem? (i := 774) (by decide +kernel), by decide +kernel⟩
theorem wd_724 : (Cond.code ⟨"EditorCoreModel", "vertical", "(I)V"⟩ prog_10_method_10_code 5 none) ∈ lw_t2 := List.mem_filter.mpr ⟨List.mem_of_getElem? (i := 775) (by decide +kernel), by decide +kernel⟩
theorem wd_725 : (Cond.methodLink "EditorCoreModel" 106 ⟨"EditorCoreModel", "lineStart", "(I)I"⟩) ∈ lw_t2 := List.mem_filter.mpr ⟨List.mem_of_getElem? (i := 776) (by decide +kernel), by decide +kernel⟩
theorem wd_727 : (Cond.instanceMethod ⟨"EditorCoreModel", "lineStart", "(I)I"⟩) ∈ lw_t2 := List.mem_filter.mpr ⟨List.mem_of_getElem? (i := 778) (by decide +kernel), by decide +kernel⟩
theorem wd_728 : (Cond.code ⟨"EditorCoreModel", "lineStart", "(I)I"⟩ prog_10_method_8_code 3 (some FieldType.int)) ∈ lw_t2 := List.mem_filter.mpr ⟨List.mem_of_getElem? (i := 779) (by decide +kernel), by decide +kernel⟩
theorem wd_729 : (Cond.methodLink "EditorCoreModel" 142 ⟨"EditorCoreModel", "words", "(Z)V"⟩) ∈ lw_t2 := List.mem_filter.mpr ⟨List.mem_of_getElem? (i := 780) (by decide +kernel), by decide +kernel⟩
theorem wd_731 : (Cond.instanceMethod ⟨"EditorCoreModel", "words", "(Z)V"⟩) ∈ lw_t2 := List.mem_filter.mpr ⟨List.mem_of_getElem? (i := 782) (by decide +kernel), by decide +kernel⟩
theorem wd_732 : (Cond.code ⟨"EditorCoreModel", "words", "(Z)V"⟩ prog_10_method_11_code 3 none) ∈ lw_t2 := List.mem_filter.mpr ⟨List.mem_of_getElem? (i := 783) (by decide +kernel), by decide +kernel⟩
theorem wd_733 : (Cond.methodLink "EditorCoreLaw" 25 ⟨"EditorCoreModel", "argument", "(I)I"⟩) ∈ lw_t2 := List.mem_filter.mpr ⟨List.mem_of_getElem? (i := 784) (by decide +kernel), by decide +kernel⟩
theorem wd_734 : (Cond.instanceMethod ⟨"EditorCoreModel", "argument", "(I)I"⟩) ∈ lw_t2 := List.mem_filter.mpr ⟨List.mem_of_getElem? (i := 785) (by decide +kernel), by decide +kernel⟩
theorem wd_735 : (Cond.selects "EditorCoreModel" ⟨"EditorCoreModel", "argument", "(I)I"⟩ ⟨"EditorCoreModel", "argument", "(I)I"⟩) ∈ lw_t2 := List.mem_filter.mpr ⟨List.mem_of_getElem? (i := 786) (by decide +kernel), by decide +kernel⟩
theorem wd_736 : (Cond.code ⟨"EditorCoreModel", "argument", "(I)I"⟩ prog_10_method_33_code 2 (some FieldType.int)) ∈ lw_t2 := List.mem_filter.mpr ⟨List.mem_of_getElem? (i := 787) (by decide +kernel), by decide +kernel⟩
theorem wd_737 : (Cond.methodLink "EditorCoreLaw" 34 ⟨"EditorCoreModel", "press", "(I)I"⟩) ∈ lw_t2 := List.mem_filter.mpr ⟨List.mem_of_getElem? (i := 788) (by decide +kernel), by decide +kernel⟩
theorem wd_738 : (Cond.instanceMethod ⟨"EditorCoreModel", "press", "(I)I"⟩) ∈ lw_t2 := List.mem_filter.mpr ⟨List.mem_of_getElem? (i := 789) (by decide +kernel), by decide +kernel⟩
theorem wd_739 : (Cond.selects "EditorCoreModel" ⟨"EditorCoreModel", "press", "(I)I"⟩ ⟨"EditorCoreModel", "press", "(I)I"⟩) ∈ lw_t2 := List.mem_filter.mpr ⟨List.mem_of_getElem? (i := 790) (by decide +kernel), by decide +kernel⟩
theorem wd_740 : (Cond.code ⟨"EditorCoreModel", "press", "(I)I"⟩ prog_10_method_34_code 3 (some FieldType.int)) ∈ lw_t2 := List.mem_filter.mpr ⟨List.mem_of_getElem? (i := 791) (by decide +kernel), by decide +kernel⟩
theorem wd_741 : (Cond.methodLink "EditorCoreLaw" 39 ⟨"EditorCoreModel", "macro", "(Z)I"⟩) ∈ lw_t2 := List.mem_filter.mpr ⟨List.mem_of_getElem? (i := 792) (by decide +kernel), by decide +kernel⟩
theorem wd_742 : (Cond.instanceMethod ⟨"EditorCoreModel", "macro", "(Z)I"⟩) ∈ lw_t2 := List.mem_filter.mpr ⟨List.mem_of_getElem? (i := 793) (by decide +kernel), by decide +kernel⟩
theorem wd_743 : (Cond.selects "EditorCoreModel" ⟨"EditorCoreModel", "macro", "(Z)I"⟩ ⟨"EditorCoreModel", "macro", "(Z)I"⟩) ∈ lw_t2 := List.mem_filter.mpr ⟨List.mem_of_getElem? (i := 794) (by decide +kernel), by decide +kernel⟩
theorem wd_744 : (Cond.code ⟨"EditorCoreModel", "macro", "(Z)I"⟩ prog_10_method_35_code 2 (some FieldType.int)) ∈ lw_t2 := List.mem_filter.mpr ⟨List.mem_of_getElem? (i := 795) (by decide +kernel), by decide +kernel⟩
theorem wd_745 : (Cond.methodLink "EditorCoreLaw" 44 ⟨"EditorCoreModel", "marker", "(IZ)I"⟩) ∈ lw_t2 := List.mem_filter.mpr ⟨List.mem_of_getElem? (i := 796) (by decide +kernel), by decide +kernel⟩
theorem wd_746 : (Cond.instanceMethod ⟨"EditorCoreModel", "marker", "(IZ)I"⟩) ∈ lw_t2 := List.mem_filter.mpr ⟨List.mem_of_getElem? (i := 797) (by decide +kernel), by decide +kernel⟩
theorem wd_747 : (Cond.selects "EditorCoreModel" ⟨"EditorCoreModel", "marker", "(IZ)I"⟩ ⟨"EditorCoreModel", "marker", "(IZ)I"⟩) ∈ lw_t2 := List.mem_filter.mpr ⟨List.mem_of_getElem? (i := 798) (by decide +kernel), by decide +kernel⟩
theorem wd_748 : (Cond.code ⟨"EditorCoreModel", "marker", "(IZ)I"⟩ prog_10_method_36_code 3 (some FieldType.int)) ∈ lw_t2 := List.mem_filter.mpr ⟨List.mem_of_getElem? (i := 799) (by decide +kernel), by decide +kernel⟩
theorem wd_749 : (Cond.methodLink "EditorCoreLaw" 49 ⟨"EditorCoreModel", "frame", "(II)I"⟩) ∈ lw_t2 := List.mem_filter.mpr ⟨List.mem_of_getElem? (i := 800) (by decide +kernel), by decide +kernel⟩
theorem wd_750 : (Cond.instanceMethod ⟨"EditorCoreModel", "frame", "(II)I"⟩) ∈ lw_t2 := List.mem_filter.mpr ⟨List.mem_of_getElem? (i := 801) (by decide +kernel), by decide +kernel⟩
theorem wd_751 : (Cond.selects "EditorCoreModel" ⟨"EditorCoreModel", "frame", "(II)I"⟩ ⟨"EditorCoreModel", "frame", "(II)I"⟩) ∈ lw_t2 := List.mem_filter.mpr ⟨List.mem_of_getElem? (i := 802) (by decide +kernel), by decide +kernel⟩
theorem wd_752 : (Cond.code ⟨"EditorCoreModel", "frame", "(II)I"⟩ prog_10_method_37_code 3 (some FieldType.int)) ∈ lw_t2 := List.mem_filter.mpr ⟨List.mem_of_getElem? (i := 803) (by decide +kernel), by decide +kernel⟩
theorem wd_753 : (Cond.methodLink "EditorCoreLaw" 65 ⟨"EditorCoreModel", "cell", "(II)I"⟩) ∈ lw_t2 := List.mem_filter.mpr ⟨List.mem_of_getElem? (i := 804) (by decide +kernel), by decide +kernel⟩
theorem wd_754 : (Cond.instanceMethod ⟨"EditorCoreModel", "cell", "(II)I"⟩) ∈ lw_t2 := List.mem_filter.mpr ⟨List.mem_of_getElem? (i := 805) (by decide +kernel), by decide +kernel⟩
theorem wd_755 : (Cond.selects "EditorCoreModel" ⟨"EditorCoreModel", "cell", "(II)I"⟩ ⟨"EditorCoreModel", "cell", "(II)I"⟩) ∈ lw_t2 := List.mem_filter.mpr ⟨List.mem_of_getElem? (i := 806) (by decide +kernel), by decide +kernel⟩
theorem wd_756 : (Cond.code ⟨"EditorCoreModel", "cell", "(II)I"⟩ prog_10_method_41_code 7 (some FieldType.int)) ∈ lw_t2 := List.mem_filter.mpr ⟨List.mem_of_getElem? (i := 807) (by decide +kernel), by decide +kernel⟩
theorem wd_757 : (Cond.methodLink "EditorCoreModel" 223 ⟨"EditorCoreModel", "show", "()V"⟩) ∈ lw_t2 := List.mem_filter.mpr ⟨List.mem_of_getElem? (i := 808) (by decide +kernel), by decide +kernel⟩
theorem wd_759 : (Cond.instanceMethod ⟨"EditorCoreModel", "show", "()V"⟩) ∈ lw_t2 := List.mem_filter.mpr ⟨List.mem_of_getElem? (i := 810) (by decide +kernel), by decide +kernel⟩
theorem wd_760 : (Cond.code ⟨"EditorCoreModel", "show", "()V"⟩ prog_10_method_40_code 2 none) ∈ lw_t2 := List.mem_filter.mpr ⟨List.mem_of_getElem? (i := 811) (by decide +kernel), by decide +kernel⟩
theorem wd_761 : (Cond.methodLink "EditorCoreModel" 220 ⟨"EditorCoreModel", "pointRow", "()I"⟩) ∈ lw_t2 := List.mem_filter.mpr ⟨List.mem_of_getElem? (i := 812) (by decide +kernel), by decide +kernel⟩
theorem wd_763 : (Cond.instanceMethod ⟨"EditorCoreModel", "pointRow", "()I"⟩) ∈ lw_t2 := List.mem_filter.mpr ⟨List.mem_of_getElem? (i := 814) (by decide +kernel), by decide +kernel⟩
theorem wd_764 : (Cond.code ⟨"EditorCoreModel", "pointRow", "()I"⟩ prog_10_method_39_code 2 (some FieldType.int)) ∈ lw_t2 := List.mem_filter.mpr ⟨List.mem_of_getElem? (i := 815) (by decide +kernel), by decide +kernel⟩
theorem wd_765 : (Cond.methodLink "EditorCoreModel" 217 ⟨"EditorCoreModel", "rowsBefore", "(I)I"⟩) ∈ lw_t2 := List.mem_filter.mpr ⟨List.mem_of_getElem? (i := 816) (by decide +kernel), by decide +kernel⟩
theorem wd_767 : (Cond.instanceMethod ⟨"EditorCoreModel", "rowsBefore", "(I)I"⟩) ∈ lw_t2 := List.mem_filter.mpr ⟨List.mem_of_getElem? (i := 818) (by decide +kernel), by decide +kernel⟩
theorem wd_768 : (Cond.code ⟨"EditorCoreModel", "rowsBefore", "(I)I"⟩ prog_10_method_38_code 4 (some FieldType.int)) ∈ lw_t2 := List.mem_filter.mpr ⟨List.mem_of_getElem? (i := 819) (by decide +kernel), by decide +kernel⟩
theorem wd_769 : (Cond.methodLink "EditorCoreLaw" 53 ⟨"EditorCoreModel", "character", "(I)I"⟩) ∈ lw_t2 := List.mem_filter.mpr ⟨List.mem_of_getElem? (i := 820) (by decide +kernel), by decide +kernel⟩
theorem wd_770 : (Cond.instanceMethod ⟨"EditorCoreModel", "character", "(I)I"⟩) ∈ lw_t2 := List.mem_filter.mpr ⟨List.mem_of_getElem? (i := 821) (by decide +kernel), by decide +kernel⟩
theorem wd_771 : (Cond.selects "EditorCoreModel" ⟨"EditorCoreModel", "character", "(I)I"⟩ ⟨"EditorCoreModel", "character", "(I)I"⟩) ∈ lw_t2 := List.mem_filter.mpr ⟨List.mem_of_getElem? (i := 822) (by decide +kernel), by decide +kernel⟩
theorem wd_772 : (Cond.code ⟨"EditorCoreModel", "character", "(I)I"⟩ prog_10_method_42_code 2 (some FieldType.int)) ∈ lw_t2 := List.mem_filter.mpr ⟨List.mem_of_getElem? (i := 823) (by decide +kernel), by decide +kernel⟩
theorem wd_773 : (Cond.methodLink "EditorCoreLaw" 57 ⟨"EditorCoreModel", "markerAt", "(I)I"⟩) ∈ lw_t2 := List.mem_filter.mpr ⟨List.mem_of_getElem? (i := 824) (by decide +kernel), by decide +kernel⟩
theorem wd_774 : (Cond.instanceMethod ⟨"EditorCoreModel", "markerAt", "(I)I"⟩) ∈ lw_t2 := List.mem_filter.mpr ⟨List.mem_of_getElem? (i := 825) (by decide +kernel), by decide +kernel⟩
theorem wd_775 : (Cond.selects "EditorCoreModel" ⟨"EditorCoreModel", "markerAt", "(I)I"⟩ ⟨"EditorCoreModel", "markerAt", "(I)I"⟩) ∈ lw_t2 := List.mem_filter.mpr ⟨List.mem_of_getElem? (i := 826) (by decide +kernel), by decide +kernel⟩
theorem wd_776 : (Cond.code ⟨"EditorCoreModel", "markerAt", "(I)I"⟩ prog_10_method_43_code 2 (some FieldType.int)) ∈ lw_t2 := List.mem_filter.mpr ⟨List.mem_of_getElem? (i := 827) (by decide +kernel), by decide +kernel⟩
theorem wd_777 : (Cond.methodLink "EditorCoreLaw" 61 ⟨"EditorCoreModel", "killed", "(II)I"⟩) ∈ lw_t2 := List.mem_filter.mpr ⟨List.mem_of_getElem? (i := 828) (by decide +kernel), by decide +kernel⟩
theorem wd_778 : (Cond.instanceMethod ⟨"EditorCoreModel", "killed", "(II)I"⟩) ∈ lw_t2 := List.mem_filter.mpr ⟨List.mem_of_getElem? (i := 829) (by decide +kernel), by decide +kernel⟩
theorem wd_779 : (Cond.selects "EditorCoreModel" ⟨"EditorCoreModel", "killed", "(II)I"⟩ ⟨"EditorCoreModel", "killed", "(II)I"⟩) ∈ lw_t2 := List.mem_filter.mpr ⟨List.mem_of_getElem? (i := 830) (by decide +kernel), by decide +kernel⟩
theorem wd_780 : (Cond.code ⟨"EditorCoreModel", "killed", "(II)I"⟩ prog_10_method_44_code 3 (some FieldType.int)) ∈ lw_t2 := List.mem_filter.mpr ⟨List.mem_of_getElem? (i := 831) (by decide +kernel), by decide +kernel⟩
theorem wd_781 : (Cond.methodLink "EditorCoreLaw" 69 ⟨"EditorCoreModel", "info", "(I)I"⟩) ∈ lw_t2 := List.mem_filter.mpr ⟨List.mem_of_getElem? (i := 832) (by decide +kernel), by decide +kernel⟩
theorem wd_782 : (Cond.instanceMethod ⟨"EditorCoreModel", "info", "(I)I"⟩) ∈ lw_t2 := List.mem_filter.mpr ⟨List.mem_of_getElem? (i := 833) (by decide +kernel), by decide +kernel⟩
theorem wd_783 : (Cond.selects "EditorCoreModel" ⟨"EditorCoreModel", "info", "(I)I"⟩ ⟨"EditorCoreModel", "info", "(I)I"⟩) ∈ lw_t2 := List.mem_filter.mpr ⟨List.mem_of_getElem? (i := 834) (by decide +kernel), by decide +kernel⟩
theorem wd_784 : (Cond.code ⟨"EditorCoreModel", "info", "(I)I"⟩ prog_10_method_45_code 3 (some FieldType.int)) ∈ lw_t2 := List.mem_filter.mpr ⟨List.mem_of_getElem? (i := 835) (by decide +kernel), by decide +kernel⟩
theorem ws_0 : Cond.selects "EditorCore" ⟨"EditorCore", "insert", "(I)I"⟩ ⟨"EditorCore", "insert", "(I)I"⟩ ∈ lw_t2 := List.mem_filter.mpr ⟨List.mem_of_getElem? (i := 0) (by decide +kernel), by decide +kernel⟩
theorem ws_1 : Cond.selects "EditorCore" ⟨"EditorCore", "finish", "(I)V"⟩ ⟨"EditorCore", "finish", "(I)V"⟩ ∈ lw_t2 := List.mem_filter.mpr ⟨List.mem_of_getElem? (i := 1) (by decide +kernel), by decide +kernel⟩
theorem ws_2 : Cond.selects "EditorCore" ⟨"EditorCore", "replay", "()I"⟩ ⟨"EditorCore", "replay", "()I"⟩ ∈ lw_t2 := List.mem_filter.mpr ⟨List.mem_of_getElem? (i := 2) (by decide +kernel), by decide +kernel⟩
theorem ws_3 : Cond.selects "EditorCore" ⟨"EditorCore", "perform", "(I)I"⟩ ⟨"EditorCore", "perform", "(I)I"⟩ ∈ lw_t2 := List.mem_filter.mpr ⟨List.mem_of_getElem? (i := 3) (by decide +kernel), by decide +kernel⟩
theorem ws_4 : Cond.selects "EditorCore" ⟨"EditorCore", "carryOut", "(I)I"⟩ ⟨"EditorCore", "carryOut", "(I)I"⟩ ∈ lw_t2 := List.mem_filter.mpr ⟨List.mem_of_getElem? (i := 4) (by decide +kernel), by decide +kernel⟩
theorem ws_5 : Cond.selects "EditorCore" ⟨"EditorCore", "moveTo", "(I)I"⟩ ⟨"EditorCore", "moveTo", "(I)I"⟩ ∈ lw_t2 := List.mem_filter.mpr ⟨List.mem_of_getElem? (i := 5) (by decide +kernel), by decide +kernel⟩
theorem ws_6 : Cond.selects "EditorCore" ⟨"EditorCore", "moveToGoal", "(I)I"⟩ ⟨"EditorCore", "moveToGoal", "(I)I"⟩ ∈ lw_t2 := List.mem_filter.mpr ⟨List.mem_of_getElem? (i := 6) (by decide +kernel), by decide +kernel⟩
theorem ws_7 : Cond.selects "EditorCore" ⟨"EditorCore", "takeOut", "(II)I"⟩ ⟨"EditorCore", "takeOut", "(II)I"⟩ ∈ lw_t2 := List.mem_filter.mpr ⟨List.mem_of_getElem? (i := 7) (by decide +kernel), by decide +kernel⟩
theorem ws_8 : Cond.selects "EditorCore" ⟨"EditorCore", "lineKillEnd", "()I"⟩ ⟨"EditorCore", "lineKillEnd", "()I"⟩ ∈ lw_t2 := List.mem_filter.mpr ⟨List.mem_of_getElem? (i := 8) (by decide +kernel), by decide +kernel⟩
theorem ws_9 : Cond.selects "EditorCore" ⟨"EditorCore", "kill", "(IIZ)I"⟩ ⟨"EditorCore", "kill", "(IIZ)I"⟩ ∈ lw_t2 := List.mem_filter.mpr ⟨List.mem_of_getElem? (i := 9) (by decide +kernel), by decide +kernel⟩
theorem ws_10 : Cond.selects "EditorCore$Kills" ⟨"EditorCore$Kills", "makeNewest", "()V"⟩ ⟨"EditorCore$Kills", "makeNewest", "()V"⟩ ∈ lw_t2 := List.mem_filter.mpr ⟨List.mem_of_getElem? (i := 10) (by decide +kernel), by decide +kernel⟩
theorem ws_11 : Cond.selects "EditorCore" ⟨"EditorCore", "regionBeginning", "()I"⟩ ⟨"EditorCore", "regionBeginning", "()I"⟩ ∈ lw_t2 := List.mem_filter.mpr ⟨List.mem_of_getElem? (i := 11) (by decide +kernel), by decide +kernel⟩
theorem ws_12 : Cond.selects "EditorCore" ⟨"EditorCore", "regionEnd", "()I"⟩ ⟨"EditorCore", "regionEnd", "()I"⟩ ∈ lw_t2 := List.mem_filter.mpr ⟨List.mem_of_getElem? (i := 12) (by decide +kernel), by decide +kernel⟩
theorem ws_13 : Cond.selects "EditorCore" ⟨"EditorCore", "copy", "(II)I"⟩ ⟨"EditorCore", "copy", "(II)I"⟩ ∈ lw_t2 := List.mem_filter.mpr ⟨List.mem_of_getElem? (i := 13) (by decide +kernel), by decide +kernel⟩
theorem ws_14 : Cond.selects "EditorCore" ⟨"EditorCore", "putKill", "(II)I"⟩ ⟨"EditorCore", "putKill", "(II)I"⟩ ∈ lw_t2 := List.mem_filter.mpr ⟨List.mem_of_getElem? (i := 14) (by decide +kernel), by decide +kernel⟩
theorem ws_15 : Cond.selects "EditorCore" ⟨"EditorCore", "setMark", "(I)I"⟩ ⟨"EditorCore", "setMark", "(I)I"⟩ ∈ lw_t2 := List.mem_filter.mpr ⟨List.mem_of_getElem? (i := 15) (by decide +kernel), by decide +kernel⟩
theorem ws_16 : Cond.selects "EditorCore" ⟨"EditorCore", "olderKill", "()I"⟩ ⟨"EditorCore", "olderKill", "()I"⟩ ∈ lw_t2 := List.mem_filter.mpr ⟨List.mem_of_getElem? (i := 16) (by decide +kernel), by decide +kernel⟩
theorem ws_17 : Cond.selects "EditorCore" ⟨"EditorCore", "swapMark", "()I"⟩ ⟨"EditorCore", "swapMark", "()I"⟩ ∈ lw_t2 := List.mem_filter.mpr ⟨List.mem_of_getElem? (i := 17) (by decide +kernel), by decide +kernel⟩
theorem ws_18 : Cond.selects "EditorCore" ⟨"EditorCore", "swapCharacters", "()I"⟩ ⟨"EditorCore", "swapCharacters", "()I"⟩ ∈ lw_t2 := List.mem_filter.mpr ⟨List.mem_of_getElem? (i := 18) (by decide +kernel), by decide +kernel⟩
theorem ws_19 : Cond.selects "EditorCore" ⟨"EditorCore", "undo", "()I"⟩ ⟨"EditorCore", "undo", "()I"⟩ ∈ lw_t2 := List.mem_filter.mpr ⟨List.mem_of_getElem? (i := 19) (by decide +kernel), by decide +kernel⟩
theorem ws_20 : Cond.selects "EditorCore" ⟨"EditorCore", "search", "()I"⟩ ⟨"EditorCore", "search", "()I"⟩ ∈ lw_t2 := List.mem_filter.mpr ⟨List.mem_of_getElem? (i := 20) (by decide +kernel), by decide +kernel⟩
theorem ws_21 : Cond.selects "EditorCore$Keys" ⟨"EditorCore$Keys", "drop", "(II)V"⟩ ⟨"EditorCore$Keys", "drop", "(II)V"⟩ ∈ lw_t2 := List.mem_filter.mpr ⟨List.mem_of_getElem? (i := 21) (by decide +kernel), by decide +kernel⟩
theorem ws_22 : Cond.selects "EditorCoreModel" ⟨"EditorCoreModel", "size", "(I)I"⟩ ⟨"EditorCoreModel", "size", "(I)I"⟩ ∈ lw_t2 := List.mem_filter.mpr ⟨List.mem_of_getElem? (i := 22) (by decide +kernel), by decide +kernel⟩
theorem ws_23 : Cond.selects "EditorCoreModel" ⟨"EditorCoreModel", "begins", "(IIIII)Z"⟩ ⟨"EditorCoreModel", "begins", "(IIIII)Z"⟩ ∈ lw_t2 := List.mem_filter.mpr ⟨List.mem_of_getElem? (i := 23) (by decide +kernel), by decide +kernel⟩
theorem ws_24 : Cond.selects "EditorCoreModel" ⟨"EditorCoreModel", "dropBinding", "(I)V"⟩ ⟨"EditorCoreModel", "dropBinding", "(I)V"⟩ ∈ lw_t2 := List.mem_filter.mpr ⟨List.mem_of_getElem? (i := 24) (by decide +kernel), by decide +kernel⟩
theorem ws_25 : Cond.selects "EditorCoreModel" ⟨"EditorCoreModel", "insert", "(I)I"⟩ ⟨"EditorCoreModel", "insert", "(I)I"⟩ ∈ lw_t2 := List.mem_filter.mpr ⟨List.mem_of_getElem? (i := 25) (by decide +kernel), by decide +kernel⟩
theorem ws_26 : Cond.selects "EditorCoreModel" ⟨"EditorCoreModel", "edit", "(II)V"⟩ ⟨"EditorCoreModel", "edit", "(II)V"⟩ ∈ lw_t2 := List.mem_filter.mpr ⟨List.mem_of_getElem? (i := 26) (by decide +kernel), by decide +kernel⟩
theorem ws_27 : Cond.selects "EditorCoreModel" ⟨"EditorCoreModel", "step", "(II)V"⟩ ⟨"EditorCoreModel", "step", "(II)V"⟩ ∈ lw_t2 := List.mem_filter.mpr ⟨List.mem_of_getElem? (i := 27) (by decide +kernel), by decide +kernel⟩
theorem ws_28 : Cond.selects "EditorCoreModel" ⟨"EditorCoreModel", "done", "(I)I"⟩ ⟨"EditorCoreModel", "done", "(I)I"⟩ ∈ lw_t2 := List.mem_filter.mpr ⟨List.mem_of_getElem? (i := 28) (by decide +kernel), by decide +kernel⟩
theorem ws_29 : Cond.selects "EditorCoreModel" ⟨"EditorCoreModel", "jot", "(I)V"⟩ ⟨"EditorCoreModel", "jot", "(I)V"⟩ ∈ lw_t2 := List.mem_filter.mpr ⟨List.mem_of_getElem? (i := 29) (by decide +kernel), by decide +kernel⟩
theorem ws_30 : Cond.selects "EditorCoreModel" ⟨"EditorCoreModel", "play", "()I"⟩ ⟨"EditorCoreModel", "play", "()I"⟩ ∈ lw_t2 := List.mem_filter.mpr ⟨List.mem_of_getElem? (i := 30) (by decide +kernel), by decide +kernel⟩
theorem ws_31 : Cond.selects "EditorCoreModel" ⟨"EditorCoreModel", "resolve", "(I)I"⟩ ⟨"EditorCoreModel", "resolve", "(I)I"⟩ ∈ lw_t2 := List.mem_filter.mpr ⟨List.mem_of_getElem? (i := 31) (by decide +kernel), by decide +kernel⟩
theorem ws_32 : Cond.selects "EditorCoreModel" ⟨"EditorCoreModel", "perform", "(I)I"⟩ ⟨"EditorCoreModel", "perform", "(I)I"⟩ ∈ lw_t2 := List.mem_filter.mpr ⟨List.mem_of_getElem? (i := 32) (by decide +kernel), by decide +kernel⟩
theorem ws_33 : Cond.selects "EditorCoreModel" ⟨"EditorCoreModel", "work", "(I)I"⟩ ⟨"EditorCoreModel", "work", "(I)I"⟩ ∈ lw_t2 := List.mem_filter.mpr ⟨List.mem_of_getElem? (i := 33) (by decide +kernel), by decide +kernel⟩
theorem ws_34 : Cond.selects "EditorCoreModel" ⟨"EditorCoreModel", "erase", "(II)I"⟩ ⟨"EditorCoreModel", "erase", "(II)I"⟩ ∈ lw_t2 := List.mem_filter.mpr ⟨List.mem_of_getElem? (i := 34) (by decide +kernel), by decide +kernel⟩
theorem ws_35 : Cond.selects "EditorCoreModel" ⟨"EditorCoreModel", "killLine", "()I"⟩ ⟨"EditorCoreModel", "killLine", "()I"⟩ ∈ lw_t2 := List.mem_filter.mpr ⟨List.mem_of_getElem? (i := 35) (by decide +kernel), by decide +kernel⟩
theorem ws_36 : Cond.selects "EditorCoreModel" ⟨"EditorCoreModel", "lineEnd", "(I)I"⟩ ⟨"EditorCoreModel", "lineEnd", "(I)I"⟩ ∈ lw_t2 := List.mem_filter.mpr ⟨List.mem_of_getElem? (i := 36) (by decide +kernel), by decide +kernel⟩
theorem ws_37 : Cond.selects "EditorCoreModel" ⟨"EditorCoreModel", "keep", "(IIZ)V"⟩ ⟨"EditorCoreModel", "keep", "(IIZ)V"⟩ ∈ lw_t2 := List.mem_filter.mpr ⟨List.mem_of_getElem? (i := 37) (by decide +kernel), by decide +kernel⟩
theorem ws_38 : Cond.selects "EditorCoreModel" ⟨"EditorCoreModel", "killRegion", "(Z)I"⟩ ⟨"EditorCoreModel", "killRegion", "(Z)I"⟩ ∈ lw_t2 := List.mem_filter.mpr ⟨List.mem_of_getElem? (i := 38) (by decide +kernel), by decide +kernel⟩
theorem ws_39 : Cond.selects "EditorCoreModel" ⟨"EditorCoreModel", "yank", "(III)I"⟩ ⟨"EditorCoreModel", "yank", "(III)I"⟩ ∈ lw_t2 := List.mem_filter.mpr ⟨List.mem_of_getElem? (i := 39) (by decide +kernel), by decide +kernel⟩
theorem ws_40 : Cond.selects "EditorCoreModel" ⟨"EditorCoreModel", "exchange", "()I"⟩ ⟨"EditorCoreModel", "exchange", "()I"⟩ ∈ lw_t2 := List.mem_filter.mpr ⟨List.mem_of_getElem? (i := 40) (by decide +kernel), by decide +kernel⟩
theorem ws_41 : Cond.selects "EditorCoreModel" ⟨"EditorCoreModel", "swap", "()I"⟩ ⟨"EditorCoreModel", "swap", "()I"⟩ ∈ lw_t2 := List.mem_filter.mpr ⟨List.mem_of_getElem? (i := 41) (by decide +kernel), by decide +kernel⟩
theorem ws_42 : Cond.selects "EditorCoreModel" ⟨"EditorCoreModel", "undo", "()I"⟩ ⟨"EditorCoreModel", "undo", "()I"⟩ ∈ lw_t2 := List.mem_filter.mpr ⟨List.mem_of_getElem? (i := 42) (by decide +kernel), by decide +kernel⟩
theorem ws_43 : Cond.selects "EditorCoreModel" ⟨"EditorCoreModel", "search", "()I"⟩ ⟨"EditorCoreModel", "search", "()I"⟩ ∈ lw_t2 := List.mem_filter.mpr ⟨List.mem_of_getElem? (i := 43) (by decide +kernel), by decide +kernel⟩
theorem ws_44 : Cond.selects "EditorCoreModel" ⟨"EditorCoreModel", "move", "(I)I"⟩ ⟨"EditorCoreModel", "move", "(I)I"⟩ ∈ lw_t2 := List.mem_filter.mpr ⟨List.mem_of_getElem? (i := 44) (by decide +kernel), by decide +kernel⟩
theorem ws_45 : Cond.selects "EditorCoreModel" ⟨"EditorCoreModel", "vertical", "(I)V"⟩ ⟨"EditorCoreModel", "vertical", "(I)V"⟩ ∈ lw_t2 := List.mem_filter.mpr ⟨List.mem_of_getElem? (i := 45) (by decide +kernel), by decide +kernel⟩
theorem ws_46 : Cond.selects "EditorCoreModel" ⟨"EditorCoreModel", "lineStart", "(I)I"⟩ ⟨"EditorCoreModel", "lineStart", "(I)I"⟩ ∈ lw_t2 := List.mem_filter.mpr ⟨List.mem_of_getElem? (i := 46) (by decide +kernel), by decide +kernel⟩
theorem ws_47 : Cond.selects "EditorCoreModel" ⟨"EditorCoreModel", "words", "(Z)V"⟩ ⟨"EditorCoreModel", "words", "(Z)V"⟩ ∈ lw_t2 := List.mem_filter.mpr ⟨List.mem_of_getElem? (i := 47) (by decide +kernel), by decide +kernel⟩
theorem ws_48 : Cond.selects "EditorCoreModel" ⟨"EditorCoreModel", "show", "()V"⟩ ⟨"EditorCoreModel", "show", "()V"⟩ ∈ lw_t2 := List.mem_filter.mpr ⟨List.mem_of_getElem? (i := 48) (by decide +kernel), by decide +kernel⟩
theorem ws_49 : Cond.selects "EditorCoreModel" ⟨"EditorCoreModel", "pointRow", "()I"⟩ ⟨"EditorCoreModel", "pointRow", "()I"⟩ ∈ lw_t2 := List.mem_filter.mpr ⟨List.mem_of_getElem? (i := 49) (by decide +kernel), by decide +kernel⟩
theorem ws_50 : Cond.selects "EditorCoreModel" ⟨"EditorCoreModel", "rowsBefore", "(I)I"⟩ ⟨"EditorCoreModel", "rowsBefore", "(I)I"⟩ ∈ lw_t2 := List.mem_filter.mpr ⟨List.mem_of_getElem? (i := 50) (by decide +kernel), by decide +kernel⟩
theorem tU_E : ∀ w ∈ u_ws "EditorCore" tT_E 12, w ∈ lw_t2 := List.forall_mem_cons.mpr ⟨wd_186, List.forall_mem_cons.mpr ⟨wd_188, List.forall_mem_cons.mpr ⟨wd_190, List.forall_mem_cons.mpr ⟨wd_192, List.forall_mem_cons.mpr ⟨wd_194, List.forall_mem_cons.mpr ⟨wd_196, List.forall_mem_cons.mpr ⟨wd_198, List.forall_mem_cons.mpr ⟨wd_200, List.forall_mem_cons.mpr ⟨wd_202, List.forall_mem_cons.mpr ⟨wd_204, List.forall_mem_cons.mpr ⟨wd_206, List.forall_mem_cons.mpr ⟨wd_208, fun _ h => absurd h List.not_mem_nil⟩⟩⟩⟩⟩⟩⟩⟩⟩⟩⟩⟩
theorem tU_T : ∀ w ∈ u_ws "EditorCore$Text" tT_T 4, w ∈ lw_t2 := List.forall_mem_cons.mpr ⟨wd_57, List.forall_mem_cons.mpr ⟨wd_59, List.forall_mem_cons.mpr ⟨wd_61, List.forall_mem_cons.mpr ⟨wd_63, fun _ h => absurd h List.not_mem_nil⟩⟩⟩⟩
theorem tU_L : ∀ w ∈ u_ws "EditorCore$Letters" tT_L 2, w ∈ lw_t2 := List.forall_mem_cons.mpr ⟨wd_41, List.forall_mem_cons.mpr ⟨wd_43, fun _ h => absurd h List.not_mem_nil⟩⟩
theorem tU_K : ∀ w ∈ u_ws "EditorCore$Kills" tT_K 2, w ∈ lw_t2 := List.forall_mem_cons.mpr ⟨wd_80, List.forall_mem_cons.mpr ⟨wd_82, fun _ h => absurd h List.not_mem_nil⟩⟩
theorem tU_H : ∀ w ∈ u_ws "EditorCore$History" tT_H 4, w ∈ lw_t2 := List.forall_mem_cons.mpr ⟨wd_101, List.forall_mem_cons.mpr ⟨wd_103, List.forall_mem_cons.mpr ⟨wd_105, List.forall_mem_cons.mpr ⟨wd_107, fun _ h => absurd h List.not_mem_nil⟩⟩⟩⟩
theorem tU_Y : ∀ w ∈ u_ws "EditorCore$Keys" tT_Y 4, w ∈ lw_t2 := List.forall_mem_cons.mpr ⟨wd_121, List.forall_mem_cons.mpr ⟨wd_123, List.forall_mem_cons.mpr ⟨wd_125, List.forall_mem_cons.mpr ⟨wd_127, fun _ h => absurd h List.not_mem_nil⟩⟩⟩⟩
theorem tU_V : ∀ w ∈ u_ws "EditorCore$Events" tT_V 4, w ∈ lw_t2 := List.forall_mem_cons.mpr ⟨wd_144, List.forall_mem_cons.mpr ⟨wd_146, List.forall_mem_cons.mpr ⟨wd_148, List.forall_mem_cons.mpr ⟨wd_150, fun _ h => absurd h List.not_mem_nil⟩⟩⟩⟩
theorem tU_N : ∀ w ∈ u_ws "EditorCore$Window" tT_N 3, w ∈ lw_t2 := List.forall_mem_cons.mpr ⟨wd_165, List.forall_mem_cons.mpr ⟨wd_167, List.forall_mem_cons.mpr ⟨wd_169, fun _ h => absurd h List.not_mem_nil⟩⟩⟩
theorem tU_R : ∀ w ∈ u_ws "EditorCoreModel" tT_R 36, w ∈ lw_t2 := List.forall_mem_cons.mpr ⟨wd_538, List.forall_mem_cons.mpr ⟨wd_540, List.forall_mem_cons.mpr ⟨wd_542, List.forall_mem_cons.mpr ⟨wd_544, List.forall_mem_cons.mpr ⟨wd_546, List.forall_mem_cons.mpr ⟨wd_548, List.forall_mem_cons.mpr ⟨wd_550, List.forall_mem_cons.mpr ⟨wd_552, List.forall_mem_cons.mpr ⟨wd_554, List.forall_mem_cons.mpr ⟨wd_556, List.forall_mem_cons.mpr ⟨wd_558, List.forall_mem_cons.mpr ⟨wd_560, List.forall_mem_cons.mpr ⟨wd_562, List.forall_mem_cons.mpr ⟨wd_564, List.forall_mem_cons.mpr ⟨wd_566, List.forall_mem_cons.mpr ⟨wd_568, List.forall_mem_cons.mpr ⟨wd_570, List.forall_mem_cons.mpr ⟨wd_572, List.forall_mem_cons.mpr ⟨wd_574, List.forall_mem_cons.mpr ⟨wd_576, List.forall_mem_cons.mpr ⟨wd_578, List.forall_mem_cons.mpr ⟨wd_580, List.forall_mem_cons.mpr ⟨wd_582, List.forall_mem_cons.mpr ⟨wd_584, List.forall_mem_cons.mpr ⟨wd_586, List.forall_mem_cons.mpr ⟨wd_588, List.forall_mem_cons.mpr ⟨wd_590, List.forall_mem_cons.mpr ⟨wd_592, List.forall_mem_cons.mpr ⟨wd_594, List.forall_mem_cons.mpr ⟨wd_596, List.forall_mem_cons.mpr ⟨wd_598, List.forall_mem_cons.mpr ⟨wd_600, List.forall_mem_cons.mpr ⟨wd_602, List.forall_mem_cons.mpr ⟨wd_604, List.forall_mem_cons.mpr ⟨wd_606, List.forall_mem_cons.mpr ⟨wd_608, fun _ h => absurd h List.not_mem_nil⟩⟩⟩⟩⟩⟩⟩⟩⟩⟩⟩⟩⟩⟩⟩⟩⟩⟩⟩⟩⟩⟩⟩⟩⟩⟩⟩⟩⟩⟩⟩⟩⟩⟩⟩⟩
theorem mm_clOK : ∀ (ci : Nat) (C : String) (T : u_T) (N : Nat), mm_cl[ci]? = some (C, T, N) → (∀ k, k < N → parseFieldDescriptor (T k).2.2.1 = some (mm_fd ci k)) ∧ (∀ a, a < N → ∀ b, b < N → a ≠ b → (T a).2.1 ≠ (T b).2.1) ∧ (∀ k, k < N → mm_ff ci k = (T k).2.2.2 ∧ mm_fo ci k = (T k).1 ∧ defaultValue (mm_fd ci k) = if mm_fr ci k = true then .null else .int 0) ∧ ∀ w ∈ u_ws C T N, w ∈ lw_t2
  | 0, _, _, _, h => by cases h; exact ⟨by decide +kernel, by decide +kernel, by decide +kernel, tU_E⟩
  | 1, _, _, _, h => by cases h; exact ⟨by decide +kernel, by decide +kernel, by decide +kernel, tU_T⟩
  | 2, _, _, _, h => by cases h; exact ⟨by decide +kernel, by decide +kernel, by decide +kernel, tU_L⟩
  | 3, _, _, _, h => by cases h; exact ⟨by decide +kernel, by decide +kernel, by decide +kernel, tU_K⟩
  | 4, _, _, _, h => by cases h; exact ⟨by decide +kernel, by decide +kernel, by decide +kernel, tU_H⟩
  | 5, _, _, _, h => by cases h; exact ⟨by decide +kernel, by decide +kernel, by decide +kernel, tU_Y⟩
  | 6, _, _, _, h => by cases h; exact ⟨by decide +kernel, by decide +kernel, by decide +kernel, tU_V⟩
  | 7, _, _, _, h => by cases h; exact ⟨by decide +kernel, by decide +kernel, by decide +kernel, tU_N⟩
  | 8, _, _, _, h => by cases h; exact ⟨by decide +kernel, by decide +kernel, by decide +kernel, tU_R⟩
  | n + 9, _, _, _, h => by simp [mm_cl] at h
