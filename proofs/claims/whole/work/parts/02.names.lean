/-! names, by program (wip/gen/mk02.py) -/
def jl_gw : List Cond := lw_tbl.filter goodWord
def qt_Ck : u_T := fun k => match k with
  | _ => ("JavaChain$Checker", "world", "LJavaChain$World;", true)
def qy_Ck : Nat → FieldType := fun k => match k with
  | _ => .object "JavaChain$World"
def qt_Ma : u_T := fun k => match k with
  | 0 => ("JavaChain$Machine", "world", "LJavaChain$World;", true)
  | 1 => ("JavaChain$Machine", "checker", "LJavaChain$Checker;", true)
  | 2 => ("JavaChain$Machine", "store", "LJavaChain$Store;", true)
  | 3 => ("JavaChain$Machine", "underWay", "[LJavaChain$Method;", true)
  | 4 => ("JavaChain$Machine", "pcs", "[I", true)
  | 5 => ("JavaChain$Machine", "types", "[I", true)
  | 6 => ("JavaChain$Machine", "values", "[I", true)
  | 7 => ("JavaChain$Machine", "top", "I", false)
  | 8 => ("JavaChain$Machine", "status", "I", false)
  | 9 => ("JavaChain$Machine", "detail", "I", false)
  | 10 => ("JavaChain$Machine", "done", "I", false)
  | _ => ("JavaChain$Machine", "answer", "I", false)
def qy_Ma : Nat → FieldType := fun k => match k with
  | 0 => .object "JavaChain$World"
  | 1 => .object "JavaChain$Checker"
  | 2 => .object "JavaChain$Store"
  | 3 => .array (.object "JavaChain$Method")
  | 4 => .array .int
  | 5 => .array .int
  | 6 => .array .int
  | 7 => .int
  | 8 => .int
  | 9 => .int
  | 10 => .int
  | _ => .int
def qt_Me : u_T := fun k => match k with
  | 0 => ("JavaChain$Method", "one", "I", true)
  | 1 => ("JavaChain$Method", "two", "I", true)
  | 2 => ("JavaChain$Method", "result", "I", true)
  | 3 => ("JavaChain$Method", "operations", "[I", true)
  | 4 => ("JavaChain$Method", "arguments", "[I", true)
  | 5 => ("JavaChain$Method", "size", "I", false)
  | 6 => ("JavaChain$Method", "from", "[I", true)
  | 7 => ("JavaChain$Method", "to", "[I", true)
  | 8 => ("JavaChain$Method", "target", "[I", true)
  | 9 => ("JavaChain$Method", "kind", "[I", true)
  | 10 => ("JavaChain$Method", "catchers", "I", false)
  | 11 => ("JavaChain$Method", "maps", "[I", true)
  | _ => ("JavaChain$Method", "fresh", "[Z", true)
def qy_Me : Nat → FieldType := fun k => match k with
  | 0 => .int
  | 1 => .int
  | 2 => .int
  | 3 => .array .int
  | 4 => .array .int
  | 5 => .int
  | 6 => .array .int
  | 7 => .array .int
  | 8 => .array .int
  | 9 => .array .int
  | 10 => .int
  | 11 => .array .int
  | _ => .array .boolean
def qt_St : u_T := fun k => match k with
  | 0 => ("JavaChain$Store", "sizes", "[I", true)
  | 1 => ("JavaChain$Store", "types", "[I", true)
  | 2 => ("JavaChain$Store", "values", "[I", true)
  | _ => ("JavaChain$Store", "made", "I", false)
def qy_St : Nat → FieldType := fun k => match k with
  | 0 => .array .int
  | 1 => .array .int
  | 2 => .array .int
  | _ => .int
def qt_Ve : u_T := fun k => match k with
  | 0 => ("JavaChain$Verifier", "world", "LJavaChain$World;", true)
  | 1 => ("JavaChain$Verifier", "checker", "LJavaChain$Checker;", true)
  | 2 => ("JavaChain$Verifier", "before", "[I", true)
  | 3 => ("JavaChain$Verifier", "given", "[I", true)
  | 4 => ("JavaChain$Verifier", "joined", "[I", true)
  | 5 => ("JavaChain$Verifier", "where", "I", false)
  | _ => ("JavaChain$Verifier", "why", "I", false)
def qy_Ve : Nat → FieldType := fun k => match k with
  | 0 => .object "JavaChain$World"
  | 1 => .object "JavaChain$Checker"
  | 2 => .array .int
  | 3 => .array .int
  | 4 => .array .int
  | 5 => .int
  | _ => .int
def qt_Wo : u_T := fun k => match k with
  | 0 => ("JavaChain$World", "there", "[Z", true)
  | 1 => ("JavaChain$World", "supers", "[I", true)
  | 2 => ("JavaChain$World", "ownFields", "[I", true)
  | 3 => ("JavaChain$World", "firstOwn", "[I", true)
  | 4 => ("JavaChain$World", "fieldTypes", "[I", true)
  | _ => ("JavaChain$World", "methods", "[LJavaChain$Method;", true)
def qy_Wo : Nat → FieldType := fun k => match k with
  | 0 => .array .boolean
  | 1 => .array .int
  | 2 => .array .int
  | 3 => .array .int
  | 4 => .array .int
  | _ => .array (.object "JavaChain$Method")
def qt_JC : u_T := fun k => match k with
  | 0 => ("JavaChain", "world", "LJavaChain$World;", true)
  | 1 => ("JavaChain", "verifier", "LJavaChain$Verifier;", true)
  | 2 => ("JavaChain", "machine", "LJavaChain$Machine;", true)
  | _ => ("JavaChain", "verified", "Z", false)
def qy_JC : Nat → FieldType := fun k => match k with
  | 0 => .object "JavaChain$World"
  | 1 => .object "JavaChain$Verifier"
  | 2 => .object "JavaChain$Machine"
  | _ => .boolean
def qt_Mo : u_T := fun k => match k with
  | 0 => ("JavaChainModel", "failed", "I", false)
  | 1 => ("JavaChainModel", "there", "[Z", true)
  | 2 => ("JavaChainModel", "base", "[I", true)
  | 3 => ("JavaChainModel", "ownFields", "[I", true)
  | 4 => ("JavaChainModel", "fieldType", "[I", true)
  | 5 => ("JavaChainModel", "has", "[Z", true)
  | 6 => ("JavaChainModel", "one", "[I", true)
  | 7 => ("JavaChainModel", "two", "[I", true)
  | 8 => ("JavaChainModel", "result", "[I", true)
  | 9 => ("JavaChainModel", "length", "[I", true)
  | 10 => ("JavaChainModel", "operation", "[I", true)
  | 11 => ("JavaChainModel", "argument", "[I", true)
  | 12 => ("JavaChainModel", "catchers", "[I", true)
  | 13 => ("JavaChainModel", "span", "[I", true)
  | 14 => ("JavaChainModel", "target", "[I", true)
  | 15 => ("JavaChainModel", "catches", "[I", true)
  | 16 => ("JavaChainModel", "verified", "Z", false)
  | 17 => ("JavaChainModel", "where", "I", false)
  | 18 => ("JavaChainModel", "why", "I", false)
  | 19 => ("JavaChainModel", "map", "[I", true)
  | 20 => ("JavaChainModel", "fresh", "[Z", true)
  | 21 => ("JavaChainModel", "local", "[I", true)
  | 22 => ("JavaChainModel", "stack", "[I", true)
  | 23 => ("JavaChainModel", "height", "I", false)
  | 24 => ("JavaChainModel", "kept", "[I", true)
  | 25 => ("JavaChainModel", "frameMethod", "[I", true)
  | 26 => ("JavaChainModel", "frameAt", "[I", true)
  | 27 => ("JavaChainModel", "frameHeight", "[I", true)
  | 28 => ("JavaChainModel", "localValue", "[I", true)
  | 29 => ("JavaChainModel", "localKind", "[I", true)
  | 30 => ("JavaChainModel", "value", "[I", true)
  | 31 => ("JavaChainModel", "kind", "[I", true)
  | 32 => ("JavaChainModel", "depth", "I", false)
  | 33 => ("JavaChainModel", "sort", "[I", true)
  | 34 => ("JavaChainModel", "cells", "[I", true)
  | 35 => ("JavaChainModel", "cell", "[I", true)
  | 36 => ("JavaChainModel", "made", "I", false)
  | 37 => ("JavaChainModel", "over", "I", false)
  | 38 => ("JavaChainModel", "overWhat", "I", false)
  | 39 => ("JavaChainModel", "done", "I", false)
  | _ => ("JavaChainModel", "answer", "I", false)
def qy_Mo : Nat → FieldType := fun k => match k with
  | 0 => .int
  | 1 => .array .boolean
  | 2 => .array .int
  | 3 => .array .int
  | 4 => .array .int
  | 5 => .array .boolean
  | 6 => .array .int
  | 7 => .array .int
  | 8 => .array .int
  | 9 => .array .int
  | 10 => .array .int
  | 11 => .array .int
  | 12 => .array .int
  | 13 => .array .int
  | 14 => .array .int
  | 15 => .array .int
  | 16 => .boolean
  | 17 => .int
  | 18 => .int
  | 19 => .array .int
  | 20 => .array .boolean
  | 21 => .array .int
  | 22 => .array .int
  | 23 => .int
  | 24 => .array .int
  | 25 => .array .int
  | 26 => .array .int
  | 27 => .array .int
  | 28 => .array .int
  | 29 => .array .int
  | 30 => .array .int
  | 31 => .array .int
  | 32 => .int
  | 33 => .array .int
  | 34 => .array .int
  | 35 => .array .int
  | 36 => .int
  | 37 => .int
  | 38 => .int
  | 39 => .int
  | _ => .int
abbrev jl_cl : List vw_C := [("JavaChain$Checker", qt_Ck, 1), ("JavaChain$Machine", qt_Ma, 12), ("JavaChain$Method", qt_Me, 13), ("JavaChain$Store", qt_St, 4), ("JavaChain$Verifier", qt_Ve, 7), ("JavaChain$World", qt_Wo, 6), ("JavaChain", qt_JC, 4), ("JavaChainModel", qt_Mo, 41)]
def jl_ty : Nat → Nat → FieldType := fun c => match c with
  | 0 => qy_Ck
  | 1 => qy_Ma
  | 2 => qy_Me
  | 3 => qy_St
  | 4 => qy_Ve
  | 5 => qy_Wo
  | 6 => qy_JC
  | _ => qy_Mo
abbrev jl_M : Type := MethodName × ByteArray × Nat × Option FieldType × Room × Cond
def m_JC_init : jl_M := (⟨"JavaChain", "<init>", "()V"⟩, prog_1_method_1_code, 2, none, { frames := 3, cells := 21, slots := 1924, locals := 66 }, .code ⟨"JavaChain", "<init>", "()V"⟩ prog_1_method_1_code 2 (none))
def m_Wo_init : jl_M := (⟨"JavaChain$World", "<init>", "()V"⟩, prog_7_method_1_code, 2, none, { frames := 1, cells := 6, slots := 66, locals := 24 }, .code ⟨"JavaChain$World", "<init>", "()V"⟩ prog_7_method_1_code 2 (none))
def m_Ck_init : jl_M := (⟨"JavaChain$Checker", "<init>", "(LJavaChain$World;)V"⟩, prog_2_method_1_code, 2, none, { frames := 1, cells := 0, slots := 0, locals := 24 }, .code ⟨"JavaChain$Checker", "<init>", "(LJavaChain$World;)V"⟩ prog_2_method_1_code 2 (none))
def m_Ve_init : jl_M := (⟨"JavaChain$Verifier", "<init>", "(LJavaChain$World;LJavaChain$Checker;)V"⟩, prog_6_method_1_code, 3, none, { frames := 1, cells := 3, slots := 36, locals := 24 }, .code ⟨"JavaChain$Verifier", "<init>", "(LJavaChain$World;LJavaChain$Checker;)V"⟩ prog_6_method_1_code 3 (none))
def m_Ma_init : jl_M := (⟨"JavaChain$Machine", "<init>", "(LJavaChain$World;LJavaChain$Checker;)V"⟩, prog_3_method_1_code, 3, none, { frames := 2, cells := 8, slots := 1796, locals := 44 }, .code ⟨"JavaChain$Machine", "<init>", "(LJavaChain$World;LJavaChain$Checker;)V"⟩ prog_3_method_1_code 3 (none))
def m_St_init : jl_M := (⟨"JavaChain$Store", "<init>", "()V"⟩, prog_5_method_1_code, 1, none, { frames := 1, cells := 3, slots := 1480, locals := 24 }, .code ⟨"JavaChain$Store", "<init>", "()V"⟩ prog_5_method_1_code 1 (none))
def m_JC_fault : jl_M := (⟨"JavaChain", "fault", "(Z)I"⟩, prog_1_method_9_code, 2, some .int, { frames := 0, cells := 0, slots := 0, locals := 0 }, .code ⟨"JavaChain", "fault", "(Z)I"⟩ prog_1_method_9_code 2 (some .int))
def m_La_define : jl_M := (⟨"JavaChainLaw", "define", "(LJavaChain;II[J)I"⟩, method_3_code, 5, some .int, { frames := 8, cells := 3, slots := 18, locals := 134 }, .codeWith ⟨"JavaChainLaw", "define", "(LJavaChain;II[J)I"⟩ method_3_code 5 (some .int) [(0, 10, 13, 13), (0, 10, 17, 15)])
def m_JC_define : jl_M := (⟨"JavaChain", "define", "(II)I"⟩, prog_1_method_2_code, 3, some .int, { frames := 7, cells := 3, slots := 18, locals := 112 }, .code ⟨"JavaChain", "define", "(II)I"⟩ prog_1_method_2_code 3 (some .int))
def m_JC_needRange : jl_M := (⟨"JavaChain", "needRange", "(III)V"⟩, prog_1_method_15_code, 3, none, { frames := 6, cells := 1, slots := 6, locals := 90 }, .code ⟨"JavaChain", "needRange", "(III)V"⟩ prog_1_method_15_code 3 (none))
def m_Wo_has : jl_M := (⟨"JavaChain$World", "has", "(I)Z"⟩, prog_7_method_2_code, 2, some .boolean, { frames := 0, cells := 0, slots := 0, locals := 0 }, .code ⟨"JavaChain$World", "has", "(I)Z"⟩ prog_7_method_2_code 2 (some .boolean))
def m_JC_needState : jl_M := (⟨"JavaChain", "needState", "(Z)V"⟩, prog_1_method_20_code, 1, none, { frames := 6, cells := 1, slots := 6, locals := 90 }, .code ⟨"JavaChain", "needState", "(Z)V"⟩ prog_1_method_20_code 1 (none))
def m_Wo_putClass : jl_M := (⟨"JavaChain$World", "putClass", "(II)V"⟩, prog_7_method_5_code, 3, none, { frames := 1, cells := 0, slots := 0, locals := 21 }, .code ⟨"JavaChain$World", "putClass", "(II)V"⟩ prog_7_method_5_code 3 (none))
def m_Wo_fieldCount : jl_M := (⟨"JavaChain$World", "fieldCount", "(I)I"⟩, prog_7_method_8_code, 2, some .int, { frames := 0, cells := 0, slots := 0, locals := 0 }, .code ⟨"JavaChain$World", "fieldCount", "(I)I"⟩ prog_7_method_8_code 2 (some .int))
def m_Wo_classCount : jl_M := (⟨"JavaChain$World", "classCount", "()I"⟩, prog_7_method_4_code, 3, some .int, { frames := 0, cells := 0, slots := 0, locals := 0 }, .code ⟨"JavaChain$World", "classCount", "()I"⟩ prog_7_method_4_code 3 (some .int))
def m_La_field : jl_M := (⟨"JavaChainLaw", "field", "(LJavaChain;II[J)I"⟩, method_4_code, 5, some .int, { frames := 8, cells := 4, slots := 24, locals := 134 }, .codeWith ⟨"JavaChainLaw", "field", "(LJavaChain;II[J)I"⟩ method_4_code 5 (some .int) [(0, 10, 13, 13), (0, 10, 17, 20), (0, 10, 21, 15)])
def m_JC_field : jl_M := (⟨"JavaChain", "field", "(II)I"⟩, prog_1_method_3_code, 3, some .int, { frames := 7, cells := 4, slots := 24, locals := 112 }, .code ⟨"JavaChain", "field", "(II)I"⟩ prog_1_method_3_code 3 (some .int))
def m_JC_needType : jl_M := (⟨"JavaChain", "needType", "(I)V"⟩, prog_1_method_16_code, 1, none, { frames := 6, cells := 1, slots := 6, locals := 90 }, .code ⟨"JavaChain", "needType", "(I)V"⟩ prog_1_method_16_code 1 (none))
def m_JC_isDeclarable : jl_M := (⟨"JavaChain", "isDeclarable", "(I)Z"⟩, prog_1_method_18_code, 1, some .boolean, { frames := 0, cells := 0, slots := 0, locals := 0 }, .code ⟨"JavaChain", "isDeclarable", "(I)Z"⟩ prog_1_method_18_code 1 (some .boolean))
def m_JC_needThere : jl_M := (⟨"JavaChain", "needThere", "(Z)V"⟩, prog_1_method_19_code, 1, none, { frames := 6, cells := 1, slots := 6, locals := 90 }, .code ⟨"JavaChain", "needThere", "(Z)V"⟩ prog_1_method_19_code 1 (none))
def m_Wo_isSuper : jl_M := (⟨"JavaChain$World", "isSuper", "(I)Z"⟩, prog_7_method_6_code, 3, some .boolean, { frames := 0, cells := 0, slots := 0, locals := 0 }, .code ⟨"JavaChain$World", "isSuper", "(I)Z"⟩ prog_7_method_6_code 3 (some .boolean))
def m_Wo_putField : jl_M := (⟨"JavaChain$World", "putField", "(II)I"⟩, prog_7_method_7_code, 3, some .int, { frames := 1, cells := 0, slots := 0, locals := 21 }, .code ⟨"JavaChain$World", "putField", "(II)I"⟩ prog_7_method_7_code 3 (some .int))
def m_La_method : jl_M := (⟨"JavaChainLaw", "method", "(LJavaChain;IIIII[J)I"⟩, method_5_code, 8, some .int, { frames := 8, cells := 15, slots := 417, locals := 138 }, .codeWith ⟨"JavaChainLaw", "method", "(LJavaChain;IIIII[J)I"⟩ method_5_code 8 (some .int) [(0, 16, 19, 13), (0, 16, 23, 20), (0, 16, 27, 15)])
def m_JC_method : jl_M := (⟨"JavaChain", "method", "(IIIII)I"⟩, prog_1_method_4_code, 6, some .int, { frames := 7, cells := 15, slots := 417, locals := 113 }, .code ⟨"JavaChain", "method", "(IIIII)I"⟩ prog_1_method_4_code 6 (some .int))
def m_JC_needParameters : jl_M := (⟨"JavaChain", "needParameters", "(II)V"⟩, prog_1_method_17_code, 4, none, { frames := 6, cells := 1, slots := 6, locals := 90 }, .code ⟨"JavaChain", "needParameters", "(II)V"⟩ prog_1_method_17_code 4 (none))
def m_Wo_own : jl_M := (⟨"JavaChain$World", "own", "(II)LJavaChain$Method;"⟩, prog_7_method_12_code, 3, some (.object "JavaChain$Method"), { frames := 0, cells := 0, slots := 0, locals := 0 }, .code ⟨"JavaChain$World", "own", "(II)LJavaChain$Method;"⟩ prog_7_method_12_code 3 (some (.object "JavaChain$Method")))
def m_Wo_clashes : jl_M := (⟨"JavaChain$World", "clashes", "(IIIII)Z"⟩, prog_7_method_16_code, 9, some .boolean, { frames := 1, cells := 0, slots := 0, locals := 24 }, .code ⟨"JavaChain$World", "clashes", "(IIIII)Z"⟩ prog_7_method_16_code 9 (some .boolean))
def m_Wo_isOrIsAbove : jl_M := (⟨"JavaChain$World", "isOrIsAbove", "(II)Z"⟩, prog_7_method_17_code, 5, some .boolean, { frames := 0, cells := 0, slots := 0, locals := 0 }, .code ⟨"JavaChain$World", "isOrIsAbove", "(II)Z"⟩ prog_7_method_17_code 5 (some .boolean))
def m_Me_init : jl_M := (⟨"JavaChain$Method", "<init>", "(III)V"⟩, prog_4_method_1_code, 4, none, { frames := 1, cells := 8, slots := 368, locals := 24 }, .code ⟨"JavaChain$Method", "<init>", "(III)V"⟩ prog_4_method_1_code 4 (none))
def m_Me_forgetMaps : jl_M := (⟨"JavaChain$Method", "forgetMaps", "()V"⟩, prog_4_method_8_code, 2, none, { frames := 0, cells := 0, slots := 0, locals := 0 }, .code ⟨"JavaChain$Method", "forgetMaps", "()V"⟩ prog_4_method_8_code 2 (none))
def m_Wo_putMethod : jl_M := (⟨"JavaChain$World", "putMethod", "(IILJavaChain$Method;)V"⟩, prog_7_method_11_code, 4, none, { frames := 0, cells := 0, slots := 0, locals := 0 }, .code ⟨"JavaChain$World", "putMethod", "(IILJavaChain$Method;)V"⟩ prog_7_method_11_code 4 (none))
def m_Wo_ownMethods : jl_M := (⟨"JavaChain$World", "ownMethods", "(I)I"⟩, prog_7_method_14_code, 4, some .int, { frames := 1, cells := 0, slots := 0, locals := 22 }, .code ⟨"JavaChain$World", "ownMethods", "(I)I"⟩ prog_7_method_14_code 4 (some .int))
def m_La_code : jl_M := (⟨"JavaChainLaw", "code", "(LJavaChain;IIII[J)I"⟩, method_6_code, 7, some .int, { frames := 9, cells := 5, slots := 30, locals := 158 }, .codeWith ⟨"JavaChainLaw", "code", "(LJavaChain;IIII[J)I"⟩ method_6_code 7 (some .int) [(0, 14, 17, 13), (0, 14, 21, 20), (0, 14, 25, 15)])
def m_JC_code : jl_M := (⟨"JavaChain", "code", "(IIII)I"⟩, prog_1_method_5_code, 6, some .int, { frames := 8, cells := 5, slots := 30, locals := 133 }, .code ⟨"JavaChain", "code", "(IIII)I"⟩ prog_1_method_5_code 6 (some .int))
def m_JC_ownMethod : jl_M := (⟨"JavaChain", "ownMethod", "(II)LJavaChain$Method;"⟩, prog_1_method_14_code, 4, some (.object "JavaChain$Method"), { frames := 7, cells := 1, slots := 6, locals := 110 }, .code ⟨"JavaChain", "ownMethod", "(II)LJavaChain$Method;"⟩ prog_1_method_14_code 4 (some (.object "JavaChain$Method")))
def m_Me_addInstruction : jl_M := (⟨"JavaChain$Method", "addInstruction", "(II)I"⟩, prog_4_method_4_code, 3, some .int, { frames := 0, cells := 0, slots := 0, locals := 0 }, .code ⟨"JavaChain$Method", "addInstruction", "(II)I"⟩ prog_4_method_4_code 3 (some .int))
def m_La_catcher : jl_M := (⟨"JavaChainLaw", "catcher", "(LJavaChain;IIIII[J)I"⟩, method_7_code, 8, some .int, { frames := 9, cells := 7, slots := 42, locals := 159 }, .codeWith ⟨"JavaChainLaw", "catcher", "(LJavaChain;IIIII[J)I"⟩ method_7_code 8 (some .int) [(0, 16, 19, 13), (0, 16, 23, 20), (0, 16, 27, 15)])
def m_JC_catcher : jl_M := (⟨"JavaChain", "catcher", "(IIIII)I"⟩, prog_1_method_6_code, 7, some .int, { frames := 8, cells := 7, slots := 42, locals := 133 }, .code ⟨"JavaChain", "catcher", "(IIIII)I"⟩ prog_1_method_6_code 7 (some .int))
def m_Me_addCatcher : jl_M := (⟨"JavaChain$Method", "addCatcher", "(III)I"⟩, prog_4_method_5_code, 4, some .int, { frames := 0, cells := 0, slots := 0, locals := 0 }, .code ⟨"JavaChain$Method", "addCatcher", "(III)I"⟩ prog_4_method_5_code 4 (some .int))
def m_La_verify : jl_M := (⟨"JavaChainLaw", "verify", "(LJavaChain;[J)I"⟩, method_8_code, 3, some .int, { frames := 8, cells := 1, slots := 6, locals := 192 }, .codeWith ⟨"JavaChainLaw", "verify", "(LJavaChain;[J)I"⟩ method_8_code 3 (some .int) [(0, 8, 11, 37)])
def m_JC_verify : jl_M := (⟨"JavaChain", "verify", "()I"⟩, prog_1_method_7_code, 1, some .int, { frames := 7, cells := 1, slots := 6, locals := 172 }, .code ⟨"JavaChain", "verify", "()I"⟩ prog_1_method_7_code 1 (some .int))
def m_Ve_findsNoFault : jl_M := (⟨"JavaChain$Verifier", "findsNoFault", "()Z"⟩, prog_6_method_2_code, 4, some .boolean, { frames := 6, cells := 0, slots := 0, locals := 149 }, .code ⟨"JavaChain$Verifier", "findsNoFault", "()Z"⟩ prog_6_method_2_code 4 (some .boolean))
def m_Ve_forget : jl_M := (⟨"JavaChain$Verifier", "forget", "()V"⟩, prog_6_method_3_code, 2, none, { frames := 1, cells := 0, slots := 0, locals := 21 }, .code ⟨"JavaChain$Verifier", "forget", "()V"⟩ prog_6_method_3_code 2 (none))
def m_Ve_isFaultless : jl_M := (⟨"JavaChain$Verifier", "isFaultless", "(LJavaChain$Method;II)Z"⟩, prog_6_method_4_code, 7, some .boolean, { frames := 5, cells := 0, slots := 0, locals := 123 }, .code ⟨"JavaChain$Verifier", "isFaultless", "(LJavaChain$Method;II)Z"⟩ prog_6_method_4_code 7 (some .boolean))
def m_Ve_classesOfTypesAreThere : jl_M := (⟨"JavaChain$Verifier", "classesOfTypesAreThere", "(LJavaChain$Method;I)Z"⟩, prog_6_method_6_code, 4, some .boolean, { frames := 2, cells := 0, slots := 0, locals := 42 }, .code ⟨"JavaChain$Verifier", "classesOfTypesAreThere", "(LJavaChain$Method;I)Z"⟩ prog_6_method_6_code 4 (some .boolean))
def m_Wo_fieldType : jl_M := (⟨"JavaChain$World", "fieldType", "(II)I"⟩, prog_7_method_10_code, 5, some .int, { frames := 0, cells := 0, slots := 0, locals := 0 }, .code ⟨"JavaChain$World", "fieldType", "(II)I"⟩ prog_7_method_10_code 5 (some .int))
def m_Wo_hasTypesClass : jl_M := (⟨"JavaChain$World", "hasTypesClass", "(I)Z"⟩, prog_7_method_3_code, 2, some .boolean, { frames := 1, cells := 0, slots := 0, locals := 21 }, .code ⟨"JavaChain$World", "hasTypesClass", "(I)Z"⟩ prog_7_method_3_code 2 (some .boolean))
def m_Ve_tell : jl_M := (⟨"JavaChain$Verifier", "tell", "(IIII)V"⟩, prog_6_method_5_code, 5, none, { frames := 0, cells := 0, slots := 0, locals := 0 }, .code ⟨"JavaChain$Verifier", "tell", "(IIII)V"⟩ prog_6_method_5_code 5 (none))
def m_Ve_start : jl_M := (⟨"JavaChain$Verifier", "start", "(LJavaChain$Method;I)V"⟩, prog_6_method_7_code, 4, none, { frames := 4, cells := 0, slots := 0, locals := 95 }, .code ⟨"JavaChain$Verifier", "start", "(LJavaChain$Method;I)V"⟩ prog_6_method_7_code 4 (none))
def m_Ve_meet : jl_M := (⟨"JavaChain$Verifier", "meet", "(LJavaChain$Method;I)Z"⟩, prog_6_method_14_code, 6, some .boolean, { frames := 3, cells := 0, slots := 0, locals := 70 }, .code ⟨"JavaChain$Verifier", "meet", "(LJavaChain$Method;I)Z"⟩ prog_6_method_14_code 6 (some .boolean))
def m_Me_hasMap : jl_M := (⟨"JavaChain$Method", "hasMap", "(I)Z"⟩, prog_4_method_7_code, 2, some .boolean, { frames := 0, cells := 0, slots := 0, locals := 0 }, .code ⟨"JavaChain$Method", "hasMap", "(I)Z"⟩ prog_4_method_7_code 2 (some .boolean))
def m_Wo_join : jl_M := (⟨"JavaChain$World", "join", "(II)I"⟩, prog_7_method_19_code, 5, some .int, { frames := 2, cells := 0, slots := 0, locals := 46 }, .code ⟨"JavaChain$World", "join", "(II)I"⟩ prog_7_method_19_code 5 (some .int))
def m_Wo_isPart : jl_M := (⟨"JavaChain$World", "isPart", "(II)Z"⟩, prog_7_method_18_code, 3, some .boolean, { frames := 1, cells := 0, slots := 0, locals := 24 }, .code ⟨"JavaChain$World", "isPart", "(II)Z"⟩ prog_7_method_18_code 3 (some .boolean))
def m_Me_leastFresh : jl_M := (⟨"JavaChain$Method", "leastFresh", "()I"⟩, prog_4_method_9_code, 2, some .int, { frames := 0, cells := 0, slots := 0, locals := 0 }, .code ⟨"JavaChain$Method", "leastFresh", "()I"⟩ prog_4_method_9_code 2 (some .int))
def m_Ck_firstFault : jl_M := (⟨"JavaChain$Checker", "firstFault", "(LJavaChain$Method;I[II)I"⟩, prog_2_method_2_code, 5, some .int, { frames := 4, cells := 0, slots := 0, locals := 99 }, .code ⟨"JavaChain$Checker", "firstFault", "(LJavaChain$Method;I[II)I"⟩ prog_2_method_2_code 5 (some .int))
def m_Ck_placesAreThere : jl_M := (⟨"JavaChain$Checker", "placesAreThere", "(LJavaChain$Method;I)Z"⟩, prog_2_method_6_code, 4, some .boolean, { frames := 1, cells := 0, slots := 0, locals := 22 }, .code ⟨"JavaChain$Checker", "placesAreThere", "(LJavaChain$Method;I)Z"⟩ prog_2_method_6_code 4 (some .boolean))
def m_Me_isAround : jl_M := (⟨"JavaChain$Method", "isAround", "(II)Z"⟩, prog_4_method_6_code, 3, some .boolean, { frames := 0, cells := 0, slots := 0, locals := 0 }, .code ⟨"JavaChain$Method", "isAround", "(II)Z"⟩ prog_4_method_6_code 3 (some .boolean))
def m_Ck_jumps : jl_M := (⟨"JavaChain$Checker", "jumps", "(I)Z"⟩, prog_2_method_3_code, 2, some .boolean, { frames := 0, cells := 0, slots := 0, locals := 0 }, .code ⟨"JavaChain$Checker", "jumps", "(I)Z"⟩ prog_2_method_3_code 2 (some .boolean))
def m_Ck_goesOn : jl_M := (⟨"JavaChain$Checker", "goesOn", "(I)Z"⟩, prog_2_method_4_code, 2, some .boolean, { frames := 0, cells := 0, slots := 0, locals := 0 }, .code ⟨"JavaChain$Checker", "goesOn", "(I)Z"⟩ prog_2_method_4_code 2 (some .boolean))
def m_Ck_namesAreThere : jl_M := (⟨"JavaChain$Checker", "namesAreThere", "(LJavaChain$Method;I)Z"⟩, prog_2_method_7_code, 4, some .boolean, { frames := 2, cells := 0, slots := 0, locals := 47 }, .code ⟨"JavaChain$Checker", "namesAreThere", "(LJavaChain$Method;I)Z"⟩ prog_2_method_7_code 4 (some .boolean))
def m_Wo_hasField : jl_M := (⟨"JavaChain$World", "hasField", "(II)Z"⟩, prog_7_method_9_code, 3, some .boolean, { frames := 1, cells := 0, slots := 0, locals := 21 }, .code ⟨"JavaChain$World", "hasField", "(II)Z"⟩ prog_7_method_9_code 3 (some .boolean))
def m_Wo_found : jl_M := (⟨"JavaChain$World", "found", "(II)LJavaChain$Method;"⟩, prog_7_method_13_code, 6, some (.object "JavaChain$Method"), { frames := 1, cells := 0, slots := 0, locals := 22 }, .code ⟨"JavaChain$World", "found", "(II)LJavaChain$Method;"⟩ prog_7_method_13_code 6 (some (.object "JavaChain$Method")))
def m_Ck_heightFits : jl_M := (⟨"JavaChain$Checker", "heightFits", "(III)Z"⟩, prog_2_method_8_code, 5, some .boolean, { frames := 3, cells := 0, slots := 0, locals := 70 }, .code ⟨"JavaChain$Checker", "heightFits", "(III)Z"⟩ prog_2_method_8_code 5 (some .boolean))
def m_Ck_takes : jl_M := (⟨"JavaChain$Checker", "takes", "(II)I"⟩, prog_2_method_5_code, 4, some .int, { frames := 2, cells := 0, slots := 0, locals := 47 }, .code ⟨"JavaChain$Checker", "takes", "(II)I"⟩ prog_2_method_5_code 4 (some .int))
def m_Me_parameters : jl_M := (⟨"JavaChain$Method", "parameters", "()I"⟩, prog_4_method_2_code, 1, some .int, { frames := 0, cells := 0, slots := 0, locals := 0 }, .code ⟨"JavaChain$Method", "parameters", "()I"⟩ prog_4_method_2_code 1 (some .int))
def m_Ck_typesFit : jl_M := (⟨"JavaChain$Checker", "typesFit", "(LJavaChain$Method;I[II)Z"⟩, prog_2_method_9_code, 7, some .boolean, { frames := 3, cells := 0, slots := 0, locals := 73 }, .code ⟨"JavaChain$Checker", "typesFit", "(LJavaChain$Method;I[II)Z"⟩ prog_2_method_9_code 7 (some .boolean))
def m_Ck_callFits : jl_M := (⟨"JavaChain$Checker", "callFits", "(I[II)Z"⟩, prog_2_method_10_code, 7, some .boolean, { frames := 2, cells := 0, slots := 0, locals := 47 }, .code ⟨"JavaChain$Checker", "callFits", "(I[II)Z"⟩ prog_2_method_10_code 7 (some .boolean))
def m_Me_parameter : jl_M := (⟨"JavaChain$Method", "parameter", "(I)I"⟩, prog_4_method_3_code, 2, some .int, { frames := 0, cells := 0, slots := 0, locals := 0 }, .code ⟨"JavaChain$Method", "parameter", "(I)I"⟩ prog_4_method_3_code 2 (some .int))
def m_Ve_giveCatchers : jl_M := (⟨"JavaChain$Verifier", "giveCatchers", "(LJavaChain$Method;I)Z"⟩, prog_6_method_8_code, 4, some .boolean, { frames := 4, cells := 0, slots := 0, locals := 95 }, .code ⟨"JavaChain$Verifier", "giveCatchers", "(LJavaChain$Method;I)Z"⟩ prog_6_method_8_code 4 (some .boolean))
def m_Ve_lower : jl_M := (⟨"JavaChain$Verifier", "lower", "(I)V"⟩, prog_6_method_12_code, 3, none, { frames := 0, cells := 0, slots := 0, locals := 0 }, .code ⟨"JavaChain$Verifier", "lower", "(I)V"⟩ prog_6_method_12_code 3 (none))
def m_Ve_put : jl_M := (⟨"JavaChain$Verifier", "put", "(I)V"⟩, prog_6_method_13_code, 2, none, { frames := 0, cells := 0, slots := 0, locals := 0 }, .code ⟨"JavaChain$Verifier", "put", "(I)V"⟩ prog_6_method_13_code 2 (none))
def m_Ve_giveNext : jl_M := (⟨"JavaChain$Verifier", "giveNext", "(LJavaChain$Method;I)Z"⟩, prog_6_method_9_code, 5, some .boolean, { frames := 4, cells := 0, slots := 0, locals := 95 }, .code ⟨"JavaChain$Verifier", "giveNext", "(LJavaChain$Method;I)Z"⟩ prog_6_method_9_code 5 (some .boolean))
def m_Ve_act : jl_M := (⟨"JavaChain$Verifier", "act", "(II)V"⟩, prog_6_method_10_code, 5, none, { frames := 3, cells := 0, slots := 0, locals := 71 }, .code ⟨"JavaChain$Verifier", "act", "(II)V"⟩ prog_6_method_10_code 5 (none))
def m_Ve_typeOfResult : jl_M := (⟨"JavaChain$Verifier", "typeOfResult", "(III)I"⟩, prog_6_method_11_code, 5, some .int, { frames := 2, cells := 0, slots := 0, locals := 47 }, .code ⟨"JavaChain$Verifier", "typeOfResult", "(III)I"⟩ prog_6_method_11_code 5 (some .int))
def m_JC_needSupport : jl_M := (⟨"JavaChain", "needSupport", "(Z)V"⟩, prog_1_method_21_code, 1, none, { frames := 6, cells := 1, slots := 6, locals := 90 }, .code ⟨"JavaChain", "needSupport", "(Z)V"⟩ prog_1_method_21_code 1 (none))
def m_Wo_methodCount : jl_M := (⟨"JavaChain$World", "methodCount", "()I"⟩, prog_7_method_15_code, 3, some .int, { frames := 2, cells := 0, slots := 0, locals := 45 }, .code ⟨"JavaChain$World", "methodCount", "()I"⟩ prog_7_method_15_code 3 (some .int))
def m_La_map : jl_M := (⟨"JavaChainLaw", "map", "(LJavaChain;IIII[J)I"⟩, method_9_code, 7, some .int, { frames := 9, cells := 5, slots := 30, locals := 158 }, .codeWith ⟨"JavaChainLaw", "map", "(LJavaChain;IIII[J)I"⟩ method_9_code 7 (some .int) [(0, 14, 17, 13), (0, 14, 21, 20)])
def m_JC_map : jl_M := (⟨"JavaChain", "map", "(IIII)I"⟩, prog_1_method_8_code, 6, some .int, { frames := 8, cells := 5, slots := 30, locals := 133 }, .code ⟨"JavaChain", "map", "(IIII)I"⟩ prog_1_method_8_code 6 (some .int))
def m_La_run : jl_M := (⟨"JavaChainLaw", "run", "(LJavaChain;IIIIZ[J)I"⟩, method_10_code, 8, some .int, { frames := 8, cells := 6, slots := 36, locals := 192 }, .codeWith ⟨"JavaChainLaw", "run", "(LJavaChain;IIIIZ[J)I"⟩ method_10_code 8 (some .int) [(0, 16, 19, 13), (0, 16, 23, 20), (0, 16, 27, 15), (0, 16, 31, 37), (0, 16, 35, 46)])
def m_JC_run : jl_M := (⟨"JavaChain", "run", "(IIIIZ)I"⟩, prog_1_method_10_code, 7, some .int, { frames := 7, cells := 6, slots := 36, locals := 166 }, .code ⟨"JavaChain", "run", "(IIIIZ)I"⟩ prog_1_method_10_code 7 (some .int))
def m_JC_needIndex : jl_M := (⟨"JavaChain", "needIndex", "(Z)V"⟩, prog_1_method_22_code, 1, none, { frames := 6, cells := 1, slots := 6, locals := 90 }, .code ⟨"JavaChain", "needIndex", "(Z)V"⟩ prog_1_method_22_code 1 (none))
def m_Ma_begin : jl_M := (⟨"JavaChain$Machine", "begin", "(ILJavaChain$Method;II)V"⟩, prog_3_method_2_code, 7, none, { frames := 2, cells := 0, slots := 0, locals := 49 }, .code ⟨"JavaChain$Machine", "begin", "(ILJavaChain$Method;II)V"⟩ prog_3_method_2_code 7 (none))
def m_Ma_open : jl_M := (⟨"JavaChain$Machine", "open", "(LJavaChain$Method;)V"⟩, prog_3_method_5_code, 3, none, { frames := 1, cells := 0, slots := 0, locals := 23 }, .code ⟨"JavaChain$Machine", "open", "(LJavaChain$Method;)V"⟩ prog_3_method_5_code 3 (none))
def m_Ma_setLocal : jl_M := (⟨"JavaChain$Machine", "setLocal", "(III)V"⟩, prog_3_method_6_code, 4, none, { frames := 0, cells := 0, slots := 0, locals := 0 }, .code ⟨"JavaChain$Machine", "setLocal", "(III)V"⟩ prog_3_method_6_code 4 (none))
def m_St_makeObject : jl_M := (⟨"JavaChain$Store", "makeObject", "(LJavaChain$World;I)I"⟩, prog_5_method_5_code, 6, some .int, { frames := 1, cells := 0, slots := 0, locals := 24 }, .code ⟨"JavaChain$Store", "makeObject", "(LJavaChain$World;I)I"⟩ prog_5_method_5_code 6 (some .int))
def m_St_cell : jl_M := (⟨"JavaChain$Store", "cell", "(II)I"⟩, prog_5_method_4_code, 3, some .int, { frames := 0, cells := 0, slots := 0, locals := 0 }, .code ⟨"JavaChain$Store", "cell", "(II)I"⟩ prog_5_method_4_code 3 (some .int))
def m_St_addSized : jl_M := (⟨"JavaChain$Store", "addSized", "(I)I"⟩, prog_5_method_7_code, 2, some .int, { frames := 0, cells := 0, slots := 0, locals := 0 }, .code ⟨"JavaChain$Store", "addSized", "(I)I"⟩ prog_5_method_7_code 2 (some .int))
def m_Ma_carryOn : jl_M := (⟨"JavaChain$Machine", "carryOn", "(IZ)V"⟩, prog_3_method_3_code, 4, none, { frames := 6, cells := 0, slots := 0, locals := 143 }, .code ⟨"JavaChain$Machine", "carryOn", "(IZ)V"⟩ prog_3_method_3_code 4 (none))
def m_Ma_end : jl_M := (⟨"JavaChain$Machine", "end", "(II)V"⟩, prog_3_method_4_code, 3, none, { frames := 0, cells := 0, slots := 0, locals := 0 }, .code ⟨"JavaChain$Machine", "end", "(II)V"⟩ prog_3_method_4_code 3 (none))
def m_Ma_step : jl_M := (⟨"JavaChain$Machine", "step", "()V"⟩, prog_3_method_9_code, 5, none, { frames := 5, cells := 0, slots := 0, locals := 119 }, .code ⟨"JavaChain$Machine", "step", "()V"⟩ prog_3_method_9_code 5 (none))
def m_Ma_isJumpTaken : jl_M := (⟨"JavaChain$Machine", "isJumpTaken", "(I)Z"⟩, prog_3_method_10_code, 3, some .boolean, { frames := 1, cells := 0, slots := 0, locals := 21 }, .code ⟨"JavaChain$Machine", "isJumpTaken", "(I)Z"⟩ prog_3_method_10_code 3 (some .boolean))
def m_Ma_take : jl_M := (⟨"JavaChain$Machine", "take", "()I"⟩, prog_3_method_7_code, 2, some .int, { frames := 0, cells := 0, slots := 0, locals := 0 }, .code ⟨"JavaChain$Machine", "take", "()I"⟩ prog_3_method_7_code 2 (some .int))
def m_Ma_callMethod : jl_M := (⟨"JavaChain$Machine", "callMethod", "(I)V"⟩, prog_3_method_11_code, 6, none, { frames := 3, cells := 0, slots := 0, locals := 72 }, .code ⟨"JavaChain$Machine", "callMethod", "(I)V"⟩ prog_3_method_11_code 6 (none))
def m_Ma_raise : jl_M := (⟨"JavaChain$Machine", "raise", "(III)V"⟩, prog_3_method_14_code, 7, none, { frames := 2, cells := 0, slots := 0, locals := 46 }, .code ⟨"JavaChain$Machine", "raise", "(III)V"⟩ prog_3_method_14_code 7 (none))
def m_Ma_catches : jl_M := (⟨"JavaChain$Machine", "catches", "(II)Z"⟩, prog_3_method_15_code, 3, some .boolean, { frames := 1, cells := 0, slots := 0, locals := 24 }, .code ⟨"JavaChain$Machine", "catches", "(II)Z"⟩ prog_3_method_15_code 3 (some .boolean))
def m_Ma_put : jl_M := (⟨"JavaChain$Machine", "put", "(II)V"⟩, prog_3_method_8_code, 5, none, { frames := 0, cells := 0, slots := 0, locals := 0 }, .code ⟨"JavaChain$Machine", "put", "(II)V"⟩ prog_3_method_8_code 5 (none))
def m_Ma_throwTaken : jl_M := (⟨"JavaChain$Machine", "throwTaken", "()V"⟩, prog_3_method_12_code, 2, none, { frames := 3, cells := 0, slots := 0, locals := 72 }, .code ⟨"JavaChain$Machine", "throwTaken", "()V"⟩ prog_3_method_12_code 2 (none))
def m_Ma_leave : jl_M := (⟨"JavaChain$Machine", "leave", "()V"⟩, prog_3_method_13_code, 2, none, { frames := 1, cells := 0, slots := 0, locals := 24 }, .code ⟨"JavaChain$Machine", "leave", "()V"⟩ prog_3_method_13_code 2 (none))
def m_Ma_actOnStack : jl_M := (⟨"JavaChain$Machine", "actOnStack", "(II)I"⟩, prog_3_method_16_code, 5, some .int, { frames := 4, cells := 0, slots := 0, locals := 95 }, .code ⟨"JavaChain$Machine", "actOnStack", "(II)I"⟩ prog_3_method_16_code 5 (some .int))
def m_Ma_reckon : jl_M := (⟨"JavaChain$Machine", "reckon", "(I)I"⟩, prog_3_method_17_code, 4, some .int, { frames := 1, cells := 0, slots := 0, locals := 24 }, .code ⟨"JavaChain$Machine", "reckon", "(I)I"⟩ prog_3_method_17_code 4 (some .int))
def m_Ma_actOnRow : jl_M := (⟨"JavaChain$Machine", "actOnRow", "(I)I"⟩, prog_3_method_18_code, 6, some .int, { frames := 3, cells := 0, slots := 0, locals := 65 }, .code ⟨"JavaChain$Machine", "actOnRow", "(I)I"⟩ prog_3_method_18_code 6 (some .int))
def m_Ma_makeRow : jl_M := (⟨"JavaChain$Machine", "makeRow", "(I)I"⟩, prog_3_method_19_code, 2, some .int, { frames := 2, cells := 0, slots := 0, locals := 44 }, .code ⟨"JavaChain$Machine", "makeRow", "(I)I"⟩ prog_3_method_19_code 2 (some .int))
def m_St_isFull : jl_M := (⟨"JavaChain$Store", "isFull", "()Z"⟩, prog_5_method_2_code, 1, some .boolean, { frames := 0, cells := 0, slots := 0, locals := 0 }, .code ⟨"JavaChain$Store", "isFull", "()Z"⟩ prog_5_method_2_code 1 (some .boolean))
def m_St_makeRow : jl_M := (⟨"JavaChain$Store", "makeRow", "(I)I"⟩, prog_5_method_6_code, 3, some .int, { frames := 1, cells := 0, slots := 0, locals := 22 }, .code ⟨"JavaChain$Store", "makeRow", "(I)I"⟩ prog_5_method_6_code 3 (some .int))
def m_St_has : jl_M := (⟨"JavaChain$Store", "has", "(II)Z"⟩, prog_5_method_3_code, 3, some .boolean, { frames := 0, cells := 0, slots := 0, locals := 0 }, .code ⟨"JavaChain$Store", "has", "(II)Z"⟩ prog_5_method_3_code 3 (some .boolean))
def m_Ma_actOnObject : jl_M := (⟨"JavaChain$Machine", "actOnObject", "(II)I"⟩, prog_3_method_20_code, 6, some .int, { frames := 3, cells := 0, slots := 0, locals := 70 }, .code ⟨"JavaChain$Machine", "actOnObject", "(II)I"⟩ prog_3_method_20_code 6 (some .int))
def m_Ma_makeObject : jl_M := (⟨"JavaChain$Machine", "makeObject", "(I)V"⟩, prog_3_method_21_code, 2, none, { frames := 2, cells := 0, slots := 0, locals := 49 }, .code ⟨"JavaChain$Machine", "makeObject", "(I)V"⟩ prog_3_method_21_code 2 (none))
def m_Ma_getField : jl_M := (⟨"JavaChain$Machine", "getField", "(I)I"⟩, prog_3_method_22_code, 4, some .int, { frames := 1, cells := 0, slots := 0, locals := 24 }, .code ⟨"JavaChain$Machine", "getField", "(I)I"⟩ prog_3_method_22_code 4 (some .int))
def m_Ma_setField : jl_M := (⟨"JavaChain$Machine", "setField", "(I)I"⟩, prog_3_method_23_code, 5, some .int, { frames := 1, cells := 0, slots := 0, locals := 22 }, .code ⟨"JavaChain$Machine", "setField", "(I)I"⟩ prog_3_method_23_code 5 (some .int))
def m_La_outcome : jl_M := (⟨"JavaChainLaw", "outcome", "(LJavaChain;I[J)I"⟩, method_11_code, 4, some .int, { frames := 8, cells := 1, slots := 6, locals := 133 }, .codeWith ⟨"JavaChainLaw", "outcome", "(LJavaChain;I[J)I"⟩ method_11_code 4 (some .int) [(0, 9, 12, 13)])
def m_JC_outcome : jl_M := (⟨"JavaChain", "outcome", "(I)I"⟩, prog_1_method_11_code, 2, some .int, { frames := 7, cells := 1, slots := 6, locals := 112 }, .code ⟨"JavaChain", "outcome", "(I)I"⟩ prog_1_method_11_code 2 (some .int))
def m_La_heap : jl_M := (⟨"JavaChainLaw", "heap", "(LJavaChain;II[J)I"⟩, method_12_code, 5, some .int, { frames := 8, cells := 1, slots := 6, locals := 132 }, .codeWith ⟨"JavaChainLaw", "heap", "(LJavaChain;II[J)I"⟩ method_12_code 5 (some .int) [(0, 10, 13, 46)])
def m_JC_heap : jl_M := (⟨"JavaChain", "heap", "(II)I"⟩, prog_1_method_12_code, 3, some .int, { frames := 7, cells := 1, slots := 6, locals := 110 }, .code ⟨"JavaChain", "heap", "(II)I"⟩ prog_1_method_12_code 3 (some .int))
def m_La_about : jl_M := (⟨"JavaChainLaw", "about", "(LJavaChain;II[J)I"⟩, method_13_code, 5, some .int, { frames := 8, cells := 2, slots := 12, locals := 135 }, .codeWith ⟨"JavaChainLaw", "about", "(LJavaChain;II[J)I"⟩ method_13_code 5 (some .int) [(0, 10, 13, 13)])
def m_JC_about : jl_M := (⟨"JavaChain", "about", "(II)I"⟩, prog_1_method_13_code, 4, some .int, { frames := 7, cells := 2, slots := 12, locals := 112 }, .code ⟨"JavaChain", "about", "(II)I"⟩ prog_1_method_13_code 4 (some .int))
def m_Mo_init : jl_M := (⟨"JavaChainModel", "<init>", "()V"⟩, prog_9_method_1_code, 2, none, { frames := 1, cells := 30, slots := 9579, locals := 24 }, .code ⟨"JavaChainModel", "<init>", "()V"⟩ prog_9_method_1_code 2 (none))
def m_Mo_thrown : jl_M := (⟨"JavaChainModel", "thrown", "()I"⟩, prog_9_method_2_code, 1, some .int, { frames := 0, cells := 0, slots := 0, locals := 0 }, .code ⟨"JavaChainModel", "thrown", "()I"⟩ prog_9_method_2_code 1 (some .int))
def m_Mo_define : jl_M := (⟨"JavaChainModel", "define", "(II)I"⟩, prog_9_method_6_code, 5, some .int, { frames := 1, cells := 0, slots := 0, locals := 22 }, .code ⟨"JavaChainModel", "define", "(II)I"⟩ prog_9_method_6_code 5 (some .int))
def m_Mo_out : jl_M := (⟨"JavaChainModel", "out", "(II)Z"⟩, prog_9_method_4_code, 3, some .boolean, { frames := 0, cells := 0, slots := 0, locals := 0 }, .code ⟨"JavaChainModel", "out", "(II)Z"⟩ prog_9_method_4_code 3 (some .boolean))
def m_Mo_fail : jl_M := (⟨"JavaChainModel", "fail", "(I)I"⟩, prog_9_method_3_code, 2, some .int, { frames := 0, cells := 0, slots := 0, locals := 0 }, .code ⟨"JavaChainModel", "fail", "(I)I"⟩ prog_9_method_3_code 2 (some .int))
def m_Mo_field : jl_M := (⟨"JavaChainModel", "field", "(II)I"⟩, prog_9_method_10_code, 3, some .int, { frames := 1, cells := 0, slots := 0, locals := 23 }, .code ⟨"JavaChainModel", "field", "(II)I"⟩ prog_9_method_10_code 3 (some .int))
def m_Mo_isType : jl_M := (⟨"JavaChainModel", "isType", "(I)Z"⟩, prog_9_method_5_code, 2, some .boolean, { frames := 0, cells := 0, slots := 0, locals := 0 }, .code ⟨"JavaChainModel", "isType", "(I)Z"⟩ prog_9_method_5_code 2 (some .boolean))
def m_Mo_isSuper : jl_M := (⟨"JavaChainModel", "isSuper", "(I)Z"⟩, prog_9_method_7_code, 3, some .boolean, { frames := 0, cells := 0, slots := 0, locals := 0 }, .code ⟨"JavaChainModel", "isSuper", "(I)Z"⟩ prog_9_method_7_code 3 (some .boolean))
def m_Mo_fieldsOf : jl_M := (⟨"JavaChainModel", "fieldsOf", "(I)I"⟩, prog_9_method_8_code, 4, some .int, { frames := 0, cells := 0, slots := 0, locals := 0 }, .code ⟨"JavaChainModel", "fieldsOf", "(I)I"⟩ prog_9_method_8_code 4 (some .int))
def m_Mo_method : jl_M := (⟨"JavaChainModel", "method", "(IIIII)I"⟩, prog_9_method_12_code, 10, some .int, { frames := 1, cells := 0, slots := 0, locals := 23 }, .code ⟨"JavaChainModel", "method", "(IIIII)I"⟩ prog_9_method_12_code 10 (some .int))
def m_Mo_above : jl_M := (⟨"JavaChainModel", "above", "(II)Z"⟩, prog_9_method_11_code, 4, some .boolean, { frames := 0, cells := 0, slots := 0, locals := 0 }, .code ⟨"JavaChainModel", "above", "(II)Z"⟩ prog_9_method_11_code 4 (some .boolean))
def m_Mo_code : jl_M := (⟨"JavaChainModel", "code", "(IIII)I"⟩, prog_9_method_14_code, 6, some .int, { frames := 1, cells := 0, slots := 0, locals := 22 }, .code ⟨"JavaChainModel", "code", "(IIII)I"⟩ prog_9_method_14_code 6 (some .int))
def m_Mo_noMethod : jl_M := (⟨"JavaChainModel", "noMethod", "(II)Z"⟩, prog_9_method_13_code, 3, some .boolean, { frames := 0, cells := 0, slots := 0, locals := 0 }, .code ⟨"JavaChainModel", "noMethod", "(II)Z"⟩ prog_9_method_13_code 3 (some .boolean))
def m_Mo_catcher : jl_M := (⟨"JavaChainModel", "catcher", "(IIIII)I"⟩, prog_9_method_15_code, 8, some .int, { frames := 1, cells := 0, slots := 0, locals := 22 }, .code ⟨"JavaChainModel", "catcher", "(IIIII)I"⟩ prog_9_method_15_code 8 (some .int))
def m_Mo_verify : jl_M := (⟨"JavaChainModel", "verify", "()I"⟩, prog_9_method_39_code, 3, some .int, { frames := 6, cells := 0, slots := 0, locals := 147 }, .code ⟨"JavaChainModel", "verify", "()I"⟩ prog_9_method_39_code 3 (some .int))
def m_Mo_verifyMethod : jl_M := (⟨"JavaChainModel", "verifyMethod", "(I)Z"⟩, prog_9_method_38_code, 4, some .boolean, { frames := 5, cells := 0, slots := 0, locals := 124 }, .code ⟨"JavaChainModel", "verifyMethod", "(I)Z"⟩ prog_9_method_38_code 4 (some .boolean))
def m_Mo_badTypes : jl_M := (⟨"JavaChainModel", "badTypes", "(I)Z"⟩, prog_9_method_37_code, 4, some .boolean, { frames := 2, cells := 0, slots := 0, locals := 46 }, .code ⟨"JavaChainModel", "badTypes", "(I)Z"⟩ prog_9_method_37_code 4 (some .boolean))
def m_Mo_missing : jl_M := (⟨"JavaChainModel", "missing", "(I)Z"⟩, prog_9_method_36_code, 2, some .boolean, { frames := 0, cells := 0, slots := 0, locals := 0 }, .code ⟨"JavaChainModel", "missing", "(I)Z"⟩ prog_9_method_36_code 2 (some .boolean))
def m_Mo_typeOfField : jl_M := (⟨"JavaChainModel", "typeOfField", "(II)I"⟩, prog_9_method_9_code, 4, some .int, { frames := 1, cells := 0, slots := 0, locals := 23 }, .code ⟨"JavaChainModel", "typeOfField", "(II)I"⟩ prog_9_method_9_code 4 (some .int))
def m_Mo_give : jl_M := (⟨"JavaChainModel", "give", "(II)Z"⟩, prog_9_method_31_code, 7, some .boolean, { frames := 3, cells := 0, slots := 0, locals := 68 }, .code ⟨"JavaChainModel", "give", "(II)Z"⟩ prog_9_method_31_code 7 (some .boolean))
def m_Mo_join : jl_M := (⟨"JavaChainModel", "join", "(II)I"⟩, prog_9_method_17_code, 4, some .int, { frames := 2, cells := 0, slots := 0, locals := 45 }, .code ⟨"JavaChainModel", "join", "(II)I"⟩ prog_9_method_17_code 4 (some .int))
def m_Mo_part : jl_M := (⟨"JavaChainModel", "part", "(II)Z"⟩, prog_9_method_16_code, 3, some .boolean, { frames := 1, cells := 0, slots := 0, locals := 23 }, .code ⟨"JavaChainModel", "part", "(II)Z"⟩ prog_9_method_16_code 3 (some .boolean))
def m_Mo_lookAt : jl_M := (⟨"JavaChainModel", "lookAt", "(II)I"⟩, prog_9_method_35_code, 7, some .int, { frames := 4, cells := 0, slots := 0, locals := 98 }, .code ⟨"JavaChainModel", "lookAt", "(II)I"⟩ prog_9_method_35_code 7 (some .int))
def m_Mo_takeMap : jl_M := (⟨"JavaChainModel", "takeMap", "(II)V"⟩, prog_9_method_32_code, 5, none, { frames := 0, cells := 0, slots := 0, locals := 0 }, .code ⟨"JavaChainModel", "takeMap", "(II)V"⟩ prog_9_method_32_code 5 (none))
def m_Mo_faultAt : jl_M := (⟨"JavaChainModel", "faultAt", "(II)I"⟩, prog_9_method_30_code, 6, some .int, { frames := 3, cells := 0, slots := 0, locals := 73 }, .code ⟨"JavaChainModel", "faultAt", "(II)I"⟩ prog_9_method_30_code 6 (some .int))
def m_Mo_fault4 : jl_M := (⟨"JavaChainModel", "fault4", "(II)Z"⟩, prog_9_method_24_code, 4, some .boolean, { frames := 1, cells := 0, slots := 0, locals := 22 }, .code ⟨"JavaChainModel", "fault4", "(II)Z"⟩ prog_9_method_24_code 4 (some .boolean))
def m_Mo_around : jl_M := (⟨"JavaChainModel", "around", "(II)Z"⟩, prog_9_method_21_code, 3, some .boolean, { frames := 0, cells := 0, slots := 0, locals := 0 }, .code ⟨"JavaChainModel", "around", "(II)Z"⟩ prog_9_method_21_code 3 (some .boolean))
def m_Mo_jumps : jl_M := (⟨"JavaChainModel", "jumps", "(I)Z"⟩, prog_9_method_22_code, 2, some .boolean, { frames := 0, cells := 0, slots := 0, locals := 0 }, .code ⟨"JavaChainModel", "jumps", "(I)Z"⟩ prog_9_method_22_code 2 (some .boolean))
def m_Mo_falls : jl_M := (⟨"JavaChainModel", "falls", "(I)Z"⟩, prog_9_method_23_code, 2, some .boolean, { frames := 0, cells := 0, slots := 0, locals := 0 }, .code ⟨"JavaChainModel", "falls", "(I)Z"⟩ prog_9_method_23_code 2 (some .boolean))
def m_Mo_fault5 : jl_M := (⟨"JavaChainModel", "fault5", "(II)Z"⟩, prog_9_method_25_code, 5, some .boolean, { frames := 2, cells := 0, slots := 0, locals := 43 }, .code ⟨"JavaChainModel", "fault5", "(II)Z"⟩ prog_9_method_25_code 5 (some .boolean))
def m_Mo_isClass : jl_M := (⟨"JavaChainModel", "isClass", "(I)Z"⟩, prog_9_method_20_code, 2, some .boolean, { frames := 1, cells := 0, slots := 0, locals := 22 }, .code ⟨"JavaChainModel", "isClass", "(I)Z"⟩ prog_9_method_20_code 2 (some .boolean))
def m_Mo_methodOf : jl_M := (⟨"JavaChainModel", "methodOf", "(II)I"⟩, prog_9_method_18_code, 4, some .int, { frames := 0, cells := 0, slots := 0, locals := 0 }, .code ⟨"JavaChainModel", "methodOf", "(II)I"⟩ prog_9_method_18_code 4 (some .int))
def m_Mo_takes : jl_M := (⟨"JavaChainModel", "takes", "(II)I"⟩, prog_9_method_26_code, 3, some .int, { frames := 1, cells := 0, slots := 0, locals := 23 }, .code ⟨"JavaChainModel", "takes", "(II)I"⟩ prog_9_method_26_code 3 (some .int))
def m_Mo_parameters : jl_M := (⟨"JavaChainModel", "parameters", "(I)I"⟩, prog_9_method_19_code, 2, some .int, { frames := 0, cells := 0, slots := 0, locals := 0 }, .code ⟨"JavaChainModel", "parameters", "(I)I"⟩ prog_9_method_19_code 2 (some .int))
def m_Mo_puts : jl_M := (⟨"JavaChainModel", "puts", "(I)I"⟩, prog_9_method_27_code, 2, some .int, { frames := 0, cells := 0, slots := 0, locals := 0 }, .code ⟨"JavaChainModel", "puts", "(I)I"⟩ prog_9_method_27_code 2 (some .int))
def m_Mo_fits : jl_M := (⟨"JavaChainModel", "fits", "(IIII)Z"⟩, prog_9_method_29_code, 8, some .boolean, { frames := 2, cells := 0, slots := 0, locals := 46 }, .code ⟨"JavaChainModel", "fits", "(IIII)Z"⟩ prog_9_method_29_code 8 (some .boolean))
def m_Mo_isReference : jl_M := (⟨"JavaChainModel", "isReference", "(I)Z"⟩, prog_9_method_28_code, 2, some .boolean, { frames := 0, cells := 0, slots := 0, locals := 0 }, .code ⟨"JavaChainModel", "isReference", "(I)Z"⟩ prog_9_method_28_code 2 (some .boolean))
def m_Mo_push : jl_M := (⟨"JavaChainModel", "push", "(I)V"⟩, prog_9_method_33_code, 2, none, { frames := 0, cells := 0, slots := 0, locals := 0 }, .code ⟨"JavaChainModel", "push", "(I)V"⟩ prog_9_method_33_code 2 (none))
def m_Mo_pass : jl_M := (⟨"JavaChainModel", "pass", "(II)V"⟩, prog_9_method_34_code, 6, none, { frames := 2, cells := 0, slots := 0, locals := 46 }, .code ⟨"JavaChainModel", "pass", "(II)V"⟩ prog_9_method_34_code 6 (none))
def m_Mo_map : jl_M := (⟨"JavaChainModel", "map", "(IIII)I"⟩, prog_9_method_40_code, 6, some .int, { frames := 1, cells := 0, slots := 0, locals := 22 }, .code ⟨"JavaChainModel", "map", "(IIII)I"⟩ prog_9_method_40_code 6 (some .int))
def m_Mo_fault : jl_M := (⟨"JavaChainModel", "fault", "(Z)I"⟩, prog_9_method_41_code, 2, some .int, { frames := 0, cells := 0, slots := 0, locals := 0 }, .code ⟨"JavaChainModel", "fault", "(Z)I"⟩ prog_9_method_41_code 2 (some .int))
def m_Mo_run : jl_M := (⟨"JavaChainModel", "run", "(IIIIZ)I"⟩, prog_9_method_66_code, 10, some .int, { frames := 5, cells := 0, slots := 0, locals := 120 }, .code ⟨"JavaChainModel", "run", "(IIIIZ)I"⟩ prog_9_method_66_code 10 (some .int))
def m_Mo_enter : jl_M := (⟨"JavaChainModel", "enter", "(I)V"⟩, prog_9_method_44_code, 3, none, { frames := 0, cells := 0, slots := 0, locals := 0 }, .code ⟨"JavaChainModel", "enter", "(I)V"⟩ prog_9_method_44_code 3 (none))
def m_Mo_make : jl_M := (⟨"JavaChainModel", "make", "(II)I"⟩, prog_9_method_43_code, 4, some .int, { frames := 2, cells := 0, slots := 0, locals := 46 }, .code ⟨"JavaChainModel", "make", "(II)I"⟩ prog_9_method_43_code 4 (some .int))
def m_Mo_end : jl_M := (⟨"JavaChainModel", "end", "(II)V"⟩, prog_9_method_42_code, 3, none, { frames := 0, cells := 0, slots := 0, locals := 0 }, .code ⟨"JavaChainModel", "end", "(II)V"⟩ prog_9_method_42_code 3 (none))
def m_Mo_setLocal : jl_M := (⟨"JavaChainModel", "setLocal", "(IIII)V"⟩, prog_9_method_45_code, 5, none, { frames := 0, cells := 0, slots := 0, locals := 0 }, .code ⟨"JavaChainModel", "setLocal", "(IIII)V"⟩ prog_9_method_45_code 5 (none))
def m_Mo_guard : jl_M := (⟨"JavaChainModel", "guard", "()I"⟩, prog_9_method_49_code, 3, some .int, { frames := 4, cells := 0, slots := 0, locals := 98 }, .code ⟨"JavaChainModel", "guard", "()I"⟩ prog_9_method_49_code 3 (some .int))
def m_Mo_typeOf : jl_M := (⟨"JavaChainModel", "typeOf", "(II)I"⟩, prog_9_method_48_code, 3, some .int, { frames := 0, cells := 0, slots := 0, locals := 0 }, .code ⟨"JavaChainModel", "typeOf", "(II)I"⟩ prog_9_method_48_code 3 (some .int))
def m_Mo_step : jl_M := (⟨"JavaChainModel", "step", "()V"⟩, prog_9_method_65_code, 5, none, { frames := 4, cells := 0, slots := 0, locals := 95 }, .code ⟨"JavaChainModel", "step", "()V"⟩ prog_9_method_65_code 5 (none))
def m_Mo_arithmetic : jl_M := (⟨"JavaChainModel", "arithmetic", "(I)V"⟩, prog_9_method_57_code, 4, none, { frames := 3, cells := 0, slots := 0, locals := 69 }, .code ⟨"JavaChainModel", "arithmetic", "(I)V"⟩ prog_9_method_57_code 4 (none))
def m_Mo_top : jl_M := (⟨"JavaChainModel", "top", "(I)I"⟩, prog_9_method_47_code, 3, some .int, { frames := 0, cells := 0, slots := 0, locals := 0 }, .code ⟨"JavaChainModel", "top", "(I)I"⟩ prog_9_method_47_code 3 (some .int))
def m_Mo_signalNumber : jl_M := (⟨"JavaChainModel", "signalNumber", "(I)V"⟩, prog_9_method_51_code, 2, none, { frames := 2, cells := 0, slots := 0, locals := 48 }, .code ⟨"JavaChainModel", "signalNumber", "(I)V"⟩ prog_9_method_51_code 2 (none))
def m_Mo_signal : jl_M := (⟨"JavaChainModel", "signal", "(I)V"⟩, prog_9_method_50_code, 6, none, { frames := 1, cells := 0, slots := 0, locals := 23 }, .code ⟨"JavaChainModel", "signal", "(I)V"⟩ prog_9_method_50_code 6 (none))
def m_Mo_put : jl_M := (⟨"JavaChainModel", "put", "(II)V"⟩, prog_9_method_46_code, 4, none, { frames := 0, cells := 0, slots := 0, locals := 0 }, .code ⟨"JavaChainModel", "put", "(II)V"⟩ prog_9_method_46_code 4 (none))
def m_Mo_become : jl_M := (⟨"JavaChainModel", "become", "(II)V"⟩, prog_9_method_53_code, 3, none, { frames := 1, cells := 0, slots := 0, locals := 23 }, .code ⟨"JavaChainModel", "become", "(II)V"⟩ prog_9_method_53_code 3 (none))
def m_Mo_drop : jl_M := (⟨"JavaChainModel", "drop", "(I)V"⟩, prog_9_method_52_code, 2, none, { frames := 0, cells := 0, slots := 0, locals := 0 }, .code ⟨"JavaChainModel", "drop", "(I)V"⟩ prog_9_method_52_code 2 (none))
def m_Mo_next : jl_M := (⟨"JavaChainModel", "next", "()V"⟩, prog_9_method_54_code, 1, none, { frames := 0, cells := 0, slots := 0, locals := 0 }, .code ⟨"JavaChainModel", "next", "()V"⟩ prog_9_method_54_code 1 (none))
def m_Mo_branch : jl_M := (⟨"JavaChainModel", "branch", "(II)V"⟩, prog_9_method_58_code, 4, none, { frames := 2, cells := 0, slots := 0, locals := 45 }, .code ⟨"JavaChainModel", "branch", "(II)V"⟩ prog_9_method_58_code 4 (none))
def m_Mo_create : jl_M := (⟨"JavaChainModel", "create", "(II)V"⟩, prog_9_method_59_code, 5, none, { frames := 3, cells := 0, slots := 0, locals := 69 }, .code ⟨"JavaChainModel", "create", "(II)V"⟩ prog_9_method_59_code 5 (none))
def m_Mo_fieldOf : jl_M := (⟨"JavaChainModel", "fieldOf", "(II)V"⟩, prog_9_method_60_code, 7, none, { frames := 3, cells := 0, slots := 0, locals := 69 }, .code ⟨"JavaChainModel", "fieldOf", "(II)V"⟩ prog_9_method_60_code 7 (none))
def m_Mo_call : jl_M := (⟨"JavaChainModel", "call", "(I)V"⟩, prog_9_method_55_code, 6, none, { frames := 3, cells := 0, slots := 0, locals := 69 }, .code ⟨"JavaChainModel", "call", "(I)V"⟩ prog_9_method_55_code 6 (none))
def m_Mo_castTo : jl_M := (⟨"JavaChainModel", "castTo", "(I)V"⟩, prog_9_method_62_code, 3, none, { frames := 3, cells := 0, slots := 0, locals := 69 }, .code ⟨"JavaChainModel", "castTo", "(I)V"⟩ prog_9_method_62_code 3 (none))
def m_Mo_raise : jl_M := (⟨"JavaChainModel", "raise", "()V"⟩, prog_9_method_63_code, 2, none, { frames := 3, cells := 0, slots := 0, locals := 69 }, .code ⟨"JavaChainModel", "raise", "()V"⟩ prog_9_method_63_code 2 (none))
def m_Mo_giveBack : jl_M := (⟨"JavaChainModel", "giveBack", "()V"⟩, prog_9_method_56_code, 4, none, { frames := 1, cells := 0, slots := 0, locals := 23 }, .code ⟨"JavaChainModel", "giveBack", "()V"⟩ prog_9_method_56_code 4 (none))
def m_Mo_rowOf : jl_M := (⟨"JavaChainModel", "rowOf", "(I)V"⟩, prog_9_method_61_code, 6, none, { frames := 3, cells := 0, slots := 0, locals := 69 }, .code ⟨"JavaChainModel", "rowOf", "(I)V"⟩ prog_9_method_61_code 6 (none))
def m_Mo_simple : jl_M := (⟨"JavaChainModel", "simple", "(II)V"⟩, prog_9_method_64_code, 4, none, { frames := 2, cells := 0, slots := 0, locals := 45 }, .code ⟨"JavaChainModel", "simple", "(II)V"⟩ prog_9_method_64_code 4 (none))
def m_Mo_outcome : jl_M := (⟨"JavaChainModel", "outcome", "(I)I"⟩, prog_9_method_67_code, 2, some .int, { frames := 1, cells := 0, slots := 0, locals := 21 }, .code ⟨"JavaChainModel", "outcome", "(I)I"⟩ prog_9_method_67_code 2 (some .int))
def m_Mo_heap : jl_M := (⟨"JavaChainModel", "heap", "(II)I"⟩, prog_9_method_68_code, 3, some .int, { frames := 1, cells := 0, slots := 0, locals := 22 }, .code ⟨"JavaChainModel", "heap", "(II)I"⟩ prog_9_method_68_code 3 (some .int))
def m_Mo_about : jl_M := (⟨"JavaChainModel", "about", "(II)I"⟩, prog_9_method_69_code, 3, some .int, { frames := 1, cells := 0, slots := 0, locals := 23 }, .code ⟨"JavaChainModel", "about", "(II)I"⟩ prog_9_method_69_code 3 (some .int))
