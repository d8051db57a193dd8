/-! names: printed by wip/gen/names.py out of the listing -/
def ns_T0 : u_T := fun k => match k with
  | 0 => ("NoteSheet", "cells", "[LNoteSheet$Cell;", true)
  | 1 => ("NoteSheet", "lastChanges", "[I", true)
  | 2 => ("NoteSheet", "latestTally", "[I", true)
  | 3 => ("NoteSheet", "pad", "LNoteSheet$Formula;", true)
  | 4 => ("NoteSheet", "parser", "LNoteSheet$Parser;", true)
  | 5 => ("NoteSheet", "kept", "I", true)
  | 6 => ("NoteSheet", "now", "I", false)
  | _ => ("NoteSheet", "uses", "I", false)
def ns_t0 : Nat → FieldType := fun k => match k with
  | 0 => .array (.object "NoteSheet$Cell")
  | 1 => .array .int
  | 2 => .array .int
  | 3 => .object "NoteSheet$Formula"
  | 4 => .object "NoteSheet$Parser"
  | 5 => .int
  | 6 => .int
  | _ => .int
theorem ns_n0 : ∀ a, a < 8 → ∀ b, b < 8 → a ≠ b → (ns_T0 a).2.1 ≠ (ns_T0 b).2.1 := by decide +kernel
theorem ns_t0_ok : ∀ k, k < 8 → parseFieldDescriptor (ns_T0 k).2.2.1 = some (ns_t0 k) := by decide +kernel
def ns_T1 : u_T := fun k => match k with
  | 0 => ("NoteSheet$Cell", "formula", "LNoteSheet$Formula;", true)
  | 1 => ("NoteSheet$Cell", "note", "LNoteSheet$Note;", true)
  | 2 => ("NoteSheet$Cell", "tally", "[I", true)
  | 3 => ("NoteSheet$Cell", "stack", "[I", true)
  | 4 => ("NoteSheet$Cell", "hasFormula", "Z", false)
  | 5 => ("NoteSheet$Cell", "formulaChanged", "I", false)
  | 6 => ("NoteSheet$Cell", "number", "I", false)
  | 7 => ("NoteSheet$Cell", "durability", "I", false)
  | 8 => ("NoteSheet$Cell", "inputSince", "I", false)
  | 9 => ("NoteSheet$Cell", "atWork", "Z", false)
  | _ => ("NoteSheet$Cell", "lastUse", "I", false)
def ns_t1 : Nat → FieldType := fun k => match k with
  | 0 => .object "NoteSheet$Formula"
  | 1 => .object "NoteSheet$Note"
  | 2 => .array .int
  | 3 => .array .int
  | 4 => .boolean
  | 5 => .int
  | 6 => .int
  | 7 => .int
  | 8 => .int
  | 9 => .boolean
  | _ => .int
theorem ns_n1 : ∀ a, a < 11 → ∀ b, b < 11 → a ≠ b → (ns_T1 a).2.1 ≠ (ns_T1 b).2.1 := by decide +kernel
theorem ns_t1_ok : ∀ k, k < 11 → parseFieldDescriptor (ns_T1 k).2.2.1 = some (ns_t1 k) := by decide +kernel
def ns_T2 : u_T := fun k => match k with
  | 0 => ("NoteSheet$Formula", "text", "[C", true)
  | 1 => ("NoteSheet$Formula", "steps", "[I", true)
  | 2 => ("NoteSheet$Formula", "length", "I", false)
  | _ => ("NoteSheet$Formula", "stepCount", "I", false)
def ns_t2 : Nat → FieldType := fun k => match k with
  | 0 => .array .char
  | 1 => .array .int
  | 2 => .int
  | _ => .int
theorem ns_n2 : ∀ a, a < 4 → ∀ b, b < 4 → a ≠ b → (ns_T2 a).2.1 ≠ (ns_T2 b).2.1 := by decide +kernel
theorem ns_t2_ok : ∀ k, k < 4 → parseFieldDescriptor (ns_T2 k).2.2.1 = some (ns_t2 k) := by decide +kernel
def ns_T3 : u_T := fun k => match k with
  | 0 => ("NoteSheet$Note", "reads", "[I", true)
  | 1 => ("NoteSheet$Note", "readCount", "I", false)
  | 2 => ("NoteSheet$Note", "exists", "Z", false)
  | 3 => ("NoteSheet$Note", "hasValue", "Z", false)
  | 4 => ("NoteSheet$Note", "value", "J", false)
  | 5 => ("NoteSheet$Note", "verified", "I", false)
  | 6 => ("NoteSheet$Note", "since", "I", false)
  | _ => ("NoteSheet$Note", "durability", "I", false)
def ns_t3 : Nat → FieldType := fun k => match k with
  | 0 => .array .int
  | 1 => .int
  | 2 => .boolean
  | 3 => .boolean
  | 4 => .long
  | 5 => .int
  | 6 => .int
  | _ => .int
theorem ns_n3 : ∀ a, a < 8 → ∀ b, b < 8 → a ≠ b → (ns_T3 a).2.1 ≠ (ns_T3 b).2.1 := by decide +kernel
theorem ns_t3_ok : ∀ k, k < 8 → parseFieldDescriptor (ns_T3 k).2.2.1 = some (ns_t3 k) := by decide +kernel
def ns_T4 : u_T := fun k => match k with
  | 0 => ("NoteSheet$Parser", "formula", "LNoteSheet$Formula;", true)
  | _ => ("NoteSheet$Parser", "at", "I", false)
def ns_t4 : Nat → FieldType := fun k => match k with
  | 0 => .object "NoteSheet$Formula"
  | _ => .int
theorem ns_n4 : ∀ a, a < 2 → ∀ b, b < 2 → a ≠ b → (ns_T4 a).2.1 ≠ (ns_T4 b).2.1 := by decide +kernel
theorem ns_t4_ok : ∀ k, k < 2 → parseFieldDescriptor (ns_T4 k).2.2.1 = some (ns_t4 k) := by decide +kernel
def ns_T5 : u_T := fun k => match k with
  | 0 => ("NoteSheetModel", "most", "I", true)
  | 1 => ("NoteSheetModel", "pad", "[I", true)
  | 2 => ("NoteSheetModel", "length", "I", false)
  | 3 => ("NoteSheetModel", "revision", "I", false)
  | 4 => ("NoteSheetModel", "changes", "[I", true)
  | 5 => ("NoteSheetModel", "formula", "[Z", true)
  | 6 => ("NoteSheetModel", "text", "[I", true)
  | 7 => ("NoteSheetModel", "size", "[I", true)
  | 8 => ("NoteSheetModel", "steps", "[I", true)
  | 9 => ("NoteSheetModel", "step", "[I", true)
  | 10 => ("NoteSheetModel", "with", "[I", true)
  | 11 => ("NoteSheetModel", "altered", "[I", true)
  | 12 => ("NoteSheetModel", "number", "[I", true)
  | 13 => ("NoteSheetModel", "durable", "[I", true)
  | 14 => ("NoteSheetModel", "born", "[I", true)
  | 15 => ("NoteSheetModel", "noted", "[Z", true)
  | 16 => ("NoteSheetModel", "valued", "[Z", true)
  | 17 => ("NoteSheetModel", "value", "[J", true)
  | 18 => ("NoteSheetModel", "verified", "[I", true)
  | 19 => ("NoteSheetModel", "since", "[I", true)
  | 20 => ("NoteSheetModel", "noteDurable", "[I", true)
  | 21 => ("NoteSheetModel", "reads", "[I", true)
  | 22 => ("NoteSheetModel", "readCell", "[I", true)
  | 23 => ("NoteSheetModel", "used", "[I", true)
  | 24 => ("NoteSheetModel", "clock", "I", false)
  | 25 => ("NoteSheetModel", "often", "[I", true)
  | 26 => ("NoteSheetModel", "lately", "[I", true)
  | 27 => ("NoteSheetModel", "opened", "I", false)
  | 28 => ("NoteSheetModel", "open", "[I", true)
  | 29 => ("NoteSheetModel", "mode", "[I", true)
  | 30 => ("NoteSheetModel", "at", "[I", true)
  | 31 => ("NoteSheetModel", "depth", "[I", true)
  | 32 => ("NoteSheetModel", "stack", "[J", true)
  | 33 => ("NoteSheetModel", "found", "[I", true)
  | 34 => ("NoteSheetModel", "foundCell", "[I", true)
  | 35 => ("NoteSheetModel", "atWork", "[Z", true)
  | 36 => ("NoteSheetModel", "ring", "[Z", true)
  | 37 => ("NoteSheetModel", "signs", "I", false)
  | 38 => ("NoteSheetModel", "sign", "[I", true)
  | 39 => ("NoteSheetModel", "mend", "[I", true)
  | 40 => ("NoteSheetModel", "made", "I", false)
  | 41 => ("NoteSheetModel", "newStep", "[I", true)
  | _ => ("NoteSheetModel", "newWith", "[I", true)
def ns_t5 : Nat → FieldType := fun k => match k with
  | 0 => .int
  | 1 => .array .int
  | 2 => .int
  | 3 => .int
  | 4 => .array .int
  | 5 => .array .boolean
  | 6 => .array .int
  | 7 => .array .int
  | 8 => .array .int
  | 9 => .array .int
  | 10 => .array .int
  | 11 => .array .int
  | 12 => .array .int
  | 13 => .array .int
  | 14 => .array .int
  | 15 => .array .boolean
  | 16 => .array .boolean
  | 17 => .array .long
  | 18 => .array .int
  | 19 => .array .int
  | 20 => .array .int
  | 21 => .array .int
  | 22 => .array .int
  | 23 => .array .int
  | 24 => .int
  | 25 => .array .int
  | 26 => .array .int
  | 27 => .int
  | 28 => .array .int
  | 29 => .array .int
  | 30 => .array .int
  | 31 => .array .int
  | 32 => .array .long
  | 33 => .array .int
  | 34 => .array .int
  | 35 => .array .boolean
  | 36 => .array .boolean
  | 37 => .int
  | 38 => .array .int
  | 39 => .array .int
  | 40 => .int
  | 41 => .array .int
  | _ => .array .int
theorem ns_n5 : ∀ a, a < 43 → ∀ b, b < 43 → a ≠ b → (ns_T5 a).2.1 ≠ (ns_T5 b).2.1 := by decide +kernel
theorem ns_t5_ok : ∀ k, k < 43 → parseFieldDescriptor (ns_T5 k).2.2.1 = some (ns_t5 k) := by decide +kernel
def ns_cn : Nat → String
  | 0 => "NoteSheet"
  | 1 => "NoteSheet$Cell"
  | 2 => "NoteSheet$Formula"
  | 3 => "NoteSheet$Note"
  | 4 => "NoteSheet$Parser"
  | 5 => "NoteSheetModel"
  | 6 => "NoteSheetLaw"
  | _ => "java/lang/Math"
def ns_cl : List vw_C := [("NoteSheet", ns_T0, 8), ("NoteSheet$Cell", ns_T1, 11), ("NoteSheet$Formula", ns_T2, 4), ("NoteSheet$Note", ns_T3, 8), ("NoteSheet$Parser", ns_T4, 2), ("NoteSheetModel", ns_T5, 43)]
def ns_nm : Nat → MethodName
  | 0 => ⟨"NoteSheet", "<init>", "(I)V"⟩
  | 1 => ⟨"NoteSheet", "type", "(C)Z"⟩
  | 2 => ⟨"NoteSheet", "define", "(I)I"⟩
  | 3 => ⟨"NoteSheet", "set", "(III)Z"⟩
  | 4 => ⟨"NoteSheet", "ask", "(I)J"⟩
  | 5 => ⟨"NoteSheet", "revision", "()I"⟩
  | 6 => ⟨"NoteSheet", "changed", "(I)I"⟩
  | 7 => ⟨"NoteSheet", "note", "(II)I"⟩
  | 8 => ⟨"NoteSheet", "read", "(II)I"⟩
  | 9 => ⟨"NoteSheet", "count", "(I)I"⟩
  | 10 => ⟨"NoteSheet", "isCell", "(I)Z"⟩
  | 11 => ⟨"NoteSheet", "isDurability", "(I)Z"⟩
  | 12 => ⟨"NoteSheet", "makeFormula", "(LNoteSheet$Cell;)V"⟩
  | 13 => ⟨"NoteSheet", "makeInput", "(LNoteSheet$Cell;II)V"⟩
  | 14 => ⟨"NoteSheet", "startRevision", "(I)V"⟩
  | 15 => ⟨"NoteSheet", "upToDateValue", "(LNoteSheet$Cell;)J"⟩
  | 16 => ⟨"NoteSheet", "bringUpToDate", "(LNoteSheet$Cell;)V"⟩
  | 17 => ⟨"NoteSheet", "passes", "(LNoteSheet$Note;)Z"⟩
  | 18 => ⟨"NoteSheet", "readsAreUnchanged", "(LNoteSheet$Cell;)Z"⟩
  | 19 => ⟨"NoteSheet", "verify", "(LNoteSheet$Cell;I)V"⟩
  | 20 => ⟨"NoteSheet", "workOut", "(LNoteSheet$Cell;)V"⟩
  | 21 => ⟨"NoteSheet", "leastDurability", "(LNoteSheet$Note;)I"⟩
  | 22 => ⟨"NoteSheet", "evaluate", "(LNoteSheet$Cell;)J"⟩
  | 23 => ⟨"NoteSheet", "combine", "(III)I"⟩
  | 24 => ⟨"NoteSheet", "giveTo", "(LNoteSheet$Cell;I)J"⟩
  | 25 => ⟨"NoteSheet", "markUsed", "(LNoteSheet$Cell;)V"⟩
  | 26 => ⟨"NoteSheet", "tally", "(LNoteSheet$Cell;I)V"⟩
  | 27 => ⟨"NoteSheet", "valuesInNotes", "()I"⟩
  | 28 => ⟨"NoteSheet", "dropValuesBeyondKept", "()V"⟩
  | 29 => ⟨"NoteSheet", "dropLongestUnused", "()V"⟩
  | 30 => ⟨"NoteSheetModel", "<init>", "(I)V"⟩
  | 31 => ⟨"NoteSheetModel", "isCell", "(I)Z"⟩
  | 32 => ⟨"NoteSheetModel", "isLetter", "(I)Z"⟩
  | 33 => ⟨"NoteSheetModel", "isDigit", "(I)Z"⟩
  | 34 => ⟨"NoteSheetModel", "type", "(C)Z"⟩
  | 35 => ⟨"NoteSheetModel", "make", "(II)V"⟩
  | 36 => ⟨"NoteSheetModel", "put", "(II)V"⟩
  | 37 => ⟨"NoteSheetModel", "rank", "(I)I"⟩
  | 38 => ⟨"NoteSheetModel", "settle", "(I)V"⟩
  | 39 => ⟨"NoteSheetModel", "deepness", "()I"⟩
  | 40 => ⟨"NoteSheetModel", "begin", "(II)Z"⟩
  | 41 => ⟨"NoteSheetModel", "compared", "()Z"⟩
  | 42 => ⟨"NoteSheetModel", "inner", "()I"⟩
  | 43 => ⟨"NoteSheetModel", "close", "()V"⟩
  | 44 => ⟨"NoteSheetModel", "awaits", "()I"⟩
  | 45 => ⟨"NoteSheetModel", "goesOn", "(I)Z"⟩
  | 46 => ⟨"NoteSheetModel", "fault", "()I"⟩
  | 47 => ⟨"NoteSheetModel", "define", "(I)I"⟩
  | 48 => ⟨"NoteSheetModel", "change", "(I)V"⟩
  | 49 => ⟨"NoteSheetModel", "set", "(III)Z"⟩
  | 50 => ⟨"NoteSheetModel", "settled", "(I)Z"⟩
  | 51 => ⟨"NoteSheetModel", "durabilityOf", "(I)I"⟩
  | 52 => ⟨"NoteSheetModel", "sinceOf", "(I)I"⟩
  | 53 => ⟨"NoteSheetModel", "start", "(II)V"⟩
  | 54 => ⟨"NoteSheetModel", "counts", "(II)V"⟩
  | 55 => ⟨"NoteSheetModel", "finish", "()V"⟩
  | 56 => ⟨"NoteSheetModel", "use", "(I)V"⟩
  | 57 => ⟨"NoteSheetModel", "runAll", "()V"⟩
  | 58 => ⟨"NoteSheetModel", "enter", "(II)V"⟩
  | 59 => ⟨"NoteSheetModel", "lookThrough", "(II)V"⟩
  | 60 => ⟨"NoteSheetModel", "worked", "(IIJ)V"⟩
  | 61 => ⟨"NoteSheetModel", "push", "(IJ)V"⟩
  | 62 => ⟨"NoteSheetModel", "pop", "(I)J"⟩
  | 63 => ⟨"NoteSheetModel", "advance", "(II)V"⟩
  | 64 => ⟨"NoteSheetModel", "combine", "(II)V"⟩
  | 65 => ⟨"NoteSheetModel", "look", "(III)V"⟩
  | 66 => ⟨"NoteSheetModel", "values", "()I"⟩
  | 67 => ⟨"NoteSheetModel", "ask", "(I)J"⟩
  | 68 => ⟨"NoteSheetModel", "revision", "()I"⟩
  | 69 => ⟨"NoteSheetModel", "changed", "(I)I"⟩
  | 70 => ⟨"NoteSheetModel", "note", "(II)I"⟩
  | 71 => ⟨"NoteSheetModel", "read", "(II)I"⟩
  | 72 => ⟨"NoteSheetModel", "count", "(I)I"⟩
  | 73 => ⟨"NoteSheet$Cell", "<init>", "()V"⟩
  | 74 => ⟨"NoteSheet$Cell", "ownDurability", "()I"⟩
  | 75 => ⟨"NoteSheet$Cell", "givenDurability", "()I"⟩
  | 76 => ⟨"NoteSheet$Cell", "unchangedSince", "()I"⟩
  | 77 => ⟨"NoteSheet$Formula", "<init>", "()V"⟩
  | 78 => ⟨"NoteSheet$Formula", "isLetter", "(C)Z"⟩
  | 79 => ⟨"NoteSheet$Formula", "isDigit", "(C)Z"⟩
  | 80 => ⟨"NoteSheet$Formula", "mayHold", "(C)Z"⟩
  | 81 => ⟨"NoteSheet$Formula", "append", "(C)Z"⟩
  | 82 => ⟨"NoteSheet$Formula", "addStep", "(II)I"⟩
  | 83 => ⟨"NoteSheet$Formula", "jumpToEnd", "(I)V"⟩
  | 84 => ⟨"NoteSheet$Formula", "stepAt", "(I)I"⟩
  | 85 => ⟨"NoteSheet$Formula", "operandAt", "(I)I"⟩
  | 86 => ⟨"NoteSheet$Formula", "hasTextOf", "(LNoteSheet$Formula;)Z"⟩
  | 87 => ⟨"NoteSheet$Formula", "copyFrom", "(LNoteSheet$Formula;)V"⟩
  | 88 => ⟨"NoteSheet$Note", "<init>", "()V"⟩
  | 89 => ⟨"NoteSheet$Note", "clear", "()V"⟩
  | 90 => ⟨"NoteSheet$Note", "isVerifiedIn", "(I)Z"⟩
  | 91 => ⟨"NoteSheet$Note", "keepValue", "(JI)V"⟩
  | 92 => ⟨"NoteSheet$Note", "addRead", "(I)V"⟩
  | 93 => ⟨"NoteSheet$Parser", "<init>", "(LNoteSheet$Formula;)V"⟩
  | 94 => ⟨"NoteSheet$Parser", "accepts", "()Z"⟩
  | 95 => ⟨"NoteSheet$Parser", "fault", "()I"⟩
  | 96 => ⟨"NoteSheet$Parser", "next", "()C"⟩
  | 97 => ⟨"NoteSheet$Parser", "take", "(C)Z"⟩
  | 98 => ⟨"NoteSheet$Parser", "takeFormula", "(I)Z"⟩
  | 99 => ⟨"NoteSheet$Parser", "takeBranches", "(I)Z"⟩
  | 100 => ⟨"NoteSheet$Parser", "takeSum", "(I)Z"⟩
  | 101 => ⟨"NoteSheet$Parser", "takeProduct", "(I)Z"⟩
  | 102 => ⟨"NoteSheet$Parser", "takeUnit", "(I)Z"⟩
  | 103 => ⟨"NoteSheet$Parser", "takeNumber", "()V"⟩
  | 104 => ⟨"NoteSheetLaw", "cell", "([II)I"⟩
  | 105 => ⟨"NoteSheetLaw", "law", "([I)Z"⟩
  | 106 => ⟨"java/lang/Math", "floorMod", "(II)I"⟩
  | _ => ⟨"", "", ""⟩
def ns_I_N_init : ax_MI := (prog_1_method_1_code, 0, true, 3, none, 103, 1620)
def ns_I_N_type : ax_MI := (prog_1_method_2_code, 0, false, 2, some .boolean, 0, 0)
def ns_I_N_define : ax_MI := (prog_1_method_3_code, 0, false, 3, some .int, 0, 0)
def ns_I_N_set : ax_MI := (prog_1_method_4_code, 0, false, 5, some .boolean, 0, 0)
def ns_I_N_ask : ax_MI := (prog_1_method_5_code, 0, false, 4, some .long, 0, 0)
def ns_I_N_revision : ax_MI := (prog_1_method_6_code, 0, false, 1, some .int, 0, 0)
def ns_I_N_changed : ax_MI := (prog_1_method_7_code, 0, false, 2, some .int, 0, 0)
def ns_I_N_note : ax_MI := (prog_1_method_8_code, 0, false, 4, some .int, 0, 0)
def ns_I_N_read : ax_MI := (prog_1_method_9_code, 0, false, 3, some .int, 0, 0)
def ns_I_N_count : ax_MI := (prog_1_method_10_code, 0, false, 2, some .int, 0, 0)
def ns_I_N_isCell : ax_MI := (prog_1_method_11_code, 0, false, 1, some .boolean, 0, 0)
def ns_I_N_isDurability : ax_MI := (prog_1_method_12_code, 0, false, 1, some .boolean, 0, 0)
def ns_I_N_makeFormula : ax_MI := (prog_1_method_13_code, 0, false, 2, none, 0, 0)
def ns_I_N_makeInput : ax_MI := (prog_1_method_14_code, 0, false, 4, none, 0, 0)
def ns_I_N_startRevision : ax_MI := (prog_1_method_15_code, 0, false, 3, none, 0, 0)
def ns_I_N_upToDateValue : ax_MI := (prog_1_method_16_code, 0, false, 2, some .long, 0, 0)
def ns_I_N_bringUpToDate : ax_MI := (prog_1_method_17_code, 0, false, 2, none, 0, 0)
def ns_I_N_passes : ax_MI := (prog_1_method_18_code, 0, false, 2, some .boolean, 0, 0)
def ns_I_N_readsAreUnchanged : ax_MI := (prog_1_method_19_code, 0, false, 5, some .boolean, 0, 0)
def ns_I_N_verify : ax_MI := (prog_1_method_20_code, 0, false, 3, none, 0, 0)
def ns_I_N_workOut : ax_MI := (prog_1_method_21_code, 0, false, 4, none, 0, 0)
def ns_I_N_leastDurability : ax_MI := (prog_1_method_22_code, 0, false, 5, some .int, 0, 0)
def ns_I_N_evaluate : ax_MI := (prog_1_method_23_code, 0, false, 12, some .long, 0, 0)
def ns_I_N_combine : ax_MI := (prog_1_method_24_code, 0, false, 3, some .int, 0, 0)
def ns_I_N_giveTo : ax_MI := (prog_1_method_25_code, 0, false, 4, some .long, 0, 0)
def ns_I_N_markUsed : ax_MI := (prog_1_method_26_code, 0, false, 2, none, 0, 0)
def ns_I_N_tally : ax_MI := (prog_1_method_27_code, 0, false, 3, none, 0, 0)
def ns_I_N_valuesInNotes : ax_MI := (prog_1_method_28_code, 0, false, 3, some .int, 0, 0)
def ns_I_N_dropValuesBeyondKept : ax_MI := (prog_1_method_29_code, 0, false, 2, none, 0, 0)
def ns_I_N_dropLongestUnused : ax_MI := (prog_1_method_30_code, 0, false, 4, none, 0, 0)
def ns_I_M_init : ax_MI := (prog_7_method_1_code, 5, true, 2, none, 36, 2344)
def ns_I_M_isCell : ax_MI := (prog_7_method_2_code, 5, false, 1, some .boolean, 0, 0)
def ns_I_M_isLetter : ax_MI := (prog_7_method_3_code, 5, false, 1, some .boolean, 0, 0)
def ns_I_M_isDigit : ax_MI := (prog_7_method_4_code, 5, false, 1, some .boolean, 0, 0)
def ns_I_M_type : ax_MI := (prog_7_method_5_code, 5, false, 3, some .boolean, 0, 0)
def ns_I_M_make : ax_MI := (prog_7_method_6_code, 5, false, 3, none, 0, 0)
def ns_I_M_put : ax_MI := (prog_7_method_7_code, 5, false, 3, none, 0, 0)
def ns_I_M_rank : ax_MI := (prog_7_method_8_code, 5, false, 1, some .int, 0, 0)
def ns_I_M_settle : ax_MI := (prog_7_method_9_code, 5, false, 3, none, 0, 0)
def ns_I_M_deepness : ax_MI := (prog_7_method_10_code, 5, false, 3, some .int, 0, 0)
def ns_I_M_begin : ax_MI := (prog_7_method_11_code, 5, false, 5, some .boolean, 0, 0)
def ns_I_M_compared : ax_MI := (prog_7_method_12_code, 5, false, 3, some .boolean, 0, 0)
def ns_I_M_inner : ax_MI := (prog_7_method_13_code, 5, false, 2, some .int, 0, 0)
def ns_I_M_close : ax_MI := (prog_7_method_14_code, 5, false, 1, none, 0, 0)
def ns_I_M_awaits : ax_MI := (prog_7_method_15_code, 5, false, 2, some .int, 0, 0)
def ns_I_M_goesOn : ax_MI := (prog_7_method_16_code, 5, false, 2, some .boolean, 0, 0)
def ns_I_M_fault : ax_MI := (prog_7_method_17_code, 5, false, 6, some .int, 0, 0)
def ns_I_M_define : ax_MI := (prog_7_method_18_code, 5, false, 6, some .int, 0, 0)
def ns_I_M_change : ax_MI := (prog_7_method_19_code, 5, false, 3, none, 0, 0)
def ns_I_M_set : ax_MI := (prog_7_method_20_code, 5, false, 5, some .boolean, 0, 0)
def ns_I_M_settled : ax_MI := (prog_7_method_21_code, 5, false, 2, some .boolean, 0, 0)
def ns_I_M_durabilityOf : ax_MI := (prog_7_method_22_code, 5, false, 2, some .int, 0, 0)
def ns_I_M_sinceOf : ax_MI := (prog_7_method_23_code, 5, false, 2, some .int, 0, 0)
def ns_I_M_start : ax_MI := (prog_7_method_24_code, 5, false, 3, none, 0, 0)
def ns_I_M_counts : ax_MI := (prog_7_method_25_code, 5, false, 3, none, 0, 0)
def ns_I_M_finish : ax_MI := (prog_7_method_26_code, 5, false, 1, none, 0, 0)
def ns_I_M_use : ax_MI := (prog_7_method_27_code, 5, false, 2, none, 0, 0)
def ns_I_M_runAll : ax_MI := (prog_7_method_28_code, 5, false, 2, none, 0, 0)
def ns_I_M_enter : ax_MI := (prog_7_method_29_code, 5, false, 3, none, 0, 0)
def ns_I_M_lookThrough : ax_MI := (prog_7_method_30_code, 5, false, 5, none, 0, 0)
def ns_I_M_worked : ax_MI := (prog_7_method_31_code, 5, false, 8, none, 0, 0)
def ns_I_M_push : ax_MI := (prog_7_method_32_code, 5, false, 4, none, 0, 0)
def ns_I_M_pop : ax_MI := (prog_7_method_33_code, 5, false, 2, some .long, 0, 0)
def ns_I_M_advance : ax_MI := (prog_7_method_34_code, 5, false, 6, none, 0, 0)
def ns_I_M_combine : ax_MI := (prog_7_method_35_code, 5, false, 5, none, 0, 0)
def ns_I_M_look : ax_MI := (prog_7_method_36_code, 5, false, 7, none, 0, 0)
def ns_I_M_values : ax_MI := (prog_7_method_37_code, 5, false, 3, some .int, 0, 0)
def ns_I_M_ask : ax_MI := (prog_7_method_38_code, 5, false, 6, some .long, 0, 0)
def ns_I_M_revision : ax_MI := (prog_7_method_39_code, 5, false, 1, some .int, 0, 0)
def ns_I_M_changed : ax_MI := (prog_7_method_40_code, 5, false, 2, some .int, 0, 0)
def ns_I_M_note : ax_MI := (prog_7_method_41_code, 5, false, 4, some .int, 0, 0)
def ns_I_M_read : ax_MI := (prog_7_method_42_code, 5, false, 3, some .int, 0, 0)
def ns_I_M_count : ax_MI := (prog_7_method_43_code, 5, false, 2, some .int, 0, 0)
def ns_I_C_init : ax_MI := (prog_2_method_1_code, 1, true, 1, none, 7, 117)
def ns_I_C_ownDurability : ax_MI := (prog_2_method_2_code, 1, false, 1, some .int, 0, 0)
def ns_I_C_givenDurability : ax_MI := (prog_2_method_3_code, 1, false, 1, some .int, 0, 0)
def ns_I_C_unchangedSince : ax_MI := (prog_2_method_4_code, 1, false, 1, some .int, 0, 0)
def ns_I_F_init : ax_MI := (prog_3_method_1_code, 2, true, 1, none, 2, 60)
def ns_I_F_isLetter : ax_MI := (prog_3_method_2_code, 2, false, 1, some .boolean, 0, 0)
def ns_I_F_isDigit : ax_MI := (prog_3_method_3_code, 2, false, 1, some .boolean, 0, 0)
def ns_I_F_mayHold : ax_MI := (prog_3_method_4_code, 2, false, 1, some .boolean, 0, 0)
def ns_I_F_append : ax_MI := (prog_3_method_5_code, 2, false, 2, some .boolean, 0, 0)
def ns_I_F_addStep : ax_MI := (prog_3_method_6_code, 2, false, 3, some .int, 0, 0)
def ns_I_F_jumpToEnd : ax_MI := (prog_3_method_7_code, 2, false, 2, none, 0, 0)
def ns_I_F_stepAt : ax_MI := (prog_3_method_8_code, 2, false, 2, some .int, 0, 0)
def ns_I_F_operandAt : ax_MI := (prog_3_method_9_code, 2, false, 2, some .int, 0, 0)
def ns_I_F_hasTextOf : ax_MI := (prog_3_method_10_code, 2, false, 3, some .boolean, 0, 0)
def ns_I_F_copyFrom : ax_MI := (prog_3_method_11_code, 2, false, 2, none, 0, 0)
def ns_I_O_init : ax_MI := (prog_4_method_1_code, 3, true, 1, none, 1, 12)
def ns_I_O_clear : ax_MI := (prog_4_method_2_code, 3, false, 1, none, 0, 0)
def ns_I_O_isVerifiedIn : ax_MI := (prog_4_method_3_code, 3, false, 2, some .boolean, 0, 0)
def ns_I_O_keepValue : ax_MI := (prog_4_method_4_code, 3, false, 5, none, 0, 0)
def ns_I_O_addRead : ax_MI := (prog_4_method_5_code, 3, false, 3, none, 0, 0)
def ns_I_P_init : ax_MI := (prog_5_method_1_code, 4, true, 2, none, 0, 0)
def ns_I_P_accepts : ax_MI := (prog_5_method_2_code, 4, false, 1, some .boolean, 0, 0)
def ns_I_P_fault : ax_MI := (prog_5_method_3_code, 4, false, 1, some .int, 0, 0)
def ns_I_P_next : ax_MI := (prog_5_method_4_code, 4, false, 1, some .char, 0, 0)
def ns_I_P_take : ax_MI := (prog_5_method_5_code, 4, false, 2, some .boolean, 0, 0)
def ns_I_P_takeFormula : ax_MI := (prog_5_method_6_code, 4, false, 3, some .boolean, 0, 0)
def ns_I_P_takeBranches : ax_MI := (prog_5_method_7_code, 4, false, 4, some .boolean, 0, 0)
def ns_I_P_takeSum : ax_MI := (prog_5_method_8_code, 4, false, 4, some .boolean, 0, 0)
def ns_I_P_takeProduct : ax_MI := (prog_5_method_9_code, 4, false, 3, some .boolean, 0, 0)
def ns_I_P_takeUnit : ax_MI := (prog_5_method_10_code, 4, false, 3, some .boolean, 0, 0)
def ns_I_P_takeNumber : ax_MI := (prog_5_method_11_code, 4, false, 3, none, 0, 0)
def ns_I_L_cell : ax_MI := (method_2_code, 6, false, 2, some .int, 0, 0)
def ns_I_L_law : ax_MI := (code, 6, false, 4, some .boolean, 600000, 7302250)
def ns_I_J_floorMod : ax_MI := (prog_9_method_50_code, 7, false, 3, some .int, 0, 0)
def ns_mt : Nat → Option ax_MI
  | 0 => some ns_I_N_init
  | 1 => some ns_I_N_type
  | 2 => some ns_I_N_define
  | 3 => some ns_I_N_set
  | 4 => some ns_I_N_ask
  | 5 => some ns_I_N_revision
  | 6 => some ns_I_N_changed
  | 7 => some ns_I_N_note
  | 8 => some ns_I_N_read
  | 9 => some ns_I_N_count
  | 10 => some ns_I_N_isCell
  | 11 => some ns_I_N_isDurability
  | 12 => some ns_I_N_makeFormula
  | 13 => some ns_I_N_makeInput
  | 14 => some ns_I_N_startRevision
  | 15 => some ns_I_N_upToDateValue
  | 16 => some ns_I_N_bringUpToDate
  | 17 => some ns_I_N_passes
  | 18 => some ns_I_N_readsAreUnchanged
  | 19 => some ns_I_N_verify
  | 20 => some ns_I_N_workOut
  | 21 => some ns_I_N_leastDurability
  | 22 => some ns_I_N_evaluate
  | 23 => some ns_I_N_combine
  | 24 => some ns_I_N_giveTo
  | 25 => some ns_I_N_markUsed
  | 26 => some ns_I_N_tally
  | 27 => some ns_I_N_valuesInNotes
  | 28 => some ns_I_N_dropValuesBeyondKept
  | 29 => some ns_I_N_dropLongestUnused
  | 30 => some ns_I_M_init
  | 31 => some ns_I_M_isCell
  | 32 => some ns_I_M_isLetter
  | 33 => some ns_I_M_isDigit
  | 34 => some ns_I_M_type
  | 35 => some ns_I_M_make
  | 36 => some ns_I_M_put
  | 37 => some ns_I_M_rank
  | 38 => some ns_I_M_settle
  | 39 => some ns_I_M_deepness
  | 40 => some ns_I_M_begin
  | 41 => some ns_I_M_compared
  | 42 => some ns_I_M_inner
  | 43 => some ns_I_M_close
  | 44 => some ns_I_M_awaits
  | 45 => some ns_I_M_goesOn
  | 46 => some ns_I_M_fault
  | 47 => some ns_I_M_define
  | 48 => some ns_I_M_change
  | 49 => some ns_I_M_set
  | 50 => some ns_I_M_settled
  | 51 => some ns_I_M_durabilityOf
  | 52 => some ns_I_M_sinceOf
  | 53 => some ns_I_M_start
  | 54 => some ns_I_M_counts
  | 55 => some ns_I_M_finish
  | 56 => some ns_I_M_use
  | 57 => some ns_I_M_runAll
  | 58 => some ns_I_M_enter
  | 59 => some ns_I_M_lookThrough
  | 60 => some ns_I_M_worked
  | 61 => some ns_I_M_push
  | 62 => some ns_I_M_pop
  | 63 => some ns_I_M_advance
  | 64 => some ns_I_M_combine
  | 65 => some ns_I_M_look
  | 66 => some ns_I_M_values
  | 67 => some ns_I_M_ask
  | 68 => some ns_I_M_revision
  | 69 => some ns_I_M_changed
  | 70 => some ns_I_M_note
  | 71 => some ns_I_M_read
  | 72 => some ns_I_M_count
  | 73 => some ns_I_C_init
  | 74 => some ns_I_C_ownDurability
  | 75 => some ns_I_C_givenDurability
  | 76 => some ns_I_C_unchangedSince
  | 77 => some ns_I_F_init
  | 78 => some ns_I_F_isLetter
  | 79 => some ns_I_F_isDigit
  | 80 => some ns_I_F_mayHold
  | 81 => some ns_I_F_append
  | 82 => some ns_I_F_addStep
  | 83 => some ns_I_F_jumpToEnd
  | 84 => some ns_I_F_stepAt
  | 85 => some ns_I_F_operandAt
  | 86 => some ns_I_F_hasTextOf
  | 87 => some ns_I_F_copyFrom
  | 88 => some ns_I_O_init
  | 89 => some ns_I_O_clear
  | 90 => some ns_I_O_isVerifiedIn
  | 91 => some ns_I_O_keepValue
  | 92 => some ns_I_O_addRead
  | 93 => some ns_I_P_init
  | 94 => some ns_I_P_accepts
  | 95 => some ns_I_P_fault
  | 96 => some ns_I_P_next
  | 97 => some ns_I_P_take
  | 98 => some ns_I_P_takeFormula
  | 99 => some ns_I_P_takeBranches
  | 100 => some ns_I_P_takeSum
  | 101 => some ns_I_P_takeProduct
  | 102 => some ns_I_P_takeUnit
  | 103 => some ns_I_P_takeNumber
  | 104 => some ns_I_L_cell
  | 105 => some ns_I_L_law
  | 106 => some ns_I_J_floorMod
  | _ => none
def ns_lF : List ((Nat × Nat) × (Nat × Nat × FieldType × Bool)) := [((0, 18), (0, 5, .int, true)), ((0, 24), (0, 0, .array (.object "NoteSheet$Cell"), true)), ((0, 29), (0, 1, .array .int, true)), ((0, 33), (0, 2, .array .int, true)), ((0, 39), (0, 3, .object "NoteSheet$Formula", true)), ((0, 48), (0, 4, .object "NoteSheet$Parser", true)), ((0, 52), (0, 6, .int, false)), ((0, 78), (2, 2, .int, false)), ((0, 84), (1, 4, .boolean, false)), ((0, 88), (1, 6, .int, false)), ((0, 91), (1, 7, .int, false)), ((0, 107), (1, 2, .array .int, true)), ((0, 113), (1, 1, .object "NoteSheet$Note", true)), ((0, 117), (3, 5, .int, false)), ((0, 125), (3, 1, .int, false)), ((0, 128), (3, 3, .boolean, false)), ((0, 131), (3, 0, .array .int, true)), ((0, 137), (1, 0, .object "NoteSheet$Formula", true)), ((0, 154), (1, 5, .int, false)), ((0, 157), (1, 8, .int, false)), ((0, 172), (3, 4, .long, false)), ((0, 176), (1, 9, .boolean, false)), ((0, 198), (3, 7, .int, false)), ((0, 199), (3, 2, .boolean, false)), ((0, 211), (1, 3, .array .int, true)), ((0, 214), (2, 3, .int, false)), ((0, 240), (0, 7, .int, false)), ((0, 243), (1, 10, .int, false)), ((1, 12), (1, 0, .object "NoteSheet$Formula", true)), ((1, 21), (1, 1, .object "NoteSheet$Note", true)), ((1, 25), (1, 2, .array .int, true)), ((1, 29), (1, 3, .array .int, true)), ((1, 32), (1, 4, .boolean, false)), ((1, 36), (1, 7, .int, false)), ((1, 40), (3, 7, .int, false)), ((1, 41), (3, 6, .int, false)), ((1, 44), (1, 8, .int, false)), ((2, 9), (2, 0, .array .char, true)), ((2, 15), (2, 1, .array .int, true)), ((2, 34), (2, 2, .int, false)), ((2, 38), (2, 3, .int, false)), ((3, 9), (3, 0, .array .int, true)), ((3, 15), (3, 1, .int, false)), ((3, 19), (3, 2, .boolean, false)), ((3, 23), (3, 3, .boolean, false)), ((3, 26), (3, 5, .int, false)), ((3, 29), (3, 6, .int, false)), ((3, 32), (3, 7, .int, false)), ((3, 35), (3, 4, .long, false)), ((4, 9), (4, 0, .object "NoteSheet$Formula", true)), ((4, 15), (4, 1, .int, false)), ((4, 19), (2, 3, .int, false)), ((4, 28), (2, 2, .int, false)), ((4, 31), (2, 0, .array .char, true)), ((5, 7), (5, 1, .array .int, true)), ((5, 13), (5, 3, .int, false)), ((5, 17), (5, 4, .array .int, true)), ((5, 20), (5, 5, .array .boolean, true)), ((5, 24), (5, 6, .array .int, true)), ((5, 27), (5, 7, .array .int, true)), ((5, 30), (5, 8, .array .int, true)), ((5, 33), (5, 9, .array .int, true)), ((5, 36), (5, 10, .array .int, true)), ((5, 39), (5, 11, .array .int, true)), ((5, 42), (5, 12, .array .int, true)), ((5, 45), (5, 13, .array .int, true)), ((5, 48), (5, 14, .array .int, true)), ((5, 51), (5, 15, .array .boolean, true)), ((5, 54), (5, 16, .array .boolean, true)), ((5, 57), (5, 17, .array .long, true)), ((5, 61), (5, 18, .array .int, true)), ((5, 64), (5, 19, .array .int, true)), ((5, 67), (5, 20, .array .int, true)), ((5, 70), (5, 21, .array .int, true)), ((5, 73), (5, 22, .array .int, true)), ((5, 76), (5, 23, .array .int, true)), ((5, 79), (5, 25, .array .int, true)), ((5, 82), (5, 26, .array .int, true)), ((5, 85), (5, 28, .array .int, true)), ((5, 88), (5, 29, .array .int, true)), ((5, 91), (5, 30, .array .int, true)), ((5, 94), (5, 31, .array .int, true)), ((5, 97), (5, 32, .array .long, true)), ((5, 100), (5, 33, .array .int, true)), ((5, 103), (5, 34, .array .int, true)), ((5, 106), (5, 35, .array .boolean, true)), ((5, 109), (5, 36, .array .boolean, true)), ((5, 112), (5, 38, .array .int, true)), ((5, 115), (5, 39, .array .int, true)), ((5, 118), (5, 41, .array .int, true)), ((5, 121), (5, 42, .array .int, true)), ((5, 124), (5, 0, .int, true)), ((5, 134), (5, 2, .int, false)), ((5, 137), (5, 40, .int, false)), ((5, 140), (5, 37, .int, false)), ((5, 191), (5, 27, .int, false)), ((5, 194), (5, 24, .int, false))]
def ns_tF : ax_TF := fun c n => (ns_lF.find? (fun q => q.1.1 == c && q.1.2 == n)).map (fun q => q.2)
def ns_lC : List ((Nat × Nat) × ((Nat ⊕ Nat) × Nat × Nat × Nat × Nat × Nat)) := [((0, 1), (.inr 0, 0, 0, 0, 0, 2)), ((0, 9), (.inr 2, 0, 0, 0, 0, 0)), ((0, 15), (.inr 1, 0, 0, 0, 0, 0)), ((0, 28), (.inl 73, 0, 7, 117, 1, 2)), ((0, 38), (.inl 77, 0, 2, 60, 2, 2)), ((0, 45), (.inl 93, 1, 0, 0, 4, 2)), ((0, 55), (.inl 80, 1, 0, 0, 2, 0)), ((0, 59), (.inl 81, 1, 0, 0, 2, 1)), ((0, 62), (.inl 10, 1, 0, 0, 0, 0)), ((0, 66), (.inl 94, 0, 0, 0, 4, 1)), ((0, 70), (.inl 95, 0, 0, 0, 4, 1)), ((0, 74), (.inl 12, 1, 0, 0, 0, 1)), ((0, 81), (.inl 11, 1, 0, 0, 0, 0)), ((0, 94), (.inl 13, 3, 0, 0, 0, 1)), ((0, 100), (.inl 15, 1, 0, 0, 0, 1)), ((0, 104), (.inl 28, 0, 0, 0, 0, 1)), ((0, 110), (.inl 76, 0, 0, 0, 1, 1)), ((0, 122), (.inl 75, 0, 0, 0, 1, 1)), ((0, 134), (.inl 27, 0, 0, 0, 0, 1)), ((0, 140), (.inl 86, 1, 0, 0, 2, 1)), ((0, 144), (.inl 74, 0, 0, 0, 1, 1)), ((0, 147), (.inl 14, 1, 0, 0, 0, 1)), ((0, 151), (.inl 87, 1, 0, 0, 2, 1)), ((0, 160), (.inl 89, 0, 0, 0, 3, 1)), ((0, 163), (.inl 16, 1, 0, 0, 0, 1)), ((0, 166), (.inl 20, 1, 0, 0, 0, 1)), ((0, 169), (.inl 25, 1, 0, 0, 0, 1)), ((0, 179), (.inl 90, 1, 0, 0, 3, 1)), ((0, 182), (.inl 17, 1, 0, 0, 0, 1)), ((0, 186), (.inl 19, 2, 0, 0, 0, 1)), ((0, 190), (.inl 18, 1, 0, 0, 0, 1)), ((0, 194), (.inl 21, 1, 0, 0, 0, 1)), ((0, 202), (.inl 26, 2, 0, 0, 0, 1)), ((0, 204), (.inl 22, 1, 0, 0, 0, 1)), ((0, 207), (.inl 91, 2, 0, 0, 3, 1)), ((0, 217), (.inl 85, 1, 0, 0, 2, 1)), ((0, 221), (.inl 84, 1, 0, 0, 2, 1)), ((0, 224), (.inl 106, 2, 0, 0, 7, 0)), ((0, 227), (.inl 24, 2, 0, 0, 0, 1)), ((0, 233), (.inl 23, 3, 0, 0, 0, 0)), ((0, 237), (.inl 92, 1, 0, 0, 3, 1)), ((0, 246), (.inl 29, 0, 0, 0, 0, 1)), ((1, 3), (.inr 0, 0, 0, 0, 0, 2)), ((1, 11), (.inl 77, 0, 2, 60, 2, 2)), ((1, 20), (.inl 88, 0, 1, 12, 3, 2)), ((2, 3), (.inr 0, 0, 0, 0, 0, 2)), ((2, 19), (.inl 78, 1, 0, 0, 2, 0)), ((2, 23), (.inl 79, 1, 0, 0, 2, 0)), ((2, 28), (.inr 4, 0, 0, 0, 0, 1)), ((2, 41), (.inl 84, 1, 0, 0, 2, 1)), ((2, 44), (.inr 5, 0, 0, 0, 0, 0)), ((3, 3), (.inr 0, 0, 0, 0, 0, 2)), ((3, 39), (.inl 90, 1, 0, 0, 3, 1)), ((4, 3), (.inr 0, 0, 0, 0, 0, 2)), ((4, 24), (.inl 98, 1, 0, 0, 4, 1)), ((4, 35), (.inl 96, 0, 0, 0, 4, 1)), ((4, 39), (.inl 100, 1, 0, 0, 4, 1)), ((4, 42), (.inl 82, 2, 0, 0, 2, 1)), ((4, 46), (.inl 97, 1, 0, 0, 4, 1)), ((4, 50), (.inl 99, 1, 0, 0, 4, 1)), ((4, 53), (.inl 83, 1, 0, 0, 2, 1)), ((4, 57), (.inl 101, 1, 0, 0, 4, 1)), ((4, 60), (.inl 102, 1, 0, 0, 4, 1)), ((4, 63), (.inl 78, 1, 0, 0, 2, 0)), ((4, 66), (.inl 79, 1, 0, 0, 2, 0)), ((4, 69), (.inl 103, 0, 0, 0, 4, 1)), ((5, 1), (.inr 0, 0, 0, 0, 0, 2)), ((5, 127), (.inl 32, 1, 0, 0, 5, 0)), ((5, 131), (.inl 33, 1, 0, 0, 5, 0)), ((5, 143), (.inl 37, 1, 0, 0, 5, 0)), ((5, 147), (.inl 35, 2, 0, 0, 5, 1)), ((5, 151), (.inl 38, 1, 0, 0, 5, 1)), ((5, 155), (.inl 39, 0, 0, 0, 5, 1)), ((5, 159), (.inl 36, 2, 0, 0, 5, 1)), ((5, 162), (.inl 42, 0, 0, 0, 5, 1)), ((5, 165), (.inl 41, 0, 0, 0, 5, 1)), ((5, 169), (.inl 44, 0, 0, 0, 5, 1)), ((5, 172), (.inl 43, 0, 0, 0, 5, 1)), ((5, 175), (.inl 40, 2, 0, 0, 5, 1)), ((5, 179), (.inl 45, 1, 0, 0, 5, 1)), ((5, 182), (.inl 46, 0, 0, 0, 5, 1)), ((5, 185), (.inl 31, 1, 0, 0, 5, 0)), ((5, 188), (.inl 48, 1, 0, 0, 5, 1)), ((5, 197), (.inl 58, 2, 0, 0, 5, 1)), ((5, 200), (.inl 59, 2, 0, 0, 5, 1)), ((5, 203), (.inl 60, 3, 0, 0, 5, 1)), ((5, 207), (.inl 63, 2, 0, 0, 5, 1)), ((5, 210), (.inl 54, 2, 0, 0, 5, 1)), ((5, 213), (.inl 55, 0, 0, 0, 5, 1)), ((5, 216), (.inl 51, 1, 0, 0, 5, 1)), ((5, 219), (.inl 50, 1, 0, 0, 5, 1)), ((5, 222), (.inl 53, 2, 0, 0, 5, 1)), ((5, 225), (.inl 52, 1, 0, 0, 5, 1)), ((5, 228), (.inl 56, 1, 0, 0, 5, 1)), ((5, 231), (.inl 65, 3, 0, 0, 5, 1)), ((5, 235), (.inl 61, 2, 0, 0, 5, 1)), ((5, 239), (.inl 62, 1, 0, 0, 5, 1)), ((5, 243), (.inl 64, 2, 0, 0, 5, 1)), ((5, 250), (.inl 57, 0, 0, 0, 5, 1)), ((5, 253), (.inl 66, 0, 0, 0, 5, 1)), ((6, 9), (.inl 104, 2, 0, 0, 6, 0)), ((6, 15), (.inl 0, 1, 103, 1620, 0, 2)), ((6, 20), (.inl 30, 1, 36, 2344, 5, 2)), ((6, 21), (.inl 1, 1, 0, 0, 0, 1)), ((6, 25), (.inl 34, 1, 0, 0, 5, 1)), ((6, 26), (.inl 2, 1, 0, 0, 0, 1)), ((6, 30), (.inl 47, 1, 0, 0, 5, 1)), ((6, 31), (.inl 3, 3, 0, 0, 0, 1)), ((6, 35), (.inl 49, 3, 0, 0, 5, 1)), ((6, 36), (.inl 4, 1, 0, 0, 0, 1)), ((6, 40), (.inl 67, 1, 0, 0, 5, 1)), ((6, 41), (.inl 5, 0, 0, 0, 0, 1)), ((6, 45), (.inl 68, 0, 0, 0, 5, 1)), ((6, 46), (.inl 6, 1, 0, 0, 0, 1)), ((6, 49), (.inl 69, 1, 0, 0, 5, 1)), ((6, 50), (.inl 7, 2, 0, 0, 0, 1)), ((6, 54), (.inl 70, 2, 0, 0, 5, 1)), ((6, 55), (.inl 8, 2, 0, 0, 0, 1)), ((6, 58), (.inl 71, 2, 0, 0, 5, 1)), ((6, 59), (.inl 9, 1, 0, 0, 0, 1)), ((6, 62), (.inl 72, 1, 0, 0, 5, 1))]
def ns_tC : ax_TC := fun c n => (ns_lC.find? (fun q => q.1.1 == c && q.1.2 == n)).map (fun q => q.2)
def ns_lK : List ((Nat × Nat) × (Value)) := [((0, 98), (.long (-1))), ((0, 231), (.long 1099511627776)), ((2, 26), (.retAddr 1)), ((5, 246), (.long 1099511627776)), ((5, 248), (.long (-1)))]
def ns_tK : ax_TK := fun c n => (ns_lK.find? (fun q => q.1.1 == c && q.1.2 == n)).map (fun q => q.2)
def ns_lN : List ((Nat × Nat) × (Nat × List Value × String)) := [((0, 22), (1, [.null, .null, .null, .null, .int 0, .int 0, .int 0, .int 0, .int 0, .int 0, .int 0], "NoteSheet$Cell")), ((0, 36), (2, [.null, .null, .int 0, .int 0], "NoteSheet$Formula")), ((0, 43), (4, [.null, .int 0], "NoteSheet$Parser")), ((1, 9), (2, [.null, .null, .int 0, .int 0], "NoteSheet$Formula")), ((1, 18), (3, [.null, .int 0, .int 0, .int 0, .long 0, .int 0, .int 0, .int 0], "NoteSheet$Note")), ((6, 7), (0, [.null, .null, .null, .null, .null, .int 0, .int 0, .int 0], "NoteSheet")), ((6, 18), (5, [.int 0, .null, .int 0, .int 0, .null, .null, .null, .null, .null, .null, .null, .null, .null, .null, .null, .null, .null, .null, .null, .null, .null, .null, .null, .null, .int 0, .null, .null, .int 0, .null, .null, .null, .null, .null, .null, .null, .null, .null, .int 0, .null, .null, .int 0, .null, .null], "NoteSheetModel"))]
def ns_tN : ax_TN := fun c n => (ns_lN.find? (fun q => q.1.1 == c && q.1.2 == n)).map (fun q => q.2)
def ns_tb : ax_Tb := (ns_tF, ns_tC, ns_tK, ns_tN)
def ns_Tb : List Cond := lw_tbl.filter goodWord
theorem nF_0_18 : ns_tF 0 18 = some (0, 5, .int, true) := by decide +kernel
theorem nF_0_24 : ns_tF 0 24 = some (0, 0, .array (.object "NoteSheet$Cell"), true) := by decide +kernel
theorem nF_0_29 : ns_tF 0 29 = some (0, 1, .array .int, true) := by decide +kernel
theorem nF_0_33 : ns_tF 0 33 = some (0, 2, .array .int, true) := by decide +kernel
theorem nF_0_39 : ns_tF 0 39 = some (0, 3, .object "NoteSheet$Formula", true) := by decide +kernel
theorem nF_0_48 : ns_tF 0 48 = some (0, 4, .object "NoteSheet$Parser", true) := by decide +kernel
theorem nF_0_52 : ns_tF 0 52 = some (0, 6, .int, false) := by decide +kernel
theorem nF_0_78 : ns_tF 0 78 = some (2, 2, .int, false) := by decide +kernel
theorem nF_0_84 : ns_tF 0 84 = some (1, 4, .boolean, false) := by decide +kernel
theorem nF_0_88 : ns_tF 0 88 = some (1, 6, .int, false) := by decide +kernel
theorem nF_0_91 : ns_tF 0 91 = some (1, 7, .int, false) := by decide +kernel
theorem nF_0_107 : ns_tF 0 107 = some (1, 2, .array .int, true) := by decide +kernel
theorem nF_0_113 : ns_tF 0 113 = some (1, 1, .object "NoteSheet$Note", true) := by decide +kernel
theorem nF_0_117 : ns_tF 0 117 = some (3, 5, .int, false) := by decide +kernel
theorem nF_0_125 : ns_tF 0 125 = some (3, 1, .int, false) := by decide +kernel
theorem nF_0_128 : ns_tF 0 128 = some (3, 3, .boolean, false) := by decide +kernel
theorem nF_0_131 : ns_tF 0 131 = some (3, 0, .array .int, true) := by decide +kernel
theorem nF_0_137 : ns_tF 0 137 = some (1, 0, .object "NoteSheet$Formula", true) := by decide +kernel
theorem nF_0_154 : ns_tF 0 154 = some (1, 5, .int, false) := by decide +kernel
theorem nF_0_157 : ns_tF 0 157 = some (1, 8, .int, false) := by decide +kernel
theorem nF_0_172 : ns_tF 0 172 = some (3, 4, .long, false) := by decide +kernel
theorem nF_0_176 : ns_tF 0 176 = some (1, 9, .boolean, false) := by decide +kernel
theorem nF_0_198 : ns_tF 0 198 = some (3, 7, .int, false) := by decide +kernel
theorem nF_0_199 : ns_tF 0 199 = some (3, 2, .boolean, false) := by decide +kernel
theorem nF_0_211 : ns_tF 0 211 = some (1, 3, .array .int, true) := by decide +kernel
theorem nF_0_214 : ns_tF 0 214 = some (2, 3, .int, false) := by decide +kernel
theorem nF_0_240 : ns_tF 0 240 = some (0, 7, .int, false) := by decide +kernel
theorem nF_0_243 : ns_tF 0 243 = some (1, 10, .int, false) := by decide +kernel
theorem nF_1_12 : ns_tF 1 12 = some (1, 0, .object "NoteSheet$Formula", true) := by decide +kernel
theorem nF_1_21 : ns_tF 1 21 = some (1, 1, .object "NoteSheet$Note", true) := by decide +kernel
theorem nF_1_25 : ns_tF 1 25 = some (1, 2, .array .int, true) := by decide +kernel
theorem nF_1_29 : ns_tF 1 29 = some (1, 3, .array .int, true) := by decide +kernel
theorem nF_1_32 : ns_tF 1 32 = some (1, 4, .boolean, false) := by decide +kernel
theorem nF_1_36 : ns_tF 1 36 = some (1, 7, .int, false) := by decide +kernel
theorem nF_1_40 : ns_tF 1 40 = some (3, 7, .int, false) := by decide +kernel
theorem nF_1_41 : ns_tF 1 41 = some (3, 6, .int, false) := by decide +kernel
theorem nF_1_44 : ns_tF 1 44 = some (1, 8, .int, false) := by decide +kernel
theorem nF_2_9 : ns_tF 2 9 = some (2, 0, .array .char, true) := by decide +kernel
theorem nF_2_15 : ns_tF 2 15 = some (2, 1, .array .int, true) := by decide +kernel
theorem nF_2_34 : ns_tF 2 34 = some (2, 2, .int, false) := by decide +kernel
theorem nF_2_38 : ns_tF 2 38 = some (2, 3, .int, false) := by decide +kernel
theorem nF_3_9 : ns_tF 3 9 = some (3, 0, .array .int, true) := by decide +kernel
theorem nF_3_15 : ns_tF 3 15 = some (3, 1, .int, false) := by decide +kernel
theorem nF_3_19 : ns_tF 3 19 = some (3, 2, .boolean, false) := by decide +kernel
theorem nF_3_23 : ns_tF 3 23 = some (3, 3, .boolean, false) := by decide +kernel
theorem nF_3_26 : ns_tF 3 26 = some (3, 5, .int, false) := by decide +kernel
theorem nF_3_29 : ns_tF 3 29 = some (3, 6, .int, false) := by decide +kernel
theorem nF_3_32 : ns_tF 3 32 = some (3, 7, .int, false) := by decide +kernel
theorem nF_3_35 : ns_tF 3 35 = some (3, 4, .long, false) := by decide +kernel
theorem nF_4_9 : ns_tF 4 9 = some (4, 0, .object "NoteSheet$Formula", true) := by decide +kernel
theorem nF_4_15 : ns_tF 4 15 = some (4, 1, .int, false) := by decide +kernel
theorem nF_4_19 : ns_tF 4 19 = some (2, 3, .int, false) := by decide +kernel
theorem nF_4_28 : ns_tF 4 28 = some (2, 2, .int, false) := by decide +kernel
theorem nF_4_31 : ns_tF 4 31 = some (2, 0, .array .char, true) := by decide +kernel
theorem nF_5_7 : ns_tF 5 7 = some (5, 1, .array .int, true) := by decide +kernel
theorem nF_5_13 : ns_tF 5 13 = some (5, 3, .int, false) := by decide +kernel
theorem nF_5_17 : ns_tF 5 17 = some (5, 4, .array .int, true) := by decide +kernel
theorem nF_5_20 : ns_tF 5 20 = some (5, 5, .array .boolean, true) := by decide +kernel
theorem nF_5_24 : ns_tF 5 24 = some (5, 6, .array .int, true) := by decide +kernel
theorem nF_5_27 : ns_tF 5 27 = some (5, 7, .array .int, true) := by decide +kernel
theorem nF_5_30 : ns_tF 5 30 = some (5, 8, .array .int, true) := by decide +kernel
theorem nF_5_33 : ns_tF 5 33 = some (5, 9, .array .int, true) := by decide +kernel
theorem nF_5_36 : ns_tF 5 36 = some (5, 10, .array .int, true) := by decide +kernel
theorem nF_5_39 : ns_tF 5 39 = some (5, 11, .array .int, true) := by decide +kernel
theorem nF_5_42 : ns_tF 5 42 = some (5, 12, .array .int, true) := by decide +kernel
theorem nF_5_45 : ns_tF 5 45 = some (5, 13, .array .int, true) := by decide +kernel
theorem nF_5_48 : ns_tF 5 48 = some (5, 14, .array .int, true) := by decide +kernel
theorem nF_5_51 : ns_tF 5 51 = some (5, 15, .array .boolean, true) := by decide +kernel
theorem nF_5_54 : ns_tF 5 54 = some (5, 16, .array .boolean, true) := by decide +kernel
theorem nF_5_57 : ns_tF 5 57 = some (5, 17, .array .long, true) := by decide +kernel
theorem nF_5_61 : ns_tF 5 61 = some (5, 18, .array .int, true) := by decide +kernel
theorem nF_5_64 : ns_tF 5 64 = some (5, 19, .array .int, true) := by decide +kernel
theorem nF_5_67 : ns_tF 5 67 = some (5, 20, .array .int, true) := by decide +kernel
theorem nF_5_70 : ns_tF 5 70 = some (5, 21, .array .int, true) := by decide +kernel
theorem nF_5_73 : ns_tF 5 73 = some (5, 22, .array .int, true) := by decide +kernel
theorem nF_5_76 : ns_tF 5 76 = some (5, 23, .array .int, true) := by decide +kernel
theorem nF_5_79 : ns_tF 5 79 = some (5, 25, .array .int, true) := by decide +kernel
theorem nF_5_82 : ns_tF 5 82 = some (5, 26, .array .int, true) := by decide +kernel
theorem nF_5_85 : ns_tF 5 85 = some (5, 28, .array .int, true) := by decide +kernel
theorem nF_5_88 : ns_tF 5 88 = some (5, 29, .array .int, true) := by decide +kernel
theorem nF_5_91 : ns_tF 5 91 = some (5, 30, .array .int, true) := by decide +kernel
theorem nF_5_94 : ns_tF 5 94 = some (5, 31, .array .int, true) := by decide +kernel
theorem nF_5_97 : ns_tF 5 97 = some (5, 32, .array .long, true) := by decide +kernel
theorem nF_5_100 : ns_tF 5 100 = some (5, 33, .array .int, true) := by decide +kernel
theorem nF_5_103 : ns_tF 5 103 = some (5, 34, .array .int, true) := by decide +kernel
theorem nF_5_106 : ns_tF 5 106 = some (5, 35, .array .boolean, true) := by decide +kernel
theorem nF_5_109 : ns_tF 5 109 = some (5, 36, .array .boolean, true) := by decide +kernel
theorem nF_5_112 : ns_tF 5 112 = some (5, 38, .array .int, true) := by decide +kernel
theorem nF_5_115 : ns_tF 5 115 = some (5, 39, .array .int, true) := by decide +kernel
theorem nF_5_118 : ns_tF 5 118 = some (5, 41, .array .int, true) := by decide +kernel
theorem nF_5_121 : ns_tF 5 121 = some (5, 42, .array .int, true) := by decide +kernel
theorem nF_5_124 : ns_tF 5 124 = some (5, 0, .int, true) := by decide +kernel
theorem nF_5_134 : ns_tF 5 134 = some (5, 2, .int, false) := by decide +kernel
theorem nF_5_137 : ns_tF 5 137 = some (5, 40, .int, false) := by decide +kernel
theorem nF_5_140 : ns_tF 5 140 = some (5, 37, .int, false) := by decide +kernel
theorem nF_5_191 : ns_tF 5 191 = some (5, 27, .int, false) := by decide +kernel
theorem nF_5_194 : ns_tF 5 194 = some (5, 24, .int, false) := by decide +kernel
theorem nC_0_1 : ns_tC 0 1 = some (.inr 0, 0, 0, 0, 0, 2) := by decide +kernel
theorem nC_0_9 : ns_tC 0 9 = some (.inr 2, 0, 0, 0, 0, 0) := by decide +kernel
theorem nC_0_15 : ns_tC 0 15 = some (.inr 1, 0, 0, 0, 0, 0) := by decide +kernel
theorem nC_0_28 : ns_tC 0 28 = some (.inl 73, 0, 7, 117, 1, 2) := by decide +kernel
theorem nC_0_38 : ns_tC 0 38 = some (.inl 77, 0, 2, 60, 2, 2) := by decide +kernel
theorem nC_0_45 : ns_tC 0 45 = some (.inl 93, 1, 0, 0, 4, 2) := by decide +kernel
theorem nC_0_55 : ns_tC 0 55 = some (.inl 80, 1, 0, 0, 2, 0) := by decide +kernel
theorem nC_0_59 : ns_tC 0 59 = some (.inl 81, 1, 0, 0, 2, 1) := by decide +kernel
theorem nC_0_62 : ns_tC 0 62 = some (.inl 10, 1, 0, 0, 0, 0) := by decide +kernel
theorem nC_0_66 : ns_tC 0 66 = some (.inl 94, 0, 0, 0, 4, 1) := by decide +kernel
theorem nC_0_70 : ns_tC 0 70 = some (.inl 95, 0, 0, 0, 4, 1) := by decide +kernel
theorem nC_0_74 : ns_tC 0 74 = some (.inl 12, 1, 0, 0, 0, 1) := by decide +kernel
theorem nC_0_81 : ns_tC 0 81 = some (.inl 11, 1, 0, 0, 0, 0) := by decide +kernel
theorem nC_0_94 : ns_tC 0 94 = some (.inl 13, 3, 0, 0, 0, 1) := by decide +kernel
theorem nC_0_100 : ns_tC 0 100 = some (.inl 15, 1, 0, 0, 0, 1) := by decide +kernel
theorem nC_0_104 : ns_tC 0 104 = some (.inl 28, 0, 0, 0, 0, 1) := by decide +kernel
theorem nC_0_110 : ns_tC 0 110 = some (.inl 76, 0, 0, 0, 1, 1) := by decide +kernel
theorem nC_0_122 : ns_tC 0 122 = some (.inl 75, 0, 0, 0, 1, 1) := by decide +kernel
theorem nC_0_134 : ns_tC 0 134 = some (.inl 27, 0, 0, 0, 0, 1) := by decide +kernel
theorem nC_0_140 : ns_tC 0 140 = some (.inl 86, 1, 0, 0, 2, 1) := by decide +kernel
theorem nC_0_144 : ns_tC 0 144 = some (.inl 74, 0, 0, 0, 1, 1) := by decide +kernel
theorem nC_0_147 : ns_tC 0 147 = some (.inl 14, 1, 0, 0, 0, 1) := by decide +kernel
theorem nC_0_151 : ns_tC 0 151 = some (.inl 87, 1, 0, 0, 2, 1) := by decide +kernel
theorem nC_0_160 : ns_tC 0 160 = some (.inl 89, 0, 0, 0, 3, 1) := by decide +kernel
theorem nC_0_163 : ns_tC 0 163 = some (.inl 16, 1, 0, 0, 0, 1) := by decide +kernel
theorem nC_0_166 : ns_tC 0 166 = some (.inl 20, 1, 0, 0, 0, 1) := by decide +kernel
theorem nC_0_169 : ns_tC 0 169 = some (.inl 25, 1, 0, 0, 0, 1) := by decide +kernel
theorem nC_0_179 : ns_tC 0 179 = some (.inl 90, 1, 0, 0, 3, 1) := by decide +kernel
theorem nC_0_182 : ns_tC 0 182 = some (.inl 17, 1, 0, 0, 0, 1) := by decide +kernel
theorem nC_0_186 : ns_tC 0 186 = some (.inl 19, 2, 0, 0, 0, 1) := by decide +kernel
theorem nC_0_190 : ns_tC 0 190 = some (.inl 18, 1, 0, 0, 0, 1) := by decide +kernel
theorem nC_0_194 : ns_tC 0 194 = some (.inl 21, 1, 0, 0, 0, 1) := by decide +kernel
theorem nC_0_202 : ns_tC 0 202 = some (.inl 26, 2, 0, 0, 0, 1) := by decide +kernel
theorem nC_0_204 : ns_tC 0 204 = some (.inl 22, 1, 0, 0, 0, 1) := by decide +kernel
theorem nC_0_207 : ns_tC 0 207 = some (.inl 91, 2, 0, 0, 3, 1) := by decide +kernel
theorem nC_0_217 : ns_tC 0 217 = some (.inl 85, 1, 0, 0, 2, 1) := by decide +kernel
theorem nC_0_221 : ns_tC 0 221 = some (.inl 84, 1, 0, 0, 2, 1) := by decide +kernel
theorem nC_0_224 : ns_tC 0 224 = some (.inl 106, 2, 0, 0, 7, 0) := by decide +kernel
theorem nC_0_227 : ns_tC 0 227 = some (.inl 24, 2, 0, 0, 0, 1) := by decide +kernel
theorem nC_0_233 : ns_tC 0 233 = some (.inl 23, 3, 0, 0, 0, 0) := by decide +kernel
theorem nC_0_237 : ns_tC 0 237 = some (.inl 92, 1, 0, 0, 3, 1) := by decide +kernel
theorem nC_0_246 : ns_tC 0 246 = some (.inl 29, 0, 0, 0, 0, 1) := by decide +kernel
theorem nC_1_3 : ns_tC 1 3 = some (.inr 0, 0, 0, 0, 0, 2) := by decide +kernel
theorem nC_1_11 : ns_tC 1 11 = some (.inl 77, 0, 2, 60, 2, 2) := by decide +kernel
theorem nC_1_20 : ns_tC 1 20 = some (.inl 88, 0, 1, 12, 3, 2) := by decide +kernel
theorem nC_2_3 : ns_tC 2 3 = some (.inr 0, 0, 0, 0, 0, 2) := by decide +kernel
theorem nC_2_19 : ns_tC 2 19 = some (.inl 78, 1, 0, 0, 2, 0) := by decide +kernel
theorem nC_2_23 : ns_tC 2 23 = some (.inl 79, 1, 0, 0, 2, 0) := by decide +kernel
theorem nC_2_28 : ns_tC 2 28 = some (.inr 4, 0, 0, 0, 0, 1) := by decide +kernel
theorem nC_2_41 : ns_tC 2 41 = some (.inl 84, 1, 0, 0, 2, 1) := by decide +kernel
theorem nC_2_44 : ns_tC 2 44 = some (.inr 5, 0, 0, 0, 0, 0) := by decide +kernel
theorem nC_3_3 : ns_tC 3 3 = some (.inr 0, 0, 0, 0, 0, 2) := by decide +kernel
theorem nC_3_39 : ns_tC 3 39 = some (.inl 90, 1, 0, 0, 3, 1) := by decide +kernel
theorem nC_4_3 : ns_tC 4 3 = some (.inr 0, 0, 0, 0, 0, 2) := by decide +kernel
theorem nC_4_24 : ns_tC 4 24 = some (.inl 98, 1, 0, 0, 4, 1) := by decide +kernel
theorem nC_4_35 : ns_tC 4 35 = some (.inl 96, 0, 0, 0, 4, 1) := by decide +kernel
theorem nC_4_39 : ns_tC 4 39 = some (.inl 100, 1, 0, 0, 4, 1) := by decide +kernel
theorem nC_4_42 : ns_tC 4 42 = some (.inl 82, 2, 0, 0, 2, 1) := by decide +kernel
theorem nC_4_46 : ns_tC 4 46 = some (.inl 97, 1, 0, 0, 4, 1) := by decide +kernel
theorem nC_4_50 : ns_tC 4 50 = some (.inl 99, 1, 0, 0, 4, 1) := by decide +kernel
theorem nC_4_53 : ns_tC 4 53 = some (.inl 83, 1, 0, 0, 2, 1) := by decide +kernel
theorem nC_4_57 : ns_tC 4 57 = some (.inl 101, 1, 0, 0, 4, 1) := by decide +kernel
theorem nC_4_60 : ns_tC 4 60 = some (.inl 102, 1, 0, 0, 4, 1) := by decide +kernel
theorem nC_4_63 : ns_tC 4 63 = some (.inl 78, 1, 0, 0, 2, 0) := by decide +kernel
theorem nC_4_66 : ns_tC 4 66 = some (.inl 79, 1, 0, 0, 2, 0) := by decide +kernel
theorem nC_4_69 : ns_tC 4 69 = some (.inl 103, 0, 0, 0, 4, 1) := by decide +kernel
theorem nC_5_1 : ns_tC 5 1 = some (.inr 0, 0, 0, 0, 0, 2) := by decide +kernel
theorem nC_5_127 : ns_tC 5 127 = some (.inl 32, 1, 0, 0, 5, 0) := by decide +kernel
theorem nC_5_131 : ns_tC 5 131 = some (.inl 33, 1, 0, 0, 5, 0) := by decide +kernel
theorem nC_5_143 : ns_tC 5 143 = some (.inl 37, 1, 0, 0, 5, 0) := by decide +kernel
theorem nC_5_147 : ns_tC 5 147 = some (.inl 35, 2, 0, 0, 5, 1) := by decide +kernel
theorem nC_5_151 : ns_tC 5 151 = some (.inl 38, 1, 0, 0, 5, 1) := by decide +kernel
theorem nC_5_155 : ns_tC 5 155 = some (.inl 39, 0, 0, 0, 5, 1) := by decide +kernel
theorem nC_5_159 : ns_tC 5 159 = some (.inl 36, 2, 0, 0, 5, 1) := by decide +kernel
theorem nC_5_162 : ns_tC 5 162 = some (.inl 42, 0, 0, 0, 5, 1) := by decide +kernel
theorem nC_5_165 : ns_tC 5 165 = some (.inl 41, 0, 0, 0, 5, 1) := by decide +kernel
theorem nC_5_169 : ns_tC 5 169 = some (.inl 44, 0, 0, 0, 5, 1) := by decide +kernel
theorem nC_5_172 : ns_tC 5 172 = some (.inl 43, 0, 0, 0, 5, 1) := by decide +kernel
theorem nC_5_175 : ns_tC 5 175 = some (.inl 40, 2, 0, 0, 5, 1) := by decide +kernel
theorem nC_5_179 : ns_tC 5 179 = some (.inl 45, 1, 0, 0, 5, 1) := by decide +kernel
theorem nC_5_182 : ns_tC 5 182 = some (.inl 46, 0, 0, 0, 5, 1) := by decide +kernel
theorem nC_5_185 : ns_tC 5 185 = some (.inl 31, 1, 0, 0, 5, 0) := by decide +kernel
theorem nC_5_188 : ns_tC 5 188 = some (.inl 48, 1, 0, 0, 5, 1) := by decide +kernel
theorem nC_5_197 : ns_tC 5 197 = some (.inl 58, 2, 0, 0, 5, 1) := by decide +kernel
theorem nC_5_200 : ns_tC 5 200 = some (.inl 59, 2, 0, 0, 5, 1) := by decide +kernel
theorem nC_5_203 : ns_tC 5 203 = some (.inl 60, 3, 0, 0, 5, 1) := by decide +kernel
theorem nC_5_207 : ns_tC 5 207 = some (.inl 63, 2, 0, 0, 5, 1) := by decide +kernel
theorem nC_5_210 : ns_tC 5 210 = some (.inl 54, 2, 0, 0, 5, 1) := by decide +kernel
theorem nC_5_213 : ns_tC 5 213 = some (.inl 55, 0, 0, 0, 5, 1) := by decide +kernel
theorem nC_5_216 : ns_tC 5 216 = some (.inl 51, 1, 0, 0, 5, 1) := by decide +kernel
theorem nC_5_219 : ns_tC 5 219 = some (.inl 50, 1, 0, 0, 5, 1) := by decide +kernel
theorem nC_5_222 : ns_tC 5 222 = some (.inl 53, 2, 0, 0, 5, 1) := by decide +kernel
theorem nC_5_225 : ns_tC 5 225 = some (.inl 52, 1, 0, 0, 5, 1) := by decide +kernel
theorem nC_5_228 : ns_tC 5 228 = some (.inl 56, 1, 0, 0, 5, 1) := by decide +kernel
theorem nC_5_231 : ns_tC 5 231 = some (.inl 65, 3, 0, 0, 5, 1) := by decide +kernel
theorem nC_5_235 : ns_tC 5 235 = some (.inl 61, 2, 0, 0, 5, 1) := by decide +kernel
theorem nC_5_239 : ns_tC 5 239 = some (.inl 62, 1, 0, 0, 5, 1) := by decide +kernel
theorem nC_5_243 : ns_tC 5 243 = some (.inl 64, 2, 0, 0, 5, 1) := by decide +kernel
theorem nC_5_250 : ns_tC 5 250 = some (.inl 57, 0, 0, 0, 5, 1) := by decide +kernel
theorem nC_5_253 : ns_tC 5 253 = some (.inl 66, 0, 0, 0, 5, 1) := by decide +kernel
theorem nC_6_9 : ns_tC 6 9 = some (.inl 104, 2, 0, 0, 6, 0) := by decide +kernel
theorem nC_6_15 : ns_tC 6 15 = some (.inl 0, 1, 103, 1620, 0, 2) := by decide +kernel
theorem nC_6_20 : ns_tC 6 20 = some (.inl 30, 1, 36, 2344, 5, 2) := by decide +kernel
theorem nC_6_21 : ns_tC 6 21 = some (.inl 1, 1, 0, 0, 0, 1) := by decide +kernel
theorem nC_6_25 : ns_tC 6 25 = some (.inl 34, 1, 0, 0, 5, 1) := by decide +kernel
theorem nC_6_26 : ns_tC 6 26 = some (.inl 2, 1, 0, 0, 0, 1) := by decide +kernel
theorem nC_6_30 : ns_tC 6 30 = some (.inl 47, 1, 0, 0, 5, 1) := by decide +kernel
theorem nC_6_31 : ns_tC 6 31 = some (.inl 3, 3, 0, 0, 0, 1) := by decide +kernel
theorem nC_6_35 : ns_tC 6 35 = some (.inl 49, 3, 0, 0, 5, 1) := by decide +kernel
theorem nC_6_36 : ns_tC 6 36 = some (.inl 4, 1, 0, 0, 0, 1) := by decide +kernel
theorem nC_6_40 : ns_tC 6 40 = some (.inl 67, 1, 0, 0, 5, 1) := by decide +kernel
theorem nC_6_41 : ns_tC 6 41 = some (.inl 5, 0, 0, 0, 0, 1) := by decide +kernel
theorem nC_6_45 : ns_tC 6 45 = some (.inl 68, 0, 0, 0, 5, 1) := by decide +kernel
theorem nC_6_46 : ns_tC 6 46 = some (.inl 6, 1, 0, 0, 0, 1) := by decide +kernel
theorem nC_6_49 : ns_tC 6 49 = some (.inl 69, 1, 0, 0, 5, 1) := by decide +kernel
theorem nC_6_50 : ns_tC 6 50 = some (.inl 7, 2, 0, 0, 0, 1) := by decide +kernel
theorem nC_6_54 : ns_tC 6 54 = some (.inl 70, 2, 0, 0, 5, 1) := by decide +kernel
theorem nC_6_55 : ns_tC 6 55 = some (.inl 8, 2, 0, 0, 0, 1) := by decide +kernel
theorem nC_6_58 : ns_tC 6 58 = some (.inl 71, 2, 0, 0, 5, 1) := by decide +kernel
theorem nC_6_59 : ns_tC 6 59 = some (.inl 9, 1, 0, 0, 0, 1) := by decide +kernel
theorem nC_6_62 : ns_tC 6 62 = some (.inl 72, 1, 0, 0, 5, 1) := by decide +kernel
theorem nK_0_98 : ns_tK 0 98 = some (.long (-1)) := by decide +kernel
theorem nK_0_231 : ns_tK 0 231 = some (.long 1099511627776) := by decide +kernel
theorem nK_2_26 : ns_tK 2 26 = some (.retAddr 1) := by decide +kernel
theorem nK_5_246 : ns_tK 5 246 = some (.long 1099511627776) := by decide +kernel
theorem nK_5_248 : ns_tK 5 248 = some (.long (-1)) := by decide +kernel
theorem nN_0_22 : ns_tN 0 22 = some (1, [.null, .null, .null, .null, .int 0, .int 0, .int 0, .int 0, .int 0, .int 0, .int 0], "NoteSheet$Cell") := by decide +kernel
theorem nN_0_36 : ns_tN 0 36 = some (2, [.null, .null, .int 0, .int 0], "NoteSheet$Formula") := by decide +kernel
theorem nN_0_43 : ns_tN 0 43 = some (4, [.null, .int 0], "NoteSheet$Parser") := by decide +kernel
theorem nN_1_9 : ns_tN 1 9 = some (2, [.null, .null, .int 0, .int 0], "NoteSheet$Formula") := by decide +kernel
theorem nN_1_18 : ns_tN 1 18 = some (3, [.null, .int 0, .int 0, .int 0, .long 0, .int 0, .int 0, .int 0], "NoteSheet$Note") := by decide +kernel
theorem nN_6_7 : ns_tN 6 7 = some (0, [.null, .null, .null, .null, .null, .int 0, .int 0, .int 0], "NoteSheet") := by decide +kernel
theorem nN_6_18 : ns_tN 6 18 = some (5, [.int 0, .null, .int 0, .int 0, .null, .null, .null, .null, .null, .null, .null, .null, .null, .null, .null, .null, .null, .null, .null, .null, .null, .null, .null, .null, .int 0, .null, .null, .int 0, .null, .null, .null, .null, .null, .null, .null, .null, .null, .int 0, .null, .null, .int 0, .null, .null], "NoteSheetModel") := by decide +kernel
