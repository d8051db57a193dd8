section
-- ===== PART A: goes FIRST, ahead of the names: the tables' words, and 'selects' of the private methods out of them =====
/-- a private method of a class that the tables say can be made, by its rows of tables_1 -/
def lw_okq (q : MethodName × Nat) : Prop := (q.1.cls ≠ "java/lang/invoke/MethodHandle" ∧ q.1.cls ≠ "java/lang/invoke/VarHandle") ∧ Cond.instantiable q.1.cls q.2 ∈ tables_1 ∧ Cond.privateMethod q.1 ∈ tables_1 ∧ Cond.instanceMethod q.1 ∈ tables_1
theorem lw_p0 : lw_okq (⟨"NoteSheet$Parser", "takeFormula", "(I)Z"⟩, 2) := ⟨⟨by decide +kernel, by decide +kernel⟩, List.mem_of_getElem? (i := 145) (by decide +kernel), List.mem_of_getElem? (i := 295) (by decide +kernel), List.mem_of_getElem? (i := 296) (by decide +kernel)⟩
theorem lw_p1 : lw_okq (⟨"NoteSheet$Parser", "takeSum", "(I)Z"⟩, 2) := ⟨⟨by decide +kernel, by decide +kernel⟩, List.mem_of_getElem? (i := 145) (by decide +kernel), List.mem_of_getElem? (i := 299) (by decide +kernel), List.mem_of_getElem? (i := 300) (by decide +kernel)⟩
theorem lw_p2 : lw_okq (⟨"NoteSheet$Parser", "takeProduct", "(I)Z"⟩, 2) := ⟨⟨by decide +kernel, by decide +kernel⟩, List.mem_of_getElem? (i := 145) (by decide +kernel), List.mem_of_getElem? (i := 303) (by decide +kernel), List.mem_of_getElem? (i := 304) (by decide +kernel)⟩
theorem lw_p3 : lw_okq (⟨"NoteSheet$Parser", "takeUnit", "(I)Z"⟩, 2) := ⟨⟨by decide +kernel, by decide +kernel⟩, List.mem_of_getElem? (i := 145) (by decide +kernel), List.mem_of_getElem? (i := 307) (by decide +kernel), List.mem_of_getElem? (i := 308) (by decide +kernel)⟩
theorem lw_p4 : lw_okq (⟨"NoteSheet$Parser", "next", "()C"⟩, 2) := ⟨⟨by decide +kernel, by decide +kernel⟩, List.mem_of_getElem? (i := 145) (by decide +kernel), List.mem_of_getElem? (i := 311) (by decide +kernel), List.mem_of_getElem? (i := 312) (by decide +kernel)⟩
theorem lw_p5 : lw_okq (⟨"NoteSheet$Parser", "takeNumber", "()V"⟩, 2) := ⟨⟨by decide +kernel, by decide +kernel⟩, List.mem_of_getElem? (i := 145) (by decide +kernel), List.mem_of_getElem? (i := 321) (by decide +kernel), List.mem_of_getElem? (i := 322) (by decide +kernel)⟩
theorem lw_p6 : lw_okq (⟨"NoteSheet$Parser", "take", "(C)Z"⟩, 2) := ⟨⟨by decide +kernel, by decide +kernel⟩, List.mem_of_getElem? (i := 145) (by decide +kernel), List.mem_of_getElem? (i := 325) (by decide +kernel), List.mem_of_getElem? (i := 326) (by decide +kernel)⟩
theorem lw_p7 : lw_okq (⟨"NoteSheet$Parser", "takeBranches", "(I)Z"⟩, 2) := ⟨⟨by decide +kernel, by decide +kernel⟩, List.mem_of_getElem? (i := 145) (by decide +kernel), List.mem_of_getElem? (i := 329) (by decide +kernel), List.mem_of_getElem? (i := 330) (by decide +kernel)⟩
theorem lw_p8 : lw_okq (⟨"NoteSheet", "makeFormula", "(LNoteSheet$Cell;)V"⟩, 8) := ⟨⟨by decide +kernel, by decide +kernel⟩, List.mem_of_getElem? (i := 15) (by decide +kernel), List.mem_of_getElem? (i := 345) (by decide +kernel), List.mem_of_getElem? (i := 346) (by decide +kernel)⟩
theorem lw_p9 : lw_okq (⟨"NoteSheet", "startRevision", "(I)V"⟩, 8) := ⟨⟨by decide +kernel, by decide +kernel⟩, List.mem_of_getElem? (i := 15) (by decide +kernel), List.mem_of_getElem? (i := 357) (by decide +kernel), List.mem_of_getElem? (i := 358) (by decide +kernel)⟩
theorem lw_p10 : lw_okq (⟨"NoteSheet", "makeInput", "(LNoteSheet$Cell;II)V"⟩, 8) := ⟨⟨by decide +kernel, by decide +kernel⟩, List.mem_of_getElem? (i := 15) (by decide +kernel), List.mem_of_getElem? (i := 375) (by decide +kernel), List.mem_of_getElem? (i := 376) (by decide +kernel)⟩
theorem lw_p11 : lw_okq (⟨"NoteSheet", "upToDateValue", "(LNoteSheet$Cell;)J"⟩, 8) := ⟨⟨by decide +kernel, by decide +kernel⟩, List.mem_of_getElem? (i := 15) (by decide +kernel), List.mem_of_getElem? (i := 388) (by decide +kernel), List.mem_of_getElem? (i := 389) (by decide +kernel)⟩
theorem lw_p12 : lw_okq (⟨"NoteSheet", "bringUpToDate", "(LNoteSheet$Cell;)V"⟩, 8) := ⟨⟨by decide +kernel, by decide +kernel⟩, List.mem_of_getElem? (i := 15) (by decide +kernel), List.mem_of_getElem? (i := 392) (by decide +kernel), List.mem_of_getElem? (i := 393) (by decide +kernel)⟩
theorem lw_p13 : lw_okq (⟨"NoteSheet", "passes", "(LNoteSheet$Note;)Z"⟩, 8) := ⟨⟨by decide +kernel, by decide +kernel⟩, List.mem_of_getElem? (i := 15) (by decide +kernel), List.mem_of_getElem? (i := 400) (by decide +kernel), List.mem_of_getElem? (i := 401) (by decide +kernel)⟩
theorem lw_p14 : lw_okq (⟨"NoteSheet", "verify", "(LNoteSheet$Cell;I)V"⟩, 8) := ⟨⟨by decide +kernel, by decide +kernel⟩, List.mem_of_getElem? (i := 15) (by decide +kernel), List.mem_of_getElem? (i := 404) (by decide +kernel), List.mem_of_getElem? (i := 405) (by decide +kernel)⟩
theorem lw_p15 : lw_okq (⟨"NoteSheet", "tally", "(LNoteSheet$Cell;I)V"⟩, 8) := ⟨⟨by decide +kernel, by decide +kernel⟩, List.mem_of_getElem? (i := 15) (by decide +kernel), List.mem_of_getElem? (i := 408) (by decide +kernel), List.mem_of_getElem? (i := 409) (by decide +kernel)⟩
def lw_privs_1 : List (MethodName × Nat) := [(⟨"NoteSheet$Parser", "takeFormula", "(I)Z"⟩, 2), (⟨"NoteSheet$Parser", "takeSum", "(I)Z"⟩, 2), (⟨"NoteSheet$Parser", "takeProduct", "(I)Z"⟩, 2), (⟨"NoteSheet$Parser", "takeUnit", "(I)Z"⟩, 2), (⟨"NoteSheet$Parser", "next", "()C"⟩, 2), (⟨"NoteSheet$Parser", "takeNumber", "()V"⟩, 2), (⟨"NoteSheet$Parser", "take", "(C)Z"⟩, 2), (⟨"NoteSheet$Parser", "takeBranches", "(I)Z"⟩, 2), (⟨"NoteSheet", "makeFormula", "(LNoteSheet$Cell;)V"⟩, 8), (⟨"NoteSheet", "startRevision", "(I)V"⟩, 8), (⟨"NoteSheet", "makeInput", "(LNoteSheet$Cell;II)V"⟩, 8), (⟨"NoteSheet", "upToDateValue", "(LNoteSheet$Cell;)J"⟩, 8), (⟨"NoteSheet", "bringUpToDate", "(LNoteSheet$Cell;)V"⟩, 8), (⟨"NoteSheet", "passes", "(LNoteSheet$Note;)Z"⟩, 8), (⟨"NoteSheet", "verify", "(LNoteSheet$Cell;I)V"⟩, 8), (⟨"NoteSheet", "tally", "(LNoteSheet$Cell;I)V"⟩, 8)]
theorem lw_r1 : ∀ q ∈ lw_privs_1, lw_okq q := List.forall_mem_cons.mpr ⟨lw_p0, List.forall_mem_cons.mpr ⟨lw_p1, List.forall_mem_cons.mpr ⟨lw_p2, List.forall_mem_cons.mpr ⟨lw_p3, List.forall_mem_cons.mpr ⟨lw_p4, List.forall_mem_cons.mpr ⟨lw_p5, List.forall_mem_cons.mpr ⟨lw_p6, List.forall_mem_cons.mpr ⟨lw_p7, List.forall_mem_cons.mpr ⟨lw_p8, List.forall_mem_cons.mpr ⟨lw_p9, List.forall_mem_cons.mpr ⟨lw_p10, List.forall_mem_cons.mpr ⟨lw_p11, List.forall_mem_cons.mpr ⟨lw_p12, List.forall_mem_cons.mpr ⟨lw_p13, List.forall_mem_cons.mpr ⟨lw_p14, List.forall_mem_cons.mpr ⟨lw_p15, fun _ h => absurd h List.not_mem_nil⟩⟩⟩⟩⟩⟩⟩⟩⟩⟩⟩⟩⟩⟩⟩⟩
theorem lw_p16 : lw_okq (⟨"NoteSheet", "readsAreUnchanged", "(LNoteSheet$Cell;)Z"⟩, 8) := ⟨⟨by decide +kernel, by decide +kernel⟩, List.mem_of_getElem? (i := 15) (by decide +kernel), List.mem_of_getElem? (i := 412) (by decide +kernel), List.mem_of_getElem? (i := 413) (by decide +kernel)⟩
theorem lw_p17 : lw_okq (⟨"NoteSheet", "leastDurability", "(LNoteSheet$Note;)I"⟩, 8) := ⟨⟨by decide +kernel, by decide +kernel⟩, List.mem_of_getElem? (i := 15) (by decide +kernel), List.mem_of_getElem? (i := 420) (by decide +kernel), List.mem_of_getElem? (i := 421) (by decide +kernel)⟩
theorem lw_p18 : lw_okq (⟨"NoteSheet", "workOut", "(LNoteSheet$Cell;)V"⟩, 8) := ⟨⟨by decide +kernel, by decide +kernel⟩, List.mem_of_getElem? (i := 15) (by decide +kernel), List.mem_of_getElem? (i := 428) (by decide +kernel), List.mem_of_getElem? (i := 429) (by decide +kernel)⟩
theorem lw_p19 : lw_okq (⟨"NoteSheet", "evaluate", "(LNoteSheet$Cell;)J"⟩, 8) := ⟨⟨by decide +kernel, by decide +kernel⟩, List.mem_of_getElem? (i := 15) (by decide +kernel), List.mem_of_getElem? (i := 432) (by decide +kernel), List.mem_of_getElem? (i := 433) (by decide +kernel)⟩
theorem lw_p20 : lw_okq (⟨"NoteSheet", "giveTo", "(LNoteSheet$Cell;I)J"⟩, 8) := ⟨⟨by decide +kernel, by decide +kernel⟩, List.mem_of_getElem? (i := 15) (by decide +kernel), List.mem_of_getElem? (i := 444) (by decide +kernel), List.mem_of_getElem? (i := 445) (by decide +kernel)⟩
theorem lw_p21 : lw_okq (⟨"NoteSheet", "markUsed", "(LNoteSheet$Cell;)V"⟩, 8) := ⟨⟨by decide +kernel, by decide +kernel⟩, List.mem_of_getElem? (i := 15) (by decide +kernel), List.mem_of_getElem? (i := 461) (by decide +kernel), List.mem_of_getElem? (i := 462) (by decide +kernel)⟩
theorem lw_p22 : lw_okq (⟨"NoteSheet", "dropValuesBeyondKept", "()V"⟩, 8) := ⟨⟨by decide +kernel, by decide +kernel⟩, List.mem_of_getElem? (i := 15) (by decide +kernel), List.mem_of_getElem? (i := 465) (by decide +kernel), List.mem_of_getElem? (i := 466) (by decide +kernel)⟩
theorem lw_p23 : lw_okq (⟨"NoteSheet", "valuesInNotes", "()I"⟩, 8) := ⟨⟨by decide +kernel, by decide +kernel⟩, List.mem_of_getElem? (i := 15) (by decide +kernel), List.mem_of_getElem? (i := 469) (by decide +kernel), List.mem_of_getElem? (i := 470) (by decide +kernel)⟩
theorem lw_p24 : lw_okq (⟨"NoteSheet", "dropLongestUnused", "()V"⟩, 8) := ⟨⟨by decide +kernel, by decide +kernel⟩, List.mem_of_getElem? (i := 15) (by decide +kernel), List.mem_of_getElem? (i := 473) (by decide +kernel), List.mem_of_getElem? (i := 474) (by decide +kernel)⟩
theorem lw_p25 : lw_okq (⟨"NoteSheetModel", "fault", "()I"⟩, 43) := ⟨⟨by decide +kernel, by decide +kernel⟩, List.mem_of_getElem? (i := 500) (by decide +kernel), List.mem_of_getElem? (i := 652) (by decide +kernel), List.mem_of_getElem? (i := 653) (by decide +kernel)⟩
theorem lw_p26 : lw_okq (⟨"NoteSheetModel", "begin", "(II)Z"⟩, 43) := ⟨⟨by decide +kernel, by decide +kernel⟩, List.mem_of_getElem? (i := 500) (by decide +kernel), List.mem_of_getElem? (i := 656) (by decide +kernel), List.mem_of_getElem? (i := 657) (by decide +kernel)⟩
theorem lw_p27 : lw_okq (⟨"NoteSheetModel", "make", "(II)V"⟩, 43) := ⟨⟨by decide +kernel, by decide +kernel⟩, List.mem_of_getElem? (i := 500) (by decide +kernel), List.mem_of_getElem? (i := 660) (by decide +kernel), List.mem_of_getElem? (i := 661) (by decide +kernel)⟩
theorem lw_p28 : lw_okq (⟨"NoteSheetModel", "settle", "(I)V"⟩, 43) := ⟨⟨by decide +kernel, by decide +kernel⟩, List.mem_of_getElem? (i := 500) (by decide +kernel), List.mem_of_getElem? (i := 664) (by decide +kernel), List.mem_of_getElem? (i := 665) (by decide +kernel)⟩
theorem lw_p29 : lw_okq (⟨"NoteSheetModel", "deepness", "()I"⟩, 43) := ⟨⟨by decide +kernel, by decide +kernel⟩, List.mem_of_getElem? (i := 500) (by decide +kernel), List.mem_of_getElem? (i := 671) (by decide +kernel), List.mem_of_getElem? (i := 672) (by decide +kernel)⟩
theorem lw_p30 : lw_okq (⟨"NoteSheetModel", "put", "(II)V"⟩, 43) := ⟨⟨by decide +kernel, by decide +kernel⟩, List.mem_of_getElem? (i := 500) (by decide +kernel), List.mem_of_getElem? (i := 675) (by decide +kernel), List.mem_of_getElem? (i := 676) (by decide +kernel)⟩
theorem lw_p31 : lw_okq (⟨"NoteSheetModel", "goesOn", "(I)Z"⟩, 43) := ⟨⟨by decide +kernel, by decide +kernel⟩, List.mem_of_getElem? (i := 500) (by decide +kernel), List.mem_of_getElem? (i := 679) (by decide +kernel), List.mem_of_getElem? (i := 680) (by decide +kernel)⟩
def lw_privs_2 : List (MethodName × Nat) := [(⟨"NoteSheet", "readsAreUnchanged", "(LNoteSheet$Cell;)Z"⟩, 8), (⟨"NoteSheet", "leastDurability", "(LNoteSheet$Note;)I"⟩, 8), (⟨"NoteSheet", "workOut", "(LNoteSheet$Cell;)V"⟩, 8), (⟨"NoteSheet", "evaluate", "(LNoteSheet$Cell;)J"⟩, 8), (⟨"NoteSheet", "giveTo", "(LNoteSheet$Cell;I)J"⟩, 8), (⟨"NoteSheet", "markUsed", "(LNoteSheet$Cell;)V"⟩, 8), (⟨"NoteSheet", "dropValuesBeyondKept", "()V"⟩, 8), (⟨"NoteSheet", "valuesInNotes", "()I"⟩, 8), (⟨"NoteSheet", "dropLongestUnused", "()V"⟩, 8), (⟨"NoteSheetModel", "fault", "()I"⟩, 43), (⟨"NoteSheetModel", "begin", "(II)Z"⟩, 43), (⟨"NoteSheetModel", "make", "(II)V"⟩, 43), (⟨"NoteSheetModel", "settle", "(I)V"⟩, 43), (⟨"NoteSheetModel", "deepness", "()I"⟩, 43), (⟨"NoteSheetModel", "put", "(II)V"⟩, 43), (⟨"NoteSheetModel", "goesOn", "(I)Z"⟩, 43)]
theorem lw_r2 : ∀ q ∈ lw_privs_2, lw_okq q := List.forall_mem_cons.mpr ⟨lw_p16, List.forall_mem_cons.mpr ⟨lw_p17, List.forall_mem_cons.mpr ⟨lw_p18, List.forall_mem_cons.mpr ⟨lw_p19, List.forall_mem_cons.mpr ⟨lw_p20, List.forall_mem_cons.mpr ⟨lw_p21, List.forall_mem_cons.mpr ⟨lw_p22, List.forall_mem_cons.mpr ⟨lw_p23, List.forall_mem_cons.mpr ⟨lw_p24, List.forall_mem_cons.mpr ⟨lw_p25, List.forall_mem_cons.mpr ⟨lw_p26, List.forall_mem_cons.mpr ⟨lw_p27, List.forall_mem_cons.mpr ⟨lw_p28, List.forall_mem_cons.mpr ⟨lw_p29, List.forall_mem_cons.mpr ⟨lw_p30, List.forall_mem_cons.mpr ⟨lw_p31, fun _ h => absurd h List.not_mem_nil⟩⟩⟩⟩⟩⟩⟩⟩⟩⟩⟩⟩⟩⟩⟩⟩
theorem lw_p32 : lw_okq (⟨"NoteSheetModel", "compared", "()Z"⟩, 43) := ⟨⟨by decide +kernel, by decide +kernel⟩, List.mem_of_getElem? (i := 500) (by decide +kernel), List.mem_of_getElem? (i := 683) (by decide +kernel), List.mem_of_getElem? (i := 684) (by decide +kernel)⟩
theorem lw_p33 : lw_okq (⟨"NoteSheetModel", "awaits", "()I"⟩, 43) := ⟨⟨by decide +kernel, by decide +kernel⟩, List.mem_of_getElem? (i := 500) (by decide +kernel), List.mem_of_getElem? (i := 687) (by decide +kernel), List.mem_of_getElem? (i := 688) (by decide +kernel)⟩
theorem lw_p34 : lw_okq (⟨"NoteSheetModel", "inner", "()I"⟩, 43) := ⟨⟨by decide +kernel, by decide +kernel⟩, List.mem_of_getElem? (i := 500) (by decide +kernel), List.mem_of_getElem? (i := 691) (by decide +kernel), List.mem_of_getElem? (i := 692) (by decide +kernel)⟩
theorem lw_p35 : lw_okq (⟨"NoteSheetModel", "close", "()V"⟩, 43) := ⟨⟨by decide +kernel, by decide +kernel⟩, List.mem_of_getElem? (i := 500) (by decide +kernel), List.mem_of_getElem? (i := 695) (by decide +kernel), List.mem_of_getElem? (i := 696) (by decide +kernel)⟩
theorem lw_p36 : lw_okq (⟨"NoteSheetModel", "change", "(I)V"⟩, 43) := ⟨⟨by decide +kernel, by decide +kernel⟩, List.mem_of_getElem? (i := 500) (by decide +kernel), List.mem_of_getElem? (i := 702) (by decide +kernel), List.mem_of_getElem? (i := 703) (by decide +kernel)⟩
theorem lw_p37 : lw_okq (⟨"NoteSheetModel", "settled", "(I)Z"⟩, 43) := ⟨⟨by decide +kernel, by decide +kernel⟩, List.mem_of_getElem? (i := 500) (by decide +kernel), List.mem_of_getElem? (i := 715) (by decide +kernel), List.mem_of_getElem? (i := 716) (by decide +kernel)⟩
theorem lw_p38 : lw_okq (⟨"NoteSheetModel", "start", "(II)V"⟩, 43) := ⟨⟨by decide +kernel, by decide +kernel⟩, List.mem_of_getElem? (i := 500) (by decide +kernel), List.mem_of_getElem? (i := 719) (by decide +kernel), List.mem_of_getElem? (i := 720) (by decide +kernel)⟩
theorem lw_p39 : lw_okq (⟨"NoteSheetModel", "runAll", "()V"⟩, 43) := ⟨⟨by decide +kernel, by decide +kernel⟩, List.mem_of_getElem? (i := 500) (by decide +kernel), List.mem_of_getElem? (i := 723) (by decide +kernel), List.mem_of_getElem? (i := 724) (by decide +kernel)⟩
theorem lw_p40 : lw_okq (⟨"NoteSheetModel", "enter", "(II)V"⟩, 43) := ⟨⟨by decide +kernel, by decide +kernel⟩, List.mem_of_getElem? (i := 500) (by decide +kernel), List.mem_of_getElem? (i := 727) (by decide +kernel), List.mem_of_getElem? (i := 728) (by decide +kernel)⟩
theorem lw_p41 : lw_okq (⟨"NoteSheetModel", "counts", "(II)V"⟩, 43) := ⟨⟨by decide +kernel, by decide +kernel⟩, List.mem_of_getElem? (i := 500) (by decide +kernel), List.mem_of_getElem? (i := 731) (by decide +kernel), List.mem_of_getElem? (i := 732) (by decide +kernel)⟩
theorem lw_p42 : lw_okq (⟨"NoteSheetModel", "finish", "()V"⟩, 43) := ⟨⟨by decide +kernel, by decide +kernel⟩, List.mem_of_getElem? (i := 500) (by decide +kernel), List.mem_of_getElem? (i := 735) (by decide +kernel), List.mem_of_getElem? (i := 736) (by decide +kernel)⟩
theorem lw_p43 : lw_okq (⟨"NoteSheetModel", "lookThrough", "(II)V"⟩, 43) := ⟨⟨by decide +kernel, by decide +kernel⟩, List.mem_of_getElem? (i := 500) (by decide +kernel), List.mem_of_getElem? (i := 739) (by decide +kernel), List.mem_of_getElem? (i := 740) (by decide +kernel)⟩
theorem lw_p44 : lw_okq (⟨"NoteSheetModel", "durabilityOf", "(I)I"⟩, 43) := ⟨⟨by decide +kernel, by decide +kernel⟩, List.mem_of_getElem? (i := 500) (by decide +kernel), List.mem_of_getElem? (i := 743) (by decide +kernel), List.mem_of_getElem? (i := 744) (by decide +kernel)⟩
theorem lw_p45 : lw_okq (⟨"NoteSheetModel", "sinceOf", "(I)I"⟩, 43) := ⟨⟨by decide +kernel, by decide +kernel⟩, List.mem_of_getElem? (i := 500) (by decide +kernel), List.mem_of_getElem? (i := 747) (by decide +kernel), List.mem_of_getElem? (i := 748) (by decide +kernel)⟩
theorem lw_p46 : lw_okq (⟨"NoteSheetModel", "worked", "(IIJ)V"⟩, 43) := ⟨⟨by decide +kernel, by decide +kernel⟩, List.mem_of_getElem? (i := 500) (by decide +kernel), List.mem_of_getElem? (i := 751) (by decide +kernel), List.mem_of_getElem? (i := 752) (by decide +kernel)⟩
theorem lw_p47 : lw_okq (⟨"NoteSheetModel", "use", "(I)V"⟩, 43) := ⟨⟨by decide +kernel, by decide +kernel⟩, List.mem_of_getElem? (i := 500) (by decide +kernel), List.mem_of_getElem? (i := 755) (by decide +kernel), List.mem_of_getElem? (i := 756) (by decide +kernel)⟩
def lw_privs_3 : List (MethodName × Nat) := [(⟨"NoteSheetModel", "compared", "()Z"⟩, 43), (⟨"NoteSheetModel", "awaits", "()I"⟩, 43), (⟨"NoteSheetModel", "inner", "()I"⟩, 43), (⟨"NoteSheetModel", "close", "()V"⟩, 43), (⟨"NoteSheetModel", "change", "(I)V"⟩, 43), (⟨"NoteSheetModel", "settled", "(I)Z"⟩, 43), (⟨"NoteSheetModel", "start", "(II)V"⟩, 43), (⟨"NoteSheetModel", "runAll", "()V"⟩, 43), (⟨"NoteSheetModel", "enter", "(II)V"⟩, 43), (⟨"NoteSheetModel", "counts", "(II)V"⟩, 43), (⟨"NoteSheetModel", "finish", "()V"⟩, 43), (⟨"NoteSheetModel", "lookThrough", "(II)V"⟩, 43), (⟨"NoteSheetModel", "durabilityOf", "(I)I"⟩, 43), (⟨"NoteSheetModel", "sinceOf", "(I)I"⟩, 43), (⟨"NoteSheetModel", "worked", "(IIJ)V"⟩, 43), (⟨"NoteSheetModel", "use", "(I)V"⟩, 43)]
theorem lw_r3 : ∀ q ∈ lw_privs_3, lw_okq q := List.forall_mem_cons.mpr ⟨lw_p32, List.forall_mem_cons.mpr ⟨lw_p33, List.forall_mem_cons.mpr ⟨lw_p34, List.forall_mem_cons.mpr ⟨lw_p35, List.forall_mem_cons.mpr ⟨lw_p36, List.forall_mem_cons.mpr ⟨lw_p37, List.forall_mem_cons.mpr ⟨lw_p38, List.forall_mem_cons.mpr ⟨lw_p39, List.forall_mem_cons.mpr ⟨lw_p40, List.forall_mem_cons.mpr ⟨lw_p41, List.forall_mem_cons.mpr ⟨lw_p42, List.forall_mem_cons.mpr ⟨lw_p43, List.forall_mem_cons.mpr ⟨lw_p44, List.forall_mem_cons.mpr ⟨lw_p45, List.forall_mem_cons.mpr ⟨lw_p46, List.forall_mem_cons.mpr ⟨lw_p47, fun _ h => absurd h List.not_mem_nil⟩⟩⟩⟩⟩⟩⟩⟩⟩⟩⟩⟩⟩⟩⟩⟩
theorem lw_p48 : lw_okq (⟨"NoteSheetModel", "advance", "(II)V"⟩, 43) := ⟨⟨by decide +kernel, by decide +kernel⟩, List.mem_of_getElem? (i := 500) (by decide +kernel), List.mem_of_getElem? (i := 759) (by decide +kernel), List.mem_of_getElem? (i := 760) (by decide +kernel)⟩
theorem lw_p49 : lw_okq (⟨"NoteSheetModel", "look", "(III)V"⟩, 43) := ⟨⟨by decide +kernel, by decide +kernel⟩, List.mem_of_getElem? (i := 500) (by decide +kernel), List.mem_of_getElem? (i := 763) (by decide +kernel), List.mem_of_getElem? (i := 764) (by decide +kernel)⟩
theorem lw_p50 : lw_okq (⟨"NoteSheetModel", "push", "(IJ)V"⟩, 43) := ⟨⟨by decide +kernel, by decide +kernel⟩, List.mem_of_getElem? (i := 500) (by decide +kernel), List.mem_of_getElem? (i := 768) (by decide +kernel), List.mem_of_getElem? (i := 769) (by decide +kernel)⟩
theorem lw_p51 : lw_okq (⟨"NoteSheetModel", "pop", "(I)J"⟩, 43) := ⟨⟨by decide +kernel, by decide +kernel⟩, List.mem_of_getElem? (i := 500) (by decide +kernel), List.mem_of_getElem? (i := 772) (by decide +kernel), List.mem_of_getElem? (i := 773) (by decide +kernel)⟩
theorem lw_p52 : lw_okq (⟨"NoteSheetModel", "combine", "(II)V"⟩, 43) := ⟨⟨by decide +kernel, by decide +kernel⟩, List.mem_of_getElem? (i := 500) (by decide +kernel), List.mem_of_getElem? (i := 776) (by decide +kernel), List.mem_of_getElem? (i := 777) (by decide +kernel)⟩
theorem lw_p53 : lw_okq (⟨"NoteSheetModel", "values", "()I"⟩, 43) := ⟨⟨by decide +kernel, by decide +kernel⟩, List.mem_of_getElem? (i := 500) (by decide +kernel), List.mem_of_getElem? (i := 780) (by decide +kernel), List.mem_of_getElem? (i := 781) (by decide +kernel)⟩
def lw_privs_4 : List (MethodName × Nat) := [(⟨"NoteSheetModel", "advance", "(II)V"⟩, 43), (⟨"NoteSheetModel", "look", "(III)V"⟩, 43), (⟨"NoteSheetModel", "push", "(IJ)V"⟩, 43), (⟨"NoteSheetModel", "pop", "(I)J"⟩, 43), (⟨"NoteSheetModel", "combine", "(II)V"⟩, 43), (⟨"NoteSheetModel", "values", "()I"⟩, 43)]
theorem lw_r4 : ∀ q ∈ lw_privs_4, lw_okq q := List.forall_mem_cons.mpr ⟨lw_p48, List.forall_mem_cons.mpr ⟨lw_p49, List.forall_mem_cons.mpr ⟨lw_p50, List.forall_mem_cons.mpr ⟨lw_p51, List.forall_mem_cons.mpr ⟨lw_p52, List.forall_mem_cons.mpr ⟨lw_p53, fun _ h => absurd h List.not_mem_nil⟩⟩⟩⟩⟩⟩
def lw_privs : List (MethodName × Nat) := lw_privs_1 ++ (lw_privs_2 ++ (lw_privs_3 ++ (lw_privs_4)))
def lw_tbl : List Cond := k2_sels lw_privs ++ tables_1
theorem lw_privs_ok : ∀ q ∈ lw_privs, lw_okq q := by
  show ∀ q ∈ lw_privs_1 ++ (lw_privs_2 ++ (lw_privs_3 ++ (lw_privs_4))), lw_okq q
  exact List.forall_mem_append.mpr ⟨lw_r1, List.forall_mem_append.mpr ⟨lw_r2, List.forall_mem_append.mpr ⟨lw_r3, lw_r4⟩⟩⟩
end
section
/-! The abstract machine: the same bytecode over cells by number. A value '.ref i' is cell number i; '.retAddr 0' the script, '.retAddr 1' .. constants that are never written. -/
abbrev ax_E : Type := (FieldType × vp_A) ⊕ (Nat × List Value)
abbrev ax_H : Type := Nat × (Nat → Option ax_E)
def ax_up (h : ax_H) (a : Nat) (e : ax_E) : ax_H := (h.1, fun i => if i = a then some e else h.2 i)
def ax_nw (h : ax_H) (e : ax_E) : ax_H := (h.1 + 1, fun i => if i = h.1 then some e else h.2 i)
def ax_i (st : List Value) (K : Int32 → List Value → Prop) : Prop := match st with
  | .int x :: r => K x r
  | _ => False
def ax_l (st : List Value) (K : Int64 → List Value → Prop) : Prop := match st with
  | .long x :: r => K x r
  | _ => False
def ax_r (st : List Value) (K : Nat → List Value → Prop) : Prop := match st with
  | .ref x :: r => K x r
  | _ => False
def ax_isa : Value → Bool
  | .ref _ => true
  | .null => true
  | .retAddr _ => true
  | _ => false
def ax_c1 : Value → Bool
  | .long _ => false
  | .double _ => false
  | _ => true
def ax_1 (st : List Value) (K : Value → List Value → Prop) : Prop := match st with
  | v :: r => ax_c1 v = true ∧ K v r
  | _ => False
def ax_1' (st : List Value) (K : Value → List Value → Prop) : Prop := match st with
  | v :: r => K v r
  | _ => False
def ax_ld (ls : List (Option Value)) (i : Nat) (K : Value → Prop) : Prop := match ls[i]? with
  | some (some v) => K v
  | _ => False
def ax_vi (v : Value) (K : Int32 → Prop) : Prop := match v with
  | .int x => K x
  | _ => False
def ax_vl (v : Value) (K : Int64 → Prop) : Prop := match v with
  | .long x => K x
  | _ => False
def ax_kl : Option Value → Option Value
  | some (.long _) => none
  | some (.double _) => none
  | o => o
def ax_s1 (ls : List (Option Value)) (i : Nat) (v : Value) : List (Option Value) := match i with
  | 0 => ls.set 0 (some v)
  | j + 1 => (ls.modify j ax_kl).set (j + 1) (some v)
def ax_s2 (ls : List (Option Value)) (i : Nat) (v : Value) : List (Option Value) := (ax_s1 ls i v).set (i + 1) none
def ax_t (pc : Nat) (off : Int) (K : Nat → Prop) : Prop := 0 ≤ (pc : Int) + off ∧ K ((pc : Int) + off).toNat
def ax_c (cond : Jvm.ClassFile.Cond) (x y : Int32) : Prop := match cond with
  | .eq => x = y
  | .ne => ¬ x = y
  | .lt => x < y
  | .ge => y ≤ x
  | .gt => y < x
  | .le => x ≤ y
def ax_br (c A B : Prop) : Prop := (c → A) ∧ (¬ c → B)
/-- an object's field -/
def ax_gf (h : ax_H) (a ci kf : Nat) (K : Value → Prop) : Prop := match h.2 a with
  | some (.inr (c', fs)) => c' = ci ∧ match fs[kf]? with
    | some v => K v
    | none => False
  | _ => False
def ax_pf (h : ax_H) (a ci kf : Nat) (v : Value) (K : ax_H → Prop) : Prop := match h.2 a with
  | some (.inr (c', fs)) => c' = ci ∧ kf < fs.length ∧ K (ax_up h a (.inr (c', fs.set kf v)))
  | _ => False
/-- a value that a field, or an answer, of this type may hold as it is -/
def ax_ft (ty : FieldType) (v : Value) : Prop := match ty, v with
  | .int, .int _ => True
  | .long, .long _ => True
  | .boolean, .int x => x = 0 ∨ x = 1
  | .object _, .ref _ => True
  | .object _, .null => True
  | .array _, .ref _ => True
  | .array _, .null => True
  | _, _ => False
def ax_ga (h : ax_H) (a : Nat) (ty : FieldType) (i : Int32) (K : Int32 → Prop) : Prop := match h.2 a with
  | some (.inl (t, n, .inl f)) => t = ty ∧ vp_in i n ∧ K (f i.toNatClampNeg)
  | _ => False
def ax_gl (h : ax_H) (a : Nat) (i : Int32) (K : Int64 → Prop) : Prop := match h.2 a with
  | some (.inl (t, n, .inr (.inl f))) => t = .long ∧ vp_in i n ∧ K (f i.toNatClampNeg)
  | _ => False
def ax_isO : FieldType → Bool
  | .object _ => true
  | _ => false
def ax_gq (h : ax_H) (a : Nat) (i : Int32) (K : Option Nat → Prop) : Prop := match h.2 a with
  | some (.inl (t, n, .inr (.inr (.inr (.inr f))))) => ax_isO t = true ∧ vp_in i n ∧ K (f i.toNatClampNeg)
  | _ => False
def ax_pa (h : ax_H) (a : Nat) (ty : FieldType) (i x : Int32) (K : ax_H → Prop) : Prop := match h.2 a with
  | some (.inl (t, n, .inl f)) => t = ty ∧ vp_in i n ∧ K (ax_up h a (.inl (t, n, .inl (upd f i.toNatClampNeg x))))
  | _ => False
def ax_pl (h : ax_H) (a : Nat) (i : Int32) (x : Int64) (K : ax_H → Prop) : Prop := match h.2 a with
  | some (.inl (t, n, .inr (.inl f))) => t = .long ∧ vp_in i n ∧ K (ax_up h a (.inl (t, n, .inr (.inl (vp_updL f i.toNatClampNeg x)))))
  | _ => False
/-- an object into an array of its class: cl names the classes -/
def ax_pq (cl : List vw_C) (h : ax_H) (a : Nat) (i : Int32) (v : Nat) (K : ax_H → Prop) : Prop := match h.2 a, h.2 v with
  | some (.inl (t, n, .inr (.inr (.inr (.inr f))))), some (.inr (ci, _)) => (cl[ci]?).map (fun q => FieldType.object q.1) = some t ∧ vp_in i n ∧ K (ax_up h a (.inl (t, n, .inr (.inr (.inr (.inr (va_up f i.toNatClampNeg (some v))))))))
  | _, _ => False
def ax_al (h : ax_H) (a : Nat) (K : Nat → Prop) : Prop := match h.2 a with
  | some (.inl (_, n, _)) => K n
  | _ => False
def ax_io (h : ax_H) (a ci : Nat) : Prop := match h.2 a with
  | some (.inr (c', _)) => c' = ci
  | _ => False
def ax_zero (ty : FieldType) (n : Nat) : Option vp_A := match ty with
  | .int => some (n, .inl (fun _ => 0))
  | .char => some (n, .inl (fun _ => 0))
  | .boolean => some (n, .inl (fun _ => 0))
  | .long => some (n, .inr (.inl (fun _ => 0)))
  | _ => none
def ax_w8 (st : List Value) : Prop := (st.map fun v => v.category).sum ≤ 8
/-- a field by its place in a class file's pool: (class's number, the field's number, its type, final) -/
abbrev ax_TF : Type := Nat → Nat → Option (Nat × Nat × FieldType × Bool)
/-- a call: (method or one of the JDK's, parameters, cells, slots, the class's number, kind: 0 static, 1 virtual, 2 special) -/
abbrev ax_TC : Type := Nat → Nat → Option ((Nat ⊕ Nat) × Nat × Nat × Nat × Nat × Nat)
/-- a constant -/
abbrev ax_TK : Type := Nat → Nat → Option Value
/-- a class to be made, or an array's element class: (its number, its fields at the start, its name) -/
abbrev ax_TN : Type := Nat → Nat → Option (Nat × List Value × String)
def ax_kt : FieldType → Bool
  | .int => true
  | .char => true
  | .boolean => true
  | .long => true
  | .object C => C == "NoteSheet$Cell"
  | _ => false
abbrev ax_Tb : Type := ax_TF × ax_TC × ax_TK × ax_TN
def ax_len : Instr → Nat
  | .bipush _ | .ldc _ | .iload _ | .lload _ | .aload _ | .istore _ | .lstore _ | .astore _ | .newarray _ => 2
  | .sipush _ | .ldc2_w _ | .iinc _ _ | .if_icmp _ _ | .ifCond _ _ | .ifnull _ | .ifnonnull _ | .goto _ | .getfield _ | .putfield _ | .anewarray _ | .new _ | .invokevirtual _ | .invokespecial _ | .invokestatic _ => 3
  | .tableswitch _ _ _ _ | .lookupswitch _ _ => 0
  | _ => 1
def ax_op {α : Type} (o : Option α) (K : α → Prop) : Prop := match o with
  | some a => K a
  | none => False
def ax_sl {α β : Type} (q : α ⊕ β) (K : α → Prop) : Prop := match q with
  | .inl a => K a
  | .inr _ => False
def ax_sr {α β : Type} (q : α ⊕ β) (K : β → Prop) : Prop := match q with
  | .inl _ => False
  | .inr a => K a
def ax_sm {α β : Type} (q : α ⊕ β) (K : α → Prop) (K1 : β → Prop) : Prop := match q with
  | .inl a => K a
  | .inr a => K1 a
def ax_ki : Value → Bool
  | .int _ => true
  | .retAddr 1 => true
  | _ => false
/-- the script, or a cell -/
def ax_sc (st : List Value) (K0 : List Value → Prop) (K : Nat → List Value → Prop) : Prop := match st with
  | .retAddr 0 :: r => K0 r
  | .ref a :: r => K a r
  | _ => False
def ax_nu (st : List Value) (K0 K : List Value → Prop) : Prop := match st with
  | .null :: r => K0 r
  | .ref _ :: r => K r
  | _ => False
abbrev ax_P : Type := Nat → List (Option Value) → List Value → Nat → Nat → ax_H → Prop
abbrev ax_Q : Type := Option Value → ax_H → Prop
abbrev ax_MT : Type := Nat → List Value → ax_H → ax_Q → Prop
/-- where a character stands in the constant text "?:<=+-*()@", or -1 -/
def ax_ix (c : Int32) : Int32 := if c = 63 then 0 else if c = 58 then 1 else if c = 60 then 2 else if c = 61 then 3 else if c = 43 then 4 else if c = 45 then 5 else if c = 42 then 6 else if c = 40 then 7 else if c = 41 then 8 else if c = 64 then 9 else -1
def ax_cp (h : ax_H) (st : List Value) (K : List Value → ax_H → Prop) : Prop := match st with
  | .int n :: .int dp :: .ref a :: .int sp :: .ref b :: r => match h.2 b, h.2 a with
    | some (.inl (t0, n0, .inl f)), some (.inl (t1, n1, .inl g)) => t0 = t1 ∧ refKind t1 = false ∧ ¬ sp < 0 ∧ ¬ dp < 0 ∧ ¬ n < 0 ∧ sp.toNatClampNeg + n.toNatClampNeg ≤ n0 ∧ dp.toNatClampNeg + n.toNatClampNeg ≤ n1 ∧ (∀ i, i < n.toNatClampNeg → fits t1 (.int (f (sp.toNatClampNeg + i))) = true) ∧ ax_w8 r ∧ K r (ax_up h a (.inl (t1, n1, .inl (va_cpy f g sp.toNatClampNeg dp.toNatClampNeg n.toNatClampNeg))))
    | _, _ => False
  | _ => False
/-- the JDK's own: 0 Object(), 1 max, 2 min, 4 indexOf in the constant text, 5 arraycopy -/
def ax_prim (d : Nat) (h : ax_H) (y : Nat) (st : List Value) (K : List Value → ax_H → Prop) : Prop := match y with
  | 0 => ax_r st fun _ st => ax_w8 st ∧ K st h
  | 1 => ax_i st fun b st => ax_i st fun a st => ax_w8 st ∧ K (.int (if a < b then b else a) :: st) h
  | 2 => ax_i st fun b st => ax_i st fun a st => ax_w8 st ∧ K (.int (if b < a then b else a) :: st) h
  | 4 => ax_i st fun ch st => match st with
    | .retAddr 1 :: st => 8 ≤ d ∧ ax_w8 st ∧ K (.int (ax_ix ch) :: st) h
    | _ => False
  | 5 => ax_cp h st K
  | _ => False
def ax_tk (np : Nat) (st : List Value) (K : List Value → List Value → Prop) : Prop := np ≤ st.length ∧ K (st.take np).reverse (st.drop np)
/-- one instruction: what must hold so that the machine comes to Q; P: where it goes on, PC: behind a call -/
def ax_ins (cl : List vw_C) (L : Nat) (xs : Nat → Int32) (tb : ax_Tb) (d co : Nat) (ini : Bool) (rt : Option FieldType) (mc ms : Nat) (M : ax_MT) (Q : ax_Q) (P PC : ax_P) (pc : Nat) (ls : List (Option Value)) (st : List Value) (k n : Nat) (h : ax_H) (i : Instr) : Prop := match i with
  | .iconst v => P (pc + 1) ls (.int (Int32.ofInt v) :: st) k n h
  | .bipush v => P (pc + 2) ls (.int (Int8.ofInt v).toInt32 :: st) k n h
  | .sipush v => P (pc + 3) ls (.int (Int16.ofInt v).toInt32 :: st) k n h
  | .lconst v => P (pc + 1) ls (.long (Int64.ofNat (v : Nat)) :: st) k n h
  | .aconst_null => P (pc + 1) ls (.null :: st) k n h
  | .ldc idx => ax_op (tb.2.2.1 co idx) fun v => ax_ki v = true ∧ P (pc + 2) ls (v :: st) k n h
  | .ldc2_w idx => ax_op (tb.2.2.1 co idx) fun v => ax_vl v fun x => P (pc + 3) ls (.long x :: st) k n h
  | .iload j => ax_ld ls j fun v => ax_vi v fun x => P (pc + 2) ls (.int x :: st) k n h
  | .iload_n j => ax_ld ls j fun v => ax_vi v fun x => P (pc + 1) ls (.int x :: st) k n h
  | .lload j => ax_ld ls j fun v => ax_vl v fun x => P (pc + 2) ls (.long x :: st) k n h
  | .lload_n j => ax_ld ls j fun v => ax_vl v fun x => P (pc + 1) ls (.long x :: st) k n h
  | .aload j => ax_ld ls j fun v => ax_isa v = true ∧ P (pc + 2) ls (v :: st) k n h
  | .aload_n j => ax_ld ls j fun v => ax_isa v = true ∧ P (pc + 1) ls (v :: st) k n h
  | .istore j => ax_i st fun x st => j < ls.length ∧ P (pc + 2) (ax_s1 ls j (.int x)) st k n h
  | .istore_n j => ax_i st fun x st => (j : Nat) < ls.length ∧ P (pc + 1) (ax_s1 ls j (.int x)) st k n h
  | .lstore j => ax_l st fun x st => j + 1 < ls.length ∧ P (pc + 2) (ax_s2 ls j (.long x)) st k n h
  | .lstore_n j => ax_l st fun x st => (j : Nat) + 1 < ls.length ∧ P (pc + 1) (ax_s2 ls j (.long x)) st k n h
  | .astore j => ax_1 st fun v st => ax_isa v = true ∧ j < ls.length ∧ P (pc + 2) (ax_s1 ls j v) st k n h
  | .astore_n j => ax_1 st fun v st => ax_isa v = true ∧ (j : Nat) < ls.length ∧ P (pc + 1) (ax_s1 ls j v) st k n h
  | .iinc j v => ax_ld ls j fun w => ax_vi w fun x => P (pc + 3) (ax_s1 ls j (.int (x + Int32.ofInt v))) st k n h
  | .iadd => ax_i st fun y st => ax_i st fun x st => P (pc + 1) ls (.int (x + y) :: st) k n h
  | .isub => ax_i st fun y st => ax_i st fun x st => P (pc + 1) ls (.int (x - y) :: st) k n h
  | .imul => ax_i st fun y st => ax_i st fun x st => P (pc + 1) ls (.int (x * y) :: st) k n h
  | .iand => ax_i st fun y st => ax_i st fun x st => P (pc + 1) ls (.int (x &&& y) :: st) k n h
  | .ixor => ax_i st fun y st => ax_i st fun x st => P (pc + 1) ls (.int (x ^^^ y) :: st) k n h
  | .idiv => ax_i st fun y st => ax_i st fun x st => ¬ y = 0 ∧ P (pc + 1) ls (.int (x / y) :: st) k n h
  | .irem => ax_i st fun y st => ax_i st fun x st => ¬ y = 0 ∧ P (pc + 1) ls (.int (x - x / y * y) :: st) k n h
  | .ineg => ax_i st fun x st => P (pc + 1) ls (.int (-x) :: st) k n h
  | .i2l => ax_i st fun x st => P (pc + 1) ls (.long x.toInt64 :: st) k n h
  | .l2i => ax_l st fun x st => P (pc + 1) ls (.int x.toInt32 :: st) k n h
  | .i2c => ax_i st fun x st => P (pc + 1) ls (.int (x.toUInt32 % 65536).toInt32 :: st) k n h
  | .lcmp => ax_l st fun y st => ax_l st fun x st => P (pc + 1) ls (.int (lg_cmp x y) :: st) k n h
  | .dup => ax_1 st fun v st => P (pc + 1) ls (v :: v :: st) k n h
  | .pop => ax_1 st fun _ st => P (pc + 1) ls st k n h
  | .dup_x1 => ax_1 st fun v st => ax_1 st fun w st => P (pc + 1) ls (v :: w :: v :: st) k n h
  | .dup_x2 => ax_1 st fun v st => ax_1 st fun w st => ax_1 st fun u st => P (pc + 1) ls (v :: w :: u :: v :: st) k n h
  | .dup2 => ax_1 st fun v st => ax_1 st fun w st => P (pc + 1) ls (v :: w :: v :: w :: st) k n h
  | .goto off => ax_t pc off fun t => P t ls st k n h
  | .if_icmp cd off => ax_i st fun y st => ax_i st fun x st => ax_t pc off fun t => ax_br (ax_c cd x y) (P t ls st k n h) (P (pc + 3) ls st k n h)
  | .ifCond cd off => ax_i st fun x st => ax_t pc off fun t => ax_br (ax_c cd x 0) (P t ls st k n h) (P (pc + 3) ls st k n h)
  | .ifnull off => ax_t pc off fun t => ax_nu st (fun st => P t ls st k n h) (fun st => P (pc + 3) ls st k n h)
  | .ifnonnull off => ax_t pc off fun t => ax_nu st (fun st => P (pc + 3) ls st k n h) (fun st => P t ls st k n h)
  | .tableswitch df lo hi offs => ax_i st fun x st => ax_br (x.toInt < lo ∨ hi < x.toInt) (ax_t pc df fun t => P t ls st k n h) (ax_op offs[(x.toInt - lo).toNat]? fun off => ax_t pc off fun t => P t ls st k n h)
  | .lookupswitch df ps => ax_i st fun x st => (ps.toList.zip (ps.toList.drop 1)).all (fun (a, next) => a.1 < next.1) = true ∧ ax_t pc (Op.lookupswitch.offset ps.toList df x.toInt) fun t => P t ls st k n h
  | .getfield idx => ax_op (tb.1 co idx) fun q => ax_r st fun a st => ax_gf h a q.1 q.2.1 fun v => P (pc + 3) ls (v :: st) k n h
  | .putfield idx => ax_op (tb.1 co idx) fun q => ax_1' st fun v st => ax_ft q.2.2.1 v ∧ (q.2.2.2 = true → ini = true ∧ q.1 = co) ∧ ax_r st fun a st => ax_pf h a q.1 q.2.1 v fun h => P (pc + 3) ls st k n h
  | .iaload => ax_i st fun i st => ax_sc st (fun st => vp_in i L ∧ P (pc + 1) ls (.int (xs i.toNatClampNeg) :: st) k n h) fun a st => ax_ga h a .int i fun v => P (pc + 1) ls (.int v :: st) k n h
  | .caload => ax_i st fun i st => ax_r st fun a st => ax_ga h a .char i fun v => P (pc + 1) ls (.int v :: st) k n h
  | .baload => ax_i st fun i st => ax_r st fun a st => ax_ga h a .boolean i fun v => P (pc + 1) ls (.int v :: st) k n h
  | .laload => ax_i st fun i st => ax_r st fun a st => ax_gl h a i fun v => P (pc + 1) ls (.long v :: st) k n h
  | .aaload => ax_i st fun i st => ax_r st fun a st => ax_gq h a i fun v => P (pc + 1) ls (va_rf v :: st) k n h
  | .iastore => ax_i st fun x st => ax_i st fun i st => ax_r st fun a st => ax_pa h a .int i x fun h => P (pc + 1) ls st k n h
  | .castore => ax_i st fun x st => ax_i st fun i st => ax_r st fun a st => ax_pa h a .char i (vp_nar .char x) fun h => P (pc + 1) ls st k n h
  | .bastore => ax_i st fun x st => ax_i st fun i st => ax_r st fun a st => ax_pa h a .boolean i (vp_nar .boolean x) fun h => P (pc + 1) ls st k n h
  | .lastore => ax_l st fun x st => ax_i st fun i st => ax_r st fun a st => ax_pl h a i x fun h => P (pc + 1) ls st k n h
  | .aastore => ax_r st fun v st => ax_i st fun i st => ax_r st fun a st => ax_pq cl h a i v fun h => P (pc + 1) ls st k n h
  | .arraylength => ax_sc st (fun st => P (pc + 1) ls (.int (Int32.ofNat L) :: st) k n h) fun a st => ax_al h a fun z => P (pc + 1) ls (.int (Int32.ofNat z) :: st) k n h
  | .newarray ty => ax_i st fun x st => ¬ x < 0 ∧ x.toNatClampNeg ≤ 1000 ∧ k + 1 ≤ mc ∧ n + x.toNatClampNeg ≤ ms ∧ ax_op (ax_zero (newarray.typeOf ty) x.toNatClampNeg) fun a => P (pc + 2) ls (.ref h.1 :: st) (k + 1) (n + x.toNatClampNeg) (ax_nw h (.inl (newarray.typeOf ty, a)))
  | .anewarray idx => ax_i st fun x st => ¬ x < 0 ∧ x.toNatClampNeg ≤ 1000 ∧ k + 1 ≤ mc ∧ n + x.toNatClampNeg ≤ ms ∧ ax_op (tb.2.2.2 co idx) fun q => ax_kt (.object q.2.2) = true ∧ P (pc + 3) ls (.ref h.1 :: st) (k + 1) (n + x.toNatClampNeg) (ax_nw h (.inl (.object q.2.2, x.toNatClampNeg, .inr (.inr (.inr (.inr (fun _ => none)))))))
  | .new idx => ax_op (tb.2.2.2 co idx) fun q => k + 1 ≤ mc ∧ n + q.2.1.length ≤ ms ∧ P (pc + 3) ls (.ref h.1 :: st) (k + 1) (n + q.2.1.length) (ax_nw h (.inr (q.1, q.2.1)))
  | .invokevirtual idx => ax_op (tb.2.1 co idx) fun q => ax_sm q.1 (fun y => q.2.2.2.2.2 = 1 ∧ ax_tk q.2.1 st fun as st => ax_r st fun a st => ax_io h a q.2.2.2.2.1 ∧ ax_w8 st ∧ k + q.2.2.1 ≤ mc ∧ n + q.2.2.2.1 ≤ ms ∧ M y (.ref a :: as) h fun v h => PC (pc + 3) ls (v.toList ++ st) (k + q.2.2.1) (n + q.2.2.2.1) h) fun y => q.2.2.2.2.2 = 1 ∧ ax_prim d h y st fun st h => P (pc + 3) ls st k n h
  | .invokespecial idx => ax_op (tb.2.1 co idx) fun q => ax_sm q.1 (fun y => q.2.2.2.2.2 = 2 ∧ ax_tk q.2.1 st fun as st => ax_r st fun a st => ax_w8 st ∧ k + q.2.2.1 ≤ mc ∧ n + q.2.2.2.1 ≤ ms ∧ M y (.ref a :: as) h fun v h => PC (pc + 3) ls (v.toList ++ st) (k + q.2.2.1) (n + q.2.2.2.1) h) fun y => q.2.2.2.2.2 = 2 ∧ ax_prim d h y st fun st h => P (pc + 3) ls st k n h
  | .invokestatic idx => ax_op (tb.2.1 co idx) fun q => ax_sm q.1 (fun y => q.2.2.2.2.2 = 0 ∧ ax_tk q.2.1 st fun as st => ax_w8 st ∧ k + q.2.2.1 ≤ mc ∧ n + q.2.2.2.1 ≤ ms ∧ M y as h fun v h => PC (pc + 3) ls (v.toList ++ st) (k + q.2.2.1) (n + q.2.2.2.1) h) fun y => q.2.2.2.2.2 = 0 ∧ ax_prim d h y st fun st h => P (pc + 3) ls st k n h
  | .ireturn => ax_i st fun v r => r = [] ∧ ax_op rt fun ty => narrow ty (.int v) = .int v ∧ k ≤ mc ∧ n ≤ ms ∧ Q (some (.int v)) h
  | .lreturn => ax_l st fun v r => r = [] ∧ rt = some .long ∧ k ≤ mc ∧ n ≤ ms ∧ Q (some (.long v)) h
  | .return_ => st = [] ∧ rt = none ∧ k ≤ mc ∧ n ≤ ms ∧ Q none h
  | _ => False
/-- a method: its code, its class's number, whether it is a constructor, its locals, its answer's type, the cells and slots that it makes -/
abbrev ax_MI : Type := ByteArray × Nat × Bool × Nat × Option FieldType × Nat × Nat
def ax_step (cl : List vw_C) (L : Nat) (xs : Nat → Int32) (tb : ax_Tb) (d : Nat) (I : ax_MI) (M : ax_MT) (Q : ax_Q) (P PC : ax_P) : ax_P := fun pc ls st k n h => match decode I.1 pc with
  | .ok (i, len) => (len = ax_len i ∨ ax_len i = 0) ∧ ax_ins cl L xs tb d I.2.1 I.2.2.1 I.2.2.2.2.1 I.2.2.2.2.2.1 I.2.2.2.2.2.2 M Q P PC pc ls st k n h i
  | .error _ => False
/-- the machine comes from here to Q -/
def ax_W (cl : List vw_C) (L : Nat) (xs : Nat → Int32) (tb : ax_Tb) (d : Nat) (I : ax_MI) (M : ax_MT) (Q : ax_Q) : ax_P := fun pc ls st k n h =>
  ∀ P : ax_P, (∀ pc ls st k n h, ax_step cl L xs tb d I M Q P P pc ls st k n h → P pc ls st k n h) → P pc ls st k n h
def ax_el : List Value → List (Option Value)
  | [] => []
  | v :: vs => if ax_c1 v = true then some v :: ax_el vs else some v :: none :: ax_el vs
def ax_en (ml : Nat) (args : List Value) : List (Option Value) := ax_el args ++ List.replicate (ml - (ax_el args).length) none
/-- a call at most d deep -/
def ax_M (cl : List vw_C) (L : Nat) (xs : Nat → Int32) (tb : ax_Tb) (mt : Nat → Option ax_MI) : Nat → ax_MT
  | 0 => fun _ _ _ _ => False
  | d + 1 => fun y args h Q => ax_op (mt y) fun I => (ax_el args).length ≤ I.2.2.2.1 ∧ ax_W cl L xs tb (d + 1) I (ax_M cl L xs tb mt d) Q 0 (ax_en I.2.2.2.1 args) [] 0 0 h
/-- j steps from here, no step at the places S, none behind a call -/
def ax_go (cl : List vw_C) (L : Nat) (xs : Nat → Int32) (tb : ax_Tb) (d : Nat) (I : ax_MI) (M : ax_MT) (Q : ax_Q) (S : List Nat) (P : ax_P) : Nat → ax_P
  | 0 => P
  | j + 1 => fun pc ls st k n h => if S.contains pc = true then P pc ls st k n h else ax_step cl L xs tb d I M Q (ax_go cl L xs tb d I M Q S P j) P pc ls st k n h
end
section
/-! the steps are monotone -/
theorem ax_and {a b b' : Prop} (h : b → b') : a ∧ b → a ∧ b' := fun q => ⟨q.1, h q.2⟩
theorem ax_i.mm {st : List Value} {K K' : Int32 → List Value → Prop} (h : ∀ x r, K x r → K' x r) : ax_i st K → ax_i st K' := by
  unfold ax_i
  rcases st with _ | ⟨v, r⟩
  · exact id
  · cases v <;> first | exact h _ _ | exact id
theorem ax_l.mm {st : List Value} {K K' : Int64 → List Value → Prop} (h : ∀ x r, K x r → K' x r) : ax_l st K → ax_l st K' := by
  unfold ax_l
  rcases st with _ | ⟨v, r⟩
  · exact id
  · cases v <;> first | exact h _ _ | exact id
theorem ax_r.mm {st : List Value} {K K' : Nat → List Value → Prop} (h : ∀ x r, K x r → K' x r) : ax_r st K → ax_r st K' := by
  unfold ax_r
  rcases st with _ | ⟨v, r⟩
  · exact id
  · cases v <;> first | exact h _ _ | exact id
theorem ax_1.mm {st : List Value} {K K' : Value → List Value → Prop} (h : ∀ x r, K x r → K' x r) : ax_1 st K → ax_1 st K' := by
  unfold ax_1
  rcases st with _ | ⟨v, r⟩
  · exact id
  · exact ax_and (h _ _)
theorem ax_1'.mm {st : List Value} {K K' : Value → List Value → Prop} (h : ∀ x r, K x r → K' x r) : ax_1' st K → ax_1' st K' := by
  unfold ax_1'
  rcases st with _ | ⟨v, r⟩
  · exact id
  · exact h _ _
theorem ax_ld.mm {ls : List (Option Value)} {i : Nat} {K K' : Value → Prop} (h : ∀ x, K x → K' x) : ax_ld ls i K → ax_ld ls i K' := by
  unfold ax_ld
  rcases ls[i]? with _ | ⟨_ | v⟩
  · exact id
  · exact id
  · exact h _
theorem ax_vi.mm {v : Value} {K K' : Int32 → Prop} (h : ∀ x, K x → K' x) : ax_vi v K → ax_vi v K' := by
  unfold ax_vi
  cases v <;> first | exact h _ | exact id
theorem ax_vl.mm {v : Value} {K K' : Int64 → Prop} (h : ∀ x, K x → K' x) : ax_vl v K → ax_vl v K' := by
  unfold ax_vl
  cases v <;> first | exact h _ | exact id
theorem ax_t.mm {pc : Nat} {off : Int} {K K' : Nat → Prop} (h : ∀ x, K x → K' x) : ax_t pc off K → ax_t pc off K' := ax_and (h _)
theorem ax_br.mm {c A B A' B' : Prop} (h : A → A') (h' : B → B') : ax_br c A B → ax_br c A' B' := fun q => ⟨fun z => h (q.1 z), fun z => h' (q.2 z)⟩
theorem ax_op.mm {α : Type} {o : Option α} {K K' : α → Prop} (h : ∀ x, K x → K' x) : ax_op o K → ax_op o K' := by
  unfold ax_op
  cases o with
  | none => exact id
  | some a => exact h a
theorem ax_sl.mm {α β : Type} {q : α ⊕ β} {K K' : α → Prop} (h : ∀ x, K x → K' x) : ax_sl q K → ax_sl q K' := by
  unfold ax_sl
  cases q with
  | inl a => exact h a
  | inr a => exact id
theorem ax_sr.mm {α β : Type} {q : α ⊕ β} {K K' : β → Prop} (h : ∀ x, K x → K' x) : ax_sr q K → ax_sr q K' := by
  unfold ax_sr
  cases q with
  | inl a => exact id
  | inr a => exact h a
theorem ax_sm.mm {α β : Type} {q : α ⊕ β} {K K' : α → Prop} {J J' : β → Prop} (h : ∀ x, K x → K' x) (h' : ∀ x, J x → J' x) : ax_sm q K J → ax_sm q K' J' := by
  unfold ax_sm
  cases q with
  | inl a => exact h a
  | inr a => exact h' a
theorem ax_sc.mm {st : List Value} {K K' : List Value → Prop} {J J' : Nat → List Value → Prop} (h : ∀ r, K r → K' r) (h' : ∀ x r, J x r → J' x r) : ax_sc st K J → ax_sc st K' J' := by
  unfold ax_sc
  rcases st with _ | ⟨v, r⟩
  · exact id
  · rcases v with _ | _ | _ | _ | _ | a | _ | z
    all_goals first | exact id | exact h' _ _ | exact h _ | skip
theorem ax_nu.mm {st : List Value} {K K' J J' : List Value → Prop} (h : ∀ r, K r → K' r) (h' : ∀ r, J r → J' r) : ax_nu st K J → ax_nu st K' J' := by
  unfold ax_nu
  rcases st with _ | ⟨v, r⟩
  · exact id
  · cases v <;> first | exact id | exact h _ | exact h' _
theorem ax_gf.mm {h : ax_H} {a ci kf : Nat} {K K' : Value → Prop} (hk : ∀ v, K v → K' v) : ax_gf h a ci kf K → ax_gf h a ci kf K' := by
  unfold ax_gf
  rcases h.2 a with _ | ⟨_ | ⟨c', fs⟩⟩
  · exact id
  · exact id
  · refine ax_and ?_
    cases fs[kf]? with
    | none => exact id
    | some v => exact hk v
theorem ax_pf.mm {h : ax_H} {a ci kf : Nat} {v : Value} {K K' : ax_H → Prop} (hk : ∀ v, K v → K' v) : ax_pf h a ci kf v K → ax_pf h a ci kf v K' := by
  unfold ax_pf
  rcases h.2 a with _ | ⟨_ | ⟨c', fs⟩⟩
  · exact id
  · exact id
  · exact ax_and (ax_and (hk _))
theorem ax_ga.mm {h : ax_H} {a : Nat} {ty : FieldType} {i : Int32} {K K' : Int32 → Prop} (hk : ∀ v, K v → K' v) : ax_ga h a ty i K → ax_ga h a ty i K' := by
  unfold ax_ga
  rcases h.2 a with _ | ⟨⟨t, n, (f | f)⟩ | _⟩
  · exact id
  · exact ax_and (ax_and (hk _))
  · exact id
  · exact id
theorem ax_gl.mm {h : ax_H} {a : Nat} {i : Int32} {K K' : Int64 → Prop} (hk : ∀ v, K v → K' v) : ax_gl h a i K → ax_gl h a i K' := by
  unfold ax_gl
  rcases h.2 a with _ | ⟨⟨t, n, (f | (f | f))⟩ | _⟩
  · exact id
  · exact id
  · exact ax_and (ax_and (hk _))
  · exact id
  · exact id
theorem ax_gq.mm {h : ax_H} {a : Nat} {i : Int32} {K K' : Option Nat → Prop} (hk : ∀ v, K v → K' v) : ax_gq h a i K → ax_gq h a i K' := by
  unfold ax_gq
  rcases h.2 a with _ | ⟨⟨t, n, (f | (f | (f | (f | f))))⟩ | _⟩
  · exact id
  · exact id
  · exact id
  · exact id
  · exact id
  · exact ax_and (ax_and (hk _))
  · exact id
theorem ax_pa.mm {h : ax_H} {a : Nat} {ty : FieldType} {i x : Int32} {K K' : ax_H → Prop} (hk : ∀ v, K v → K' v) : ax_pa h a ty i x K → ax_pa h a ty i x K' := by
  unfold ax_pa
  rcases h.2 a with _ | ⟨⟨t, n, (f | f)⟩ | _⟩
  · exact id
  · exact ax_and (ax_and (hk _))
  · exact id
  · exact id
theorem ax_pl.mm {h : ax_H} {a : Nat} {i : Int32} {x : Int64} {K K' : ax_H → Prop} (hk : ∀ v, K v → K' v) : ax_pl h a i x K → ax_pl h a i x K' := by
  unfold ax_pl
  rcases h.2 a with _ | ⟨⟨t, n, (f | (f | f))⟩ | _⟩
  · exact id
  · exact id
  · exact ax_and (ax_and (hk _))
  · exact id
  · exact id
theorem ax_pq.mm {cl : List vw_C} {h : ax_H} {a v : Nat} {i : Int32} {K K' : ax_H → Prop} (hk : ∀ v, K v → K' v) : ax_pq cl h a i v K → ax_pq cl h a i v K' := by
  unfold ax_pq
  rcases h.2 a with _ | ⟨⟨t, n, (f | (f | (f | (f | f))))⟩ | _⟩ <;> rcases h.2 v with _ | ⟨_ | ⟨c', fs⟩⟩
  all_goals first | exact id | exact ax_and (ax_and (hk _))
theorem ax_al.mm {h : ax_H} {a : Nat} {K K' : Nat → Prop} (hk : ∀ v, K v → K' v) : ax_al h a K → ax_al h a K' := by
  unfold ax_al
  rcases h.2 a with _ | ⟨⟨t, n, f⟩ | _⟩
  · exact id
  · exact hk _
  · exact id
theorem ax_tk.mm {np : Nat} {st : List Value} {K K' : List Value → List Value → Prop} (hk : ∀ a r, K a r → K' a r) : ax_tk np st K → ax_tk np st K' := ax_and (hk _ _)
theorem ax_cp.mm {h : ax_H} {st : List Value} {K K' : List Value → ax_H → Prop} (hk : ∀ a r, K a r → K' a r) : ax_cp h st K → ax_cp h st K' := by
  intro q
  unfold ax_cp at q ⊢
  split at q
  · split at q
    · rename_i e1 e2
      (try simp only [e1, e2])
      obtain ⟨q1, q2, q3, q4, q5, q6, q7, q8, q9, q10⟩ := q
      exact ⟨q1, q2, q3, q4, q5, q6, q7, q8, q9, hk _ _ q10⟩
    · exact q.elim
  · exact q.elim
theorem ax_prim.mm {d : Nat} {h : ax_H} {y : Nat} {st : List Value} {K K' : List Value → ax_H → Prop} (hk : ∀ a r, K a r → K' a r) : ax_prim d h y st K → ax_prim d h y st K' := by
  intro q
  unfold ax_prim at q ⊢
  split at q
  · exact ax_r.mm (fun _ _ => ax_and (hk _ _)) q
  · exact ax_i.mm (fun _ _ => ax_i.mm fun _ _ => ax_and (hk _ _)) q
  · exact ax_i.mm (fun _ _ => ax_i.mm fun _ _ => ax_and (hk _ _)) q
  · refine ax_i.mm (fun _ r => ?_) q
    intro z
    split at z
    · exact ⟨z.1, z.2.1, hk _ _ z.2.2⟩
    · exact z.elim
  · exact ax_cp.mm hk q
  · exact q.elim
section AXM
variable {cl : List vw_C} {L : Nat} {xs : Nat → Int32} {tb : ax_Tb} {d : Nat}
theorem ax_ins.mm {co : Nat} {ini : Bool} {rt : Option FieldType} {mc ms : Nat} {M : ax_MT} {Q Q' : ax_Q} {P PC P' PC' : ax_P} {pc : Nat} {ls : List (Option Value)} {st : List Value} {k n : Nat} {h : ax_H} (i : Instr)
    (hM : ∀ y a h (Q Q' : ax_Q), (∀ v h, Q v h → Q' v h) → M y a h Q → M y a h Q') (hQ : ∀ v h, Q v h → Q' v h) (hP : ∀ pc ls st k n h, P pc ls st k n h → P' pc ls st k n h) (hC : ∀ pc ls st k n h, PC pc ls st k n h → PC' pc ls st k n h) :
    ax_ins cl L xs tb d co ini rt mc ms M Q P PC pc ls st k n h i → ax_ins cl L xs tb d co ini rt mc ms M Q' P' PC' pc ls st k n h i := by
  cases i
  all_goals first
    | exact id
    | (dsimp only [ax_ins]
       repeat' (first
         | exact hP _ _ _ _ _ _
         | exact hC _ _ _ _ _ _
         | exact hQ _ _
         | refine hM _ _ _ _ _ fun _ _ => ?_
         | refine ax_i.mm fun _ _ => ?_
         | refine ax_l.mm fun _ _ => ?_
         | refine ax_r.mm fun _ _ => ?_
         | refine ax_1.mm fun _ _ => ?_
         | refine ax_1'.mm fun _ _ => ?_
         | refine ax_ld.mm fun _ => ?_
         | refine ax_vi.mm fun _ => ?_
         | refine ax_vl.mm fun _ => ?_
         | refine ax_t.mm fun _ => ?_
         | refine ax_br.mm ?_ ?_
         | refine ax_op.mm fun _ => ?_
         | refine ax_sl.mm fun _ => ?_
         | refine ax_sr.mm fun _ => ?_
         | refine ax_sm.mm (fun _ => ?_) fun _ => ?_
         | refine ax_sc.mm (fun _ => ?_) fun _ _ => ?_
         | refine ax_nu.mm (fun _ => ?_) fun _ => ?_
         | refine ax_gf.mm fun _ => ?_
         | refine ax_pf.mm fun _ => ?_
         | refine ax_ga.mm fun _ => ?_
         | refine ax_gl.mm fun _ => ?_
         | refine ax_gq.mm fun _ => ?_
         | refine ax_pa.mm fun _ => ?_
         | refine ax_pl.mm fun _ => ?_
         | refine ax_pq.mm fun _ => ?_
         | refine ax_al.mm fun _ => ?_
         | refine ax_tk.mm fun _ _ => ?_
         | refine ax_prim.mm fun _ _ => ?_
         | refine ax_and ?_))
theorem ax_step.mm {I : ax_MI} {M : ax_MT} {Q Q' : ax_Q} {P PC P' PC' : ax_P} {pc : Nat} {ls : List (Option Value)} {st : List Value} {k n : Nat} {h : ax_H}
    (hM : ∀ y a h (Q Q' : ax_Q), (∀ v h, Q v h → Q' v h) → M y a h Q → M y a h Q') (hQ : ∀ v h, Q v h → Q' v h) (hP : ∀ pc ls st k n h, P pc ls st k n h → P' pc ls st k n h) (hC : ∀ pc ls st k n h, PC pc ls st k n h → PC' pc ls st k n h) :
    ax_step cl L xs tb d I M Q P PC pc ls st k n h → ax_step cl L xs tb d I M Q' P' PC' pc ls st k n h := by
  unfold ax_step
  cases decode I.1 pc with
  | error e => exact id
  | ok q => exact ax_and (ax_ins.mm q.1 hM hQ hP hC)
theorem ax_W.mono {I : ax_MI} {M : ax_MT} {Q Q' : ax_Q} {pc : Nat} {ls : List (Option Value)} {st : List Value} {k n : Nat} {h : ax_H}
    (hM : ∀ y a h (Q Q' : ax_Q), (∀ v h, Q v h → Q' v h) → M y a h Q → M y a h Q') (hQ : ∀ v h, Q v h → Q' v h) (hw : ax_W cl L xs tb d I M Q pc ls st k n h) : ax_W cl L xs tb d I M Q' pc ls st k n h := by
  intro P hP
  exact hw P fun pc ls st k n h q => hP _ _ _ _ _ _ (ax_step.mm hM hQ (fun _ _ _ _ _ _ z => z) (fun _ _ _ _ _ _ z => z) q)
theorem ax_M.mono {mt : Nat → Option ax_MI} : ∀ (d y : Nat) (a : List Value) (h : ax_H) (Q Q' : ax_Q), (∀ v h, Q v h → Q' v h) → ax_M cl L xs tb mt d y a h Q → ax_M cl L xs tb mt d y a h Q' := by
  intro d
  induction d with
  | zero => intro y a h Q Q' _ q; exact q
  | succ d ih =>
    intro y a h Q Q' hQ q
    exact ax_op.mm (fun I => ax_and (ax_W.mono ih hQ)) q
theorem ax_W.st {mt : Nat → Option ax_MI} {d' : Nat} {I : ax_MI} {Q : ax_Q} {pc : Nat} {ls : List (Option Value)} {st : List Value} {k n : Nat} {h : ax_H}
    (hs : ax_step cl L xs tb d I (ax_M cl L xs tb mt d') Q (ax_W cl L xs tb d I (ax_M cl L xs tb mt d') Q) (ax_W cl L xs tb d I (ax_M cl L xs tb mt d') Q) pc ls st k n h) : ax_W cl L xs tb d I (ax_M cl L xs tb mt d') Q pc ls st k n h := by
  intro P hP
  exact hP _ _ _ _ _ _ (ax_step.mm (ax_M.mono d') (fun _ _ z => z) (fun _ _ _ _ _ _ z => z P hP) (fun _ _ _ _ _ _ z => z P hP) hs)
theorem ax_W.go {mt : Nat → Option ax_MI} {d' : Nat} {I : ax_MI} {Q : ax_Q} (S : List Nat) : ∀ (j : Nat) {pc : Nat} {ls : List (Option Value)} {st : List Value} {k n : Nat} {h : ax_H},
    ax_go cl L xs tb d I (ax_M cl L xs tb mt d') Q S (ax_W cl L xs tb d I (ax_M cl L xs tb mt d') Q) j pc ls st k n h → ax_W cl L xs tb d I (ax_M cl L xs tb mt d') Q pc ls st k n h := by
  intro j
  induction j with
  | zero => intro pc ls st k n h q; exact q
  | succ j ih =>
    intro pc ls st k n h q
    unfold ax_go at q
    split at q
    · exact q
    · exact ax_W.st (ax_step.mm (ax_M.mono d') (fun _ _ z => z) (fun _ _ _ _ _ _ z => ih z) (fun _ _ _ _ _ _ z => z) q)
/-- the first step is made in any case -/
theorem ax_W.run {mt : Nat → Option ax_MI} {d' : Nat} {I : ax_MI} {Q : ax_Q} (S : List Nat) (j : Nat) {pc : Nat} {ls : List (Option Value)} {st : List Value} {k n : Nat} {h : ax_H}
    (q : ax_step cl L xs tb d I (ax_M cl L xs tb mt d') Q (ax_go cl L xs tb d I (ax_M cl L xs tb mt d') Q S (ax_W cl L xs tb d I (ax_M cl L xs tb mt d') Q) j) (ax_W cl L xs tb d I (ax_M cl L xs tb mt d') Q) pc ls st k n h) : ax_W cl L xs tb d I (ax_M cl L xs tb mt d') Q pc ls st k n h :=
  ax_W.st (ax_step.mm (ax_M.mono d') (fun _ _ z => z) (fun _ _ _ _ _ _ z => ax_W.go S j z) (fun _ _ _ _ _ _ z => z) q)
end AXM
end
section
/-! cells by number and the heap's cells -/
def ax_v (ad rc : Nat → Nat) : Value → Value
  | .ref i => .ref (ad i)
  | .retAddr i => .ref (rc i)
  | v => v
def ax_e (ad rc : Nat → Nat) (cT : FieldType → ClassId) (e : ax_E) : va_E := match e with
  | .inl (t, n, .inl f) => .inl (cT t, n, .inl f)
  | .inl (t, n, .inr (.inl f)) => .inl (cT t, n, .inr (.inl f))
  | .inl (t, n, .inr (.inr (.inl f))) => .inl (cT t, n, .inr (.inr (.inl f)))
  | .inl (t, n, .inr (.inr (.inr (.inl f)))) => .inl (cT t, n, .inr (.inr (.inr (.inl f))))
  | .inl (t, n, .inr (.inr (.inr (.inr f)))) => .inl (cT t, n, .inr (.inr (.inr (.inr (fun j => (f j).map ad)))))
  | .inr (c, fs) => .inr (c, fs.map (ax_v ad rc))
def ax_w (ad rc : Nat → Nat) (cT : FieldType → ClassId) (h : ax_H) : va_W := (List.range h.1).map fun i => (ad i, ax_e ad rc cT ((h.2 i).getD (.inr (0, []))))
def ax_vw (n : Nat) (v : Value) : Prop := ∀ i, v = .ref i → i < n
def ax_ew (n : Nat) (e : ax_E) : Prop := match e with
  | .inl (_, _, .inr (.inr (.inr (.inr f)))) => ∀ k j, f k = some j → j < n
  | .inl _ => True
  | .inr (_, fs) => ∀ v ∈ fs, ax_vw n v
def ax_hw (h : ax_H) : Prop := ∀ i, (i < h.1 → ∃ e, h.2 i = some e) ∧ ∀ e, h.2 i = some e → i < h.1 ∧ ax_ew h.1 e
theorem ax_v_cat (ad rc : Nat → Nat) (v : Value) : (ax_v ad rc v).category = v.category := by cases v <;> rfl
theorem ax_v_sum (ad rc : Nat → Nat) (st : List Value) : ((st.map (ax_v ad rc)).map fun v => v.category) = st.map fun v => v.category := by
  rw [List.map_map]
  exact List.map_congr_left fun v _ => ax_v_cat ad rc v
theorem ax_c1_cat {v : Value} (h : ax_c1 v = true) : v.category = 1 := by cases v <;> first | rfl | (simp [ax_c1] at h)
theorem ax_c1_cat2 {v : Value} (h : ¬ ax_c1 v = true) : v.category = 2 := by cases v <;> first | rfl | (simp [ax_c1] at h)
theorem ax_vw_int {n : Nat} {x : Int32} : ax_vw n (.int x) := fun _ h => by cases h
theorem ax_vw_long {n : Nat} {x : Int64} : ax_vw n (.long x) := fun _ h => by cases h
theorem ax_vw_null {n : Nat} : ax_vw n .null := fun _ h => by cases h
theorem ax_vw_con {n i : Nat} : ax_vw n (.retAddr i) := fun _ h => by cases h
theorem ax_vw_ref {n i : Nat} (h : i < n) : ax_vw n (.ref i) := fun j e => by cases e; exact h
theorem ax_vw.le {n m : Nat} {v : Value} (h : ax_vw n v) (hn : n ≤ m) : ax_vw m v := fun i e => Nat.lt_of_lt_of_le (h i e) hn
theorem ax_v_ag {ad ad' rc : Nat → Nat} {n : Nat} {v : Value} (hag : ∀ i, i < n → ad' i = ad i) (hv : ax_vw n v) : ax_v ad' rc v = ax_v ad rc v := by
  cases v with
  | ref i => exact congrArg Value.ref (hag i (hv i rfl))
  | _ => rfl
theorem ax_vs_ag {ad ad' rc : Nat → Nat} {n : Nat} {st : List Value} (hag : ∀ i, i < n → ad' i = ad i) (hv : ∀ v ∈ st, ax_vw n v) : st.map (ax_v ad' rc) = st.map (ax_v ad rc) :=
  List.map_congr_left fun v h => ax_v_ag hag (hv v h)
theorem ax_e_ag {ad ad' rc : Nat → Nat} {cT : FieldType → ClassId} {n : Nat} {e : ax_E} (hag : ∀ i, i < n → ad' i = ad i) (he : ax_ew n e) : ax_e ad' rc cT e = ax_e ad rc cT e := by
  rcases e with ⟨t, m, (f | (f | (f | (f | f))))⟩ | ⟨c, fs⟩
  · rfl
  · rfl
  · rfl
  · rfl
  · have hf : (fun j => (f j).map ad') = fun j => (f j).map ad := by
      funext j
      cases hj : f j with
      | none => rfl
      | some k => exact congrArg some (hag k (he j k hj))
    show (Sum.inl (cT t, m, .inr (.inr (.inr (.inr (fun j => (f j).map ad'))))) : va_E) = _
    rw [hf]
    rfl
  · show (Sum.inr (c, fs.map (ax_v ad' rc)) : va_E) = _
    rw [ax_vs_ag hag he]
    rfl
theorem ax_ew.le {n m : Nat} {e : ax_E} (he : ax_ew n e) (hn : n ≤ m) : ax_ew m e := by
  rcases e with ⟨t, z, (f | (f | (f | (f | f))))⟩ | ⟨c, fs⟩
  · trivial
  · trivial
  · trivial
  · trivial
  · exact fun k j h => Nat.lt_of_lt_of_le (he k j h) hn
  · exact fun v h => (he v h).le hn
theorem ax_w_len (ad rc : Nat → Nat) (cT : FieldType → ClassId) (h : ax_H) : (ax_w ad rc cT h).length = h.1 := by simp [ax_w]
theorem ax_w_at {ad rc : Nat → Nat} {cT : FieldType → ClassId} {h : ax_H} {i : Nat} {e : ax_E} (hw : ax_hw h) (he : h.2 i = some e) : (ax_w ad rc cT h)[i]? = some (ad i, ax_e ad rc cT e) := by
  have hi := ((hw i).2 e he).1
  rw [ax_w, List.getElem?_map, List.getElem?_range hi]
  simp [he]
theorem ax_w_set {ad rc : Nat → Nat} {cT : FieldType → ClassId} {h : ax_H} {i : Nat} {e0 e : ax_E} (hw : ax_hw h) (he : h.2 i = some e0) : (ax_w ad rc cT h).set i (ad i, ax_e ad rc cT e) = ax_w ad rc cT (ax_up h i e) := by
  have hi := ((hw i).2 e0 he).1
  apply List.ext_getElem?
  intro j
  by_cases hj : j < h.1
  · rw [List.getElem?_set]
    by_cases e' : i = j
    · subst e'
      rw [if_pos rfl, if_pos (by rw [ax_w_len]; exact hi), ax_w, List.getElem?_map]
      show _ = ((List.range h.1)[i]?).map _
      rw [List.getElem?_range hi]
      simp [ax_up]
    · have e'' : ¬ j = i := fun z => e' z.symm
      rw [if_neg e', ax_w, ax_w, List.getElem?_map, List.getElem?_map]
      show ((List.range h.1)[j]?).map _ = ((List.range h.1)[j]?).map _
      rw [List.getElem?_range hj]
      simp [ax_up, e'']
  · rw [List.getElem?_eq_none (by rw [List.length_set, ax_w_len]; omega), List.getElem?_eq_none (by rw [ax_w_len]; show h.1 ≤ j; omega)]
theorem ax_up_hw {h : ax_H} {i : Nat} {e0 e : ax_E} (hw : ax_hw h) (he : h.2 i = some e0) (hn : ax_ew h.1 e) : ax_hw (ax_up h i e) := by
  have hi := ((hw i).2 e0 he).1
  intro j
  by_cases hj : j = i
  · subst hj
    refine ⟨fun _ => ⟨e, by simp [ax_up]⟩, fun e' h' => ?_⟩
    have : e = e' := by simpa [ax_up] using h'
    subst this
    exact ⟨hi, hn⟩
  · have q : (ax_up h i e).2 j = h.2 j := by simp [ax_up, hj]
    rw [q]
    exact hw j
theorem ax_w_nw {ad rc : Nat → Nat} {cT : FieldType → ClassId} {h : ax_H} {e : ax_E} {q : Nat} (hw : ax_hw h) : ax_w ad rc cT h ++ [(q, ax_e (fun i => if i = h.1 then q else ad i) rc cT e)] = ax_w (fun i => if i = h.1 then q else ad i) rc cT (ax_nw h e) := by
  have hr : (ax_nw h e).1 = h.1 + 1 := rfl
  unfold ax_w
  rw [hr, List.range_succ, List.map_append]
  congr 1
  · refine List.map_congr_left fun i hi => ?_
    have hi : i < h.1 := List.mem_range.mp hi
    have hne : ¬ i = h.1 := by omega
    obtain ⟨e', he'⟩ := (hw i).1 hi
    have hx := ((hw i).2 e' he').2
    have h1 : (ax_nw h e).2 i = some e' := by simp [ax_nw, hne, he']
    rw [h1, he']
    show (ad i, ax_e ad rc cT e') = ((if i = h.1 then q else ad i), ax_e _ rc cT e')
    rw [if_neg hne, ax_e_ag (ad := ad) (n := h.1) (fun j hj => if_neg (by omega)) hx]
  · simp [ax_nw]
theorem ax_nw_hw {h : ax_H} {e : ax_E} (hw : ax_hw h) (hn : ax_ew h.1 e) : ax_hw (ax_nw h e) := by
  intro j
  by_cases hj : j = h.1
  · subst hj
    refine ⟨fun _ => ⟨e, by simp [ax_nw]⟩, fun e' h' => ?_⟩
    have : e = e' := by simpa [ax_nw] using h'
    subst this
    exact ⟨Nat.lt_succ_self _, hn.le (Nat.le_succ _)⟩
  · have q : (ax_nw h e).2 j = h.2 j := by simp [ax_nw, hj]
    rw [q]
    refine ⟨fun z => (hw j).1 (by have : j < h.1 + 1 := z; omega), fun e' h' => ?_⟩
    obtain ⟨a, b⟩ := (hw j).2 e' h'
    exact ⟨Nat.lt_succ_of_lt a, b.le (Nat.le_succ _)⟩
/-! locals -/
def ax_lm (ad rc : Nat → Nat) (lsA : Array Slot) (ml : Nat) (ls : List (Option Value)) : Prop := lsA.size = ml ∧ ls.length = ml ∧ lv_wf lsA ∧ ∀ (i : Nat) (v : Value), ls[i]? = some (some v) → lsA[i]? = some (Slot.val (ax_v ad rc v))
def ax_lw (n : Nat) (ls : List (Option Value)) : Prop := ∀ (i : Nat) (v : Value), ls[i]? = some (some v) → ax_vw n v
def ax_as (ad rc : Nat → Nat) (ls : List (Option Value)) : List (Nat × Value) := (List.range ls.length).filterMap fun i => match ls[i]? with
  | some (some v) => some (i, ax_v ad rc v)
  | _ => none
theorem ax_as_in {ad rc : Nat → Nat} {ls : List (Option Value)} {i : Nat} {v : Value} (h : ls[i]? = some (some v)) : (i, ax_v ad rc v) ∈ ax_as ad rc ls := by
  refine List.mem_filterMap.mpr ⟨i, List.mem_range.mpr (List.getElem?_eq_some_iff.mp h).1, ?_⟩
  rw [h]
theorem ax_lm.has {ad rc : Nat → Nat} {lsA : Array Slot} {ml : Nat} {ls : List (Option Value)} (h : ax_lm ad rc lsA ml ls) : lv_has lsA ml (ax_as ad rc ls) := by
  refine ⟨h.1, h.2.2.1, fun q hq => ?_⟩
  obtain ⟨i, -, hi⟩ := List.mem_filterMap.mp hq
  split at hi
  · rename_i v hv
    cases hi
    exact h.2.2.2 i v hv
  · cases hi
theorem ax_s1_len (ls : List (Option Value)) (i : Nat) (v : Value) : (ax_s1 ls i v).length = ls.length := by
  cases i with
  | zero => simp [ax_s1]
  | succ j => simp [ax_s1]
theorem ax_kl_some {o : Option Value} {w : Value} (h : ax_kl o = some w) : o = some w ∧ w.category = 1 := by
  rcases o with _ | v
  · cases h
  · cases v <;> first | (cases h; exact ⟨rfl, rfl⟩) | (cases h; done)
theorem ax_s1_at {ls : List (Option Value)} {i j : Nat} {v w : Value} (h : (ax_s1 ls i v)[j]? = some (some w)) : (j = i ∧ w = v) ∨ (¬ j = i ∧ ls[j]? = some (some w) ∧ (j + 1 = i → w.category = 1)) := by
  by_cases hj : j = i
  · subst hj
    refine Or.inl ⟨rfl, ?_⟩
    cases j with
    | zero =>
      rw [ax_s1, List.getElem?_set] at h
      split at h
      · split at h
        · exact (Option.some.inj (Option.some.inj h)).symm
        · cases h
      · rename_i z; exact absurd rfl z
    | succ m =>
      rw [ax_s1, List.getElem?_set] at h
      split at h
      · split at h
        · exact (Option.some.inj (Option.some.inj h)).symm
        · cases h
      · rename_i z; exact absurd rfl z
  · refine Or.inr ⟨hj, ?_⟩
    cases i with
    | zero =>
      rw [ax_s1, List.getElem?_set, if_neg (fun z => hj z.symm)] at h
      exact ⟨h, fun z => by omega⟩
    | succ m =>
      rw [ax_s1, List.getElem?_set, if_neg (fun z => hj z.symm), List.getElem?_modify] at h
      by_cases hm : m = j
      · subst hm
        simp only [if_true] at h
        cases ho : ls[m]? with
        | none => rw [ho] at h; cases h
        | some o =>
          rw [ho] at h
          have h2 : ax_kl o = some w := Option.some.inj h
          obtain ⟨a, b⟩ := ax_kl_some h2
          exact ⟨by rw [a], fun _ => b⟩
      · have e : (ls[j]?).map (if m = j then ax_kl else id) = ls[j]? := by
          rw [if_neg hm]; simp
        first
          | (rw [if_neg hm] at h; simp at h; exact ⟨h, fun z => by omega⟩)
          | (simp [hm] at h; exact ⟨h, fun z => by omega⟩)
theorem ax_lm.st1 {ad rc : Nat → Nat} {lsA ls' : Array Slot} {ml : Nat} {ls : List (Option Value)} {i : Nat} {v : Value} (h : ax_lm ad rc lsA ml ls) (h' : lv_has ls' ml ((i, ax_v ad rc v) :: (ax_as ad rc ls).filter (fun q => !(q.1 == i) && !(q.1 + 1 == i && q.2.category == 2)))) : ax_lm ad rc ls' ml (ax_s1 ls i v) := by
  refine ⟨h'.1, by rw [ax_s1_len]; exact h.2.1, h'.2.1, fun j w hj => ?_⟩
  rcases ax_s1_at hj with ⟨rfl, rfl⟩ | ⟨h1, h2, h3⟩
  · exact h'.2.2 _ List.mem_cons_self
  · refine h'.2.2 (j, ax_v ad rc w) (List.mem_cons_of_mem _ (List.mem_filter.mpr ⟨ax_as_in h2, ?_⟩))
    by_cases hc : j + 1 = i
    · have := h3 hc
      simp [h1, ax_v_cat, this]
    · simp [h1, hc]
theorem ax_lw.st1 {n : Nat} {ls : List (Option Value)} {i : Nat} {v : Value} (h : ax_lw n ls) (hv : ax_vw n v) : ax_lw n (ax_s1 ls i v) := by
  intro j w hj
  rcases ax_s1_at hj with ⟨rfl, rfl⟩ | ⟨h1, h2, h3⟩
  · exact hv
  · exact h j w h2
theorem ax_s2_at {ls : List (Option Value)} {i j : Nat} {v w : Value} (h : (ax_s2 ls i v)[j]? = some (some w)) : (j = i ∧ w = v) ∨ (¬ j = i ∧ ¬ j = i + 1 ∧ ls[j]? = some (some w) ∧ (j + 1 = i → w.category = 1)) := by
  unfold ax_s2 at h
  rw [List.getElem?_set] at h
  split at h
  · split at h
    · cases h
    · cases h
  · rename_i hne
    rcases ax_s1_at h with h | ⟨h1, h2, h3⟩
    · exact Or.inl h
    · exact Or.inr ⟨h1, fun z => hne z.symm, h2, h3⟩
theorem ax_lm.st2 {ad rc : Nat → Nat} {lsA ls' : Array Slot} {ml : Nat} {ls : List (Option Value)} {i : Nat} {v : Value} (h : ax_lm ad rc lsA ml ls) (h' : lv_has ls' ml ((i, ax_v ad rc v) :: (ax_as ad rc ls).filter (fun q => !(q.1 == i) && (!(q.1 == i + 1) && !(q.1 + 1 == i && q.2.category == 2))))) : ax_lm ad rc ls' ml (ax_s2 ls i v) := by
  refine ⟨h'.1, by unfold ax_s2; rw [List.length_set, ax_s1_len]; exact h.2.1, h'.2.1, fun j w hj => ?_⟩
  rcases ax_s2_at hj with ⟨rfl, rfl⟩ | ⟨h1, h1', h2, h3⟩
  · exact h'.2.2 _ List.mem_cons_self
  · refine h'.2.2 (j, ax_v ad rc w) (List.mem_cons_of_mem _ (List.mem_filter.mpr ⟨ax_as_in h2, ?_⟩))
    by_cases hc : j + 1 = i
    · have := h3 hc
      simp [h1, h1', ax_v_cat, this]
    · simp [h1, h1', hc]
theorem ax_lw.st2 {n : Nat} {ls : List (Option Value)} {i : Nat} {v : Value} (h : ax_lw n ls) (hv : ax_vw n v) : ax_lw n (ax_s2 ls i v) := by
  intro j w hj
  rcases ax_s2_at hj with ⟨rfl, rfl⟩ | ⟨h1, h1', h2, h3⟩
  · exact hv
  · exact h j w h2
theorem ax_lm.ag {ad ad' rc : Nat → Nat} {lsA : Array Slot} {ml n : Nat} {ls : List (Option Value)} (h : ax_lm ad rc lsA ml ls) (hw : ax_lw n ls) (hag : ∀ i, i < n → ad' i = ad i) : ax_lm ad' rc lsA ml ls :=
  ⟨h.1, h.2.1, h.2.2.1, fun i v hv => by rw [ax_v_ag hag (hw i v hv)]; exact h.2.2.2 i v hv⟩
theorem ax_lw.le {n m : Nat} {ls : List (Option Value)} (h : ax_lw n ls) (hn : n ≤ m) : ax_lw m ls := fun i v hv => (h i v hv).le hn
/-! the locals with which a method begins -/
theorem ax_el_sl (ad rc : Nat → Nat) (args : List Value) : (lg_sl (args.map (ax_v ad rc))).length = (ax_el args).length := by
  induction args with
  | nil => rfl
  | cons v vs ih =>
    have e : lg_sl ((v :: vs).map (ax_v ad rc)) = (if (ax_v ad rc v).category = 2 then [Slot.val (ax_v ad rc v), .second] else [.val (ax_v ad rc v)]) ++ lg_sl (vs.map (ax_v ad rc)) := by simp [lg_sl]
    rw [e, List.length_append, ih, ax_v_cat]
    by_cases hc : ax_c1 v = true
    · rw [ax_c1_cat hc]
      simp [ax_el, hc]
      omega
    · rw [ax_c1_cat2 hc]
      simp [ax_el, hc]
      omega
theorem ax_el_at (ad rc : Nat → Nat) (args : List Value) : ∀ (b j : Nat) (w : Value), (ax_el args)[j]? = some (some w) → (b + j, ax_v ad rc w) ∈ lv_args b (args.map (ax_v ad rc)) ∧ w ∈ args := by
  induction args with
  | nil => intro b j w h; simp [ax_el] at h
  | cons v vs ih =>
    intro b j w h
    by_cases hc : ax_c1 v = true
    · have e : ax_el (v :: vs) = some v :: ax_el vs := by simp [ax_el, hc]
      rw [e] at h
      have e2 : lv_args b ((v :: vs).map (ax_v ad rc)) = (b, ax_v ad rc v) :: lv_args (b + 1) (vs.map (ax_v ad rc)) := by
        show (b, ax_v ad rc v) :: lv_args (if (ax_v ad rc v).category = 2 then b + 2 else b + 1) _ = _
        rw [ax_v_cat, ax_c1_cat hc]; rfl
      rw [e2]
      cases j with
      | zero =>
        have : v = w := by simpa using h
        subst this
        exact ⟨List.mem_cons_self, List.mem_cons_self⟩
      | succ j =>
        obtain ⟨a, c⟩ := ih (b + 1) j w (by simpa using h)
        exact ⟨List.mem_cons_of_mem _ (by rw [show b + (j + 1) = b + 1 + j by omega]; exact a), List.mem_cons_of_mem _ c⟩
    · have e : ax_el (v :: vs) = some v :: none :: ax_el vs := by simp [ax_el, hc]
      rw [e] at h
      have e2 : lv_args b ((v :: vs).map (ax_v ad rc)) = (b, ax_v ad rc v) :: lv_args (b + 2) (vs.map (ax_v ad rc)) := by
        show (b, ax_v ad rc v) :: lv_args (if (ax_v ad rc v).category = 2 then b + 2 else b + 1) _ = _
        rw [ax_v_cat, ax_c1_cat2 hc]; rfl
      rw [e2]
      rcases j with _ | _ | j
      · have : v = w := by simpa using h
        subst this
        exact ⟨List.mem_cons_self, List.mem_cons_self⟩
      · simp at h
      · obtain ⟨a, c⟩ := ih (b + 2) j w (by simpa using h)
        exact ⟨List.mem_cons_of_mem _ (by rw [show b + (j + 1 + 1) = b + 2 + j by omega]; exact a), List.mem_cons_of_mem _ c⟩
theorem ax_en_at {ml : Nat} {args : List Value} {j : Nat} {w : Value} (h : (ax_en ml args)[j]? = some (some w)) : (ax_el args)[j]? = some (some w) := by
  unfold ax_en at h
  by_cases hj : j < (ax_el args).length
  · rwa [List.getElem?_append_left hj] at h
  · rw [List.getElem?_append_right (by omega)] at h
    have := List.eq_of_mem_replicate (List.mem_of_getElem? h)
    cases this
theorem ax_en_lm (ad rc : Nat → Nat) {ml : Nat} {args : List Value} (h : (ax_el args).length ≤ ml) : ax_lm ad rc ((lg_sl (args.map (ax_v ad rc)) ++ List.replicate (ml - (lg_sl (args.map (ax_v ad rc))).length) Slot.unset).toArray) ml (ax_en ml args) := by
  have hl := lv_entry (args.map (ax_v ad rc)) (n := ml) (by rw [ax_el_sl]; exact h)
  refine ⟨hl.1, by simp [ax_en]; omega, hl.2.1, fun i v hv => ?_⟩
  have := (ax_el_at ad rc args 0 i v (ax_en_at hv)).1
  rw [Nat.zero_add] at this
  exact hl.2.2 _ this
theorem ax_en_lw {n ml : Nat} {args : List Value} (h : ∀ v ∈ args, ax_vw n v) : ax_lw n (ax_en ml args) := fun i v hv => h v (ax_el_at id id args 0 i v (ax_en_at hv)).2
end
section
/-! what a step's parts say -/
theorem ax_i_of {st : List Value} {K : Int32 → List Value → Prop} (h : ax_i st K) : ∃ x r, st = .int x :: r ∧ K x r := by
  unfold ax_i at h
  split at h
  · exact ⟨_, _, rfl, h⟩
  · exact h.elim
theorem ax_l_of {st : List Value} {K : Int64 → List Value → Prop} (h : ax_l st K) : ∃ x r, st = .long x :: r ∧ K x r := by
  unfold ax_l at h
  split at h
  · exact ⟨_, _, rfl, h⟩
  · exact h.elim
theorem ax_r_of {st : List Value} {K : Nat → List Value → Prop} (h : ax_r st K) : ∃ x r, st = .ref x :: r ∧ K x r := by
  unfold ax_r at h
  split at h
  · exact ⟨_, _, rfl, h⟩
  · exact h.elim
theorem ax_1_of {st : List Value} {K : Value → List Value → Prop} (h : ax_1 st K) : ∃ x r, st = x :: r ∧ ax_c1 x = true ∧ K x r := by
  unfold ax_1 at h
  split at h
  · exact ⟨_, _, rfl, h⟩
  · exact h.elim
theorem ax_1'_of {st : List Value} {K : Value → List Value → Prop} (h : ax_1' st K) : ∃ x r, st = x :: r ∧ K x r := by
  unfold ax_1' at h
  split at h
  · exact ⟨_, _, rfl, h⟩
  · exact h.elim
theorem ax_ld_of {ls : List (Option Value)} {i : Nat} {K : Value → Prop} (h : ax_ld ls i K) : ∃ v, ls[i]? = some (some v) ∧ K v := by
  unfold ax_ld at h
  split at h
  · rename_i v e; exact ⟨v, e, h⟩
  · exact h.elim
theorem ax_vi_of {v : Value} {K : Int32 → Prop} (h : ax_vi v K) : ∃ x, v = .int x ∧ K x := by
  unfold ax_vi at h
  split at h
  · exact ⟨_, rfl, h⟩
  · exact h.elim
theorem ax_vl_of {v : Value} {K : Int64 → Prop} (h : ax_vl v K) : ∃ x, v = .long x ∧ K x := by
  unfold ax_vl at h
  split at h
  · exact ⟨_, rfl, h⟩
  · exact h.elim
theorem ax_op_of {α : Type} {o : Option α} {K : α → Prop} (h : ax_op o K) : ∃ a, o = some a ∧ K a := by
  unfold ax_op at h
  split at h
  · exact ⟨_, rfl, h⟩
  · exact h.elim
theorem ax_sl_of {α β : Type} {q : α ⊕ β} {K : α → Prop} (h : ax_sl q K) : ∃ a, q = .inl a ∧ K a := by
  unfold ax_sl at h
  split at h
  · exact ⟨_, rfl, h⟩
  · exact h.elim
theorem ax_sr_of {α β : Type} {q : α ⊕ β} {K : β → Prop} (h : ax_sr q K) : ∃ a, q = .inr a ∧ K a := by
  unfold ax_sr at h
  split at h
  · exact h.elim
  · exact ⟨_, rfl, h⟩
theorem ax_sc_of {st : List Value} {K0 : List Value → Prop} {K : Nat → List Value → Prop} (h : ax_sc st K0 K) : (∃ r, st = .retAddr 0 :: r ∧ K0 r) ∨ ∃ a r, st = .ref a :: r ∧ K a r := by
  unfold ax_sc at h
  split at h
  · exact Or.inl ⟨_, rfl, h⟩
  · exact Or.inr ⟨_, _, rfl, h⟩
  · exact h.elim
theorem ax_nu_of {st : List Value} {K0 K : List Value → Prop} (h : ax_nu st K0 K) : (∃ r, st = .null :: r ∧ K0 r) ∨ ∃ a r, st = .ref a :: r ∧ K r := by
  unfold ax_nu at h
  split at h
  · exact Or.inl ⟨_, rfl, h⟩
  · exact Or.inr ⟨_, _, rfl, h⟩
  · exact h.elim
theorem ax_gf_of {h : ax_H} {a ci kf : Nat} {K : Value → Prop} (q : ax_gf h a ci kf K) : ∃ fs v, h.2 a = some (.inr (ci, fs)) ∧ fs[kf]? = some v ∧ K v := by
  unfold ax_gf at q
  split at q
  · rename_i c' fs e
    obtain ⟨rfl, q⟩ := q
    split at q
    · rename_i v e2; exact ⟨fs, v, e, e2, q⟩
    · exact q.elim
  · exact q.elim
theorem ax_pf_of {h : ax_H} {a ci kf : Nat} {v : Value} {K : ax_H → Prop} (q : ax_pf h a ci kf v K) : ∃ fs, h.2 a = some (.inr (ci, fs)) ∧ kf < fs.length ∧ K (ax_up h a (.inr (ci, fs.set kf v))) := by
  unfold ax_pf at q
  split at q
  · rename_i c' fs e
    obtain ⟨rfl, q⟩ := q
    exact ⟨fs, e, q⟩
  · exact q.elim
theorem ax_ga_of {h : ax_H} {a : Nat} {ty : FieldType} {i : Int32} {K : Int32 → Prop} (q : ax_ga h a ty i K) : ∃ n f, h.2 a = some (.inl (ty, n, .inl f)) ∧ vp_in i n ∧ K (f i.toNatClampNeg) := by
  unfold ax_ga at q
  split at q
  · rename_i t n f e
    obtain ⟨rfl, q⟩ := q
    exact ⟨n, f, e, q⟩
  · exact q.elim
theorem ax_gl_of {h : ax_H} {a : Nat} {i : Int32} {K : Int64 → Prop} (q : ax_gl h a i K) : ∃ n f, h.2 a = some (.inl (.long, n, .inr (.inl f))) ∧ vp_in i n ∧ K (f i.toNatClampNeg) := by
  unfold ax_gl at q
  split at q
  · rename_i t n f e
    obtain ⟨rfl, q⟩ := q
    exact ⟨n, f, e, q⟩
  · exact q.elim
theorem ax_gq_of {h : ax_H} {a : Nat} {i : Int32} {K : Option Nat → Prop} (q : ax_gq h a i K) : ∃ C n f, h.2 a = some (.inl (.object C, n, .inr (.inr (.inr (.inr f))))) ∧ vp_in i n ∧ K (f i.toNatClampNeg) := by
  unfold ax_gq at q
  split at q
  · rename_i t n f e
    obtain ⟨ht, q⟩ := q
    cases t with
    | object C => exact ⟨C, n, f, e, q⟩
    | _ => cases ht
  · exact q.elim
theorem ax_pa_of {h : ax_H} {a : Nat} {ty : FieldType} {i x : Int32} {K : ax_H → Prop} (q : ax_pa h a ty i x K) : ∃ n f, h.2 a = some (.inl (ty, n, .inl f)) ∧ vp_in i n ∧ K (ax_up h a (.inl (ty, n, .inl (upd f i.toNatClampNeg x)))) := by
  unfold ax_pa at q
  split at q
  · rename_i t n f e
    obtain ⟨rfl, q⟩ := q
    exact ⟨n, f, e, q⟩
  · exact q.elim
theorem ax_pl_of {h : ax_H} {a : Nat} {i : Int32} {x : Int64} {K : ax_H → Prop} (q : ax_pl h a i x K) : ∃ n f, h.2 a = some (.inl (.long, n, .inr (.inl f))) ∧ vp_in i n ∧ K (ax_up h a (.inl (.long, n, .inr (.inl (vp_updL f i.toNatClampNeg x))))) := by
  unfold ax_pl at q
  split at q
  · rename_i t n f e
    obtain ⟨rfl, q⟩ := q
    exact ⟨n, f, e, q⟩
  · exact q.elim
theorem ax_pq_of {cl : List vw_C} {h : ax_H} {a v : Nat} {i : Int32} {K : ax_H → Prop} (q : ax_pq cl h a i v K) : ∃ (r : vw_C) (n : Nat) (f : Nat → Option Nat) (ci : Nat) (vs : List Value), h.2 a = some (.inl (.object r.1, n, .inr (.inr (.inr (.inr f))))) ∧ h.2 v = some (.inr (ci, vs)) ∧ cl[ci]? = some r ∧ vp_in i n ∧ K (ax_up h a (.inl (.object r.1, n, .inr (.inr (.inr (.inr (va_up f i.toNatClampNeg (some v)))))))) := by
  unfold ax_pq at q
  split at q
  · rename_i t n f ci vs e1 e2
    obtain ⟨ht, q⟩ := q
    cases hr : cl[ci]? with
    | none => rw [hr] at ht; cases ht
    | some r =>
      rw [hr] at ht
      have ht : FieldType.object r.1 = t := Option.some.inj ht
      subst ht
      exact ⟨r, n, f, ci, vs, e1, e2, hr, q⟩
  · exact q.elim
theorem ax_al_of {h : ax_H} {a : Nat} {K : Nat → Prop} (q : ax_al h a K) : ∃ t n f, h.2 a = some (.inl (t, n, f)) ∧ K n := by
  unfold ax_al at q
  split at q
  · rename_i t n f e
    exact ⟨t, n, f, e, q⟩
  · exact q.elim
theorem ax_io_of {h : ax_H} {a ci : Nat} (q : ax_io h a ci) : ∃ fs, h.2 a = some (.inr (ci, fs)) := by
  unfold ax_io at q
  split at q
  · rename_i c' fs e
    subst q
    exact ⟨fs, e⟩
  · exact q.elim
theorem ax_cp_of {h : ax_H} {st : List Value} {K : List Value → ax_H → Prop} (q : ax_cp h st K) : ∃ (n dp : Int32) (a : Nat) (sp : Int32) (b : Nat) (r : List Value) (t1 : FieldType) (n0 : Nat) (f : Nat → Int32) (n1 : Nat) (g : Nat → Int32), st = .int n :: .int dp :: .ref a :: .int sp :: .ref b :: r ∧ h.2 b = some (.inl (t1, n0, .inl f)) ∧ h.2 a = some (.inl (t1, n1, .inl g)) ∧ refKind t1 = false ∧ ¬ sp < 0 ∧ ¬ dp < 0 ∧ ¬ n < 0 ∧ sp.toNatClampNeg + n.toNatClampNeg ≤ n0 ∧ dp.toNatClampNeg + n.toNatClampNeg ≤ n1 ∧ (∀ i, i < n.toNatClampNeg → fits t1 (.int (f (sp.toNatClampNeg + i))) = true) ∧ ax_w8 r ∧ K r (ax_up h a (.inl (t1, n1, .inl (va_cpy f g sp.toNatClampNeg dp.toNatClampNeg n.toNatClampNeg)))) := by
  unfold ax_cp at q
  split at q
  · rename_i n dp a sp b r
    split at q
    · rename_i t0 n0 f t1 n1 g e1 e2
      obtain ⟨rfl, q⟩ := q
      exact ⟨n, dp, a, sp, b, r, t0, n0, f, n1, g, rfl, e1, e2, q⟩
    · exact q.elim
  · exact q.elim
theorem ax_ft_n {ad rc : Nat → Nat} {ty : FieldType} {v : Value} (h : ax_ft ty v) : narrow ty (ax_v ad rc v) = ax_v ad rc v := by
  unfold ax_ft at h
  split at h
  all_goals first
    | rfl
    | (rcases h with rfl | rfl <;> rfl)
    | exact h.elim
theorem ax_ft_f {ad rc : Nat → Nat} {ty : FieldType} {v : Value} (h : ax_ft ty v) : fits ty (ax_v ad rc v) = true := by
  unfold ax_ft at h
  split at h
  all_goals first
    | rfl
    | (rcases h with rfl | rfl <;> rfl)
    | exact h.elim
theorem ax_e_arr (ad rc : Nat → Nat) (cT : FieldType → ClassId) (t : FieldType) (n : Nat) (f : (Nat → Int32) ⊕ (Nat → Int64) ⊕ (Nat → UInt32) ⊕ (Nat → UInt64) ⊕ (Nat → Option Nat)) : ∃ g, ax_e ad rc cT (.inl (t, n, f)) = .inl (cT t, n, g) := by
  rcases f with f | f | f | f | f
  · exact ⟨_, rfl⟩
  · exact ⟨_, rfl⟩
  · exact ⟨_, rfl⟩
  · exact ⟨_, rfl⟩
  · exact ⟨_, rfl⟩
/-! what the tables must say -/
def ax_ak (h : ax_H) : Prop := ∀ i t a, h.2 i = some (.inl (t, a)) → ax_kt t = true
def ax_nr : Value → Bool
  | .ref _ => false
  | .retAddr _ => false
  | _ => true
theorem ax_nr_v {ad rc : Nat → Nat} {v : Value} (h : ax_nr v = true) : ax_v ad rc v = v := by cases v <;> first | rfl | (simp [ax_nr] at h)
theorem ax_nr_vs {ad rc : Nat → Nat} {fs : List Value} (h : ∀ v ∈ fs, ax_nr v = true) : fs.map (ax_v ad rc) = fs := by
  have : fs.map (ax_v ad rc) = fs.map id := List.map_congr_left fun v hv => ax_nr_v (h v hv)
  rw [this, List.map_id]
theorem ax_nr_w {n : Nat} {v : Value} (h : ax_nr v = true) : ax_vw n v := fun i e => by subst e; simp [ax_nr] at h
theorem ax_ak_up {h : ax_H} {i : Nat} {e : ax_E} (hak : ax_ak h) (he : ∀ t a, e = .inl (t, a) → ax_kt t = true) : ax_ak (ax_up h i e) := by
  intro j t a hj
  by_cases q : j = i
  · subst q
    have : e = .inl (t, a) := by simpa [ax_up] using hj
    exact he t a this
  · exact hak j t a (by simpa [ax_up, q] using hj)
theorem ax_ak_nw {h : ax_H} {e : ax_E} (hak : ax_ak h) (he : ∀ t a, e = .inl (t, a) → ax_kt t = true) : ax_ak (ax_nw h e) := by
  intro j t a hj
  by_cases q : j = h.1
  · subst q
    have : e = .inl (t, a) := by simpa [ax_nw] using hj
    exact he t a this
  · exact hak j t a (by simpa [ax_nw, q] using hj)
theorem ax_zero_of {ty : FieldType} {n : Nat} {a : vp_A} (h : ax_zero ty n = some a) : ax_kt ty = true ∧ (ty = .int ∨ ty = .char ∨ ty = .boolean ∨ ty = .long) ∧ (∀ cA : ClassId, vp_cell cA a = arrV cA n (fun _ => defaultValue ty)) ∧ componentBytes ty ≤ 8 ∧ ∀ (rc : Nat → Nat) (cT : FieldType → ClassId) (ad : Nat → Nat), (.inl (cT ty, a) : va_E) = ax_e ad rc cT (.inl (ty, a)) := by
  unfold ax_zero at h
  split at h
  · cases h; exact ⟨rfl, Or.inl rfl, fun _ => rfl, by decide, fun _ _ _ => rfl⟩
  · cases h; exact ⟨rfl, Or.inr (Or.inl rfl), fun _ => rfl, by decide, fun _ _ _ => rfl⟩
  · cases h; exact ⟨rfl, Or.inr (Or.inr (Or.inl rfl)), fun _ => rfl, by decide, fun _ _ _ => rfl⟩
  · cases h; exact ⟨rfl, Or.inr (Or.inr (Or.inr rfl)), fun _ => rfl, by decide, fun _ _ _ => rfl⟩
  · cases h
theorem ax_zero_ew {ty : FieldType} {n m : Nat} {a : vp_A} (h : ax_zero ty n = some a) : ax_ew m (.inl (ty, a)) := by
  unfold ax_zero at h
  split at h
  · cases h; trivial
  · cases h; trivial
  · cases h; trivial
  · cases h; trivial
  · cases h
def ax_okF (cl : List vw_C) (Tb : List Cond) (cn : Nat → String) (tb : ax_Tb) : Prop := ∀ co idx q, tb.1 co idx = some q → ∃ (C : String) (T : u_T) (N : Nat) (t0 : Nat → FieldType), cl[q.1]? = some (C, T, N) ∧ q.2.1 < N ∧ (∀ w ∈ u_ws C T N, w ∈ Tb) ∧ (∀ k, k < N → parseFieldDescriptor (T k).2.2.1 = some (t0 k)) ∧ (∀ a, a < N → ∀ b, b < N → a ≠ b → (T a).2.1 ≠ (T b).2.1) ∧ Cond.fieldLink (cn co) idx (T q.2.1).1 (T q.2.1).2.1 (T q.2.1).2.2.1 ∈ Tb ∧ (T q.2.1).2.2.2 = q.2.2.2 ∧ t0 q.2.1 = q.2.2.1 ∧ (q.2.2.2 = true → (T q.2.1).1 = cn q.1)
def ax_okN (cl : List vw_C) (Tb : List Cond) (cn : Nat → String) (tb : ax_Tb) (G : State → Prop) : Prop := (∀ co idx ci fs C, tb.2.2.2 co idx = some (ci, fs, C) → ∃ (T : u_T) (N : Nat) (t0 : Nat → FieldType), cl[ci]? = some (C, T, N) ∧ (∀ w ∈ u_ws C T N, w ∈ Tb) ∧ (∀ k, k < N → parseFieldDescriptor (T k).2.2.1 = some (t0 k)) ∧ fs.length = N ∧ (∀ j, j < N → defaultValue (t0 j) = vp_V fs j) ∧ (∀ v ∈ fs, ax_nr v = true) ∧ Cond.classLink (cn co) idx C ∈ Tb ∧ Cond.instantiable C N ∈ Tb ∧ Cond.initialized C ∈ Tb) ∧ ∀ s, G s → va_AO "NoteSheet$Cell" s
def ax_okK (Tb : List Cond) (cn : Nat → String) (tb : ax_Tb) (rc : Nat → Nat) (G : State → Prop) : Prop := ∀ co idx, (∀ x, tb.2.2.1 co idx = some (.int x) → Cond.constant (cn co) idx x ∈ Tb) ∧ (∀ x, tb.2.2.1 co idx = some (.long x) → Cond.constantLong (cn co) idx x ∈ Tb) ∧ (tb.2.2.1 co idx = some (.retAddr 1) → ∃ tx, ∀ s, G s → vk_R (cn co) idx tx (rc 1) s)
def ax_okP (Tb : List Cond) (own : String) (idx q : Nat) : Prop := match q with
  | 0 => Cond.methodLink own idx Lib.objectInit ∈ Tb ∧ Cond.instanceMethod Lib.objectInit ∈ Tb ∧ Cond.code Lib.objectInit ⟨#[0xb1]⟩ 1 none ∈ Tb
  | 1 => Cond.methodLink own idx Lib.Math.max.name ∈ Tb ∧ Cond.static Lib.Math.max.name ∈ Tb ∧ Cond.initialized "java/lang/Math" ∈ Tb ∧ Cond.code Lib.Math.max.name Lib.Math.max.code 2 (some .int) ∈ Tb
  | 2 => Cond.methodLink own idx Lib.Math.min.name ∈ Tb ∧ Cond.static Lib.Math.min.name ∈ Tb ∧ Cond.initialized "java/lang/Math" ∈ Tb ∧ Cond.code Lib.Math.min.name Lib.Math.min.code 2 (some .int) ∈ Tb
  | 4 => True
  | 5 => Cond.methodLink own idx arraycopyName ∈ Tb ∧ Cond.native arraycopyName ∈ Tb ∧ Cond.static arraycopyName ∈ Tb ∧ Cond.initialized "java/lang/System" ∈ Tb
  | _ => False
def ax_okC (Tb : List Cond) (cn : Nat → String) (nm : Nat → MethodName) (tb : ax_Tb) (mt : Nat → Option ax_MI) : Prop := (∀ co idx y np mc ms ci kd, tb.2.1 co idx = some (.inl y, np, mc, ms, ci, kd) → ∃ I : ax_MI, mt y = some I ∧ I.2.2.2.2.2.1 = mc ∧ I.2.2.2.2.2.2 = ms ∧ I.2.1 = ci ∧ (nm y).cls = cn ci ∧ Cond.code (nm y) I.1 I.2.2.2.1 I.2.2.2.2.1 ∈ Tb ∧ Cond.initialized (nm y).cls ∈ Tb ∧ Cond.methodLink (cn co) idx (nm y) ∈ Tb ∧ ((nm y).cls ≠ "java/lang/invoke/MethodHandle" ∧ (nm y).cls ≠ "java/lang/invoke/VarHandle" ∧ (parseMethodDescriptor (nm y).desc).map (fun d => d.parameters.length) = some np) ∧ (kd = 0 → Cond.static (nm y) ∈ Tb) ∧ (kd = 1 → Cond.instanceMethod (nm y) ∈ Tb ∧ Cond.selects (cn ci) (nm y) (nm y) ∈ Tb) ∧ (kd = 2 → (nm y).name = "<init>" ∧ I.2.2.2.2.1 = none ∧ Cond.instanceMethod (nm y) ∈ Tb)) ∧
  ∀ co idx q np mc ms ci kd, tb.2.1 co idx = some (.inr q, np, mc, ms, ci, kd) → ax_okP Tb (cn co) idx q ∧ (kd = 0 → q = 1 ∨ q = 2 ∨ q = 5) ∧ (kd = 1 → q = 4) ∧ (kd = 2 → q = 0)
/-- each method's own name: plain, its class, its constructors -/
def ax_okM (cn : Nat → String) (nm : Nat → MethodName) (mt : Nat → Option ax_MI) : Prop := ∀ y I, mt y = some I → plainFor (nm y) = true ∧ (nm y).cls = cn I.2.1 ∧ (I.2.2.1 = true → (nm y).name = "<init>") ∧ I.2.2.2.1 ≤ 21
def ax_okA (Tb : List Cond) (cT : FieldType → ClassId) (tys : List (ClassId × FieldType)) : Prop := (∀ ty, ax_kt ty = true → ∃ t0 : Nat, tys[t0]? = some (cT ty, ty)) ∧ ∀ ty, ty = .int ∨ ty = .char ∨ ty = .boolean ∨ ty = .long → Cond.arrayClass ty ∈ Tb
/-- what stays true of the state: the script, constants, what lies in no table -/
def ax_okG (A : Nat → Prop) (G : State → Prop) (rc : Nat → Nat) (L : Nat) (xs : Nat → Int32) : Prop := (∀ s U : State, G s → s.WarmedH U.vm → s.heap.size ≤ U.heap.size → (∀ q, q < s.heap.size → ¬ A q → U.heap[q]? = s.heap[q]?) → G U) ∧ (∀ U V : State, G U → V.vm = U.vm → V.heap = U.heap → G V) ∧ ∀ s, G s → va_X (rc 0) L xs s s.heap ∧ rc 0 < s.heap.size ∧ ¬ A (rc 0)
theorem ax_RA {s : State} {cA cB : ClassId} {ty : FieldType} (h1 : va_RA s cA ty) (h2 : va_RA s cB ty) : cA = cB := by
  cases ty with
  | object C =>
    obtain ⟨_, _, _, _, _, a⟩ := h1
    obtain ⟨_, _, _, _, _, b⟩ := h2
    exact Option.some.inj (a.symm.trans b)
  | _ => exact Option.some.inj (Eq.trans (Eq.symm h1) h2)
def ax_rm (d mc ms : Nat) : Room := { frames := d, cells := mc, slots := ms, locals := 40 * d }
def ax_Pc (cl : List vw_C) (D : va_G) (cT : FieldType → ClassId) (tys : List (ClassId × FieldType)) (rc : Nat → Nat) (A : Nat → Prop) (G : State → Prop) (ad : Nat → Nat) (av : List Value) (h : ax_H) : Array Value → State → Prop := fun a U =>
  a = (av.map (ax_v ad rc)).toArray ∧ (∀ q, U.heap.size ≤ q → A q) ∧ va_P D cl (ax_w ad rc cT h) U.heap ∧ va_K D cl tys U ∧ va_D A (ax_w ad rc cT h) ∧ G U
def ax_Qc (cl : List vw_C) (D : va_G) (cT : FieldType → ClassId) (rc : Nat → Nat) (A : Nat → Prop) (ad : Nat → Nat) (h : ax_H) (Q : ax_Q) : Array Value → State → Outcome → State → Prop := fun _ st oc t =>
  (∃ (v : Option Value) (h' : ax_H) (ad' : Nat → Nat), oc = .returned (v.map (ax_v ad' rc)) ∧ Q v h' ∧ h.1 ≤ h'.1 ∧ (∀ i, i < h.1 → ad' i = ad i) ∧ ax_hw h' ∧ ax_ak h' ∧ (∀ x, v = some x → ax_vw h'.1 x) ∧ va_P D cl (ax_w ad' rc cT h') t.heap ∧ va_D A (ax_w ad' rc cT h')) ∧ va_F A st t
theorem ax_Pc.blind {cl : List vw_C} {D : va_G} {cT : FieldType → ClassId} {tys : List (ClassId × FieldType)} {rc : Nat → Nat} {A : Nat → Prop} {G : State → Prop} {L : Nat} {xs : Nat → Int32} {ad : Nat → Nat} {av : List Value} {h : ax_H} (hG : ax_okG A G rc L xs) : FrameBlind (ax_Pc cl D cT tys rc A G ad av h) := by
  intro a U g mk q
  obtain ⟨q1, q2, q3, q4, q5, q6⟩ := q
  exact ⟨q1, q2, q3, va_K.moved (u := U) (U := U.calling g mk a) (Vm.Alike.refl U.vm) q4, q5, hG.2.1 U _ q6 rfl rfl⟩
section AXS
variable {p : Program} {l : Launch} {e : Env} {R : Room} {s : State} {m : MethodId} {args : Array Value} {below : List Frame} {meth : Method} {c : Code} {H : Heap} {locs : List Loc} {cells slots : Nat} {Qs : State → Prop}
variable {cl : List vw_C} {D : va_G} {cT : FieldType → ClassId} {tys : List (ClassId × FieldType)} {rc : Nat → Nat} {A : Nat → Prop} {G : State → Prop} {L : Nat} {xs : Nat → Int32} {tb : ax_Tb} {Tb : List Cond} {cn : Nat → String} {nm : Nat → MethodName} {mt : Nat → Option ax_MI}
/-- a call comes back: what it answers, and the world behind it -/
theorem ax_ret {mc ms : Nat} {pc : Nat} {ls : Array Slot} {st0 rest : List Value} {ad : Nat → Nat} {h : ax_H} {Q : ax_Q} {a : Array Value}
    (hr : va_Run p l e R s m args below meth c H locs cells slots mc ms (F0 m pc ls st0) rest (ax_Qc cl D cT rc A ad h Q a) A) (hS : va_S A s.heap H locs)
    (kk : ∀ (v : Option Value) (h' : ax_H) (ad' : Nat → Nat) (H1 : Heap) (locs1 : List Loc), Q v h' → h.1 ≤ h'.1 → (∀ i, i < h.1 → ad' i = ad i) → ax_hw h' → ax_ak h' → (∀ x, v = some x → ax_vw h'.1 x) → va_P D cl (ax_w ad' rc cT h') H1 → va_D A (ax_w ad' rc cT h') → va_S A s.heap H1 locs1 → W p l e R s m args below meth c H1 locs1 (cells + mc) (slots + ms) Qs (F0 m (pc + 3) ls ((v.map (ax_v ad' rc)).toList ++ rest))) : W p l e R s m args below meth c H locs cells slots Qs (F0 m pc ls st0) := by
  intro T hT X
  obtain ⟨v, st₀, t, T', L, h0, X', hL, e1, e2, ⟨⟨w, h', ad', hv, hq, g1, g2, g3, g4, g5, g6, g7⟩, hz, hk⟩, st⟩ := hr T hT X
  have hv : v = w.map (ax_v ad' rc) := Outcome.returned.inj hv
  subst hv
  rw [h0] at hz hk
  obtain ⟨t2, a1, b1⟩ := kk w h' ad' T'.heap (locs ++ L) hq g1 g2 g3 g4 g5 (by rw [e1]; exact g6) g7
    ⟨Nat.le_trans hS.1 (by rw [e1]; exact hz), fun q h1 h2 => by rw [e1, hk q (Nat.lt_of_lt_of_le h1 hS.1) h2]; exact hS.2.1 q h1 h2, fun q hq => by
      rcases List.mem_append.mp hq with h | h
      · exact hS.2.2 q h
      · exact hL q h⟩ T' rfl X'
  exact ⟨t2, st t2 a1, b1⟩

/-- one step of the abstract machine is one of the machine -/
theorem ax_one {d : Nat} {I : ax_MI} {Q : ax_Q} {P : ax_P} {h0 : ax_H} {ad0 : Nat → Nat}
    (hcn : ∀ (ci : Nat) (r : vw_C), cl[ci]? = some r → r.1 = cn ci) (hF : ax_okF cl Tb cn tb) (hN : ax_okN cl Tb cn tb G) (hKo : ax_okK Tb cn tb rc G) (hC : ax_okC Tb cn nm tb mt) (hM : ax_okM cn nm mt) (hAr : ax_okA Tb cT tys) (hG : ax_okG A G rc L xs) (hgood : GoodIn Tb Tb)
    (hx : p.tables.exec = Jvm.exec) (hb : c.code = I.1) (hml : c.maxLocals = I.2.2.2.1) (hown : s.vm.findClass (cn I.2.1) = some m.cls) (hin0 : I.2.2.1 = true → meth.name = "<init>") (hts : ∀ w ∈ Tb, w.before args s = true) (hK : va_K D cl tys s) (hGs : G s) (hA : ∀ q, s.heap.size ≤ q → A q)
    (hRf : d + 1 ≤ R.frames) (hRl : 40 * (d + 1) ≤ R.locals) (hRc : I.2.2.2.2.2.1 ≤ R.cells) (hRs : I.2.2.2.2.2.2 ≤ R.slots)
    (hIx : ∀ (idx pc : Nat) (ls : Array Slot) (rest : List Value) (ch : Int32) (H : Heap) (locs : List Loc) (cells slots : Nat), 8 ≤ d + 1 → decode I.1 pc = .ok (.invokevirtual idx, 3) → (∃ np mc ms ci, tb.2.1 I.2.1 idx = some (.inr 4, np, mc, ms, ci, 1)) → (rest.map fun v => v.category).sum ≤ 8 → ls.size = I.2.2.2.1 → va_S A s.heap H locs → cells ≤ R.cells → slots ≤ R.slots → (∀ (H1 : Heap) (locs1 : List Loc), H1 = H → locs1 = locs → W p l e R s m args below meth c H1 locs1 cells slots Qs (F0 m (pc + 3) ls (.int (ax_ix ch) :: rest))) → W p l e R s m args below meth c H locs cells slots Qs (F0 m pc ls (.int ch :: .ref (rc 1) :: rest)))
    (IH : ∀ y I av h Q, mt y = some I → ax_M cl L xs tb mt d y av h Q → ax_hw h → ax_ak h → (∀ v ∈ av, ax_vw h.1 v) → ∀ ad, Met l (nm y) (Cond.code (nm y) I.1 I.2.2.2.1 I.2.2.2.2.1 :: Tb) (ax_rm d I.2.2.2.2.2.1 I.2.2.2.2.2.2) (ax_Pc cl D cT tys rc A G ad av h) (ax_Qc cl D cT rc A ad h Q) I.2.2.2.2.2.1 I.2.2.2.2.2.2 A)
    (hexit : ∀ (i : Instr) pc lsA ad h H locs k n v, decode I.1 pc = .ok (i, 1) → ((i = .ireturn ∧ ∃ x ty, v = some (.int x) ∧ I.2.2.2.2.1 = some ty ∧ narrow ty (.int x) = .int x) ∨ (i = .lreturn ∧ (∃ x, v = some (.long x)) ∧ I.2.2.2.2.1 = some .long) ∨ (i = .return_ ∧ v = none ∧ I.2.2.2.2.1 = none)) → Q v h → h0.1 ≤ h.1 → (∀ i, i < h0.1 → ad i = ad0 i) → ax_hw h → ax_ak h → (∀ x, v = some x → ax_vw h.1 x) → va_P D cl (ax_w ad rc cT h) H → va_D A (ax_w ad rc cT h) → va_S A s.heap H locs → k ≤ I.2.2.2.2.2.1 → n ≤ I.2.2.2.2.2.2 → W p l e R s m args below meth c H locs k n Qs (F0 m pc lsA (v.toList.map (ax_v ad rc))))
    (hWP : ∀ pc ls st k n h, (∀ ad lsA H locs, h0.1 ≤ h.1 → (∀ i, i < h0.1 → ad i = ad0 i) → k ≤ I.2.2.2.2.2.1 → n ≤ I.2.2.2.2.2.2 → ax_hw h → ax_ak h → (∀ v ∈ st, ax_vw h.1 v) → ax_lw h.1 ls → ax_lm ad rc lsA I.2.2.2.1 ls → va_P D cl (ax_w ad rc cT h) H → va_D A (ax_w ad rc cT h) → va_S A s.heap H locs → W p l e R s m args below meth c H locs k n Qs (F0 m pc lsA (st.map (ax_v ad rc)))) → P pc ls st k n h)
    (hPW : ∀ {pc ls st k n h}, P pc ls st k n h → ∀ ad lsA H locs, h0.1 ≤ h.1 → (∀ i, i < h0.1 → ad i = ad0 i) → k ≤ I.2.2.2.2.2.1 → n ≤ I.2.2.2.2.2.2 → ax_hw h → ax_ak h → (∀ v ∈ st, ax_vw h.1 v) → ax_lw h.1 ls → ax_lm ad rc lsA I.2.2.2.1 ls → va_P D cl (ax_w ad rc cT h) H → va_D A (ax_w ad rc cT h) → va_S A s.heap H locs → W p l e R s m args below meth c H locs k n Qs (F0 m pc lsA (st.map (ax_v ad rc)))) :
    ∀ pc ls st k n h, ax_step cl L xs tb (d + 1) I (ax_M cl L xs tb mt d) Q P P pc ls st k n h → P pc ls st k n h := by
  intro pc ls st k n h hs
  refine hWP _ _ _ _ _ _ ?_
  intro ad lsA H locs h1 h2 hk hn hw hak hst hls hlm hP hD hS
  have hsz : lsA.size = I.2.2.2.1 := hlm.1
  unfold ax_step at hs
  cases hd : decode I.1 pc with
  | error e => rw [hd] at hs; exact hs.elim
  | ok q =>
  obtain ⟨i, len⟩ := q
  rw [hd] at hs
  obtain ⟨hlen, hi⟩ := hs
  cases i with
  | iconst v =>
    obtain rfl : len = 1 := by simpa [ax_len] using hlen
    replace hi : P (pc + 1) ls (.int (Int32.ofInt v) :: st) k n h := hi
    exact lv_iconst hx hb hd rfl (hPW hi ad lsA H locs h1 h2 hk hn hw hak (List.forall_mem_cons.mpr ⟨ax_vw_int, hst⟩) hls hlm hP hD hS)
  | bipush v =>
    obtain rfl : len = 2 := by simpa [ax_len] using hlen
    replace hi : P (pc + 2) ls (.int (Int8.ofInt v).toInt32 :: st) k n h := hi
    exact lv_bipush hx hb hd rfl (hPW hi ad lsA H locs h1 h2 hk hn hw hak (List.forall_mem_cons.mpr ⟨ax_vw_int, hst⟩) hls hlm hP hD hS)
  | sipush v =>
    obtain rfl : len = 3 := by simpa [ax_len] using hlen
    replace hi : P (pc + 3) ls (.int (Int16.ofInt v).toInt32 :: st) k n h := hi
    exact lv_sipush hx hb hd rfl (hPW hi ad lsA H locs h1 h2 hk hn hw hak (List.forall_mem_cons.mpr ⟨ax_vw_int, hst⟩) hls hlm hP hD hS)
  | lconst v =>
    obtain rfl : len = 1 := by simpa [ax_len] using hlen
    replace hi : P (pc + 1) ls (.long (Int64.ofNat (v : Nat)) :: st) k n h := hi
    exact lv_lconst hx hb hd rfl (hPW hi ad lsA H locs h1 h2 hk hn hw hak (List.forall_mem_cons.mpr ⟨ax_vw_long, hst⟩) hls hlm hP hD hS)
  | aconst_null  =>
    obtain rfl : len = 1 := by simpa [ax_len] using hlen
    replace hi : P (pc + 1) ls (.null :: st) k n h := hi
    exact lv_null hx hb hd (hPW hi ad lsA H locs h1 h2 hk hn hw hak (List.forall_mem_cons.mpr ⟨ax_vw_null, hst⟩) hls hlm hP hD hS)
  | ldc idx =>
    obtain rfl : len = 2 := by simpa [ax_len] using hlen
    replace hi : ax_op (tb.2.2.1 I.2.1 idx) (fun v => ax_ki v = true ∧ P (pc + 2) ls (v :: st) k n h) := hi
    cases hq : tb.2.2.1 I.2.1 idx with
    | none => rw [hq] at hi; exact hi.elim
    | some v =>
    rw [hq] at hi
    obtain ⟨hv, hi⟩ := hi
    rcases v with x | x | x | x | _ | x | x
    · exact lv_ldc hx hb hown (hts _ ((hKo I.2.1 idx).1 x hq)) hd (hPW hi ad lsA H locs h1 h2 hk hn hw hak (List.forall_mem_cons.mpr ⟨ax_vw_int, hst⟩) hls hlm hP hD hS)
    · cases hv
    · cases hv
    · cases hv
    · cases hv
    · cases hv
    · obtain rfl : x = 1 := by
        rcases x with _ | _ | x
        · cases hv
        · rfl
        · cases hv
      obtain ⟨tx, htx⟩ := (hKo I.2.1 idx).2.2 hq
      exact va_ldcS hx hb hown (htx s hGs) hd (hPW hi ad lsA H locs h1 h2 hk hn hw hak (List.forall_mem_cons.mpr ⟨ax_vw_con, hst⟩) hls hlm hP hD hS)
  | ldc2_w idx =>
    obtain rfl : len = 3 := by simpa [ax_len] using hlen
    replace hi : ax_op (tb.2.2.1 I.2.1 idx) (fun v => ax_vl v fun x => P (pc + 3) ls (.long x :: st) k n h) := hi
    cases hq : tb.2.2.1 I.2.1 idx with
    | none => rw [hq] at hi; exact hi.elim
    | some v =>
    rw [hq] at hi
    rcases v with x | x | x | x | _ | x | x
    · exact hi.elim
    · replace hi : P (pc + 3) ls (.long x :: st) k n h := hi
      exact lv_ldc2 hx hb hown (hts _ ((hKo I.2.1 idx).2.1 x hq)) hd (hPW hi ad lsA H locs h1 h2 hk hn hw hak (List.forall_mem_cons.mpr ⟨ax_vw_long, hst⟩) hls hlm hP hD hS)
    · exact hi.elim
    · exact hi.elim
    · exact hi.elim
    · exact hi.elim
    · exact hi.elim
  | iload j =>
    obtain rfl : len = 2 := by simpa [ax_len] using hlen
    replace hi : ax_ld ls j (fun v => ax_vi v fun x => P (pc + 2) ls (.int x :: st) k n h) := hi
    replace hi := ax_ld_of hi
    obtain ⟨v, hv, hi⟩ := hi
    replace hi := ax_vi_of hi
    obtain ⟨x, rfl, hi⟩ := hi
    exact lv_iload hx hb hd (hlm.2.2.2 _ _ hv) (hPW hi ad lsA H locs h1 h2 hk hn hw hak (List.forall_mem_cons.mpr ⟨ax_vw_int, hst⟩) hls hlm hP hD hS)
  | iload_n j =>
    obtain rfl : len = 1 := by simpa [ax_len] using hlen
    replace hi : ax_ld ls j (fun v => ax_vi v fun x => P (pc + 1) ls (.int x :: st) k n h) := hi
    replace hi := ax_ld_of hi
    obtain ⟨v, hv, hi⟩ := hi
    replace hi := ax_vi_of hi
    obtain ⟨x, rfl, hi⟩ := hi
    exact lv_iload_n hx hb hd rfl (hlm.2.2.2 _ _ hv) (hPW hi ad lsA H locs h1 h2 hk hn hw hak (List.forall_mem_cons.mpr ⟨ax_vw_int, hst⟩) hls hlm hP hD hS)
  | lload j =>
    obtain rfl : len = 2 := by simpa [ax_len] using hlen
    replace hi : ax_ld ls j (fun v => ax_vl v fun x => P (pc + 2) ls (.long x :: st) k n h) := hi
    replace hi := ax_ld_of hi
    obtain ⟨v, hv, hi⟩ := hi
    replace hi := ax_vl_of hi
    obtain ⟨x, rfl, hi⟩ := hi
    exact lv_lload hx hb hd (hlm.2.2.2 _ _ hv) (hPW hi ad lsA H locs h1 h2 hk hn hw hak (List.forall_mem_cons.mpr ⟨ax_vw_long, hst⟩) hls hlm hP hD hS)
  | lload_n j =>
    obtain rfl : len = 1 := by simpa [ax_len] using hlen
    replace hi : ax_ld ls j (fun v => ax_vl v fun x => P (pc + 1) ls (.long x :: st) k n h) := hi
    replace hi := ax_ld_of hi
    obtain ⟨v, hv, hi⟩ := hi
    replace hi := ax_vl_of hi
    obtain ⟨x, rfl, hi⟩ := hi
    exact lv_lload_n hx hb hd rfl (hlm.2.2.2 _ _ hv) (hPW hi ad lsA H locs h1 h2 hk hn hw hak (List.forall_mem_cons.mpr ⟨ax_vw_long, hst⟩) hls hlm hP hD hS)
  | aload j =>
    obtain rfl : len = 2 := by simpa [ax_len] using hlen
    replace hi : ax_ld ls j (fun v => ax_isa v = true ∧ P (pc + 2) ls (v :: st) k n h) := hi
    replace hi := ax_ld_of hi
    obtain ⟨v, hv, hisa, hi⟩ := hi
    have hvl := hlm.2.2.2 _ _ hv
    have hvw := hls _ _ hv
    rcases v with x | x | x | x | _ | x | x
    · cases hisa
    · cases hisa
    · cases hisa
    · cases hisa
    · exact lv_aloadN hx hb hd hvl (hPW hi ad lsA H locs h1 h2 hk hn hw hak (List.forall_mem_cons.mpr ⟨hvw, hst⟩) hls hlm hP hD hS)
    · exact lv_aload hx hb hd hvl (hPW hi ad lsA H locs h1 h2 hk hn hw hak (List.forall_mem_cons.mpr ⟨hvw, hst⟩) hls hlm hP hD hS)
    · exact lv_aload hx hb hd hvl (hPW hi ad lsA H locs h1 h2 hk hn hw hak (List.forall_mem_cons.mpr ⟨hvw, hst⟩) hls hlm hP hD hS)
  | aload_n j =>
    obtain rfl : len = 1 := by simpa [ax_len] using hlen
    replace hi : ax_ld ls j (fun v => ax_isa v = true ∧ P (pc + 1) ls (v :: st) k n h) := hi
    replace hi := ax_ld_of hi
    obtain ⟨v, hv, hisa, hi⟩ := hi
    have hvl := hlm.2.2.2 _ _ hv
    have hvw := hls _ _ hv
    rcases v with x | x | x | x | _ | x | x
    · cases hisa
    · cases hisa
    · cases hisa
    · cases hisa
    · exact lv_aload_nN hx hb hd rfl hvl (hPW hi ad lsA H locs h1 h2 hk hn hw hak (List.forall_mem_cons.mpr ⟨hvw, hst⟩) hls hlm hP hD hS)
    · exact lv_aload_n hx hb hd rfl hvl (hPW hi ad lsA H locs h1 h2 hk hn hw hak (List.forall_mem_cons.mpr ⟨hvw, hst⟩) hls hlm hP hD hS)
    · exact lv_aload_n hx hb hd rfl hvl (hPW hi ad lsA H locs h1 h2 hk hn hw hak (List.forall_mem_cons.mpr ⟨hvw, hst⟩) hls hlm hP hD hS)
  | istore j =>
    obtain rfl : len = 2 := by simpa [ax_len] using hlen
    replace hi : ax_i st (fun x st => j < ls.length ∧ P (pc + 2) (ax_s1 ls j (.int x)) st k n h) := hi
    replace hi := ax_i_of hi
    obtain ⟨x, st, rfl, hj, hi⟩ := hi
    replace hst := (List.forall_mem_cons.mp hst).2
    exact lv_istore hx hb hd hlm.has (by rw [← hlm.2.1]; exact hj) rfl (fun ls1 hl1 => hPW hi ad ls1 H locs h1 h2 hk hn hw hak hst (hls.st1 ax_vw_int) (hlm.st1 (v := .int x) hl1) hP hD hS)
  | istore_n j =>
    obtain rfl : len = 1 := by simpa [ax_len] using hlen
    replace hi : ax_i st (fun x st => (j : Nat) < ls.length ∧ P (pc + 1) (ax_s1 ls j (.int x)) st k n h) := hi
    replace hi := ax_i_of hi
    obtain ⟨x, st, rfl, hj, hi⟩ := hi
    replace hst := (List.forall_mem_cons.mp hst).2
    exact lv_istore_n hx hb hd rfl hlm.has (by rw [← hlm.2.1]; exact hj) rfl (fun ls1 hl1 => hPW hi ad ls1 H locs h1 h2 hk hn hw hak hst (hls.st1 ax_vw_int) (hlm.st1 (v := .int x) hl1) hP hD hS)
  | lstore j =>
    obtain rfl : len = 2 := by simpa [ax_len] using hlen
    replace hi : ax_l st (fun x st => j + 1 < ls.length ∧ P (pc + 2) (ax_s2 ls j (.long x)) st k n h) := hi
    replace hi := ax_l_of hi
    obtain ⟨x, st, rfl, hj, hi⟩ := hi
    replace hst := (List.forall_mem_cons.mp hst).2
    exact lv_lstore hx hb hd hlm.has (by rw [← hlm.2.1]; exact hj) rfl (fun ls1 hl1 => hPW hi ad ls1 H locs h1 h2 hk hn hw hak hst (hls.st2 ax_vw_long) (hlm.st2 (v := .long x) hl1) hP hD hS)
  | lstore_n j =>
    obtain rfl : len = 1 := by simpa [ax_len] using hlen
    replace hi : ax_l st (fun x st => (j : Nat) + 1 < ls.length ∧ P (pc + 1) (ax_s2 ls j (.long x)) st k n h) := hi
    replace hi := ax_l_of hi
    obtain ⟨x, st, rfl, hj, hi⟩ := hi
    replace hst := (List.forall_mem_cons.mp hst).2
    exact lv_lstore_n hx hb hd rfl hlm.has (by rw [← hlm.2.1]; exact hj) rfl (fun ls1 hl1 => hPW hi ad ls1 H locs h1 h2 hk hn hw hak hst (hls.st2 ax_vw_long) (hlm.st2 (v := .long x) hl1) hP hD hS)
  | astore j =>
    obtain rfl : len = 2 := by simpa [ax_len] using hlen
    replace hi : ax_1 st (fun v st => ax_isa v = true ∧ j < ls.length ∧ P (pc + 2) (ax_s1 ls j v) st k n h) := hi
    replace hi := ax_1_of hi
    obtain ⟨v, st, rfl, hc1, hisa, hj, hi⟩ := hi
    have hvw := (List.forall_mem_cons.mp hst).1
    replace hst := (List.forall_mem_cons.mp hst).2
    rcases v with x | x | x | x | _ | x | x
    · cases hisa
    · cases hisa
    · cases hisa
    · cases hisa
    · exact lv_astoreN hx hb hd hlm.has (by rw [← hlm.2.1]; exact hj) rfl (fun ls1 hl1 => hPW hi ad ls1 H locs h1 h2 hk hn hw hak hst (hls.st1 hvw) (hlm.st1 (v := .null) hl1) hP hD hS)
    · exact lv_astore hx hb hd hlm.has (by rw [← hlm.2.1]; exact hj) rfl (fun ls1 hl1 => hPW hi ad ls1 H locs h1 h2 hk hn hw hak hst (hls.st1 hvw) (hlm.st1 (v := .ref x) hl1) hP hD hS)
    · exact lv_astore hx hb hd hlm.has (by rw [← hlm.2.1]; exact hj) rfl (fun ls1 hl1 => hPW hi ad ls1 H locs h1 h2 hk hn hw hak hst (hls.st1 hvw) (hlm.st1 (v := .retAddr x) hl1) hP hD hS)
  | astore_n j =>
    obtain rfl : len = 1 := by simpa [ax_len] using hlen
    replace hi : ax_1 st (fun v st => ax_isa v = true ∧ (j : Nat) < ls.length ∧ P (pc + 1) (ax_s1 ls j v) st k n h) := hi
    replace hi := ax_1_of hi
    obtain ⟨v, st, rfl, hc1, hisa, hj, hi⟩ := hi
    have hvw := (List.forall_mem_cons.mp hst).1
    replace hst := (List.forall_mem_cons.mp hst).2
    rcases v with x | x | x | x | _ | x | x
    · cases hisa
    · cases hisa
    · cases hisa
    · cases hisa
    · exact lv_astore_nN hx hb hd rfl hlm.has (by rw [← hlm.2.1]; exact hj) rfl (fun ls1 hl1 => hPW hi ad ls1 H locs h1 h2 hk hn hw hak hst (hls.st1 hvw) (hlm.st1 (v := .null) hl1) hP hD hS)
    · exact lv_astore_n hx hb hd rfl hlm.has (by rw [← hlm.2.1]; exact hj) rfl (fun ls1 hl1 => hPW hi ad ls1 H locs h1 h2 hk hn hw hak hst (hls.st1 hvw) (hlm.st1 (v := .ref x) hl1) hP hD hS)
    · exact lv_astore_n hx hb hd rfl hlm.has (by rw [← hlm.2.1]; exact hj) rfl (fun ls1 hl1 => hPW hi ad ls1 H locs h1 h2 hk hn hw hak hst (hls.st1 hvw) (hlm.st1 (v := .retAddr x) hl1) hP hD hS)
  | iinc j v =>
    obtain rfl : len = 3 := by simpa [ax_len] using hlen
    replace hi : ax_ld ls j (fun w => ax_vi w fun x => P (pc + 3) (ax_s1 ls j (.int (x + Int32.ofInt v))) st k n h) := hi
    replace hi := ax_ld_of hi
    obtain ⟨w, hv, hi⟩ := hi
    replace hi := ax_vi_of hi
    obtain ⟨x, rfl, hi⟩ := hi
    obtain ⟨kk, hkk⟩ := List.getElem?_of_mem (ax_as_in (ad := ad) (rc := rc) hv)
    have hj : j < I.2.2.2.1 := by rw [← hlm.2.1]; exact (List.getElem?_eq_some_iff.mp hv).1
    exact lv_iinc hx hb hd hlm.has hkk rfl hj rfl (fun ls1 hl1 => hPW hi ad ls1 H locs h1 h2 hk hn hw hak hst (hls.st1 ax_vw_int) (hlm.st1 (v := .int (x + Int32.ofInt v)) hl1) hP hD hS)
  | iadd  =>
    obtain rfl : len = 1 := by simpa [ax_len] using hlen
    replace hi : ax_i st (fun y st => ax_i st fun x st => P (pc + 1) ls (.int (x + y) :: st) k n h) := hi
    replace hi := ax_i_of hi
    obtain ⟨y, st, rfl, hi⟩ := hi
    replace hi := ax_i_of hi
    obtain ⟨x, st, rfl, hi⟩ := hi
    replace hst := (List.forall_mem_cons.mp (List.forall_mem_cons.mp hst).2).2
    exact lv_iadd hx hb hd (hPW hi ad lsA H locs h1 h2 hk hn hw hak (List.forall_mem_cons.mpr ⟨ax_vw_int, hst⟩) hls hlm hP hD hS)
  | isub  =>
    obtain rfl : len = 1 := by simpa [ax_len] using hlen
    replace hi : ax_i st (fun y st => ax_i st fun x st => P (pc + 1) ls (.int (x - y) :: st) k n h) := hi
    replace hi := ax_i_of hi
    obtain ⟨y, st, rfl, hi⟩ := hi
    replace hi := ax_i_of hi
    obtain ⟨x, st, rfl, hi⟩ := hi
    replace hst := (List.forall_mem_cons.mp (List.forall_mem_cons.mp hst).2).2
    exact lv_isub hx hb hd (hPW hi ad lsA H locs h1 h2 hk hn hw hak (List.forall_mem_cons.mpr ⟨ax_vw_int, hst⟩) hls hlm hP hD hS)
  | imul  =>
    obtain rfl : len = 1 := by simpa [ax_len] using hlen
    replace hi : ax_i st (fun y st => ax_i st fun x st => P (pc + 1) ls (.int (x * y) :: st) k n h) := hi
    replace hi := ax_i_of hi
    obtain ⟨y, st, rfl, hi⟩ := hi
    replace hi := ax_i_of hi
    obtain ⟨x, st, rfl, hi⟩ := hi
    replace hst := (List.forall_mem_cons.mp (List.forall_mem_cons.mp hst).2).2
    exact lv_imul hx hb hd (hPW hi ad lsA H locs h1 h2 hk hn hw hak (List.forall_mem_cons.mpr ⟨ax_vw_int, hst⟩) hls hlm hP hD hS)
  | iand  =>
    obtain rfl : len = 1 := by simpa [ax_len] using hlen
    replace hi : ax_i st (fun y st => ax_i st fun x st => P (pc + 1) ls (.int (x &&& y) :: st) k n h) := hi
    replace hi := ax_i_of hi
    obtain ⟨y, st, rfl, hi⟩ := hi
    replace hi := ax_i_of hi
    obtain ⟨x, st, rfl, hi⟩ := hi
    replace hst := (List.forall_mem_cons.mp (List.forall_mem_cons.mp hst).2).2
    exact lv_iand hx hb hd (hPW hi ad lsA H locs h1 h2 hk hn hw hak (List.forall_mem_cons.mpr ⟨ax_vw_int, hst⟩) hls hlm hP hD hS)
  | ixor  =>
    obtain rfl : len = 1 := by simpa [ax_len] using hlen
    replace hi : ax_i st (fun y st => ax_i st fun x st => P (pc + 1) ls (.int (x ^^^ y) :: st) k n h) := hi
    replace hi := ax_i_of hi
    obtain ⟨y, st, rfl, hi⟩ := hi
    replace hi := ax_i_of hi
    obtain ⟨x, st, rfl, hi⟩ := hi
    replace hst := (List.forall_mem_cons.mp (List.forall_mem_cons.mp hst).2).2
    exact lv_ixor hx hb hd (hPW hi ad lsA H locs h1 h2 hk hn hw hak (List.forall_mem_cons.mpr ⟨ax_vw_int, hst⟩) hls hlm hP hD hS)
  | idiv  =>
    obtain rfl : len = 1 := by simpa [ax_len] using hlen
    replace hi : ax_i st (fun y st => ax_i st fun x st => ¬ y = 0 ∧ P (pc + 1) ls (.int (x / y) :: st) k n h) := hi
    replace hi := ax_i_of hi
    obtain ⟨y, st, rfl, hi⟩ := hi
    replace hi := ax_i_of hi
    obtain ⟨x, st, rfl, hy, hi⟩ := hi
    replace hst := (List.forall_mem_cons.mp (List.forall_mem_cons.mp hst).2).2
    exact lv_idiv hx hb hd hy (hPW hi ad lsA H locs h1 h2 hk hn hw hak (List.forall_mem_cons.mpr ⟨ax_vw_int, hst⟩) hls hlm hP hD hS)
  | irem  =>
    obtain rfl : len = 1 := by simpa [ax_len] using hlen
    replace hi : ax_i st (fun y st => ax_i st fun x st => ¬ y = 0 ∧ P (pc + 1) ls (.int (x - x / y * y) :: st) k n h) := hi
    replace hi := ax_i_of hi
    obtain ⟨y, st, rfl, hi⟩ := hi
    replace hi := ax_i_of hi
    obtain ⟨x, st, rfl, hy, hi⟩ := hi
    replace hst := (List.forall_mem_cons.mp (List.forall_mem_cons.mp hst).2).2
    exact lv_irem hx hb hd hy (hPW hi ad lsA H locs h1 h2 hk hn hw hak (List.forall_mem_cons.mpr ⟨ax_vw_int, hst⟩) hls hlm hP hD hS)
  | ineg  =>
    obtain rfl : len = 1 := by simpa [ax_len] using hlen
    replace hi : ax_i st (fun x st => P (pc + 1) ls (.int (-x) :: st) k n h) := hi
    obtain ⟨x, st, rfl, hi⟩ := ax_i_of hi
    replace hst := (List.forall_mem_cons.mp hst).2
    exact lv_ineg hx hb hd (hPW hi ad lsA H locs h1 h2 hk hn hw hak (List.forall_mem_cons.mpr ⟨ax_vw_int, hst⟩) hls hlm hP hD hS)
  | i2l  =>
    obtain rfl : len = 1 := by simpa [ax_len] using hlen
    replace hi : ax_i st (fun x st => P (pc + 1) ls (.long x.toInt64 :: st) k n h) := hi
    obtain ⟨x, st, rfl, hi⟩ := ax_i_of hi
    replace hst := (List.forall_mem_cons.mp hst).2
    exact lv_i2l hx hb hd rfl (hPW hi ad lsA H locs h1 h2 hk hn hw hak (List.forall_mem_cons.mpr ⟨ax_vw_long, hst⟩) hls hlm hP hD hS)
  | l2i  =>
    obtain rfl : len = 1 := by simpa [ax_len] using hlen
    replace hi : ax_l st (fun x st => P (pc + 1) ls (.int x.toInt32 :: st) k n h) := hi
    obtain ⟨x, st, rfl, hi⟩ := ax_l_of hi
    replace hst := (List.forall_mem_cons.mp hst).2
    exact lv_l2i hx hb hd rfl (hPW hi ad lsA H locs h1 h2 hk hn hw hak (List.forall_mem_cons.mpr ⟨ax_vw_int, hst⟩) hls hlm hP hD hS)
  | i2c  =>
    obtain rfl : len = 1 := by simpa [ax_len] using hlen
    replace hi : ax_i st (fun x st => P (pc + 1) ls (.int (x.toUInt32 % 65536).toInt32 :: st) k n h) := hi
    obtain ⟨x, st, rfl, hi⟩ := ax_i_of hi
    replace hst := (List.forall_mem_cons.mp hst).2
    exact lv_i2c hx hb hd rfl (hPW hi ad lsA H locs h1 h2 hk hn hw hak (List.forall_mem_cons.mpr ⟨ax_vw_int, hst⟩) hls hlm hP hD hS)
  | lcmp  =>
    obtain rfl : len = 1 := by simpa [ax_len] using hlen
    replace hi : ax_l st (fun y st => ax_l st fun x st => P (pc + 1) ls (.int (lg_cmp x y) :: st) k n h) := hi
    replace hi := ax_l_of hi
    obtain ⟨y, st, rfl, hi⟩ := hi
    replace hi := ax_l_of hi
    obtain ⟨x, st, rfl, hi⟩ := hi
    replace hst := (List.forall_mem_cons.mp (List.forall_mem_cons.mp hst).2).2
    exact W.lcmp hx hb hd (hPW hi ad lsA H locs h1 h2 hk hn hw hak (List.forall_mem_cons.mpr ⟨ax_vw_int, hst⟩) hls hlm hP hD hS)
  | dup  =>
    obtain rfl : len = 1 := by simpa [ax_len] using hlen
    replace hi : ax_1 st (fun v st => P (pc + 1) ls (v :: v :: st) k n h) := hi
    replace hi := ax_1_of hi
    obtain ⟨v, st, rfl, hc1, hi⟩ := hi
    obtain ⟨hv, hst⟩ := List.forall_mem_cons.mp hst
    exact lv_dup hx hb hd (by rw [ax_v_cat]; exact ax_c1_cat hc1) (hPW hi ad lsA H locs h1 h2 hk hn hw hak (List.forall_mem_cons.mpr ⟨hv, List.forall_mem_cons.mpr ⟨hv, hst⟩⟩) hls hlm hP hD hS)
  | pop  =>
    obtain rfl : len = 1 := by simpa [ax_len] using hlen
    replace hi : ax_1 st (fun v st => P (pc + 1) ls st k n h) := hi
    replace hi := ax_1_of hi
    obtain ⟨v, st, rfl, hc1, hi⟩ := hi
    obtain ⟨hv, hst⟩ := List.forall_mem_cons.mp hst
    exact lv_pop hx hb hd (by rw [ax_v_cat]; exact ax_c1_cat hc1) (hPW hi ad lsA H locs h1 h2 hk hn hw hak hst hls hlm hP hD hS)
  | dup_x1  =>
    obtain rfl : len = 1 := by simpa [ax_len] using hlen
    replace hi : ax_1 st (fun v st => ax_1 st fun w st => P (pc + 1) ls (v :: w :: v :: st) k n h) := hi
    replace hi := ax_1_of hi
    obtain ⟨v, st, rfl, hc1, hi⟩ := hi
    replace hi := ax_1_of hi
    obtain ⟨w, st, rfl, hc2, hi⟩ := hi
    obtain ⟨hv, hst⟩ := List.forall_mem_cons.mp hst
    obtain ⟨hw2, hst⟩ := List.forall_mem_cons.mp hst
    exact lv_dup_x1 hx hb hd (by rw [ax_v_cat]; exact ax_c1_cat hc1) (by rw [ax_v_cat]; exact ax_c1_cat hc2) (hPW hi ad lsA H locs h1 h2 hk hn hw hak (List.forall_mem_cons.mpr ⟨hv, List.forall_mem_cons.mpr ⟨hw2, List.forall_mem_cons.mpr ⟨hv, hst⟩⟩⟩) hls hlm hP hD hS)
  | dup_x2  =>
    obtain rfl : len = 1 := by simpa [ax_len] using hlen
    replace hi : ax_1 st (fun v st => ax_1 st fun w st => ax_1 st fun u st => P (pc + 1) ls (v :: w :: u :: v :: st) k n h) := hi
    replace hi := ax_1_of hi
    obtain ⟨v, st, rfl, hc1, hi⟩ := hi
    replace hi := ax_1_of hi
    obtain ⟨w, st, rfl, hc2, hi⟩ := hi
    replace hi := ax_1_of hi
    obtain ⟨u, st, rfl, hc3, hi⟩ := hi
    obtain ⟨hv, hst⟩ := List.forall_mem_cons.mp hst
    obtain ⟨hw2, hst⟩ := List.forall_mem_cons.mp hst
    obtain ⟨hu, hst⟩ := List.forall_mem_cons.mp hst
    exact lv_dup_x2 hx hb hd (by rw [ax_v_cat]; exact ax_c1_cat hc1) (by rw [ax_v_cat]; exact ax_c1_cat hc2) (by rw [ax_v_cat]; exact ax_c1_cat hc3) (hPW hi ad lsA H locs h1 h2 hk hn hw hak (List.forall_mem_cons.mpr ⟨hv, List.forall_mem_cons.mpr ⟨hw2, List.forall_mem_cons.mpr ⟨hu, List.forall_mem_cons.mpr ⟨hv, hst⟩⟩⟩⟩) hls hlm hP hD hS)
  | dup2  =>
    obtain rfl : len = 1 := by simpa [ax_len] using hlen
    replace hi : ax_1 st (fun v st => ax_1 st fun w st => P (pc + 1) ls (v :: w :: v :: w :: st) k n h) := hi
    replace hi := ax_1_of hi
    obtain ⟨v, st, rfl, hc1, hi⟩ := hi
    replace hi := ax_1_of hi
    obtain ⟨w, st, rfl, hc2, hi⟩ := hi
    obtain ⟨hv, hst⟩ := List.forall_mem_cons.mp hst
    obtain ⟨hw2, hst⟩ := List.forall_mem_cons.mp hst
    exact lv_dup2_11 hx hb hd (by rw [ax_v_cat]; exact ax_c1_cat hc1) (by rw [ax_v_cat]; exact ax_c1_cat hc2) (hPW hi ad lsA H locs h1 h2 hk hn hw hak (List.forall_mem_cons.mpr ⟨hv, List.forall_mem_cons.mpr ⟨hw2, List.forall_mem_cons.mpr ⟨hv, List.forall_mem_cons.mpr ⟨hw2, hst⟩⟩⟩⟩) hls hlm hP hD hS)
  | goto off =>
    obtain rfl : len = 3 := by simpa [ax_len] using hlen
    replace hi : ax_t pc off (fun t => P t ls st k n h) := hi
    obtain ⟨ht, hi⟩ := hi
    exact lv_goto hx hb hd (by rw [Int.toNat_of_nonneg ht]) (hPW hi ad lsA H locs h1 h2 hk hn hw hak hst hls hlm hP hD hS)
  | if_icmp cd off =>
    obtain rfl : len = 3 := by simpa [ax_len] using hlen
    replace hi : ax_i st (fun y st => ax_i st fun x st => ax_t pc off fun t => ax_br (ax_c cd x y) (P t ls st k n h) (P (pc + 3) ls st k n h)) := hi
    replace hi := ax_i_of hi
    obtain ⟨y, st, rfl, hi⟩ := hi
    replace hi := ax_i_of hi
    obtain ⟨x, st, rfl, ht, hi⟩ := hi
    replace hst := (List.forall_mem_cons.mp (List.forall_mem_cons.mp hst).2).2
    cases cd with
    | eq => exact lv_icmp_eq hx hb hd (by rw [Int.toNat_of_nonneg ht]) (fun z => (hPW (hi.1 z) ad lsA H locs h1 h2 hk hn hw hak hst hls hlm hP hD hS)) (fun z => (hPW (hi.2 z) ad lsA H locs h1 h2 hk hn hw hak hst hls hlm hP hD hS))
    | ne => exact lv_icmp_ne hx hb hd (by rw [Int.toNat_of_nonneg ht]) (fun z => (hPW (hi.1 z) ad lsA H locs h1 h2 hk hn hw hak hst hls hlm hP hD hS)) (fun z => (hPW (hi.2 (fun q => q z)) ad lsA H locs h1 h2 hk hn hw hak hst hls hlm hP hD hS))
    | lt => exact lv_icmp_lt hx hb hd (by rw [Int.toNat_of_nonneg ht]) (fun z => (hPW (hi.1 z) ad lsA H locs h1 h2 hk hn hw hak hst hls hlm hP hD hS)) (fun z => (hPW (hi.2 z) ad lsA H locs h1 h2 hk hn hw hak hst hls hlm hP hD hS))
    | ge => exact lv_icmp_ge hx hb hd (by rw [Int.toNat_of_nonneg ht]) (fun z => (hPW (hi.1 z) ad lsA H locs h1 h2 hk hn hw hak hst hls hlm hP hD hS)) (fun z => (hPW (hi.2 z) ad lsA H locs h1 h2 hk hn hw hak hst hls hlm hP hD hS))
    | gt => exact lv_icmp_gt hx hb hd (by rw [Int.toNat_of_nonneg ht]) (fun z => (hPW (hi.1 z) ad lsA H locs h1 h2 hk hn hw hak hst hls hlm hP hD hS)) (fun z => (hPW (hi.2 z) ad lsA H locs h1 h2 hk hn hw hak hst hls hlm hP hD hS))
    | le => exact lv_icmp_le hx hb hd (by rw [Int.toNat_of_nonneg ht]) (fun z => (hPW (hi.1 z) ad lsA H locs h1 h2 hk hn hw hak hst hls hlm hP hD hS)) (fun z => (hPW (hi.2 z) ad lsA H locs h1 h2 hk hn hw hak hst hls hlm hP hD hS))
  | ifCond cd off =>
    obtain rfl : len = 3 := by simpa [ax_len] using hlen
    replace hi : ax_i st (fun x st => ax_t pc off fun t => ax_br (ax_c cd x 0) (P t ls st k n h) (P (pc + 3) ls st k n h)) := hi
    replace hi := ax_i_of hi
    obtain ⟨x, st, rfl, ht, hi⟩ := hi
    replace hst := (List.forall_mem_cons.mp hst).2
    cases cd with
    | eq => exact lv_if_eq hx hb hd (by rw [Int.toNat_of_nonneg ht]) (fun z => (hPW (hi.1 z) ad lsA H locs h1 h2 hk hn hw hak hst hls hlm hP hD hS)) (fun z => (hPW (hi.2 z) ad lsA H locs h1 h2 hk hn hw hak hst hls hlm hP hD hS))
    | ne => exact lv_if_ne hx hb hd (by rw [Int.toNat_of_nonneg ht]) (fun z => (hPW (hi.1 z) ad lsA H locs h1 h2 hk hn hw hak hst hls hlm hP hD hS)) (fun z => (hPW (hi.2 (fun q => q z)) ad lsA H locs h1 h2 hk hn hw hak hst hls hlm hP hD hS))
    | lt => exact lv_if_lt hx hb hd (by rw [Int.toNat_of_nonneg ht]) (fun z => (hPW (hi.1 z) ad lsA H locs h1 h2 hk hn hw hak hst hls hlm hP hD hS)) (fun z => (hPW (hi.2 z) ad lsA H locs h1 h2 hk hn hw hak hst hls hlm hP hD hS))
    | ge => exact lv_if_ge hx hb hd (by rw [Int.toNat_of_nonneg ht]) (fun z => (hPW (hi.1 z) ad lsA H locs h1 h2 hk hn hw hak hst hls hlm hP hD hS)) (fun z => (hPW (hi.2 z) ad lsA H locs h1 h2 hk hn hw hak hst hls hlm hP hD hS))
    | gt => exact lv_if_gt hx hb hd (by rw [Int.toNat_of_nonneg ht]) (fun z => (hPW (hi.1 z) ad lsA H locs h1 h2 hk hn hw hak hst hls hlm hP hD hS)) (fun z => (hPW (hi.2 z) ad lsA H locs h1 h2 hk hn hw hak hst hls hlm hP hD hS))
    | le => exact lv_if_le hx hb hd (by rw [Int.toNat_of_nonneg ht]) (fun z => (hPW (hi.1 z) ad lsA H locs h1 h2 hk hn hw hak hst hls hlm hP hD hS)) (fun z => (hPW (hi.2 z) ad lsA H locs h1 h2 hk hn hw hak hst hls hlm hP hD hS))
  | ifnull off =>
    obtain rfl : len = 3 := by simpa [ax_len] using hlen
    replace hi : ax_t pc off (fun t => ax_nu st (fun st => P t ls st k n h) (fun st => P (pc + 3) ls st k n h)) := hi
    obtain ⟨ht, hi⟩ := hi
    replace hi := ax_nu_of hi
    rcases hi with ⟨r, rfl, hi⟩ | ⟨x, r, rfl, hi⟩
    · replace hst := (List.forall_mem_cons.mp hst).2
      exact lv_ifnullN hx hb hd (by rw [Int.toNat_of_nonneg ht]) (hPW hi ad lsA H locs h1 h2 hk hn hw hak hst hls hlm hP hD hS)
    · replace hst := (List.forall_mem_cons.mp hst).2
      exact lv_ifnull hx hb hd (hPW hi ad lsA H locs h1 h2 hk hn hw hak hst hls hlm hP hD hS)
  | ifnonnull off =>
    obtain rfl : len = 3 := by simpa [ax_len] using hlen
    replace hi : ax_t pc off (fun t => ax_nu st (fun st => P (pc + 3) ls st k n h) (fun st => P t ls st k n h)) := hi
    obtain ⟨ht, hi⟩ := hi
    replace hi := ax_nu_of hi
    rcases hi with ⟨r, rfl, hi⟩ | ⟨x, r, rfl, hi⟩
    · replace hst := (List.forall_mem_cons.mp hst).2
      exact lv_ifnonnullN hx hb hd (hPW hi ad lsA H locs h1 h2 hk hn hw hak hst hls hlm hP hD hS)
    · replace hst := (List.forall_mem_cons.mp hst).2
      exact lv_ifnonnull hx hb hd (by rw [Int.toNat_of_nonneg ht]) (hPW hi ad lsA H locs h1 h2 hk hn hw hak hst hls hlm hP hD hS)
  | tableswitch df lo hi2 offs =>
    replace hi : ax_i st (fun x st => ax_br (x.toInt < lo ∨ hi2 < x.toInt) (ax_t pc df fun t => P t ls st k n h) (ax_op offs[(x.toInt - lo).toNat]? fun off => ax_t pc off fun t => P t ls st k n h)) := hi
    replace hi := ax_i_of hi
    obtain ⟨x, st, rfl, hi⟩ := hi
    replace hst := (List.forall_mem_cons.mp hst).2
    by_cases hb2 : x.toInt < lo ∨ hi2 < x.toInt
    · obtain ⟨ht, hi⟩ := hi.1 hb2
      exact lv_tableOut hx hb hd hb2 (by rw [Int.toNat_of_nonneg ht]) (hPW hi ad lsA H locs h1 h2 hk hn hw hak hst hls hlm hP hD hS)
    · obtain ⟨off, ho, ht, hi⟩ := ax_op_of (hi.2 hb2)
      exact lv_tableIn hx hb hd (fun q => hb2 (Or.inl q)) (fun q => hb2 (Or.inr q)) ho (by rw [Int.toNat_of_nonneg ht]) (hPW hi ad lsA H locs h1 h2 hk hn hw hak hst hls hlm hP hD hS)
  | lookupswitch df ps =>
    replace hi : ax_i st (fun x st => (ps.toList.zip (ps.toList.drop 1)).all (fun (a, next) => a.1 < next.1) = true ∧ ax_t pc (Op.lookupswitch.offset ps.toList df x.toInt) fun t => P t ls st k n h) := hi
    replace hi := ax_i_of hi
    obtain ⟨x, st, rfl, hp, ht, hi⟩ := hi
    replace hst := (List.forall_mem_cons.mp hst).2
    exact lv_lookup hx hb hd hp rfl (by rw [Int.toNat_of_nonneg ht]) (hPW hi ad lsA H locs h1 h2 hk hn hw hak hst hls hlm hP hD hS)
  | getfield idx =>
    obtain rfl : len = 3 := by simpa [ax_len] using hlen
    replace hi : ax_op (tb.1 I.2.1 idx) (fun q => ax_r st fun a st => ax_gf h a q.1 q.2.1 fun v => P (pc + 3) ls (v :: st) k n h) := hi
    replace hi := ax_op_of hi
    obtain ⟨q, hq, hi⟩ := hi
    replace hi := ax_r_of hi
    obtain ⟨a, st, rfl, hi⟩ := hi
    replace hi := ax_gf_of hi
    obtain ⟨fs, v, ho, hv, hi⟩ := hi
    replace hst := (List.forall_mem_cons.mp hst).2
    obtain ⟨C, T, N, t0, g1, g2, g3, g4, g5, g6, g7, g8, g9⟩ := hF _ _ _ hq
    exact va_get hx hb hts g3 hown hK hP a (ax_w_at hw ho) g1 q.2.1 g2 (hts _ g6) (fun _ z => z) (by rw [List.getElem?_map, hv]; rfl) hd (hPW hi ad lsA H locs h1 h2 hk hn hw hak (List.forall_mem_cons.mpr ⟨(((hw a).2 _ ho).2 v (List.mem_of_getElem? hv)), hst⟩) hls hlm hP hD hS)
  | putfield idx =>
    obtain rfl : len = 3 := by simpa [ax_len] using hlen
    replace hi : ax_op (tb.1 I.2.1 idx) (fun q => ax_1' st fun v st => ax_ft q.2.2.1 v ∧ (q.2.2.2 = true → I.2.2.1 = true ∧ q.1 = I.2.1) ∧ ax_r st fun a st => ax_pf h a q.1 q.2.1 v fun h => P (pc + 3) ls st k n h) := hi
    replace hi := ax_op_of hi
    obtain ⟨q, hq, hi⟩ := hi
    replace hi := ax_1'_of hi
    obtain ⟨v, st, rfl, hft, hfin, hi⟩ := hi
    replace hi := ax_r_of hi
    obtain ⟨a, st, rfl, hi⟩ := hi
    replace hi := ax_pf_of hi
    obtain ⟨fs, ho, hlt, hi⟩ := hi
    have hvw := (List.forall_mem_cons.mp hst).1
    replace hst := (List.forall_mem_cons.mp (List.forall_mem_cons.mp hst).2).2
    obtain ⟨C, T, N, t0, g1, g2, g3, g4, g5, g6, g7, g8, g9⟩ := hF _ _ _ hq
    have hty : parseFieldDescriptor (T q.2.1).2.2.1 = some q.2.2.1 := by rw [g4 _ g2, g8]
    have hnar : narrow q.2.2.1 (ax_v ad rc v) = ax_v ad rc v := ax_ft_n hft
    have hfit : fits q.2.2.1 (ax_v ad rc v) = true := ax_ft_f hft
    have hset : ∀ x, (fs.map (ax_v ad rc)).set q.2.1 (ax_v ad rc x) = (fs.set q.2.1 x).map (ax_v ad rc) := fun x => by rw [List.map_set]
    have hew : ax_ew h.1 (.inr (q.1, fs.set q.2.1 v)) := fun z hz => by
      rcases List.mem_or_eq_of_mem_set hz with hz | rfl
      · exact ((hw a).2 _ ho).2 z hz
      · exact hvw
    have kk : ∀ (H1 : Heap) (locs1 : List Loc), va_P D cl ((ax_w ad rc cT h).set a (ad a, .inr (q.1, (fs.map (ax_v ad rc)).set q.2.1 (ax_v ad rc v)))) H1 → va_D A ((ax_w ad rc cT h).set a (ad a, .inr (q.1, (fs.map (ax_v ad rc)).set q.2.1 (ax_v ad rc v)))) → va_S A s.heap H1 locs1 → W p l e R s m args below meth c H1 locs1 k n Qs (F0 m (pc + 3) lsA (st.map (ax_v ad rc))) := by
      intro H1 locs1 hP1 hD1 hS1
      rw [hset] at hP1 hD1
      have e1 : (ax_w ad rc cT h).set a (ad a, .inr (q.1, (fs.set q.2.1 v).map (ax_v ad rc))) = ax_w ad rc cT (ax_up h a (.inr (q.1, fs.set q.2.1 v))) := ax_w_set (e := .inr (q.1, fs.set q.2.1 v)) hw ho
      rw [e1] at hP1 hD1
      exact hPW hi ad lsA H1 locs1 h1 h2 hk hn (ax_up_hw hw ho hew) (ax_ak_up hak (fun t a2 z => by cases z)) hst hls hlm hP1 hD1 hS1
    cases hf : q.2.2.2 with
    | false => exact va_put hx hb hts g3 t0 g4 g5 hown hK hP hD hS a (ax_w_at hw ho) g1 q.2.1 g2 (hts _ g6) (fun _ z => z) (by rw [g7]; exact hf) hty hnar hfit (by rw [List.length_map]; exact hlt) hd kk
    | true => exact va_putF hx hb hts g3 t0 g4 g5 hown hK hP hD hS a (ax_w_at hw ho) g1 q.2.1 g2 (hts _ g6) (fun _ z => z) (by rw [g7]; exact hf) (hin0 (hfin hf).1) (by rw [g9 hf, (hfin hf).2]) hty hnar hfit (by rw [List.length_map]; exact hlt) hd kk
  | iaload  =>
    obtain rfl : len = 1 := by simpa [ax_len] using hlen
    replace hi : ax_i st (fun i st => ax_sc st (fun st => vp_in i L ∧ P (pc + 1) ls (.int (xs i.toNatClampNeg) :: st) k n h) fun a st => ax_ga h a .int i fun v => P (pc + 1) ls (.int v :: st) k n h) := hi
    replace hi := ax_i_of hi
    obtain ⟨i, st, rfl, hi⟩ := hi
    replace hi := ax_sc_of hi
    rcases hi with ⟨r, rfl, hin, hi⟩ | ⟨a, r, rfl, hi⟩
    · replace hst := (List.forall_mem_cons.mp (List.forall_mem_cons.mp hst).2).2
      obtain ⟨x1, x2, x3⟩ := hG.2.2 s hGs
      exact va_sld hx hb x1 x2 x3 hS hin hd (hPW hi ad lsA H locs h1 h2 hk hn hw hak (List.forall_mem_cons.mpr ⟨ax_vw_int, hst⟩) hls hlm hP hD hS)
    · replace hst := (List.forall_mem_cons.mp (List.forall_mem_cons.mp hst).2).2
      replace hi := ax_ga_of hi
      obtain ⟨z, f, ho, hin, hi⟩ := hi
      obtain ⟨t0, ht0⟩ := hAr.1 _ (hak _ _ _ ho)
      exact va_iald hx hb hK hP a t0 (ax_w_at hw ho) ht0 hin hd (hPW hi ad lsA H locs h1 h2 hk hn hw hak (List.forall_mem_cons.mpr ⟨ax_vw_int, hst⟩) hls hlm hP hD hS)
  | caload  =>
    obtain rfl : len = 1 := by simpa [ax_len] using hlen
    replace hi : ax_i st (fun i st => ax_r st fun a st => ax_ga h a .char i fun v => P (pc + 1) ls (.int v :: st) k n h) := hi
    replace hi := ax_i_of hi
    obtain ⟨i, st, rfl, hi⟩ := hi
    replace hi := ax_r_of hi
    obtain ⟨a, st, rfl, hi⟩ := hi
    replace hst := (List.forall_mem_cons.mp (List.forall_mem_cons.mp hst).2).2
    replace hi := ax_ga_of hi
    obtain ⟨z, f, ho, hin, hi⟩ := hi
    obtain ⟨t0, ht0⟩ := hAr.1 _ (hak _ _ _ ho)
    exact va_cald hx hb hK hP a t0 (ax_w_at hw ho) ht0 hin hd (hPW hi ad lsA H locs h1 h2 hk hn hw hak (List.forall_mem_cons.mpr ⟨ax_vw_int, hst⟩) hls hlm hP hD hS)
  | baload  =>
    obtain rfl : len = 1 := by simpa [ax_len] using hlen
    replace hi : ax_i st (fun i st => ax_r st fun a st => ax_ga h a .boolean i fun v => P (pc + 1) ls (.int v :: st) k n h) := hi
    replace hi := ax_i_of hi
    obtain ⟨i, st, rfl, hi⟩ := hi
    replace hi := ax_r_of hi
    obtain ⟨a, st, rfl, hi⟩ := hi
    replace hst := (List.forall_mem_cons.mp (List.forall_mem_cons.mp hst).2).2
    replace hi := ax_ga_of hi
    obtain ⟨z, f, ho, hin, hi⟩ := hi
    obtain ⟨t0, ht0⟩ := hAr.1 _ (hak _ _ _ ho)
    exact va_zald hx hb hK hP a t0 (ax_w_at hw ho) ht0 hin hd (hPW hi ad lsA H locs h1 h2 hk hn hw hak (List.forall_mem_cons.mpr ⟨ax_vw_int, hst⟩) hls hlm hP hD hS)
  | laload  =>
    obtain rfl : len = 1 := by simpa [ax_len] using hlen
    replace hi : ax_i st (fun i st => ax_r st fun a st => ax_gl h a i fun v => P (pc + 1) ls (.long v :: st) k n h) := hi
    replace hi := ax_i_of hi
    obtain ⟨i, st, rfl, hi⟩ := hi
    replace hi := ax_r_of hi
    obtain ⟨a, st, rfl, hi⟩ := hi
    replace hst := (List.forall_mem_cons.mp (List.forall_mem_cons.mp hst).2).2
    replace hi := ax_gl_of hi
    obtain ⟨z, f, ho, hin, hi⟩ := hi
    obtain ⟨t0, ht0⟩ := hAr.1 _ (hak _ _ _ ho)
    exact va_lald hx hb hK hP a t0 (ax_w_at hw ho) ht0 hin hd (hPW hi ad lsA H locs h1 h2 hk hn hw hak (List.forall_mem_cons.mpr ⟨ax_vw_long, hst⟩) hls hlm hP hD hS)
  | aaload  =>
    obtain rfl : len = 1 := by simpa [ax_len] using hlen
    replace hi : ax_i st (fun i st => ax_r st fun a st => ax_gq h a i fun v => P (pc + 1) ls (va_rf v :: st) k n h) := hi
    replace hi := ax_i_of hi
    obtain ⟨i, st, rfl, hi⟩ := hi
    replace hi := ax_r_of hi
    obtain ⟨a, st, rfl, hi⟩ := hi
    replace hst := (List.forall_mem_cons.mp (List.forall_mem_cons.mp hst).2).2
    replace hi := ax_gq_of hi
    obtain ⟨C, z, f, ho, hin, hi⟩ := hi
    obtain ⟨t0, ht0⟩ := hAr.1 _ (hak _ _ _ ho)
    refine va_aldq hx hb hK hP a t0 (ax_w_at hw ho) ht0 hin hd ?_
    have hew := ((hw a).2 _ ho).2
    have hvw : ax_vw h.1 (va_rf (f i.toNatClampNeg)) := fun j e => hew _ j (by cases hf : f i.toNatClampNeg with | none => rw [hf] at e; cases e | some z => rw [hf] at e; cases e; rfl)
    have hv : va_rf ((f i.toNatClampNeg).map ad) = ax_v ad rc (va_rf (f i.toNatClampNeg)) := by cases f i.toNatClampNeg <;> rfl
    have kk := (hPW hi ad lsA H locs h1 h2 hk hn hw hak (List.forall_mem_cons.mpr ⟨hvw, hst⟩) hls hlm hP hD hS)
    rw [List.map_cons, ← hv] at kk
    exact kk
  | iastore  =>
    obtain rfl : len = 1 := by simpa [ax_len] using hlen
    replace hi : ax_i st (fun x st => ax_i st fun i st => ax_r st fun a st => ax_pa h a .int i x fun h => P (pc + 1) ls st k n h) := hi
    replace hi := ax_i_of hi
    obtain ⟨x, st, rfl, hi⟩ := hi
    replace hi := ax_i_of hi
    obtain ⟨i, st, rfl, hi⟩ := hi
    replace hi := ax_r_of hi
    obtain ⟨a, st, rfl, hi⟩ := hi
    replace hst := (List.forall_mem_cons.mp (List.forall_mem_cons.mp hst).2).2
    replace hst := (List.forall_mem_cons.mp hst).2
    replace hi := ax_pa_of hi
    obtain ⟨z, f, ho, hin, hi⟩ := hi
    obtain ⟨t0, ht0⟩ := hAr.1 _ (hak _ _ _ ho)
    refine va_iast hx hb hK hP hD hS a t0 (ax_w_at hw ho) ht0 hin hd ?_
    intro H1 locs1 hP1 hD1 hS1
    have e1 : (ax_w ad rc cT h).set a (ad a, .inl (cT .int, z, .inl (upd f i.toNatClampNeg x))) = ax_w ad rc cT (ax_up h a (.inl (.int, z, .inl (upd f i.toNatClampNeg x)))) := ax_w_set (e := .inl (.int, z, .inl (upd f i.toNatClampNeg x))) hw ho
    rw [e1] at hP1 hD1
    exact hPW hi ad lsA H1 locs1 h1 h2 hk hn (ax_up_hw hw ho trivial) (ax_ak_up hak (fun t a2 z => by cases z; rfl)) hst hls hlm hP1 hD1 hS1
  | castore  =>
    obtain rfl : len = 1 := by simpa [ax_len] using hlen
    replace hi : ax_i st (fun x st => ax_i st fun i st => ax_r st fun a st => ax_pa h a .char i (vp_nar .char x) fun h => P (pc + 1) ls st k n h) := hi
    replace hi := ax_i_of hi
    obtain ⟨x, st, rfl, hi⟩ := hi
    replace hi := ax_i_of hi
    obtain ⟨i, st, rfl, hi⟩ := hi
    replace hi := ax_r_of hi
    obtain ⟨a, st, rfl, hi⟩ := hi
    replace hst := (List.forall_mem_cons.mp (List.forall_mem_cons.mp hst).2).2
    replace hst := (List.forall_mem_cons.mp hst).2
    replace hi := ax_pa_of hi
    obtain ⟨z, f, ho, hin, hi⟩ := hi
    obtain ⟨t0, ht0⟩ := hAr.1 _ (hak _ _ _ ho)
    refine va_cast hx hb hK hP hD hS a t0 (ax_w_at hw ho) ht0 hin hd ?_
    intro H1 locs1 hP1 hD1 hS1
    have e1 : (ax_w ad rc cT h).set a (ad a, .inl (cT .char, z, .inl (upd f i.toNatClampNeg (vp_nar .char x)))) = ax_w ad rc cT (ax_up h a (.inl (.char, z, .inl (upd f i.toNatClampNeg (vp_nar .char x))))) := ax_w_set (e := .inl (.char, z, .inl (upd f i.toNatClampNeg (vp_nar .char x)))) hw ho
    rw [e1] at hP1 hD1
    exact hPW hi ad lsA H1 locs1 h1 h2 hk hn (ax_up_hw hw ho trivial) (ax_ak_up hak (fun t a2 z => by cases z; rfl)) hst hls hlm hP1 hD1 hS1
  | bastore  =>
    obtain rfl : len = 1 := by simpa [ax_len] using hlen
    replace hi : ax_i st (fun x st => ax_i st fun i st => ax_r st fun a st => ax_pa h a .boolean i (vp_nar .boolean x) fun h => P (pc + 1) ls st k n h) := hi
    replace hi := ax_i_of hi
    obtain ⟨x, st, rfl, hi⟩ := hi
    replace hi := ax_i_of hi
    obtain ⟨i, st, rfl, hi⟩ := hi
    replace hi := ax_r_of hi
    obtain ⟨a, st, rfl, hi⟩ := hi
    replace hst := (List.forall_mem_cons.mp (List.forall_mem_cons.mp hst).2).2
    replace hst := (List.forall_mem_cons.mp hst).2
    replace hi := ax_pa_of hi
    obtain ⟨z, f, ho, hin, hi⟩ := hi
    obtain ⟨t0, ht0⟩ := hAr.1 _ (hak _ _ _ ho)
    refine va_zast hx hb hK hP hD hS a t0 (ax_w_at hw ho) ht0 hin hd ?_
    intro H1 locs1 hP1 hD1 hS1
    have e1 : (ax_w ad rc cT h).set a (ad a, .inl (cT .boolean, z, .inl (upd f i.toNatClampNeg (vp_nar .boolean x)))) = ax_w ad rc cT (ax_up h a (.inl (.boolean, z, .inl (upd f i.toNatClampNeg (vp_nar .boolean x))))) := ax_w_set (e := .inl (.boolean, z, .inl (upd f i.toNatClampNeg (vp_nar .boolean x)))) hw ho
    rw [e1] at hP1 hD1
    exact hPW hi ad lsA H1 locs1 h1 h2 hk hn (ax_up_hw hw ho trivial) (ax_ak_up hak (fun t a2 z => by cases z; rfl)) hst hls hlm hP1 hD1 hS1
  | lastore  =>
    obtain rfl : len = 1 := by simpa [ax_len] using hlen
    replace hi : ax_l st (fun x st => ax_i st fun i st => ax_r st fun a st => ax_pl h a i x fun h => P (pc + 1) ls st k n h) := hi
    replace hi := ax_l_of hi
    obtain ⟨x, st, rfl, hi⟩ := hi
    replace hi := ax_i_of hi
    obtain ⟨i, st, rfl, hi⟩ := hi
    replace hi := ax_r_of hi
    obtain ⟨a, st, rfl, hi⟩ := hi
    replace hst := (List.forall_mem_cons.mp (List.forall_mem_cons.mp hst).2).2
    replace hst := (List.forall_mem_cons.mp hst).2
    replace hi := ax_pl_of hi
    obtain ⟨z, f, ho, hin, hi⟩ := hi
    obtain ⟨t0, ht0⟩ := hAr.1 _ (hak _ _ _ ho)
    refine va_last hx hb hK hP hD hS a t0 (ax_w_at hw ho) ht0 hin hd ?_
    intro H1 locs1 hP1 hD1 hS1
    have e1 : (ax_w ad rc cT h).set a (ad a, .inl (cT .long, z, .inr (.inl (vp_updL f i.toNatClampNeg x)))) = ax_w ad rc cT (ax_up h a (.inl (.long, z, .inr (.inl (vp_updL f i.toNatClampNeg x))))) := ax_w_set (e := .inl (.long, z, .inr (.inl (vp_updL f i.toNatClampNeg x)))) hw ho
    rw [e1] at hP1 hD1
    exact hPW hi ad lsA H1 locs1 h1 h2 hk hn (ax_up_hw hw ho trivial) (ax_ak_up hak (fun t a2 z => by cases z; rfl)) hst hls hlm hP1 hD1 hS1
  | aastore  =>
    obtain rfl : len = 1 := by simpa [ax_len] using hlen
    replace hi : ax_r st (fun v st => ax_i st fun i st => ax_r st fun a st => ax_pq cl h a i v fun h => P (pc + 1) ls st k n h) := hi
    replace hi := ax_r_of hi
    obtain ⟨v, st, rfl, hi⟩ := hi
    replace hi := ax_i_of hi
    obtain ⟨i, st, rfl, hi⟩ := hi
    replace hi := ax_r_of hi
    obtain ⟨a, st, rfl, hi⟩ := hi
    replace hst := (List.forall_mem_cons.mp (List.forall_mem_cons.mp hst).2).2
    replace hst := (List.forall_mem_cons.mp hst).2
    replace hi := ax_pq_of hi
    obtain ⟨q, z, f, ci, vs, ho, hv, hcl, hin, hi⟩ := hi
    obtain ⟨t0, ht0⟩ := hAr.1 _ (hak _ _ _ ho)
    refine va_astq (r := q) hx hb hK hP hD hS a t0 v ci (ax_w_at hw ho) ht0 (ax_w_at hw hv) hcl hin hd ?_
    intro H1 locs1 hP1 hD1 hS1
    have hf : va_up (fun j => (f j).map ad) i.toNatClampNeg (some (ad v)) = fun j => (va_up f i.toNatClampNeg (some v) j).map ad := by
      funext j
      unfold va_up
      split <;> rfl
    rw [hf] at hP1 hD1
    have e1 : (ax_w ad rc cT h).set a (ad a, .inl (cT (.object q.1), z, .inr (.inr (.inr (.inr (fun j => (va_up f i.toNatClampNeg (some v) j).map ad)))))) = ax_w ad rc cT (ax_up h a (.inl (.object q.1, z, .inr (.inr (.inr (.inr (va_up f i.toNatClampNeg (some v)))))))) := ax_w_set (e := .inl (.object q.1, z, .inr (.inr (.inr (.inr (va_up f i.toNatClampNeg (some v))))))) hw ho
    rw [e1] at hP1 hD1
    have hew : ax_ew h.1 (.inl (.object q.1, z, .inr (.inr (.inr (.inr (va_up f i.toNatClampNeg (some v))))))) := by
      intro k2 j hj
      unfold va_up at hj
      split at hj
      · cases hj
        exact ((hw v).2 _ hv).1
      · exact ((hw a).2 _ ho).2 k2 j hj
    exact hPW hi ad lsA H1 locs1 h1 h2 hk hn (ax_up_hw hw ho hew) (ax_ak_up hak (fun t a2 z => by cases z; exact hak _ _ _ ho)) hst hls hlm hP1 hD1 hS1
  | arraylength  =>
    obtain rfl : len = 1 := by simpa [ax_len] using hlen
    replace hi : ax_sc st (fun st => P (pc + 1) ls (.int (Int32.ofNat L) :: st) k n h) (fun a st => ax_al h a fun z => P (pc + 1) ls (.int (Int32.ofNat z) :: st) k n h) := hi
    replace hi := ax_sc_of hi
    rcases hi with ⟨r, rfl, hi⟩ | ⟨a, r, rfl, hi⟩
    · replace hst := (List.forall_mem_cons.mp hst).2
      obtain ⟨x1, x2, x3⟩ := hG.2.2 s hGs
      exact va_slen hx hb x1 x2 x3 hS hd (hPW hi ad lsA H locs h1 h2 hk hn hw hak (List.forall_mem_cons.mpr ⟨ax_vw_int, hst⟩) hls hlm hP hD hS)
    · replace hst := (List.forall_mem_cons.mp hst).2
      replace hi := ax_al_of hi
      obtain ⟨t, z, f, ho, hi⟩ := hi
      obtain ⟨t0, ht0⟩ := hAr.1 _ (hak _ _ _ ho)
      obtain ⟨g, hg⟩ := ax_e_arr ad rc cT t z f
      have hat := ax_w_at (ad := ad) (rc := rc) (cT := cT) hw ho
      rw [hg] at hat
      exact va_alen hx hb hK hP a t0 hat ht0 rfl hd (hPW hi ad lsA H locs h1 h2 hk hn hw hak (List.forall_mem_cons.mpr ⟨ax_vw_int, hst⟩) hls hlm hP hD hS)
  | newarray ty =>
    obtain rfl : len = 2 := by simpa [ax_len] using hlen
    replace hi : ax_i st (fun x st => ¬ x < 0 ∧ x.toNatClampNeg ≤ 1000 ∧ k + 1 ≤ I.2.2.2.2.2.1 ∧ n + x.toNatClampNeg ≤ I.2.2.2.2.2.2 ∧ ax_op (ax_zero (newarray.typeOf ty) x.toNatClampNeg) fun a => P (pc + 2) ls (.ref h.1 :: st) (k + 1) (n + x.toNatClampNeg) (ax_nw h (.inl (newarray.typeOf ty, a)))) := hi
    replace hi := ax_i_of hi
    obtain ⟨x, st, rfl, hx0, hx1, hk1, hn1, hi⟩ := hi
    replace hst := (List.forall_mem_cons.mp hst).2
    replace hi := ax_op_of hi
    obtain ⟨a0, ha0, hi⟩ := hi
    obtain ⟨z1, z2, z3, z4, z5⟩ := ax_zero_of ha0
    obtain ⟨t0, ht0⟩ := hAr.1 _ z1
    refine va_newa hx hb (hts _ (hAr.2 _ z2)) rfl hK hP hD hS hA (a0 := a0) z3 hx0 rfl (Nat.le_trans (Nat.mul_le_mul hx1 z4) (by decide)) (Nat.le_trans hk1 hRc) (Nat.le_trans hn1 hRs) hd ?_
    intro q cA H1 hK1 hP1 hD1 hS1
    have ecA : cA = cT (newarray.typeOf ty) := ax_RA (hK1.2 tys.length (cA, newarray.typeOf ty) (by simp)).2 (hK.2 t0 _ ht0).2
    subst ecA
    have e0 : ∀ ad2, (.inl (cT (newarray.typeOf ty), a0) : va_E) = ax_e ad2 rc cT (.inl (newarray.typeOf ty, a0)) := z5 rc cT
    rw [e0 (fun i => if i = h.1 then q else ad i), ax_w_nw hw] at hP1 hD1
    have hst2 : (Value.ref q :: st.map (ax_v ad rc)) = (Value.ref h.1 :: st).map (ax_v (fun i => if i = h.1 then q else ad i) rc) := by
      rw [List.map_cons, ax_vs_ag (ad := ad) (n := h.1) (fun j hj => if_neg (by omega)) hst]
      simp [ax_v]
    have kk := hPW hi (fun i => if i = h.1 then q else ad i) lsA H1 locs (Nat.le_succ_of_le h1) (fun i hi => by rw [← h2 i hi]; exact if_neg (by omega)) hk1 hn1 (ax_nw_hw hw (ax_zero_ew ha0)) (ax_ak_nw hak (fun t a2 z => by cases z; exact z1)) (List.forall_mem_cons.mpr ⟨ax_vw_ref (Nat.lt_succ_self _), fun v hv => (hst v hv).le (Nat.le_succ _)⟩) (hls.le (Nat.le_succ _)) (hlm.ag hls (fun j hj => if_neg (by omega))) hP1 hD1 hS1
    rw [← hst2] at kk
    exact kk
  | anewarray idx =>
    obtain rfl : len = 3 := by simpa [ax_len] using hlen
    replace hi : ax_i st (fun x st => ¬ x < 0 ∧ x.toNatClampNeg ≤ 1000 ∧ k + 1 ≤ I.2.2.2.2.2.1 ∧ n + x.toNatClampNeg ≤ I.2.2.2.2.2.2 ∧ ax_op (tb.2.2.2 I.2.1 idx) fun q => ax_kt (.object q.2.2) = true ∧ P (pc + 3) ls (.ref h.1 :: st) (k + 1) (n + x.toNatClampNeg) (ax_nw h (.inl (.object q.2.2, x.toNatClampNeg, .inr (.inr (.inr (.inr (fun _ => none)))))))) := hi
    replace hi := ax_i_of hi
    obtain ⟨x, st, rfl, hx0, hx1, hk1, hn1, hi⟩ := hi
    replace hst := (List.forall_mem_cons.mp hst).2
    replace hi := ax_op_of hi
    obtain ⟨⟨ci, fs, C⟩, hq0, g2, hi⟩ := hi
    have g2 : ax_kt (.object C) = true := g2
    obtain ⟨T, N, ty0, -, -, -, -, -, -, g1, -, -⟩ := hN.1 _ _ _ _ _ hq0
    have g3 : ∀ s, G s → va_AO C s := by
      have : C = "NoteSheet$Cell" := by simpa [ax_kt] using g2
      rw [this]
      exact hN.2
    obtain ⟨t0, ht0⟩ := hAr.1 _ g2
    refine va_newq hx hb hown (hts _ g1) (g3 s hGs) hK hP hD hS hA hx0 rfl (Nat.le_trans (Nat.mul_le_mul hx1 (Nat.le_refl 4)) (by decide)) (Nat.le_trans hk1 hRc) (Nat.le_trans hn1 hRs) hd ?_
    intro q cA H1 hK1 hP1 hD1 hS1
    have ecA : cA = cT (.object C) := ax_RA (hK1.2 tys.length (cA, .object C) (by simp)).2 (hK.2 t0 _ ht0).2
    subst ecA
    have e0 : ∀ ad2, (.inl (cT (.object C), x.toNatClampNeg, .inr (.inr (.inr (.inr (fun _ => none))))) : va_E) = ax_e ad2 rc cT (.inl (.object C, x.toNatClampNeg, .inr (.inr (.inr (.inr (fun _ => none)))))) := fun _ => rfl
    rw [e0 (fun i => if i = h.1 then q else ad i), ax_w_nw hw] at hP1 hD1
    have hst2 : (Value.ref q :: st.map (ax_v ad rc)) = (Value.ref h.1 :: st).map (ax_v (fun i => if i = h.1 then q else ad i) rc) := by
      rw [List.map_cons, ax_vs_ag (ad := ad) (n := h.1) (fun j hj => if_neg (by omega)) hst]
      simp [ax_v]
    have kk := hPW hi (fun i => if i = h.1 then q else ad i) lsA H1 locs (Nat.le_succ_of_le h1) (fun i hi => by rw [← h2 i hi]; exact if_neg (by omega)) hk1 hn1 (ax_nw_hw hw (fun k2 j z => by cases z)) (ax_ak_nw hak (fun t a2 z => by cases z; exact g2)) (List.forall_mem_cons.mpr ⟨ax_vw_ref (Nat.lt_succ_self _), fun v hv => (hst v hv).le (Nat.le_succ _)⟩) (hls.le (Nat.le_succ _)) (hlm.ag hls (fun j hj => if_neg (by omega))) hP1 hD1 hS1
    rw [← hst2] at kk
    exact kk
  | new idx =>
    obtain rfl : len = 3 := by simpa [ax_len] using hlen
    replace hi : ax_op (tb.2.2.2 I.2.1 idx) (fun q => k + 1 ≤ I.2.2.2.2.2.1 ∧ n + q.2.1.length ≤ I.2.2.2.2.2.2 ∧ P (pc + 3) ls (.ref h.1 :: st) (k + 1) (n + q.2.1.length) (ax_nw h (.inr (q.1, q.2.1)))) := hi
    replace hi := ax_op_of hi
    obtain ⟨⟨ci, fs, C⟩, hq0, hk1, hn1, hi⟩ := hi
    obtain ⟨T, N, ty0, g1, g2, g3, g4, g5, g6, g7, g8, g9⟩ := hN.1 _ _ _ _ _ hq0
    have g4 : fs.length = N := g4
    subst g4
    refine va_new hx hb hts g2 ty0 g3 hown (hts _ g7) (hts _ g8) (hts _ g9) hK hP hD hS hA g1 g5 (Nat.le_trans hk1 hRc) (Nat.le_trans hn1 hRs) hd ?_
    intro q H1 hP1 hD1 hS1
    have e0 : ∀ ad2, (.inr (ci, fs) : va_E) = ax_e ad2 rc cT (.inr (ci, fs)) := fun ad2 => by
      show _ = (.inr (ci, fs.map (ax_v ad2 rc)) : va_E)
      rw [ax_nr_vs g6]
    rw [e0 (fun i => if i = h.1 then q else ad i), ax_w_nw hw] at hP1 hD1
    have hst2 : (Value.ref q :: st.map (ax_v ad rc)) = (Value.ref h.1 :: st).map (ax_v (fun i => if i = h.1 then q else ad i) rc) := by
      rw [List.map_cons, ax_vs_ag (ad := ad) (n := h.1) (fun j hj => if_neg (by omega)) hst]
      simp [ax_v]
    have kk := hPW hi (fun i => if i = h.1 then q else ad i) lsA H1 locs (Nat.le_succ_of_le h1) (fun i hi => by rw [← h2 i hi]; exact if_neg (by omega)) hk1 hn1 (ax_nw_hw hw (fun v hv => ax_nr_w (g6 v hv))) (ax_ak_nw hak (fun t a2 z => by cases z)) (List.forall_mem_cons.mpr ⟨ax_vw_ref (Nat.lt_succ_self _), fun v hv => (hst v hv).le (Nat.le_succ _)⟩) (hls.le (Nat.le_succ _)) (hlm.ag hls (fun j hj => if_neg (by omega))) hP1 hD1 hS1
    rw [← hst2] at kk
    exact kk
  | invokevirtual idx =>
    obtain rfl : len = 3 := by simpa [ax_len] using hlen
    replace hi : ax_op (tb.2.1 I.2.1 idx) (fun q => ax_sm q.1 (fun y => q.2.2.2.2.2 = 1 ∧ ax_tk q.2.1 st fun as st => ax_r st fun a st => ax_io h a q.2.2.2.2.1 ∧ ax_w8 st ∧ k + q.2.2.1 ≤ I.2.2.2.2.2.1 ∧ n + q.2.2.2.1 ≤ I.2.2.2.2.2.2 ∧ ax_M cl L xs tb mt d y (.ref a :: as) h fun v h => P (pc + 3) ls (v.toList ++ st) (k + q.2.2.1) (n + q.2.2.2.1) h) fun y => q.2.2.2.2.2 = 1 ∧ ax_prim (d + 1) h y st fun st h => P (pc + 3) ls st k n h) := hi
    replace hi := ax_op_of hi
    obtain ⟨⟨tg, np, mc', ms', ci, kd⟩, hq0, hi⟩ := hi
    rcases tg with y | y
    · obtain ⟨hkd, hi⟩ := hi
      have hkd : kd = 1 := hkd
      subst hkd
      obtain ⟨hnp, hi⟩ := hi
      obtain ⟨J, c1, c2, c3, c4, c5, c6, c7, c8, c9, c10, c11, c12⟩ := hC.1 _ _ _ _ _ _ _ _ hq0
      subst c2; subst c3; subst c4
      have hnp : np ≤ st.length := hnp
      have hsp : st = (st.take np).reverse.reverse ++ st.drop np := by rw [List.reverse_reverse, List.take_append_drop]
      have hal : ((st.take np).reverse).length = np := by rw [List.length_reverse, List.length_take]; omega
      dsimp only at hi
      generalize (st.take np).reverse = as at hi hsp hal
      generalize st.drop np = st1 at hi hsp
      subst hsp
      replace hi := ax_r_of hi
      obtain ⟨a, st, rfl, hio, hw8, hk1, hn1, hi⟩ := hi
      have has : ∀ v ∈ as, ax_vw h.1 v := fun v hv => hst v (List.mem_append_left _ (List.mem_reverse.mpr hv))
      replace hst := fun v hv => hst v (List.mem_append_right _ hv)
      have ha := (List.forall_mem_cons.mp hst).1
      replace hst := (List.forall_mem_cons.mp hst).2
      obtain ⟨fs, ho⟩ := ax_io_of hio
      have hgd : GoodIn Tb (Cond.code (nm y) J.1 J.2.2.2.1 J.2.2.2.2.1 :: Tb) := fun w hw2 => by
        rcases List.mem_cons.mp hw2 with rfl | hw2
        · exact hgood _ c6
        · exact hgood w hw2
      have hR2 : (ax_rm d J.2.2.2.2.2.1 J.2.2.2.2.2.2).frames + 1 ≤ R.frames ∧ 8 + (J.2.2.2.1 + 11) + (ax_rm d J.2.2.2.2.2.1 J.2.2.2.2.2.2).locals ≤ R.locals := ⟨hRf, by have := (hM y J c1).2.2.2; show 8 + (J.2.2.2.1 + 11) + 40 * d ≤ R.locals; omega⟩
      have hcb := callB_of (R := R) np hts hgd rfl rfl rfl (hts _ c7) (hts _ c8) c9 hR2
      obtain ⟨c11a, c11b⟩ := c11 rfl
      obtain ⟨cq, hcq⟩ : ∃ r : vw_C, cl[J.2.1]? = some r := by
        obtain ⟨r, hr, -⟩ := hP a _ (ax_w_at hw ho)
        exact ⟨r, hr⟩
      have hrec : ∃ cellB : Cell, H[ad a]? = some cellB ∧ cellB.vm.isStatics = false ∧ s.vm.findClass (cn J.2.1) = some cellB.cls := by
        obtain ⟨cell, r1, r2, r3⟩ := va_recv hK hP hcq (ax_w_at hw ho)
        exact ⟨cell, r1, r2, by rw [← hcn _ _ hcq]; exact r3⟩
      have hmet := IH y J (.ref a :: as) h _ c1 hi hw hak (List.forall_mem_cons.mpr ⟨ha, has⟩) ad
      have hrun := va_runV (R := R) (H := H) (locs := locs) (cells := k) (slots := n) (meth := meth) (below := below) (e := e) (C := cn J.2.1) (b := ad a) (As := as.map (ax_v ad rc)) (rest := st.map (ax_v ad rc)) (g := F0 m pc lsA ((as.reverse ++ .ref a :: st).map (ax_v ad rc))) ⟨hx, hb, hml, hown, hts⟩ hmet ⟨hcb, hts _ c11a, hts _ c11b⟩ ⟨ax_Pc.blind hG, hrec, fun U hU hW => ⟨rfl, fun q hq2 => hA q (Nat.le_trans hS.1 (by rw [← hU]; exact hq2)), by rw [hU]; exact hP, va_K.moved hW.alike hK, hD, hG.1 s U hGs hW (by rw [hU]; exact hS.1) (fun q h3 h4 => by rw [hU]; exact hS.2.1 q h3 h4)⟩⟩ rfl (by rw [List.length_map]; exact hal) hsz (by simp [ax_v]) (lv_room (by rw [ax_v_sum]; exact hw8)) hd ⟨Nat.le_trans hk1 hRc, Nat.le_trans hn1 hRs⟩
      refine ax_ret hrun hS ?_
      intro v h' ad' H1 locs1 hq b1 b2 b3 b4 b5 hP1 hD1 hS1
      have hst2 : (v.map (ax_v ad' rc)).toList ++ st.map (ax_v ad rc) = (v.toList ++ st).map (ax_v ad' rc) := by
        rw [List.map_append, ax_vs_ag b2 hst]
        cases v <;> rfl
      rw [hst2]
      exact hPW hq ad' lsA H1 locs1 (Nat.le_trans h1 b1) (fun i hi => by rw [b2 i (Nat.lt_of_lt_of_le hi h1), h2 i hi]) hk1 hn1 b3 b4 (fun z hz => by
        rcases List.mem_append.mp hz with hz | hz
        · cases v with
          | none => cases hz
          | some v => rw [List.mem_singleton.mp hz]; exact b5 v rfl
        · exact (hst z hz).le b1) (hls.le b1) (hlm.ag hls b2) hP1 hD1 hS1
    · obtain ⟨hkd, hi⟩ := hi
      have hkd : kd = 1 := hkd
      subst hkd
      obtain ⟨c1, c2, c3, c4⟩ := hC.2 _ _ _ _ _ _ _ _ hq0
      obtain rfl : y = 4 := c3 rfl
      replace hi : ax_i st (fun ch st => match st with
        | .retAddr 1 :: st => 8 ≤ d + 1 ∧ ax_w8 st ∧ P (pc + 3) ls (.int (ax_ix ch) :: st) k n h
        | _ => False) := hi
      replace hi := ax_i_of hi
      obtain ⟨ch, st, rfl, hi⟩ := hi
      split at hi
      · rename_i st
        obtain ⟨h8, hw8, hi⟩ := hi
        replace hst := (List.forall_mem_cons.mp (List.forall_mem_cons.mp hst).2).2
        exact hIx idx pc lsA (st.map (ax_v ad rc)) ch H locs k n h8 hd ⟨np, mc', ms', ci, hq0⟩ (by rw [ax_v_sum]; exact hw8) hsz hS (Nat.le_trans hk hRc) (Nat.le_trans hn hRs) (fun H1 locs1 e1 e2 => by rw [e1, e2]; exact (hPW hi ad lsA H locs h1 h2 hk hn hw hak (List.forall_mem_cons.mpr ⟨ax_vw_int, hst⟩) hls hlm hP hD hS))
      · exact hi.elim
  | invokespecial idx =>
    obtain rfl : len = 3 := by simpa [ax_len] using hlen
    replace hi : ax_op (tb.2.1 I.2.1 idx) (fun q => ax_sm q.1 (fun y => q.2.2.2.2.2 = 2 ∧ ax_tk q.2.1 st fun as st => ax_r st fun a st => ax_w8 st ∧ k + q.2.2.1 ≤ I.2.2.2.2.2.1 ∧ n + q.2.2.2.1 ≤ I.2.2.2.2.2.2 ∧ ax_M cl L xs tb mt d y (.ref a :: as) h fun v h => P (pc + 3) ls (v.toList ++ st) (k + q.2.2.1) (n + q.2.2.2.1) h) fun y => q.2.2.2.2.2 = 2 ∧ ax_prim (d + 1) h y st fun st h => P (pc + 3) ls st k n h) := hi
    replace hi := ax_op_of hi
    obtain ⟨⟨tg, np, mc', ms', ci, kd⟩, hq0, hi⟩ := hi
    rcases tg with y | y
    · obtain ⟨hkd, hi⟩ := hi
      have hkd : kd = 2 := hkd
      subst hkd
      obtain ⟨hnp, hi⟩ := hi
      obtain ⟨J, c1, c2, c3, c4, c5, c6, c7, c8, c9, c10, c11, c12⟩ := hC.1 _ _ _ _ _ _ _ _ hq0
      subst c2; subst c3; subst c4
      have hnp : np ≤ st.length := hnp
      have hsp : st = (st.take np).reverse.reverse ++ st.drop np := by rw [List.reverse_reverse, List.take_append_drop]
      have hal : ((st.take np).reverse).length = np := by rw [List.length_reverse, List.length_take]; omega
      dsimp only at hi
      generalize (st.take np).reverse = as at hi hsp hal
      generalize st.drop np = st1 at hi hsp
      subst hsp
      replace hi := ax_r_of hi
      obtain ⟨a, st, rfl, hw8, hk1, hn1, hi⟩ := hi
      have has : ∀ v ∈ as, ax_vw h.1 v := fun v hv => hst v (List.mem_append_left _ (List.mem_reverse.mpr hv))
      replace hst := fun v hv => hst v (List.mem_append_right _ hv)
      have ha := (List.forall_mem_cons.mp hst).1
      replace hst := (List.forall_mem_cons.mp hst).2
      have hgd : GoodIn Tb (Cond.code (nm y) J.1 J.2.2.2.1 J.2.2.2.2.1 :: Tb) := fun w hw2 => by
        rcases List.mem_cons.mp hw2 with rfl | hw2
        · exact hgood _ c6
        · exact hgood w hw2
      have hR2 : (ax_rm d J.2.2.2.2.2.1 J.2.2.2.2.2.2).frames + 1 ≤ R.frames ∧ 8 + (J.2.2.2.1 + 11) + (ax_rm d J.2.2.2.2.2.1 J.2.2.2.2.2.2).locals ≤ R.locals := ⟨hRf, by have := (hM y J c1).2.2.2; show 8 + (J.2.2.2.1 + 11) + 40 * d ≤ R.locals; omega⟩
      have hcb := callB_of (R := R) np hts hgd rfl rfl rfl (hts _ c7) (hts _ c8) c9 hR2
      obtain ⟨c12a, c12b, c12c⟩ := c12 rfl
      have hmet := IH y J (.ref a :: as) h _ c1 hi hw hak (List.forall_mem_cons.mpr ⟨ha, has⟩) ad
      rw [c12b] at hmet hcb
      have hrun := va_runI (R := R) (H := H) (locs := locs) (cells := k) (slots := n) (meth := meth) (below := below) (e := e) (b := ad a) (As := as.map (ax_v ad rc)) (rest := st.map (ax_v ad rc)) (g := F0 m pc lsA ((as.reverse ++ .ref a :: st).map (ax_v ad rc))) ⟨hx, hb, hml, hown, hts⟩ hmet ⟨hcb, c12a, hts _ c12c⟩ ⟨ax_Pc.blind hG, fun U hU hW => ⟨rfl, fun q hq2 => hA q (Nat.le_trans hS.1 (by rw [← hU]; exact hq2)), by rw [hU]; exact hP, va_K.moved hW.alike hK, hD, hG.1 s U hGs hW (by rw [hU]; exact hS.1) (fun q h3 h4 => by rw [hU]; exact hS.2.1 q h3 h4)⟩⟩ rfl (by rw [List.length_map]; exact hal) hsz (by simp [ax_v]) (lv_room (by rw [ax_v_sum]; exact hw8)) hd ⟨Nat.le_trans hk1 hRc, Nat.le_trans hn1 hRs⟩
      refine ax_ret hrun hS ?_
      intro v h' ad' H1 locs1 hq b1 b2 b3 b4 b5 hP1 hD1 hS1
      have hst2 : (v.map (ax_v ad' rc)).toList ++ st.map (ax_v ad rc) = (v.toList ++ st).map (ax_v ad' rc) := by
        rw [List.map_append, ax_vs_ag b2 hst]
        cases v <;> rfl
      rw [hst2]
      exact hPW hq ad' lsA H1 locs1 (Nat.le_trans h1 b1) (fun i hi => by rw [b2 i (Nat.lt_of_lt_of_le hi h1), h2 i hi]) hk1 hn1 b3 b4 (fun z hz => by
        rcases List.mem_append.mp hz with hz | hz
        · cases v with
          | none => cases hz
          | some v => rw [List.mem_singleton.mp hz]; exact b5 v rfl
        · exact (hst z hz).le b1) (hls.le b1) (hlm.ag hls b2) hP1 hD1 hS1
    · obtain ⟨hkd, hi⟩ := hi
      have hkd : kd = 2 := hkd
      subst hkd
      obtain ⟨c1, c2, c3, c4⟩ := hC.2 _ _ _ _ _ _ _ _ hq0
      obtain rfl : y = 0 := c4 rfl
      obtain ⟨w1, w2, w3⟩ := c1
      replace hi : ax_r st (fun _ st => ax_w8 st ∧ P (pc + 3) ls st k n h) := hi
      replace hi := ax_r_of hi
      obtain ⟨a, st, rfl, hw8, hi⟩ := hi
      replace hst := (List.forall_mem_cons.mp hst).2
      exact W.objInit hx hb hown (hts _ w1) (hts _ w2) (hts _ w3) rfl (by rw [hml]; exact hsz) rfl hd (by omega) (by show 2 * 0 + _ + 12 ≤ _; rw [ax_v_sum]; have : (st.map fun v => v.category).sum ≤ 8 := hw8; omega) (hPW hi ad lsA H locs h1 h2 hk hn hw hak hst hls hlm hP hD hS)
  | invokestatic idx =>
    obtain rfl : len = 3 := by simpa [ax_len] using hlen
    replace hi : ax_op (tb.2.1 I.2.1 idx) (fun q => ax_sm q.1 (fun y => q.2.2.2.2.2 = 0 ∧ ax_tk q.2.1 st fun as st => ax_w8 st ∧ k + q.2.2.1 ≤ I.2.2.2.2.2.1 ∧ n + q.2.2.2.1 ≤ I.2.2.2.2.2.2 ∧ ax_M cl L xs tb mt d y as h fun v h => P (pc + 3) ls (v.toList ++ st) (k + q.2.2.1) (n + q.2.2.2.1) h) fun y => q.2.2.2.2.2 = 0 ∧ ax_prim (d + 1) h y st fun st h => P (pc + 3) ls st k n h) := hi
    replace hi := ax_op_of hi
    obtain ⟨⟨tg, np, mc', ms', ci, kd⟩, hq0, hi⟩ := hi
    rcases tg with y | y
    · obtain ⟨hkd, hi⟩ := hi
      have hkd : kd = 0 := hkd
      subst hkd
      obtain ⟨hnp, hi⟩ := hi
      obtain ⟨J, c1, c2, c3, c4, c5, c6, c7, c8, c9, c10, c11, c12⟩ := hC.1 _ _ _ _ _ _ _ _ hq0
      subst c2; subst c3; subst c4
      have hnp : np ≤ st.length := hnp
      have hsp : st = (st.take np).reverse.reverse ++ st.drop np := by rw [List.reverse_reverse, List.take_append_drop]
      have hal : ((st.take np).reverse).length = np := by rw [List.length_reverse, List.length_take]; omega
      dsimp only at hi
      generalize (st.take np).reverse = as at hi hsp hal
      generalize st.drop np = st1 at hi hsp
      subst hsp
      have hst0 := hst
      obtain ⟨hw8, hk1, hn1, hi⟩ := hi
      have has : ∀ v ∈ as, ax_vw h.1 v := fun v hv => hst v (List.mem_append_left _ (List.mem_reverse.mpr hv))
      replace hst := fun v hv => hst0 v (List.mem_append_right _ hv)
      have hgd : GoodIn Tb (Cond.code (nm y) J.1 J.2.2.2.1 J.2.2.2.2.1 :: Tb) := fun w hw2 => by
        rcases List.mem_cons.mp hw2 with rfl | hw2
        · exact hgood _ c6
        · exact hgood w hw2
      have hR2 : (ax_rm d J.2.2.2.2.2.1 J.2.2.2.2.2.2).frames + 1 ≤ R.frames ∧ 8 + (J.2.2.2.1 + 11) + (ax_rm d J.2.2.2.2.2.1 J.2.2.2.2.2.2).locals ≤ R.locals := ⟨hRf, by have := (hM y J c1).2.2.2; show 8 + (J.2.2.2.1 + 11) + 40 * d ≤ R.locals; omega⟩
      have hcb := callB_of (R := R) np hts hgd rfl rfl rfl (hts _ c7) (hts _ c8) c9 hR2
      have hmet := IH y J as h _ c1 hi hw hak has ad
      have hrun := va_runS (R := R) (H := H) (locs := locs) (cells := k) (slots := n) (meth := meth) (below := below) (e := e) (As := as.map (ax_v ad rc)) (rest := st1.map (ax_v ad rc)) (g := F0 m pc lsA ((as.reverse ++ st1).map (ax_v ad rc))) ⟨hx, hb, hml, hown, hts⟩ hmet ⟨hcb, hts _ (c10 rfl)⟩ ⟨ax_Pc.blind hG, fun U hU hW => ⟨rfl, fun q hq2 => hA q (Nat.le_trans hS.1 (by rw [← hU]; exact hq2)), by rw [hU]; exact hP, va_K.moved hW.alike hK, hD, hG.1 s U hGs hW (by rw [hU]; exact hS.1) (fun q h3 h4 => by rw [hU]; exact hS.2.1 q h3 h4)⟩⟩ rfl (by rw [List.length_map]; exact hal) hsz (by simp) (lv_room (by rw [ax_v_sum]; exact hw8)) hd ⟨Nat.le_trans hk1 hRc, Nat.le_trans hn1 hRs⟩
      refine ax_ret hrun hS ?_
      intro v h' ad' H1 locs1 hq b1 b2 b3 b4 b5 hP1 hD1 hS1
      have hst2 : (v.map (ax_v ad' rc)).toList ++ st1.map (ax_v ad rc) = (v.toList ++ st1).map (ax_v ad' rc) := by
        rw [List.map_append, ax_vs_ag b2 hst]
        cases v <;> rfl
      rw [hst2]
      exact hPW hq ad' lsA H1 locs1 (Nat.le_trans h1 b1) (fun i hi => by rw [b2 i (Nat.lt_of_lt_of_le hi h1), h2 i hi]) hk1 hn1 b3 b4 (fun z hz => by
        rcases List.mem_append.mp hz with hz | hz
        · cases v with
          | none => cases hz
          | some v => rw [List.mem_singleton.mp hz]; exact b5 v rfl
        · exact (hst z hz).le b1) (hls.le b1) (hlm.ag hls b2) hP1 hD1 hS1
    · obtain ⟨hkd, hi⟩ := hi
      have hkd : kd = 0 := hkd
      subst hkd
      obtain ⟨c1, c2, c3, c4⟩ := hC.2 _ _ _ _ _ _ _ _ hq0
      rcases c2 rfl with rfl | rfl | rfl
      · obtain ⟨w1, w2, w3, w4⟩ := c1
        replace hi : ax_i st (fun b st => ax_i st fun a st => ax_w8 st ∧ P (pc + 3) ls (.int (if a < b then b else a) :: st) k n h) := hi
        replace hi := ax_i_of hi
        obtain ⟨y2, st, rfl, hi⟩ := hi
        replace hi := ax_i_of hi
        obtain ⟨x2, st, rfl, hw8, hi⟩ := hi
        replace hst := (List.forall_mem_cons.mp (List.forall_mem_cons.mp hst).2).2
        exact va_mmax hx hb (by rw [hml]; exact hsz.symm) hown (hts _ w1) (hts _ w2) (hts _ w3) (hts _ w4) (by omega) (by rw [ax_v_sum]; have : (st.map fun v => v.category).sum ≤ 8 := hw8; omega) (Nat.le_trans hk hRc) (Nat.le_trans hn hRs) hd (hPW hi ad lsA H locs h1 h2 hk hn hw hak (List.forall_mem_cons.mpr ⟨ax_vw_int, hst⟩) hls hlm hP hD hS)
      · obtain ⟨w1, w2, w3, w4⟩ := c1
        replace hi : ax_i st (fun b st => ax_i st fun a st => ax_w8 st ∧ P (pc + 3) ls (.int (if b < a then b else a) :: st) k n h) := hi
        replace hi := ax_i_of hi
        obtain ⟨y2, st, rfl, hi⟩ := hi
        replace hi := ax_i_of hi
        obtain ⟨x2, st, rfl, hw8, hi⟩ := hi
        replace hst := (List.forall_mem_cons.mp (List.forall_mem_cons.mp hst).2).2
        exact va_mmin hx hb (by rw [hml]; exact hsz.symm) hown (hts _ w1) (hts _ w2) (hts _ w3) (hts _ w4) (by omega) (by rw [ax_v_sum]; have : (st.map fun v => v.category).sum ≤ 8 := hw8; omega) (Nat.le_trans hk hRc) (Nat.le_trans hn hRs) hd (hPW hi ad lsA H locs h1 h2 hk hn hw hak (List.forall_mem_cons.mpr ⟨ax_vw_int, hst⟩) hls hlm hP hD hS)
      · obtain ⟨w1, w2, w3, w4⟩ := c1
        replace hi : ax_cp h st (fun st h => P (pc + 3) ls st k n h) := hi
        replace hi := ax_cp_of hi
        obtain ⟨n2, dp, a, sp, b, r, t1, n0, f, n1, g, rfl, ho0, ho1, p2, p3, p4, p5, p6, p7, p8, p9, hi⟩ := hi
        replace hst := (List.forall_mem_cons.mp (List.forall_mem_cons.mp (List.forall_mem_cons.mp (List.forall_mem_cons.mp (List.forall_mem_cons.mp hst).2).2).2).2).2
        obtain ⟨t0, ht0⟩ := hAr.1 _ (hak _ _ _ ho0)
        refine va_copyi hx hb (by rw [hml]; exact hsz.symm) hown (hts _ w1) (hts _ w2) (hts _ w3) (hts _ w4) hK hP hD hS b a t0 t0 (ax_w_at hw ho0) (ax_w_at hw ho1) ht0 ht0 p2 p3 p4 p5 p6 p7 p8 (by omega) (by rw [ax_v_sum]; have : (r.map fun v => v.category).sum ≤ 8 := p9; have e7 : nativeFrameWords "java/lang/System" "arraycopy" 5 = 7 := (by decide +kernel); rw [e7]; omega) hd ?_
        intro H1 locs1 hP1 hD1 hS1
        have e1 : (ax_w ad rc cT h).set a (ad a, .inl (cT t1, n1, .inl (va_cpy f g sp.toNatClampNeg dp.toNatClampNeg n2.toNatClampNeg))) = ax_w ad rc cT (ax_up h a (.inl (t1, n1, .inl (va_cpy f g sp.toNatClampNeg dp.toNatClampNeg n2.toNatClampNeg)))) := ax_w_set (e := .inl (t1, n1, .inl (va_cpy f g sp.toNatClampNeg dp.toNatClampNeg n2.toNatClampNeg))) hw ho1
        rw [e1] at hP1 hD1
        exact hPW hi ad lsA H1 locs1 h1 h2 hk hn (ax_up_hw hw ho1 trivial) (ax_ak_up hak (fun t a2 z => by cases z; exact hak _ _ _ ho0)) hst hls hlm hP1 hD1 hS1
  | ireturn  =>
    obtain rfl : len = 1 := by simpa [ax_len] using hlen
    replace hi : ax_i st (fun v r => r = [] ∧ ax_op I.2.2.2.2.1 fun ty => narrow ty (.int v) = .int v ∧ k ≤ I.2.2.2.2.2.1 ∧ n ≤ I.2.2.2.2.2.2 ∧ Q (some (.int v)) h) := hi
    replace hi := ax_i_of hi
    obtain ⟨v, st, rfl, rfl, hi⟩ := hi
    replace hi := ax_op_of hi
    obtain ⟨ty, hty, hnar, -, -, hq⟩ := hi
    exact hexit .ireturn pc lsA ad h H locs k n (some (.int v)) hd (Or.inl ⟨rfl, v, ty, rfl, hty, hnar⟩) hq h1 h2 hw hak (fun x hx2 => by cases hx2; exact ax_vw_int) hP hD hS hk hn
  | lreturn  =>
    obtain rfl : len = 1 := by simpa [ax_len] using hlen
    replace hi : ax_l st (fun v r => r = [] ∧ I.2.2.2.2.1 = some .long ∧ k ≤ I.2.2.2.2.2.1 ∧ n ≤ I.2.2.2.2.2.2 ∧ Q (some (.long v)) h) := hi
    replace hi := ax_l_of hi
    obtain ⟨v, st, rfl, rfl, hty, -, -, hq⟩ := hi
    exact hexit .lreturn pc lsA ad h H locs k n (some (.long v)) hd (Or.inr (Or.inl ⟨rfl, ⟨v, rfl⟩, hty⟩)) hq h1 h2 hw hak (fun x hx2 => by cases hx2; exact ax_vw_long) hP hD hS hk hn
  | return_  =>
    obtain rfl : len = 1 := by simpa [ax_len] using hlen
    replace hi : st = [] ∧ I.2.2.2.2.1 = none ∧ k ≤ I.2.2.2.2.2.1 ∧ n ≤ I.2.2.2.2.2.2 ∧ Q none h := hi
    obtain ⟨rfl, hty, -, -, hq⟩ := hi
    exact hexit .return_ pc lsA ad h H locs k n none hd (Or.inr (Or.inr ⟨rfl, rfl, hty⟩)) hq h1 h2 hw hak (fun x hx2 => by cases hx2) hP hD hS hk hn
  | _ => exact hi.elim
end AXS
end
section
/-- a contract out of a walk, for a method that no row of the natives stands for -/
theorem ax_ofW {l : Launch} {y : MethodName} {ws ws' : List Cond} {rm : Room} {Pc : Array Value → State → Prop} {Qc : Array Value → State → Outcome → State → Prop} {mc ms : Nat} {free : Addr → Prop} {cc : ByteArray} {maxL : Nat} {ret : Option FieldType}
    (hy : plainFor y = true) (hw : ws = Cond.code y cc maxL ret :: ws')
    (body : ∀ p e s m args below meth c s₁, BodyLoose p l y (headSpec ws rm) cc maxL ret e s m args below meth c s₁ → c.maxLocals = maxL → Pc args s →
      W p l e (headSpec ws rm).room s m args below meth c s.heap [] 0 0 (MQ below Qc args s mc ms free) (entryFrame m args maxL)) : Met l y ws rm Pc Qc mc ms free := by
  refine MetFree.of_bodySF (code := cc) (maxLocals := maxL) (ret := ret) hy ?_ ?_
  · intro args s m h hn
    obtain ⟨meth, c, h1, h2, h3, h4, h5, h6, -, -⟩ := Cond.code_spec hn (atoms_spec (ws := ws) h _ (by rw [hw]; exact List.mem_cons_self))
    exact ⟨meth, c, h1, h2, h3, h4, h5, h6⟩
  · intro p e s m args below meth c s₁ B hml hP _
    have hh0 : s₁.heap = s.heap := by rw [B.state]; rfl
    obtain ⟨t, a1, o, b1, b2, b3⟩ := body p e s m args below meth c s₁ B hml hP s₁ hh0 (Stand.of_body B)
    exact ⟨t, o, a1, b1, b2, ⟨b3.1, b3.2⟩⟩
section AXT
variable {l : Launch} {cl : List vw_C} {D : va_G} {cT : FieldType → ClassId} {tys : List (ClassId × FieldType)} {rc : Nat → Nat} {A : Nat → Prop} {G : State → Prop} {L : Nat} {xs : Nat → Int32} {tb : ax_Tb} {Tb : List Cond} {cn : Nat → String} {nm : Nat → MethodName} {mt : Nat → Option ax_MI}
/-- the JDK's indexOf in the constant text, wherever it is called -/
def ax_IxOK (l : Launch) (rc : Nat → Nat) (A : Nat → Prop) (G : State → Prop) (tb : ax_Tb) (Tb : List Cond) (cn : Nat → String) : Prop := ∀ (p : Program) (e : Env) (R : Room) (s : State) (m : MethodId) (args : Array Value) (below : List Frame) (meth : Method) (c : Code) (Qs : State → Prop) (I : ax_MI) (d : Nat), p.tables.exec = Jvm.exec → c.code = I.1 → c.maxLocals = I.2.2.2.1 → s.vm.findClass (cn I.2.1) = some m.cls → (∀ w ∈ Tb, w.before args s = true) → G s → (∀ q, s.heap.size ≤ q → A q) → d + 1 ≤ R.frames → 40 * (d + 1) ≤ R.locals →
  ∀ (idx pc : Nat) (ls : Array Slot) (rest : List Value) (ch : Int32) (H : Heap) (locs : List Loc) (cells slots : Nat), 8 ≤ d + 1 → decode I.1 pc = .ok (.invokevirtual idx, 3) → (∃ np mc ms ci, tb.2.1 I.2.1 idx = some (.inr 4, np, mc, ms, ci, 1)) → (rest.map fun v => v.category).sum ≤ 8 → ls.size = I.2.2.2.1 → va_S A s.heap H locs → cells ≤ R.cells → slots ≤ R.slots → (∀ (H1 : Heap) (locs1 : List Loc), H1 = H → locs1 = locs → W p l e R s m args below meth c H1 locs1 cells slots Qs (F0 m (pc + 3) ls (.int (ax_ix ch) :: rest))) → W p l e R s m args below meth c H locs cells slots Qs (F0 m pc ls (.int ch :: .ref (rc 1) :: rest))
/-- what the abstract machine says of a call, the machine does -/
theorem ax_met (hcn : ∀ (ci : Nat) (r : vw_C), cl[ci]? = some r → r.1 = cn ci) (hF : ax_okF cl Tb cn tb) (hN : ax_okN cl Tb cn tb G) (hKo : ax_okK Tb cn tb rc G) (hC : ax_okC Tb cn nm tb mt) (hM : ax_okM cn nm mt) (hAr : ax_okA Tb cT tys) (hG : ax_okG A G rc L xs) (hgood : GoodIn Tb Tb) (hIx : ax_IxOK l rc A G tb Tb cn) :
    ∀ (d y : Nat) (I : ax_MI) (av : List Value) (h : ax_H) (Q : ax_Q), mt y = some I → ax_M cl L xs tb mt d y av h Q → ax_hw h → ax_ak h → (∀ v ∈ av, ax_vw h.1 v) → ∀ ad, Met l (nm y) (Cond.code (nm y) I.1 I.2.2.2.1 I.2.2.2.2.1 :: Tb) (ax_rm d I.2.2.2.2.2.1 I.2.2.2.2.2.2) (ax_Pc cl D cT tys rc A G ad av h) (ax_Qc cl D cT rc A ad h Q) I.2.2.2.2.2.1 I.2.2.2.2.2.2 A := by
  intro d
  induction d with
  | zero => intro y I av h Q _ hm; exact hm.elim
  | succ d ih =>
    intro y I av h Q hy hm hw hak hav ad
    obtain ⟨I', hI', hlen, hwp⟩ := ax_op_of hm
    obtain rfl : I' = I := Option.some.inj (hI'.symm.trans hy)
    refine ax_ofW (cc := I'.1) (maxL := I'.2.2.2.1) (ret := I'.2.2.2.2.1) (hM y I' hy).1 rfl ?_
    intro p e s m args below meth c s₁ B hml hv
    obtain ⟨rfl, hA, hP, hK, hD, hGs⟩ := hv
    have hx := B.exec
    have hb := B.bytes
    have hr := B.returns
    have hts0 := atoms_spec (ws := Cond.code (nm y) I'.1 I'.2.2.2.1 I'.2.2.2.2.1 :: Tb) B.pre
    have hts := fun w hw2 => hts0 w (List.mem_cons_of_mem _ hw2)
    have hown : s.vm.findClass (cn I'.2.1) = some m.cls := by
      rw [← (hM y I' hy).2.1]
      exact findClass_of_methodNamed B.named
    have hlocks := B.notSynchronized
    have hin0 : I'.2.2.1 = true → meth.name = "<init>" := fun z => (name_of_methodNamed B.named B.method).1.trans ((hM y I' hy).2.2.1 z)
    rw [lg_entry_eq]
    have key := hwp (fun pc ls st k n h' => ∀ ad' lsA H locs, h.1 ≤ h'.1 → (∀ i, i < h.1 → ad' i = ad i) → k ≤ I'.2.2.2.2.2.1 → n ≤ I'.2.2.2.2.2.2 → ax_hw h' → ax_ak h' → (∀ v ∈ st, ax_vw h'.1 v) → ax_lw h'.1 ls → ax_lm ad' rc lsA I'.2.2.2.1 ls → va_P D cl (ax_w ad' rc cT h') H → va_D A (ax_w ad' rc cT h') → va_S A s.heap H locs → W p l e (headSpec (Cond.code (nm y) I'.1 I'.2.2.2.1 I'.2.2.2.2.1 :: Tb) (ax_rm (d + 1) I'.2.2.2.2.2.1 I'.2.2.2.2.2.2)).room s m (av.map (ax_v ad rc)).toArray below meth c H locs k n (MQ below (ax_Qc cl D cT rc A ad h Q) (av.map (ax_v ad rc)).toArray s I'.2.2.2.2.2.1 I'.2.2.2.2.2.2 A) (F0 m pc lsA (st.map (ax_v ad' rc))))
      (ax_one (d := d) (I := I') (Q := Q) (h0 := h) (ad0 := ad) (D := D) (cT := cT) (tys := tys) (rc := rc) (A := A) (G := G) (Tb := Tb) (cn := cn) (nm := nm) hcn hF hN hKo hC hM hAr hG hgood hx hb hml hown hin0 hts hK hGs hA (Nat.le_refl _) (Nat.le_refl _) (Nat.le_refl _) (Nat.le_refl _) (hIx p e _ s m _ below meth c _ I' d hx hb hml hown hts hGs hA (Nat.le_refl _) (Nat.le_refl _)) ih ?_ (fun _ _ _ _ _ _ z => z) (fun z => z))
    · exact key ad _ s.heap [] (Nat.le_refl _) (fun _ _ => rfl) (Nat.zero_le _) (Nat.zero_le _) hw hak (fun v hv => by cases hv) (ax_en_lw hav) (ax_en_lm ad rc hlen) hP hD va_S.rf
    · intro i pc lsA ad' h' H locs k n v hd hi hq b1 b2 b3 b4 b5 hP1 hD1 hS1 hk hn
      have fin : ∀ t : State, t.heap = H → ax_Qc cl D cT rc A ad h Q (av.map (ax_v ad rc)).toArray s (.returned (v.map (ax_v ad' rc))) t := fun t ht => ⟨⟨v, h', ad', rfl, hq, b1, b2, b3, b4, b5, by rw [ht]; exact hP1, hD1⟩, hS1.F ht⟩
      refine W.widen hk hn ?_
      rcases hi with ⟨rfl, x, ty, rfl, hty, hnar⟩ | ⟨rfl, ⟨x, rfl⟩, hty⟩ | ⟨rfl, rfl, hty⟩
      · exact W.zret hx hb (hr.trans hty) hnar (fun t ht _ => fin t ht) hS1.2.2 hd
      · exact W.lret hx hb (hr.trans hty) (fun t ht _ => fin t ht) hS1.2.2 hd
      · exact W.vret hx hb (hr.trans hty) (fun t ht _ => fin t ht) hS1.2.2 hd
end AXT
end
section
/-! names: printed by wip/gen/names.py out of the listing -/
def ns_T0 : u_T := fun k => match k with
  | 0 => ("NoteSheet", "cells", "[LNoteSheet$Cell;", true)
  | 1 => ("NoteSheet", "lastChanges", "[I", true)
  | 2 => ("NoteSheet", "latestTally", "[I", true)
  | 3 => ("NoteSheet", "pad", "LNoteSheet$Formula;", true)
  | 4 => ("NoteSheet", "parser", "LNoteSheet$Parser;", true)
  | 5 => ("NoteSheet", "kept", "I", true)
  | 6 => ("NoteSheet", "now", "I", false)
  | _ => ("NoteSheet", "uses", "I", false)
def ns_t0 : Nat → FieldType := fun k => match k with
  | 0 => .array (.object "NoteSheet$Cell")
  | 1 => .array .int
  | 2 => .array .int
  | 3 => .object "NoteSheet$Formula"
  | 4 => .object "NoteSheet$Parser"
  | 5 => .int
  | 6 => .int
  | _ => .int
theorem ns_n0 : ∀ a, a < 8 → ∀ b, b < 8 → a ≠ b → (ns_T0 a).2.1 ≠ (ns_T0 b).2.1 := by decide +kernel
theorem ns_t0_ok : ∀ k, k < 8 → parseFieldDescriptor (ns_T0 k).2.2.1 = some (ns_t0 k) := by decide +kernel
def ns_T1 : u_T := fun k => match k with
  | 0 => ("NoteSheet$Cell", "formula", "LNoteSheet$Formula;", true)
  | 1 => ("NoteSheet$Cell", "note", "LNoteSheet$Note;", true)
  | 2 => ("NoteSheet$Cell", "tally", "[I", true)
  | 3 => ("NoteSheet$Cell", "stack", "[I", true)
  | 4 => ("NoteSheet$Cell", "hasFormula", "Z", false)
  | 5 => ("NoteSheet$Cell", "formulaChanged", "I", false)
  | 6 => ("NoteSheet$Cell", "number", "I", false)
  | 7 => ("NoteSheet$Cell", "durability", "I", false)
  | 8 => ("NoteSheet$Cell", "inputSince", "I", false)
  | 9 => ("NoteSheet$Cell", "atWork", "Z", false)
  | _ => ("NoteSheet$Cell", "lastUse", "I", false)
def ns_t1 : Nat → FieldType := fun k => match k with
  | 0 => .object "NoteSheet$Formula"
  | 1 => .object "NoteSheet$Note"
  | 2 => .array .int
  | 3 => .array .int
  | 4 => .boolean
  | 5 => .int
  | 6 => .int
  | 7 => .int
  | 8 => .int
  | 9 => .boolean
  | _ => .int
theorem ns_n1 : ∀ a, a < 11 → ∀ b, b < 11 → a ≠ b → (ns_T1 a).2.1 ≠ (ns_T1 b).2.1 := by decide +kernel
theorem ns_t1_ok : ∀ k, k < 11 → parseFieldDescriptor (ns_T1 k).2.2.1 = some (ns_t1 k) := by decide +kernel
def ns_T2 : u_T := fun k => match k with
  | 0 => ("NoteSheet$Formula", "text", "[C", true)
  | 1 => ("NoteSheet$Formula", "steps", "[I", true)
  | 2 => ("NoteSheet$Formula", "length", "I", false)
  | _ => ("NoteSheet$Formula", "stepCount", "I", false)
def ns_t2 : Nat → FieldType := fun k => match k with
  | 0 => .array .char
  | 1 => .array .int
  | 2 => .int
  | _ => .int
theorem ns_n2 : ∀ a, a < 4 → ∀ b, b < 4 → a ≠ b → (ns_T2 a).2.1 ≠ (ns_T2 b).2.1 := by decide +kernel
theorem ns_t2_ok : ∀ k, k < 4 → parseFieldDescriptor (ns_T2 k).2.2.1 = some (ns_t2 k) := by decide +kernel
def ns_T3 : u_T := fun k => match k with
  | 0 => ("NoteSheet$Note", "reads", "[I", true)
  | 1 => ("NoteSheet$Note", "readCount", "I", false)
  | 2 => ("NoteSheet$Note", "exists", "Z", false)
  | 3 => ("NoteSheet$Note", "hasValue", "Z", false)
  | 4 => ("NoteSheet$Note", "value", "J", false)
  | 5 => ("NoteSheet$Note", "verified", "I", false)
  | 6 => ("NoteSheet$Note", "since", "I", false)
  | _ => ("NoteSheet$Note", "durability", "I", false)
def ns_t3 : Nat → FieldType := fun k => match k with
  | 0 => .array .int
  | 1 => .int
  | 2 => .boolean
  | 3 => .boolean
  | 4 => .long
  | 5 => .int
  | 6 => .int
  | _ => .int
theorem ns_n3 : ∀ a, a < 8 → ∀ b, b < 8 → a ≠ b → (ns_T3 a).2.1 ≠ (ns_T3 b).2.1 := by decide +kernel
theorem ns_t3_ok : ∀ k, k < 8 → parseFieldDescriptor (ns_T3 k).2.2.1 = some (ns_t3 k) := by decide +kernel
def ns_T4 : u_T := fun k => match k with
  | 0 => ("NoteSheet$Parser", "formula", "LNoteSheet$Formula;", true)
  | _ => ("NoteSheet$Parser", "at", "I", false)
def ns_t4 : Nat → FieldType := fun k => match k with
  | 0 => .object "NoteSheet$Formula"
  | _ => .int
theorem ns_n4 : ∀ a, a < 2 → ∀ b, b < 2 → a ≠ b → (ns_T4 a).2.1 ≠ (ns_T4 b).2.1 := by decide +kernel
theorem ns_t4_ok : ∀ k, k < 2 → parseFieldDescriptor (ns_T4 k).2.2.1 = some (ns_t4 k) := by decide +kernel
def ns_T5 : u_T := fun k => match k with
  | 0 => ("NoteSheetModel", "most", "I", true)
  | 1 => ("NoteSheetModel", "pad", "[I", true)
  | 2 => ("NoteSheetModel", "length", "I", false)
  | 3 => ("NoteSheetModel", "revision", "I", false)
  | 4 => ("NoteSheetModel", "changes", "[I", true)
  | 5 => ("NoteSheetModel", "formula", "[Z", true)
  | 6 => ("NoteSheetModel", "text", "[I", true)
  | 7 => ("NoteSheetModel", "size", "[I", true)
  | 8 => ("NoteSheetModel", "steps", "[I", true)
  | 9 => ("NoteSheetModel", "step", "[I", true)
  | 10 => ("NoteSheetModel", "with", "[I", true)
  | 11 => ("NoteSheetModel", "altered", "[I", true)
  | 12 => ("NoteSheetModel", "number", "[I", true)
  | 13 => ("NoteSheetModel", "durable", "[I", true)
  | 14 => ("NoteSheetModel", "born", "[I", true)
  | 15 => ("NoteSheetModel", "noted", "[Z", true)
  | 16 => ("NoteSheetModel", "valued", "[Z", true)
  | 17 => ("NoteSheetModel", "value", "[J", true)
  | 18 => ("NoteSheetModel", "verified", "[I", true)
  | 19 => ("NoteSheetModel", "since", "[I", true)
  | 20 => ("NoteSheetModel", "noteDurable", "[I", true)
  | 21 => ("NoteSheetModel", "reads", "[I", true)
  | 22 => ("NoteSheetModel", "readCell", "[I", true)
  | 23 => ("NoteSheetModel", "used", "[I", true)
  | 24 => ("NoteSheetModel", "clock", "I", false)
  | 25 => ("NoteSheetModel", "often", "[I", true)
  | 26 => ("NoteSheetModel", "lately", "[I", true)
  | 27 => ("NoteSheetModel", "opened", "I", false)
  | 28 => ("NoteSheetModel", "open", "[I", true)
  | 29 => ("NoteSheetModel", "mode", "[I", true)
  | 30 => ("NoteSheetModel", "at", "[I", true)
  | 31 => ("NoteSheetModel", "depth", "[I", true)
  | 32 => ("NoteSheetModel", "stack", "[J", true)
  | 33 => ("NoteSheetModel", "found", "[I", true)
  | 34 => ("NoteSheetModel", "foundCell", "[I", true)
  | 35 => ("NoteSheetModel", "atWork", "[Z", true)
  | 36 => ("NoteSheetModel", "ring", "[Z", true)
  | 37 => ("NoteSheetModel", "signs", "I", false)
  | 38 => ("NoteSheetModel", "sign", "[I", true)
  | 39 => ("NoteSheetModel", "mend", "[I", true)
  | 40 => ("NoteSheetModel", "made", "I", false)
  | 41 => ("NoteSheetModel", "newStep", "[I", true)
  | _ => ("NoteSheetModel", "newWith", "[I", true)
def ns_t5 : Nat → FieldType := fun k => match k with
  | 0 => .int
  | 1 => .array .int
  | 2 => .int
  | 3 => .int
  | 4 => .array .int
  | 5 => .array .boolean
  | 6 => .array .int
  | 7 => .array .int
  | 8 => .array .int
  | 9 => .array .int
  | 10 => .array .int
  | 11 => .array .int
  | 12 => .array .int
  | 13 => .array .int
  | 14 => .array .int
  | 15 => .array .boolean
  | 16 => .array .boolean
  | 17 => .array .long
  | 18 => .array .int
  | 19 => .array .int
  | 20 => .array .int
  | 21 => .array .int
  | 22 => .array .int
  | 23 => .array .int
  | 24 => .int
  | 25 => .array .int
  | 26 => .array .int
  | 27 => .int
  | 28 => .array .int
  | 29 => .array .int
  | 30 => .array .int
  | 31 => .array .int
  | 32 => .array .long
  | 33 => .array .int
  | 34 => .array .int
  | 35 => .array .boolean
  | 36 => .array .boolean
  | 37 => .int
  | 38 => .array .int
  | 39 => .array .int
  | 40 => .int
  | 41 => .array .int
  | _ => .array .int
theorem ns_n5 : ∀ a, a < 43 → ∀ b, b < 43 → a ≠ b → (ns_T5 a).2.1 ≠ (ns_T5 b).2.1 := by decide +kernel
theorem ns_t5_ok : ∀ k, k < 43 → parseFieldDescriptor (ns_T5 k).2.2.1 = some (ns_t5 k) := by decide +kernel
def ns_cn : Nat → String
  | 0 => "NoteSheet"
  | 1 => "NoteSheet$Cell"
  | 2 => "NoteSheet$Formula"
  | 3 => "NoteSheet$Note"
  | 4 => "NoteSheet$Parser"
  | 5 => "NoteSheetModel"
  | 6 => "NoteSheetLaw"
  | _ => "java/lang/Math"
def ns_cl : List vw_C := [("NoteSheet", ns_T0, 8), ("NoteSheet$Cell", ns_T1, 11), ("NoteSheet$Formula", ns_T2, 4), ("NoteSheet$Note", ns_T3, 8), ("NoteSheet$Parser", ns_T4, 2), ("NoteSheetModel", ns_T5, 43)]
def ns_nm : Nat → MethodName
  | 0 => ⟨"NoteSheet", "<init>", "(I)V"⟩
  | 1 => ⟨"NoteSheet", "type", "(C)Z"⟩
  | 2 => ⟨"NoteSheet", "define", "(I)I"⟩
  | 3 => ⟨"NoteSheet", "set", "(III)Z"⟩
  | 4 => ⟨"NoteSheet", "ask", "(I)J"⟩
  | 5 => ⟨"NoteSheet", "revision", "()I"⟩
  | 6 => ⟨"NoteSheet", "changed", "(I)I"⟩
  | 7 => ⟨"NoteSheet", "note", "(II)I"⟩
  | 8 => ⟨"NoteSheet", "read", "(II)I"⟩
  | 9 => ⟨"NoteSheet", "count", "(I)I"⟩
  | 10 => ⟨"NoteSheet", "isCell", "(I)Z"⟩
  | 11 => ⟨"NoteSheet", "isDurability", "(I)Z"⟩
  | 12 => ⟨"NoteSheet", "makeFormula", "(LNoteSheet$Cell;)V"⟩
  | 13 => ⟨"NoteSheet", "makeInput", "(LNoteSheet$Cell;II)V"⟩
  | 14 => ⟨"NoteSheet", "startRevision", "(I)V"⟩
  | 15 => ⟨"NoteSheet", "upToDateValue", "(LNoteSheet$Cell;)J"⟩
  | 16 => ⟨"NoteSheet", "bringUpToDate", "(LNoteSheet$Cell;)V"⟩
  | 17 => ⟨"NoteSheet", "passes", "(LNoteSheet$Note;)Z"⟩
  | 18 => ⟨"NoteSheet", "readsAreUnchanged", "(LNoteSheet$Cell;)Z"⟩
  | 19 => ⟨"NoteSheet", "verify", "(LNoteSheet$Cell;I)V"⟩
  | 20 => ⟨"NoteSheet", "workOut", "(LNoteSheet$Cell;)V"⟩
  | 21 => ⟨"NoteSheet", "leastDurability", "(LNoteSheet$Note;)I"⟩
  | 22 => ⟨"NoteSheet", "evaluate", "(LNoteSheet$Cell;)J"⟩
  | 23 => ⟨"NoteSheet", "combine", "(III)I"⟩
  | 24 => ⟨"NoteSheet", "giveTo", "(LNoteSheet$Cell;I)J"⟩
  | 25 => ⟨"NoteSheet", "markUsed", "(LNoteSheet$Cell;)V"⟩
  | 26 => ⟨"NoteSheet", "tally", "(LNoteSheet$Cell;I)V"⟩
  | 27 => ⟨"NoteSheet", "valuesInNotes", "()I"⟩
  | 28 => ⟨"NoteSheet", "dropValuesBeyondKept", "()V"⟩
  | 29 => ⟨"NoteSheet", "dropLongestUnused", "()V"⟩
  | 30 => ⟨"NoteSheetModel", "<init>", "(I)V"⟩
  | 31 => ⟨"NoteSheetModel", "isCell", "(I)Z"⟩
  | 32 => ⟨"NoteSheetModel", "isLetter", "(I)Z"⟩
  | 33 => ⟨"NoteSheetModel", "isDigit", "(I)Z"⟩
  | 34 => ⟨"NoteSheetModel", "type", "(C)Z"⟩
  | 35 => ⟨"NoteSheetModel", "make", "(II)V"⟩
  | 36 => ⟨"NoteSheetModel", "put", "(II)V"⟩
  | 37 => ⟨"NoteSheetModel", "rank", "(I)I"⟩
  | 38 => ⟨"NoteSheetModel", "settle", "(I)V"⟩
  | 39 => ⟨"NoteSheetModel", "deepness", "()I"⟩
  | 40 => ⟨"NoteSheetModel", "begin", "(II)Z"⟩
  | 41 => ⟨"NoteSheetModel", "compared", "()Z"⟩
  | 42 => ⟨"NoteSheetModel", "inner", "()I"⟩
  | 43 => ⟨"NoteSheetModel", "close", "()V"⟩
  | 44 => ⟨"NoteSheetModel", "awaits", "()I"⟩
  | 45 => ⟨"NoteSheetModel", "goesOn", "(I)Z"⟩
  | 46 => ⟨"NoteSheetModel", "fault", "()I"⟩
  | 47 => ⟨"NoteSheetModel", "define", "(I)I"⟩
  | 48 => ⟨"NoteSheetModel", "change", "(I)V"⟩
  | 49 => ⟨"NoteSheetModel", "set", "(III)Z"⟩
  | 50 => ⟨"NoteSheetModel", "settled", "(I)Z"⟩
  | 51 => ⟨"NoteSheetModel", "durabilityOf", "(I)I"⟩
  | 52 => ⟨"NoteSheetModel", "sinceOf", "(I)I"⟩
  | 53 => ⟨"NoteSheetModel", "start", "(II)V"⟩
  | 54 => ⟨"NoteSheetModel", "counts", "(II)V"⟩
  | 55 => ⟨"NoteSheetModel", "finish", "()V"⟩
  | 56 => ⟨"NoteSheetModel", "use", "(I)V"⟩
  | 57 => ⟨"NoteSheetModel", "runAll", "()V"⟩
  | 58 => ⟨"NoteSheetModel", "enter", "(II)V"⟩
  | 59 => ⟨"NoteSheetModel", "lookThrough", "(II)V"⟩
  | 60 => ⟨"NoteSheetModel", "worked", "(IIJ)V"⟩
  | 61 => ⟨"NoteSheetModel", "push", "(IJ)V"⟩
  | 62 => ⟨"NoteSheetModel", "pop", "(I)J"⟩
  | 63 => ⟨"NoteSheetModel", "advance", "(II)V"⟩
  | 64 => ⟨"NoteSheetModel", "combine", "(II)V"⟩
  | 65 => ⟨"NoteSheetModel", "look", "(III)V"⟩
  | 66 => ⟨"NoteSheetModel", "values", "()I"⟩
  | 67 => ⟨"NoteSheetModel", "ask", "(I)J"⟩
  | 68 => ⟨"NoteSheetModel", "revision", "()I"⟩
  | 69 => ⟨"NoteSheetModel", "changed", "(I)I"⟩
  | 70 => ⟨"NoteSheetModel", "note", "(II)I"⟩
  | 71 => ⟨"NoteSheetModel", "read", "(II)I"⟩
  | 72 => ⟨"NoteSheetModel", "count", "(I)I"⟩
  | 73 => ⟨"NoteSheet$Cell", "<init>", "()V"⟩
  | 74 => ⟨"NoteSheet$Cell", "ownDurability", "()I"⟩
  | 75 => ⟨"NoteSheet$Cell", "givenDurability", "()I"⟩
  | 76 => ⟨"NoteSheet$Cell", "unchangedSince", "()I"⟩
  | 77 => ⟨"NoteSheet$Formula", "<init>", "()V"⟩
  | 78 => ⟨"NoteSheet$Formula", "isLetter", "(C)Z"⟩
  | 79 => ⟨"NoteSheet$Formula", "isDigit", "(C)Z"⟩
  | 80 => ⟨"NoteSheet$Formula", "mayHold", "(C)Z"⟩
  | 81 => ⟨"NoteSheet$Formula", "append", "(C)Z"⟩
  | 82 => ⟨"NoteSheet$Formula", "addStep", "(II)I"⟩
  | 83 => ⟨"NoteSheet$Formula", "jumpToEnd", "(I)V"⟩
  | 84 => ⟨"NoteSheet$Formula", "stepAt", "(I)I"⟩
  | 85 => ⟨"NoteSheet$Formula", "operandAt", "(I)I"⟩
  | 86 => ⟨"NoteSheet$Formula", "hasTextOf", "(LNoteSheet$Formula;)Z"⟩
  | 87 => ⟨"NoteSheet$Formula", "copyFrom", "(LNoteSheet$Formula;)V"⟩
  | 88 => ⟨"NoteSheet$Note", "<init>", "()V"⟩
  | 89 => ⟨"NoteSheet$Note", "clear", "()V"⟩
  | 90 => ⟨"NoteSheet$Note", "isVerifiedIn", "(I)Z"⟩
  | 91 => ⟨"NoteSheet$Note", "keepValue", "(JI)V"⟩
  | 92 => ⟨"NoteSheet$Note", "addRead", "(I)V"⟩
  | 93 => ⟨"NoteSheet$Parser", "<init>", "(LNoteSheet$Formula;)V"⟩
  | 94 => ⟨"NoteSheet$Parser", "accepts", "()Z"⟩
  | 95 => ⟨"NoteSheet$Parser", "fault", "()I"⟩
  | 96 => ⟨"NoteSheet$Parser", "next", "()C"⟩
  | 97 => ⟨"NoteSheet$Parser", "take", "(C)Z"⟩
  | 98 => ⟨"NoteSheet$Parser", "takeFormula", "(I)Z"⟩
  | 99 => ⟨"NoteSheet$Parser", "takeBranches", "(I)Z"⟩
  | 100 => ⟨"NoteSheet$Parser", "takeSum", "(I)Z"⟩
  | 101 => ⟨"NoteSheet$Parser", "takeProduct", "(I)Z"⟩
  | 102 => ⟨"NoteSheet$Parser", "takeUnit", "(I)Z"⟩
  | 103 => ⟨"NoteSheet$Parser", "takeNumber", "()V"⟩
  | 104 => ⟨"NoteSheetLaw", "cell", "([II)I"⟩
  | 105 => ⟨"NoteSheetLaw", "law", "([I)Z"⟩
  | 106 => ⟨"java/lang/Math", "floorMod", "(II)I"⟩
  | _ => ⟨"", "", ""⟩
def ns_I_N_init : ax_MI := (prog_1_method_1_code, 0, true, 3, none, 103, 1620)
def ns_I_N_type : ax_MI := (prog_1_method_2_code, 0, false, 2, some .boolean, 0, 0)
def ns_I_N_define : ax_MI := (prog_1_method_3_code, 0, false, 3, some .int, 0, 0)
def ns_I_N_set : ax_MI := (prog_1_method_4_code, 0, false, 5, some .boolean, 0, 0)
def ns_I_N_ask : ax_MI := (prog_1_method_5_code, 0, false, 4, some .long, 0, 0)
def ns_I_N_revision : ax_MI := (prog_1_method_6_code, 0, false, 1, some .int, 0, 0)
def ns_I_N_changed : ax_MI := (prog_1_method_7_code, 0, false, 2, some .int, 0, 0)
def ns_I_N_note : ax_MI := (prog_1_method_8_code, 0, false, 4, some .int, 0, 0)
def ns_I_N_read : ax_MI := (prog_1_method_9_code, 0, false, 3, some .int, 0, 0)
def ns_I_N_count : ax_MI := (prog_1_method_10_code, 0, false, 2, some .int, 0, 0)
def ns_I_N_isCell : ax_MI := (prog_1_method_11_code, 0, false, 1, some .boolean, 0, 0)
def ns_I_N_isDurability : ax_MI := (prog_1_method_12_code, 0, false, 1, some .boolean, 0, 0)
def ns_I_N_makeFormula : ax_MI := (prog_1_method_13_code, 0, false, 2, none, 0, 0)
def ns_I_N_makeInput : ax_MI := (prog_1_method_14_code, 0, false, 4, none, 0, 0)
def ns_I_N_startRevision : ax_MI := (prog_1_method_15_code, 0, false, 3, none, 0, 0)
def ns_I_N_upToDateValue : ax_MI := (prog_1_method_16_code, 0, false, 2, some .long, 0, 0)
def ns_I_N_bringUpToDate : ax_MI := (prog_1_method_17_code, 0, false, 2, none, 0, 0)
def ns_I_N_passes : ax_MI := (prog_1_method_18_code, 0, false, 2, some .boolean, 0, 0)
def ns_I_N_readsAreUnchanged : ax_MI := (prog_1_method_19_code, 0, false, 5, some .boolean, 0, 0)
def ns_I_N_verify : ax_MI := (prog_1_method_20_code, 0, false, 3, none, 0, 0)
def ns_I_N_workOut : ax_MI := (prog_1_method_21_code, 0, false, 4, none, 0, 0)
def ns_I_N_leastDurability : ax_MI := (prog_1_method_22_code, 0, false, 5, some .int, 0, 0)
def ns_I_N_evaluate : ax_MI := (prog_1_method_23_code, 0, false, 12, some .long, 0, 0)
def ns_I_N_combine : ax_MI := (prog_1_method_24_code, 0, false, 3, some .int, 0, 0)
def ns_I_N_giveTo : ax_MI := (prog_1_method_25_code, 0, false, 4, some .long, 0, 0)
def ns_I_N_markUsed : ax_MI := (prog_1_method_26_code, 0, false, 2, none, 0, 0)
def ns_I_N_tally : ax_MI := (prog_1_method_27_code, 0, false, 3, none, 0, 0)
def ns_I_N_valuesInNotes : ax_MI := (prog_1_method_28_code, 0, false, 3, some .int, 0, 0)
def ns_I_N_dropValuesBeyondKept : ax_MI := (prog_1_method_29_code, 0, false, 2, none, 0, 0)
def ns_I_N_dropLongestUnused : ax_MI := (prog_1_method_30_code, 0, false, 4, none, 0, 0)
def ns_I_M_init : ax_MI := (prog_7_method_1_code, 5, true, 2, none, 36, 2344)
def ns_I_M_isCell : ax_MI := (prog_7_method_2_code, 5, false, 1, some .boolean, 0, 0)
def ns_I_M_isLetter : ax_MI := (prog_7_method_3_code, 5, false, 1, some .boolean, 0, 0)
def ns_I_M_isDigit : ax_MI := (prog_7_method_4_code, 5, false, 1, some .boolean, 0, 0)
def ns_I_M_type : ax_MI := (prog_7_method_5_code, 5, false, 3, some .boolean, 0, 0)
def ns_I_M_make : ax_MI := (prog_7_method_6_code, 5, false, 3, none, 0, 0)
def ns_I_M_put : ax_MI := (prog_7_method_7_code, 5, false, 3, none, 0, 0)
def ns_I_M_rank : ax_MI := (prog_7_method_8_code, 5, false, 1, some .int, 0, 0)
def ns_I_M_settle : ax_MI := (prog_7_method_9_code, 5, false, 3, none, 0, 0)
def ns_I_M_deepness : ax_MI := (prog_7_method_10_code, 5, false, 3, some .int, 0, 0)
def ns_I_M_begin : ax_MI := (prog_7_method_11_code, 5, false, 5, some .boolean, 0, 0)
def ns_I_M_compared : ax_MI := (prog_7_method_12_code, 5, false, 3, some .boolean, 0, 0)
def ns_I_M_inner : ax_MI := (prog_7_method_13_code, 5, false, 2, some .int, 0, 0)
def ns_I_M_close : ax_MI := (prog_7_method_14_code, 5, false, 1, none, 0, 0)
def ns_I_M_awaits : ax_MI := (prog_7_method_15_code, 5, false, 2, some .int, 0, 0)
def ns_I_M_goesOn : ax_MI := (prog_7_method_16_code, 5, false, 2, some .boolean, 0, 0)
def ns_I_M_fault : ax_MI := (prog_7_method_17_code, 5, false, 6, some .int, 0, 0)
def ns_I_M_define : ax_MI := (prog_7_method_18_code, 5, false, 6, some .int, 0, 0)
def ns_I_M_change : ax_MI := (prog_7_method_19_code, 5, false, 3, none, 0, 0)
def ns_I_M_set : ax_MI := (prog_7_method_20_code, 5, false, 5, some .boolean, 0, 0)
def ns_I_M_settled : ax_MI := (prog_7_method_21_code, 5, false, 2, some .boolean, 0, 0)
def ns_I_M_durabilityOf : ax_MI := (prog_7_method_22_code, 5, false, 2, some .int, 0, 0)
def ns_I_M_sinceOf : ax_MI := (prog_7_method_23_code, 5, false, 2, some .int, 0, 0)
def ns_I_M_start : ax_MI := (prog_7_method_24_code, 5, false, 3, none, 0, 0)
def ns_I_M_counts : ax_MI := (prog_7_method_25_code, 5, false, 3, none, 0, 0)
def ns_I_M_finish : ax_MI := (prog_7_method_26_code, 5, false, 1, none, 0, 0)
def ns_I_M_use : ax_MI := (prog_7_method_27_code, 5, false, 2, none, 0, 0)
def ns_I_M_runAll : ax_MI := (prog_7_method_28_code, 5, false, 2, none, 0, 0)
def ns_I_M_enter : ax_MI := (prog_7_method_29_code, 5, false, 3, none, 0, 0)
def ns_I_M_lookThrough : ax_MI := (prog_7_method_30_code, 5, false, 5, none, 0, 0)
def ns_I_M_worked : ax_MI := (prog_7_method_31_code, 5, false, 8, none, 0, 0)
def ns_I_M_push : ax_MI := (prog_7_method_32_code, 5, false, 4, none, 0, 0)
def ns_I_M_pop : ax_MI := (prog_7_method_33_code, 5, false, 2, some .long, 0, 0)
def ns_I_M_advance : ax_MI := (prog_7_method_34_code, 5, false, 6, none, 0, 0)
def ns_I_M_combine : ax_MI := (prog_7_method_35_code, 5, false, 5, none, 0, 0)
def ns_I_M_look : ax_MI := (prog_7_method_36_code, 5, false, 7, none, 0, 0)
def ns_I_M_values : ax_MI := (prog_7_method_37_code, 5, false, 3, some .int, 0, 0)
def ns_I_M_ask : ax_MI := (prog_7_method_38_code, 5, false, 6, some .long, 0, 0)
def ns_I_M_revision : ax_MI := (prog_7_method_39_code, 5, false, 1, some .int, 0, 0)
def ns_I_M_changed : ax_MI := (prog_7_method_40_code, 5, false, 2, some .int, 0, 0)
def ns_I_M_note : ax_MI := (prog_7_method_41_code, 5, false, 4, some .int, 0, 0)
def ns_I_M_read : ax_MI := (prog_7_method_42_code, 5, false, 3, some .int, 0, 0)
def ns_I_M_count : ax_MI := (prog_7_method_43_code, 5, false, 2, some .int, 0, 0)
def ns_I_C_init : ax_MI := (prog_2_method_1_code, 1, true, 1, none, 7, 117)
def ns_I_C_ownDurability : ax_MI := (prog_2_method_2_code, 1, false, 1, some .int, 0, 0)
def ns_I_C_givenDurability : ax_MI := (prog_2_method_3_code, 1, false, 1, some .int, 0, 0)
def ns_I_C_unchangedSince : ax_MI := (prog_2_method_4_code, 1, false, 1, some .int, 0, 0)
def ns_I_F_init : ax_MI := (prog_3_method_1_code, 2, true, 1, none, 2, 60)
def ns_I_F_isLetter : ax_MI := (prog_3_method_2_code, 2, false, 1, some .boolean, 0, 0)
def ns_I_F_isDigit : ax_MI := (prog_3_method_3_code, 2, false, 1, some .boolean, 0, 0)
def ns_I_F_mayHold : ax_MI := (prog_3_method_4_code, 2, false, 1, some .boolean, 0, 0)
def ns_I_F_append : ax_MI := (prog_3_method_5_code, 2, false, 2, some .boolean, 0, 0)
def ns_I_F_addStep : ax_MI := (prog_3_method_6_code, 2, false, 3, some .int, 0, 0)
def ns_I_F_jumpToEnd : ax_MI := (prog_3_method_7_code, 2, false, 2, none, 0, 0)
def ns_I_F_stepAt : ax_MI := (prog_3_method_8_code, 2, false, 2, some .int, 0, 0)
def ns_I_F_operandAt : ax_MI := (prog_3_method_9_code, 2, false, 2, some .int, 0, 0)
def ns_I_F_hasTextOf : ax_MI := (prog_3_method_10_code, 2, false, 3, some .boolean, 0, 0)
def ns_I_F_copyFrom : ax_MI := (prog_3_method_11_code, 2, false, 2, none, 0, 0)
def ns_I_O_init : ax_MI := (prog_4_method_1_code, 3, true, 1, none, 1, 12)
def ns_I_O_clear : ax_MI := (prog_4_method_2_code, 3, false, 1, none, 0, 0)
def ns_I_O_isVerifiedIn : ax_MI := (prog_4_method_3_code, 3, false, 2, some .boolean, 0, 0)
def ns_I_O_keepValue : ax_MI := (prog_4_method_4_code, 3, false, 5, none, 0, 0)
def ns_I_O_addRead : ax_MI := (prog_4_method_5_code, 3, false, 3, none, 0, 0)
def ns_I_P_init : ax_MI := (prog_5_method_1_code, 4, true, 2, none, 0, 0)
def ns_I_P_accepts : ax_MI := (prog_5_method_2_code, 4, false, 1, some .boolean, 0, 0)
def ns_I_P_fault : ax_MI := (prog_5_method_3_code, 4, false, 1, some .int, 0, 0)
def ns_I_P_next : ax_MI := (prog_5_method_4_code, 4, false, 1, some .char, 0, 0)
def ns_I_P_take : ax_MI := (prog_5_method_5_code, 4, false, 2, some .boolean, 0, 0)
def ns_I_P_takeFormula : ax_MI := (prog_5_method_6_code, 4, false, 3, some .boolean, 0, 0)
def ns_I_P_takeBranches : ax_MI := (prog_5_method_7_code, 4, false, 4, some .boolean, 0, 0)
def ns_I_P_takeSum : ax_MI := (prog_5_method_8_code, 4, false, 4, some .boolean, 0, 0)
def ns_I_P_takeProduct : ax_MI := (prog_5_method_9_code, 4, false, 3, some .boolean, 0, 0)
def ns_I_P_takeUnit : ax_MI := (prog_5_method_10_code, 4, false, 3, some .boolean, 0, 0)
def ns_I_P_takeNumber : ax_MI := (prog_5_method_11_code, 4, false, 3, none, 0, 0)
def ns_I_L_cell : ax_MI := (method_2_code, 6, false, 2, some .int, 0, 0)
def ns_I_L_law : ax_MI := (code, 6, false, 4, some .boolean, 600000, 7302250)
def ns_I_J_floorMod : ax_MI := (prog_9_method_50_code, 7, false, 3, some .int, 0, 0)
def ns_mt : Nat → Option ax_MI
  | 0 => some ns_I_N_init
  | 1 => some ns_I_N_type
  | 2 => some ns_I_N_define
  | 3 => some ns_I_N_set
  | 4 => some ns_I_N_ask
  | 5 => some ns_I_N_revision
  | 6 => some ns_I_N_changed
  | 7 => some ns_I_N_note
  | 8 => some ns_I_N_read
  | 9 => some ns_I_N_count
  | 10 => some ns_I_N_isCell
  | 11 => some ns_I_N_isDurability
  | 12 => some ns_I_N_makeFormula
  | 13 => some ns_I_N_makeInput
  | 14 => some ns_I_N_startRevision
  | 15 => some ns_I_N_upToDateValue
  | 16 => some ns_I_N_bringUpToDate
  | 17 => some ns_I_N_passes
  | 18 => some ns_I_N_readsAreUnchanged
  | 19 => some ns_I_N_verify
  | 20 => some ns_I_N_workOut
  | 21 => some ns_I_N_leastDurability
  | 22 => some ns_I_N_evaluate
  | 23 => some ns_I_N_combine
  | 24 => some ns_I_N_giveTo
  | 25 => some ns_I_N_markUsed
  | 26 => some ns_I_N_tally
  | 27 => some ns_I_N_valuesInNotes
  | 28 => some ns_I_N_dropValuesBeyondKept
  | 29 => some ns_I_N_dropLongestUnused
  | 30 => some ns_I_M_init
  | 31 => some ns_I_M_isCell
  | 32 => some ns_I_M_isLetter
  | 33 => some ns_I_M_isDigit
  | 34 => some ns_I_M_type
  | 35 => some ns_I_M_make
  | 36 => some ns_I_M_put
  | 37 => some ns_I_M_rank
  | 38 => some ns_I_M_settle
  | 39 => some ns_I_M_deepness
  | 40 => some ns_I_M_begin
  | 41 => some ns_I_M_compared
  | 42 => some ns_I_M_inner
  | 43 => some ns_I_M_close
  | 44 => some ns_I_M_awaits
  | 45 => some ns_I_M_goesOn
  | 46 => some ns_I_M_fault
  | 47 => some ns_I_M_define
  | 48 => some ns_I_M_change
  | 49 => some ns_I_M_set
  | 50 => some ns_I_M_settled
  | 51 => some ns_I_M_durabilityOf
  | 52 => some ns_I_M_sinceOf
  | 53 => some ns_I_M_start
  | 54 => some ns_I_M_counts
  | 55 => some ns_I_M_finish
  | 56 => some ns_I_M_use
  | 57 => some ns_I_M_runAll
  | 58 => some ns_I_M_enter
  | 59 => some ns_I_M_lookThrough
  | 60 => some ns_I_M_worked
  | 61 => some ns_I_M_push
  | 62 => some ns_I_M_pop
  | 63 => some ns_I_M_advance
  | 64 => some ns_I_M_combine
  | 65 => some ns_I_M_look
  | 66 => some ns_I_M_values
  | 67 => some ns_I_M_ask
  | 68 => some ns_I_M_revision
  | 69 => some ns_I_M_changed
  | 70 => some ns_I_M_note
  | 71 => some ns_I_M_read
  | 72 => some ns_I_M_count
  | 73 => some ns_I_C_init
  | 74 => some ns_I_C_ownDurability
  | 75 => some ns_I_C_givenDurability
  | 76 => some ns_I_C_unchangedSince
  | 77 => some ns_I_F_init
  | 78 => some ns_I_F_isLetter
  | 79 => some ns_I_F_isDigit
  | 80 => some ns_I_F_mayHold
  | 81 => some ns_I_F_append
  | 82 => some ns_I_F_addStep
  | 83 => some ns_I_F_jumpToEnd
  | 84 => some ns_I_F_stepAt
  | 85 => some ns_I_F_operandAt
  | 86 => some ns_I_F_hasTextOf
  | 87 => some ns_I_F_copyFrom
  | 88 => some ns_I_O_init
  | 89 => some ns_I_O_clear
  | 90 => some ns_I_O_isVerifiedIn
  | 91 => some ns_I_O_keepValue
  | 92 => some ns_I_O_addRead
  | 93 => some ns_I_P_init
  | 94 => some ns_I_P_accepts
  | 95 => some ns_I_P_fault
  | 96 => some ns_I_P_next
  | 97 => some ns_I_P_take
  | 98 => some ns_I_P_takeFormula
  | 99 => some ns_I_P_takeBranches
  | 100 => some ns_I_P_takeSum
  | 101 => some ns_I_P_takeProduct
  | 102 => some ns_I_P_takeUnit
  | 103 => some ns_I_P_takeNumber
  | 104 => some ns_I_L_cell
  | 105 => some ns_I_L_law
  | 106 => some ns_I_J_floorMod
  | _ => none
def ns_lF : List ((Nat × Nat) × (Nat × Nat × FieldType × Bool)) := [((0, 18), (0, 5, .int, true)), ((0, 24), (0, 0, .array (.object "NoteSheet$Cell"), true)), ((0, 29), (0, 1, .array .int, true)), ((0, 33), (0, 2, .array .int, true)), ((0, 39), (0, 3, .object "NoteSheet$Formula", true)), ((0, 48), (0, 4, .object "NoteSheet$Parser", true)), ((0, 52), (0, 6, .int, false)), ((0, 78), (2, 2, .int, false)), ((0, 84), (1, 4, .boolean, false)), ((0, 88), (1, 6, .int, false)), ((0, 91), (1, 7, .int, false)), ((0, 107), (1, 2, .array .int, true)), ((0, 113), (1, 1, .object "NoteSheet$Note", true)), ((0, 117), (3, 5, .int, false)), ((0, 125), (3, 1, .int, false)), ((0, 128), (3, 3, .boolean, false)), ((0, 131), (3, 0, .array .int, true)), ((0, 137), (1, 0, .object "NoteSheet$Formula", true)), ((0, 154), (1, 5, .int, false)), ((0, 157), (1, 8, .int, false)), ((0, 172), (3, 4, .long, false)), ((0, 176), (1, 9, .boolean, false)), ((0, 198), (3, 7, .int, false)), ((0, 199), (3, 2, .boolean, false)), ((0, 211), (1, 3, .array .int, true)), ((0, 214), (2, 3, .int, false)), ((0, 240), (0, 7, .int, false)), ((0, 243), (1, 10, .int, false)), ((1, 12), (1, 0, .object "NoteSheet$Formula", true)), ((1, 21), (1, 1, .object "NoteSheet$Note", true)), ((1, 25), (1, 2, .array .int, true)), ((1, 29), (1, 3, .array .int, true)), ((1, 32), (1, 4, .boolean, false)), ((1, 36), (1, 7, .int, false)), ((1, 40), (3, 7, .int, false)), ((1, 41), (3, 6, .int, false)), ((1, 44), (1, 8, .int, false)), ((2, 9), (2, 0, .array .char, true)), ((2, 15), (2, 1, .array .int, true)), ((2, 34), (2, 2, .int, false)), ((2, 38), (2, 3, .int, false)), ((3, 9), (3, 0, .array .int, true)), ((3, 15), (3, 1, .int, false)), ((3, 19), (3, 2, .boolean, false)), ((3, 23), (3, 3, .boolean, false)), ((3, 26), (3, 5, .int, false)), ((3, 29), (3, 6, .int, false)), ((3, 32), (3, 7, .int, false)), ((3, 35), (3, 4, .long, false)), ((4, 9), (4, 0, .object "NoteSheet$Formula", true)), ((4, 15), (4, 1, .int, false)), ((4, 19), (2, 3, .int, false)), ((4, 28), (2, 2, .int, false)), ((4, 31), (2, 0, .array .char, true)), ((5, 7), (5, 1, .array .int, true)), ((5, 13), (5, 3, .int, false)), ((5, 17), (5, 4, .array .int, true)), ((5, 20), (5, 5, .array .boolean, true)), ((5, 24), (5, 6, .array .int, true)), ((5, 27), (5, 7, .array .int, true)), ((5, 30), (5, 8, .array .int, true)), ((5, 33), (5, 9, .array .int, true)), ((5, 36), (5, 10, .array .int, true)), ((5, 39), (5, 11, .array .int, true)), ((5, 42), (5, 12, .array .int, true)), ((5, 45), (5, 13, .array .int, true)), ((5, 48), (5, 14, .array .int, true)), ((5, 51), (5, 15, .array .boolean, true)), ((5, 54), (5, 16, .array .boolean, true)), ((5, 57), (5, 17, .array .long, true)), ((5, 61), (5, 18, .array .int, true)), ((5, 64), (5, 19, .array .int, true)), ((5, 67), (5, 20, .array .int, true)), ((5, 70), (5, 21, .array .int, true)), ((5, 73), (5, 22, .array .int, true)), ((5, 76), (5, 23, .array .int, true)), ((5, 79), (5, 25, .array .int, true)), ((5, 82), (5, 26, .array .int, true)), ((5, 85), (5, 28, .array .int, true)), ((5, 88), (5, 29, .array .int, true)), ((5, 91), (5, 30, .array .int, true)), ((5, 94), (5, 31, .array .int, true)), ((5, 97), (5, 32, .array .long, true)), ((5, 100), (5, 33, .array .int, true)), ((5, 103), (5, 34, .array .int, true)), ((5, 106), (5, 35, .array .boolean, true)), ((5, 109), (5, 36, .array .boolean, true)), ((5, 112), (5, 38, .array .int, true)), ((5, 115), (5, 39, .array .int, true)), ((5, 118), (5, 41, .array .int, true)), ((5, 121), (5, 42, .array .int, true)), ((5, 124), (5, 0, .int, true)), ((5, 134), (5, 2, .int, false)), ((5, 137), (5, 40, .int, false)), ((5, 140), (5, 37, .int, false)), ((5, 191), (5, 27, .int, false)), ((5, 194), (5, 24, .int, false))]
def ns_tF : ax_TF := fun c n => (ns_lF.find? (fun q => q.1.1 == c && q.1.2 == n)).map (fun q => q.2)
def ns_lC : List ((Nat × Nat) × ((Nat ⊕ Nat) × Nat × Nat × Nat × Nat × Nat)) := [((0, 1), (.inr 0, 0, 0, 0, 0, 2)), ((0, 9), (.inr 2, 0, 0, 0, 0, 0)), ((0, 15), (.inr 1, 0, 0, 0, 0, 0)), ((0, 28), (.inl 73, 0, 7, 117, 1, 2)), ((0, 38), (.inl 77, 0, 2, 60, 2, 2)), ((0, 45), (.inl 93, 1, 0, 0, 4, 2)), ((0, 55), (.inl 80, 1, 0, 0, 2, 0)), ((0, 59), (.inl 81, 1, 0, 0, 2, 1)), ((0, 62), (.inl 10, 1, 0, 0, 0, 0)), ((0, 66), (.inl 94, 0, 0, 0, 4, 1)), ((0, 70), (.inl 95, 0, 0, 0, 4, 1)), ((0, 74), (.inl 12, 1, 0, 0, 0, 1)), ((0, 81), (.inl 11, 1, 0, 0, 0, 0)), ((0, 94), (.inl 13, 3, 0, 0, 0, 1)), ((0, 100), (.inl 15, 1, 0, 0, 0, 1)), ((0, 104), (.inl 28, 0, 0, 0, 0, 1)), ((0, 110), (.inl 76, 0, 0, 0, 1, 1)), ((0, 122), (.inl 75, 0, 0, 0, 1, 1)), ((0, 134), (.inl 27, 0, 0, 0, 0, 1)), ((0, 140), (.inl 86, 1, 0, 0, 2, 1)), ((0, 144), (.inl 74, 0, 0, 0, 1, 1)), ((0, 147), (.inl 14, 1, 0, 0, 0, 1)), ((0, 151), (.inl 87, 1, 0, 0, 2, 1)), ((0, 160), (.inl 89, 0, 0, 0, 3, 1)), ((0, 163), (.inl 16, 1, 0, 0, 0, 1)), ((0, 166), (.inl 20, 1, 0, 0, 0, 1)), ((0, 169), (.inl 25, 1, 0, 0, 0, 1)), ((0, 179), (.inl 90, 1, 0, 0, 3, 1)), ((0, 182), (.inl 17, 1, 0, 0, 0, 1)), ((0, 186), (.inl 19, 2, 0, 0, 0, 1)), ((0, 190), (.inl 18, 1, 0, 0, 0, 1)), ((0, 194), (.inl 21, 1, 0, 0, 0, 1)), ((0, 202), (.inl 26, 2, 0, 0, 0, 1)), ((0, 204), (.inl 22, 1, 0, 0, 0, 1)), ((0, 207), (.inl 91, 2, 0, 0, 3, 1)), ((0, 217), (.inl 85, 1, 0, 0, 2, 1)), ((0, 221), (.inl 84, 1, 0, 0, 2, 1)), ((0, 224), (.inl 106, 2, 0, 0, 7, 0)), ((0, 227), (.inl 24, 2, 0, 0, 0, 1)), ((0, 233), (.inl 23, 3, 0, 0, 0, 0)), ((0, 237), (.inl 92, 1, 0, 0, 3, 1)), ((0, 246), (.inl 29, 0, 0, 0, 0, 1)), ((1, 3), (.inr 0, 0, 0, 0, 0, 2)), ((1, 11), (.inl 77, 0, 2, 60, 2, 2)), ((1, 20), (.inl 88, 0, 1, 12, 3, 2)), ((2, 3), (.inr 0, 0, 0, 0, 0, 2)), ((2, 19), (.inl 78, 1, 0, 0, 2, 0)), ((2, 23), (.inl 79, 1, 0, 0, 2, 0)), ((2, 28), (.inr 4, 0, 0, 0, 0, 1)), ((2, 41), (.inl 84, 1, 0, 0, 2, 1)), ((2, 44), (.inr 5, 0, 0, 0, 0, 0)), ((3, 3), (.inr 0, 0, 0, 0, 0, 2)), ((3, 39), (.inl 90, 1, 0, 0, 3, 1)), ((4, 3), (.inr 0, 0, 0, 0, 0, 2)), ((4, 24), (.inl 98, 1, 0, 0, 4, 1)), ((4, 35), (.inl 96, 0, 0, 0, 4, 1)), ((4, 39), (.inl 100, 1, 0, 0, 4, 1)), ((4, 42), (.inl 82, 2, 0, 0, 2, 1)), ((4, 46), (.inl 97, 1, 0, 0, 4, 1)), ((4, 50), (.inl 99, 1, 0, 0, 4, 1)), ((4, 53), (.inl 83, 1, 0, 0, 2, 1)), ((4, 57), (.inl 101, 1, 0, 0, 4, 1)), ((4, 60), (.inl 102, 1, 0, 0, 4, 1)), ((4, 63), (.inl 78, 1, 0, 0, 2, 0)), ((4, 66), (.inl 79, 1, 0, 0, 2, 0)), ((4, 69), (.inl 103, 0, 0, 0, 4, 1)), ((5, 1), (.inr 0, 0, 0, 0, 0, 2)), ((5, 127), (.inl 32, 1, 0, 0, 5, 0)), ((5, 131), (.inl 33, 1, 0, 0, 5, 0)), ((5, 143), (.inl 37, 1, 0, 0, 5, 0)), ((5, 147), (.inl 35, 2, 0, 0, 5, 1)), ((5, 151), (.inl 38, 1, 0, 0, 5, 1)), ((5, 155), (.inl 39, 0, 0, 0, 5, 1)), ((5, 159), (.inl 36, 2, 0, 0, 5, 1)), ((5, 162), (.inl 42, 0, 0, 0, 5, 1)), ((5, 165), (.inl 41, 0, 0, 0, 5, 1)), ((5, 169), (.inl 44, 0, 0, 0, 5, 1)), ((5, 172), (.inl 43, 0, 0, 0, 5, 1)), ((5, 175), (.inl 40, 2, 0, 0, 5, 1)), ((5, 179), (.inl 45, 1, 0, 0, 5, 1)), ((5, 182), (.inl 46, 0, 0, 0, 5, 1)), ((5, 185), (.inl 31, 1, 0, 0, 5, 0)), ((5, 188), (.inl 48, 1, 0, 0, 5, 1)), ((5, 197), (.inl 58, 2, 0, 0, 5, 1)), ((5, 200), (.inl 59, 2, 0, 0, 5, 1)), ((5, 203), (.inl 60, 3, 0, 0, 5, 1)), ((5, 207), (.inl 63, 2, 0, 0, 5, 1)), ((5, 210), (.inl 54, 2, 0, 0, 5, 1)), ((5, 213), (.inl 55, 0, 0, 0, 5, 1)), ((5, 216), (.inl 51, 1, 0, 0, 5, 1)), ((5, 219), (.inl 50, 1, 0, 0, 5, 1)), ((5, 222), (.inl 53, 2, 0, 0, 5, 1)), ((5, 225), (.inl 52, 1, 0, 0, 5, 1)), ((5, 228), (.inl 56, 1, 0, 0, 5, 1)), ((5, 231), (.inl 65, 3, 0, 0, 5, 1)), ((5, 235), (.inl 61, 2, 0, 0, 5, 1)), ((5, 239), (.inl 62, 1, 0, 0, 5, 1)), ((5, 243), (.inl 64, 2, 0, 0, 5, 1)), ((5, 250), (.inl 57, 0, 0, 0, 5, 1)), ((5, 253), (.inl 66, 0, 0, 0, 5, 1)), ((6, 9), (.inl 104, 2, 0, 0, 6, 0)), ((6, 15), (.inl 0, 1, 103, 1620, 0, 2)), ((6, 20), (.inl 30, 1, 36, 2344, 5, 2)), ((6, 21), (.inl 1, 1, 0, 0, 0, 1)), ((6, 25), (.inl 34, 1, 0, 0, 5, 1)), ((6, 26), (.inl 2, 1, 0, 0, 0, 1)), ((6, 30), (.inl 47, 1, 0, 0, 5, 1)), ((6, 31), (.inl 3, 3, 0, 0, 0, 1)), ((6, 35), (.inl 49, 3, 0, 0, 5, 1)), ((6, 36), (.inl 4, 1, 0, 0, 0, 1)), ((6, 40), (.inl 67, 1, 0, 0, 5, 1)), ((6, 41), (.inl 5, 0, 0, 0, 0, 1)), ((6, 45), (.inl 68, 0, 0, 0, 5, 1)), ((6, 46), (.inl 6, 1, 0, 0, 0, 1)), ((6, 49), (.inl 69, 1, 0, 0, 5, 1)), ((6, 50), (.inl 7, 2, 0, 0, 0, 1)), ((6, 54), (.inl 70, 2, 0, 0, 5, 1)), ((6, 55), (.inl 8, 2, 0, 0, 0, 1)), ((6, 58), (.inl 71, 2, 0, 0, 5, 1)), ((6, 59), (.inl 9, 1, 0, 0, 0, 1)), ((6, 62), (.inl 72, 1, 0, 0, 5, 1))]
def ns_tC : ax_TC := fun c n => (ns_lC.find? (fun q => q.1.1 == c && q.1.2 == n)).map (fun q => q.2)
def ns_lK : List ((Nat × Nat) × (Value)) := [((0, 98), (.long (-1))), ((0, 231), (.long 1099511627776)), ((2, 26), (.retAddr 1)), ((5, 246), (.long 1099511627776)), ((5, 248), (.long (-1)))]
def ns_tK : ax_TK := fun c n => (ns_lK.find? (fun q => q.1.1 == c && q.1.2 == n)).map (fun q => q.2)
def ns_lN : List ((Nat × Nat) × (Nat × List Value × String)) := [((0, 22), (1, [.null, .null, .null, .null, .int 0, .int 0, .int 0, .int 0, .int 0, .int 0, .int 0], "NoteSheet$Cell")), ((0, 36), (2, [.null, .null, .int 0, .int 0], "NoteSheet$Formula")), ((0, 43), (4, [.null, .int 0], "NoteSheet$Parser")), ((1, 9), (2, [.null, .null, .int 0, .int 0], "NoteSheet$Formula")), ((1, 18), (3, [.null, .int 0, .int 0, .int 0, .long 0, .int 0, .int 0, .int 0], "NoteSheet$Note")), ((6, 7), (0, [.null, .null, .null, .null, .null, .int 0, .int 0, .int 0], "NoteSheet")), ((6, 18), (5, [.int 0, .null, .int 0, .int 0, .null, .null, .null, .null, .null, .null, .null, .null, .null, .null, .null, .null, .null, .null, .null, .null, .null, .null, .null, .null, .int 0, .null, .null, .int 0, .null, .null, .null, .null, .null, .null, .null, .null, .null, .int 0, .null, .null, .int 0, .null, .null], "NoteSheetModel"))]
def ns_tN : ax_TN := fun c n => (ns_lN.find? (fun q => q.1.1 == c && q.1.2 == n)).map (fun q => q.2)
def ns_tb : ax_Tb := (ns_tF, ns_tC, ns_tK, ns_tN)
def ns_Tb : List Cond := lw_tbl.filter goodWord
theorem nF_0_18 : ns_tF 0 18 = some (0, 5, .int, true) := by decide +kernel
theorem nF_0_24 : ns_tF 0 24 = some (0, 0, .array (.object "NoteSheet$Cell"), true) := by decide +kernel
theorem nF_0_29 : ns_tF 0 29 = some (0, 1, .array .int, true) := by decide +kernel
theorem nF_0_33 : ns_tF 0 33 = some (0, 2, .array .int, true) := by decide +kernel
theorem nF_0_39 : ns_tF 0 39 = some (0, 3, .object "NoteSheet$Formula", true) := by decide +kernel
theorem nF_0_48 : ns_tF 0 48 = some (0, 4, .object "NoteSheet$Parser", true) := by decide +kernel
theorem nF_0_52 : ns_tF 0 52 = some (0, 6, .int, false) := by decide +kernel
theorem nF_0_78 : ns_tF 0 78 = some (2, 2, .int, false) := by decide +kernel
theorem nF_0_84 : ns_tF 0 84 = some (1, 4, .boolean, false) := by decide +kernel
theorem nF_0_88 : ns_tF 0 88 = some (1, 6, .int, false) := by decide +kernel
theorem nF_0_91 : ns_tF 0 91 = some (1, 7, .int, false) := by decide +kernel
theorem nF_0_107 : ns_tF 0 107 = some (1, 2, .array .int, true) := by decide +kernel
theorem nF_0_113 : ns_tF 0 113 = some (1, 1, .object "NoteSheet$Note", true) := by decide +kernel
theorem nF_0_117 : ns_tF 0 117 = some (3, 5, .int, false) := by decide +kernel
theorem nF_0_125 : ns_tF 0 125 = some (3, 1, .int, false) := by decide +kernel
theorem nF_0_128 : ns_tF 0 128 = some (3, 3, .boolean, false) := by decide +kernel
theorem nF_0_131 : ns_tF 0 131 = some (3, 0, .array .int, true) := by decide +kernel
theorem nF_0_137 : ns_tF 0 137 = some (1, 0, .object "NoteSheet$Formula", true) := by decide +kernel
theorem nF_0_154 : ns_tF 0 154 = some (1, 5, .int, false) := by decide +kernel
theorem nF_0_157 : ns_tF 0 157 = some (1, 8, .int, false) := by decide +kernel
theorem nF_0_172 : ns_tF 0 172 = some (3, 4, .long, false) := by decide +kernel
theorem nF_0_176 : ns_tF 0 176 = some (1, 9, .boolean, false) := by decide +kernel
theorem nF_0_198 : ns_tF 0 198 = some (3, 7, .int, false) := by decide +kernel
theorem nF_0_199 : ns_tF 0 199 = some (3, 2, .boolean, false) := by decide +kernel
theorem nF_0_211 : ns_tF 0 211 = some (1, 3, .array .int, true) := by decide +kernel
theorem nF_0_214 : ns_tF 0 214 = some (2, 3, .int, false) := by decide +kernel
theorem nF_0_240 : ns_tF 0 240 = some (0, 7, .int, false) := by decide +kernel
theorem nF_0_243 : ns_tF 0 243 = some (1, 10, .int, false) := by decide +kernel
theorem nF_1_12 : ns_tF 1 12 = some (1, 0, .object "NoteSheet$Formula", true) := by decide +kernel
theorem nF_1_21 : ns_tF 1 21 = some (1, 1, .object "NoteSheet$Note", true) := by decide +kernel
theorem nF_1_25 : ns_tF 1 25 = some (1, 2, .array .int, true) := by decide +kernel
theorem nF_1_29 : ns_tF 1 29 = some (1, 3, .array .int, true) := by decide +kernel
theorem nF_1_32 : ns_tF 1 32 = some (1, 4, .boolean, false) := by decide +kernel
theorem nF_1_36 : ns_tF 1 36 = some (1, 7, .int, false) := by decide +kernel
theorem nF_1_40 : ns_tF 1 40 = some (3, 7, .int, false) := by decide +kernel
theorem nF_1_41 : ns_tF 1 41 = some (3, 6, .int, false) := by decide +kernel
theorem nF_1_44 : ns_tF 1 44 = some (1, 8, .int, false) := by decide +kernel
theorem nF_2_9 : ns_tF 2 9 = some (2, 0, .array .char, true) := by decide +kernel
theorem nF_2_15 : ns_tF 2 15 = some (2, 1, .array .int, true) := by decide +kernel
theorem nF_2_34 : ns_tF 2 34 = some (2, 2, .int, false) := by decide +kernel
theorem nF_2_38 : ns_tF 2 38 = some (2, 3, .int, false) := by decide +kernel
theorem nF_3_9 : ns_tF 3 9 = some (3, 0, .array .int, true) := by decide +kernel
theorem nF_3_15 : ns_tF 3 15 = some (3, 1, .int, false) := by decide +kernel
theorem nF_3_19 : ns_tF 3 19 = some (3, 2, .boolean, false) := by decide +kernel
theorem nF_3_23 : ns_tF 3 23 = some (3, 3, .boolean, false) := by decide +kernel
theorem nF_3_26 : ns_tF 3 26 = some (3, 5, .int, false) := by decide +kernel
theorem nF_3_29 : ns_tF 3 29 = some (3, 6, .int, false) := by decide +kernel
theorem nF_3_32 : ns_tF 3 32 = some (3, 7, .int, false) := by decide +kernel
theorem nF_3_35 : ns_tF 3 35 = some (3, 4, .long, false) := by decide +kernel
theorem nF_4_9 : ns_tF 4 9 = some (4, 0, .object "NoteSheet$Formula", true) := by decide +kernel
theorem nF_4_15 : ns_tF 4 15 = some (4, 1, .int, false) := by decide +kernel
theorem nF_4_19 : ns_tF 4 19 = some (2, 3, .int, false) := by decide +kernel
theorem nF_4_28 : ns_tF 4 28 = some (2, 2, .int, false) := by decide +kernel
theorem nF_4_31 : ns_tF 4 31 = some (2, 0, .array .char, true) := by decide +kernel
theorem nF_5_7 : ns_tF 5 7 = some (5, 1, .array .int, true) := by decide +kernel
theorem nF_5_13 : ns_tF 5 13 = some (5, 3, .int, false) := by decide +kernel
theorem nF_5_17 : ns_tF 5 17 = some (5, 4, .array .int, true) := by decide +kernel
theorem nF_5_20 : ns_tF 5 20 = some (5, 5, .array .boolean, true) := by decide +kernel
theorem nF_5_24 : ns_tF 5 24 = some (5, 6, .array .int, true) := by decide +kernel
theorem nF_5_27 : ns_tF 5 27 = some (5, 7, .array .int, true) := by decide +kernel
theorem nF_5_30 : ns_tF 5 30 = some (5, 8, .array .int, true) := by decide +kernel
theorem nF_5_33 : ns_tF 5 33 = some (5, 9, .array .int, true) := by decide +kernel
theorem nF_5_36 : ns_tF 5 36 = some (5, 10, .array .int, true) := by decide +kernel
theorem nF_5_39 : ns_tF 5 39 = some (5, 11, .array .int, true) := by decide +kernel
theorem nF_5_42 : ns_tF 5 42 = some (5, 12, .array .int, true) := by decide +kernel
theorem nF_5_45 : ns_tF 5 45 = some (5, 13, .array .int, true) := by decide +kernel
theorem nF_5_48 : ns_tF 5 48 = some (5, 14, .array .int, true) := by decide +kernel
theorem nF_5_51 : ns_tF 5 51 = some (5, 15, .array .boolean, true) := by decide +kernel
theorem nF_5_54 : ns_tF 5 54 = some (5, 16, .array .boolean, true) := by decide +kernel
theorem nF_5_57 : ns_tF 5 57 = some (5, 17, .array .long, true) := by decide +kernel
theorem nF_5_61 : ns_tF 5 61 = some (5, 18, .array .int, true) := by decide +kernel
theorem nF_5_64 : ns_tF 5 64 = some (5, 19, .array .int, true) := by decide +kernel
theorem nF_5_67 : ns_tF 5 67 = some (5, 20, .array .int, true) := by decide +kernel
theorem nF_5_70 : ns_tF 5 70 = some (5, 21, .array .int, true) := by decide +kernel
theorem nF_5_73 : ns_tF 5 73 = some (5, 22, .array .int, true) := by decide +kernel
theorem nF_5_76 : ns_tF 5 76 = some (5, 23, .array .int, true) := by decide +kernel
theorem nF_5_79 : ns_tF 5 79 = some (5, 25, .array .int, true) := by decide +kernel
theorem nF_5_82 : ns_tF 5 82 = some (5, 26, .array .int, true) := by decide +kernel
theorem nF_5_85 : ns_tF 5 85 = some (5, 28, .array .int, true) := by decide +kernel
theorem nF_5_88 : ns_tF 5 88 = some (5, 29, .array .int, true) := by decide +kernel
theorem nF_5_91 : ns_tF 5 91 = some (5, 30, .array .int, true) := by decide +kernel
theorem nF_5_94 : ns_tF 5 94 = some (5, 31, .array .int, true) := by decide +kernel
theorem nF_5_97 : ns_tF 5 97 = some (5, 32, .array .long, true) := by decide +kernel
theorem nF_5_100 : ns_tF 5 100 = some (5, 33, .array .int, true) := by decide +kernel
theorem nF_5_103 : ns_tF 5 103 = some (5, 34, .array .int, true) := by decide +kernel
theorem nF_5_106 : ns_tF 5 106 = some (5, 35, .array .boolean, true) := by decide +kernel
theorem nF_5_109 : ns_tF 5 109 = some (5, 36, .array .boolean, true) := by decide +kernel
theorem nF_5_112 : ns_tF 5 112 = some (5, 38, .array .int, true) := by decide +kernel
theorem nF_5_115 : ns_tF 5 115 = some (5, 39, .array .int, true) := by decide +kernel
theorem nF_5_118 : ns_tF 5 118 = some (5, 41, .array .int, true) := by decide +kernel
theorem nF_5_121 : ns_tF 5 121 = some (5, 42, .array .int, true) := by decide +kernel
theorem nF_5_124 : ns_tF 5 124 = some (5, 0, .int, true) := by decide +kernel
theorem nF_5_134 : ns_tF 5 134 = some (5, 2, .int, false) := by decide +kernel
theorem nF_5_137 : ns_tF 5 137 = some (5, 40, .int, false) := by decide +kernel
theorem nF_5_140 : ns_tF 5 140 = some (5, 37, .int, false) := by decide +kernel
theorem nF_5_191 : ns_tF 5 191 = some (5, 27, .int, false) := by decide +kernel
theorem nF_5_194 : ns_tF 5 194 = some (5, 24, .int, false) := by decide +kernel
theorem nC_0_1 : ns_tC 0 1 = some (.inr 0, 0, 0, 0, 0, 2) := by decide +kernel
theorem nC_0_9 : ns_tC 0 9 = some (.inr 2, 0, 0, 0, 0, 0) := by decide +kernel
theorem nC_0_15 : ns_tC 0 15 = some (.inr 1, 0, 0, 0, 0, 0) := by decide +kernel
theorem nC_0_28 : ns_tC 0 28 = some (.inl 73, 0, 7, 117, 1, 2) := by decide +kernel
theorem nC_0_38 : ns_tC 0 38 = some (.inl 77, 0, 2, 60, 2, 2) := by decide +kernel
theorem nC_0_45 : ns_tC 0 45 = some (.inl 93, 1, 0, 0, 4, 2) := by decide +kernel
theorem nC_0_55 : ns_tC 0 55 = some (.inl 80, 1, 0, 0, 2, 0) := by decide +kernel
theorem nC_0_59 : ns_tC 0 59 = some (.inl 81, 1, 0, 0, 2, 1) := by decide +kernel
theorem nC_0_62 : ns_tC 0 62 = some (.inl 10, 1, 0, 0, 0, 0) := by decide +kernel
theorem nC_0_66 : ns_tC 0 66 = some (.inl 94, 0, 0, 0, 4, 1) := by decide +kernel
theorem nC_0_70 : ns_tC 0 70 = some (.inl 95, 0, 0, 0, 4, 1) := by decide +kernel
theorem nC_0_74 : ns_tC 0 74 = some (.inl 12, 1, 0, 0, 0, 1) := by decide +kernel
theorem nC_0_81 : ns_tC 0 81 = some (.inl 11, 1, 0, 0, 0, 0) := by decide +kernel
theorem nC_0_94 : ns_tC 0 94 = some (.inl 13, 3, 0, 0, 0, 1) := by decide +kernel
theorem nC_0_100 : ns_tC 0 100 = some (.inl 15, 1, 0, 0, 0, 1) := by decide +kernel
theorem nC_0_104 : ns_tC 0 104 = some (.inl 28, 0, 0, 0, 0, 1) := by decide +kernel
theorem nC_0_110 : ns_tC 0 110 = some (.inl 76, 0, 0, 0, 1, 1) := by decide +kernel
theorem nC_0_122 : ns_tC 0 122 = some (.inl 75, 0, 0, 0, 1, 1) := by decide +kernel
theorem nC_0_134 : ns_tC 0 134 = some (.inl 27, 0, 0, 0, 0, 1) := by decide +kernel
theorem nC_0_140 : ns_tC 0 140 = some (.inl 86, 1, 0, 0, 2, 1) := by decide +kernel
theorem nC_0_144 : ns_tC 0 144 = some (.inl 74, 0, 0, 0, 1, 1) := by decide +kernel
theorem nC_0_147 : ns_tC 0 147 = some (.inl 14, 1, 0, 0, 0, 1) := by decide +kernel
theorem nC_0_151 : ns_tC 0 151 = some (.inl 87, 1, 0, 0, 2, 1) := by decide +kernel
theorem nC_0_160 : ns_tC 0 160 = some (.inl 89, 0, 0, 0, 3, 1) := by decide +kernel
theorem nC_0_163 : ns_tC 0 163 = some (.inl 16, 1, 0, 0, 0, 1) := by decide +kernel
theorem nC_0_166 : ns_tC 0 166 = some (.inl 20, 1, 0, 0, 0, 1) := by decide +kernel
theorem nC_0_169 : ns_tC 0 169 = some (.inl 25, 1, 0, 0, 0, 1) := by decide +kernel
theorem nC_0_179 : ns_tC 0 179 = some (.inl 90, 1, 0, 0, 3, 1) := by decide +kernel
theorem nC_0_182 : ns_tC 0 182 = some (.inl 17, 1, 0, 0, 0, 1) := by decide +kernel
theorem nC_0_186 : ns_tC 0 186 = some (.inl 19, 2, 0, 0, 0, 1) := by decide +kernel
theorem nC_0_190 : ns_tC 0 190 = some (.inl 18, 1, 0, 0, 0, 1) := by decide +kernel
theorem nC_0_194 : ns_tC 0 194 = some (.inl 21, 1, 0, 0, 0, 1) := by decide +kernel
theorem nC_0_202 : ns_tC 0 202 = some (.inl 26, 2, 0, 0, 0, 1) := by decide +kernel
theorem nC_0_204 : ns_tC 0 204 = some (.inl 22, 1, 0, 0, 0, 1) := by decide +kernel
theorem nC_0_207 : ns_tC 0 207 = some (.inl 91, 2, 0, 0, 3, 1) := by decide +kernel
theorem nC_0_217 : ns_tC 0 217 = some (.inl 85, 1, 0, 0, 2, 1) := by decide +kernel
theorem nC_0_221 : ns_tC 0 221 = some (.inl 84, 1, 0, 0, 2, 1) := by decide +kernel
theorem nC_0_224 : ns_tC 0 224 = some (.inl 106, 2, 0, 0, 7, 0) := by decide +kernel
theorem nC_0_227 : ns_tC 0 227 = some (.inl 24, 2, 0, 0, 0, 1) := by decide +kernel
theorem nC_0_233 : ns_tC 0 233 = some (.inl 23, 3, 0, 0, 0, 0) := by decide +kernel
theorem nC_0_237 : ns_tC 0 237 = some (.inl 92, 1, 0, 0, 3, 1) := by decide +kernel
theorem nC_0_246 : ns_tC 0 246 = some (.inl 29, 0, 0, 0, 0, 1) := by decide +kernel
theorem nC_1_3 : ns_tC 1 3 = some (.inr 0, 0, 0, 0, 0, 2) := by decide +kernel
theorem nC_1_11 : ns_tC 1 11 = some (.inl 77, 0, 2, 60, 2, 2) := by decide +kernel
theorem nC_1_20 : ns_tC 1 20 = some (.inl 88, 0, 1, 12, 3, 2) := by decide +kernel
theorem nC_2_3 : ns_tC 2 3 = some (.inr 0, 0, 0, 0, 0, 2) := by decide +kernel
theorem nC_2_19 : ns_tC 2 19 = some (.inl 78, 1, 0, 0, 2, 0) := by decide +kernel
theorem nC_2_23 : ns_tC 2 23 = some (.inl 79, 1, 0, 0, 2, 0) := by decide +kernel
theorem nC_2_28 : ns_tC 2 28 = some (.inr 4, 0, 0, 0, 0, 1) := by decide +kernel
theorem nC_2_41 : ns_tC 2 41 = some (.inl 84, 1, 0, 0, 2, 1) := by decide +kernel
theorem nC_2_44 : ns_tC 2 44 = some (.inr 5, 0, 0, 0, 0, 0) := by decide +kernel
theorem nC_3_3 : ns_tC 3 3 = some (.inr 0, 0, 0, 0, 0, 2) := by decide +kernel
theorem nC_3_39 : ns_tC 3 39 = some (.inl 90, 1, 0, 0, 3, 1) := by decide +kernel
theorem nC_4_3 : ns_tC 4 3 = some (.inr 0, 0, 0, 0, 0, 2) := by decide +kernel
theorem nC_4_24 : ns_tC 4 24 = some (.inl 98, 1, 0, 0, 4, 1) := by decide +kernel
theorem nC_4_35 : ns_tC 4 35 = some (.inl 96, 0, 0, 0, 4, 1) := by decide +kernel
theorem nC_4_39 : ns_tC 4 39 = some (.inl 100, 1, 0, 0, 4, 1) := by decide +kernel
theorem nC_4_42 : ns_tC 4 42 = some (.inl 82, 2, 0, 0, 2, 1) := by decide +kernel
theorem nC_4_46 : ns_tC 4 46 = some (.inl 97, 1, 0, 0, 4, 1) := by decide +kernel
theorem nC_4_50 : ns_tC 4 50 = some (.inl 99, 1, 0, 0, 4, 1) := by decide +kernel
theorem nC_4_53 : ns_tC 4 53 = some (.inl 83, 1, 0, 0, 2, 1) := by decide +kernel
theorem nC_4_57 : ns_tC 4 57 = some (.inl 101, 1, 0, 0, 4, 1) := by decide +kernel
theorem nC_4_60 : ns_tC 4 60 = some (.inl 102, 1, 0, 0, 4, 1) := by decide +kernel
theorem nC_4_63 : ns_tC 4 63 = some (.inl 78, 1, 0, 0, 2, 0) := by decide +kernel
theorem nC_4_66 : ns_tC 4 66 = some (.inl 79, 1, 0, 0, 2, 0) := by decide +kernel
theorem nC_4_69 : ns_tC 4 69 = some (.inl 103, 0, 0, 0, 4, 1) := by decide +kernel
theorem nC_5_1 : ns_tC 5 1 = some (.inr 0, 0, 0, 0, 0, 2) := by decide +kernel
theorem nC_5_127 : ns_tC 5 127 = some (.inl 32, 1, 0, 0, 5, 0) := by decide +kernel
theorem nC_5_131 : ns_tC 5 131 = some (.inl 33, 1, 0, 0, 5, 0) := by decide +kernel
theorem nC_5_143 : ns_tC 5 143 = some (.inl 37, 1, 0, 0, 5, 0) := by decide +kernel
theorem nC_5_147 : ns_tC 5 147 = some (.inl 35, 2, 0, 0, 5, 1) := by decide +kernel
theorem nC_5_151 : ns_tC 5 151 = some (.inl 38, 1, 0, 0, 5, 1) := by decide +kernel
theorem nC_5_155 : ns_tC 5 155 = some (.inl 39, 0, 0, 0, 5, 1) := by decide +kernel
theorem nC_5_159 : ns_tC 5 159 = some (.inl 36, 2, 0, 0, 5, 1) := by decide +kernel
theorem nC_5_162 : ns_tC 5 162 = some (.inl 42, 0, 0, 0, 5, 1) := by decide +kernel
theorem nC_5_165 : ns_tC 5 165 = some (.inl 41, 0, 0, 0, 5, 1) := by decide +kernel
theorem nC_5_169 : ns_tC 5 169 = some (.inl 44, 0, 0, 0, 5, 1) := by decide +kernel
theorem nC_5_172 : ns_tC 5 172 = some (.inl 43, 0, 0, 0, 5, 1) := by decide +kernel
theorem nC_5_175 : ns_tC 5 175 = some (.inl 40, 2, 0, 0, 5, 1) := by decide +kernel
theorem nC_5_179 : ns_tC 5 179 = some (.inl 45, 1, 0, 0, 5, 1) := by decide +kernel
theorem nC_5_182 : ns_tC 5 182 = some (.inl 46, 0, 0, 0, 5, 1) := by decide +kernel
theorem nC_5_185 : ns_tC 5 185 = some (.inl 31, 1, 0, 0, 5, 0) := by decide +kernel
theorem nC_5_188 : ns_tC 5 188 = some (.inl 48, 1, 0, 0, 5, 1) := by decide +kernel
theorem nC_5_197 : ns_tC 5 197 = some (.inl 58, 2, 0, 0, 5, 1) := by decide +kernel
theorem nC_5_200 : ns_tC 5 200 = some (.inl 59, 2, 0, 0, 5, 1) := by decide +kernel
theorem nC_5_203 : ns_tC 5 203 = some (.inl 60, 3, 0, 0, 5, 1) := by decide +kernel
theorem nC_5_207 : ns_tC 5 207 = some (.inl 63, 2, 0, 0, 5, 1) := by decide +kernel
theorem nC_5_210 : ns_tC 5 210 = some (.inl 54, 2, 0, 0, 5, 1) := by decide +kernel
theorem nC_5_213 : ns_tC 5 213 = some (.inl 55, 0, 0, 0, 5, 1) := by decide +kernel
theorem nC_5_216 : ns_tC 5 216 = some (.inl 51, 1, 0, 0, 5, 1) := by decide +kernel
theorem nC_5_219 : ns_tC 5 219 = some (.inl 50, 1, 0, 0, 5, 1) := by decide +kernel
theorem nC_5_222 : ns_tC 5 222 = some (.inl 53, 2, 0, 0, 5, 1) := by decide +kernel
theorem nC_5_225 : ns_tC 5 225 = some (.inl 52, 1, 0, 0, 5, 1) := by decide +kernel
theorem nC_5_228 : ns_tC 5 228 = some (.inl 56, 1, 0, 0, 5, 1) := by decide +kernel
theorem nC_5_231 : ns_tC 5 231 = some (.inl 65, 3, 0, 0, 5, 1) := by decide +kernel
theorem nC_5_235 : ns_tC 5 235 = some (.inl 61, 2, 0, 0, 5, 1) := by decide +kernel
theorem nC_5_239 : ns_tC 5 239 = some (.inl 62, 1, 0, 0, 5, 1) := by decide +kernel
theorem nC_5_243 : ns_tC 5 243 = some (.inl 64, 2, 0, 0, 5, 1) := by decide +kernel
theorem nC_5_250 : ns_tC 5 250 = some (.inl 57, 0, 0, 0, 5, 1) := by decide +kernel
theorem nC_5_253 : ns_tC 5 253 = some (.inl 66, 0, 0, 0, 5, 1) := by decide +kernel
theorem nC_6_9 : ns_tC 6 9 = some (.inl 104, 2, 0, 0, 6, 0) := by decide +kernel
theorem nC_6_15 : ns_tC 6 15 = some (.inl 0, 1, 103, 1620, 0, 2) := by decide +kernel
theorem nC_6_20 : ns_tC 6 20 = some (.inl 30, 1, 36, 2344, 5, 2) := by decide +kernel
theorem nC_6_21 : ns_tC 6 21 = some (.inl 1, 1, 0, 0, 0, 1) := by decide +kernel
theorem nC_6_25 : ns_tC 6 25 = some (.inl 34, 1, 0, 0, 5, 1) := by decide +kernel
theorem nC_6_26 : ns_tC 6 26 = some (.inl 2, 1, 0, 0, 0, 1) := by decide +kernel
theorem nC_6_30 : ns_tC 6 30 = some (.inl 47, 1, 0, 0, 5, 1) := by decide +kernel
theorem nC_6_31 : ns_tC 6 31 = some (.inl 3, 3, 0, 0, 0, 1) := by decide +kernel
theorem nC_6_35 : ns_tC 6 35 = some (.inl 49, 3, 0, 0, 5, 1) := by decide +kernel
theorem nC_6_36 : ns_tC 6 36 = some (.inl 4, 1, 0, 0, 0, 1) := by decide +kernel
theorem nC_6_40 : ns_tC 6 40 = some (.inl 67, 1, 0, 0, 5, 1) := by decide +kernel
theorem nC_6_41 : ns_tC 6 41 = some (.inl 5, 0, 0, 0, 0, 1) := by decide +kernel
theorem nC_6_45 : ns_tC 6 45 = some (.inl 68, 0, 0, 0, 5, 1) := by decide +kernel
theorem nC_6_46 : ns_tC 6 46 = some (.inl 6, 1, 0, 0, 0, 1) := by decide +kernel
theorem nC_6_49 : ns_tC 6 49 = some (.inl 69, 1, 0, 0, 5, 1) := by decide +kernel
theorem nC_6_50 : ns_tC 6 50 = some (.inl 7, 2, 0, 0, 0, 1) := by decide +kernel
theorem nC_6_54 : ns_tC 6 54 = some (.inl 70, 2, 0, 0, 5, 1) := by decide +kernel
theorem nC_6_55 : ns_tC 6 55 = some (.inl 8, 2, 0, 0, 0, 1) := by decide +kernel
theorem nC_6_58 : ns_tC 6 58 = some (.inl 71, 2, 0, 0, 5, 1) := by decide +kernel
theorem nC_6_59 : ns_tC 6 59 = some (.inl 9, 1, 0, 0, 0, 1) := by decide +kernel
theorem nC_6_62 : ns_tC 6 62 = some (.inl 72, 1, 0, 0, 5, 1) := by decide +kernel
theorem nK_0_98 : ns_tK 0 98 = some (.long (-1)) := by decide +kernel
theorem nK_0_231 : ns_tK 0 231 = some (.long 1099511627776) := by decide +kernel
theorem nK_2_26 : ns_tK 2 26 = some (.retAddr 1) := by decide +kernel
theorem nK_5_246 : ns_tK 5 246 = some (.long 1099511627776) := by decide +kernel
theorem nK_5_248 : ns_tK 5 248 = some (.long (-1)) := by decide +kernel
theorem nN_0_22 : ns_tN 0 22 = some (1, [.null, .null, .null, .null, .int 0, .int 0, .int 0, .int 0, .int 0, .int 0, .int 0], "NoteSheet$Cell") := by decide +kernel
theorem nN_0_36 : ns_tN 0 36 = some (2, [.null, .null, .int 0, .int 0], "NoteSheet$Formula") := by decide +kernel
theorem nN_0_43 : ns_tN 0 43 = some (4, [.null, .int 0], "NoteSheet$Parser") := by decide +kernel
theorem nN_1_9 : ns_tN 1 9 = some (2, [.null, .null, .int 0, .int 0], "NoteSheet$Formula") := by decide +kernel
theorem nN_1_18 : ns_tN 1 18 = some (3, [.null, .int 0, .int 0, .int 0, .long 0, .int 0, .int 0, .int 0], "NoteSheet$Note") := by decide +kernel
theorem nN_6_7 : ns_tN 6 7 = some (0, [.null, .null, .null, .null, .null, .int 0, .int 0, .int 0], "NoteSheet") := by decide +kernel
theorem nN_6_18 : ns_tN 6 18 = some (5, [.int 0, .null, .int 0, .int 0, .null, .null, .null, .null, .null, .null, .null, .null, .null, .null, .null, .null, .null, .null, .null, .null, .null, .null, .null, .null, .int 0, .null, .null, .int 0, .null, .null, .null, .null, .null, .null, .null, .null, .null, .int 0, .null, .null, .int 0, .null, .null], "NoteSheetModel") := by decide +kernel
end
section
theorem ns_in {w : Cond} (i : Nat) (h : tables_1[i]? = some w) (g : goodWord w = true) : w ∈ ns_Tb := List.mem_filter.mpr ⟨List.mem_append_right _ (List.mem_of_getElem? h), g⟩
theorem ns_inS {y : MethodName} {n : Nat} (i : Nat) (h : lw_privs[i]? = some (y, n)) (g : goodWord (Cond.selects y.cls y y) = true) : Cond.selects y.cls y y ∈ ns_Tb := List.mem_filter.mpr ⟨List.mem_append_left _ (List.mem_map.mpr ⟨(y, n), List.mem_of_getElem? h, rfl⟩), g⟩
theorem ns_good : GoodIn ns_Tb ns_Tb := fun w h => ⟨h, good_of_word (List.mem_filter.mp h).2⟩
theorem nw_165 : Cond.laysFinal "NoteSheet" "NoteSheet" "cells" "[LNoteSheet$Cell;" ∈ ns_Tb := ns_in 165 (by decide +kernel) (by decide +kernel)
theorem nw_167 : Cond.laysFinal "NoteSheet" "NoteSheet" "lastChanges" "[I" ∈ ns_Tb := ns_in 167 (by decide +kernel) (by decide +kernel)
theorem nw_169 : Cond.laysFinal "NoteSheet" "NoteSheet" "latestTally" "[I" ∈ ns_Tb := ns_in 169 (by decide +kernel) (by decide +kernel)
theorem nw_171 : Cond.laysFinal "NoteSheet" "NoteSheet" "pad" "LNoteSheet$Formula;" ∈ ns_Tb := ns_in 171 (by decide +kernel) (by decide +kernel)
theorem nw_173 : Cond.laysFinal "NoteSheet" "NoteSheet" "parser" "LNoteSheet$Parser;" ∈ ns_Tb := ns_in 173 (by decide +kernel) (by decide +kernel)
theorem nw_175 : Cond.laysFinal "NoteSheet" "NoteSheet" "kept" "I" ∈ ns_Tb := ns_in 175 (by decide +kernel) (by decide +kernel)
theorem nw_177 : Cond.lays "NoteSheet" "NoteSheet" "now" "I" ∈ ns_Tb := ns_in 177 (by decide +kernel) (by decide +kernel)
theorem nw_179 : Cond.lays "NoteSheet" "NoteSheet" "uses" "I" ∈ ns_Tb := ns_in 179 (by decide +kernel) (by decide +kernel)
theorem ns_w0 : ∀ w ∈ u_ws "NoteSheet" ns_T0 8, w ∈ ns_Tb := List.forall_mem_cons.mpr ⟨nw_165, List.forall_mem_cons.mpr ⟨nw_167, List.forall_mem_cons.mpr ⟨nw_169, List.forall_mem_cons.mpr ⟨nw_171, List.forall_mem_cons.mpr ⟨nw_173, List.forall_mem_cons.mpr ⟨nw_175, List.forall_mem_cons.mpr ⟨nw_177, List.forall_mem_cons.mpr ⟨nw_179, fun _ h => absurd h List.not_mem_nil⟩⟩⟩⟩⟩⟩⟩⟩
theorem nw_119 : Cond.laysFinal "NoteSheet$Cell" "NoteSheet$Cell" "formula" "LNoteSheet$Formula;" ∈ ns_Tb := ns_in 119 (by decide +kernel) (by decide +kernel)
theorem nw_121 : Cond.laysFinal "NoteSheet$Cell" "NoteSheet$Cell" "note" "LNoteSheet$Note;" ∈ ns_Tb := ns_in 121 (by decide +kernel) (by decide +kernel)
theorem nw_123 : Cond.laysFinal "NoteSheet$Cell" "NoteSheet$Cell" "tally" "[I" ∈ ns_Tb := ns_in 123 (by decide +kernel) (by decide +kernel)
theorem nw_125 : Cond.laysFinal "NoteSheet$Cell" "NoteSheet$Cell" "stack" "[I" ∈ ns_Tb := ns_in 125 (by decide +kernel) (by decide +kernel)
theorem nw_127 : Cond.lays "NoteSheet$Cell" "NoteSheet$Cell" "hasFormula" "Z" ∈ ns_Tb := ns_in 127 (by decide +kernel) (by decide +kernel)
theorem nw_129 : Cond.lays "NoteSheet$Cell" "NoteSheet$Cell" "formulaChanged" "I" ∈ ns_Tb := ns_in 129 (by decide +kernel) (by decide +kernel)
theorem nw_131 : Cond.lays "NoteSheet$Cell" "NoteSheet$Cell" "number" "I" ∈ ns_Tb := ns_in 131 (by decide +kernel) (by decide +kernel)
theorem nw_133 : Cond.lays "NoteSheet$Cell" "NoteSheet$Cell" "durability" "I" ∈ ns_Tb := ns_in 133 (by decide +kernel) (by decide +kernel)
theorem nw_135 : Cond.lays "NoteSheet$Cell" "NoteSheet$Cell" "inputSince" "I" ∈ ns_Tb := ns_in 135 (by decide +kernel) (by decide +kernel)
theorem nw_137 : Cond.lays "NoteSheet$Cell" "NoteSheet$Cell" "atWork" "Z" ∈ ns_Tb := ns_in 137 (by decide +kernel) (by decide +kernel)
theorem nw_139 : Cond.lays "NoteSheet$Cell" "NoteSheet$Cell" "lastUse" "I" ∈ ns_Tb := ns_in 139 (by decide +kernel) (by decide +kernel)
theorem ns_w1 : ∀ w ∈ u_ws "NoteSheet$Cell" ns_T1 11, w ∈ ns_Tb := List.forall_mem_cons.mpr ⟨nw_119, List.forall_mem_cons.mpr ⟨nw_121, List.forall_mem_cons.mpr ⟨nw_123, List.forall_mem_cons.mpr ⟨nw_125, List.forall_mem_cons.mpr ⟨nw_127, List.forall_mem_cons.mpr ⟨nw_129, List.forall_mem_cons.mpr ⟨nw_131, List.forall_mem_cons.mpr ⟨nw_133, List.forall_mem_cons.mpr ⟨nw_135, List.forall_mem_cons.mpr ⟨nw_137, List.forall_mem_cons.mpr ⟨nw_139, fun _ h => absurd h List.not_mem_nil⟩⟩⟩⟩⟩⟩⟩⟩⟩⟩⟩
theorem nw_50 : Cond.laysFinal "NoteSheet$Formula" "NoteSheet$Formula" "text" "[C" ∈ ns_Tb := ns_in 50 (by decide +kernel) (by decide +kernel)
theorem nw_52 : Cond.laysFinal "NoteSheet$Formula" "NoteSheet$Formula" "steps" "[I" ∈ ns_Tb := ns_in 52 (by decide +kernel) (by decide +kernel)
theorem nw_54 : Cond.lays "NoteSheet$Formula" "NoteSheet$Formula" "length" "I" ∈ ns_Tb := ns_in 54 (by decide +kernel) (by decide +kernel)
theorem nw_56 : Cond.lays "NoteSheet$Formula" "NoteSheet$Formula" "stepCount" "I" ∈ ns_Tb := ns_in 56 (by decide +kernel) (by decide +kernel)
theorem ns_w2 : ∀ w ∈ u_ws "NoteSheet$Formula" ns_T2 4, w ∈ ns_Tb := List.forall_mem_cons.mpr ⟨nw_50, List.forall_mem_cons.mpr ⟨nw_52, List.forall_mem_cons.mpr ⟨nw_54, List.forall_mem_cons.mpr ⟨nw_56, fun _ h => absurd h List.not_mem_nil⟩⟩⟩⟩
theorem nw_84 : Cond.laysFinal "NoteSheet$Note" "NoteSheet$Note" "reads" "[I" ∈ ns_Tb := ns_in 84 (by decide +kernel) (by decide +kernel)
theorem nw_86 : Cond.lays "NoteSheet$Note" "NoteSheet$Note" "readCount" "I" ∈ ns_Tb := ns_in 86 (by decide +kernel) (by decide +kernel)
theorem nw_88 : Cond.lays "NoteSheet$Note" "NoteSheet$Note" "exists" "Z" ∈ ns_Tb := ns_in 88 (by decide +kernel) (by decide +kernel)
theorem nw_90 : Cond.lays "NoteSheet$Note" "NoteSheet$Note" "hasValue" "Z" ∈ ns_Tb := ns_in 90 (by decide +kernel) (by decide +kernel)
theorem nw_92 : Cond.lays "NoteSheet$Note" "NoteSheet$Note" "value" "J" ∈ ns_Tb := ns_in 92 (by decide +kernel) (by decide +kernel)
theorem nw_94 : Cond.lays "NoteSheet$Note" "NoteSheet$Note" "verified" "I" ∈ ns_Tb := ns_in 94 (by decide +kernel) (by decide +kernel)
theorem nw_96 : Cond.lays "NoteSheet$Note" "NoteSheet$Note" "since" "I" ∈ ns_Tb := ns_in 96 (by decide +kernel) (by decide +kernel)
theorem nw_98 : Cond.lays "NoteSheet$Note" "NoteSheet$Note" "durability" "I" ∈ ns_Tb := ns_in 98 (by decide +kernel) (by decide +kernel)
theorem ns_w3 : ∀ w ∈ u_ws "NoteSheet$Note" ns_T3 8, w ∈ ns_Tb := List.forall_mem_cons.mpr ⟨nw_84, List.forall_mem_cons.mpr ⟨nw_86, List.forall_mem_cons.mpr ⟨nw_88, List.forall_mem_cons.mpr ⟨nw_90, List.forall_mem_cons.mpr ⟨nw_92, List.forall_mem_cons.mpr ⟨nw_94, List.forall_mem_cons.mpr ⟨nw_96, List.forall_mem_cons.mpr ⟨nw_98, fun _ h => absurd h List.not_mem_nil⟩⟩⟩⟩⟩⟩⟩⟩
theorem nw_152 : Cond.laysFinal "NoteSheet$Parser" "NoteSheet$Parser" "formula" "LNoteSheet$Formula;" ∈ ns_Tb := ns_in 152 (by decide +kernel) (by decide +kernel)
theorem nw_154 : Cond.lays "NoteSheet$Parser" "NoteSheet$Parser" "at" "I" ∈ ns_Tb := ns_in 154 (by decide +kernel) (by decide +kernel)
theorem ns_w4 : ∀ w ∈ u_ws "NoteSheet$Parser" ns_T4 2, w ∈ ns_Tb := List.forall_mem_cons.mpr ⟨nw_152, List.forall_mem_cons.mpr ⟨nw_154, fun _ h => absurd h List.not_mem_nil⟩⟩
theorem nw_548 : Cond.laysFinal "NoteSheetModel" "NoteSheetModel" "most" "I" ∈ ns_Tb := ns_in 548 (by decide +kernel) (by decide +kernel)
theorem nw_550 : Cond.laysFinal "NoteSheetModel" "NoteSheetModel" "pad" "[I" ∈ ns_Tb := ns_in 550 (by decide +kernel) (by decide +kernel)
theorem nw_552 : Cond.lays "NoteSheetModel" "NoteSheetModel" "length" "I" ∈ ns_Tb := ns_in 552 (by decide +kernel) (by decide +kernel)
theorem nw_554 : Cond.lays "NoteSheetModel" "NoteSheetModel" "revision" "I" ∈ ns_Tb := ns_in 554 (by decide +kernel) (by decide +kernel)
theorem nw_556 : Cond.laysFinal "NoteSheetModel" "NoteSheetModel" "changes" "[I" ∈ ns_Tb := ns_in 556 (by decide +kernel) (by decide +kernel)
theorem nw_558 : Cond.laysFinal "NoteSheetModel" "NoteSheetModel" "formula" "[Z" ∈ ns_Tb := ns_in 558 (by decide +kernel) (by decide +kernel)
theorem nw_560 : Cond.laysFinal "NoteSheetModel" "NoteSheetModel" "text" "[I" ∈ ns_Tb := ns_in 560 (by decide +kernel) (by decide +kernel)
theorem nw_562 : Cond.laysFinal "NoteSheetModel" "NoteSheetModel" "size" "[I" ∈ ns_Tb := ns_in 562 (by decide +kernel) (by decide +kernel)
theorem nw_564 : Cond.laysFinal "NoteSheetModel" "NoteSheetModel" "steps" "[I" ∈ ns_Tb := ns_in 564 (by decide +kernel) (by decide +kernel)
theorem nw_566 : Cond.laysFinal "NoteSheetModel" "NoteSheetModel" "step" "[I" ∈ ns_Tb := ns_in 566 (by decide +kernel) (by decide +kernel)
theorem nw_568 : Cond.laysFinal "NoteSheetModel" "NoteSheetModel" "with" "[I" ∈ ns_Tb := ns_in 568 (by decide +kernel) (by decide +kernel)
theorem nw_570 : Cond.laysFinal "NoteSheetModel" "NoteSheetModel" "altered" "[I" ∈ ns_Tb := ns_in 570 (by decide +kernel) (by decide +kernel)
theorem nw_572 : Cond.laysFinal "NoteSheetModel" "NoteSheetModel" "number" "[I" ∈ ns_Tb := ns_in 572 (by decide +kernel) (by decide +kernel)
theorem nw_574 : Cond.laysFinal "NoteSheetModel" "NoteSheetModel" "durable" "[I" ∈ ns_Tb := ns_in 574 (by decide +kernel) (by decide +kernel)
theorem nw_576 : Cond.laysFinal "NoteSheetModel" "NoteSheetModel" "born" "[I" ∈ ns_Tb := ns_in 576 (by decide +kernel) (by decide +kernel)
theorem nw_578 : Cond.laysFinal "NoteSheetModel" "NoteSheetModel" "noted" "[Z" ∈ ns_Tb := ns_in 578 (by decide +kernel) (by decide +kernel)
theorem nw_580 : Cond.laysFinal "NoteSheetModel" "NoteSheetModel" "valued" "[Z" ∈ ns_Tb := ns_in 580 (by decide +kernel) (by decide +kernel)
theorem nw_582 : Cond.laysFinal "NoteSheetModel" "NoteSheetModel" "value" "[J" ∈ ns_Tb := ns_in 582 (by decide +kernel) (by decide +kernel)
theorem nw_584 : Cond.laysFinal "NoteSheetModel" "NoteSheetModel" "verified" "[I" ∈ ns_Tb := ns_in 584 (by decide +kernel) (by decide +kernel)
theorem nw_586 : Cond.laysFinal "NoteSheetModel" "NoteSheetModel" "since" "[I" ∈ ns_Tb := ns_in 586 (by decide +kernel) (by decide +kernel)
theorem nw_588 : Cond.laysFinal "NoteSheetModel" "NoteSheetModel" "noteDurable" "[I" ∈ ns_Tb := ns_in 588 (by decide +kernel) (by decide +kernel)
theorem nw_590 : Cond.laysFinal "NoteSheetModel" "NoteSheetModel" "reads" "[I" ∈ ns_Tb := ns_in 590 (by decide +kernel) (by decide +kernel)
theorem nw_592 : Cond.laysFinal "NoteSheetModel" "NoteSheetModel" "readCell" "[I" ∈ ns_Tb := ns_in 592 (by decide +kernel) (by decide +kernel)
theorem nw_594 : Cond.laysFinal "NoteSheetModel" "NoteSheetModel" "used" "[I" ∈ ns_Tb := ns_in 594 (by decide +kernel) (by decide +kernel)
theorem nw_596 : Cond.lays "NoteSheetModel" "NoteSheetModel" "clock" "I" ∈ ns_Tb := ns_in 596 (by decide +kernel) (by decide +kernel)
theorem nw_598 : Cond.laysFinal "NoteSheetModel" "NoteSheetModel" "often" "[I" ∈ ns_Tb := ns_in 598 (by decide +kernel) (by decide +kernel)
theorem nw_600 : Cond.laysFinal "NoteSheetModel" "NoteSheetModel" "lately" "[I" ∈ ns_Tb := ns_in 600 (by decide +kernel) (by decide +kernel)
theorem nw_602 : Cond.lays "NoteSheetModel" "NoteSheetModel" "opened" "I" ∈ ns_Tb := ns_in 602 (by decide +kernel) (by decide +kernel)
theorem nw_604 : Cond.laysFinal "NoteSheetModel" "NoteSheetModel" "open" "[I" ∈ ns_Tb := ns_in 604 (by decide +kernel) (by decide +kernel)
theorem nw_606 : Cond.laysFinal "NoteSheetModel" "NoteSheetModel" "mode" "[I" ∈ ns_Tb := ns_in 606 (by decide +kernel) (by decide +kernel)
theorem nw_608 : Cond.laysFinal "NoteSheetModel" "NoteSheetModel" "at" "[I" ∈ ns_Tb := ns_in 608 (by decide +kernel) (by decide +kernel)
theorem nw_610 : Cond.laysFinal "NoteSheetModel" "NoteSheetModel" "depth" "[I" ∈ ns_Tb := ns_in 610 (by decide +kernel) (by decide +kernel)
theorem nw_612 : Cond.laysFinal "NoteSheetModel" "NoteSheetModel" "stack" "[J" ∈ ns_Tb := ns_in 612 (by decide +kernel) (by decide +kernel)
theorem nw_614 : Cond.laysFinal "NoteSheetModel" "NoteSheetModel" "found" "[I" ∈ ns_Tb := ns_in 614 (by decide +kernel) (by decide +kernel)
theorem nw_616 : Cond.laysFinal "NoteSheetModel" "NoteSheetModel" "foundCell" "[I" ∈ ns_Tb := ns_in 616 (by decide +kernel) (by decide +kernel)
theorem nw_618 : Cond.laysFinal "NoteSheetModel" "NoteSheetModel" "atWork" "[Z" ∈ ns_Tb := ns_in 618 (by decide +kernel) (by decide +kernel)
theorem nw_620 : Cond.laysFinal "NoteSheetModel" "NoteSheetModel" "ring" "[Z" ∈ ns_Tb := ns_in 620 (by decide +kernel) (by decide +kernel)
theorem nw_622 : Cond.lays "NoteSheetModel" "NoteSheetModel" "signs" "I" ∈ ns_Tb := ns_in 622 (by decide +kernel) (by decide +kernel)
theorem nw_624 : Cond.laysFinal "NoteSheetModel" "NoteSheetModel" "sign" "[I" ∈ ns_Tb := ns_in 624 (by decide +kernel) (by decide +kernel)
theorem nw_626 : Cond.laysFinal "NoteSheetModel" "NoteSheetModel" "mend" "[I" ∈ ns_Tb := ns_in 626 (by decide +kernel) (by decide +kernel)
theorem nw_628 : Cond.lays "NoteSheetModel" "NoteSheetModel" "made" "I" ∈ ns_Tb := ns_in 628 (by decide +kernel) (by decide +kernel)
theorem nw_630 : Cond.laysFinal "NoteSheetModel" "NoteSheetModel" "newStep" "[I" ∈ ns_Tb := ns_in 630 (by decide +kernel) (by decide +kernel)
theorem nw_632 : Cond.laysFinal "NoteSheetModel" "NoteSheetModel" "newWith" "[I" ∈ ns_Tb := ns_in 632 (by decide +kernel) (by decide +kernel)
theorem ns_w5 : ∀ w ∈ u_ws "NoteSheetModel" ns_T5 43, w ∈ ns_Tb := List.forall_mem_cons.mpr ⟨nw_548, List.forall_mem_cons.mpr ⟨nw_550, List.forall_mem_cons.mpr ⟨nw_552, List.forall_mem_cons.mpr ⟨nw_554, List.forall_mem_cons.mpr ⟨nw_556, List.forall_mem_cons.mpr ⟨nw_558, List.forall_mem_cons.mpr ⟨nw_560, List.forall_mem_cons.mpr ⟨nw_562, List.forall_mem_cons.mpr ⟨nw_564, List.forall_mem_cons.mpr ⟨nw_566, List.forall_mem_cons.mpr ⟨nw_568, List.forall_mem_cons.mpr ⟨nw_570, List.forall_mem_cons.mpr ⟨nw_572, List.forall_mem_cons.mpr ⟨nw_574, List.forall_mem_cons.mpr ⟨nw_576, List.forall_mem_cons.mpr ⟨nw_578, List.forall_mem_cons.mpr ⟨nw_580, List.forall_mem_cons.mpr ⟨nw_582, List.forall_mem_cons.mpr ⟨nw_584, List.forall_mem_cons.mpr ⟨nw_586, List.forall_mem_cons.mpr ⟨nw_588, List.forall_mem_cons.mpr ⟨nw_590, List.forall_mem_cons.mpr ⟨nw_592, List.forall_mem_cons.mpr ⟨nw_594, List.forall_mem_cons.mpr ⟨nw_596, List.forall_mem_cons.mpr ⟨nw_598, List.forall_mem_cons.mpr ⟨nw_600, List.forall_mem_cons.mpr ⟨nw_602, List.forall_mem_cons.mpr ⟨nw_604, List.forall_mem_cons.mpr ⟨nw_606, List.forall_mem_cons.mpr ⟨nw_608, List.forall_mem_cons.mpr ⟨nw_610, List.forall_mem_cons.mpr ⟨nw_612, List.forall_mem_cons.mpr ⟨nw_614, List.forall_mem_cons.mpr ⟨nw_616, List.forall_mem_cons.mpr ⟨nw_618, List.forall_mem_cons.mpr ⟨nw_620, List.forall_mem_cons.mpr ⟨nw_622, List.forall_mem_cons.mpr ⟨nw_624, List.forall_mem_cons.mpr ⟨nw_626, List.forall_mem_cons.mpr ⟨nw_628, List.forall_mem_cons.mpr ⟨nw_630, List.forall_mem_cons.mpr ⟨nw_632, fun _ h => absurd h List.not_mem_nil⟩⟩⟩⟩⟩⟩⟩⟩⟩⟩⟩⟩⟩⟩⟩⟩⟩⟩⟩⟩⟩⟩⟩⟩⟩⟩⟩⟩⟩⟩⟩⟩⟩⟩⟩⟩⟩⟩⟩⟩⟩⟩⟩
theorem nw_162 : Cond.fieldLink "NoteSheet" 18 "NoteSheet" "kept" "I" ∈ ns_Tb := ns_in 162 (by decide +kernel) (by decide +kernel)
theorem nw_157 : Cond.fieldLink "NoteSheet" 24 "NoteSheet" "cells" "[LNoteSheet$Cell;" ∈ ns_Tb := ns_in 157 (by decide +kernel) (by decide +kernel)
theorem nw_158 : Cond.fieldLink "NoteSheet" 29 "NoteSheet" "lastChanges" "[I" ∈ ns_Tb := ns_in 158 (by decide +kernel) (by decide +kernel)
theorem nw_159 : Cond.fieldLink "NoteSheet" 33 "NoteSheet" "latestTally" "[I" ∈ ns_Tb := ns_in 159 (by decide +kernel) (by decide +kernel)
theorem nw_160 : Cond.fieldLink "NoteSheet" 39 "NoteSheet" "pad" "LNoteSheet$Formula;" ∈ ns_Tb := ns_in 160 (by decide +kernel) (by decide +kernel)
theorem nw_161 : Cond.fieldLink "NoteSheet" 48 "NoteSheet" "parser" "LNoteSheet$Parser;" ∈ ns_Tb := ns_in 161 (by decide +kernel) (by decide +kernel)
theorem nw_163 : Cond.fieldLink "NoteSheet" 52 "NoteSheet" "now" "I" ∈ ns_Tb := ns_in 163 (by decide +kernel) (by decide +kernel)
theorem nw_45 : Cond.fieldLink "NoteSheet" 78 "NoteSheet$Formula" "length" "I" ∈ ns_Tb := ns_in 45 (by decide +kernel) (by decide +kernel)
theorem nw_110 : Cond.fieldLink "NoteSheet" 84 "NoteSheet$Cell" "hasFormula" "Z" ∈ ns_Tb := ns_in 110 (by decide +kernel) (by decide +kernel)
theorem nw_112 : Cond.fieldLink "NoteSheet" 88 "NoteSheet$Cell" "number" "I" ∈ ns_Tb := ns_in 112 (by decide +kernel) (by decide +kernel)
theorem nw_114 : Cond.fieldLink "NoteSheet" 91 "NoteSheet$Cell" "durability" "I" ∈ ns_Tb := ns_in 114 (by decide +kernel) (by decide +kernel)
theorem nw_106 : Cond.fieldLink "NoteSheet" 107 "NoteSheet$Cell" "tally" "[I" ∈ ns_Tb := ns_in 106 (by decide +kernel) (by decide +kernel)
theorem nw_104 : Cond.fieldLink "NoteSheet" 113 "NoteSheet$Cell" "note" "LNoteSheet$Note;" ∈ ns_Tb := ns_in 104 (by decide +kernel) (by decide +kernel)
theorem nw_78 : Cond.fieldLink "NoteSheet" 117 "NoteSheet$Note" "verified" "I" ∈ ns_Tb := ns_in 78 (by decide +kernel) (by decide +kernel)
theorem nw_70 : Cond.fieldLink "NoteSheet" 125 "NoteSheet$Note" "readCount" "I" ∈ ns_Tb := ns_in 70 (by decide +kernel) (by decide +kernel)
theorem nw_74 : Cond.fieldLink "NoteSheet" 128 "NoteSheet$Note" "hasValue" "Z" ∈ ns_Tb := ns_in 74 (by decide +kernel) (by decide +kernel)
theorem nw_68 : Cond.fieldLink "NoteSheet" 131 "NoteSheet$Note" "reads" "[I" ∈ ns_Tb := ns_in 68 (by decide +kernel) (by decide +kernel)
theorem nw_102 : Cond.fieldLink "NoteSheet" 137 "NoteSheet$Cell" "formula" "LNoteSheet$Formula;" ∈ ns_Tb := ns_in 102 (by decide +kernel) (by decide +kernel)
theorem nw_111 : Cond.fieldLink "NoteSheet" 154 "NoteSheet$Cell" "formulaChanged" "I" ∈ ns_Tb := ns_in 111 (by decide +kernel) (by decide +kernel)
theorem nw_116 : Cond.fieldLink "NoteSheet" 157 "NoteSheet$Cell" "inputSince" "I" ∈ ns_Tb := ns_in 116 (by decide +kernel) (by decide +kernel)
theorem nw_76 : Cond.fieldLink "NoteSheet" 172 "NoteSheet$Note" "value" "J" ∈ ns_Tb := ns_in 76 (by decide +kernel) (by decide +kernel)
theorem nw_117 : Cond.fieldLink "NoteSheet" 176 "NoteSheet$Cell" "atWork" "Z" ∈ ns_Tb := ns_in 117 (by decide +kernel) (by decide +kernel)
theorem nw_83 : Cond.fieldLink "NoteSheet" 198 "NoteSheet$Note" "durability" "I" ∈ ns_Tb := ns_in 83 (by decide +kernel) (by decide +kernel)
theorem nw_72 : Cond.fieldLink "NoteSheet" 199 "NoteSheet$Note" "exists" "Z" ∈ ns_Tb := ns_in 72 (by decide +kernel) (by decide +kernel)
theorem nw_108 : Cond.fieldLink "NoteSheet" 211 "NoteSheet$Cell" "stack" "[I" ∈ ns_Tb := ns_in 108 (by decide +kernel) (by decide +kernel)
theorem nw_49 : Cond.fieldLink "NoteSheet" 214 "NoteSheet$Formula" "stepCount" "I" ∈ ns_Tb := ns_in 49 (by decide +kernel) (by decide +kernel)
theorem nw_164 : Cond.fieldLink "NoteSheet" 240 "NoteSheet" "uses" "I" ∈ ns_Tb := ns_in 164 (by decide +kernel) (by decide +kernel)
theorem nw_118 : Cond.fieldLink "NoteSheet" 243 "NoteSheet$Cell" "lastUse" "I" ∈ ns_Tb := ns_in 118 (by decide +kernel) (by decide +kernel)
theorem nw_101 : Cond.fieldLink "NoteSheet$Cell" 12 "NoteSheet$Cell" "formula" "LNoteSheet$Formula;" ∈ ns_Tb := ns_in 101 (by decide +kernel) (by decide +kernel)
theorem nw_103 : Cond.fieldLink "NoteSheet$Cell" 21 "NoteSheet$Cell" "note" "LNoteSheet$Note;" ∈ ns_Tb := ns_in 103 (by decide +kernel) (by decide +kernel)
theorem nw_105 : Cond.fieldLink "NoteSheet$Cell" 25 "NoteSheet$Cell" "tally" "[I" ∈ ns_Tb := ns_in 105 (by decide +kernel) (by decide +kernel)
theorem nw_107 : Cond.fieldLink "NoteSheet$Cell" 29 "NoteSheet$Cell" "stack" "[I" ∈ ns_Tb := ns_in 107 (by decide +kernel) (by decide +kernel)
theorem nw_109 : Cond.fieldLink "NoteSheet$Cell" 32 "NoteSheet$Cell" "hasFormula" "Z" ∈ ns_Tb := ns_in 109 (by decide +kernel) (by decide +kernel)
theorem nw_113 : Cond.fieldLink "NoteSheet$Cell" 36 "NoteSheet$Cell" "durability" "I" ∈ ns_Tb := ns_in 113 (by decide +kernel) (by decide +kernel)
theorem nw_82 : Cond.fieldLink "NoteSheet$Cell" 40 "NoteSheet$Note" "durability" "I" ∈ ns_Tb := ns_in 82 (by decide +kernel) (by decide +kernel)
theorem nw_80 : Cond.fieldLink "NoteSheet$Cell" 41 "NoteSheet$Note" "since" "I" ∈ ns_Tb := ns_in 80 (by decide +kernel) (by decide +kernel)
theorem nw_115 : Cond.fieldLink "NoteSheet$Cell" 44 "NoteSheet$Cell" "inputSince" "I" ∈ ns_Tb := ns_in 115 (by decide +kernel) (by decide +kernel)
theorem nw_41 : Cond.fieldLink "NoteSheet$Formula" 9 "NoteSheet$Formula" "text" "[C" ∈ ns_Tb := ns_in 41 (by decide +kernel) (by decide +kernel)
theorem nw_43 : Cond.fieldLink "NoteSheet$Formula" 15 "NoteSheet$Formula" "steps" "[I" ∈ ns_Tb := ns_in 43 (by decide +kernel) (by decide +kernel)
theorem nw_46 : Cond.fieldLink "NoteSheet$Formula" 34 "NoteSheet$Formula" "length" "I" ∈ ns_Tb := ns_in 46 (by decide +kernel) (by decide +kernel)
theorem nw_48 : Cond.fieldLink "NoteSheet$Formula" 38 "NoteSheet$Formula" "stepCount" "I" ∈ ns_Tb := ns_in 48 (by decide +kernel) (by decide +kernel)
theorem nw_67 : Cond.fieldLink "NoteSheet$Note" 9 "NoteSheet$Note" "reads" "[I" ∈ ns_Tb := ns_in 67 (by decide +kernel) (by decide +kernel)
theorem nw_69 : Cond.fieldLink "NoteSheet$Note" 15 "NoteSheet$Note" "readCount" "I" ∈ ns_Tb := ns_in 69 (by decide +kernel) (by decide +kernel)
theorem nw_71 : Cond.fieldLink "NoteSheet$Note" 19 "NoteSheet$Note" "exists" "Z" ∈ ns_Tb := ns_in 71 (by decide +kernel) (by decide +kernel)
theorem nw_73 : Cond.fieldLink "NoteSheet$Note" 23 "NoteSheet$Note" "hasValue" "Z" ∈ ns_Tb := ns_in 73 (by decide +kernel) (by decide +kernel)
theorem nw_77 : Cond.fieldLink "NoteSheet$Note" 26 "NoteSheet$Note" "verified" "I" ∈ ns_Tb := ns_in 77 (by decide +kernel) (by decide +kernel)
theorem nw_79 : Cond.fieldLink "NoteSheet$Note" 29 "NoteSheet$Note" "since" "I" ∈ ns_Tb := ns_in 79 (by decide +kernel) (by decide +kernel)
theorem nw_81 : Cond.fieldLink "NoteSheet$Note" 32 "NoteSheet$Note" "durability" "I" ∈ ns_Tb := ns_in 81 (by decide +kernel) (by decide +kernel)
theorem nw_75 : Cond.fieldLink "NoteSheet$Note" 35 "NoteSheet$Note" "value" "J" ∈ ns_Tb := ns_in 75 (by decide +kernel) (by decide +kernel)
theorem nw_150 : Cond.fieldLink "NoteSheet$Parser" 9 "NoteSheet$Parser" "formula" "LNoteSheet$Formula;" ∈ ns_Tb := ns_in 150 (by decide +kernel) (by decide +kernel)
theorem nw_151 : Cond.fieldLink "NoteSheet$Parser" 15 "NoteSheet$Parser" "at" "I" ∈ ns_Tb := ns_in 151 (by decide +kernel) (by decide +kernel)
theorem nw_47 : Cond.fieldLink "NoteSheet$Parser" 19 "NoteSheet$Formula" "stepCount" "I" ∈ ns_Tb := ns_in 47 (by decide +kernel) (by decide +kernel)
theorem nw_44 : Cond.fieldLink "NoteSheet$Parser" 28 "NoteSheet$Formula" "length" "I" ∈ ns_Tb := ns_in 44 (by decide +kernel) (by decide +kernel)
theorem nw_42 : Cond.fieldLink "NoteSheet$Parser" 31 "NoteSheet$Formula" "text" "[C" ∈ ns_Tb := ns_in 42 (by decide +kernel) (by decide +kernel)
theorem nw_506 : Cond.fieldLink "NoteSheetModel" 7 "NoteSheetModel" "pad" "[I" ∈ ns_Tb := ns_in 506 (by decide +kernel) (by decide +kernel)
theorem nw_508 : Cond.fieldLink "NoteSheetModel" 13 "NoteSheetModel" "revision" "I" ∈ ns_Tb := ns_in 508 (by decide +kernel) (by decide +kernel)
theorem nw_509 : Cond.fieldLink "NoteSheetModel" 17 "NoteSheetModel" "changes" "[I" ∈ ns_Tb := ns_in 509 (by decide +kernel) (by decide +kernel)
theorem nw_510 : Cond.fieldLink "NoteSheetModel" 20 "NoteSheetModel" "formula" "[Z" ∈ ns_Tb := ns_in 510 (by decide +kernel) (by decide +kernel)
theorem nw_511 : Cond.fieldLink "NoteSheetModel" 24 "NoteSheetModel" "text" "[I" ∈ ns_Tb := ns_in 511 (by decide +kernel) (by decide +kernel)
theorem nw_512 : Cond.fieldLink "NoteSheetModel" 27 "NoteSheetModel" "size" "[I" ∈ ns_Tb := ns_in 512 (by decide +kernel) (by decide +kernel)
theorem nw_513 : Cond.fieldLink "NoteSheetModel" 30 "NoteSheetModel" "steps" "[I" ∈ ns_Tb := ns_in 513 (by decide +kernel) (by decide +kernel)
theorem nw_514 : Cond.fieldLink "NoteSheetModel" 33 "NoteSheetModel" "step" "[I" ∈ ns_Tb := ns_in 514 (by decide +kernel) (by decide +kernel)
theorem nw_515 : Cond.fieldLink "NoteSheetModel" 36 "NoteSheetModel" "with" "[I" ∈ ns_Tb := ns_in 515 (by decide +kernel) (by decide +kernel)
theorem nw_516 : Cond.fieldLink "NoteSheetModel" 39 "NoteSheetModel" "altered" "[I" ∈ ns_Tb := ns_in 516 (by decide +kernel) (by decide +kernel)
theorem nw_517 : Cond.fieldLink "NoteSheetModel" 42 "NoteSheetModel" "number" "[I" ∈ ns_Tb := ns_in 517 (by decide +kernel) (by decide +kernel)
theorem nw_518 : Cond.fieldLink "NoteSheetModel" 45 "NoteSheetModel" "durable" "[I" ∈ ns_Tb := ns_in 518 (by decide +kernel) (by decide +kernel)
theorem nw_519 : Cond.fieldLink "NoteSheetModel" 48 "NoteSheetModel" "born" "[I" ∈ ns_Tb := ns_in 519 (by decide +kernel) (by decide +kernel)
theorem nw_520 : Cond.fieldLink "NoteSheetModel" 51 "NoteSheetModel" "noted" "[Z" ∈ ns_Tb := ns_in 520 (by decide +kernel) (by decide +kernel)
theorem nw_521 : Cond.fieldLink "NoteSheetModel" 54 "NoteSheetModel" "valued" "[Z" ∈ ns_Tb := ns_in 521 (by decide +kernel) (by decide +kernel)
theorem nw_522 : Cond.fieldLink "NoteSheetModel" 57 "NoteSheetModel" "value" "[J" ∈ ns_Tb := ns_in 522 (by decide +kernel) (by decide +kernel)
theorem nw_523 : Cond.fieldLink "NoteSheetModel" 61 "NoteSheetModel" "verified" "[I" ∈ ns_Tb := ns_in 523 (by decide +kernel) (by decide +kernel)
theorem nw_524 : Cond.fieldLink "NoteSheetModel" 64 "NoteSheetModel" "since" "[I" ∈ ns_Tb := ns_in 524 (by decide +kernel) (by decide +kernel)
theorem nw_525 : Cond.fieldLink "NoteSheetModel" 67 "NoteSheetModel" "noteDurable" "[I" ∈ ns_Tb := ns_in 525 (by decide +kernel) (by decide +kernel)
theorem nw_526 : Cond.fieldLink "NoteSheetModel" 70 "NoteSheetModel" "reads" "[I" ∈ ns_Tb := ns_in 526 (by decide +kernel) (by decide +kernel)
theorem nw_527 : Cond.fieldLink "NoteSheetModel" 73 "NoteSheetModel" "readCell" "[I" ∈ ns_Tb := ns_in 527 (by decide +kernel) (by decide +kernel)
theorem nw_528 : Cond.fieldLink "NoteSheetModel" 76 "NoteSheetModel" "used" "[I" ∈ ns_Tb := ns_in 528 (by decide +kernel) (by decide +kernel)
theorem nw_530 : Cond.fieldLink "NoteSheetModel" 79 "NoteSheetModel" "often" "[I" ∈ ns_Tb := ns_in 530 (by decide +kernel) (by decide +kernel)
theorem nw_531 : Cond.fieldLink "NoteSheetModel" 82 "NoteSheetModel" "lately" "[I" ∈ ns_Tb := ns_in 531 (by decide +kernel) (by decide +kernel)
theorem nw_533 : Cond.fieldLink "NoteSheetModel" 85 "NoteSheetModel" "open" "[I" ∈ ns_Tb := ns_in 533 (by decide +kernel) (by decide +kernel)
theorem nw_534 : Cond.fieldLink "NoteSheetModel" 88 "NoteSheetModel" "mode" "[I" ∈ ns_Tb := ns_in 534 (by decide +kernel) (by decide +kernel)
theorem nw_535 : Cond.fieldLink "NoteSheetModel" 91 "NoteSheetModel" "at" "[I" ∈ ns_Tb := ns_in 535 (by decide +kernel) (by decide +kernel)
theorem nw_536 : Cond.fieldLink "NoteSheetModel" 94 "NoteSheetModel" "depth" "[I" ∈ ns_Tb := ns_in 536 (by decide +kernel) (by decide +kernel)
theorem nw_537 : Cond.fieldLink "NoteSheetModel" 97 "NoteSheetModel" "stack" "[J" ∈ ns_Tb := ns_in 537 (by decide +kernel) (by decide +kernel)
theorem nw_538 : Cond.fieldLink "NoteSheetModel" 100 "NoteSheetModel" "found" "[I" ∈ ns_Tb := ns_in 538 (by decide +kernel) (by decide +kernel)
theorem nw_539 : Cond.fieldLink "NoteSheetModel" 103 "NoteSheetModel" "foundCell" "[I" ∈ ns_Tb := ns_in 539 (by decide +kernel) (by decide +kernel)
theorem nw_540 : Cond.fieldLink "NoteSheetModel" 106 "NoteSheetModel" "atWork" "[Z" ∈ ns_Tb := ns_in 540 (by decide +kernel) (by decide +kernel)
theorem nw_541 : Cond.fieldLink "NoteSheetModel" 109 "NoteSheetModel" "ring" "[Z" ∈ ns_Tb := ns_in 541 (by decide +kernel) (by decide +kernel)
theorem nw_543 : Cond.fieldLink "NoteSheetModel" 112 "NoteSheetModel" "sign" "[I" ∈ ns_Tb := ns_in 543 (by decide +kernel) (by decide +kernel)
theorem nw_544 : Cond.fieldLink "NoteSheetModel" 115 "NoteSheetModel" "mend" "[I" ∈ ns_Tb := ns_in 544 (by decide +kernel) (by decide +kernel)
theorem nw_546 : Cond.fieldLink "NoteSheetModel" 118 "NoteSheetModel" "newStep" "[I" ∈ ns_Tb := ns_in 546 (by decide +kernel) (by decide +kernel)
theorem nw_547 : Cond.fieldLink "NoteSheetModel" 121 "NoteSheetModel" "newWith" "[I" ∈ ns_Tb := ns_in 547 (by decide +kernel) (by decide +kernel)
theorem nw_505 : Cond.fieldLink "NoteSheetModel" 124 "NoteSheetModel" "most" "I" ∈ ns_Tb := ns_in 505 (by decide +kernel) (by decide +kernel)
theorem nw_507 : Cond.fieldLink "NoteSheetModel" 134 "NoteSheetModel" "length" "I" ∈ ns_Tb := ns_in 507 (by decide +kernel) (by decide +kernel)
theorem nw_545 : Cond.fieldLink "NoteSheetModel" 137 "NoteSheetModel" "made" "I" ∈ ns_Tb := ns_in 545 (by decide +kernel) (by decide +kernel)
theorem nw_542 : Cond.fieldLink "NoteSheetModel" 140 "NoteSheetModel" "signs" "I" ∈ ns_Tb := ns_in 542 (by decide +kernel) (by decide +kernel)
theorem nw_532 : Cond.fieldLink "NoteSheetModel" 191 "NoteSheetModel" "opened" "I" ∈ ns_Tb := ns_in 532 (by decide +kernel) (by decide +kernel)
theorem nw_529 : Cond.fieldLink "NoteSheetModel" 194 "NoteSheetModel" "clock" "I" ∈ ns_Tb := ns_in 529 (by decide +kernel) (by decide +kernel)
def ns_pF (q : (Nat × Nat) × (Nat × Nat × FieldType × Bool)) : Prop := ∃ (C : String) (T : u_T) (N : Nat) (t0 : Nat → FieldType), ns_cl[q.2.1]? = some (C, T, N) ∧ q.2.2.1 < N ∧ (∀ w ∈ u_ws C T N, w ∈ ns_Tb) ∧ (∀ k, k < N → parseFieldDescriptor (T k).2.2.1 = some (t0 k)) ∧ (∀ a, a < N → ∀ b, b < N → a ≠ b → (T a).2.1 ≠ (T b).2.1) ∧ Cond.fieldLink (ns_cn q.1.1) q.1.2 (T q.2.2.1).1 (T q.2.2.1).2.1 (T q.2.2.1).2.2.1 ∈ ns_Tb ∧ (T q.2.2.1).2.2.2 = q.2.2.2.2 ∧ t0 q.2.2.1 = q.2.2.2.1 ∧ (q.2.2.2.2 = true → (T q.2.2.1).1 = ns_cn q.2.1)
theorem ns_eF0 : ns_pF ((0, 18), (0, 5, .int, true)) := ⟨"NoteSheet", ns_T0, 8, ns_t0, rfl, by decide, ns_w0, ns_t0_ok, ns_n0, nw_162, rfl, rfl, fun _ => rfl⟩
theorem ns_eF1 : ns_pF ((0, 24), (0, 0, .array (.object "NoteSheet$Cell"), true)) := ⟨"NoteSheet", ns_T0, 8, ns_t0, rfl, by decide, ns_w0, ns_t0_ok, ns_n0, nw_157, rfl, rfl, fun _ => rfl⟩
theorem ns_eF2 : ns_pF ((0, 29), (0, 1, .array .int, true)) := ⟨"NoteSheet", ns_T0, 8, ns_t0, rfl, by decide, ns_w0, ns_t0_ok, ns_n0, nw_158, rfl, rfl, fun _ => rfl⟩
theorem ns_eF3 : ns_pF ((0, 33), (0, 2, .array .int, true)) := ⟨"NoteSheet", ns_T0, 8, ns_t0, rfl, by decide, ns_w0, ns_t0_ok, ns_n0, nw_159, rfl, rfl, fun _ => rfl⟩
theorem ns_eF4 : ns_pF ((0, 39), (0, 3, .object "NoteSheet$Formula", true)) := ⟨"NoteSheet", ns_T0, 8, ns_t0, rfl, by decide, ns_w0, ns_t0_ok, ns_n0, nw_160, rfl, rfl, fun _ => rfl⟩
theorem ns_eF5 : ns_pF ((0, 48), (0, 4, .object "NoteSheet$Parser", true)) := ⟨"NoteSheet", ns_T0, 8, ns_t0, rfl, by decide, ns_w0, ns_t0_ok, ns_n0, nw_161, rfl, rfl, fun _ => rfl⟩
theorem ns_eF6 : ns_pF ((0, 52), (0, 6, .int, false)) := ⟨"NoteSheet", ns_T0, 8, ns_t0, rfl, by decide, ns_w0, ns_t0_ok, ns_n0, nw_163, rfl, rfl, fun _ => rfl⟩
theorem ns_eF7 : ns_pF ((0, 78), (2, 2, .int, false)) := ⟨"NoteSheet$Formula", ns_T2, 4, ns_t2, rfl, by decide, ns_w2, ns_t2_ok, ns_n2, nw_45, rfl, rfl, fun _ => rfl⟩
theorem ns_eF8 : ns_pF ((0, 84), (1, 4, .boolean, false)) := ⟨"NoteSheet$Cell", ns_T1, 11, ns_t1, rfl, by decide, ns_w1, ns_t1_ok, ns_n1, nw_110, rfl, rfl, fun _ => rfl⟩
theorem ns_eF9 : ns_pF ((0, 88), (1, 6, .int, false)) := ⟨"NoteSheet$Cell", ns_T1, 11, ns_t1, rfl, by decide, ns_w1, ns_t1_ok, ns_n1, nw_112, rfl, rfl, fun _ => rfl⟩
theorem ns_eF10 : ns_pF ((0, 91), (1, 7, .int, false)) := ⟨"NoteSheet$Cell", ns_T1, 11, ns_t1, rfl, by decide, ns_w1, ns_t1_ok, ns_n1, nw_114, rfl, rfl, fun _ => rfl⟩
theorem ns_eF11 : ns_pF ((0, 107), (1, 2, .array .int, true)) := ⟨"NoteSheet$Cell", ns_T1, 11, ns_t1, rfl, by decide, ns_w1, ns_t1_ok, ns_n1, nw_106, rfl, rfl, fun _ => rfl⟩
theorem ns_eF12 : ns_pF ((0, 113), (1, 1, .object "NoteSheet$Note", true)) := ⟨"NoteSheet$Cell", ns_T1, 11, ns_t1, rfl, by decide, ns_w1, ns_t1_ok, ns_n1, nw_104, rfl, rfl, fun _ => rfl⟩
theorem ns_eF13 : ns_pF ((0, 117), (3, 5, .int, false)) := ⟨"NoteSheet$Note", ns_T3, 8, ns_t3, rfl, by decide, ns_w3, ns_t3_ok, ns_n3, nw_78, rfl, rfl, fun _ => rfl⟩
theorem ns_eF14 : ns_pF ((0, 125), (3, 1, .int, false)) := ⟨"NoteSheet$Note", ns_T3, 8, ns_t3, rfl, by decide, ns_w3, ns_t3_ok, ns_n3, nw_70, rfl, rfl, fun _ => rfl⟩
theorem ns_eF15 : ns_pF ((0, 128), (3, 3, .boolean, false)) := ⟨"NoteSheet$Note", ns_T3, 8, ns_t3, rfl, by decide, ns_w3, ns_t3_ok, ns_n3, nw_74, rfl, rfl, fun _ => rfl⟩
theorem ns_eF16 : ns_pF ((0, 131), (3, 0, .array .int, true)) := ⟨"NoteSheet$Note", ns_T3, 8, ns_t3, rfl, by decide, ns_w3, ns_t3_ok, ns_n3, nw_68, rfl, rfl, fun _ => rfl⟩
theorem ns_eF17 : ns_pF ((0, 137), (1, 0, .object "NoteSheet$Formula", true)) := ⟨"NoteSheet$Cell", ns_T1, 11, ns_t1, rfl, by decide, ns_w1, ns_t1_ok, ns_n1, nw_102, rfl, rfl, fun _ => rfl⟩
theorem ns_eF18 : ns_pF ((0, 154), (1, 5, .int, false)) := ⟨"NoteSheet$Cell", ns_T1, 11, ns_t1, rfl, by decide, ns_w1, ns_t1_ok, ns_n1, nw_111, rfl, rfl, fun _ => rfl⟩
theorem ns_eF19 : ns_pF ((0, 157), (1, 8, .int, false)) := ⟨"NoteSheet$Cell", ns_T1, 11, ns_t1, rfl, by decide, ns_w1, ns_t1_ok, ns_n1, nw_116, rfl, rfl, fun _ => rfl⟩
theorem ns_eF20 : ns_pF ((0, 172), (3, 4, .long, false)) := ⟨"NoteSheet$Note", ns_T3, 8, ns_t3, rfl, by decide, ns_w3, ns_t3_ok, ns_n3, nw_76, rfl, rfl, fun _ => rfl⟩
theorem ns_eF21 : ns_pF ((0, 176), (1, 9, .boolean, false)) := ⟨"NoteSheet$Cell", ns_T1, 11, ns_t1, rfl, by decide, ns_w1, ns_t1_ok, ns_n1, nw_117, rfl, rfl, fun _ => rfl⟩
theorem ns_eF22 : ns_pF ((0, 198), (3, 7, .int, false)) := ⟨"NoteSheet$Note", ns_T3, 8, ns_t3, rfl, by decide, ns_w3, ns_t3_ok, ns_n3, nw_83, rfl, rfl, fun _ => rfl⟩
theorem ns_eF23 : ns_pF ((0, 199), (3, 2, .boolean, false)) := ⟨"NoteSheet$Note", ns_T3, 8, ns_t3, rfl, by decide, ns_w3, ns_t3_ok, ns_n3, nw_72, rfl, rfl, fun _ => rfl⟩
theorem ns_eF24 : ns_pF ((0, 211), (1, 3, .array .int, true)) := ⟨"NoteSheet$Cell", ns_T1, 11, ns_t1, rfl, by decide, ns_w1, ns_t1_ok, ns_n1, nw_108, rfl, rfl, fun _ => rfl⟩
theorem ns_eF25 : ns_pF ((0, 214), (2, 3, .int, false)) := ⟨"NoteSheet$Formula", ns_T2, 4, ns_t2, rfl, by decide, ns_w2, ns_t2_ok, ns_n2, nw_49, rfl, rfl, fun _ => rfl⟩
theorem ns_eF26 : ns_pF ((0, 240), (0, 7, .int, false)) := ⟨"NoteSheet", ns_T0, 8, ns_t0, rfl, by decide, ns_w0, ns_t0_ok, ns_n0, nw_164, rfl, rfl, fun _ => rfl⟩
theorem ns_eF27 : ns_pF ((0, 243), (1, 10, .int, false)) := ⟨"NoteSheet$Cell", ns_T1, 11, ns_t1, rfl, by decide, ns_w1, ns_t1_ok, ns_n1, nw_118, rfl, rfl, fun _ => rfl⟩
theorem ns_eF28 : ns_pF ((1, 12), (1, 0, .object "NoteSheet$Formula", true)) := ⟨"NoteSheet$Cell", ns_T1, 11, ns_t1, rfl, by decide, ns_w1, ns_t1_ok, ns_n1, nw_101, rfl, rfl, fun _ => rfl⟩
theorem ns_eF29 : ns_pF ((1, 21), (1, 1, .object "NoteSheet$Note", true)) := ⟨"NoteSheet$Cell", ns_T1, 11, ns_t1, rfl, by decide, ns_w1, ns_t1_ok, ns_n1, nw_103, rfl, rfl, fun _ => rfl⟩
theorem ns_eF30 : ns_pF ((1, 25), (1, 2, .array .int, true)) := ⟨"NoteSheet$Cell", ns_T1, 11, ns_t1, rfl, by decide, ns_w1, ns_t1_ok, ns_n1, nw_105, rfl, rfl, fun _ => rfl⟩
theorem ns_eF31 : ns_pF ((1, 29), (1, 3, .array .int, true)) := ⟨"NoteSheet$Cell", ns_T1, 11, ns_t1, rfl, by decide, ns_w1, ns_t1_ok, ns_n1, nw_107, rfl, rfl, fun _ => rfl⟩
theorem ns_eF32 : ns_pF ((1, 32), (1, 4, .boolean, false)) := ⟨"NoteSheet$Cell", ns_T1, 11, ns_t1, rfl, by decide, ns_w1, ns_t1_ok, ns_n1, nw_109, rfl, rfl, fun _ => rfl⟩
theorem ns_eF33 : ns_pF ((1, 36), (1, 7, .int, false)) := ⟨"NoteSheet$Cell", ns_T1, 11, ns_t1, rfl, by decide, ns_w1, ns_t1_ok, ns_n1, nw_113, rfl, rfl, fun _ => rfl⟩
theorem ns_eF34 : ns_pF ((1, 40), (3, 7, .int, false)) := ⟨"NoteSheet$Note", ns_T3, 8, ns_t3, rfl, by decide, ns_w3, ns_t3_ok, ns_n3, nw_82, rfl, rfl, fun _ => rfl⟩
theorem ns_eF35 : ns_pF ((1, 41), (3, 6, .int, false)) := ⟨"NoteSheet$Note", ns_T3, 8, ns_t3, rfl, by decide, ns_w3, ns_t3_ok, ns_n3, nw_80, rfl, rfl, fun _ => rfl⟩
theorem ns_eF36 : ns_pF ((1, 44), (1, 8, .int, false)) := ⟨"NoteSheet$Cell", ns_T1, 11, ns_t1, rfl, by decide, ns_w1, ns_t1_ok, ns_n1, nw_115, rfl, rfl, fun _ => rfl⟩
theorem ns_eF37 : ns_pF ((2, 9), (2, 0, .array .char, true)) := ⟨"NoteSheet$Formula", ns_T2, 4, ns_t2, rfl, by decide, ns_w2, ns_t2_ok, ns_n2, nw_41, rfl, rfl, fun _ => rfl⟩
theorem ns_eF38 : ns_pF ((2, 15), (2, 1, .array .int, true)) := ⟨"NoteSheet$Formula", ns_T2, 4, ns_t2, rfl, by decide, ns_w2, ns_t2_ok, ns_n2, nw_43, rfl, rfl, fun _ => rfl⟩
theorem ns_eF39 : ns_pF ((2, 34), (2, 2, .int, false)) := ⟨"NoteSheet$Formula", ns_T2, 4, ns_t2, rfl, by decide, ns_w2, ns_t2_ok, ns_n2, nw_46, rfl, rfl, fun _ => rfl⟩
theorem ns_eF40 : ns_pF ((2, 38), (2, 3, .int, false)) := ⟨"NoteSheet$Formula", ns_T2, 4, ns_t2, rfl, by decide, ns_w2, ns_t2_ok, ns_n2, nw_48, rfl, rfl, fun _ => rfl⟩
theorem ns_eF41 : ns_pF ((3, 9), (3, 0, .array .int, true)) := ⟨"NoteSheet$Note", ns_T3, 8, ns_t3, rfl, by decide, ns_w3, ns_t3_ok, ns_n3, nw_67, rfl, rfl, fun _ => rfl⟩
theorem ns_eF42 : ns_pF ((3, 15), (3, 1, .int, false)) := ⟨"NoteSheet$Note", ns_T3, 8, ns_t3, rfl, by decide, ns_w3, ns_t3_ok, ns_n3, nw_69, rfl, rfl, fun _ => rfl⟩
theorem ns_eF43 : ns_pF ((3, 19), (3, 2, .boolean, false)) := ⟨"NoteSheet$Note", ns_T3, 8, ns_t3, rfl, by decide, ns_w3, ns_t3_ok, ns_n3, nw_71, rfl, rfl, fun _ => rfl⟩
theorem ns_eF44 : ns_pF ((3, 23), (3, 3, .boolean, false)) := ⟨"NoteSheet$Note", ns_T3, 8, ns_t3, rfl, by decide, ns_w3, ns_t3_ok, ns_n3, nw_73, rfl, rfl, fun _ => rfl⟩
theorem ns_eF45 : ns_pF ((3, 26), (3, 5, .int, false)) := ⟨"NoteSheet$Note", ns_T3, 8, ns_t3, rfl, by decide, ns_w3, ns_t3_ok, ns_n3, nw_77, rfl, rfl, fun _ => rfl⟩
theorem ns_eF46 : ns_pF ((3, 29), (3, 6, .int, false)) := ⟨"NoteSheet$Note", ns_T3, 8, ns_t3, rfl, by decide, ns_w3, ns_t3_ok, ns_n3, nw_79, rfl, rfl, fun _ => rfl⟩
theorem ns_eF47 : ns_pF ((3, 32), (3, 7, .int, false)) := ⟨"NoteSheet$Note", ns_T3, 8, ns_t3, rfl, by decide, ns_w3, ns_t3_ok, ns_n3, nw_81, rfl, rfl, fun _ => rfl⟩
theorem ns_eF48 : ns_pF ((3, 35), (3, 4, .long, false)) := ⟨"NoteSheet$Note", ns_T3, 8, ns_t3, rfl, by decide, ns_w3, ns_t3_ok, ns_n3, nw_75, rfl, rfl, fun _ => rfl⟩
theorem ns_eF49 : ns_pF ((4, 9), (4, 0, .object "NoteSheet$Formula", true)) := ⟨"NoteSheet$Parser", ns_T4, 2, ns_t4, rfl, by decide, ns_w4, ns_t4_ok, ns_n4, nw_150, rfl, rfl, fun _ => rfl⟩
theorem ns_eF50 : ns_pF ((4, 15), (4, 1, .int, false)) := ⟨"NoteSheet$Parser", ns_T4, 2, ns_t4, rfl, by decide, ns_w4, ns_t4_ok, ns_n4, nw_151, rfl, rfl, fun _ => rfl⟩
theorem ns_eF51 : ns_pF ((4, 19), (2, 3, .int, false)) := ⟨"NoteSheet$Formula", ns_T2, 4, ns_t2, rfl, by decide, ns_w2, ns_t2_ok, ns_n2, nw_47, rfl, rfl, fun _ => rfl⟩
theorem ns_eF52 : ns_pF ((4, 28), (2, 2, .int, false)) := ⟨"NoteSheet$Formula", ns_T2, 4, ns_t2, rfl, by decide, ns_w2, ns_t2_ok, ns_n2, nw_44, rfl, rfl, fun _ => rfl⟩
theorem ns_eF53 : ns_pF ((4, 31), (2, 0, .array .char, true)) := ⟨"NoteSheet$Formula", ns_T2, 4, ns_t2, rfl, by decide, ns_w2, ns_t2_ok, ns_n2, nw_42, rfl, rfl, fun _ => rfl⟩
theorem ns_eF54 : ns_pF ((5, 7), (5, 1, .array .int, true)) := ⟨"NoteSheetModel", ns_T5, 43, ns_t5, rfl, by decide, ns_w5, ns_t5_ok, ns_n5, nw_506, rfl, rfl, fun _ => rfl⟩
theorem ns_eF55 : ns_pF ((5, 13), (5, 3, .int, false)) := ⟨"NoteSheetModel", ns_T5, 43, ns_t5, rfl, by decide, ns_w5, ns_t5_ok, ns_n5, nw_508, rfl, rfl, fun _ => rfl⟩
theorem ns_eF56 : ns_pF ((5, 17), (5, 4, .array .int, true)) := ⟨"NoteSheetModel", ns_T5, 43, ns_t5, rfl, by decide, ns_w5, ns_t5_ok, ns_n5, nw_509, rfl, rfl, fun _ => rfl⟩
theorem ns_eF57 : ns_pF ((5, 20), (5, 5, .array .boolean, true)) := ⟨"NoteSheetModel", ns_T5, 43, ns_t5, rfl, by decide, ns_w5, ns_t5_ok, ns_n5, nw_510, rfl, rfl, fun _ => rfl⟩
theorem ns_eF58 : ns_pF ((5, 24), (5, 6, .array .int, true)) := ⟨"NoteSheetModel", ns_T5, 43, ns_t5, rfl, by decide, ns_w5, ns_t5_ok, ns_n5, nw_511, rfl, rfl, fun _ => rfl⟩
theorem ns_eF59 : ns_pF ((5, 27), (5, 7, .array .int, true)) := ⟨"NoteSheetModel", ns_T5, 43, ns_t5, rfl, by decide, ns_w5, ns_t5_ok, ns_n5, nw_512, rfl, rfl, fun _ => rfl⟩
theorem ns_eF60 : ns_pF ((5, 30), (5, 8, .array .int, true)) := ⟨"NoteSheetModel", ns_T5, 43, ns_t5, rfl, by decide, ns_w5, ns_t5_ok, ns_n5, nw_513, rfl, rfl, fun _ => rfl⟩
theorem ns_eF61 : ns_pF ((5, 33), (5, 9, .array .int, true)) := ⟨"NoteSheetModel", ns_T5, 43, ns_t5, rfl, by decide, ns_w5, ns_t5_ok, ns_n5, nw_514, rfl, rfl, fun _ => rfl⟩
theorem ns_eF62 : ns_pF ((5, 36), (5, 10, .array .int, true)) := ⟨"NoteSheetModel", ns_T5, 43, ns_t5, rfl, by decide, ns_w5, ns_t5_ok, ns_n5, nw_515, rfl, rfl, fun _ => rfl⟩
theorem ns_eF63 : ns_pF ((5, 39), (5, 11, .array .int, true)) := ⟨"NoteSheetModel", ns_T5, 43, ns_t5, rfl, by decide, ns_w5, ns_t5_ok, ns_n5, nw_516, rfl, rfl, fun _ => rfl⟩
theorem ns_eF64 : ns_pF ((5, 42), (5, 12, .array .int, true)) := ⟨"NoteSheetModel", ns_T5, 43, ns_t5, rfl, by decide, ns_w5, ns_t5_ok, ns_n5, nw_517, rfl, rfl, fun _ => rfl⟩
theorem ns_eF65 : ns_pF ((5, 45), (5, 13, .array .int, true)) := ⟨"NoteSheetModel", ns_T5, 43, ns_t5, rfl, by decide, ns_w5, ns_t5_ok, ns_n5, nw_518, rfl, rfl, fun _ => rfl⟩
theorem ns_eF66 : ns_pF ((5, 48), (5, 14, .array .int, true)) := ⟨"NoteSheetModel", ns_T5, 43, ns_t5, rfl, by decide, ns_w5, ns_t5_ok, ns_n5, nw_519, rfl, rfl, fun _ => rfl⟩
theorem ns_eF67 : ns_pF ((5, 51), (5, 15, .array .boolean, true)) := ⟨"NoteSheetModel", ns_T5, 43, ns_t5, rfl, by decide, ns_w5, ns_t5_ok, ns_n5, nw_520, rfl, rfl, fun _ => rfl⟩
theorem ns_eF68 : ns_pF ((5, 54), (5, 16, .array .boolean, true)) := ⟨"NoteSheetModel", ns_T5, 43, ns_t5, rfl, by decide, ns_w5, ns_t5_ok, ns_n5, nw_521, rfl, rfl, fun _ => rfl⟩
theorem ns_eF69 : ns_pF ((5, 57), (5, 17, .array .long, true)) := ⟨"NoteSheetModel", ns_T5, 43, ns_t5, rfl, by decide, ns_w5, ns_t5_ok, ns_n5, nw_522, rfl, rfl, fun _ => rfl⟩
theorem ns_eF70 : ns_pF ((5, 61), (5, 18, .array .int, true)) := ⟨"NoteSheetModel", ns_T5, 43, ns_t5, rfl, by decide, ns_w5, ns_t5_ok, ns_n5, nw_523, rfl, rfl, fun _ => rfl⟩
theorem ns_eF71 : ns_pF ((5, 64), (5, 19, .array .int, true)) := ⟨"NoteSheetModel", ns_T5, 43, ns_t5, rfl, by decide, ns_w5, ns_t5_ok, ns_n5, nw_524, rfl, rfl, fun _ => rfl⟩
theorem ns_eF72 : ns_pF ((5, 67), (5, 20, .array .int, true)) := ⟨"NoteSheetModel", ns_T5, 43, ns_t5, rfl, by decide, ns_w5, ns_t5_ok, ns_n5, nw_525, rfl, rfl, fun _ => rfl⟩
theorem ns_eF73 : ns_pF ((5, 70), (5, 21, .array .int, true)) := ⟨"NoteSheetModel", ns_T5, 43, ns_t5, rfl, by decide, ns_w5, ns_t5_ok, ns_n5, nw_526, rfl, rfl, fun _ => rfl⟩
theorem ns_eF74 : ns_pF ((5, 73), (5, 22, .array .int, true)) := ⟨"NoteSheetModel", ns_T5, 43, ns_t5, rfl, by decide, ns_w5, ns_t5_ok, ns_n5, nw_527, rfl, rfl, fun _ => rfl⟩
theorem ns_eF75 : ns_pF ((5, 76), (5, 23, .array .int, true)) := ⟨"NoteSheetModel", ns_T5, 43, ns_t5, rfl, by decide, ns_w5, ns_t5_ok, ns_n5, nw_528, rfl, rfl, fun _ => rfl⟩
theorem ns_eF76 : ns_pF ((5, 79), (5, 25, .array .int, true)) := ⟨"NoteSheetModel", ns_T5, 43, ns_t5, rfl, by decide, ns_w5, ns_t5_ok, ns_n5, nw_530, rfl, rfl, fun _ => rfl⟩
theorem ns_eF77 : ns_pF ((5, 82), (5, 26, .array .int, true)) := ⟨"NoteSheetModel", ns_T5, 43, ns_t5, rfl, by decide, ns_w5, ns_t5_ok, ns_n5, nw_531, rfl, rfl, fun _ => rfl⟩
theorem ns_eF78 : ns_pF ((5, 85), (5, 28, .array .int, true)) := ⟨"NoteSheetModel", ns_T5, 43, ns_t5, rfl, by decide, ns_w5, ns_t5_ok, ns_n5, nw_533, rfl, rfl, fun _ => rfl⟩
theorem ns_eF79 : ns_pF ((5, 88), (5, 29, .array .int, true)) := ⟨"NoteSheetModel", ns_T5, 43, ns_t5, rfl, by decide, ns_w5, ns_t5_ok, ns_n5, nw_534, rfl, rfl, fun _ => rfl⟩
theorem ns_eF80 : ns_pF ((5, 91), (5, 30, .array .int, true)) := ⟨"NoteSheetModel", ns_T5, 43, ns_t5, rfl, by decide, ns_w5, ns_t5_ok, ns_n5, nw_535, rfl, rfl, fun _ => rfl⟩
theorem ns_eF81 : ns_pF ((5, 94), (5, 31, .array .int, true)) := ⟨"NoteSheetModel", ns_T5, 43, ns_t5, rfl, by decide, ns_w5, ns_t5_ok, ns_n5, nw_536, rfl, rfl, fun _ => rfl⟩
theorem ns_eF82 : ns_pF ((5, 97), (5, 32, .array .long, true)) := ⟨"NoteSheetModel", ns_T5, 43, ns_t5, rfl, by decide, ns_w5, ns_t5_ok, ns_n5, nw_537, rfl, rfl, fun _ => rfl⟩
theorem ns_eF83 : ns_pF ((5, 100), (5, 33, .array .int, true)) := ⟨"NoteSheetModel", ns_T5, 43, ns_t5, rfl, by decide, ns_w5, ns_t5_ok, ns_n5, nw_538, rfl, rfl, fun _ => rfl⟩
theorem ns_eF84 : ns_pF ((5, 103), (5, 34, .array .int, true)) := ⟨"NoteSheetModel", ns_T5, 43, ns_t5, rfl, by decide, ns_w5, ns_t5_ok, ns_n5, nw_539, rfl, rfl, fun _ => rfl⟩
theorem ns_eF85 : ns_pF ((5, 106), (5, 35, .array .boolean, true)) := ⟨"NoteSheetModel", ns_T5, 43, ns_t5, rfl, by decide, ns_w5, ns_t5_ok, ns_n5, nw_540, rfl, rfl, fun _ => rfl⟩
theorem ns_eF86 : ns_pF ((5, 109), (5, 36, .array .boolean, true)) := ⟨"NoteSheetModel", ns_T5, 43, ns_t5, rfl, by decide, ns_w5, ns_t5_ok, ns_n5, nw_541, rfl, rfl, fun _ => rfl⟩
theorem ns_eF87 : ns_pF ((5, 112), (5, 38, .array .int, true)) := ⟨"NoteSheetModel", ns_T5, 43, ns_t5, rfl, by decide, ns_w5, ns_t5_ok, ns_n5, nw_543, rfl, rfl, fun _ => rfl⟩
theorem ns_eF88 : ns_pF ((5, 115), (5, 39, .array .int, true)) := ⟨"NoteSheetModel", ns_T5, 43, ns_t5, rfl, by decide, ns_w5, ns_t5_ok, ns_n5, nw_544, rfl, rfl, fun _ => rfl⟩
theorem ns_eF89 : ns_pF ((5, 118), (5, 41, .array .int, true)) := ⟨"NoteSheetModel", ns_T5, 43, ns_t5, rfl, by decide, ns_w5, ns_t5_ok, ns_n5, nw_546, rfl, rfl, fun _ => rfl⟩
theorem ns_eF90 : ns_pF ((5, 121), (5, 42, .array .int, true)) := ⟨"NoteSheetModel", ns_T5, 43, ns_t5, rfl, by decide, ns_w5, ns_t5_ok, ns_n5, nw_547, rfl, rfl, fun _ => rfl⟩
theorem ns_eF91 : ns_pF ((5, 124), (5, 0, .int, true)) := ⟨"NoteSheetModel", ns_T5, 43, ns_t5, rfl, by decide, ns_w5, ns_t5_ok, ns_n5, nw_505, rfl, rfl, fun _ => rfl⟩
theorem ns_eF92 : ns_pF ((5, 134), (5, 2, .int, false)) := ⟨"NoteSheetModel", ns_T5, 43, ns_t5, rfl, by decide, ns_w5, ns_t5_ok, ns_n5, nw_507, rfl, rfl, fun _ => rfl⟩
theorem ns_eF93 : ns_pF ((5, 137), (5, 40, .int, false)) := ⟨"NoteSheetModel", ns_T5, 43, ns_t5, rfl, by decide, ns_w5, ns_t5_ok, ns_n5, nw_545, rfl, rfl, fun _ => rfl⟩
theorem ns_eF94 : ns_pF ((5, 140), (5, 37, .int, false)) := ⟨"NoteSheetModel", ns_T5, 43, ns_t5, rfl, by decide, ns_w5, ns_t5_ok, ns_n5, nw_542, rfl, rfl, fun _ => rfl⟩
theorem ns_eF95 : ns_pF ((5, 191), (5, 27, .int, false)) := ⟨"NoteSheetModel", ns_T5, 43, ns_t5, rfl, by decide, ns_w5, ns_t5_ok, ns_n5, nw_532, rfl, rfl, fun _ => rfl⟩
theorem ns_eF96 : ns_pF ((5, 194), (5, 24, .int, false)) := ⟨"NoteSheetModel", ns_T5, 43, ns_t5, rfl, by decide, ns_w5, ns_t5_ok, ns_n5, nw_529, rfl, rfl, fun _ => rfl⟩
set_option maxRecDepth 20000 in
theorem ns_aF : ∀ q ∈ ns_lF, ns_pF q := List.forall_mem_cons.mpr ⟨ns_eF0, List.forall_mem_cons.mpr ⟨ns_eF1, List.forall_mem_cons.mpr ⟨ns_eF2, List.forall_mem_cons.mpr ⟨ns_eF3, List.forall_mem_cons.mpr ⟨ns_eF4, List.forall_mem_cons.mpr ⟨ns_eF5, List.forall_mem_cons.mpr ⟨ns_eF6, List.forall_mem_cons.mpr ⟨ns_eF7, List.forall_mem_cons.mpr ⟨ns_eF8, List.forall_mem_cons.mpr ⟨ns_eF9, List.forall_mem_cons.mpr ⟨ns_eF10, List.forall_mem_cons.mpr ⟨ns_eF11, List.forall_mem_cons.mpr ⟨ns_eF12, List.forall_mem_cons.mpr ⟨ns_eF13, List.forall_mem_cons.mpr ⟨ns_eF14, List.forall_mem_cons.mpr ⟨ns_eF15, List.forall_mem_cons.mpr ⟨ns_eF16, List.forall_mem_cons.mpr ⟨ns_eF17, List.forall_mem_cons.mpr ⟨ns_eF18, List.forall_mem_cons.mpr ⟨ns_eF19, List.forall_mem_cons.mpr ⟨ns_eF20, List.forall_mem_cons.mpr ⟨ns_eF21, List.forall_mem_cons.mpr ⟨ns_eF22, List.forall_mem_cons.mpr ⟨ns_eF23, List.forall_mem_cons.mpr ⟨ns_eF24, List.forall_mem_cons.mpr ⟨ns_eF25, List.forall_mem_cons.mpr ⟨ns_eF26, List.forall_mem_cons.mpr ⟨ns_eF27, List.forall_mem_cons.mpr ⟨ns_eF28, List.forall_mem_cons.mpr ⟨ns_eF29, List.forall_mem_cons.mpr ⟨ns_eF30, List.forall_mem_cons.mpr ⟨ns_eF31, List.forall_mem_cons.mpr ⟨ns_eF32, List.forall_mem_cons.mpr ⟨ns_eF33, List.forall_mem_cons.mpr ⟨ns_eF34, List.forall_mem_cons.mpr ⟨ns_eF35, List.forall_mem_cons.mpr ⟨ns_eF36, List.forall_mem_cons.mpr ⟨ns_eF37, List.forall_mem_cons.mpr ⟨ns_eF38, List.forall_mem_cons.mpr ⟨ns_eF39, List.forall_mem_cons.mpr ⟨ns_eF40, List.forall_mem_cons.mpr ⟨ns_eF41, List.forall_mem_cons.mpr ⟨ns_eF42, List.forall_mem_cons.mpr ⟨ns_eF43, List.forall_mem_cons.mpr ⟨ns_eF44, List.forall_mem_cons.mpr ⟨ns_eF45, List.forall_mem_cons.mpr ⟨ns_eF46, List.forall_mem_cons.mpr ⟨ns_eF47, List.forall_mem_cons.mpr ⟨ns_eF48, List.forall_mem_cons.mpr ⟨ns_eF49, List.forall_mem_cons.mpr ⟨ns_eF50, List.forall_mem_cons.mpr ⟨ns_eF51, List.forall_mem_cons.mpr ⟨ns_eF52, List.forall_mem_cons.mpr ⟨ns_eF53, List.forall_mem_cons.mpr ⟨ns_eF54, List.forall_mem_cons.mpr ⟨ns_eF55, List.forall_mem_cons.mpr ⟨ns_eF56, List.forall_mem_cons.mpr ⟨ns_eF57, List.forall_mem_cons.mpr ⟨ns_eF58, List.forall_mem_cons.mpr ⟨ns_eF59, List.forall_mem_cons.mpr ⟨ns_eF60, List.forall_mem_cons.mpr ⟨ns_eF61, List.forall_mem_cons.mpr ⟨ns_eF62, List.forall_mem_cons.mpr ⟨ns_eF63, List.forall_mem_cons.mpr ⟨ns_eF64, List.forall_mem_cons.mpr ⟨ns_eF65, List.forall_mem_cons.mpr ⟨ns_eF66, List.forall_mem_cons.mpr ⟨ns_eF67, List.forall_mem_cons.mpr ⟨ns_eF68, List.forall_mem_cons.mpr ⟨ns_eF69, List.forall_mem_cons.mpr ⟨ns_eF70, List.forall_mem_cons.mpr ⟨ns_eF71, List.forall_mem_cons.mpr ⟨ns_eF72, List.forall_mem_cons.mpr ⟨ns_eF73, List.forall_mem_cons.mpr ⟨ns_eF74, List.forall_mem_cons.mpr ⟨ns_eF75, List.forall_mem_cons.mpr ⟨ns_eF76, List.forall_mem_cons.mpr ⟨ns_eF77, List.forall_mem_cons.mpr ⟨ns_eF78, List.forall_mem_cons.mpr ⟨ns_eF79, List.forall_mem_cons.mpr ⟨ns_eF80, List.forall_mem_cons.mpr ⟨ns_eF81, List.forall_mem_cons.mpr ⟨ns_eF82, List.forall_mem_cons.mpr ⟨ns_eF83, List.forall_mem_cons.mpr ⟨ns_eF84, List.forall_mem_cons.mpr ⟨ns_eF85, List.forall_mem_cons.mpr ⟨ns_eF86, List.forall_mem_cons.mpr ⟨ns_eF87, List.forall_mem_cons.mpr ⟨ns_eF88, List.forall_mem_cons.mpr ⟨ns_eF89, List.forall_mem_cons.mpr ⟨ns_eF90, List.forall_mem_cons.mpr ⟨ns_eF91, List.forall_mem_cons.mpr ⟨ns_eF92, List.forall_mem_cons.mpr ⟨ns_eF93, List.forall_mem_cons.mpr ⟨ns_eF94, List.forall_mem_cons.mpr ⟨ns_eF95, List.forall_mem_cons.mpr ⟨ns_eF96, fun _ h => absurd h List.not_mem_nil⟩⟩⟩⟩⟩⟩⟩⟩⟩⟩⟩⟩⟩⟩⟩⟩⟩⟩⟩⟩⟩⟩⟩⟩⟩⟩⟩⟩⟩⟩⟩⟩⟩⟩⟩⟩⟩⟩⟩⟩⟩⟩⟩⟩⟩⟩⟩⟩⟩⟩⟩⟩⟩⟩⟩⟩⟩⟩⟩⟩⟩⟩⟩⟩⟩⟩⟩⟩⟩⟩⟩⟩⟩⟩⟩⟩⟩⟩⟩⟩⟩⟩⟩⟩⟩⟩⟩⟩⟩⟩⟩⟩⟩⟩⟩⟩⟩
theorem ns_find {α : Type} {l : List ((Nat × Nat) × α)} {c n : Nat} {a : α} (h : (l.find? (fun q => q.1.1 == c && q.1.2 == n)).map (fun q => q.2) = some a) : ((c, n), a) ∈ l := by
  cases hq : l.find? (fun q => q.1.1 == c && q.1.2 == n) with
  | none => rw [hq] at h; cases h
  | some q =>
    rw [hq] at h
    have h1 := List.find?_some hq
    have h2 := List.mem_of_find?_eq_some hq
    obtain ⟨⟨x, y⟩, z⟩ := q
    simp only [Bool.and_eq_true, beq_iff_eq] at h1
    obtain ⟨rfl, rfl⟩ := h1
    have h3 : z = a := Option.some.inj h
    rw [← h3]
    exact h2
theorem ns_okF : ax_okF ns_cl ns_Tb ns_cn ns_tb := fun co idx q h => ns_aF ((co, idx), q) (ns_find h)
def ns_pC (q : (Nat × Nat) × ((Nat ⊕ Nat) × Nat × Nat × Nat × Nat × Nat)) : Prop := (∀ y, q.2.1 = .inl y → ∃ I : ax_MI, ns_mt y = some I ∧ I.2.2.2.2.2.1 = q.2.2.2.1 ∧ I.2.2.2.2.2.2 = q.2.2.2.2.1 ∧ I.2.1 = q.2.2.2.2.2.1 ∧ (ns_nm y).cls = ns_cn q.2.2.2.2.2.1 ∧ Cond.code (ns_nm y) I.1 I.2.2.2.1 I.2.2.2.2.1 ∈ ns_Tb ∧ Cond.initialized (ns_nm y).cls ∈ ns_Tb ∧ Cond.methodLink (ns_cn q.1.1) q.1.2 (ns_nm y) ∈ ns_Tb ∧ ((ns_nm y).cls ≠ "java/lang/invoke/MethodHandle" ∧ (ns_nm y).cls ≠ "java/lang/invoke/VarHandle" ∧ (parseMethodDescriptor (ns_nm y).desc).map (fun d => d.parameters.length) = some q.2.2.1) ∧ (q.2.2.2.2.2.2 = 0 → Cond.static (ns_nm y) ∈ ns_Tb) ∧ (q.2.2.2.2.2.2 = 1 → Cond.instanceMethod (ns_nm y) ∈ ns_Tb ∧ Cond.selects (ns_cn q.2.2.2.2.2.1) (ns_nm y) (ns_nm y) ∈ ns_Tb) ∧ (q.2.2.2.2.2.2 = 2 → (ns_nm y).name = "<init>" ∧ I.2.2.2.2.1 = none ∧ Cond.instanceMethod (ns_nm y) ∈ ns_Tb)) ∧ ∀ z, q.2.1 = .inr z → ax_okP ns_Tb (ns_cn q.1.1) q.1.2 z ∧ (q.2.2.2.2.2.2 = 0 → z = 1 ∨ z = 2 ∨ z = 5) ∧ (q.2.2.2.2.2.2 = 1 → z = 4) ∧ (q.2.2.2.2.2.2 = 2 → z = 0)
theorem nw_19 : Cond.methodLink "NoteSheet" 1 Lib.objectInit ∈ ns_Tb := ns_in 19 (by decide +kernel) (by decide +kernel)
theorem nw_20 : Cond.instanceMethod Lib.objectInit ∈ ns_Tb := ns_in 20 (by decide +kernel) (by decide +kernel)
theorem nw_21 : Cond.code Lib.objectInit ⟨#[0xb1]⟩ 1 none ∈ ns_Tb := ns_in 21 (by decide +kernel) (by decide +kernel)
theorem ns_eC0 : ns_pC ((0, 1), (.inr 0, 0, 0, 0, 0, 2)) := ⟨fun y hy => by (cases hy), fun z hz => by cases hz; exact ⟨⟨nw_19, nw_20, nw_21⟩, by decide, by decide, by decide⟩⟩
theorem nw_22 : Cond.methodLink "NoteSheet" 9 Lib.Math.min.name ∈ ns_Tb := ns_in 22 (by decide +kernel) (by decide +kernel)
theorem nw_23 : Cond.static Lib.Math.min.name ∈ ns_Tb := ns_in 23 (by decide +kernel) (by decide +kernel)
theorem nw_2 : Cond.initialized "java/lang/Math" ∈ ns_Tb := ns_in 2 (by decide +kernel) (by decide +kernel)
theorem nw_24 : Cond.code Lib.Math.min.name Lib.Math.min.code 2 (some .int) ∈ ns_Tb := ns_in 24 (by decide +kernel) (by decide +kernel)
theorem ns_eC1 : ns_pC ((0, 9), (.inr 2, 0, 0, 0, 0, 0)) := ⟨fun y hy => by (cases hy), fun z hz => by cases hz; exact ⟨⟨nw_22, nw_23, nw_2, nw_24⟩, by decide, by decide, by decide⟩⟩
theorem nw_25 : Cond.methodLink "NoteSheet" 15 Lib.Math.max.name ∈ ns_Tb := ns_in 25 (by decide +kernel) (by decide +kernel)
theorem nw_26 : Cond.static Lib.Math.max.name ∈ ns_Tb := ns_in 26 (by decide +kernel) (by decide +kernel)
theorem nw_27 : Cond.code Lib.Math.max.name Lib.Math.max.code 2 (some .int) ∈ ns_Tb := ns_in 27 (by decide +kernel) (by decide +kernel)
theorem ns_eC2 : ns_pC ((0, 15), (.inr 1, 0, 0, 0, 0, 0)) := ⟨fun y hy => by (cases hy), fun z hz => by cases hz; exact ⟨⟨nw_25, nw_26, nw_2, nw_27⟩, by decide, by decide, by decide⟩⟩
theorem nw_33 : Cond.code ⟨"NoteSheet$Cell", "<init>", "()V"⟩ prog_2_method_1_code 1 (none) ∈ ns_Tb := ns_in 33 (by decide +kernel) (by decide +kernel)
theorem nw_3 : Cond.initialized "NoteSheet$Cell" ∈ ns_Tb := ns_in 3 (by decide +kernel) (by decide +kernel)
theorem nw_32 : Cond.instanceMethod ⟨"NoteSheet$Cell", "<init>", "()V"⟩ ∈ ns_Tb := ns_in 32 (by decide +kernel) (by decide +kernel)
theorem nwd_73 : (ns_nm 73).cls ≠ "java/lang/invoke/MethodHandle" ∧ (ns_nm 73).cls ≠ "java/lang/invoke/VarHandle" ∧ (parseMethodDescriptor (ns_nm 73).desc).map (fun d => d.parameters.length) = some 0 := ⟨by decide +kernel, by decide +kernel, by decide +kernel⟩
theorem nw_31 : Cond.methodLink "NoteSheet" 28 ⟨"NoteSheet$Cell", "<init>", "()V"⟩ ∈ ns_Tb := ns_in 31 (by decide +kernel) (by decide +kernel)
theorem ns_eC3 : ns_pC ((0, 28), (.inl 73, 0, 7, 117, 1, 2)) := ⟨fun y hy => by cases hy; exact ⟨ns_I_C_init, rfl, rfl, rfl, rfl, rfl, nw_33, nw_3, nw_31, nwd_73, fun h => absurd h (by decide), fun h => absurd h (by decide), fun _ => ⟨rfl, rfl, nw_32⟩⟩, fun z hz => by cases hz⟩
theorem nw_39 : Cond.code ⟨"NoteSheet$Formula", "<init>", "()V"⟩ prog_3_method_1_code 1 (none) ∈ ns_Tb := ns_in 39 (by decide +kernel) (by decide +kernel)
theorem nw_4 : Cond.initialized "NoteSheet$Formula" ∈ ns_Tb := ns_in 4 (by decide +kernel) (by decide +kernel)
theorem nw_38 : Cond.instanceMethod ⟨"NoteSheet$Formula", "<init>", "()V"⟩ ∈ ns_Tb := ns_in 38 (by decide +kernel) (by decide +kernel)
theorem nwd_77 : (ns_nm 77).cls ≠ "java/lang/invoke/MethodHandle" ∧ (ns_nm 77).cls ≠ "java/lang/invoke/VarHandle" ∧ (parseMethodDescriptor (ns_nm 77).desc).map (fun d => d.parameters.length) = some 0 := ⟨by decide +kernel, by decide +kernel, by decide +kernel⟩
theorem nw_143 : Cond.methodLink "NoteSheet" 38 ⟨"NoteSheet$Formula", "<init>", "()V"⟩ ∈ ns_Tb := ns_in 143 (by decide +kernel) (by decide +kernel)
theorem ns_eC4 : ns_pC ((0, 38), (.inl 77, 0, 2, 60, 2, 2)) := ⟨fun y hy => by cases hy; exact ⟨ns_I_F_init, rfl, rfl, rfl, rfl, rfl, nw_39, nw_4, nw_143, nwd_77, fun h => absurd h (by decide), fun h => absurd h (by decide), fun _ => ⟨rfl, rfl, nw_38⟩⟩, fun z hz => by cases hz⟩
theorem nw_148 : Cond.code ⟨"NoteSheet$Parser", "<init>", "(LNoteSheet$Formula;)V"⟩ prog_5_method_1_code 2 (none) ∈ ns_Tb := ns_in 148 (by decide +kernel) (by decide +kernel)
theorem nw_6 : Cond.initialized "NoteSheet$Parser" ∈ ns_Tb := ns_in 6 (by decide +kernel) (by decide +kernel)
theorem nw_147 : Cond.instanceMethod ⟨"NoteSheet$Parser", "<init>", "(LNoteSheet$Formula;)V"⟩ ∈ ns_Tb := ns_in 147 (by decide +kernel) (by decide +kernel)
theorem nwd_93 : (ns_nm 93).cls ≠ "java/lang/invoke/MethodHandle" ∧ (ns_nm 93).cls ≠ "java/lang/invoke/VarHandle" ∧ (parseMethodDescriptor (ns_nm 93).desc).map (fun d => d.parameters.length) = some 1 := ⟨by decide +kernel, by decide +kernel, by decide +kernel⟩
theorem nw_146 : Cond.methodLink "NoteSheet" 45 ⟨"NoteSheet$Parser", "<init>", "(LNoteSheet$Formula;)V"⟩ ∈ ns_Tb := ns_in 146 (by decide +kernel) (by decide +kernel)
theorem ns_eC5 : ns_pC ((0, 45), (.inl 93, 1, 0, 0, 4, 2)) := ⟨fun y hy => by cases hy; exact ⟨ns_I_P_init, rfl, rfl, rfl, rfl, rfl, nw_148, nw_6, nw_146, nwd_93, fun h => absurd h (by decide), fun h => absurd h (by decide), fun _ => ⟨rfl, rfl, nw_147⟩⟩, fun z hz => by cases hz⟩
theorem nw_188 : Cond.code ⟨"NoteSheet$Formula", "mayHold", "(C)Z"⟩ prog_3_method_4_code 1 (some .boolean) ∈ ns_Tb := ns_in 188 (by decide +kernel) (by decide +kernel)
theorem nw_187 : Cond.static ⟨"NoteSheet$Formula", "mayHold", "(C)Z"⟩ ∈ ns_Tb := ns_in 187 (by decide +kernel) (by decide +kernel)
theorem nwd_80 : (ns_nm 80).cls ≠ "java/lang/invoke/MethodHandle" ∧ (ns_nm 80).cls ≠ "java/lang/invoke/VarHandle" ∧ (parseMethodDescriptor (ns_nm 80).desc).map (fun d => d.parameters.length) = some 1 := ⟨by decide +kernel, by decide +kernel, by decide +kernel⟩
theorem nw_186 : Cond.methodLink "NoteSheet" 55 ⟨"NoteSheet$Formula", "mayHold", "(C)Z"⟩ ∈ ns_Tb := ns_in 186 (by decide +kernel) (by decide +kernel)
theorem ns_eC6 : ns_pC ((0, 55), (.inl 80, 1, 0, 0, 2, 0)) := ⟨fun y hy => by cases hy; exact ⟨ns_I_F_mayHold, rfl, rfl, rfl, rfl, rfl, nw_188, nw_4, nw_186, nwd_80, fun _ => nw_187, fun h => absurd h (by decide), fun h => absurd h (by decide)⟩, fun z hz => by cases hz⟩
theorem nw_281 : Cond.code ⟨"NoteSheet$Formula", "append", "(C)Z"⟩ prog_3_method_5_code 2 (some .boolean) ∈ ns_Tb := ns_in 281 (by decide +kernel) (by decide +kernel)
theorem nw_279 : Cond.instanceMethod ⟨"NoteSheet$Formula", "append", "(C)Z"⟩ ∈ ns_Tb := ns_in 279 (by decide +kernel) (by decide +kernel)
theorem nw_280 : Cond.selects "NoteSheet$Formula" ⟨"NoteSheet$Formula", "append", "(C)Z"⟩ ⟨"NoteSheet$Formula", "append", "(C)Z"⟩ ∈ ns_Tb := ns_in 280 (by decide +kernel) (by decide +kernel)
theorem nwd_81 : (ns_nm 81).cls ≠ "java/lang/invoke/MethodHandle" ∧ (ns_nm 81).cls ≠ "java/lang/invoke/VarHandle" ∧ (parseMethodDescriptor (ns_nm 81).desc).map (fun d => d.parameters.length) = some 1 := ⟨by decide +kernel, by decide +kernel, by decide +kernel⟩
theorem nw_278 : Cond.methodLink "NoteSheet" 59 ⟨"NoteSheet$Formula", "append", "(C)Z"⟩ ∈ ns_Tb := ns_in 278 (by decide +kernel) (by decide +kernel)
theorem ns_eC7 : ns_pC ((0, 59), (.inl 81, 1, 0, 0, 2, 1)) := ⟨fun y hy => by cases hy; exact ⟨ns_I_F_append, rfl, rfl, rfl, rfl, rfl, nw_281, nw_4, nw_278, nwd_81, fun h => absurd h (by decide), fun _ => ⟨nw_279, nw_280⟩, fun h => absurd h (by decide)⟩, fun z hz => by cases hz⟩
theorem nw_289 : Cond.code ⟨"NoteSheet", "isCell", "(I)Z"⟩ prog_1_method_11_code 1 (some .boolean) ∈ ns_Tb := ns_in 289 (by decide +kernel) (by decide +kernel)
theorem nw_1 : Cond.initialized "NoteSheet" ∈ ns_Tb := ns_in 1 (by decide +kernel) (by decide +kernel)
theorem nw_288 : Cond.static ⟨"NoteSheet", "isCell", "(I)Z"⟩ ∈ ns_Tb := ns_in 288 (by decide +kernel) (by decide +kernel)
theorem nwd_10 : (ns_nm 10).cls ≠ "java/lang/invoke/MethodHandle" ∧ (ns_nm 10).cls ≠ "java/lang/invoke/VarHandle" ∧ (parseMethodDescriptor (ns_nm 10).desc).map (fun d => d.parameters.length) = some 1 := ⟨by decide +kernel, by decide +kernel, by decide +kernel⟩
theorem nw_287 : Cond.methodLink "NoteSheet" 62 ⟨"NoteSheet", "isCell", "(I)Z"⟩ ∈ ns_Tb := ns_in 287 (by decide +kernel) (by decide +kernel)
theorem ns_eC8 : ns_pC ((0, 62), (.inl 10, 1, 0, 0, 0, 0)) := ⟨fun y hy => by cases hy; exact ⟨ns_I_N_isCell, rfl, rfl, rfl, rfl, rfl, nw_289, nw_1, nw_287, nwd_10, fun _ => nw_288, fun h => absurd h (by decide), fun h => absurd h (by decide)⟩, fun z hz => by cases hz⟩
theorem nw_293 : Cond.code ⟨"NoteSheet$Parser", "accepts", "()Z"⟩ prog_5_method_2_code 1 (some .boolean) ∈ ns_Tb := ns_in 293 (by decide +kernel) (by decide +kernel)
theorem nw_291 : Cond.instanceMethod ⟨"NoteSheet$Parser", "accepts", "()Z"⟩ ∈ ns_Tb := ns_in 291 (by decide +kernel) (by decide +kernel)
theorem nw_292 : Cond.selects "NoteSheet$Parser" ⟨"NoteSheet$Parser", "accepts", "()Z"⟩ ⟨"NoteSheet$Parser", "accepts", "()Z"⟩ ∈ ns_Tb := ns_in 292 (by decide +kernel) (by decide +kernel)
theorem nwd_94 : (ns_nm 94).cls ≠ "java/lang/invoke/MethodHandle" ∧ (ns_nm 94).cls ≠ "java/lang/invoke/VarHandle" ∧ (parseMethodDescriptor (ns_nm 94).desc).map (fun d => d.parameters.length) = some 0 := ⟨by decide +kernel, by decide +kernel, by decide +kernel⟩
theorem nw_290 : Cond.methodLink "NoteSheet" 66 ⟨"NoteSheet$Parser", "accepts", "()Z"⟩ ∈ ns_Tb := ns_in 290 (by decide +kernel) (by decide +kernel)
theorem ns_eC9 : ns_pC ((0, 66), (.inl 94, 0, 0, 0, 4, 1)) := ⟨fun y hy => by cases hy; exact ⟨ns_I_P_accepts, rfl, rfl, rfl, rfl, rfl, nw_293, nw_6, nw_290, nwd_94, fun h => absurd h (by decide), fun _ => ⟨nw_291, nw_292⟩, fun h => absurd h (by decide)⟩, fun z hz => by cases hz⟩
theorem nw_343 : Cond.code ⟨"NoteSheet$Parser", "fault", "()I"⟩ prog_5_method_3_code 1 (some .int) ∈ ns_Tb := ns_in 343 (by decide +kernel) (by decide +kernel)
theorem nw_341 : Cond.instanceMethod ⟨"NoteSheet$Parser", "fault", "()I"⟩ ∈ ns_Tb := ns_in 341 (by decide +kernel) (by decide +kernel)
theorem nw_342 : Cond.selects "NoteSheet$Parser" ⟨"NoteSheet$Parser", "fault", "()I"⟩ ⟨"NoteSheet$Parser", "fault", "()I"⟩ ∈ ns_Tb := ns_in 342 (by decide +kernel) (by decide +kernel)
theorem nwd_95 : (ns_nm 95).cls ≠ "java/lang/invoke/MethodHandle" ∧ (ns_nm 95).cls ≠ "java/lang/invoke/VarHandle" ∧ (parseMethodDescriptor (ns_nm 95).desc).map (fun d => d.parameters.length) = some 0 := ⟨by decide +kernel, by decide +kernel, by decide +kernel⟩
theorem nw_340 : Cond.methodLink "NoteSheet" 70 ⟨"NoteSheet$Parser", "fault", "()I"⟩ ∈ ns_Tb := ns_in 340 (by decide +kernel) (by decide +kernel)
theorem ns_eC10 : ns_pC ((0, 70), (.inl 95, 0, 0, 0, 4, 1)) := ⟨fun y hy => by cases hy; exact ⟨ns_I_P_fault, rfl, rfl, rfl, rfl, rfl, nw_343, nw_6, nw_340, nwd_95, fun h => absurd h (by decide), fun _ => ⟨nw_341, nw_342⟩, fun h => absurd h (by decide)⟩, fun z hz => by cases hz⟩
theorem nw_347 : Cond.code ⟨"NoteSheet", "makeFormula", "(LNoteSheet$Cell;)V"⟩ prog_1_method_13_code 2 (none) ∈ ns_Tb := ns_in 347 (by decide +kernel) (by decide +kernel)
theorem nw_346 : Cond.instanceMethod ⟨"NoteSheet", "makeFormula", "(LNoteSheet$Cell;)V"⟩ ∈ ns_Tb := ns_in 346 (by decide +kernel) (by decide +kernel)
theorem nws_12 : Cond.selects "NoteSheet" ⟨"NoteSheet", "makeFormula", "(LNoteSheet$Cell;)V"⟩ ⟨"NoteSheet", "makeFormula", "(LNoteSheet$Cell;)V"⟩ ∈ ns_Tb := ns_inS (y := ⟨"NoteSheet", "makeFormula", "(LNoteSheet$Cell;)V"⟩) (n := 8) 8 (by decide +kernel) (by decide +kernel)
theorem nwd_12 : (ns_nm 12).cls ≠ "java/lang/invoke/MethodHandle" ∧ (ns_nm 12).cls ≠ "java/lang/invoke/VarHandle" ∧ (parseMethodDescriptor (ns_nm 12).desc).map (fun d => d.parameters.length) = some 1 := ⟨by decide +kernel, by decide +kernel, by decide +kernel⟩
theorem nw_344 : Cond.methodLink "NoteSheet" 74 ⟨"NoteSheet", "makeFormula", "(LNoteSheet$Cell;)V"⟩ ∈ ns_Tb := ns_in 344 (by decide +kernel) (by decide +kernel)
theorem ns_eC11 : ns_pC ((0, 74), (.inl 12, 1, 0, 0, 0, 1)) := ⟨fun y hy => by cases hy; exact ⟨ns_I_N_makeFormula, rfl, rfl, rfl, rfl, rfl, nw_347, nw_1, nw_344, nwd_12, fun h => absurd h (by decide), fun _ => ⟨nw_346, nws_12⟩, fun h => absurd h (by decide)⟩, fun z hz => by cases hz⟩
theorem nw_373 : Cond.code ⟨"NoteSheet", "isDurability", "(I)Z"⟩ prog_1_method_12_code 1 (some .boolean) ∈ ns_Tb := ns_in 373 (by decide +kernel) (by decide +kernel)
theorem nw_372 : Cond.static ⟨"NoteSheet", "isDurability", "(I)Z"⟩ ∈ ns_Tb := ns_in 372 (by decide +kernel) (by decide +kernel)
theorem nwd_11 : (ns_nm 11).cls ≠ "java/lang/invoke/MethodHandle" ∧ (ns_nm 11).cls ≠ "java/lang/invoke/VarHandle" ∧ (parseMethodDescriptor (ns_nm 11).desc).map (fun d => d.parameters.length) = some 1 := ⟨by decide +kernel, by decide +kernel, by decide +kernel⟩
theorem nw_371 : Cond.methodLink "NoteSheet" 81 ⟨"NoteSheet", "isDurability", "(I)Z"⟩ ∈ ns_Tb := ns_in 371 (by decide +kernel) (by decide +kernel)
theorem ns_eC12 : ns_pC ((0, 81), (.inl 11, 1, 0, 0, 0, 0)) := ⟨fun y hy => by cases hy; exact ⟨ns_I_N_isDurability, rfl, rfl, rfl, rfl, rfl, nw_373, nw_1, nw_371, nwd_11, fun _ => nw_372, fun h => absurd h (by decide), fun h => absurd h (by decide)⟩, fun z hz => by cases hz⟩
theorem nw_377 : Cond.code ⟨"NoteSheet", "makeInput", "(LNoteSheet$Cell;II)V"⟩ prog_1_method_14_code 4 (none) ∈ ns_Tb := ns_in 377 (by decide +kernel) (by decide +kernel)
theorem nw_376 : Cond.instanceMethod ⟨"NoteSheet", "makeInput", "(LNoteSheet$Cell;II)V"⟩ ∈ ns_Tb := ns_in 376 (by decide +kernel) (by decide +kernel)
theorem nws_13 : Cond.selects "NoteSheet" ⟨"NoteSheet", "makeInput", "(LNoteSheet$Cell;II)V"⟩ ⟨"NoteSheet", "makeInput", "(LNoteSheet$Cell;II)V"⟩ ∈ ns_Tb := ns_inS (y := ⟨"NoteSheet", "makeInput", "(LNoteSheet$Cell;II)V"⟩) (n := 8) 10 (by decide +kernel) (by decide +kernel)
theorem nwd_13 : (ns_nm 13).cls ≠ "java/lang/invoke/MethodHandle" ∧ (ns_nm 13).cls ≠ "java/lang/invoke/VarHandle" ∧ (parseMethodDescriptor (ns_nm 13).desc).map (fun d => d.parameters.length) = some 3 := ⟨by decide +kernel, by decide +kernel, by decide +kernel⟩
theorem nw_374 : Cond.methodLink "NoteSheet" 94 ⟨"NoteSheet", "makeInput", "(LNoteSheet$Cell;II)V"⟩ ∈ ns_Tb := ns_in 374 (by decide +kernel) (by decide +kernel)
theorem ns_eC13 : ns_pC ((0, 94), (.inl 13, 3, 0, 0, 0, 1)) := ⟨fun y hy => by cases hy; exact ⟨ns_I_N_makeInput, rfl, rfl, rfl, rfl, rfl, nw_377, nw_1, nw_374, nwd_13, fun h => absurd h (by decide), fun _ => ⟨nw_376, nws_13⟩, fun h => absurd h (by decide)⟩, fun z hz => by cases hz⟩
theorem nw_390 : Cond.code ⟨"NoteSheet", "upToDateValue", "(LNoteSheet$Cell;)J"⟩ prog_1_method_16_code 2 (some .long) ∈ ns_Tb := ns_in 390 (by decide +kernel) (by decide +kernel)
theorem nw_389 : Cond.instanceMethod ⟨"NoteSheet", "upToDateValue", "(LNoteSheet$Cell;)J"⟩ ∈ ns_Tb := ns_in 389 (by decide +kernel) (by decide +kernel)
theorem nws_15 : Cond.selects "NoteSheet" ⟨"NoteSheet", "upToDateValue", "(LNoteSheet$Cell;)J"⟩ ⟨"NoteSheet", "upToDateValue", "(LNoteSheet$Cell;)J"⟩ ∈ ns_Tb := ns_inS (y := ⟨"NoteSheet", "upToDateValue", "(LNoteSheet$Cell;)J"⟩) (n := 8) 11 (by decide +kernel) (by decide +kernel)
theorem nwd_15 : (ns_nm 15).cls ≠ "java/lang/invoke/MethodHandle" ∧ (ns_nm 15).cls ≠ "java/lang/invoke/VarHandle" ∧ (parseMethodDescriptor (ns_nm 15).desc).map (fun d => d.parameters.length) = some 1 := ⟨by decide +kernel, by decide +kernel, by decide +kernel⟩
theorem nw_387 : Cond.methodLink "NoteSheet" 100 ⟨"NoteSheet", "upToDateValue", "(LNoteSheet$Cell;)J"⟩ ∈ ns_Tb := ns_in 387 (by decide +kernel) (by decide +kernel)
theorem ns_eC14 : ns_pC ((0, 100), (.inl 15, 1, 0, 0, 0, 1)) := ⟨fun y hy => by cases hy; exact ⟨ns_I_N_upToDateValue, rfl, rfl, rfl, rfl, rfl, nw_390, nw_1, nw_387, nwd_15, fun h => absurd h (by decide), fun _ => ⟨nw_389, nws_15⟩, fun h => absurd h (by decide)⟩, fun z hz => by cases hz⟩
theorem nw_467 : Cond.code ⟨"NoteSheet", "dropValuesBeyondKept", "()V"⟩ prog_1_method_29_code 2 (none) ∈ ns_Tb := ns_in 467 (by decide +kernel) (by decide +kernel)
theorem nw_466 : Cond.instanceMethod ⟨"NoteSheet", "dropValuesBeyondKept", "()V"⟩ ∈ ns_Tb := ns_in 466 (by decide +kernel) (by decide +kernel)
theorem nws_28 : Cond.selects "NoteSheet" ⟨"NoteSheet", "dropValuesBeyondKept", "()V"⟩ ⟨"NoteSheet", "dropValuesBeyondKept", "()V"⟩ ∈ ns_Tb := ns_inS (y := ⟨"NoteSheet", "dropValuesBeyondKept", "()V"⟩) (n := 8) 22 (by decide +kernel) (by decide +kernel)
theorem nwd_28 : (ns_nm 28).cls ≠ "java/lang/invoke/MethodHandle" ∧ (ns_nm 28).cls ≠ "java/lang/invoke/VarHandle" ∧ (parseMethodDescriptor (ns_nm 28).desc).map (fun d => d.parameters.length) = some 0 := ⟨by decide +kernel, by decide +kernel, by decide +kernel⟩
theorem nw_464 : Cond.methodLink "NoteSheet" 104 ⟨"NoteSheet", "dropValuesBeyondKept", "()V"⟩ ∈ ns_Tb := ns_in 464 (by decide +kernel) (by decide +kernel)
theorem ns_eC15 : ns_pC ((0, 104), (.inl 28, 0, 0, 0, 0, 1)) := ⟨fun y hy => by cases hy; exact ⟨ns_I_N_dropValuesBeyondKept, rfl, rfl, rfl, rfl, rfl, nw_467, nw_1, nw_464, nwd_28, fun h => absurd h (by decide), fun _ => ⟨nw_466, nws_28⟩, fun h => absurd h (by decide)⟩, fun z hz => by cases hz⟩
theorem nw_418 : Cond.code ⟨"NoteSheet$Cell", "unchangedSince", "()I"⟩ prog_2_method_4_code 1 (some .int) ∈ ns_Tb := ns_in 418 (by decide +kernel) (by decide +kernel)
theorem nw_416 : Cond.instanceMethod ⟨"NoteSheet$Cell", "unchangedSince", "()I"⟩ ∈ ns_Tb := ns_in 416 (by decide +kernel) (by decide +kernel)
theorem nw_417 : Cond.selects "NoteSheet$Cell" ⟨"NoteSheet$Cell", "unchangedSince", "()I"⟩ ⟨"NoteSheet$Cell", "unchangedSince", "()I"⟩ ∈ ns_Tb := ns_in 417 (by decide +kernel) (by decide +kernel)
theorem nwd_76 : (ns_nm 76).cls ≠ "java/lang/invoke/MethodHandle" ∧ (ns_nm 76).cls ≠ "java/lang/invoke/VarHandle" ∧ (parseMethodDescriptor (ns_nm 76).desc).map (fun d => d.parameters.length) = some 0 := ⟨by decide +kernel, by decide +kernel, by decide +kernel⟩
theorem nw_415 : Cond.methodLink "NoteSheet" 110 ⟨"NoteSheet$Cell", "unchangedSince", "()I"⟩ ∈ ns_Tb := ns_in 415 (by decide +kernel) (by decide +kernel)
theorem ns_eC16 : ns_pC ((0, 110), (.inl 76, 0, 0, 0, 1, 1)) := ⟨fun y hy => by cases hy; exact ⟨ns_I_C_unchangedSince, rfl, rfl, rfl, rfl, rfl, nw_418, nw_3, nw_415, nwd_76, fun h => absurd h (by decide), fun _ => ⟨nw_416, nw_417⟩, fun h => absurd h (by decide)⟩, fun z hz => by cases hz⟩
theorem nw_426 : Cond.code ⟨"NoteSheet$Cell", "givenDurability", "()I"⟩ prog_2_method_3_code 1 (some .int) ∈ ns_Tb := ns_in 426 (by decide +kernel) (by decide +kernel)
theorem nw_424 : Cond.instanceMethod ⟨"NoteSheet$Cell", "givenDurability", "()I"⟩ ∈ ns_Tb := ns_in 424 (by decide +kernel) (by decide +kernel)
theorem nw_425 : Cond.selects "NoteSheet$Cell" ⟨"NoteSheet$Cell", "givenDurability", "()I"⟩ ⟨"NoteSheet$Cell", "givenDurability", "()I"⟩ ∈ ns_Tb := ns_in 425 (by decide +kernel) (by decide +kernel)
theorem nwd_75 : (ns_nm 75).cls ≠ "java/lang/invoke/MethodHandle" ∧ (ns_nm 75).cls ≠ "java/lang/invoke/VarHandle" ∧ (parseMethodDescriptor (ns_nm 75).desc).map (fun d => d.parameters.length) = some 0 := ⟨by decide +kernel, by decide +kernel, by decide +kernel⟩
theorem nw_423 : Cond.methodLink "NoteSheet" 122 ⟨"NoteSheet$Cell", "givenDurability", "()I"⟩ ∈ ns_Tb := ns_in 423 (by decide +kernel) (by decide +kernel)
theorem ns_eC17 : ns_pC ((0, 122), (.inl 75, 0, 0, 0, 1, 1)) := ⟨fun y hy => by cases hy; exact ⟨ns_I_C_givenDurability, rfl, rfl, rfl, rfl, rfl, nw_426, nw_3, nw_423, nwd_75, fun h => absurd h (by decide), fun _ => ⟨nw_424, nw_425⟩, fun h => absurd h (by decide)⟩, fun z hz => by cases hz⟩
theorem nw_471 : Cond.code ⟨"NoteSheet", "valuesInNotes", "()I"⟩ prog_1_method_28_code 3 (some .int) ∈ ns_Tb := ns_in 471 (by decide +kernel) (by decide +kernel)
theorem nw_470 : Cond.instanceMethod ⟨"NoteSheet", "valuesInNotes", "()I"⟩ ∈ ns_Tb := ns_in 470 (by decide +kernel) (by decide +kernel)
theorem nws_27 : Cond.selects "NoteSheet" ⟨"NoteSheet", "valuesInNotes", "()I"⟩ ⟨"NoteSheet", "valuesInNotes", "()I"⟩ ∈ ns_Tb := ns_inS (y := ⟨"NoteSheet", "valuesInNotes", "()I"⟩) (n := 8) 23 (by decide +kernel) (by decide +kernel)
theorem nwd_27 : (ns_nm 27).cls ≠ "java/lang/invoke/MethodHandle" ∧ (ns_nm 27).cls ≠ "java/lang/invoke/VarHandle" ∧ (parseMethodDescriptor (ns_nm 27).desc).map (fun d => d.parameters.length) = some 0 := ⟨by decide +kernel, by decide +kernel, by decide +kernel⟩
theorem nw_468 : Cond.methodLink "NoteSheet" 134 ⟨"NoteSheet", "valuesInNotes", "()I"⟩ ∈ ns_Tb := ns_in 468 (by decide +kernel) (by decide +kernel)
theorem ns_eC18 : ns_pC ((0, 134), (.inl 27, 0, 0, 0, 0, 1)) := ⟨fun y hy => by cases hy; exact ⟨ns_I_N_valuesInNotes, rfl, rfl, rfl, rfl, rfl, nw_471, nw_1, nw_468, nwd_27, fun h => absurd h (by decide), fun _ => ⟨nw_470, nws_27⟩, fun h => absurd h (by decide)⟩, fun z hz => by cases hz⟩
theorem nw_351 : Cond.code ⟨"NoteSheet$Formula", "hasTextOf", "(LNoteSheet$Formula;)Z"⟩ prog_3_method_10_code 3 (some .boolean) ∈ ns_Tb := ns_in 351 (by decide +kernel) (by decide +kernel)
theorem nw_349 : Cond.instanceMethod ⟨"NoteSheet$Formula", "hasTextOf", "(LNoteSheet$Formula;)Z"⟩ ∈ ns_Tb := ns_in 349 (by decide +kernel) (by decide +kernel)
theorem nw_350 : Cond.selects "NoteSheet$Formula" ⟨"NoteSheet$Formula", "hasTextOf", "(LNoteSheet$Formula;)Z"⟩ ⟨"NoteSheet$Formula", "hasTextOf", "(LNoteSheet$Formula;)Z"⟩ ∈ ns_Tb := ns_in 350 (by decide +kernel) (by decide +kernel)
theorem nwd_86 : (ns_nm 86).cls ≠ "java/lang/invoke/MethodHandle" ∧ (ns_nm 86).cls ≠ "java/lang/invoke/VarHandle" ∧ (parseMethodDescriptor (ns_nm 86).desc).map (fun d => d.parameters.length) = some 1 := ⟨by decide +kernel, by decide +kernel, by decide +kernel⟩
theorem nw_348 : Cond.methodLink "NoteSheet" 140 ⟨"NoteSheet$Formula", "hasTextOf", "(LNoteSheet$Formula;)Z"⟩ ∈ ns_Tb := ns_in 348 (by decide +kernel) (by decide +kernel)
theorem ns_eC19 : ns_pC ((0, 140), (.inl 86, 1, 0, 0, 2, 1)) := ⟨fun y hy => by cases hy; exact ⟨ns_I_F_hasTextOf, rfl, rfl, rfl, rfl, rfl, nw_351, nw_4, nw_348, nwd_86, fun h => absurd h (by decide), fun _ => ⟨nw_349, nw_350⟩, fun h => absurd h (by decide)⟩, fun z hz => by cases hz⟩
theorem nw_355 : Cond.code ⟨"NoteSheet$Cell", "ownDurability", "()I"⟩ prog_2_method_2_code 1 (some .int) ∈ ns_Tb := ns_in 355 (by decide +kernel) (by decide +kernel)
theorem nw_353 : Cond.instanceMethod ⟨"NoteSheet$Cell", "ownDurability", "()I"⟩ ∈ ns_Tb := ns_in 353 (by decide +kernel) (by decide +kernel)
theorem nw_354 : Cond.selects "NoteSheet$Cell" ⟨"NoteSheet$Cell", "ownDurability", "()I"⟩ ⟨"NoteSheet$Cell", "ownDurability", "()I"⟩ ∈ ns_Tb := ns_in 354 (by decide +kernel) (by decide +kernel)
theorem nwd_74 : (ns_nm 74).cls ≠ "java/lang/invoke/MethodHandle" ∧ (ns_nm 74).cls ≠ "java/lang/invoke/VarHandle" ∧ (parseMethodDescriptor (ns_nm 74).desc).map (fun d => d.parameters.length) = some 0 := ⟨by decide +kernel, by decide +kernel, by decide +kernel⟩
theorem nw_352 : Cond.methodLink "NoteSheet" 144 ⟨"NoteSheet$Cell", "ownDurability", "()I"⟩ ∈ ns_Tb := ns_in 352 (by decide +kernel) (by decide +kernel)
theorem ns_eC20 : ns_pC ((0, 144), (.inl 74, 0, 0, 0, 1, 1)) := ⟨fun y hy => by cases hy; exact ⟨ns_I_C_ownDurability, rfl, rfl, rfl, rfl, rfl, nw_355, nw_3, nw_352, nwd_74, fun h => absurd h (by decide), fun _ => ⟨nw_353, nw_354⟩, fun h => absurd h (by decide)⟩, fun z hz => by cases hz⟩
theorem nw_359 : Cond.code ⟨"NoteSheet", "startRevision", "(I)V"⟩ prog_1_method_15_code 3 (none) ∈ ns_Tb := ns_in 359 (by decide +kernel) (by decide +kernel)
theorem nw_358 : Cond.instanceMethod ⟨"NoteSheet", "startRevision", "(I)V"⟩ ∈ ns_Tb := ns_in 358 (by decide +kernel) (by decide +kernel)
theorem nws_14 : Cond.selects "NoteSheet" ⟨"NoteSheet", "startRevision", "(I)V"⟩ ⟨"NoteSheet", "startRevision", "(I)V"⟩ ∈ ns_Tb := ns_inS (y := ⟨"NoteSheet", "startRevision", "(I)V"⟩) (n := 8) 9 (by decide +kernel) (by decide +kernel)
theorem nwd_14 : (ns_nm 14).cls ≠ "java/lang/invoke/MethodHandle" ∧ (ns_nm 14).cls ≠ "java/lang/invoke/VarHandle" ∧ (parseMethodDescriptor (ns_nm 14).desc).map (fun d => d.parameters.length) = some 1 := ⟨by decide +kernel, by decide +kernel, by decide +kernel⟩
theorem nw_356 : Cond.methodLink "NoteSheet" 147 ⟨"NoteSheet", "startRevision", "(I)V"⟩ ∈ ns_Tb := ns_in 356 (by decide +kernel) (by decide +kernel)
theorem ns_eC21 : ns_pC ((0, 147), (.inl 14, 1, 0, 0, 0, 1)) := ⟨fun y hy => by cases hy; exact ⟨ns_I_N_startRevision, rfl, rfl, rfl, rfl, rfl, nw_359, nw_1, nw_356, nwd_14, fun h => absurd h (by decide), fun _ => ⟨nw_358, nws_14⟩, fun h => absurd h (by decide)⟩, fun z hz => by cases hz⟩
theorem nw_363 : Cond.code ⟨"NoteSheet$Formula", "copyFrom", "(LNoteSheet$Formula;)V"⟩ prog_3_method_11_code 2 (none) ∈ ns_Tb := ns_in 363 (by decide +kernel) (by decide +kernel)
theorem nw_361 : Cond.instanceMethod ⟨"NoteSheet$Formula", "copyFrom", "(LNoteSheet$Formula;)V"⟩ ∈ ns_Tb := ns_in 361 (by decide +kernel) (by decide +kernel)
theorem nw_362 : Cond.selects "NoteSheet$Formula" ⟨"NoteSheet$Formula", "copyFrom", "(LNoteSheet$Formula;)V"⟩ ⟨"NoteSheet$Formula", "copyFrom", "(LNoteSheet$Formula;)V"⟩ ∈ ns_Tb := ns_in 362 (by decide +kernel) (by decide +kernel)
theorem nwd_87 : (ns_nm 87).cls ≠ "java/lang/invoke/MethodHandle" ∧ (ns_nm 87).cls ≠ "java/lang/invoke/VarHandle" ∧ (parseMethodDescriptor (ns_nm 87).desc).map (fun d => d.parameters.length) = some 1 := ⟨by decide +kernel, by decide +kernel, by decide +kernel⟩
theorem nw_360 : Cond.methodLink "NoteSheet" 151 ⟨"NoteSheet$Formula", "copyFrom", "(LNoteSheet$Formula;)V"⟩ ∈ ns_Tb := ns_in 360 (by decide +kernel) (by decide +kernel)
theorem ns_eC22 : ns_pC ((0, 151), (.inl 87, 1, 0, 0, 2, 1)) := ⟨fun y hy => by cases hy; exact ⟨ns_I_F_copyFrom, rfl, rfl, rfl, rfl, rfl, nw_363, nw_4, nw_360, nwd_87, fun h => absurd h (by decide), fun _ => ⟨nw_361, nw_362⟩, fun h => absurd h (by decide)⟩, fun z hz => by cases hz⟩
theorem nw_381 : Cond.code ⟨"NoteSheet$Note", "clear", "()V"⟩ prog_4_method_2_code 1 (none) ∈ ns_Tb := ns_in 381 (by decide +kernel) (by decide +kernel)
theorem nw_5 : Cond.initialized "NoteSheet$Note" ∈ ns_Tb := ns_in 5 (by decide +kernel) (by decide +kernel)
theorem nw_379 : Cond.instanceMethod ⟨"NoteSheet$Note", "clear", "()V"⟩ ∈ ns_Tb := ns_in 379 (by decide +kernel) (by decide +kernel)
theorem nw_380 : Cond.selects "NoteSheet$Note" ⟨"NoteSheet$Note", "clear", "()V"⟩ ⟨"NoteSheet$Note", "clear", "()V"⟩ ∈ ns_Tb := ns_in 380 (by decide +kernel) (by decide +kernel)
theorem nwd_89 : (ns_nm 89).cls ≠ "java/lang/invoke/MethodHandle" ∧ (ns_nm 89).cls ≠ "java/lang/invoke/VarHandle" ∧ (parseMethodDescriptor (ns_nm 89).desc).map (fun d => d.parameters.length) = some 0 := ⟨by decide +kernel, by decide +kernel, by decide +kernel⟩
theorem nw_378 : Cond.methodLink "NoteSheet" 160 ⟨"NoteSheet$Note", "clear", "()V"⟩ ∈ ns_Tb := ns_in 378 (by decide +kernel) (by decide +kernel)
theorem ns_eC23 : ns_pC ((0, 160), (.inl 89, 0, 0, 0, 3, 1)) := ⟨fun y hy => by cases hy; exact ⟨ns_I_O_clear, rfl, rfl, rfl, rfl, rfl, nw_381, nw_5, nw_378, nwd_89, fun h => absurd h (by decide), fun _ => ⟨nw_379, nw_380⟩, fun h => absurd h (by decide)⟩, fun z hz => by cases hz⟩
theorem nw_394 : Cond.code ⟨"NoteSheet", "bringUpToDate", "(LNoteSheet$Cell;)V"⟩ prog_1_method_17_code 2 (none) ∈ ns_Tb := ns_in 394 (by decide +kernel) (by decide +kernel)
theorem nw_393 : Cond.instanceMethod ⟨"NoteSheet", "bringUpToDate", "(LNoteSheet$Cell;)V"⟩ ∈ ns_Tb := ns_in 393 (by decide +kernel) (by decide +kernel)
theorem nws_16 : Cond.selects "NoteSheet" ⟨"NoteSheet", "bringUpToDate", "(LNoteSheet$Cell;)V"⟩ ⟨"NoteSheet", "bringUpToDate", "(LNoteSheet$Cell;)V"⟩ ∈ ns_Tb := ns_inS (y := ⟨"NoteSheet", "bringUpToDate", "(LNoteSheet$Cell;)V"⟩) (n := 8) 12 (by decide +kernel) (by decide +kernel)
theorem nwd_16 : (ns_nm 16).cls ≠ "java/lang/invoke/MethodHandle" ∧ (ns_nm 16).cls ≠ "java/lang/invoke/VarHandle" ∧ (parseMethodDescriptor (ns_nm 16).desc).map (fun d => d.parameters.length) = some 1 := ⟨by decide +kernel, by decide +kernel, by decide +kernel⟩
theorem nw_391 : Cond.methodLink "NoteSheet" 163 ⟨"NoteSheet", "bringUpToDate", "(LNoteSheet$Cell;)V"⟩ ∈ ns_Tb := ns_in 391 (by decide +kernel) (by decide +kernel)
theorem ns_eC24 : ns_pC ((0, 163), (.inl 16, 1, 0, 0, 0, 1)) := ⟨fun y hy => by cases hy; exact ⟨ns_I_N_bringUpToDate, rfl, rfl, rfl, rfl, rfl, nw_394, nw_1, nw_391, nwd_16, fun h => absurd h (by decide), fun _ => ⟨nw_393, nws_16⟩, fun h => absurd h (by decide)⟩, fun z hz => by cases hz⟩
theorem nw_430 : Cond.code ⟨"NoteSheet", "workOut", "(LNoteSheet$Cell;)V"⟩ prog_1_method_21_code 4 (none) ∈ ns_Tb := ns_in 430 (by decide +kernel) (by decide +kernel)
theorem nw_429 : Cond.instanceMethod ⟨"NoteSheet", "workOut", "(LNoteSheet$Cell;)V"⟩ ∈ ns_Tb := ns_in 429 (by decide +kernel) (by decide +kernel)
theorem nws_20 : Cond.selects "NoteSheet" ⟨"NoteSheet", "workOut", "(LNoteSheet$Cell;)V"⟩ ⟨"NoteSheet", "workOut", "(LNoteSheet$Cell;)V"⟩ ∈ ns_Tb := ns_inS (y := ⟨"NoteSheet", "workOut", "(LNoteSheet$Cell;)V"⟩) (n := 8) 18 (by decide +kernel) (by decide +kernel)
theorem nwd_20 : (ns_nm 20).cls ≠ "java/lang/invoke/MethodHandle" ∧ (ns_nm 20).cls ≠ "java/lang/invoke/VarHandle" ∧ (parseMethodDescriptor (ns_nm 20).desc).map (fun d => d.parameters.length) = some 1 := ⟨by decide +kernel, by decide +kernel, by decide +kernel⟩
theorem nw_427 : Cond.methodLink "NoteSheet" 166 ⟨"NoteSheet", "workOut", "(LNoteSheet$Cell;)V"⟩ ∈ ns_Tb := ns_in 427 (by decide +kernel) (by decide +kernel)
theorem ns_eC25 : ns_pC ((0, 166), (.inl 20, 1, 0, 0, 0, 1)) := ⟨fun y hy => by cases hy; exact ⟨ns_I_N_workOut, rfl, rfl, rfl, rfl, rfl, nw_430, nw_1, nw_427, nwd_20, fun h => absurd h (by decide), fun _ => ⟨nw_429, nws_20⟩, fun h => absurd h (by decide)⟩, fun z hz => by cases hz⟩
theorem nw_463 : Cond.code ⟨"NoteSheet", "markUsed", "(LNoteSheet$Cell;)V"⟩ prog_1_method_26_code 2 (none) ∈ ns_Tb := ns_in 463 (by decide +kernel) (by decide +kernel)
theorem nw_462 : Cond.instanceMethod ⟨"NoteSheet", "markUsed", "(LNoteSheet$Cell;)V"⟩ ∈ ns_Tb := ns_in 462 (by decide +kernel) (by decide +kernel)
theorem nws_25 : Cond.selects "NoteSheet" ⟨"NoteSheet", "markUsed", "(LNoteSheet$Cell;)V"⟩ ⟨"NoteSheet", "markUsed", "(LNoteSheet$Cell;)V"⟩ ∈ ns_Tb := ns_inS (y := ⟨"NoteSheet", "markUsed", "(LNoteSheet$Cell;)V"⟩) (n := 8) 21 (by decide +kernel) (by decide +kernel)
theorem nwd_25 : (ns_nm 25).cls ≠ "java/lang/invoke/MethodHandle" ∧ (ns_nm 25).cls ≠ "java/lang/invoke/VarHandle" ∧ (parseMethodDescriptor (ns_nm 25).desc).map (fun d => d.parameters.length) = some 1 := ⟨by decide +kernel, by decide +kernel, by decide +kernel⟩
theorem nw_460 : Cond.methodLink "NoteSheet" 169 ⟨"NoteSheet", "markUsed", "(LNoteSheet$Cell;)V"⟩ ∈ ns_Tb := ns_in 460 (by decide +kernel) (by decide +kernel)
theorem ns_eC26 : ns_pC ((0, 169), (.inl 25, 1, 0, 0, 0, 1)) := ⟨fun y hy => by cases hy; exact ⟨ns_I_N_markUsed, rfl, rfl, rfl, rfl, rfl, nw_463, nw_1, nw_460, nwd_25, fun h => absurd h (by decide), fun _ => ⟨nw_462, nws_25⟩, fun h => absurd h (by decide)⟩, fun z hz => by cases hz⟩
theorem nw_398 : Cond.code ⟨"NoteSheet$Note", "isVerifiedIn", "(I)Z"⟩ prog_4_method_3_code 2 (some .boolean) ∈ ns_Tb := ns_in 398 (by decide +kernel) (by decide +kernel)
theorem nw_396 : Cond.instanceMethod ⟨"NoteSheet$Note", "isVerifiedIn", "(I)Z"⟩ ∈ ns_Tb := ns_in 396 (by decide +kernel) (by decide +kernel)
theorem nw_397 : Cond.selects "NoteSheet$Note" ⟨"NoteSheet$Note", "isVerifiedIn", "(I)Z"⟩ ⟨"NoteSheet$Note", "isVerifiedIn", "(I)Z"⟩ ∈ ns_Tb := ns_in 397 (by decide +kernel) (by decide +kernel)
theorem nwd_90 : (ns_nm 90).cls ≠ "java/lang/invoke/MethodHandle" ∧ (ns_nm 90).cls ≠ "java/lang/invoke/VarHandle" ∧ (parseMethodDescriptor (ns_nm 90).desc).map (fun d => d.parameters.length) = some 1 := ⟨by decide +kernel, by decide +kernel, by decide +kernel⟩
theorem nw_395 : Cond.methodLink "NoteSheet" 179 ⟨"NoteSheet$Note", "isVerifiedIn", "(I)Z"⟩ ∈ ns_Tb := ns_in 395 (by decide +kernel) (by decide +kernel)
theorem ns_eC27 : ns_pC ((0, 179), (.inl 90, 1, 0, 0, 3, 1)) := ⟨fun y hy => by cases hy; exact ⟨ns_I_O_isVerifiedIn, rfl, rfl, rfl, rfl, rfl, nw_398, nw_5, nw_395, nwd_90, fun h => absurd h (by decide), fun _ => ⟨nw_396, nw_397⟩, fun h => absurd h (by decide)⟩, fun z hz => by cases hz⟩
theorem nw_402 : Cond.code ⟨"NoteSheet", "passes", "(LNoteSheet$Note;)Z"⟩ prog_1_method_18_code 2 (some .boolean) ∈ ns_Tb := ns_in 402 (by decide +kernel) (by decide +kernel)
theorem nw_401 : Cond.instanceMethod ⟨"NoteSheet", "passes", "(LNoteSheet$Note;)Z"⟩ ∈ ns_Tb := ns_in 401 (by decide +kernel) (by decide +kernel)
theorem nws_17 : Cond.selects "NoteSheet" ⟨"NoteSheet", "passes", "(LNoteSheet$Note;)Z"⟩ ⟨"NoteSheet", "passes", "(LNoteSheet$Note;)Z"⟩ ∈ ns_Tb := ns_inS (y := ⟨"NoteSheet", "passes", "(LNoteSheet$Note;)Z"⟩) (n := 8) 13 (by decide +kernel) (by decide +kernel)
theorem nwd_17 : (ns_nm 17).cls ≠ "java/lang/invoke/MethodHandle" ∧ (ns_nm 17).cls ≠ "java/lang/invoke/VarHandle" ∧ (parseMethodDescriptor (ns_nm 17).desc).map (fun d => d.parameters.length) = some 1 := ⟨by decide +kernel, by decide +kernel, by decide +kernel⟩
theorem nw_399 : Cond.methodLink "NoteSheet" 182 ⟨"NoteSheet", "passes", "(LNoteSheet$Note;)Z"⟩ ∈ ns_Tb := ns_in 399 (by decide +kernel) (by decide +kernel)
theorem ns_eC28 : ns_pC ((0, 182), (.inl 17, 1, 0, 0, 0, 1)) := ⟨fun y hy => by cases hy; exact ⟨ns_I_N_passes, rfl, rfl, rfl, rfl, rfl, nw_402, nw_1, nw_399, nwd_17, fun h => absurd h (by decide), fun _ => ⟨nw_401, nws_17⟩, fun h => absurd h (by decide)⟩, fun z hz => by cases hz⟩
theorem nw_406 : Cond.code ⟨"NoteSheet", "verify", "(LNoteSheet$Cell;I)V"⟩ prog_1_method_20_code 3 (none) ∈ ns_Tb := ns_in 406 (by decide +kernel) (by decide +kernel)
theorem nw_405 : Cond.instanceMethod ⟨"NoteSheet", "verify", "(LNoteSheet$Cell;I)V"⟩ ∈ ns_Tb := ns_in 405 (by decide +kernel) (by decide +kernel)
theorem nws_19 : Cond.selects "NoteSheet" ⟨"NoteSheet", "verify", "(LNoteSheet$Cell;I)V"⟩ ⟨"NoteSheet", "verify", "(LNoteSheet$Cell;I)V"⟩ ∈ ns_Tb := ns_inS (y := ⟨"NoteSheet", "verify", "(LNoteSheet$Cell;I)V"⟩) (n := 8) 14 (by decide +kernel) (by decide +kernel)
theorem nwd_19 : (ns_nm 19).cls ≠ "java/lang/invoke/MethodHandle" ∧ (ns_nm 19).cls ≠ "java/lang/invoke/VarHandle" ∧ (parseMethodDescriptor (ns_nm 19).desc).map (fun d => d.parameters.length) = some 2 := ⟨by decide +kernel, by decide +kernel, by decide +kernel⟩
theorem nw_403 : Cond.methodLink "NoteSheet" 186 ⟨"NoteSheet", "verify", "(LNoteSheet$Cell;I)V"⟩ ∈ ns_Tb := ns_in 403 (by decide +kernel) (by decide +kernel)
theorem ns_eC29 : ns_pC ((0, 186), (.inl 19, 2, 0, 0, 0, 1)) := ⟨fun y hy => by cases hy; exact ⟨ns_I_N_verify, rfl, rfl, rfl, rfl, rfl, nw_406, nw_1, nw_403, nwd_19, fun h => absurd h (by decide), fun _ => ⟨nw_405, nws_19⟩, fun h => absurd h (by decide)⟩, fun z hz => by cases hz⟩
theorem nw_414 : Cond.code ⟨"NoteSheet", "readsAreUnchanged", "(LNoteSheet$Cell;)Z"⟩ prog_1_method_19_code 5 (some .boolean) ∈ ns_Tb := ns_in 414 (by decide +kernel) (by decide +kernel)
theorem nw_413 : Cond.instanceMethod ⟨"NoteSheet", "readsAreUnchanged", "(LNoteSheet$Cell;)Z"⟩ ∈ ns_Tb := ns_in 413 (by decide +kernel) (by decide +kernel)
theorem nws_18 : Cond.selects "NoteSheet" ⟨"NoteSheet", "readsAreUnchanged", "(LNoteSheet$Cell;)Z"⟩ ⟨"NoteSheet", "readsAreUnchanged", "(LNoteSheet$Cell;)Z"⟩ ∈ ns_Tb := ns_inS (y := ⟨"NoteSheet", "readsAreUnchanged", "(LNoteSheet$Cell;)Z"⟩) (n := 8) 16 (by decide +kernel) (by decide +kernel)
theorem nwd_18 : (ns_nm 18).cls ≠ "java/lang/invoke/MethodHandle" ∧ (ns_nm 18).cls ≠ "java/lang/invoke/VarHandle" ∧ (parseMethodDescriptor (ns_nm 18).desc).map (fun d => d.parameters.length) = some 1 := ⟨by decide +kernel, by decide +kernel, by decide +kernel⟩
theorem nw_411 : Cond.methodLink "NoteSheet" 190 ⟨"NoteSheet", "readsAreUnchanged", "(LNoteSheet$Cell;)Z"⟩ ∈ ns_Tb := ns_in 411 (by decide +kernel) (by decide +kernel)
theorem ns_eC30 : ns_pC ((0, 190), (.inl 18, 1, 0, 0, 0, 1)) := ⟨fun y hy => by cases hy; exact ⟨ns_I_N_readsAreUnchanged, rfl, rfl, rfl, rfl, rfl, nw_414, nw_1, nw_411, nwd_18, fun h => absurd h (by decide), fun _ => ⟨nw_413, nws_18⟩, fun h => absurd h (by decide)⟩, fun z hz => by cases hz⟩
theorem nw_422 : Cond.code ⟨"NoteSheet", "leastDurability", "(LNoteSheet$Note;)I"⟩ prog_1_method_22_code 5 (some .int) ∈ ns_Tb := ns_in 422 (by decide +kernel) (by decide +kernel)
theorem nw_421 : Cond.instanceMethod ⟨"NoteSheet", "leastDurability", "(LNoteSheet$Note;)I"⟩ ∈ ns_Tb := ns_in 421 (by decide +kernel) (by decide +kernel)
theorem nws_21 : Cond.selects "NoteSheet" ⟨"NoteSheet", "leastDurability", "(LNoteSheet$Note;)I"⟩ ⟨"NoteSheet", "leastDurability", "(LNoteSheet$Note;)I"⟩ ∈ ns_Tb := ns_inS (y := ⟨"NoteSheet", "leastDurability", "(LNoteSheet$Note;)I"⟩) (n := 8) 17 (by decide +kernel) (by decide +kernel)
theorem nwd_21 : (ns_nm 21).cls ≠ "java/lang/invoke/MethodHandle" ∧ (ns_nm 21).cls ≠ "java/lang/invoke/VarHandle" ∧ (parseMethodDescriptor (ns_nm 21).desc).map (fun d => d.parameters.length) = some 1 := ⟨by decide +kernel, by decide +kernel, by decide +kernel⟩
theorem nw_419 : Cond.methodLink "NoteSheet" 194 ⟨"NoteSheet", "leastDurability", "(LNoteSheet$Note;)I"⟩ ∈ ns_Tb := ns_in 419 (by decide +kernel) (by decide +kernel)
theorem ns_eC31 : ns_pC ((0, 194), (.inl 21, 1, 0, 0, 0, 1)) := ⟨fun y hy => by cases hy; exact ⟨ns_I_N_leastDurability, rfl, rfl, rfl, rfl, rfl, nw_422, nw_1, nw_419, nwd_21, fun h => absurd h (by decide), fun _ => ⟨nw_421, nws_21⟩, fun h => absurd h (by decide)⟩, fun z hz => by cases hz⟩
theorem nw_410 : Cond.code ⟨"NoteSheet", "tally", "(LNoteSheet$Cell;I)V"⟩ prog_1_method_27_code 3 (none) ∈ ns_Tb := ns_in 410 (by decide +kernel) (by decide +kernel)
theorem nw_409 : Cond.instanceMethod ⟨"NoteSheet", "tally", "(LNoteSheet$Cell;I)V"⟩ ∈ ns_Tb := ns_in 409 (by decide +kernel) (by decide +kernel)
theorem nws_26 : Cond.selects "NoteSheet" ⟨"NoteSheet", "tally", "(LNoteSheet$Cell;I)V"⟩ ⟨"NoteSheet", "tally", "(LNoteSheet$Cell;I)V"⟩ ∈ ns_Tb := ns_inS (y := ⟨"NoteSheet", "tally", "(LNoteSheet$Cell;I)V"⟩) (n := 8) 15 (by decide +kernel) (by decide +kernel)
theorem nwd_26 : (ns_nm 26).cls ≠ "java/lang/invoke/MethodHandle" ∧ (ns_nm 26).cls ≠ "java/lang/invoke/VarHandle" ∧ (parseMethodDescriptor (ns_nm 26).desc).map (fun d => d.parameters.length) = some 2 := ⟨by decide +kernel, by decide +kernel, by decide +kernel⟩
theorem nw_407 : Cond.methodLink "NoteSheet" 202 ⟨"NoteSheet", "tally", "(LNoteSheet$Cell;I)V"⟩ ∈ ns_Tb := ns_in 407 (by decide +kernel) (by decide +kernel)
theorem ns_eC32 : ns_pC ((0, 202), (.inl 26, 2, 0, 0, 0, 1)) := ⟨fun y hy => by cases hy; exact ⟨ns_I_N_tally, rfl, rfl, rfl, rfl, rfl, nw_410, nw_1, nw_407, nwd_26, fun h => absurd h (by decide), fun _ => ⟨nw_409, nws_26⟩, fun h => absurd h (by decide)⟩, fun z hz => by cases hz⟩
theorem nw_434 : Cond.code ⟨"NoteSheet", "evaluate", "(LNoteSheet$Cell;)J"⟩ prog_1_method_23_code 12 (some .long) ∈ ns_Tb := ns_in 434 (by decide +kernel) (by decide +kernel)
theorem nw_433 : Cond.instanceMethod ⟨"NoteSheet", "evaluate", "(LNoteSheet$Cell;)J"⟩ ∈ ns_Tb := ns_in 433 (by decide +kernel) (by decide +kernel)
theorem nws_22 : Cond.selects "NoteSheet" ⟨"NoteSheet", "evaluate", "(LNoteSheet$Cell;)J"⟩ ⟨"NoteSheet", "evaluate", "(LNoteSheet$Cell;)J"⟩ ∈ ns_Tb := ns_inS (y := ⟨"NoteSheet", "evaluate", "(LNoteSheet$Cell;)J"⟩) (n := 8) 19 (by decide +kernel) (by decide +kernel)
theorem nwd_22 : (ns_nm 22).cls ≠ "java/lang/invoke/MethodHandle" ∧ (ns_nm 22).cls ≠ "java/lang/invoke/VarHandle" ∧ (parseMethodDescriptor (ns_nm 22).desc).map (fun d => d.parameters.length) = some 1 := ⟨by decide +kernel, by decide +kernel, by decide +kernel⟩
theorem nw_431 : Cond.methodLink "NoteSheet" 204 ⟨"NoteSheet", "evaluate", "(LNoteSheet$Cell;)J"⟩ ∈ ns_Tb := ns_in 431 (by decide +kernel) (by decide +kernel)
theorem ns_eC33 : ns_pC ((0, 204), (.inl 22, 1, 0, 0, 0, 1)) := ⟨fun y hy => by cases hy; exact ⟨ns_I_N_evaluate, rfl, rfl, rfl, rfl, rfl, nw_434, nw_1, nw_431, nwd_22, fun h => absurd h (by decide), fun _ => ⟨nw_433, nws_22⟩, fun h => absurd h (by decide)⟩, fun z hz => by cases hz⟩
theorem nw_458 : Cond.code ⟨"NoteSheet$Note", "keepValue", "(JI)V"⟩ prog_4_method_4_code 5 (none) ∈ ns_Tb := ns_in 458 (by decide +kernel) (by decide +kernel)
theorem nw_456 : Cond.instanceMethod ⟨"NoteSheet$Note", "keepValue", "(JI)V"⟩ ∈ ns_Tb := ns_in 456 (by decide +kernel) (by decide +kernel)
theorem nw_457 : Cond.selects "NoteSheet$Note" ⟨"NoteSheet$Note", "keepValue", "(JI)V"⟩ ⟨"NoteSheet$Note", "keepValue", "(JI)V"⟩ ∈ ns_Tb := ns_in 457 (by decide +kernel) (by decide +kernel)
theorem nwd_91 : (ns_nm 91).cls ≠ "java/lang/invoke/MethodHandle" ∧ (ns_nm 91).cls ≠ "java/lang/invoke/VarHandle" ∧ (parseMethodDescriptor (ns_nm 91).desc).map (fun d => d.parameters.length) = some 2 := ⟨by decide +kernel, by decide +kernel, by decide +kernel⟩
theorem nw_455 : Cond.methodLink "NoteSheet" 207 ⟨"NoteSheet$Note", "keepValue", "(JI)V"⟩ ∈ ns_Tb := ns_in 455 (by decide +kernel) (by decide +kernel)
theorem ns_eC34 : ns_pC ((0, 207), (.inl 91, 2, 0, 0, 3, 1)) := ⟨fun y hy => by cases hy; exact ⟨ns_I_O_keepValue, rfl, rfl, rfl, rfl, rfl, nw_458, nw_5, nw_455, nwd_91, fun h => absurd h (by decide), fun _ => ⟨nw_456, nw_457⟩, fun h => absurd h (by decide)⟩, fun z hz => by cases hz⟩
theorem nw_438 : Cond.code ⟨"NoteSheet$Formula", "operandAt", "(I)I"⟩ prog_3_method_9_code 2 (some .int) ∈ ns_Tb := ns_in 438 (by decide +kernel) (by decide +kernel)
theorem nw_436 : Cond.instanceMethod ⟨"NoteSheet$Formula", "operandAt", "(I)I"⟩ ∈ ns_Tb := ns_in 436 (by decide +kernel) (by decide +kernel)
theorem nw_437 : Cond.selects "NoteSheet$Formula" ⟨"NoteSheet$Formula", "operandAt", "(I)I"⟩ ⟨"NoteSheet$Formula", "operandAt", "(I)I"⟩ ∈ ns_Tb := ns_in 437 (by decide +kernel) (by decide +kernel)
theorem nwd_85 : (ns_nm 85).cls ≠ "java/lang/invoke/MethodHandle" ∧ (ns_nm 85).cls ≠ "java/lang/invoke/VarHandle" ∧ (parseMethodDescriptor (ns_nm 85).desc).map (fun d => d.parameters.length) = some 1 := ⟨by decide +kernel, by decide +kernel, by decide +kernel⟩
theorem nw_435 : Cond.methodLink "NoteSheet" 217 ⟨"NoteSheet$Formula", "operandAt", "(I)I"⟩ ∈ ns_Tb := ns_in 435 (by decide +kernel) (by decide +kernel)
theorem ns_eC35 : ns_pC ((0, 217), (.inl 85, 1, 0, 0, 2, 1)) := ⟨fun y hy => by cases hy; exact ⟨ns_I_F_operandAt, rfl, rfl, rfl, rfl, rfl, nw_438, nw_4, nw_435, nwd_85, fun h => absurd h (by decide), fun _ => ⟨nw_436, nw_437⟩, fun h => absurd h (by decide)⟩, fun z hz => by cases hz⟩
theorem nw_339 : Cond.code ⟨"NoteSheet$Formula", "stepAt", "(I)I"⟩ prog_3_method_8_code 2 (some .int) ∈ ns_Tb := ns_in 339 (by decide +kernel) (by decide +kernel)
theorem nw_337 : Cond.instanceMethod ⟨"NoteSheet$Formula", "stepAt", "(I)I"⟩ ∈ ns_Tb := ns_in 337 (by decide +kernel) (by decide +kernel)
theorem nw_338 : Cond.selects "NoteSheet$Formula" ⟨"NoteSheet$Formula", "stepAt", "(I)I"⟩ ⟨"NoteSheet$Formula", "stepAt", "(I)I"⟩ ∈ ns_Tb := ns_in 338 (by decide +kernel) (by decide +kernel)
theorem nwd_84 : (ns_nm 84).cls ≠ "java/lang/invoke/MethodHandle" ∧ (ns_nm 84).cls ≠ "java/lang/invoke/VarHandle" ∧ (parseMethodDescriptor (ns_nm 84).desc).map (fun d => d.parameters.length) = some 1 := ⟨by decide +kernel, by decide +kernel, by decide +kernel⟩
theorem nw_439 : Cond.methodLink "NoteSheet" 221 ⟨"NoteSheet$Formula", "stepAt", "(I)I"⟩ ∈ ns_Tb := ns_in 439 (by decide +kernel) (by decide +kernel)
theorem ns_eC36 : ns_pC ((0, 221), (.inl 84, 1, 0, 0, 2, 1)) := ⟨fun y hy => by cases hy; exact ⟨ns_I_F_stepAt, rfl, rfl, rfl, rfl, rfl, nw_339, nw_4, nw_439, nwd_84, fun h => absurd h (by decide), fun _ => ⟨nw_337, nw_338⟩, fun h => absurd h (by decide)⟩, fun z hz => by cases hz⟩
theorem nw_442 : Cond.code ⟨"java/lang/Math", "floorMod", "(II)I"⟩ prog_9_method_50_code 3 (some .int) ∈ ns_Tb := ns_in 442 (by decide +kernel) (by decide +kernel)
theorem nw_441 : Cond.static ⟨"java/lang/Math", "floorMod", "(II)I"⟩ ∈ ns_Tb := ns_in 441 (by decide +kernel) (by decide +kernel)
theorem nwd_106 : (ns_nm 106).cls ≠ "java/lang/invoke/MethodHandle" ∧ (ns_nm 106).cls ≠ "java/lang/invoke/VarHandle" ∧ (parseMethodDescriptor (ns_nm 106).desc).map (fun d => d.parameters.length) = some 2 := ⟨by decide +kernel, by decide +kernel, by decide +kernel⟩
theorem nw_440 : Cond.methodLink "NoteSheet" 224 ⟨"java/lang/Math", "floorMod", "(II)I"⟩ ∈ ns_Tb := ns_in 440 (by decide +kernel) (by decide +kernel)
theorem ns_eC37 : ns_pC ((0, 224), (.inl 106, 2, 0, 0, 7, 0)) := ⟨fun y hy => by cases hy; exact ⟨ns_I_J_floorMod, rfl, rfl, rfl, rfl, rfl, nw_442, nw_2, nw_440, nwd_106, fun _ => nw_441, fun h => absurd h (by decide), fun h => absurd h (by decide)⟩, fun z hz => by cases hz⟩
theorem nw_446 : Cond.code ⟨"NoteSheet", "giveTo", "(LNoteSheet$Cell;I)J"⟩ prog_1_method_25_code 4 (some .long) ∈ ns_Tb := ns_in 446 (by decide +kernel) (by decide +kernel)
theorem nw_445 : Cond.instanceMethod ⟨"NoteSheet", "giveTo", "(LNoteSheet$Cell;I)J"⟩ ∈ ns_Tb := ns_in 445 (by decide +kernel) (by decide +kernel)
theorem nws_24 : Cond.selects "NoteSheet" ⟨"NoteSheet", "giveTo", "(LNoteSheet$Cell;I)J"⟩ ⟨"NoteSheet", "giveTo", "(LNoteSheet$Cell;I)J"⟩ ∈ ns_Tb := ns_inS (y := ⟨"NoteSheet", "giveTo", "(LNoteSheet$Cell;I)J"⟩) (n := 8) 20 (by decide +kernel) (by decide +kernel)
theorem nwd_24 : (ns_nm 24).cls ≠ "java/lang/invoke/MethodHandle" ∧ (ns_nm 24).cls ≠ "java/lang/invoke/VarHandle" ∧ (parseMethodDescriptor (ns_nm 24).desc).map (fun d => d.parameters.length) = some 2 := ⟨by decide +kernel, by decide +kernel, by decide +kernel⟩
theorem nw_443 : Cond.methodLink "NoteSheet" 227 ⟨"NoteSheet", "giveTo", "(LNoteSheet$Cell;I)J"⟩ ∈ ns_Tb := ns_in 443 (by decide +kernel) (by decide +kernel)
theorem ns_eC38 : ns_pC ((0, 227), (.inl 24, 2, 0, 0, 0, 1)) := ⟨fun y hy => by cases hy; exact ⟨ns_I_N_giveTo, rfl, rfl, rfl, rfl, rfl, nw_446, nw_1, nw_443, nwd_24, fun h => absurd h (by decide), fun _ => ⟨nw_445, nws_24⟩, fun h => absurd h (by decide)⟩, fun z hz => by cases hz⟩
theorem nw_454 : Cond.code ⟨"NoteSheet", "combine", "(III)I"⟩ prog_1_method_24_code 3 (some .int) ∈ ns_Tb := ns_in 454 (by decide +kernel) (by decide +kernel)
theorem nw_453 : Cond.static ⟨"NoteSheet", "combine", "(III)I"⟩ ∈ ns_Tb := ns_in 453 (by decide +kernel) (by decide +kernel)
theorem nwd_23 : (ns_nm 23).cls ≠ "java/lang/invoke/MethodHandle" ∧ (ns_nm 23).cls ≠ "java/lang/invoke/VarHandle" ∧ (parseMethodDescriptor (ns_nm 23).desc).map (fun d => d.parameters.length) = some 3 := ⟨by decide +kernel, by decide +kernel, by decide +kernel⟩
theorem nw_452 : Cond.methodLink "NoteSheet" 233 ⟨"NoteSheet", "combine", "(III)I"⟩ ∈ ns_Tb := ns_in 452 (by decide +kernel) (by decide +kernel)
theorem ns_eC39 : ns_pC ((0, 233), (.inl 23, 3, 0, 0, 0, 0)) := ⟨fun y hy => by cases hy; exact ⟨ns_I_N_combine, rfl, rfl, rfl, rfl, rfl, nw_454, nw_1, nw_452, nwd_23, fun _ => nw_453, fun h => absurd h (by decide), fun h => absurd h (by decide)⟩, fun z hz => by cases hz⟩
theorem nw_450 : Cond.code ⟨"NoteSheet$Note", "addRead", "(I)V"⟩ prog_4_method_5_code 3 (none) ∈ ns_Tb := ns_in 450 (by decide +kernel) (by decide +kernel)
theorem nw_448 : Cond.instanceMethod ⟨"NoteSheet$Note", "addRead", "(I)V"⟩ ∈ ns_Tb := ns_in 448 (by decide +kernel) (by decide +kernel)
theorem nw_449 : Cond.selects "NoteSheet$Note" ⟨"NoteSheet$Note", "addRead", "(I)V"⟩ ⟨"NoteSheet$Note", "addRead", "(I)V"⟩ ∈ ns_Tb := ns_in 449 (by decide +kernel) (by decide +kernel)
theorem nwd_92 : (ns_nm 92).cls ≠ "java/lang/invoke/MethodHandle" ∧ (ns_nm 92).cls ≠ "java/lang/invoke/VarHandle" ∧ (parseMethodDescriptor (ns_nm 92).desc).map (fun d => d.parameters.length) = some 1 := ⟨by decide +kernel, by decide +kernel, by decide +kernel⟩
theorem nw_447 : Cond.methodLink "NoteSheet" 237 ⟨"NoteSheet$Note", "addRead", "(I)V"⟩ ∈ ns_Tb := ns_in 447 (by decide +kernel) (by decide +kernel)
theorem ns_eC40 : ns_pC ((0, 237), (.inl 92, 1, 0, 0, 3, 1)) := ⟨fun y hy => by cases hy; exact ⟨ns_I_O_addRead, rfl, rfl, rfl, rfl, rfl, nw_450, nw_5, nw_447, nwd_92, fun h => absurd h (by decide), fun _ => ⟨nw_448, nw_449⟩, fun h => absurd h (by decide)⟩, fun z hz => by cases hz⟩
theorem nw_475 : Cond.code ⟨"NoteSheet", "dropLongestUnused", "()V"⟩ prog_1_method_30_code 4 (none) ∈ ns_Tb := ns_in 475 (by decide +kernel) (by decide +kernel)
theorem nw_474 : Cond.instanceMethod ⟨"NoteSheet", "dropLongestUnused", "()V"⟩ ∈ ns_Tb := ns_in 474 (by decide +kernel) (by decide +kernel)
theorem nws_29 : Cond.selects "NoteSheet" ⟨"NoteSheet", "dropLongestUnused", "()V"⟩ ⟨"NoteSheet", "dropLongestUnused", "()V"⟩ ∈ ns_Tb := ns_inS (y := ⟨"NoteSheet", "dropLongestUnused", "()V"⟩) (n := 8) 24 (by decide +kernel) (by decide +kernel)
theorem nwd_29 : (ns_nm 29).cls ≠ "java/lang/invoke/MethodHandle" ∧ (ns_nm 29).cls ≠ "java/lang/invoke/VarHandle" ∧ (parseMethodDescriptor (ns_nm 29).desc).map (fun d => d.parameters.length) = some 0 := ⟨by decide +kernel, by decide +kernel, by decide +kernel⟩
theorem nw_472 : Cond.methodLink "NoteSheet" 246 ⟨"NoteSheet", "dropLongestUnused", "()V"⟩ ∈ ns_Tb := ns_in 472 (by decide +kernel) (by decide +kernel)
theorem ns_eC41 : ns_pC ((0, 246), (.inl 29, 0, 0, 0, 0, 1)) := ⟨fun y hy => by cases hy; exact ⟨ns_I_N_dropLongestUnused, rfl, rfl, rfl, rfl, rfl, nw_475, nw_1, nw_472, nwd_29, fun h => absurd h (by decide), fun _ => ⟨nw_474, nws_29⟩, fun h => absurd h (by decide)⟩, fun z hz => by cases hz⟩
theorem nw_34 : Cond.methodLink "NoteSheet$Cell" 3 Lib.objectInit ∈ ns_Tb := ns_in 34 (by decide +kernel) (by decide +kernel)
theorem ns_eC42 : ns_pC ((1, 3), (.inr 0, 0, 0, 0, 0, 2)) := ⟨fun y hy => by (cases hy), fun z hz => by cases hz; exact ⟨⟨nw_34, nw_20, nw_21⟩, by decide, by decide, by decide⟩⟩
theorem nw_37 : Cond.methodLink "NoteSheet$Cell" 11 ⟨"NoteSheet$Formula", "<init>", "()V"⟩ ∈ ns_Tb := ns_in 37 (by decide +kernel) (by decide +kernel)
theorem ns_eC43 : ns_pC ((1, 11), (.inl 77, 0, 2, 60, 2, 2)) := ⟨fun y hy => by cases hy; exact ⟨ns_I_F_init, rfl, rfl, rfl, rfl, rfl, nw_39, nw_4, nw_37, nwd_77, fun h => absurd h (by decide), fun h => absurd h (by decide), fun _ => ⟨rfl, rfl, nw_38⟩⟩, fun z hz => by cases hz⟩
theorem nw_65 : Cond.code ⟨"NoteSheet$Note", "<init>", "()V"⟩ prog_4_method_1_code 1 (none) ∈ ns_Tb := ns_in 65 (by decide +kernel) (by decide +kernel)
theorem nw_64 : Cond.instanceMethod ⟨"NoteSheet$Note", "<init>", "()V"⟩ ∈ ns_Tb := ns_in 64 (by decide +kernel) (by decide +kernel)
theorem nwd_88 : (ns_nm 88).cls ≠ "java/lang/invoke/MethodHandle" ∧ (ns_nm 88).cls ≠ "java/lang/invoke/VarHandle" ∧ (parseMethodDescriptor (ns_nm 88).desc).map (fun d => d.parameters.length) = some 0 := ⟨by decide +kernel, by decide +kernel, by decide +kernel⟩
theorem nw_63 : Cond.methodLink "NoteSheet$Cell" 20 ⟨"NoteSheet$Note", "<init>", "()V"⟩ ∈ ns_Tb := ns_in 63 (by decide +kernel) (by decide +kernel)
theorem ns_eC44 : ns_pC ((1, 20), (.inl 88, 0, 1, 12, 3, 2)) := ⟨fun y hy => by cases hy; exact ⟨ns_I_O_init, rfl, rfl, rfl, rfl, rfl, nw_65, nw_5, nw_63, nwd_88, fun h => absurd h (by decide), fun h => absurd h (by decide), fun _ => ⟨rfl, rfl, nw_64⟩⟩, fun z hz => by cases hz⟩
theorem nw_40 : Cond.methodLink "NoteSheet$Formula" 3 Lib.objectInit ∈ ns_Tb := ns_in 40 (by decide +kernel) (by decide +kernel)
theorem ns_eC45 : ns_pC ((2, 3), (.inr 0, 0, 0, 0, 0, 2)) := ⟨fun y hy => by (cases hy), fun z hz => by cases hz; exact ⟨⟨nw_40, nw_20, nw_21⟩, by decide, by decide, by decide⟩⟩
theorem nw_191 : Cond.code ⟨"NoteSheet$Formula", "isLetter", "(C)Z"⟩ prog_3_method_2_code 1 (some .boolean) ∈ ns_Tb := ns_in 191 (by decide +kernel) (by decide +kernel)
theorem nw_190 : Cond.static ⟨"NoteSheet$Formula", "isLetter", "(C)Z"⟩ ∈ ns_Tb := ns_in 190 (by decide +kernel) (by decide +kernel)
theorem nwd_78 : (ns_nm 78).cls ≠ "java/lang/invoke/MethodHandle" ∧ (ns_nm 78).cls ≠ "java/lang/invoke/VarHandle" ∧ (parseMethodDescriptor (ns_nm 78).desc).map (fun d => d.parameters.length) = some 1 := ⟨by decide +kernel, by decide +kernel, by decide +kernel⟩
theorem nw_189 : Cond.methodLink "NoteSheet$Formula" 19 ⟨"NoteSheet$Formula", "isLetter", "(C)Z"⟩ ∈ ns_Tb := ns_in 189 (by decide +kernel) (by decide +kernel)
theorem ns_eC46 : ns_pC ((2, 19), (.inl 78, 1, 0, 0, 2, 0)) := ⟨fun y hy => by cases hy; exact ⟨ns_I_F_isLetter, rfl, rfl, rfl, rfl, rfl, nw_191, nw_4, nw_189, nwd_78, fun _ => nw_190, fun h => absurd h (by decide), fun h => absurd h (by decide)⟩, fun z hz => by cases hz⟩
theorem nw_194 : Cond.code ⟨"NoteSheet$Formula", "isDigit", "(C)Z"⟩ prog_3_method_3_code 1 (some .boolean) ∈ ns_Tb := ns_in 194 (by decide +kernel) (by decide +kernel)
theorem nw_193 : Cond.static ⟨"NoteSheet$Formula", "isDigit", "(C)Z"⟩ ∈ ns_Tb := ns_in 193 (by decide +kernel) (by decide +kernel)
theorem nwd_79 : (ns_nm 79).cls ≠ "java/lang/invoke/MethodHandle" ∧ (ns_nm 79).cls ≠ "java/lang/invoke/VarHandle" ∧ (parseMethodDescriptor (ns_nm 79).desc).map (fun d => d.parameters.length) = some 1 := ⟨by decide +kernel, by decide +kernel, by decide +kernel⟩
theorem nw_192 : Cond.methodLink "NoteSheet$Formula" 23 ⟨"NoteSheet$Formula", "isDigit", "(C)Z"⟩ ∈ ns_Tb := ns_in 192 (by decide +kernel) (by decide +kernel)
theorem ns_eC47 : ns_pC ((2, 23), (.inl 79, 1, 0, 0, 2, 0)) := ⟨fun y hy => by cases hy; exact ⟨ns_I_F_isDigit, rfl, rfl, rfl, rfl, rfl, nw_194, nw_4, nw_192, nwd_79, fun _ => nw_193, fun h => absurd h (by decide), fun h => absurd h (by decide)⟩, fun z hz => by cases hz⟩
theorem ns_eC48 : ns_pC ((2, 28), (.inr 4, 0, 0, 0, 0, 1)) := ⟨fun y hy => by (cases hy), fun z hz => by cases hz; exact ⟨trivial, by decide, by decide, by decide⟩⟩
theorem nw_336 : Cond.methodLink "NoteSheet$Formula" 41 ⟨"NoteSheet$Formula", "stepAt", "(I)I"⟩ ∈ ns_Tb := ns_in 336 (by decide +kernel) (by decide +kernel)
theorem ns_eC49 : ns_pC ((2, 41), (.inl 84, 1, 0, 0, 2, 1)) := ⟨fun y hy => by cases hy; exact ⟨ns_I_F_stepAt, rfl, rfl, rfl, rfl, rfl, nw_339, nw_4, nw_336, nwd_84, fun h => absurd h (by decide), fun _ => ⟨nw_337, nw_338⟩, fun h => absurd h (by decide)⟩, fun z hz => by cases hz⟩
theorem nw_364 : Cond.methodLink "NoteSheet$Formula" 44 arraycopyName ∈ ns_Tb := ns_in 364 (by decide +kernel) (by decide +kernel)
theorem nw_366 : Cond.native arraycopyName ∈ ns_Tb := ns_in 366 (by decide +kernel) (by decide +kernel)
theorem nw_365 : Cond.static arraycopyName ∈ ns_Tb := ns_in 365 (by decide +kernel) (by decide +kernel)
theorem nw_13 : Cond.initialized "java/lang/System" ∈ ns_Tb := ns_in 13 (by decide +kernel) (by decide +kernel)
theorem ns_eC50 : ns_pC ((2, 44), (.inr 5, 0, 0, 0, 0, 0)) := ⟨fun y hy => by (cases hy), fun z hz => by cases hz; exact ⟨⟨nw_364, nw_366, nw_365, nw_13⟩, by decide, by decide, by decide⟩⟩
theorem nw_66 : Cond.methodLink "NoteSheet$Note" 3 Lib.objectInit ∈ ns_Tb := ns_in 66 (by decide +kernel) (by decide +kernel)
theorem ns_eC51 : ns_pC ((3, 3), (.inr 0, 0, 0, 0, 0, 2)) := ⟨fun y hy => by (cases hy), fun z hz => by cases hz; exact ⟨⟨nw_66, nw_20, nw_21⟩, by decide, by decide, by decide⟩⟩
theorem nw_459 : Cond.methodLink "NoteSheet$Note" 39 ⟨"NoteSheet$Note", "isVerifiedIn", "(I)Z"⟩ ∈ ns_Tb := ns_in 459 (by decide +kernel) (by decide +kernel)
theorem ns_eC52 : ns_pC ((3, 39), (.inl 90, 1, 0, 0, 3, 1)) := ⟨fun y hy => by cases hy; exact ⟨ns_I_O_isVerifiedIn, rfl, rfl, rfl, rfl, rfl, nw_398, nw_5, nw_459, nwd_90, fun h => absurd h (by decide), fun _ => ⟨nw_396, nw_397⟩, fun h => absurd h (by decide)⟩, fun z hz => by cases hz⟩
theorem nw_149 : Cond.methodLink "NoteSheet$Parser" 3 Lib.objectInit ∈ ns_Tb := ns_in 149 (by decide +kernel) (by decide +kernel)
theorem ns_eC53 : ns_pC ((4, 3), (.inr 0, 0, 0, 0, 0, 2)) := ⟨fun y hy => by (cases hy), fun z hz => by cases hz; exact ⟨⟨nw_149, nw_20, nw_21⟩, by decide, by decide, by decide⟩⟩
theorem nw_297 : Cond.code ⟨"NoteSheet$Parser", "takeFormula", "(I)Z"⟩ prog_5_method_6_code 3 (some .boolean) ∈ ns_Tb := ns_in 297 (by decide +kernel) (by decide +kernel)
theorem nw_296 : Cond.instanceMethod ⟨"NoteSheet$Parser", "takeFormula", "(I)Z"⟩ ∈ ns_Tb := ns_in 296 (by decide +kernel) (by decide +kernel)
theorem nws_98 : Cond.selects "NoteSheet$Parser" ⟨"NoteSheet$Parser", "takeFormula", "(I)Z"⟩ ⟨"NoteSheet$Parser", "takeFormula", "(I)Z"⟩ ∈ ns_Tb := ns_inS (y := ⟨"NoteSheet$Parser", "takeFormula", "(I)Z"⟩) (n := 2) 0 (by decide +kernel) (by decide +kernel)
theorem nwd_98 : (ns_nm 98).cls ≠ "java/lang/invoke/MethodHandle" ∧ (ns_nm 98).cls ≠ "java/lang/invoke/VarHandle" ∧ (parseMethodDescriptor (ns_nm 98).desc).map (fun d => d.parameters.length) = some 1 := ⟨by decide +kernel, by decide +kernel, by decide +kernel⟩
theorem nw_294 : Cond.methodLink "NoteSheet$Parser" 24 ⟨"NoteSheet$Parser", "takeFormula", "(I)Z"⟩ ∈ ns_Tb := ns_in 294 (by decide +kernel) (by decide +kernel)
theorem ns_eC54 : ns_pC ((4, 24), (.inl 98, 1, 0, 0, 4, 1)) := ⟨fun y hy => by cases hy; exact ⟨ns_I_P_takeFormula, rfl, rfl, rfl, rfl, rfl, nw_297, nw_6, nw_294, nwd_98, fun h => absurd h (by decide), fun _ => ⟨nw_296, nws_98⟩, fun h => absurd h (by decide)⟩, fun z hz => by cases hz⟩
theorem nw_313 : Cond.code ⟨"NoteSheet$Parser", "next", "()C"⟩ prog_5_method_4_code 1 (some .char) ∈ ns_Tb := ns_in 313 (by decide +kernel) (by decide +kernel)
theorem nw_312 : Cond.instanceMethod ⟨"NoteSheet$Parser", "next", "()C"⟩ ∈ ns_Tb := ns_in 312 (by decide +kernel) (by decide +kernel)
theorem nws_96 : Cond.selects "NoteSheet$Parser" ⟨"NoteSheet$Parser", "next", "()C"⟩ ⟨"NoteSheet$Parser", "next", "()C"⟩ ∈ ns_Tb := ns_inS (y := ⟨"NoteSheet$Parser", "next", "()C"⟩) (n := 2) 4 (by decide +kernel) (by decide +kernel)
theorem nwd_96 : (ns_nm 96).cls ≠ "java/lang/invoke/MethodHandle" ∧ (ns_nm 96).cls ≠ "java/lang/invoke/VarHandle" ∧ (parseMethodDescriptor (ns_nm 96).desc).map (fun d => d.parameters.length) = some 0 := ⟨by decide +kernel, by decide +kernel, by decide +kernel⟩
theorem nw_310 : Cond.methodLink "NoteSheet$Parser" 35 ⟨"NoteSheet$Parser", "next", "()C"⟩ ∈ ns_Tb := ns_in 310 (by decide +kernel) (by decide +kernel)
theorem ns_eC55 : ns_pC ((4, 35), (.inl 96, 0, 0, 0, 4, 1)) := ⟨fun y hy => by cases hy; exact ⟨ns_I_P_next, rfl, rfl, rfl, rfl, rfl, nw_313, nw_6, nw_310, nwd_96, fun h => absurd h (by decide), fun _ => ⟨nw_312, nws_96⟩, fun h => absurd h (by decide)⟩, fun z hz => by cases hz⟩
theorem nw_301 : Cond.code ⟨"NoteSheet$Parser", "takeSum", "(I)Z"⟩ prog_5_method_8_code 4 (some .boolean) ∈ ns_Tb := ns_in 301 (by decide +kernel) (by decide +kernel)
theorem nw_300 : Cond.instanceMethod ⟨"NoteSheet$Parser", "takeSum", "(I)Z"⟩ ∈ ns_Tb := ns_in 300 (by decide +kernel) (by decide +kernel)
theorem nws_100 : Cond.selects "NoteSheet$Parser" ⟨"NoteSheet$Parser", "takeSum", "(I)Z"⟩ ⟨"NoteSheet$Parser", "takeSum", "(I)Z"⟩ ∈ ns_Tb := ns_inS (y := ⟨"NoteSheet$Parser", "takeSum", "(I)Z"⟩) (n := 2) 1 (by decide +kernel) (by decide +kernel)
theorem nwd_100 : (ns_nm 100).cls ≠ "java/lang/invoke/MethodHandle" ∧ (ns_nm 100).cls ≠ "java/lang/invoke/VarHandle" ∧ (parseMethodDescriptor (ns_nm 100).desc).map (fun d => d.parameters.length) = some 1 := ⟨by decide +kernel, by decide +kernel, by decide +kernel⟩
theorem nw_298 : Cond.methodLink "NoteSheet$Parser" 39 ⟨"NoteSheet$Parser", "takeSum", "(I)Z"⟩ ∈ ns_Tb := ns_in 298 (by decide +kernel) (by decide +kernel)
theorem ns_eC56 : ns_pC ((4, 39), (.inl 100, 1, 0, 0, 4, 1)) := ⟨fun y hy => by cases hy; exact ⟨ns_I_P_takeSum, rfl, rfl, rfl, rfl, rfl, nw_301, nw_6, nw_298, nwd_100, fun h => absurd h (by decide), fun _ => ⟨nw_300, nws_100⟩, fun h => absurd h (by decide)⟩, fun z hz => by cases hz⟩
theorem nw_318 : Cond.code ⟨"NoteSheet$Formula", "addStep", "(II)I"⟩ prog_3_method_6_code 3 (some .int) ∈ ns_Tb := ns_in 318 (by decide +kernel) (by decide +kernel)
theorem nw_316 : Cond.instanceMethod ⟨"NoteSheet$Formula", "addStep", "(II)I"⟩ ∈ ns_Tb := ns_in 316 (by decide +kernel) (by decide +kernel)
theorem nw_317 : Cond.selects "NoteSheet$Formula" ⟨"NoteSheet$Formula", "addStep", "(II)I"⟩ ⟨"NoteSheet$Formula", "addStep", "(II)I"⟩ ∈ ns_Tb := ns_in 317 (by decide +kernel) (by decide +kernel)
theorem nwd_82 : (ns_nm 82).cls ≠ "java/lang/invoke/MethodHandle" ∧ (ns_nm 82).cls ≠ "java/lang/invoke/VarHandle" ∧ (parseMethodDescriptor (ns_nm 82).desc).map (fun d => d.parameters.length) = some 2 := ⟨by decide +kernel, by decide +kernel, by decide +kernel⟩
theorem nw_315 : Cond.methodLink "NoteSheet$Parser" 42 ⟨"NoteSheet$Formula", "addStep", "(II)I"⟩ ∈ ns_Tb := ns_in 315 (by decide +kernel) (by decide +kernel)
theorem ns_eC57 : ns_pC ((4, 42), (.inl 82, 2, 0, 0, 2, 1)) := ⟨fun y hy => by cases hy; exact ⟨ns_I_F_addStep, rfl, rfl, rfl, rfl, rfl, nw_318, nw_4, nw_315, nwd_82, fun h => absurd h (by decide), fun _ => ⟨nw_316, nw_317⟩, fun h => absurd h (by decide)⟩, fun z hz => by cases hz⟩
theorem nw_327 : Cond.code ⟨"NoteSheet$Parser", "take", "(C)Z"⟩ prog_5_method_5_code 2 (some .boolean) ∈ ns_Tb := ns_in 327 (by decide +kernel) (by decide +kernel)
theorem nw_326 : Cond.instanceMethod ⟨"NoteSheet$Parser", "take", "(C)Z"⟩ ∈ ns_Tb := ns_in 326 (by decide +kernel) (by decide +kernel)
theorem nws_97 : Cond.selects "NoteSheet$Parser" ⟨"NoteSheet$Parser", "take", "(C)Z"⟩ ⟨"NoteSheet$Parser", "take", "(C)Z"⟩ ∈ ns_Tb := ns_inS (y := ⟨"NoteSheet$Parser", "take", "(C)Z"⟩) (n := 2) 6 (by decide +kernel) (by decide +kernel)
theorem nwd_97 : (ns_nm 97).cls ≠ "java/lang/invoke/MethodHandle" ∧ (ns_nm 97).cls ≠ "java/lang/invoke/VarHandle" ∧ (parseMethodDescriptor (ns_nm 97).desc).map (fun d => d.parameters.length) = some 1 := ⟨by decide +kernel, by decide +kernel, by decide +kernel⟩
theorem nw_324 : Cond.methodLink "NoteSheet$Parser" 46 ⟨"NoteSheet$Parser", "take", "(C)Z"⟩ ∈ ns_Tb := ns_in 324 (by decide +kernel) (by decide +kernel)
theorem ns_eC58 : ns_pC ((4, 46), (.inl 97, 1, 0, 0, 4, 1)) := ⟨fun y hy => by cases hy; exact ⟨ns_I_P_take, rfl, rfl, rfl, rfl, rfl, nw_327, nw_6, nw_324, nwd_97, fun h => absurd h (by decide), fun _ => ⟨nw_326, nws_97⟩, fun h => absurd h (by decide)⟩, fun z hz => by cases hz⟩
theorem nw_331 : Cond.code ⟨"NoteSheet$Parser", "takeBranches", "(I)Z"⟩ prog_5_method_7_code 4 (some .boolean) ∈ ns_Tb := ns_in 331 (by decide +kernel) (by decide +kernel)
theorem nw_330 : Cond.instanceMethod ⟨"NoteSheet$Parser", "takeBranches", "(I)Z"⟩ ∈ ns_Tb := ns_in 330 (by decide +kernel) (by decide +kernel)
theorem nws_99 : Cond.selects "NoteSheet$Parser" ⟨"NoteSheet$Parser", "takeBranches", "(I)Z"⟩ ⟨"NoteSheet$Parser", "takeBranches", "(I)Z"⟩ ∈ ns_Tb := ns_inS (y := ⟨"NoteSheet$Parser", "takeBranches", "(I)Z"⟩) (n := 2) 7 (by decide +kernel) (by decide +kernel)
theorem nwd_99 : (ns_nm 99).cls ≠ "java/lang/invoke/MethodHandle" ∧ (ns_nm 99).cls ≠ "java/lang/invoke/VarHandle" ∧ (parseMethodDescriptor (ns_nm 99).desc).map (fun d => d.parameters.length) = some 1 := ⟨by decide +kernel, by decide +kernel, by decide +kernel⟩
theorem nw_328 : Cond.methodLink "NoteSheet$Parser" 50 ⟨"NoteSheet$Parser", "takeBranches", "(I)Z"⟩ ∈ ns_Tb := ns_in 328 (by decide +kernel) (by decide +kernel)
theorem ns_eC59 : ns_pC ((4, 50), (.inl 99, 1, 0, 0, 4, 1)) := ⟨fun y hy => by cases hy; exact ⟨ns_I_P_takeBranches, rfl, rfl, rfl, rfl, rfl, nw_331, nw_6, nw_328, nwd_99, fun h => absurd h (by decide), fun _ => ⟨nw_330, nws_99⟩, fun h => absurd h (by decide)⟩, fun z hz => by cases hz⟩
theorem nw_335 : Cond.code ⟨"NoteSheet$Formula", "jumpToEnd", "(I)V"⟩ prog_3_method_7_code 2 (none) ∈ ns_Tb := ns_in 335 (by decide +kernel) (by decide +kernel)
theorem nw_333 : Cond.instanceMethod ⟨"NoteSheet$Formula", "jumpToEnd", "(I)V"⟩ ∈ ns_Tb := ns_in 333 (by decide +kernel) (by decide +kernel)
theorem nw_334 : Cond.selects "NoteSheet$Formula" ⟨"NoteSheet$Formula", "jumpToEnd", "(I)V"⟩ ⟨"NoteSheet$Formula", "jumpToEnd", "(I)V"⟩ ∈ ns_Tb := ns_in 334 (by decide +kernel) (by decide +kernel)
theorem nwd_83 : (ns_nm 83).cls ≠ "java/lang/invoke/MethodHandle" ∧ (ns_nm 83).cls ≠ "java/lang/invoke/VarHandle" ∧ (parseMethodDescriptor (ns_nm 83).desc).map (fun d => d.parameters.length) = some 1 := ⟨by decide +kernel, by decide +kernel, by decide +kernel⟩
theorem nw_332 : Cond.methodLink "NoteSheet$Parser" 53 ⟨"NoteSheet$Formula", "jumpToEnd", "(I)V"⟩ ∈ ns_Tb := ns_in 332 (by decide +kernel) (by decide +kernel)
theorem ns_eC60 : ns_pC ((4, 53), (.inl 83, 1, 0, 0, 2, 1)) := ⟨fun y hy => by cases hy; exact ⟨ns_I_F_jumpToEnd, rfl, rfl, rfl, rfl, rfl, nw_335, nw_4, nw_332, nwd_83, fun h => absurd h (by decide), fun _ => ⟨nw_333, nw_334⟩, fun h => absurd h (by decide)⟩, fun z hz => by cases hz⟩
theorem nw_305 : Cond.code ⟨"NoteSheet$Parser", "takeProduct", "(I)Z"⟩ prog_5_method_9_code 3 (some .boolean) ∈ ns_Tb := ns_in 305 (by decide +kernel) (by decide +kernel)
theorem nw_304 : Cond.instanceMethod ⟨"NoteSheet$Parser", "takeProduct", "(I)Z"⟩ ∈ ns_Tb := ns_in 304 (by decide +kernel) (by decide +kernel)
theorem nws_101 : Cond.selects "NoteSheet$Parser" ⟨"NoteSheet$Parser", "takeProduct", "(I)Z"⟩ ⟨"NoteSheet$Parser", "takeProduct", "(I)Z"⟩ ∈ ns_Tb := ns_inS (y := ⟨"NoteSheet$Parser", "takeProduct", "(I)Z"⟩) (n := 2) 2 (by decide +kernel) (by decide +kernel)
theorem nwd_101 : (ns_nm 101).cls ≠ "java/lang/invoke/MethodHandle" ∧ (ns_nm 101).cls ≠ "java/lang/invoke/VarHandle" ∧ (parseMethodDescriptor (ns_nm 101).desc).map (fun d => d.parameters.length) = some 1 := ⟨by decide +kernel, by decide +kernel, by decide +kernel⟩
theorem nw_302 : Cond.methodLink "NoteSheet$Parser" 57 ⟨"NoteSheet$Parser", "takeProduct", "(I)Z"⟩ ∈ ns_Tb := ns_in 302 (by decide +kernel) (by decide +kernel)
theorem ns_eC61 : ns_pC ((4, 57), (.inl 101, 1, 0, 0, 4, 1)) := ⟨fun y hy => by cases hy; exact ⟨ns_I_P_takeProduct, rfl, rfl, rfl, rfl, rfl, nw_305, nw_6, nw_302, nwd_101, fun h => absurd h (by decide), fun _ => ⟨nw_304, nws_101⟩, fun h => absurd h (by decide)⟩, fun z hz => by cases hz⟩
theorem nw_309 : Cond.code ⟨"NoteSheet$Parser", "takeUnit", "(I)Z"⟩ prog_5_method_10_code 3 (some .boolean) ∈ ns_Tb := ns_in 309 (by decide +kernel) (by decide +kernel)
theorem nw_308 : Cond.instanceMethod ⟨"NoteSheet$Parser", "takeUnit", "(I)Z"⟩ ∈ ns_Tb := ns_in 308 (by decide +kernel) (by decide +kernel)
theorem nws_102 : Cond.selects "NoteSheet$Parser" ⟨"NoteSheet$Parser", "takeUnit", "(I)Z"⟩ ⟨"NoteSheet$Parser", "takeUnit", "(I)Z"⟩ ∈ ns_Tb := ns_inS (y := ⟨"NoteSheet$Parser", "takeUnit", "(I)Z"⟩) (n := 2) 3 (by decide +kernel) (by decide +kernel)
theorem nwd_102 : (ns_nm 102).cls ≠ "java/lang/invoke/MethodHandle" ∧ (ns_nm 102).cls ≠ "java/lang/invoke/VarHandle" ∧ (parseMethodDescriptor (ns_nm 102).desc).map (fun d => d.parameters.length) = some 1 := ⟨by decide +kernel, by decide +kernel, by decide +kernel⟩
theorem nw_306 : Cond.methodLink "NoteSheet$Parser" 60 ⟨"NoteSheet$Parser", "takeUnit", "(I)Z"⟩ ∈ ns_Tb := ns_in 306 (by decide +kernel) (by decide +kernel)
theorem ns_eC62 : ns_pC ((4, 60), (.inl 102, 1, 0, 0, 4, 1)) := ⟨fun y hy => by cases hy; exact ⟨ns_I_P_takeUnit, rfl, rfl, rfl, rfl, rfl, nw_309, nw_6, nw_306, nwd_102, fun h => absurd h (by decide), fun _ => ⟨nw_308, nws_102⟩, fun h => absurd h (by decide)⟩, fun z hz => by cases hz⟩
theorem nw_314 : Cond.methodLink "NoteSheet$Parser" 63 ⟨"NoteSheet$Formula", "isLetter", "(C)Z"⟩ ∈ ns_Tb := ns_in 314 (by decide +kernel) (by decide +kernel)
theorem ns_eC63 : ns_pC ((4, 63), (.inl 78, 1, 0, 0, 2, 0)) := ⟨fun y hy => by cases hy; exact ⟨ns_I_F_isLetter, rfl, rfl, rfl, rfl, rfl, nw_191, nw_4, nw_314, nwd_78, fun _ => nw_190, fun h => absurd h (by decide), fun h => absurd h (by decide)⟩, fun z hz => by cases hz⟩
theorem nw_319 : Cond.methodLink "NoteSheet$Parser" 66 ⟨"NoteSheet$Formula", "isDigit", "(C)Z"⟩ ∈ ns_Tb := ns_in 319 (by decide +kernel) (by decide +kernel)
theorem ns_eC64 : ns_pC ((4, 66), (.inl 79, 1, 0, 0, 2, 0)) := ⟨fun y hy => by cases hy; exact ⟨ns_I_F_isDigit, rfl, rfl, rfl, rfl, rfl, nw_194, nw_4, nw_319, nwd_79, fun _ => nw_193, fun h => absurd h (by decide), fun h => absurd h (by decide)⟩, fun z hz => by cases hz⟩
theorem nw_323 : Cond.code ⟨"NoteSheet$Parser", "takeNumber", "()V"⟩ prog_5_method_11_code 3 (none) ∈ ns_Tb := ns_in 323 (by decide +kernel) (by decide +kernel)
theorem nw_322 : Cond.instanceMethod ⟨"NoteSheet$Parser", "takeNumber", "()V"⟩ ∈ ns_Tb := ns_in 322 (by decide +kernel) (by decide +kernel)
theorem nws_103 : Cond.selects "NoteSheet$Parser" ⟨"NoteSheet$Parser", "takeNumber", "()V"⟩ ⟨"NoteSheet$Parser", "takeNumber", "()V"⟩ ∈ ns_Tb := ns_inS (y := ⟨"NoteSheet$Parser", "takeNumber", "()V"⟩) (n := 2) 5 (by decide +kernel) (by decide +kernel)
theorem nwd_103 : (ns_nm 103).cls ≠ "java/lang/invoke/MethodHandle" ∧ (ns_nm 103).cls ≠ "java/lang/invoke/VarHandle" ∧ (parseMethodDescriptor (ns_nm 103).desc).map (fun d => d.parameters.length) = some 0 := ⟨by decide +kernel, by decide +kernel, by decide +kernel⟩
theorem nw_320 : Cond.methodLink "NoteSheet$Parser" 69 ⟨"NoteSheet$Parser", "takeNumber", "()V"⟩ ∈ ns_Tb := ns_in 320 (by decide +kernel) (by decide +kernel)
theorem ns_eC65 : ns_pC ((4, 69), (.inl 103, 0, 0, 0, 4, 1)) := ⟨fun y hy => by cases hy; exact ⟨ns_I_P_takeNumber, rfl, rfl, rfl, rfl, rfl, nw_323, nw_6, nw_320, nwd_103, fun h => absurd h (by decide), fun _ => ⟨nw_322, nws_103⟩, fun h => absurd h (by decide)⟩, fun z hz => by cases hz⟩
theorem nw_504 : Cond.methodLink "NoteSheetModel" 1 Lib.objectInit ∈ ns_Tb := ns_in 504 (by decide +kernel) (by decide +kernel)
theorem ns_eC66 : ns_pC ((5, 1), (.inr 0, 0, 0, 0, 0, 2)) := ⟨fun y hy => by (cases hy), fun z hz => by cases hz; exact ⟨⟨nw_504, nw_20, nw_21⟩, by decide, by decide, by decide⟩⟩
theorem nw_643 : Cond.code ⟨"NoteSheetModel", "isLetter", "(I)Z"⟩ prog_7_method_3_code 1 (some .boolean) ∈ ns_Tb := ns_in 643 (by decide +kernel) (by decide +kernel)
theorem nw_7 : Cond.initialized "NoteSheetModel" ∈ ns_Tb := ns_in 7 (by decide +kernel) (by decide +kernel)
theorem nw_642 : Cond.static ⟨"NoteSheetModel", "isLetter", "(I)Z"⟩ ∈ ns_Tb := ns_in 642 (by decide +kernel) (by decide +kernel)
theorem nwd_32 : (ns_nm 32).cls ≠ "java/lang/invoke/MethodHandle" ∧ (ns_nm 32).cls ≠ "java/lang/invoke/VarHandle" ∧ (parseMethodDescriptor (ns_nm 32).desc).map (fun d => d.parameters.length) = some 1 := ⟨by decide +kernel, by decide +kernel, by decide +kernel⟩
theorem nw_641 : Cond.methodLink "NoteSheetModel" 127 ⟨"NoteSheetModel", "isLetter", "(I)Z"⟩ ∈ ns_Tb := ns_in 641 (by decide +kernel) (by decide +kernel)
theorem ns_eC67 : ns_pC ((5, 127), (.inl 32, 1, 0, 0, 5, 0)) := ⟨fun y hy => by cases hy; exact ⟨ns_I_M_isLetter, rfl, rfl, rfl, rfl, rfl, nw_643, nw_7, nw_641, nwd_32, fun _ => nw_642, fun h => absurd h (by decide), fun h => absurd h (by decide)⟩, fun z hz => by cases hz⟩
theorem nw_646 : Cond.code ⟨"NoteSheetModel", "isDigit", "(I)Z"⟩ prog_7_method_4_code 1 (some .boolean) ∈ ns_Tb := ns_in 646 (by decide +kernel) (by decide +kernel)
theorem nw_645 : Cond.static ⟨"NoteSheetModel", "isDigit", "(I)Z"⟩ ∈ ns_Tb := ns_in 645 (by decide +kernel) (by decide +kernel)
theorem nwd_33 : (ns_nm 33).cls ≠ "java/lang/invoke/MethodHandle" ∧ (ns_nm 33).cls ≠ "java/lang/invoke/VarHandle" ∧ (parseMethodDescriptor (ns_nm 33).desc).map (fun d => d.parameters.length) = some 1 := ⟨by decide +kernel, by decide +kernel, by decide +kernel⟩
theorem nw_644 : Cond.methodLink "NoteSheetModel" 131 ⟨"NoteSheetModel", "isDigit", "(I)Z"⟩ ∈ ns_Tb := ns_in 644 (by decide +kernel) (by decide +kernel)
theorem ns_eC68 : ns_pC ((5, 131), (.inl 33, 1, 0, 0, 5, 0)) := ⟨fun y hy => by cases hy; exact ⟨ns_I_M_isDigit, rfl, rfl, rfl, rfl, rfl, nw_646, nw_7, nw_644, nwd_33, fun _ => nw_645, fun h => absurd h (by decide), fun h => absurd h (by decide)⟩, fun z hz => by cases hz⟩
theorem nw_669 : Cond.code ⟨"NoteSheetModel", "rank", "(I)I"⟩ prog_7_method_8_code 1 (some .int) ∈ ns_Tb := ns_in 669 (by decide +kernel) (by decide +kernel)
theorem nw_668 : Cond.static ⟨"NoteSheetModel", "rank", "(I)I"⟩ ∈ ns_Tb := ns_in 668 (by decide +kernel) (by decide +kernel)
theorem nwd_37 : (ns_nm 37).cls ≠ "java/lang/invoke/MethodHandle" ∧ (ns_nm 37).cls ≠ "java/lang/invoke/VarHandle" ∧ (parseMethodDescriptor (ns_nm 37).desc).map (fun d => d.parameters.length) = some 1 := ⟨by decide +kernel, by decide +kernel, by decide +kernel⟩
theorem nw_667 : Cond.methodLink "NoteSheetModel" 143 ⟨"NoteSheetModel", "rank", "(I)I"⟩ ∈ ns_Tb := ns_in 667 (by decide +kernel) (by decide +kernel)
theorem ns_eC69 : ns_pC ((5, 143), (.inl 37, 1, 0, 0, 5, 0)) := ⟨fun y hy => by cases hy; exact ⟨ns_I_M_rank, rfl, rfl, rfl, rfl, rfl, nw_669, nw_7, nw_667, nwd_37, fun _ => nw_668, fun h => absurd h (by decide), fun h => absurd h (by decide)⟩, fun z hz => by cases hz⟩
theorem nw_662 : Cond.code ⟨"NoteSheetModel", "make", "(II)V"⟩ prog_7_method_6_code 3 (none) ∈ ns_Tb := ns_in 662 (by decide +kernel) (by decide +kernel)
theorem nw_661 : Cond.instanceMethod ⟨"NoteSheetModel", "make", "(II)V"⟩ ∈ ns_Tb := ns_in 661 (by decide +kernel) (by decide +kernel)
theorem nws_35 : Cond.selects "NoteSheetModel" ⟨"NoteSheetModel", "make", "(II)V"⟩ ⟨"NoteSheetModel", "make", "(II)V"⟩ ∈ ns_Tb := ns_inS (y := ⟨"NoteSheetModel", "make", "(II)V"⟩) (n := 43) 27 (by decide +kernel) (by decide +kernel)
theorem nwd_35 : (ns_nm 35).cls ≠ "java/lang/invoke/MethodHandle" ∧ (ns_nm 35).cls ≠ "java/lang/invoke/VarHandle" ∧ (parseMethodDescriptor (ns_nm 35).desc).map (fun d => d.parameters.length) = some 2 := ⟨by decide +kernel, by decide +kernel, by decide +kernel⟩
theorem nw_659 : Cond.methodLink "NoteSheetModel" 147 ⟨"NoteSheetModel", "make", "(II)V"⟩ ∈ ns_Tb := ns_in 659 (by decide +kernel) (by decide +kernel)
theorem ns_eC70 : ns_pC ((5, 147), (.inl 35, 2, 0, 0, 5, 1)) := ⟨fun y hy => by cases hy; exact ⟨ns_I_M_make, rfl, rfl, rfl, rfl, rfl, nw_662, nw_7, nw_659, nwd_35, fun h => absurd h (by decide), fun _ => ⟨nw_661, nws_35⟩, fun h => absurd h (by decide)⟩, fun z hz => by cases hz⟩
theorem nw_666 : Cond.code ⟨"NoteSheetModel", "settle", "(I)V"⟩ prog_7_method_9_code 3 (none) ∈ ns_Tb := ns_in 666 (by decide +kernel) (by decide +kernel)
theorem nw_665 : Cond.instanceMethod ⟨"NoteSheetModel", "settle", "(I)V"⟩ ∈ ns_Tb := ns_in 665 (by decide +kernel) (by decide +kernel)
theorem nws_38 : Cond.selects "NoteSheetModel" ⟨"NoteSheetModel", "settle", "(I)V"⟩ ⟨"NoteSheetModel", "settle", "(I)V"⟩ ∈ ns_Tb := ns_inS (y := ⟨"NoteSheetModel", "settle", "(I)V"⟩) (n := 43) 28 (by decide +kernel) (by decide +kernel)
theorem nwd_38 : (ns_nm 38).cls ≠ "java/lang/invoke/MethodHandle" ∧ (ns_nm 38).cls ≠ "java/lang/invoke/VarHandle" ∧ (parseMethodDescriptor (ns_nm 38).desc).map (fun d => d.parameters.length) = some 1 := ⟨by decide +kernel, by decide +kernel, by decide +kernel⟩
theorem nw_663 : Cond.methodLink "NoteSheetModel" 151 ⟨"NoteSheetModel", "settle", "(I)V"⟩ ∈ ns_Tb := ns_in 663 (by decide +kernel) (by decide +kernel)
theorem ns_eC71 : ns_pC ((5, 151), (.inl 38, 1, 0, 0, 5, 1)) := ⟨fun y hy => by cases hy; exact ⟨ns_I_M_settle, rfl, rfl, rfl, rfl, rfl, nw_666, nw_7, nw_663, nwd_38, fun h => absurd h (by decide), fun _ => ⟨nw_665, nws_38⟩, fun h => absurd h (by decide)⟩, fun z hz => by cases hz⟩
theorem nw_673 : Cond.code ⟨"NoteSheetModel", "deepness", "()I"⟩ prog_7_method_10_code 3 (some .int) ∈ ns_Tb := ns_in 673 (by decide +kernel) (by decide +kernel)
theorem nw_672 : Cond.instanceMethod ⟨"NoteSheetModel", "deepness", "()I"⟩ ∈ ns_Tb := ns_in 672 (by decide +kernel) (by decide +kernel)
theorem nws_39 : Cond.selects "NoteSheetModel" ⟨"NoteSheetModel", "deepness", "()I"⟩ ⟨"NoteSheetModel", "deepness", "()I"⟩ ∈ ns_Tb := ns_inS (y := ⟨"NoteSheetModel", "deepness", "()I"⟩) (n := 43) 29 (by decide +kernel) (by decide +kernel)
theorem nwd_39 : (ns_nm 39).cls ≠ "java/lang/invoke/MethodHandle" ∧ (ns_nm 39).cls ≠ "java/lang/invoke/VarHandle" ∧ (parseMethodDescriptor (ns_nm 39).desc).map (fun d => d.parameters.length) = some 0 := ⟨by decide +kernel, by decide +kernel, by decide +kernel⟩
theorem nw_670 : Cond.methodLink "NoteSheetModel" 155 ⟨"NoteSheetModel", "deepness", "()I"⟩ ∈ ns_Tb := ns_in 670 (by decide +kernel) (by decide +kernel)
theorem ns_eC72 : ns_pC ((5, 155), (.inl 39, 0, 0, 0, 5, 1)) := ⟨fun y hy => by cases hy; exact ⟨ns_I_M_deepness, rfl, rfl, rfl, rfl, rfl, nw_673, nw_7, nw_670, nwd_39, fun h => absurd h (by decide), fun _ => ⟨nw_672, nws_39⟩, fun h => absurd h (by decide)⟩, fun z hz => by cases hz⟩
theorem nw_677 : Cond.code ⟨"NoteSheetModel", "put", "(II)V"⟩ prog_7_method_7_code 3 (none) ∈ ns_Tb := ns_in 677 (by decide +kernel) (by decide +kernel)
theorem nw_676 : Cond.instanceMethod ⟨"NoteSheetModel", "put", "(II)V"⟩ ∈ ns_Tb := ns_in 676 (by decide +kernel) (by decide +kernel)
theorem nws_36 : Cond.selects "NoteSheetModel" ⟨"NoteSheetModel", "put", "(II)V"⟩ ⟨"NoteSheetModel", "put", "(II)V"⟩ ∈ ns_Tb := ns_inS (y := ⟨"NoteSheetModel", "put", "(II)V"⟩) (n := 43) 30 (by decide +kernel) (by decide +kernel)
theorem nwd_36 : (ns_nm 36).cls ≠ "java/lang/invoke/MethodHandle" ∧ (ns_nm 36).cls ≠ "java/lang/invoke/VarHandle" ∧ (parseMethodDescriptor (ns_nm 36).desc).map (fun d => d.parameters.length) = some 2 := ⟨by decide +kernel, by decide +kernel, by decide +kernel⟩
theorem nw_674 : Cond.methodLink "NoteSheetModel" 159 ⟨"NoteSheetModel", "put", "(II)V"⟩ ∈ ns_Tb := ns_in 674 (by decide +kernel) (by decide +kernel)
theorem ns_eC73 : ns_pC ((5, 159), (.inl 36, 2, 0, 0, 5, 1)) := ⟨fun y hy => by cases hy; exact ⟨ns_I_M_put, rfl, rfl, rfl, rfl, rfl, nw_677, nw_7, nw_674, nwd_36, fun h => absurd h (by decide), fun _ => ⟨nw_676, nws_36⟩, fun h => absurd h (by decide)⟩, fun z hz => by cases hz⟩
theorem nw_693 : Cond.code ⟨"NoteSheetModel", "inner", "()I"⟩ prog_7_method_13_code 2 (some .int) ∈ ns_Tb := ns_in 693 (by decide +kernel) (by decide +kernel)
theorem nw_692 : Cond.instanceMethod ⟨"NoteSheetModel", "inner", "()I"⟩ ∈ ns_Tb := ns_in 692 (by decide +kernel) (by decide +kernel)
theorem nws_42 : Cond.selects "NoteSheetModel" ⟨"NoteSheetModel", "inner", "()I"⟩ ⟨"NoteSheetModel", "inner", "()I"⟩ ∈ ns_Tb := ns_inS (y := ⟨"NoteSheetModel", "inner", "()I"⟩) (n := 43) 34 (by decide +kernel) (by decide +kernel)
theorem nwd_42 : (ns_nm 42).cls ≠ "java/lang/invoke/MethodHandle" ∧ (ns_nm 42).cls ≠ "java/lang/invoke/VarHandle" ∧ (parseMethodDescriptor (ns_nm 42).desc).map (fun d => d.parameters.length) = some 0 := ⟨by decide +kernel, by decide +kernel, by decide +kernel⟩
theorem nw_690 : Cond.methodLink "NoteSheetModel" 162 ⟨"NoteSheetModel", "inner", "()I"⟩ ∈ ns_Tb := ns_in 690 (by decide +kernel) (by decide +kernel)
theorem ns_eC74 : ns_pC ((5, 162), (.inl 42, 0, 0, 0, 5, 1)) := ⟨fun y hy => by cases hy; exact ⟨ns_I_M_inner, rfl, rfl, rfl, rfl, rfl, nw_693, nw_7, nw_690, nwd_42, fun h => absurd h (by decide), fun _ => ⟨nw_692, nws_42⟩, fun h => absurd h (by decide)⟩, fun z hz => by cases hz⟩
theorem nw_685 : Cond.code ⟨"NoteSheetModel", "compared", "()Z"⟩ prog_7_method_12_code 3 (some .boolean) ∈ ns_Tb := ns_in 685 (by decide +kernel) (by decide +kernel)
theorem nw_684 : Cond.instanceMethod ⟨"NoteSheetModel", "compared", "()Z"⟩ ∈ ns_Tb := ns_in 684 (by decide +kernel) (by decide +kernel)
theorem nws_41 : Cond.selects "NoteSheetModel" ⟨"NoteSheetModel", "compared", "()Z"⟩ ⟨"NoteSheetModel", "compared", "()Z"⟩ ∈ ns_Tb := ns_inS (y := ⟨"NoteSheetModel", "compared", "()Z"⟩) (n := 43) 32 (by decide +kernel) (by decide +kernel)
theorem nwd_41 : (ns_nm 41).cls ≠ "java/lang/invoke/MethodHandle" ∧ (ns_nm 41).cls ≠ "java/lang/invoke/VarHandle" ∧ (parseMethodDescriptor (ns_nm 41).desc).map (fun d => d.parameters.length) = some 0 := ⟨by decide +kernel, by decide +kernel, by decide +kernel⟩
theorem nw_682 : Cond.methodLink "NoteSheetModel" 165 ⟨"NoteSheetModel", "compared", "()Z"⟩ ∈ ns_Tb := ns_in 682 (by decide +kernel) (by decide +kernel)
theorem ns_eC75 : ns_pC ((5, 165), (.inl 41, 0, 0, 0, 5, 1)) := ⟨fun y hy => by cases hy; exact ⟨ns_I_M_compared, rfl, rfl, rfl, rfl, rfl, nw_685, nw_7, nw_682, nwd_41, fun h => absurd h (by decide), fun _ => ⟨nw_684, nws_41⟩, fun h => absurd h (by decide)⟩, fun z hz => by cases hz⟩
theorem nw_689 : Cond.code ⟨"NoteSheetModel", "awaits", "()I"⟩ prog_7_method_15_code 2 (some .int) ∈ ns_Tb := ns_in 689 (by decide +kernel) (by decide +kernel)
theorem nw_688 : Cond.instanceMethod ⟨"NoteSheetModel", "awaits", "()I"⟩ ∈ ns_Tb := ns_in 688 (by decide +kernel) (by decide +kernel)
theorem nws_44 : Cond.selects "NoteSheetModel" ⟨"NoteSheetModel", "awaits", "()I"⟩ ⟨"NoteSheetModel", "awaits", "()I"⟩ ∈ ns_Tb := ns_inS (y := ⟨"NoteSheetModel", "awaits", "()I"⟩) (n := 43) 33 (by decide +kernel) (by decide +kernel)
theorem nwd_44 : (ns_nm 44).cls ≠ "java/lang/invoke/MethodHandle" ∧ (ns_nm 44).cls ≠ "java/lang/invoke/VarHandle" ∧ (parseMethodDescriptor (ns_nm 44).desc).map (fun d => d.parameters.length) = some 0 := ⟨by decide +kernel, by decide +kernel, by decide +kernel⟩
theorem nw_686 : Cond.methodLink "NoteSheetModel" 169 ⟨"NoteSheetModel", "awaits", "()I"⟩ ∈ ns_Tb := ns_in 686 (by decide +kernel) (by decide +kernel)
theorem ns_eC76 : ns_pC ((5, 169), (.inl 44, 0, 0, 0, 5, 1)) := ⟨fun y hy => by cases hy; exact ⟨ns_I_M_awaits, rfl, rfl, rfl, rfl, rfl, nw_689, nw_7, nw_686, nwd_44, fun h => absurd h (by decide), fun _ => ⟨nw_688, nws_44⟩, fun h => absurd h (by decide)⟩, fun z hz => by cases hz⟩
theorem nw_697 : Cond.code ⟨"NoteSheetModel", "close", "()V"⟩ prog_7_method_14_code 1 (none) ∈ ns_Tb := ns_in 697 (by decide +kernel) (by decide +kernel)
theorem nw_696 : Cond.instanceMethod ⟨"NoteSheetModel", "close", "()V"⟩ ∈ ns_Tb := ns_in 696 (by decide +kernel) (by decide +kernel)
theorem nws_43 : Cond.selects "NoteSheetModel" ⟨"NoteSheetModel", "close", "()V"⟩ ⟨"NoteSheetModel", "close", "()V"⟩ ∈ ns_Tb := ns_inS (y := ⟨"NoteSheetModel", "close", "()V"⟩) (n := 43) 35 (by decide +kernel) (by decide +kernel)
theorem nwd_43 : (ns_nm 43).cls ≠ "java/lang/invoke/MethodHandle" ∧ (ns_nm 43).cls ≠ "java/lang/invoke/VarHandle" ∧ (parseMethodDescriptor (ns_nm 43).desc).map (fun d => d.parameters.length) = some 0 := ⟨by decide +kernel, by decide +kernel, by decide +kernel⟩
theorem nw_694 : Cond.methodLink "NoteSheetModel" 172 ⟨"NoteSheetModel", "close", "()V"⟩ ∈ ns_Tb := ns_in 694 (by decide +kernel) (by decide +kernel)
theorem ns_eC77 : ns_pC ((5, 172), (.inl 43, 0, 0, 0, 5, 1)) := ⟨fun y hy => by cases hy; exact ⟨ns_I_M_close, rfl, rfl, rfl, rfl, rfl, nw_697, nw_7, nw_694, nwd_43, fun h => absurd h (by decide), fun _ => ⟨nw_696, nws_43⟩, fun h => absurd h (by decide)⟩, fun z hz => by cases hz⟩
theorem nw_658 : Cond.code ⟨"NoteSheetModel", "begin", "(II)Z"⟩ prog_7_method_11_code 5 (some .boolean) ∈ ns_Tb := ns_in 658 (by decide +kernel) (by decide +kernel)
theorem nw_657 : Cond.instanceMethod ⟨"NoteSheetModel", "begin", "(II)Z"⟩ ∈ ns_Tb := ns_in 657 (by decide +kernel) (by decide +kernel)
theorem nws_40 : Cond.selects "NoteSheetModel" ⟨"NoteSheetModel", "begin", "(II)Z"⟩ ⟨"NoteSheetModel", "begin", "(II)Z"⟩ ∈ ns_Tb := ns_inS (y := ⟨"NoteSheetModel", "begin", "(II)Z"⟩) (n := 43) 26 (by decide +kernel) (by decide +kernel)
theorem nwd_40 : (ns_nm 40).cls ≠ "java/lang/invoke/MethodHandle" ∧ (ns_nm 40).cls ≠ "java/lang/invoke/VarHandle" ∧ (parseMethodDescriptor (ns_nm 40).desc).map (fun d => d.parameters.length) = some 2 := ⟨by decide +kernel, by decide +kernel, by decide +kernel⟩
theorem nw_655 : Cond.methodLink "NoteSheetModel" 175 ⟨"NoteSheetModel", "begin", "(II)Z"⟩ ∈ ns_Tb := ns_in 655 (by decide +kernel) (by decide +kernel)
theorem ns_eC78 : ns_pC ((5, 175), (.inl 40, 2, 0, 0, 5, 1)) := ⟨fun y hy => by cases hy; exact ⟨ns_I_M_begin, rfl, rfl, rfl, rfl, rfl, nw_658, nw_7, nw_655, nwd_40, fun h => absurd h (by decide), fun _ => ⟨nw_657, nws_40⟩, fun h => absurd h (by decide)⟩, fun z hz => by cases hz⟩
theorem nw_681 : Cond.code ⟨"NoteSheetModel", "goesOn", "(I)Z"⟩ prog_7_method_16_code 2 (some .boolean) ∈ ns_Tb := ns_in 681 (by decide +kernel) (by decide +kernel)
theorem nw_680 : Cond.instanceMethod ⟨"NoteSheetModel", "goesOn", "(I)Z"⟩ ∈ ns_Tb := ns_in 680 (by decide +kernel) (by decide +kernel)
theorem nws_45 : Cond.selects "NoteSheetModel" ⟨"NoteSheetModel", "goesOn", "(I)Z"⟩ ⟨"NoteSheetModel", "goesOn", "(I)Z"⟩ ∈ ns_Tb := ns_inS (y := ⟨"NoteSheetModel", "goesOn", "(I)Z"⟩) (n := 43) 31 (by decide +kernel) (by decide +kernel)
theorem nwd_45 : (ns_nm 45).cls ≠ "java/lang/invoke/MethodHandle" ∧ (ns_nm 45).cls ≠ "java/lang/invoke/VarHandle" ∧ (parseMethodDescriptor (ns_nm 45).desc).map (fun d => d.parameters.length) = some 1 := ⟨by decide +kernel, by decide +kernel, by decide +kernel⟩
theorem nw_678 : Cond.methodLink "NoteSheetModel" 179 ⟨"NoteSheetModel", "goesOn", "(I)Z"⟩ ∈ ns_Tb := ns_in 678 (by decide +kernel) (by decide +kernel)
theorem ns_eC79 : ns_pC ((5, 179), (.inl 45, 1, 0, 0, 5, 1)) := ⟨fun y hy => by cases hy; exact ⟨ns_I_M_goesOn, rfl, rfl, rfl, rfl, rfl, nw_681, nw_7, nw_678, nwd_45, fun h => absurd h (by decide), fun _ => ⟨nw_680, nws_45⟩, fun h => absurd h (by decide)⟩, fun z hz => by cases hz⟩
theorem nw_654 : Cond.code ⟨"NoteSheetModel", "fault", "()I"⟩ prog_7_method_17_code 6 (some .int) ∈ ns_Tb := ns_in 654 (by decide +kernel) (by decide +kernel)
theorem nw_653 : Cond.instanceMethod ⟨"NoteSheetModel", "fault", "()I"⟩ ∈ ns_Tb := ns_in 653 (by decide +kernel) (by decide +kernel)
theorem nws_46 : Cond.selects "NoteSheetModel" ⟨"NoteSheetModel", "fault", "()I"⟩ ⟨"NoteSheetModel", "fault", "()I"⟩ ∈ ns_Tb := ns_inS (y := ⟨"NoteSheetModel", "fault", "()I"⟩) (n := 43) 25 (by decide +kernel) (by decide +kernel)
theorem nwd_46 : (ns_nm 46).cls ≠ "java/lang/invoke/MethodHandle" ∧ (ns_nm 46).cls ≠ "java/lang/invoke/VarHandle" ∧ (parseMethodDescriptor (ns_nm 46).desc).map (fun d => d.parameters.length) = some 0 := ⟨by decide +kernel, by decide +kernel, by decide +kernel⟩
theorem nw_651 : Cond.methodLink "NoteSheetModel" 182 ⟨"NoteSheetModel", "fault", "()I"⟩ ∈ ns_Tb := ns_in 651 (by decide +kernel) (by decide +kernel)
theorem ns_eC80 : ns_pC ((5, 182), (.inl 46, 0, 0, 0, 5, 1)) := ⟨fun y hy => by cases hy; exact ⟨ns_I_M_fault, rfl, rfl, rfl, rfl, rfl, nw_654, nw_7, nw_651, nwd_46, fun h => absurd h (by decide), fun _ => ⟨nw_653, nws_46⟩, fun h => absurd h (by decide)⟩, fun z hz => by cases hz⟩
theorem nw_700 : Cond.code ⟨"NoteSheetModel", "isCell", "(I)Z"⟩ prog_7_method_2_code 1 (some .boolean) ∈ ns_Tb := ns_in 700 (by decide +kernel) (by decide +kernel)
theorem nw_699 : Cond.static ⟨"NoteSheetModel", "isCell", "(I)Z"⟩ ∈ ns_Tb := ns_in 699 (by decide +kernel) (by decide +kernel)
theorem nwd_31 : (ns_nm 31).cls ≠ "java/lang/invoke/MethodHandle" ∧ (ns_nm 31).cls ≠ "java/lang/invoke/VarHandle" ∧ (parseMethodDescriptor (ns_nm 31).desc).map (fun d => d.parameters.length) = some 1 := ⟨by decide +kernel, by decide +kernel, by decide +kernel⟩
theorem nw_698 : Cond.methodLink "NoteSheetModel" 185 ⟨"NoteSheetModel", "isCell", "(I)Z"⟩ ∈ ns_Tb := ns_in 698 (by decide +kernel) (by decide +kernel)
theorem ns_eC81 : ns_pC ((5, 185), (.inl 31, 1, 0, 0, 5, 0)) := ⟨fun y hy => by cases hy; exact ⟨ns_I_M_isCell, rfl, rfl, rfl, rfl, rfl, nw_700, nw_7, nw_698, nwd_31, fun _ => nw_699, fun h => absurd h (by decide), fun h => absurd h (by decide)⟩, fun z hz => by cases hz⟩
theorem nw_704 : Cond.code ⟨"NoteSheetModel", "change", "(I)V"⟩ prog_7_method_19_code 3 (none) ∈ ns_Tb := ns_in 704 (by decide +kernel) (by decide +kernel)
theorem nw_703 : Cond.instanceMethod ⟨"NoteSheetModel", "change", "(I)V"⟩ ∈ ns_Tb := ns_in 703 (by decide +kernel) (by decide +kernel)
theorem nws_48 : Cond.selects "NoteSheetModel" ⟨"NoteSheetModel", "change", "(I)V"⟩ ⟨"NoteSheetModel", "change", "(I)V"⟩ ∈ ns_Tb := ns_inS (y := ⟨"NoteSheetModel", "change", "(I)V"⟩) (n := 43) 36 (by decide +kernel) (by decide +kernel)
theorem nwd_48 : (ns_nm 48).cls ≠ "java/lang/invoke/MethodHandle" ∧ (ns_nm 48).cls ≠ "java/lang/invoke/VarHandle" ∧ (parseMethodDescriptor (ns_nm 48).desc).map (fun d => d.parameters.length) = some 1 := ⟨by decide +kernel, by decide +kernel, by decide +kernel⟩
theorem nw_701 : Cond.methodLink "NoteSheetModel" 188 ⟨"NoteSheetModel", "change", "(I)V"⟩ ∈ ns_Tb := ns_in 701 (by decide +kernel) (by decide +kernel)
theorem ns_eC82 : ns_pC ((5, 188), (.inl 48, 1, 0, 0, 5, 1)) := ⟨fun y hy => by cases hy; exact ⟨ns_I_M_change, rfl, rfl, rfl, rfl, rfl, nw_704, nw_7, nw_701, nwd_48, fun h => absurd h (by decide), fun _ => ⟨nw_703, nws_48⟩, fun h => absurd h (by decide)⟩, fun z hz => by cases hz⟩
theorem nw_729 : Cond.code ⟨"NoteSheetModel", "enter", "(II)V"⟩ prog_7_method_29_code 3 (none) ∈ ns_Tb := ns_in 729 (by decide +kernel) (by decide +kernel)
theorem nw_728 : Cond.instanceMethod ⟨"NoteSheetModel", "enter", "(II)V"⟩ ∈ ns_Tb := ns_in 728 (by decide +kernel) (by decide +kernel)
theorem nws_58 : Cond.selects "NoteSheetModel" ⟨"NoteSheetModel", "enter", "(II)V"⟩ ⟨"NoteSheetModel", "enter", "(II)V"⟩ ∈ ns_Tb := ns_inS (y := ⟨"NoteSheetModel", "enter", "(II)V"⟩) (n := 43) 40 (by decide +kernel) (by decide +kernel)
theorem nwd_58 : (ns_nm 58).cls ≠ "java/lang/invoke/MethodHandle" ∧ (ns_nm 58).cls ≠ "java/lang/invoke/VarHandle" ∧ (parseMethodDescriptor (ns_nm 58).desc).map (fun d => d.parameters.length) = some 2 := ⟨by decide +kernel, by decide +kernel, by decide +kernel⟩
theorem nw_726 : Cond.methodLink "NoteSheetModel" 197 ⟨"NoteSheetModel", "enter", "(II)V"⟩ ∈ ns_Tb := ns_in 726 (by decide +kernel) (by decide +kernel)
theorem ns_eC83 : ns_pC ((5, 197), (.inl 58, 2, 0, 0, 5, 1)) := ⟨fun y hy => by cases hy; exact ⟨ns_I_M_enter, rfl, rfl, rfl, rfl, rfl, nw_729, nw_7, nw_726, nwd_58, fun h => absurd h (by decide), fun _ => ⟨nw_728, nws_58⟩, fun h => absurd h (by decide)⟩, fun z hz => by cases hz⟩
theorem nw_741 : Cond.code ⟨"NoteSheetModel", "lookThrough", "(II)V"⟩ prog_7_method_30_code 5 (none) ∈ ns_Tb := ns_in 741 (by decide +kernel) (by decide +kernel)
theorem nw_740 : Cond.instanceMethod ⟨"NoteSheetModel", "lookThrough", "(II)V"⟩ ∈ ns_Tb := ns_in 740 (by decide +kernel) (by decide +kernel)
theorem nws_59 : Cond.selects "NoteSheetModel" ⟨"NoteSheetModel", "lookThrough", "(II)V"⟩ ⟨"NoteSheetModel", "lookThrough", "(II)V"⟩ ∈ ns_Tb := ns_inS (y := ⟨"NoteSheetModel", "lookThrough", "(II)V"⟩) (n := 43) 43 (by decide +kernel) (by decide +kernel)
theorem nwd_59 : (ns_nm 59).cls ≠ "java/lang/invoke/MethodHandle" ∧ (ns_nm 59).cls ≠ "java/lang/invoke/VarHandle" ∧ (parseMethodDescriptor (ns_nm 59).desc).map (fun d => d.parameters.length) = some 2 := ⟨by decide +kernel, by decide +kernel, by decide +kernel⟩
theorem nw_738 : Cond.methodLink "NoteSheetModel" 200 ⟨"NoteSheetModel", "lookThrough", "(II)V"⟩ ∈ ns_Tb := ns_in 738 (by decide +kernel) (by decide +kernel)
theorem ns_eC84 : ns_pC ((5, 200), (.inl 59, 2, 0, 0, 5, 1)) := ⟨fun y hy => by cases hy; exact ⟨ns_I_M_lookThrough, rfl, rfl, rfl, rfl, rfl, nw_741, nw_7, nw_738, nwd_59, fun h => absurd h (by decide), fun _ => ⟨nw_740, nws_59⟩, fun h => absurd h (by decide)⟩, fun z hz => by cases hz⟩
theorem nw_753 : Cond.code ⟨"NoteSheetModel", "worked", "(IIJ)V"⟩ prog_7_method_31_code 8 (none) ∈ ns_Tb := ns_in 753 (by decide +kernel) (by decide +kernel)
theorem nw_752 : Cond.instanceMethod ⟨"NoteSheetModel", "worked", "(IIJ)V"⟩ ∈ ns_Tb := ns_in 752 (by decide +kernel) (by decide +kernel)
theorem nws_60 : Cond.selects "NoteSheetModel" ⟨"NoteSheetModel", "worked", "(IIJ)V"⟩ ⟨"NoteSheetModel", "worked", "(IIJ)V"⟩ ∈ ns_Tb := ns_inS (y := ⟨"NoteSheetModel", "worked", "(IIJ)V"⟩) (n := 43) 46 (by decide +kernel) (by decide +kernel)
theorem nwd_60 : (ns_nm 60).cls ≠ "java/lang/invoke/MethodHandle" ∧ (ns_nm 60).cls ≠ "java/lang/invoke/VarHandle" ∧ (parseMethodDescriptor (ns_nm 60).desc).map (fun d => d.parameters.length) = some 3 := ⟨by decide +kernel, by decide +kernel, by decide +kernel⟩
theorem nw_750 : Cond.methodLink "NoteSheetModel" 203 ⟨"NoteSheetModel", "worked", "(IIJ)V"⟩ ∈ ns_Tb := ns_in 750 (by decide +kernel) (by decide +kernel)
theorem ns_eC85 : ns_pC ((5, 203), (.inl 60, 3, 0, 0, 5, 1)) := ⟨fun y hy => by cases hy; exact ⟨ns_I_M_worked, rfl, rfl, rfl, rfl, rfl, nw_753, nw_7, nw_750, nwd_60, fun h => absurd h (by decide), fun _ => ⟨nw_752, nws_60⟩, fun h => absurd h (by decide)⟩, fun z hz => by cases hz⟩
theorem nw_761 : Cond.code ⟨"NoteSheetModel", "advance", "(II)V"⟩ prog_7_method_34_code 6 (none) ∈ ns_Tb := ns_in 761 (by decide +kernel) (by decide +kernel)
theorem nw_760 : Cond.instanceMethod ⟨"NoteSheetModel", "advance", "(II)V"⟩ ∈ ns_Tb := ns_in 760 (by decide +kernel) (by decide +kernel)
theorem nws_63 : Cond.selects "NoteSheetModel" ⟨"NoteSheetModel", "advance", "(II)V"⟩ ⟨"NoteSheetModel", "advance", "(II)V"⟩ ∈ ns_Tb := ns_inS (y := ⟨"NoteSheetModel", "advance", "(II)V"⟩) (n := 43) 48 (by decide +kernel) (by decide +kernel)
theorem nwd_63 : (ns_nm 63).cls ≠ "java/lang/invoke/MethodHandle" ∧ (ns_nm 63).cls ≠ "java/lang/invoke/VarHandle" ∧ (parseMethodDescriptor (ns_nm 63).desc).map (fun d => d.parameters.length) = some 2 := ⟨by decide +kernel, by decide +kernel, by decide +kernel⟩
theorem nw_758 : Cond.methodLink "NoteSheetModel" 207 ⟨"NoteSheetModel", "advance", "(II)V"⟩ ∈ ns_Tb := ns_in 758 (by decide +kernel) (by decide +kernel)
theorem ns_eC86 : ns_pC ((5, 207), (.inl 63, 2, 0, 0, 5, 1)) := ⟨fun y hy => by cases hy; exact ⟨ns_I_M_advance, rfl, rfl, rfl, rfl, rfl, nw_761, nw_7, nw_758, nwd_63, fun h => absurd h (by decide), fun _ => ⟨nw_760, nws_63⟩, fun h => absurd h (by decide)⟩, fun z hz => by cases hz⟩
theorem nw_733 : Cond.code ⟨"NoteSheetModel", "counts", "(II)V"⟩ prog_7_method_25_code 3 (none) ∈ ns_Tb := ns_in 733 (by decide +kernel) (by decide +kernel)
theorem nw_732 : Cond.instanceMethod ⟨"NoteSheetModel", "counts", "(II)V"⟩ ∈ ns_Tb := ns_in 732 (by decide +kernel) (by decide +kernel)
theorem nws_54 : Cond.selects "NoteSheetModel" ⟨"NoteSheetModel", "counts", "(II)V"⟩ ⟨"NoteSheetModel", "counts", "(II)V"⟩ ∈ ns_Tb := ns_inS (y := ⟨"NoteSheetModel", "counts", "(II)V"⟩) (n := 43) 41 (by decide +kernel) (by decide +kernel)
theorem nwd_54 : (ns_nm 54).cls ≠ "java/lang/invoke/MethodHandle" ∧ (ns_nm 54).cls ≠ "java/lang/invoke/VarHandle" ∧ (parseMethodDescriptor (ns_nm 54).desc).map (fun d => d.parameters.length) = some 2 := ⟨by decide +kernel, by decide +kernel, by decide +kernel⟩
theorem nw_730 : Cond.methodLink "NoteSheetModel" 210 ⟨"NoteSheetModel", "counts", "(II)V"⟩ ∈ ns_Tb := ns_in 730 (by decide +kernel) (by decide +kernel)
theorem ns_eC87 : ns_pC ((5, 210), (.inl 54, 2, 0, 0, 5, 1)) := ⟨fun y hy => by cases hy; exact ⟨ns_I_M_counts, rfl, rfl, rfl, rfl, rfl, nw_733, nw_7, nw_730, nwd_54, fun h => absurd h (by decide), fun _ => ⟨nw_732, nws_54⟩, fun h => absurd h (by decide)⟩, fun z hz => by cases hz⟩
theorem nw_737 : Cond.code ⟨"NoteSheetModel", "finish", "()V"⟩ prog_7_method_26_code 1 (none) ∈ ns_Tb := ns_in 737 (by decide +kernel) (by decide +kernel)
theorem nw_736 : Cond.instanceMethod ⟨"NoteSheetModel", "finish", "()V"⟩ ∈ ns_Tb := ns_in 736 (by decide +kernel) (by decide +kernel)
theorem nws_55 : Cond.selects "NoteSheetModel" ⟨"NoteSheetModel", "finish", "()V"⟩ ⟨"NoteSheetModel", "finish", "()V"⟩ ∈ ns_Tb := ns_inS (y := ⟨"NoteSheetModel", "finish", "()V"⟩) (n := 43) 42 (by decide +kernel) (by decide +kernel)
theorem nwd_55 : (ns_nm 55).cls ≠ "java/lang/invoke/MethodHandle" ∧ (ns_nm 55).cls ≠ "java/lang/invoke/VarHandle" ∧ (parseMethodDescriptor (ns_nm 55).desc).map (fun d => d.parameters.length) = some 0 := ⟨by decide +kernel, by decide +kernel, by decide +kernel⟩
theorem nw_734 : Cond.methodLink "NoteSheetModel" 213 ⟨"NoteSheetModel", "finish", "()V"⟩ ∈ ns_Tb := ns_in 734 (by decide +kernel) (by decide +kernel)
theorem ns_eC88 : ns_pC ((5, 213), (.inl 55, 0, 0, 0, 5, 1)) := ⟨fun y hy => by cases hy; exact ⟨ns_I_M_finish, rfl, rfl, rfl, rfl, rfl, nw_737, nw_7, nw_734, nwd_55, fun h => absurd h (by decide), fun _ => ⟨nw_736, nws_55⟩, fun h => absurd h (by decide)⟩, fun z hz => by cases hz⟩
theorem nw_745 : Cond.code ⟨"NoteSheetModel", "durabilityOf", "(I)I"⟩ prog_7_method_22_code 2 (some .int) ∈ ns_Tb := ns_in 745 (by decide +kernel) (by decide +kernel)
theorem nw_744 : Cond.instanceMethod ⟨"NoteSheetModel", "durabilityOf", "(I)I"⟩ ∈ ns_Tb := ns_in 744 (by decide +kernel) (by decide +kernel)
theorem nws_51 : Cond.selects "NoteSheetModel" ⟨"NoteSheetModel", "durabilityOf", "(I)I"⟩ ⟨"NoteSheetModel", "durabilityOf", "(I)I"⟩ ∈ ns_Tb := ns_inS (y := ⟨"NoteSheetModel", "durabilityOf", "(I)I"⟩) (n := 43) 44 (by decide +kernel) (by decide +kernel)
theorem nwd_51 : (ns_nm 51).cls ≠ "java/lang/invoke/MethodHandle" ∧ (ns_nm 51).cls ≠ "java/lang/invoke/VarHandle" ∧ (parseMethodDescriptor (ns_nm 51).desc).map (fun d => d.parameters.length) = some 1 := ⟨by decide +kernel, by decide +kernel, by decide +kernel⟩
theorem nw_742 : Cond.methodLink "NoteSheetModel" 216 ⟨"NoteSheetModel", "durabilityOf", "(I)I"⟩ ∈ ns_Tb := ns_in 742 (by decide +kernel) (by decide +kernel)
theorem ns_eC89 : ns_pC ((5, 216), (.inl 51, 1, 0, 0, 5, 1)) := ⟨fun y hy => by cases hy; exact ⟨ns_I_M_durabilityOf, rfl, rfl, rfl, rfl, rfl, nw_745, nw_7, nw_742, nwd_51, fun h => absurd h (by decide), fun _ => ⟨nw_744, nws_51⟩, fun h => absurd h (by decide)⟩, fun z hz => by cases hz⟩
theorem nw_717 : Cond.code ⟨"NoteSheetModel", "settled", "(I)Z"⟩ prog_7_method_21_code 2 (some .boolean) ∈ ns_Tb := ns_in 717 (by decide +kernel) (by decide +kernel)
theorem nw_716 : Cond.instanceMethod ⟨"NoteSheetModel", "settled", "(I)Z"⟩ ∈ ns_Tb := ns_in 716 (by decide +kernel) (by decide +kernel)
theorem nws_50 : Cond.selects "NoteSheetModel" ⟨"NoteSheetModel", "settled", "(I)Z"⟩ ⟨"NoteSheetModel", "settled", "(I)Z"⟩ ∈ ns_Tb := ns_inS (y := ⟨"NoteSheetModel", "settled", "(I)Z"⟩) (n := 43) 37 (by decide +kernel) (by decide +kernel)
theorem nwd_50 : (ns_nm 50).cls ≠ "java/lang/invoke/MethodHandle" ∧ (ns_nm 50).cls ≠ "java/lang/invoke/VarHandle" ∧ (parseMethodDescriptor (ns_nm 50).desc).map (fun d => d.parameters.length) = some 1 := ⟨by decide +kernel, by decide +kernel, by decide +kernel⟩
theorem nw_714 : Cond.methodLink "NoteSheetModel" 219 ⟨"NoteSheetModel", "settled", "(I)Z"⟩ ∈ ns_Tb := ns_in 714 (by decide +kernel) (by decide +kernel)
theorem ns_eC90 : ns_pC ((5, 219), (.inl 50, 1, 0, 0, 5, 1)) := ⟨fun y hy => by cases hy; exact ⟨ns_I_M_settled, rfl, rfl, rfl, rfl, rfl, nw_717, nw_7, nw_714, nwd_50, fun h => absurd h (by decide), fun _ => ⟨nw_716, nws_50⟩, fun h => absurd h (by decide)⟩, fun z hz => by cases hz⟩
theorem nw_721 : Cond.code ⟨"NoteSheetModel", "start", "(II)V"⟩ prog_7_method_24_code 3 (none) ∈ ns_Tb := ns_in 721 (by decide +kernel) (by decide +kernel)
theorem nw_720 : Cond.instanceMethod ⟨"NoteSheetModel", "start", "(II)V"⟩ ∈ ns_Tb := ns_in 720 (by decide +kernel) (by decide +kernel)
theorem nws_53 : Cond.selects "NoteSheetModel" ⟨"NoteSheetModel", "start", "(II)V"⟩ ⟨"NoteSheetModel", "start", "(II)V"⟩ ∈ ns_Tb := ns_inS (y := ⟨"NoteSheetModel", "start", "(II)V"⟩) (n := 43) 38 (by decide +kernel) (by decide +kernel)
theorem nwd_53 : (ns_nm 53).cls ≠ "java/lang/invoke/MethodHandle" ∧ (ns_nm 53).cls ≠ "java/lang/invoke/VarHandle" ∧ (parseMethodDescriptor (ns_nm 53).desc).map (fun d => d.parameters.length) = some 2 := ⟨by decide +kernel, by decide +kernel, by decide +kernel⟩
theorem nw_718 : Cond.methodLink "NoteSheetModel" 222 ⟨"NoteSheetModel", "start", "(II)V"⟩ ∈ ns_Tb := ns_in 718 (by decide +kernel) (by decide +kernel)
theorem ns_eC91 : ns_pC ((5, 222), (.inl 53, 2, 0, 0, 5, 1)) := ⟨fun y hy => by cases hy; exact ⟨ns_I_M_start, rfl, rfl, rfl, rfl, rfl, nw_721, nw_7, nw_718, nwd_53, fun h => absurd h (by decide), fun _ => ⟨nw_720, nws_53⟩, fun h => absurd h (by decide)⟩, fun z hz => by cases hz⟩
theorem nw_749 : Cond.code ⟨"NoteSheetModel", "sinceOf", "(I)I"⟩ prog_7_method_23_code 2 (some .int) ∈ ns_Tb := ns_in 749 (by decide +kernel) (by decide +kernel)
theorem nw_748 : Cond.instanceMethod ⟨"NoteSheetModel", "sinceOf", "(I)I"⟩ ∈ ns_Tb := ns_in 748 (by decide +kernel) (by decide +kernel)
theorem nws_52 : Cond.selects "NoteSheetModel" ⟨"NoteSheetModel", "sinceOf", "(I)I"⟩ ⟨"NoteSheetModel", "sinceOf", "(I)I"⟩ ∈ ns_Tb := ns_inS (y := ⟨"NoteSheetModel", "sinceOf", "(I)I"⟩) (n := 43) 45 (by decide +kernel) (by decide +kernel)
theorem nwd_52 : (ns_nm 52).cls ≠ "java/lang/invoke/MethodHandle" ∧ (ns_nm 52).cls ≠ "java/lang/invoke/VarHandle" ∧ (parseMethodDescriptor (ns_nm 52).desc).map (fun d => d.parameters.length) = some 1 := ⟨by decide +kernel, by decide +kernel, by decide +kernel⟩
theorem nw_746 : Cond.methodLink "NoteSheetModel" 225 ⟨"NoteSheetModel", "sinceOf", "(I)I"⟩ ∈ ns_Tb := ns_in 746 (by decide +kernel) (by decide +kernel)
theorem ns_eC92 : ns_pC ((5, 225), (.inl 52, 1, 0, 0, 5, 1)) := ⟨fun y hy => by cases hy; exact ⟨ns_I_M_sinceOf, rfl, rfl, rfl, rfl, rfl, nw_749, nw_7, nw_746, nwd_52, fun h => absurd h (by decide), fun _ => ⟨nw_748, nws_52⟩, fun h => absurd h (by decide)⟩, fun z hz => by cases hz⟩
theorem nw_757 : Cond.code ⟨"NoteSheetModel", "use", "(I)V"⟩ prog_7_method_27_code 2 (none) ∈ ns_Tb := ns_in 757 (by decide +kernel) (by decide +kernel)
theorem nw_756 : Cond.instanceMethod ⟨"NoteSheetModel", "use", "(I)V"⟩ ∈ ns_Tb := ns_in 756 (by decide +kernel) (by decide +kernel)
theorem nws_56 : Cond.selects "NoteSheetModel" ⟨"NoteSheetModel", "use", "(I)V"⟩ ⟨"NoteSheetModel", "use", "(I)V"⟩ ∈ ns_Tb := ns_inS (y := ⟨"NoteSheetModel", "use", "(I)V"⟩) (n := 43) 47 (by decide +kernel) (by decide +kernel)
theorem nwd_56 : (ns_nm 56).cls ≠ "java/lang/invoke/MethodHandle" ∧ (ns_nm 56).cls ≠ "java/lang/invoke/VarHandle" ∧ (parseMethodDescriptor (ns_nm 56).desc).map (fun d => d.parameters.length) = some 1 := ⟨by decide +kernel, by decide +kernel, by decide +kernel⟩
theorem nw_754 : Cond.methodLink "NoteSheetModel" 228 ⟨"NoteSheetModel", "use", "(I)V"⟩ ∈ ns_Tb := ns_in 754 (by decide +kernel) (by decide +kernel)
theorem ns_eC93 : ns_pC ((5, 228), (.inl 56, 1, 0, 0, 5, 1)) := ⟨fun y hy => by cases hy; exact ⟨ns_I_M_use, rfl, rfl, rfl, rfl, rfl, nw_757, nw_7, nw_754, nwd_56, fun h => absurd h (by decide), fun _ => ⟨nw_756, nws_56⟩, fun h => absurd h (by decide)⟩, fun z hz => by cases hz⟩
theorem nw_765 : Cond.code ⟨"NoteSheetModel", "look", "(III)V"⟩ prog_7_method_36_code 7 (none) ∈ ns_Tb := ns_in 765 (by decide +kernel) (by decide +kernel)
theorem nw_764 : Cond.instanceMethod ⟨"NoteSheetModel", "look", "(III)V"⟩ ∈ ns_Tb := ns_in 764 (by decide +kernel) (by decide +kernel)
theorem nws_65 : Cond.selects "NoteSheetModel" ⟨"NoteSheetModel", "look", "(III)V"⟩ ⟨"NoteSheetModel", "look", "(III)V"⟩ ∈ ns_Tb := ns_inS (y := ⟨"NoteSheetModel", "look", "(III)V"⟩) (n := 43) 49 (by decide +kernel) (by decide +kernel)
theorem nwd_65 : (ns_nm 65).cls ≠ "java/lang/invoke/MethodHandle" ∧ (ns_nm 65).cls ≠ "java/lang/invoke/VarHandle" ∧ (parseMethodDescriptor (ns_nm 65).desc).map (fun d => d.parameters.length) = some 3 := ⟨by decide +kernel, by decide +kernel, by decide +kernel⟩
theorem nw_762 : Cond.methodLink "NoteSheetModel" 231 ⟨"NoteSheetModel", "look", "(III)V"⟩ ∈ ns_Tb := ns_in 762 (by decide +kernel) (by decide +kernel)
theorem ns_eC94 : ns_pC ((5, 231), (.inl 65, 3, 0, 0, 5, 1)) := ⟨fun y hy => by cases hy; exact ⟨ns_I_M_look, rfl, rfl, rfl, rfl, rfl, nw_765, nw_7, nw_762, nwd_65, fun h => absurd h (by decide), fun _ => ⟨nw_764, nws_65⟩, fun h => absurd h (by decide)⟩, fun z hz => by cases hz⟩
theorem nw_770 : Cond.code ⟨"NoteSheetModel", "push", "(IJ)V"⟩ prog_7_method_32_code 4 (none) ∈ ns_Tb := ns_in 770 (by decide +kernel) (by decide +kernel)
theorem nw_769 : Cond.instanceMethod ⟨"NoteSheetModel", "push", "(IJ)V"⟩ ∈ ns_Tb := ns_in 769 (by decide +kernel) (by decide +kernel)
theorem nws_61 : Cond.selects "NoteSheetModel" ⟨"NoteSheetModel", "push", "(IJ)V"⟩ ⟨"NoteSheetModel", "push", "(IJ)V"⟩ ∈ ns_Tb := ns_inS (y := ⟨"NoteSheetModel", "push", "(IJ)V"⟩) (n := 43) 50 (by decide +kernel) (by decide +kernel)
theorem nwd_61 : (ns_nm 61).cls ≠ "java/lang/invoke/MethodHandle" ∧ (ns_nm 61).cls ≠ "java/lang/invoke/VarHandle" ∧ (parseMethodDescriptor (ns_nm 61).desc).map (fun d => d.parameters.length) = some 2 := ⟨by decide +kernel, by decide +kernel, by decide +kernel⟩
theorem nw_767 : Cond.methodLink "NoteSheetModel" 235 ⟨"NoteSheetModel", "push", "(IJ)V"⟩ ∈ ns_Tb := ns_in 767 (by decide +kernel) (by decide +kernel)
theorem ns_eC95 : ns_pC ((5, 235), (.inl 61, 2, 0, 0, 5, 1)) := ⟨fun y hy => by cases hy; exact ⟨ns_I_M_push, rfl, rfl, rfl, rfl, rfl, nw_770, nw_7, nw_767, nwd_61, fun h => absurd h (by decide), fun _ => ⟨nw_769, nws_61⟩, fun h => absurd h (by decide)⟩, fun z hz => by cases hz⟩
theorem nw_774 : Cond.code ⟨"NoteSheetModel", "pop", "(I)J"⟩ prog_7_method_33_code 2 (some .long) ∈ ns_Tb := ns_in 774 (by decide +kernel) (by decide +kernel)
theorem nw_773 : Cond.instanceMethod ⟨"NoteSheetModel", "pop", "(I)J"⟩ ∈ ns_Tb := ns_in 773 (by decide +kernel) (by decide +kernel)
theorem nws_62 : Cond.selects "NoteSheetModel" ⟨"NoteSheetModel", "pop", "(I)J"⟩ ⟨"NoteSheetModel", "pop", "(I)J"⟩ ∈ ns_Tb := ns_inS (y := ⟨"NoteSheetModel", "pop", "(I)J"⟩) (n := 43) 51 (by decide +kernel) (by decide +kernel)
theorem nwd_62 : (ns_nm 62).cls ≠ "java/lang/invoke/MethodHandle" ∧ (ns_nm 62).cls ≠ "java/lang/invoke/VarHandle" ∧ (parseMethodDescriptor (ns_nm 62).desc).map (fun d => d.parameters.length) = some 1 := ⟨by decide +kernel, by decide +kernel, by decide +kernel⟩
theorem nw_771 : Cond.methodLink "NoteSheetModel" 239 ⟨"NoteSheetModel", "pop", "(I)J"⟩ ∈ ns_Tb := ns_in 771 (by decide +kernel) (by decide +kernel)
theorem ns_eC96 : ns_pC ((5, 239), (.inl 62, 1, 0, 0, 5, 1)) := ⟨fun y hy => by cases hy; exact ⟨ns_I_M_pop, rfl, rfl, rfl, rfl, rfl, nw_774, nw_7, nw_771, nwd_62, fun h => absurd h (by decide), fun _ => ⟨nw_773, nws_62⟩, fun h => absurd h (by decide)⟩, fun z hz => by cases hz⟩
theorem nw_778 : Cond.code ⟨"NoteSheetModel", "combine", "(II)V"⟩ prog_7_method_35_code 5 (none) ∈ ns_Tb := ns_in 778 (by decide +kernel) (by decide +kernel)
theorem nw_777 : Cond.instanceMethod ⟨"NoteSheetModel", "combine", "(II)V"⟩ ∈ ns_Tb := ns_in 777 (by decide +kernel) (by decide +kernel)
theorem nws_64 : Cond.selects "NoteSheetModel" ⟨"NoteSheetModel", "combine", "(II)V"⟩ ⟨"NoteSheetModel", "combine", "(II)V"⟩ ∈ ns_Tb := ns_inS (y := ⟨"NoteSheetModel", "combine", "(II)V"⟩) (n := 43) 52 (by decide +kernel) (by decide +kernel)
theorem nwd_64 : (ns_nm 64).cls ≠ "java/lang/invoke/MethodHandle" ∧ (ns_nm 64).cls ≠ "java/lang/invoke/VarHandle" ∧ (parseMethodDescriptor (ns_nm 64).desc).map (fun d => d.parameters.length) = some 2 := ⟨by decide +kernel, by decide +kernel, by decide +kernel⟩
theorem nw_775 : Cond.methodLink "NoteSheetModel" 243 ⟨"NoteSheetModel", "combine", "(II)V"⟩ ∈ ns_Tb := ns_in 775 (by decide +kernel) (by decide +kernel)
theorem ns_eC97 : ns_pC ((5, 243), (.inl 64, 2, 0, 0, 5, 1)) := ⟨fun y hy => by cases hy; exact ⟨ns_I_M_combine, rfl, rfl, rfl, rfl, rfl, nw_778, nw_7, nw_775, nwd_64, fun h => absurd h (by decide), fun _ => ⟨nw_777, nws_64⟩, fun h => absurd h (by decide)⟩, fun z hz => by cases hz⟩
theorem nw_725 : Cond.code ⟨"NoteSheetModel", "runAll", "()V"⟩ prog_7_method_28_code 2 (none) ∈ ns_Tb := ns_in 725 (by decide +kernel) (by decide +kernel)
theorem nw_724 : Cond.instanceMethod ⟨"NoteSheetModel", "runAll", "()V"⟩ ∈ ns_Tb := ns_in 724 (by decide +kernel) (by decide +kernel)
theorem nws_57 : Cond.selects "NoteSheetModel" ⟨"NoteSheetModel", "runAll", "()V"⟩ ⟨"NoteSheetModel", "runAll", "()V"⟩ ∈ ns_Tb := ns_inS (y := ⟨"NoteSheetModel", "runAll", "()V"⟩) (n := 43) 39 (by decide +kernel) (by decide +kernel)
theorem nwd_57 : (ns_nm 57).cls ≠ "java/lang/invoke/MethodHandle" ∧ (ns_nm 57).cls ≠ "java/lang/invoke/VarHandle" ∧ (parseMethodDescriptor (ns_nm 57).desc).map (fun d => d.parameters.length) = some 0 := ⟨by decide +kernel, by decide +kernel, by decide +kernel⟩
theorem nw_722 : Cond.methodLink "NoteSheetModel" 250 ⟨"NoteSheetModel", "runAll", "()V"⟩ ∈ ns_Tb := ns_in 722 (by decide +kernel) (by decide +kernel)
theorem ns_eC98 : ns_pC ((5, 250), (.inl 57, 0, 0, 0, 5, 1)) := ⟨fun y hy => by cases hy; exact ⟨ns_I_M_runAll, rfl, rfl, rfl, rfl, rfl, nw_725, nw_7, nw_722, nwd_57, fun h => absurd h (by decide), fun _ => ⟨nw_724, nws_57⟩, fun h => absurd h (by decide)⟩, fun z hz => by cases hz⟩
theorem nw_782 : Cond.code ⟨"NoteSheetModel", "values", "()I"⟩ prog_7_method_37_code 3 (some .int) ∈ ns_Tb := ns_in 782 (by decide +kernel) (by decide +kernel)
theorem nw_781 : Cond.instanceMethod ⟨"NoteSheetModel", "values", "()I"⟩ ∈ ns_Tb := ns_in 781 (by decide +kernel) (by decide +kernel)
theorem nws_66 : Cond.selects "NoteSheetModel" ⟨"NoteSheetModel", "values", "()I"⟩ ⟨"NoteSheetModel", "values", "()I"⟩ ∈ ns_Tb := ns_inS (y := ⟨"NoteSheetModel", "values", "()I"⟩) (n := 43) 53 (by decide +kernel) (by decide +kernel)
theorem nwd_66 : (ns_nm 66).cls ≠ "java/lang/invoke/MethodHandle" ∧ (ns_nm 66).cls ≠ "java/lang/invoke/VarHandle" ∧ (parseMethodDescriptor (ns_nm 66).desc).map (fun d => d.parameters.length) = some 0 := ⟨by decide +kernel, by decide +kernel, by decide +kernel⟩
theorem nw_779 : Cond.methodLink "NoteSheetModel" 253 ⟨"NoteSheetModel", "values", "()I"⟩ ∈ ns_Tb := ns_in 779 (by decide +kernel) (by decide +kernel)
theorem ns_eC99 : ns_pC ((5, 253), (.inl 66, 0, 0, 0, 5, 1)) := ⟨fun y hy => by cases hy; exact ⟨ns_I_M_values, rfl, rfl, rfl, rfl, rfl, nw_782, nw_7, nw_779, nwd_66, fun h => absurd h (by decide), fun _ => ⟨nw_781, nws_66⟩, fun h => absurd h (by decide)⟩, fun z hz => by cases hz⟩
theorem nw_498 : Cond.code ⟨"NoteSheetLaw", "cell", "([II)I"⟩ method_2_code 2 (some .int) ∈ ns_Tb := ns_in 498 (by decide +kernel) (by decide +kernel)
theorem nw_0 : Cond.initialized "NoteSheetLaw" ∈ ns_Tb := ns_in 0 (by decide +kernel) (by decide +kernel)
theorem nw_497 : Cond.static ⟨"NoteSheetLaw", "cell", "([II)I"⟩ ∈ ns_Tb := ns_in 497 (by decide +kernel) (by decide +kernel)
theorem nwd_104 : (ns_nm 104).cls ≠ "java/lang/invoke/MethodHandle" ∧ (ns_nm 104).cls ≠ "java/lang/invoke/VarHandle" ∧ (parseMethodDescriptor (ns_nm 104).desc).map (fun d => d.parameters.length) = some 2 := ⟨by decide +kernel, by decide +kernel, by decide +kernel⟩
theorem nw_496 : Cond.methodLink "NoteSheetLaw" 9 ⟨"NoteSheetLaw", "cell", "([II)I"⟩ ∈ ns_Tb := ns_in 496 (by decide +kernel) (by decide +kernel)
theorem ns_eC100 : ns_pC ((6, 9), (.inl 104, 2, 0, 0, 6, 0)) := ⟨fun y hy => by cases hy; exact ⟨ns_I_L_cell, rfl, rfl, rfl, rfl, rfl, nw_498, nw_0, nw_496, nwd_104, fun _ => nw_497, fun h => absurd h (by decide), fun h => absurd h (by decide)⟩, fun z hz => by cases hz⟩
theorem nw_18 : Cond.code ⟨"NoteSheet", "<init>", "(I)V"⟩ prog_1_method_1_code 3 (none) ∈ ns_Tb := ns_in 18 (by decide +kernel) (by decide +kernel)
theorem nw_17 : Cond.instanceMethod ⟨"NoteSheet", "<init>", "(I)V"⟩ ∈ ns_Tb := ns_in 17 (by decide +kernel) (by decide +kernel)
theorem nwd_0 : (ns_nm 0).cls ≠ "java/lang/invoke/MethodHandle" ∧ (ns_nm 0).cls ≠ "java/lang/invoke/VarHandle" ∧ (parseMethodDescriptor (ns_nm 0).desc).map (fun d => d.parameters.length) = some 1 := ⟨by decide +kernel, by decide +kernel, by decide +kernel⟩
theorem nw_16 : Cond.methodLink "NoteSheetLaw" 15 ⟨"NoteSheet", "<init>", "(I)V"⟩ ∈ ns_Tb := ns_in 16 (by decide +kernel) (by decide +kernel)
theorem ns_eC101 : ns_pC ((6, 15), (.inl 0, 1, 103, 1620, 0, 2)) := ⟨fun y hy => by cases hy; exact ⟨ns_I_N_init, rfl, rfl, rfl, rfl, rfl, nw_18, nw_1, nw_16, nwd_0, fun h => absurd h (by decide), fun h => absurd h (by decide), fun _ => ⟨rfl, rfl, nw_17⟩⟩, fun z hz => by cases hz⟩
theorem nw_503 : Cond.code ⟨"NoteSheetModel", "<init>", "(I)V"⟩ prog_7_method_1_code 2 (none) ∈ ns_Tb := ns_in 503 (by decide +kernel) (by decide +kernel)
theorem nw_502 : Cond.instanceMethod ⟨"NoteSheetModel", "<init>", "(I)V"⟩ ∈ ns_Tb := ns_in 502 (by decide +kernel) (by decide +kernel)
theorem nwd_30 : (ns_nm 30).cls ≠ "java/lang/invoke/MethodHandle" ∧ (ns_nm 30).cls ≠ "java/lang/invoke/VarHandle" ∧ (parseMethodDescriptor (ns_nm 30).desc).map (fun d => d.parameters.length) = some 1 := ⟨by decide +kernel, by decide +kernel, by decide +kernel⟩
theorem nw_501 : Cond.methodLink "NoteSheetLaw" 20 ⟨"NoteSheetModel", "<init>", "(I)V"⟩ ∈ ns_Tb := ns_in 501 (by decide +kernel) (by decide +kernel)
theorem ns_eC102 : ns_pC ((6, 20), (.inl 30, 1, 36, 2344, 5, 2)) := ⟨fun y hy => by cases hy; exact ⟨ns_I_M_init, rfl, rfl, rfl, rfl, rfl, nw_503, nw_7, nw_501, nwd_30, fun h => absurd h (by decide), fun h => absurd h (by decide), fun _ => ⟨rfl, rfl, nw_502⟩⟩, fun z hz => by cases hz⟩
theorem nw_185 : Cond.code ⟨"NoteSheet", "type", "(C)Z"⟩ prog_1_method_2_code 2 (some .boolean) ∈ ns_Tb := ns_in 185 (by decide +kernel) (by decide +kernel)
theorem nw_183 : Cond.instanceMethod ⟨"NoteSheet", "type", "(C)Z"⟩ ∈ ns_Tb := ns_in 183 (by decide +kernel) (by decide +kernel)
theorem nw_184 : Cond.selects "NoteSheet" ⟨"NoteSheet", "type", "(C)Z"⟩ ⟨"NoteSheet", "type", "(C)Z"⟩ ∈ ns_Tb := ns_in 184 (by decide +kernel) (by decide +kernel)
theorem nwd_1 : (ns_nm 1).cls ≠ "java/lang/invoke/MethodHandle" ∧ (ns_nm 1).cls ≠ "java/lang/invoke/VarHandle" ∧ (parseMethodDescriptor (ns_nm 1).desc).map (fun d => d.parameters.length) = some 1 := ⟨by decide +kernel, by decide +kernel, by decide +kernel⟩
theorem nw_182 : Cond.methodLink "NoteSheetLaw" 21 ⟨"NoteSheet", "type", "(C)Z"⟩ ∈ ns_Tb := ns_in 182 (by decide +kernel) (by decide +kernel)
theorem ns_eC103 : ns_pC ((6, 21), (.inl 1, 1, 0, 0, 0, 1)) := ⟨fun y hy => by cases hy; exact ⟨ns_I_N_type, rfl, rfl, rfl, rfl, rfl, nw_185, nw_1, nw_182, nwd_1, fun h => absurd h (by decide), fun _ => ⟨nw_183, nw_184⟩, fun h => absurd h (by decide)⟩, fun z hz => by cases hz⟩
theorem nw_640 : Cond.code ⟨"NoteSheetModel", "type", "(C)Z"⟩ prog_7_method_5_code 3 (some .boolean) ∈ ns_Tb := ns_in 640 (by decide +kernel) (by decide +kernel)
theorem nw_638 : Cond.instanceMethod ⟨"NoteSheetModel", "type", "(C)Z"⟩ ∈ ns_Tb := ns_in 638 (by decide +kernel) (by decide +kernel)
theorem nw_639 : Cond.selects "NoteSheetModel" ⟨"NoteSheetModel", "type", "(C)Z"⟩ ⟨"NoteSheetModel", "type", "(C)Z"⟩ ∈ ns_Tb := ns_in 639 (by decide +kernel) (by decide +kernel)
theorem nwd_34 : (ns_nm 34).cls ≠ "java/lang/invoke/MethodHandle" ∧ (ns_nm 34).cls ≠ "java/lang/invoke/VarHandle" ∧ (parseMethodDescriptor (ns_nm 34).desc).map (fun d => d.parameters.length) = some 1 := ⟨by decide +kernel, by decide +kernel, by decide +kernel⟩
theorem nw_637 : Cond.methodLink "NoteSheetLaw" 25 ⟨"NoteSheetModel", "type", "(C)Z"⟩ ∈ ns_Tb := ns_in 637 (by decide +kernel) (by decide +kernel)
theorem ns_eC104 : ns_pC ((6, 25), (.inl 34, 1, 0, 0, 5, 1)) := ⟨fun y hy => by cases hy; exact ⟨ns_I_M_type, rfl, rfl, rfl, rfl, rfl, nw_640, nw_7, nw_637, nwd_34, fun h => absurd h (by decide), fun _ => ⟨nw_638, nw_639⟩, fun h => absurd h (by decide)⟩, fun z hz => by cases hz⟩
theorem nw_286 : Cond.code ⟨"NoteSheet", "define", "(I)I"⟩ prog_1_method_3_code 3 (some .int) ∈ ns_Tb := ns_in 286 (by decide +kernel) (by decide +kernel)
theorem nw_284 : Cond.instanceMethod ⟨"NoteSheet", "define", "(I)I"⟩ ∈ ns_Tb := ns_in 284 (by decide +kernel) (by decide +kernel)
theorem nw_285 : Cond.selects "NoteSheet" ⟨"NoteSheet", "define", "(I)I"⟩ ⟨"NoteSheet", "define", "(I)I"⟩ ∈ ns_Tb := ns_in 285 (by decide +kernel) (by decide +kernel)
theorem nwd_2 : (ns_nm 2).cls ≠ "java/lang/invoke/MethodHandle" ∧ (ns_nm 2).cls ≠ "java/lang/invoke/VarHandle" ∧ (parseMethodDescriptor (ns_nm 2).desc).map (fun d => d.parameters.length) = some 1 := ⟨by decide +kernel, by decide +kernel, by decide +kernel⟩
theorem nw_283 : Cond.methodLink "NoteSheetLaw" 26 ⟨"NoteSheet", "define", "(I)I"⟩ ∈ ns_Tb := ns_in 283 (by decide +kernel) (by decide +kernel)
theorem ns_eC105 : ns_pC ((6, 26), (.inl 2, 1, 0, 0, 0, 1)) := ⟨fun y hy => by cases hy; exact ⟨ns_I_N_define, rfl, rfl, rfl, rfl, rfl, nw_286, nw_1, nw_283, nwd_2, fun h => absurd h (by decide), fun _ => ⟨nw_284, nw_285⟩, fun h => absurd h (by decide)⟩, fun z hz => by cases hz⟩
theorem nw_650 : Cond.code ⟨"NoteSheetModel", "define", "(I)I"⟩ prog_7_method_18_code 6 (some .int) ∈ ns_Tb := ns_in 650 (by decide +kernel) (by decide +kernel)
theorem nw_648 : Cond.instanceMethod ⟨"NoteSheetModel", "define", "(I)I"⟩ ∈ ns_Tb := ns_in 648 (by decide +kernel) (by decide +kernel)
theorem nw_649 : Cond.selects "NoteSheetModel" ⟨"NoteSheetModel", "define", "(I)I"⟩ ⟨"NoteSheetModel", "define", "(I)I"⟩ ∈ ns_Tb := ns_in 649 (by decide +kernel) (by decide +kernel)
theorem nwd_47 : (ns_nm 47).cls ≠ "java/lang/invoke/MethodHandle" ∧ (ns_nm 47).cls ≠ "java/lang/invoke/VarHandle" ∧ (parseMethodDescriptor (ns_nm 47).desc).map (fun d => d.parameters.length) = some 1 := ⟨by decide +kernel, by decide +kernel, by decide +kernel⟩
theorem nw_647 : Cond.methodLink "NoteSheetLaw" 30 ⟨"NoteSheetModel", "define", "(I)I"⟩ ∈ ns_Tb := ns_in 647 (by decide +kernel) (by decide +kernel)
theorem ns_eC106 : ns_pC ((6, 30), (.inl 47, 1, 0, 0, 5, 1)) := ⟨fun y hy => by cases hy; exact ⟨ns_I_M_define, rfl, rfl, rfl, rfl, rfl, nw_650, nw_7, nw_647, nwd_47, fun h => absurd h (by decide), fun _ => ⟨nw_648, nw_649⟩, fun h => absurd h (by decide)⟩, fun z hz => by cases hz⟩
theorem nw_370 : Cond.code ⟨"NoteSheet", "set", "(III)Z"⟩ prog_1_method_4_code 5 (some .boolean) ∈ ns_Tb := ns_in 370 (by decide +kernel) (by decide +kernel)
theorem nw_368 : Cond.instanceMethod ⟨"NoteSheet", "set", "(III)Z"⟩ ∈ ns_Tb := ns_in 368 (by decide +kernel) (by decide +kernel)
theorem nw_369 : Cond.selects "NoteSheet" ⟨"NoteSheet", "set", "(III)Z"⟩ ⟨"NoteSheet", "set", "(III)Z"⟩ ∈ ns_Tb := ns_in 369 (by decide +kernel) (by decide +kernel)
theorem nwd_3 : (ns_nm 3).cls ≠ "java/lang/invoke/MethodHandle" ∧ (ns_nm 3).cls ≠ "java/lang/invoke/VarHandle" ∧ (parseMethodDescriptor (ns_nm 3).desc).map (fun d => d.parameters.length) = some 3 := ⟨by decide +kernel, by decide +kernel, by decide +kernel⟩
theorem nw_367 : Cond.methodLink "NoteSheetLaw" 31 ⟨"NoteSheet", "set", "(III)Z"⟩ ∈ ns_Tb := ns_in 367 (by decide +kernel) (by decide +kernel)
theorem ns_eC107 : ns_pC ((6, 31), (.inl 3, 3, 0, 0, 0, 1)) := ⟨fun y hy => by cases hy; exact ⟨ns_I_N_set, rfl, rfl, rfl, rfl, rfl, nw_370, nw_1, nw_367, nwd_3, fun h => absurd h (by decide), fun _ => ⟨nw_368, nw_369⟩, fun h => absurd h (by decide)⟩, fun z hz => by cases hz⟩
theorem nw_708 : Cond.code ⟨"NoteSheetModel", "set", "(III)Z"⟩ prog_7_method_20_code 5 (some .boolean) ∈ ns_Tb := ns_in 708 (by decide +kernel) (by decide +kernel)
theorem nw_706 : Cond.instanceMethod ⟨"NoteSheetModel", "set", "(III)Z"⟩ ∈ ns_Tb := ns_in 706 (by decide +kernel) (by decide +kernel)
theorem nw_707 : Cond.selects "NoteSheetModel" ⟨"NoteSheetModel", "set", "(III)Z"⟩ ⟨"NoteSheetModel", "set", "(III)Z"⟩ ∈ ns_Tb := ns_in 707 (by decide +kernel) (by decide +kernel)
theorem nwd_49 : (ns_nm 49).cls ≠ "java/lang/invoke/MethodHandle" ∧ (ns_nm 49).cls ≠ "java/lang/invoke/VarHandle" ∧ (parseMethodDescriptor (ns_nm 49).desc).map (fun d => d.parameters.length) = some 3 := ⟨by decide +kernel, by decide +kernel, by decide +kernel⟩
theorem nw_705 : Cond.methodLink "NoteSheetLaw" 35 ⟨"NoteSheetModel", "set", "(III)Z"⟩ ∈ ns_Tb := ns_in 705 (by decide +kernel) (by decide +kernel)
theorem ns_eC108 : ns_pC ((6, 35), (.inl 49, 3, 0, 0, 5, 1)) := ⟨fun y hy => by cases hy; exact ⟨ns_I_M_set, rfl, rfl, rfl, rfl, rfl, nw_708, nw_7, nw_705, nwd_49, fun h => absurd h (by decide), fun _ => ⟨nw_706, nw_707⟩, fun h => absurd h (by decide)⟩, fun z hz => by cases hz⟩
theorem nw_385 : Cond.code ⟨"NoteSheet", "ask", "(I)J"⟩ prog_1_method_5_code 4 (some .long) ∈ ns_Tb := ns_in 385 (by decide +kernel) (by decide +kernel)
theorem nw_383 : Cond.instanceMethod ⟨"NoteSheet", "ask", "(I)J"⟩ ∈ ns_Tb := ns_in 383 (by decide +kernel) (by decide +kernel)
theorem nw_384 : Cond.selects "NoteSheet" ⟨"NoteSheet", "ask", "(I)J"⟩ ⟨"NoteSheet", "ask", "(I)J"⟩ ∈ ns_Tb := ns_in 384 (by decide +kernel) (by decide +kernel)
theorem nwd_4 : (ns_nm 4).cls ≠ "java/lang/invoke/MethodHandle" ∧ (ns_nm 4).cls ≠ "java/lang/invoke/VarHandle" ∧ (parseMethodDescriptor (ns_nm 4).desc).map (fun d => d.parameters.length) = some 1 := ⟨by decide +kernel, by decide +kernel, by decide +kernel⟩
theorem nw_382 : Cond.methodLink "NoteSheetLaw" 36 ⟨"NoteSheet", "ask", "(I)J"⟩ ∈ ns_Tb := ns_in 382 (by decide +kernel) (by decide +kernel)
theorem ns_eC109 : ns_pC ((6, 36), (.inl 4, 1, 0, 0, 0, 1)) := ⟨fun y hy => by cases hy; exact ⟨ns_I_N_ask, rfl, rfl, rfl, rfl, rfl, nw_385, nw_1, nw_382, nwd_4, fun h => absurd h (by decide), fun _ => ⟨nw_383, nw_384⟩, fun h => absurd h (by decide)⟩, fun z hz => by cases hz⟩
theorem nw_712 : Cond.code ⟨"NoteSheetModel", "ask", "(I)J"⟩ prog_7_method_38_code 6 (some .long) ∈ ns_Tb := ns_in 712 (by decide +kernel) (by decide +kernel)
theorem nw_710 : Cond.instanceMethod ⟨"NoteSheetModel", "ask", "(I)J"⟩ ∈ ns_Tb := ns_in 710 (by decide +kernel) (by decide +kernel)
theorem nw_711 : Cond.selects "NoteSheetModel" ⟨"NoteSheetModel", "ask", "(I)J"⟩ ⟨"NoteSheetModel", "ask", "(I)J"⟩ ∈ ns_Tb := ns_in 711 (by decide +kernel) (by decide +kernel)
theorem nwd_67 : (ns_nm 67).cls ≠ "java/lang/invoke/MethodHandle" ∧ (ns_nm 67).cls ≠ "java/lang/invoke/VarHandle" ∧ (parseMethodDescriptor (ns_nm 67).desc).map (fun d => d.parameters.length) = some 1 := ⟨by decide +kernel, by decide +kernel, by decide +kernel⟩
theorem nw_709 : Cond.methodLink "NoteSheetLaw" 40 ⟨"NoteSheetModel", "ask", "(I)J"⟩ ∈ ns_Tb := ns_in 709 (by decide +kernel) (by decide +kernel)
theorem ns_eC110 : ns_pC ((6, 40), (.inl 67, 1, 0, 0, 5, 1)) := ⟨fun y hy => by cases hy; exact ⟨ns_I_M_ask, rfl, rfl, rfl, rfl, rfl, nw_712, nw_7, nw_709, nwd_67, fun h => absurd h (by decide), fun _ => ⟨nw_710, nw_711⟩, fun h => absurd h (by decide)⟩, fun z hz => by cases hz⟩
theorem nw_479 : Cond.code ⟨"NoteSheet", "revision", "()I"⟩ prog_1_method_6_code 1 (some .int) ∈ ns_Tb := ns_in 479 (by decide +kernel) (by decide +kernel)
theorem nw_477 : Cond.instanceMethod ⟨"NoteSheet", "revision", "()I"⟩ ∈ ns_Tb := ns_in 477 (by decide +kernel) (by decide +kernel)
theorem nw_478 : Cond.selects "NoteSheet" ⟨"NoteSheet", "revision", "()I"⟩ ⟨"NoteSheet", "revision", "()I"⟩ ∈ ns_Tb := ns_in 478 (by decide +kernel) (by decide +kernel)
theorem nwd_5 : (ns_nm 5).cls ≠ "java/lang/invoke/MethodHandle" ∧ (ns_nm 5).cls ≠ "java/lang/invoke/VarHandle" ∧ (parseMethodDescriptor (ns_nm 5).desc).map (fun d => d.parameters.length) = some 0 := ⟨by decide +kernel, by decide +kernel, by decide +kernel⟩
theorem nw_476 : Cond.methodLink "NoteSheetLaw" 41 ⟨"NoteSheet", "revision", "()I"⟩ ∈ ns_Tb := ns_in 476 (by decide +kernel) (by decide +kernel)
theorem ns_eC111 : ns_pC ((6, 41), (.inl 5, 0, 0, 0, 0, 1)) := ⟨fun y hy => by cases hy; exact ⟨ns_I_N_revision, rfl, rfl, rfl, rfl, rfl, nw_479, nw_1, nw_476, nwd_5, fun h => absurd h (by decide), fun _ => ⟨nw_477, nw_478⟩, fun h => absurd h (by decide)⟩, fun z hz => by cases hz⟩
theorem nw_786 : Cond.code ⟨"NoteSheetModel", "revision", "()I"⟩ prog_7_method_39_code 1 (some .int) ∈ ns_Tb := ns_in 786 (by decide +kernel) (by decide +kernel)
theorem nw_784 : Cond.instanceMethod ⟨"NoteSheetModel", "revision", "()I"⟩ ∈ ns_Tb := ns_in 784 (by decide +kernel) (by decide +kernel)
theorem nw_785 : Cond.selects "NoteSheetModel" ⟨"NoteSheetModel", "revision", "()I"⟩ ⟨"NoteSheetModel", "revision", "()I"⟩ ∈ ns_Tb := ns_in 785 (by decide +kernel) (by decide +kernel)
theorem nwd_68 : (ns_nm 68).cls ≠ "java/lang/invoke/MethodHandle" ∧ (ns_nm 68).cls ≠ "java/lang/invoke/VarHandle" ∧ (parseMethodDescriptor (ns_nm 68).desc).map (fun d => d.parameters.length) = some 0 := ⟨by decide +kernel, by decide +kernel, by decide +kernel⟩
theorem nw_783 : Cond.methodLink "NoteSheetLaw" 45 ⟨"NoteSheetModel", "revision", "()I"⟩ ∈ ns_Tb := ns_in 783 (by decide +kernel) (by decide +kernel)
theorem ns_eC112 : ns_pC ((6, 45), (.inl 68, 0, 0, 0, 5, 1)) := ⟨fun y hy => by cases hy; exact ⟨ns_I_M_revision, rfl, rfl, rfl, rfl, rfl, nw_786, nw_7, nw_783, nwd_68, fun h => absurd h (by decide), fun _ => ⟨nw_784, nw_785⟩, fun h => absurd h (by decide)⟩, fun z hz => by cases hz⟩
theorem nw_483 : Cond.code ⟨"NoteSheet", "changed", "(I)I"⟩ prog_1_method_7_code 2 (some .int) ∈ ns_Tb := ns_in 483 (by decide +kernel) (by decide +kernel)
theorem nw_481 : Cond.instanceMethod ⟨"NoteSheet", "changed", "(I)I"⟩ ∈ ns_Tb := ns_in 481 (by decide +kernel) (by decide +kernel)
theorem nw_482 : Cond.selects "NoteSheet" ⟨"NoteSheet", "changed", "(I)I"⟩ ⟨"NoteSheet", "changed", "(I)I"⟩ ∈ ns_Tb := ns_in 482 (by decide +kernel) (by decide +kernel)
theorem nwd_6 : (ns_nm 6).cls ≠ "java/lang/invoke/MethodHandle" ∧ (ns_nm 6).cls ≠ "java/lang/invoke/VarHandle" ∧ (parseMethodDescriptor (ns_nm 6).desc).map (fun d => d.parameters.length) = some 1 := ⟨by decide +kernel, by decide +kernel, by decide +kernel⟩
theorem nw_480 : Cond.methodLink "NoteSheetLaw" 46 ⟨"NoteSheet", "changed", "(I)I"⟩ ∈ ns_Tb := ns_in 480 (by decide +kernel) (by decide +kernel)
theorem ns_eC113 : ns_pC ((6, 46), (.inl 6, 1, 0, 0, 0, 1)) := ⟨fun y hy => by cases hy; exact ⟨ns_I_N_changed, rfl, rfl, rfl, rfl, rfl, nw_483, nw_1, nw_480, nwd_6, fun h => absurd h (by decide), fun _ => ⟨nw_481, nw_482⟩, fun h => absurd h (by decide)⟩, fun z hz => by cases hz⟩
theorem nw_790 : Cond.code ⟨"NoteSheetModel", "changed", "(I)I"⟩ prog_7_method_40_code 2 (some .int) ∈ ns_Tb := ns_in 790 (by decide +kernel) (by decide +kernel)
theorem nw_788 : Cond.instanceMethod ⟨"NoteSheetModel", "changed", "(I)I"⟩ ∈ ns_Tb := ns_in 788 (by decide +kernel) (by decide +kernel)
theorem nw_789 : Cond.selects "NoteSheetModel" ⟨"NoteSheetModel", "changed", "(I)I"⟩ ⟨"NoteSheetModel", "changed", "(I)I"⟩ ∈ ns_Tb := ns_in 789 (by decide +kernel) (by decide +kernel)
theorem nwd_69 : (ns_nm 69).cls ≠ "java/lang/invoke/MethodHandle" ∧ (ns_nm 69).cls ≠ "java/lang/invoke/VarHandle" ∧ (parseMethodDescriptor (ns_nm 69).desc).map (fun d => d.parameters.length) = some 1 := ⟨by decide +kernel, by decide +kernel, by decide +kernel⟩
theorem nw_787 : Cond.methodLink "NoteSheetLaw" 49 ⟨"NoteSheetModel", "changed", "(I)I"⟩ ∈ ns_Tb := ns_in 787 (by decide +kernel) (by decide +kernel)
theorem ns_eC114 : ns_pC ((6, 49), (.inl 69, 1, 0, 0, 5, 1)) := ⟨fun y hy => by cases hy; exact ⟨ns_I_M_changed, rfl, rfl, rfl, rfl, rfl, nw_790, nw_7, nw_787, nwd_69, fun h => absurd h (by decide), fun _ => ⟨nw_788, nw_789⟩, fun h => absurd h (by decide)⟩, fun z hz => by cases hz⟩
theorem nw_487 : Cond.code ⟨"NoteSheet", "note", "(II)I"⟩ prog_1_method_8_code 4 (some .int) ∈ ns_Tb := ns_in 487 (by decide +kernel) (by decide +kernel)
theorem nw_485 : Cond.instanceMethod ⟨"NoteSheet", "note", "(II)I"⟩ ∈ ns_Tb := ns_in 485 (by decide +kernel) (by decide +kernel)
theorem nw_486 : Cond.selects "NoteSheet" ⟨"NoteSheet", "note", "(II)I"⟩ ⟨"NoteSheet", "note", "(II)I"⟩ ∈ ns_Tb := ns_in 486 (by decide +kernel) (by decide +kernel)
theorem nwd_7 : (ns_nm 7).cls ≠ "java/lang/invoke/MethodHandle" ∧ (ns_nm 7).cls ≠ "java/lang/invoke/VarHandle" ∧ (parseMethodDescriptor (ns_nm 7).desc).map (fun d => d.parameters.length) = some 2 := ⟨by decide +kernel, by decide +kernel, by decide +kernel⟩
theorem nw_484 : Cond.methodLink "NoteSheetLaw" 50 ⟨"NoteSheet", "note", "(II)I"⟩ ∈ ns_Tb := ns_in 484 (by decide +kernel) (by decide +kernel)
theorem ns_eC115 : ns_pC ((6, 50), (.inl 7, 2, 0, 0, 0, 1)) := ⟨fun y hy => by cases hy; exact ⟨ns_I_N_note, rfl, rfl, rfl, rfl, rfl, nw_487, nw_1, nw_484, nwd_7, fun h => absurd h (by decide), fun _ => ⟨nw_485, nw_486⟩, fun h => absurd h (by decide)⟩, fun z hz => by cases hz⟩
theorem nw_794 : Cond.code ⟨"NoteSheetModel", "note", "(II)I"⟩ prog_7_method_41_code 4 (some .int) ∈ ns_Tb := ns_in 794 (by decide +kernel) (by decide +kernel)
theorem nw_792 : Cond.instanceMethod ⟨"NoteSheetModel", "note", "(II)I"⟩ ∈ ns_Tb := ns_in 792 (by decide +kernel) (by decide +kernel)
theorem nw_793 : Cond.selects "NoteSheetModel" ⟨"NoteSheetModel", "note", "(II)I"⟩ ⟨"NoteSheetModel", "note", "(II)I"⟩ ∈ ns_Tb := ns_in 793 (by decide +kernel) (by decide +kernel)
theorem nwd_70 : (ns_nm 70).cls ≠ "java/lang/invoke/MethodHandle" ∧ (ns_nm 70).cls ≠ "java/lang/invoke/VarHandle" ∧ (parseMethodDescriptor (ns_nm 70).desc).map (fun d => d.parameters.length) = some 2 := ⟨by decide +kernel, by decide +kernel, by decide +kernel⟩
theorem nw_791 : Cond.methodLink "NoteSheetLaw" 54 ⟨"NoteSheetModel", "note", "(II)I"⟩ ∈ ns_Tb := ns_in 791 (by decide +kernel) (by decide +kernel)
theorem ns_eC116 : ns_pC ((6, 54), (.inl 70, 2, 0, 0, 5, 1)) := ⟨fun y hy => by cases hy; exact ⟨ns_I_M_note, rfl, rfl, rfl, rfl, rfl, nw_794, nw_7, nw_791, nwd_70, fun h => absurd h (by decide), fun _ => ⟨nw_792, nw_793⟩, fun h => absurd h (by decide)⟩, fun z hz => by cases hz⟩
theorem nw_491 : Cond.code ⟨"NoteSheet", "read", "(II)I"⟩ prog_1_method_9_code 3 (some .int) ∈ ns_Tb := ns_in 491 (by decide +kernel) (by decide +kernel)
theorem nw_489 : Cond.instanceMethod ⟨"NoteSheet", "read", "(II)I"⟩ ∈ ns_Tb := ns_in 489 (by decide +kernel) (by decide +kernel)
theorem nw_490 : Cond.selects "NoteSheet" ⟨"NoteSheet", "read", "(II)I"⟩ ⟨"NoteSheet", "read", "(II)I"⟩ ∈ ns_Tb := ns_in 490 (by decide +kernel) (by decide +kernel)
theorem nwd_8 : (ns_nm 8).cls ≠ "java/lang/invoke/MethodHandle" ∧ (ns_nm 8).cls ≠ "java/lang/invoke/VarHandle" ∧ (parseMethodDescriptor (ns_nm 8).desc).map (fun d => d.parameters.length) = some 2 := ⟨by decide +kernel, by decide +kernel, by decide +kernel⟩
theorem nw_488 : Cond.methodLink "NoteSheetLaw" 55 ⟨"NoteSheet", "read", "(II)I"⟩ ∈ ns_Tb := ns_in 488 (by decide +kernel) (by decide +kernel)
theorem ns_eC117 : ns_pC ((6, 55), (.inl 8, 2, 0, 0, 0, 1)) := ⟨fun y hy => by cases hy; exact ⟨ns_I_N_read, rfl, rfl, rfl, rfl, rfl, nw_491, nw_1, nw_488, nwd_8, fun h => absurd h (by decide), fun _ => ⟨nw_489, nw_490⟩, fun h => absurd h (by decide)⟩, fun z hz => by cases hz⟩
theorem nw_798 : Cond.code ⟨"NoteSheetModel", "read", "(II)I"⟩ prog_7_method_42_code 3 (some .int) ∈ ns_Tb := ns_in 798 (by decide +kernel) (by decide +kernel)
theorem nw_796 : Cond.instanceMethod ⟨"NoteSheetModel", "read", "(II)I"⟩ ∈ ns_Tb := ns_in 796 (by decide +kernel) (by decide +kernel)
theorem nw_797 : Cond.selects "NoteSheetModel" ⟨"NoteSheetModel", "read", "(II)I"⟩ ⟨"NoteSheetModel", "read", "(II)I"⟩ ∈ ns_Tb := ns_in 797 (by decide +kernel) (by decide +kernel)
theorem nwd_71 : (ns_nm 71).cls ≠ "java/lang/invoke/MethodHandle" ∧ (ns_nm 71).cls ≠ "java/lang/invoke/VarHandle" ∧ (parseMethodDescriptor (ns_nm 71).desc).map (fun d => d.parameters.length) = some 2 := ⟨by decide +kernel, by decide +kernel, by decide +kernel⟩
theorem nw_795 : Cond.methodLink "NoteSheetLaw" 58 ⟨"NoteSheetModel", "read", "(II)I"⟩ ∈ ns_Tb := ns_in 795 (by decide +kernel) (by decide +kernel)
theorem ns_eC118 : ns_pC ((6, 58), (.inl 71, 2, 0, 0, 5, 1)) := ⟨fun y hy => by cases hy; exact ⟨ns_I_M_read, rfl, rfl, rfl, rfl, rfl, nw_798, nw_7, nw_795, nwd_71, fun h => absurd h (by decide), fun _ => ⟨nw_796, nw_797⟩, fun h => absurd h (by decide)⟩, fun z hz => by cases hz⟩
theorem nw_495 : Cond.code ⟨"NoteSheet", "count", "(I)I"⟩ prog_1_method_10_code 2 (some .int) ∈ ns_Tb := ns_in 495 (by decide +kernel) (by decide +kernel)
theorem nw_493 : Cond.instanceMethod ⟨"NoteSheet", "count", "(I)I"⟩ ∈ ns_Tb := ns_in 493 (by decide +kernel) (by decide +kernel)
theorem nw_494 : Cond.selects "NoteSheet" ⟨"NoteSheet", "count", "(I)I"⟩ ⟨"NoteSheet", "count", "(I)I"⟩ ∈ ns_Tb := ns_in 494 (by decide +kernel) (by decide +kernel)
theorem nwd_9 : (ns_nm 9).cls ≠ "java/lang/invoke/MethodHandle" ∧ (ns_nm 9).cls ≠ "java/lang/invoke/VarHandle" ∧ (parseMethodDescriptor (ns_nm 9).desc).map (fun d => d.parameters.length) = some 1 := ⟨by decide +kernel, by decide +kernel, by decide +kernel⟩
theorem nw_492 : Cond.methodLink "NoteSheetLaw" 59 ⟨"NoteSheet", "count", "(I)I"⟩ ∈ ns_Tb := ns_in 492 (by decide +kernel) (by decide +kernel)
theorem ns_eC119 : ns_pC ((6, 59), (.inl 9, 1, 0, 0, 0, 1)) := ⟨fun y hy => by cases hy; exact ⟨ns_I_N_count, rfl, rfl, rfl, rfl, rfl, nw_495, nw_1, nw_492, nwd_9, fun h => absurd h (by decide), fun _ => ⟨nw_493, nw_494⟩, fun h => absurd h (by decide)⟩, fun z hz => by cases hz⟩
theorem nw_802 : Cond.code ⟨"NoteSheetModel", "count", "(I)I"⟩ prog_7_method_43_code 2 (some .int) ∈ ns_Tb := ns_in 802 (by decide +kernel) (by decide +kernel)
theorem nw_800 : Cond.instanceMethod ⟨"NoteSheetModel", "count", "(I)I"⟩ ∈ ns_Tb := ns_in 800 (by decide +kernel) (by decide +kernel)
theorem nw_801 : Cond.selects "NoteSheetModel" ⟨"NoteSheetModel", "count", "(I)I"⟩ ⟨"NoteSheetModel", "count", "(I)I"⟩ ∈ ns_Tb := ns_in 801 (by decide +kernel) (by decide +kernel)
theorem nwd_72 : (ns_nm 72).cls ≠ "java/lang/invoke/MethodHandle" ∧ (ns_nm 72).cls ≠ "java/lang/invoke/VarHandle" ∧ (parseMethodDescriptor (ns_nm 72).desc).map (fun d => d.parameters.length) = some 1 := ⟨by decide +kernel, by decide +kernel, by decide +kernel⟩
theorem nw_799 : Cond.methodLink "NoteSheetLaw" 62 ⟨"NoteSheetModel", "count", "(I)I"⟩ ∈ ns_Tb := ns_in 799 (by decide +kernel) (by decide +kernel)
theorem ns_eC120 : ns_pC ((6, 62), (.inl 72, 1, 0, 0, 5, 1)) := ⟨fun y hy => by cases hy; exact ⟨ns_I_M_count, rfl, rfl, rfl, rfl, rfl, nw_802, nw_7, nw_799, nwd_72, fun h => absurd h (by decide), fun _ => ⟨nw_800, nw_801⟩, fun h => absurd h (by decide)⟩, fun z hz => by cases hz⟩
set_option maxRecDepth 20000 in
theorem ns_aC : ∀ q ∈ ns_lC, ns_pC q := List.forall_mem_cons.mpr ⟨ns_eC0, List.forall_mem_cons.mpr ⟨ns_eC1, List.forall_mem_cons.mpr ⟨ns_eC2, List.forall_mem_cons.mpr ⟨ns_eC3, List.forall_mem_cons.mpr ⟨ns_eC4, List.forall_mem_cons.mpr ⟨ns_eC5, List.forall_mem_cons.mpr ⟨ns_eC6, List.forall_mem_cons.mpr ⟨ns_eC7, List.forall_mem_cons.mpr ⟨ns_eC8, List.forall_mem_cons.mpr ⟨ns_eC9, List.forall_mem_cons.mpr ⟨ns_eC10, List.forall_mem_cons.mpr ⟨ns_eC11, List.forall_mem_cons.mpr ⟨ns_eC12, List.forall_mem_cons.mpr ⟨ns_eC13, List.forall_mem_cons.mpr ⟨ns_eC14, List.forall_mem_cons.mpr ⟨ns_eC15, List.forall_mem_cons.mpr ⟨ns_eC16, List.forall_mem_cons.mpr ⟨ns_eC17, List.forall_mem_cons.mpr ⟨ns_eC18, List.forall_mem_cons.mpr ⟨ns_eC19, List.forall_mem_cons.mpr ⟨ns_eC20, List.forall_mem_cons.mpr ⟨ns_eC21, List.forall_mem_cons.mpr ⟨ns_eC22, List.forall_mem_cons.mpr ⟨ns_eC23, List.forall_mem_cons.mpr ⟨ns_eC24, List.forall_mem_cons.mpr ⟨ns_eC25, List.forall_mem_cons.mpr ⟨ns_eC26, List.forall_mem_cons.mpr ⟨ns_eC27, List.forall_mem_cons.mpr ⟨ns_eC28, List.forall_mem_cons.mpr ⟨ns_eC29, List.forall_mem_cons.mpr ⟨ns_eC30, List.forall_mem_cons.mpr ⟨ns_eC31, List.forall_mem_cons.mpr ⟨ns_eC32, List.forall_mem_cons.mpr ⟨ns_eC33, List.forall_mem_cons.mpr ⟨ns_eC34, List.forall_mem_cons.mpr ⟨ns_eC35, List.forall_mem_cons.mpr ⟨ns_eC36, List.forall_mem_cons.mpr ⟨ns_eC37, List.forall_mem_cons.mpr ⟨ns_eC38, List.forall_mem_cons.mpr ⟨ns_eC39, List.forall_mem_cons.mpr ⟨ns_eC40, List.forall_mem_cons.mpr ⟨ns_eC41, List.forall_mem_cons.mpr ⟨ns_eC42, List.forall_mem_cons.mpr ⟨ns_eC43, List.forall_mem_cons.mpr ⟨ns_eC44, List.forall_mem_cons.mpr ⟨ns_eC45, List.forall_mem_cons.mpr ⟨ns_eC46, List.forall_mem_cons.mpr ⟨ns_eC47, List.forall_mem_cons.mpr ⟨ns_eC48, List.forall_mem_cons.mpr ⟨ns_eC49, List.forall_mem_cons.mpr ⟨ns_eC50, List.forall_mem_cons.mpr ⟨ns_eC51, List.forall_mem_cons.mpr ⟨ns_eC52, List.forall_mem_cons.mpr ⟨ns_eC53, List.forall_mem_cons.mpr ⟨ns_eC54, List.forall_mem_cons.mpr ⟨ns_eC55, List.forall_mem_cons.mpr ⟨ns_eC56, List.forall_mem_cons.mpr ⟨ns_eC57, List.forall_mem_cons.mpr ⟨ns_eC58, List.forall_mem_cons.mpr ⟨ns_eC59, List.forall_mem_cons.mpr ⟨ns_eC60, List.forall_mem_cons.mpr ⟨ns_eC61, List.forall_mem_cons.mpr ⟨ns_eC62, List.forall_mem_cons.mpr ⟨ns_eC63, List.forall_mem_cons.mpr ⟨ns_eC64, List.forall_mem_cons.mpr ⟨ns_eC65, List.forall_mem_cons.mpr ⟨ns_eC66, List.forall_mem_cons.mpr ⟨ns_eC67, List.forall_mem_cons.mpr ⟨ns_eC68, List.forall_mem_cons.mpr ⟨ns_eC69, List.forall_mem_cons.mpr ⟨ns_eC70, List.forall_mem_cons.mpr ⟨ns_eC71, List.forall_mem_cons.mpr ⟨ns_eC72, List.forall_mem_cons.mpr ⟨ns_eC73, List.forall_mem_cons.mpr ⟨ns_eC74, List.forall_mem_cons.mpr ⟨ns_eC75, List.forall_mem_cons.mpr ⟨ns_eC76, List.forall_mem_cons.mpr ⟨ns_eC77, List.forall_mem_cons.mpr ⟨ns_eC78, List.forall_mem_cons.mpr ⟨ns_eC79, List.forall_mem_cons.mpr ⟨ns_eC80, List.forall_mem_cons.mpr ⟨ns_eC81, List.forall_mem_cons.mpr ⟨ns_eC82, List.forall_mem_cons.mpr ⟨ns_eC83, List.forall_mem_cons.mpr ⟨ns_eC84, List.forall_mem_cons.mpr ⟨ns_eC85, List.forall_mem_cons.mpr ⟨ns_eC86, List.forall_mem_cons.mpr ⟨ns_eC87, List.forall_mem_cons.mpr ⟨ns_eC88, List.forall_mem_cons.mpr ⟨ns_eC89, List.forall_mem_cons.mpr ⟨ns_eC90, List.forall_mem_cons.mpr ⟨ns_eC91, List.forall_mem_cons.mpr ⟨ns_eC92, List.forall_mem_cons.mpr ⟨ns_eC93, List.forall_mem_cons.mpr ⟨ns_eC94, List.forall_mem_cons.mpr ⟨ns_eC95, List.forall_mem_cons.mpr ⟨ns_eC96, List.forall_mem_cons.mpr ⟨ns_eC97, List.forall_mem_cons.mpr ⟨ns_eC98, List.forall_mem_cons.mpr ⟨ns_eC99, List.forall_mem_cons.mpr ⟨ns_eC100, List.forall_mem_cons.mpr ⟨ns_eC101, List.forall_mem_cons.mpr ⟨ns_eC102, List.forall_mem_cons.mpr ⟨ns_eC103, List.forall_mem_cons.mpr ⟨ns_eC104, List.forall_mem_cons.mpr ⟨ns_eC105, List.forall_mem_cons.mpr ⟨ns_eC106, List.forall_mem_cons.mpr ⟨ns_eC107, List.forall_mem_cons.mpr ⟨ns_eC108, List.forall_mem_cons.mpr ⟨ns_eC109, List.forall_mem_cons.mpr ⟨ns_eC110, List.forall_mem_cons.mpr ⟨ns_eC111, List.forall_mem_cons.mpr ⟨ns_eC112, List.forall_mem_cons.mpr ⟨ns_eC113, List.forall_mem_cons.mpr ⟨ns_eC114, List.forall_mem_cons.mpr ⟨ns_eC115, List.forall_mem_cons.mpr ⟨ns_eC116, List.forall_mem_cons.mpr ⟨ns_eC117, List.forall_mem_cons.mpr ⟨ns_eC118, List.forall_mem_cons.mpr ⟨ns_eC119, List.forall_mem_cons.mpr ⟨ns_eC120, fun _ h => absurd h List.not_mem_nil⟩⟩⟩⟩⟩⟩⟩⟩⟩⟩⟩⟩⟩⟩⟩⟩⟩⟩⟩⟩⟩⟩⟩⟩⟩⟩⟩⟩⟩⟩⟩⟩⟩⟩⟩⟩⟩⟩⟩⟩⟩⟩⟩⟩⟩⟩⟩⟩⟩⟩⟩⟩⟩⟩⟩⟩⟩⟩⟩⟩⟩⟩⟩⟩⟩⟩⟩⟩⟩⟩⟩⟩⟩⟩⟩⟩⟩⟩⟩⟩⟩⟩⟩⟩⟩⟩⟩⟩⟩⟩⟩⟩⟩⟩⟩⟩⟩⟩⟩⟩⟩⟩⟩⟩⟩⟩⟩⟩⟩⟩⟩⟩⟩⟩⟩⟩⟩⟩⟩⟩⟩
theorem ns_okC : ax_okC ns_Tb ns_cn ns_nm ns_tb ns_mt := ⟨fun co idx y np mc ms ci kd h => (ns_aC ((co, idx), (.inl y, np, mc, ms, ci, kd)) (ns_find h)).1 y rfl, fun co idx q np mc ms ci kd h => (ns_aC ((co, idx), (.inr q, np, mc, ms, ci, kd)) (ns_find h)).2 q rfl⟩
theorem ns_okM : ax_okM ns_cn ns_nm ns_mt := by
  intro y I h
  unfold ns_mt at h
  split at h
  · cases h; exact ⟨by decide +kernel, rfl, fun _ => rfl, by decide⟩
  · cases h; exact ⟨by decide +kernel, rfl, fun h => absurd h (by decide), by decide⟩
  · cases h; exact ⟨by decide +kernel, rfl, fun h => absurd h (by decide), by decide⟩
  · cases h; exact ⟨by decide +kernel, rfl, fun h => absurd h (by decide), by decide⟩
  · cases h; exact ⟨by decide +kernel, rfl, fun h => absurd h (by decide), by decide⟩
  · cases h; exact ⟨by decide +kernel, rfl, fun h => absurd h (by decide), by decide⟩
  · cases h; exact ⟨by decide +kernel, rfl, fun h => absurd h (by decide), by decide⟩
  · cases h; exact ⟨by decide +kernel, rfl, fun h => absurd h (by decide), by decide⟩
  · cases h; exact ⟨by decide +kernel, rfl, fun h => absurd h (by decide), by decide⟩
  · cases h; exact ⟨by decide +kernel, rfl, fun h => absurd h (by decide), by decide⟩
  · cases h; exact ⟨by decide +kernel, rfl, fun h => absurd h (by decide), by decide⟩
  · cases h; exact ⟨by decide +kernel, rfl, fun h => absurd h (by decide), by decide⟩
  · cases h; exact ⟨by decide +kernel, rfl, fun h => absurd h (by decide), by decide⟩
  · cases h; exact ⟨by decide +kernel, rfl, fun h => absurd h (by decide), by decide⟩
  · cases h; exact ⟨by decide +kernel, rfl, fun h => absurd h (by decide), by decide⟩
  · cases h; exact ⟨by decide +kernel, rfl, fun h => absurd h (by decide), by decide⟩
  · cases h; exact ⟨by decide +kernel, rfl, fun h => absurd h (by decide), by decide⟩
  · cases h; exact ⟨by decide +kernel, rfl, fun h => absurd h (by decide), by decide⟩
  · cases h; exact ⟨by decide +kernel, rfl, fun h => absurd h (by decide), by decide⟩
  · cases h; exact ⟨by decide +kernel, rfl, fun h => absurd h (by decide), by decide⟩
  · cases h; exact ⟨by decide +kernel, rfl, fun h => absurd h (by decide), by decide⟩
  · cases h; exact ⟨by decide +kernel, rfl, fun h => absurd h (by decide), by decide⟩
  · cases h; exact ⟨by decide +kernel, rfl, fun h => absurd h (by decide), by decide⟩
  · cases h; exact ⟨by decide +kernel, rfl, fun h => absurd h (by decide), by decide⟩
  · cases h; exact ⟨by decide +kernel, rfl, fun h => absurd h (by decide), by decide⟩
  · cases h; exact ⟨by decide +kernel, rfl, fun h => absurd h (by decide), by decide⟩
  · cases h; exact ⟨by decide +kernel, rfl, fun h => absurd h (by decide), by decide⟩
  · cases h; exact ⟨by decide +kernel, rfl, fun h => absurd h (by decide), by decide⟩
  · cases h; exact ⟨by decide +kernel, rfl, fun h => absurd h (by decide), by decide⟩
  · cases h; exact ⟨by decide +kernel, rfl, fun h => absurd h (by decide), by decide⟩
  · cases h; exact ⟨by decide +kernel, rfl, fun _ => rfl, by decide⟩
  · cases h; exact ⟨by decide +kernel, rfl, fun h => absurd h (by decide), by decide⟩
  · cases h; exact ⟨by decide +kernel, rfl, fun h => absurd h (by decide), by decide⟩
  · cases h; exact ⟨by decide +kernel, rfl, fun h => absurd h (by decide), by decide⟩
  · cases h; exact ⟨by decide +kernel, rfl, fun h => absurd h (by decide), by decide⟩
  · cases h; exact ⟨by decide +kernel, rfl, fun h => absurd h (by decide), by decide⟩
  · cases h; exact ⟨by decide +kernel, rfl, fun h => absurd h (by decide), by decide⟩
  · cases h; exact ⟨by decide +kernel, rfl, fun h => absurd h (by decide), by decide⟩
  · cases h; exact ⟨by decide +kernel, rfl, fun h => absurd h (by decide), by decide⟩
  · cases h; exact ⟨by decide +kernel, rfl, fun h => absurd h (by decide), by decide⟩
  · cases h; exact ⟨by decide +kernel, rfl, fun h => absurd h (by decide), by decide⟩
  · cases h; exact ⟨by decide +kernel, rfl, fun h => absurd h (by decide), by decide⟩
  · cases h; exact ⟨by decide +kernel, rfl, fun h => absurd h (by decide), by decide⟩
  · cases h; exact ⟨by decide +kernel, rfl, fun h => absurd h (by decide), by decide⟩
  · cases h; exact ⟨by decide +kernel, rfl, fun h => absurd h (by decide), by decide⟩
  · cases h; exact ⟨by decide +kernel, rfl, fun h => absurd h (by decide), by decide⟩
  · cases h; exact ⟨by decide +kernel, rfl, fun h => absurd h (by decide), by decide⟩
  · cases h; exact ⟨by decide +kernel, rfl, fun h => absurd h (by decide), by decide⟩
  · cases h; exact ⟨by decide +kernel, rfl, fun h => absurd h (by decide), by decide⟩
  · cases h; exact ⟨by decide +kernel, rfl, fun h => absurd h (by decide), by decide⟩
  · cases h; exact ⟨by decide +kernel, rfl, fun h => absurd h (by decide), by decide⟩
  · cases h; exact ⟨by decide +kernel, rfl, fun h => absurd h (by decide), by decide⟩
  · cases h; exact ⟨by decide +kernel, rfl, fun h => absurd h (by decide), by decide⟩
  · cases h; exact ⟨by decide +kernel, rfl, fun h => absurd h (by decide), by decide⟩
  · cases h; exact ⟨by decide +kernel, rfl, fun h => absurd h (by decide), by decide⟩
  · cases h; exact ⟨by decide +kernel, rfl, fun h => absurd h (by decide), by decide⟩
  · cases h; exact ⟨by decide +kernel, rfl, fun h => absurd h (by decide), by decide⟩
  · cases h; exact ⟨by decide +kernel, rfl, fun h => absurd h (by decide), by decide⟩
  · cases h; exact ⟨by decide +kernel, rfl, fun h => absurd h (by decide), by decide⟩
  · cases h; exact ⟨by decide +kernel, rfl, fun h => absurd h (by decide), by decide⟩
  · cases h; exact ⟨by decide +kernel, rfl, fun h => absurd h (by decide), by decide⟩
  · cases h; exact ⟨by decide +kernel, rfl, fun h => absurd h (by decide), by decide⟩
  · cases h; exact ⟨by decide +kernel, rfl, fun h => absurd h (by decide), by decide⟩
  · cases h; exact ⟨by decide +kernel, rfl, fun h => absurd h (by decide), by decide⟩
  · cases h; exact ⟨by decide +kernel, rfl, fun h => absurd h (by decide), by decide⟩
  · cases h; exact ⟨by decide +kernel, rfl, fun h => absurd h (by decide), by decide⟩
  · cases h; exact ⟨by decide +kernel, rfl, fun h => absurd h (by decide), by decide⟩
  · cases h; exact ⟨by decide +kernel, rfl, fun h => absurd h (by decide), by decide⟩
  · cases h; exact ⟨by decide +kernel, rfl, fun h => absurd h (by decide), by decide⟩
  · cases h; exact ⟨by decide +kernel, rfl, fun h => absurd h (by decide), by decide⟩
  · cases h; exact ⟨by decide +kernel, rfl, fun h => absurd h (by decide), by decide⟩
  · cases h; exact ⟨by decide +kernel, rfl, fun h => absurd h (by decide), by decide⟩
  · cases h; exact ⟨by decide +kernel, rfl, fun h => absurd h (by decide), by decide⟩
  · cases h; exact ⟨by decide +kernel, rfl, fun _ => rfl, by decide⟩
  · cases h; exact ⟨by decide +kernel, rfl, fun h => absurd h (by decide), by decide⟩
  · cases h; exact ⟨by decide +kernel, rfl, fun h => absurd h (by decide), by decide⟩
  · cases h; exact ⟨by decide +kernel, rfl, fun h => absurd h (by decide), by decide⟩
  · cases h; exact ⟨by decide +kernel, rfl, fun _ => rfl, by decide⟩
  · cases h; exact ⟨by decide +kernel, rfl, fun h => absurd h (by decide), by decide⟩
  · cases h; exact ⟨by decide +kernel, rfl, fun h => absurd h (by decide), by decide⟩
  · cases h; exact ⟨by decide +kernel, rfl, fun h => absurd h (by decide), by decide⟩
  · cases h; exact ⟨by decide +kernel, rfl, fun h => absurd h (by decide), by decide⟩
  · cases h; exact ⟨by decide +kernel, rfl, fun h => absurd h (by decide), by decide⟩
  · cases h; exact ⟨by decide +kernel, rfl, fun h => absurd h (by decide), by decide⟩
  · cases h; exact ⟨by decide +kernel, rfl, fun h => absurd h (by decide), by decide⟩
  · cases h; exact ⟨by decide +kernel, rfl, fun h => absurd h (by decide), by decide⟩
  · cases h; exact ⟨by decide +kernel, rfl, fun h => absurd h (by decide), by decide⟩
  · cases h; exact ⟨by decide +kernel, rfl, fun h => absurd h (by decide), by decide⟩
  · cases h; exact ⟨by decide +kernel, rfl, fun _ => rfl, by decide⟩
  · cases h; exact ⟨by decide +kernel, rfl, fun h => absurd h (by decide), by decide⟩
  · cases h; exact ⟨by decide +kernel, rfl, fun h => absurd h (by decide), by decide⟩
  · cases h; exact ⟨by decide +kernel, rfl, fun h => absurd h (by decide), by decide⟩
  · cases h; exact ⟨by decide +kernel, rfl, fun h => absurd h (by decide), by decide⟩
  · cases h; exact ⟨by decide +kernel, rfl, fun _ => rfl, by decide⟩
  · cases h; exact ⟨by decide +kernel, rfl, fun h => absurd h (by decide), by decide⟩
  · cases h; exact ⟨by decide +kernel, rfl, fun h => absurd h (by decide), by decide⟩
  · cases h; exact ⟨by decide +kernel, rfl, fun h => absurd h (by decide), by decide⟩
  · cases h; exact ⟨by decide +kernel, rfl, fun h => absurd h (by decide), by decide⟩
  · cases h; exact ⟨by decide +kernel, rfl, fun h => absurd h (by decide), by decide⟩
  · cases h; exact ⟨by decide +kernel, rfl, fun h => absurd h (by decide), by decide⟩
  · cases h; exact ⟨by decide +kernel, rfl, fun h => absurd h (by decide), by decide⟩
  · cases h; exact ⟨by decide +kernel, rfl, fun h => absurd h (by decide), by decide⟩
  · cases h; exact ⟨by decide +kernel, rfl, fun h => absurd h (by decide), by decide⟩
  · cases h; exact ⟨by decide +kernel, rfl, fun h => absurd h (by decide), by decide⟩
  · cases h; exact ⟨by decide +kernel, rfl, fun h => absurd h (by decide), by decide⟩
  · cases h; exact ⟨by decide +kernel, rfl, fun h => absurd h (by decide), by decide⟩
  · cases h; exact ⟨by decide +kernel, rfl, fun h => absurd h (by decide), by decide⟩
  · cases h
def ns_pN (q : (Nat × Nat) × (Nat × List Value × String)) : Prop := ∃ (T : u_T) (N : Nat) (t0 : Nat → FieldType), ns_cl[q.2.1]? = some (q.2.2.2, T, N) ∧ (∀ w ∈ u_ws q.2.2.2 T N, w ∈ ns_Tb) ∧ (∀ k, k < N → parseFieldDescriptor (T k).2.2.1 = some (t0 k)) ∧ q.2.2.1.length = N ∧ (∀ j, j < N → defaultValue (t0 j) = vp_V q.2.2.1 j) ∧ (∀ v ∈ q.2.2.1, ax_nr v = true) ∧ Cond.classLink (ns_cn q.1.1) q.1.2 q.2.2.2 ∈ ns_Tb ∧ Cond.instantiable q.2.2.2 N ∈ ns_Tb ∧ Cond.initialized q.2.2.2 ∈ ns_Tb
theorem nw_28 : Cond.classLink "NoteSheet" 22 "NoteSheet$Cell" ∈ ns_Tb := ns_in 28 (by decide +kernel) (by decide +kernel)
theorem nw_30 : Cond.instantiable "NoteSheet$Cell" 11 ∈ ns_Tb := ns_in 30 (by decide +kernel) (by decide +kernel)
theorem ns_eN0 : ns_pN ((0, 22), (1, [.null, .null, .null, .null, .int 0, .int 0, .int 0, .int 0, .int 0, .int 0, .int 0], "NoteSheet$Cell")) := ⟨ns_T1, 11, ns_t1, rfl, ns_w1, ns_t1_ok, rfl, by decide +kernel, by decide +kernel, nw_28, nw_30, nw_3⟩
theorem nw_142 : Cond.classLink "NoteSheet" 36 "NoteSheet$Formula" ∈ ns_Tb := ns_in 142 (by decide +kernel) (by decide +kernel)
theorem nw_36 : Cond.instantiable "NoteSheet$Formula" 4 ∈ ns_Tb := ns_in 36 (by decide +kernel) (by decide +kernel)
theorem ns_eN1 : ns_pN ((0, 36), (2, [.null, .null, .int 0, .int 0], "NoteSheet$Formula")) := ⟨ns_T2, 4, ns_t2, rfl, ns_w2, ns_t2_ok, rfl, by decide +kernel, by decide +kernel, nw_142, nw_36, nw_4⟩
theorem nw_144 : Cond.classLink "NoteSheet" 43 "NoteSheet$Parser" ∈ ns_Tb := ns_in 144 (by decide +kernel) (by decide +kernel)
theorem nw_145 : Cond.instantiable "NoteSheet$Parser" 2 ∈ ns_Tb := ns_in 145 (by decide +kernel) (by decide +kernel)
theorem ns_eN2 : ns_pN ((0, 43), (4, [.null, .int 0], "NoteSheet$Parser")) := ⟨ns_T4, 2, ns_t4, rfl, ns_w4, ns_t4_ok, rfl, by decide +kernel, by decide +kernel, nw_144, nw_145, nw_6⟩
theorem nw_35 : Cond.classLink "NoteSheet$Cell" 9 "NoteSheet$Formula" ∈ ns_Tb := ns_in 35 (by decide +kernel) (by decide +kernel)
theorem ns_eN3 : ns_pN ((1, 9), (2, [.null, .null, .int 0, .int 0], "NoteSheet$Formula")) := ⟨ns_T2, 4, ns_t2, rfl, ns_w2, ns_t2_ok, rfl, by decide +kernel, by decide +kernel, nw_35, nw_36, nw_4⟩
theorem nw_61 : Cond.classLink "NoteSheet$Cell" 18 "NoteSheet$Note" ∈ ns_Tb := ns_in 61 (by decide +kernel) (by decide +kernel)
theorem nw_62 : Cond.instantiable "NoteSheet$Note" 8 ∈ ns_Tb := ns_in 62 (by decide +kernel) (by decide +kernel)
theorem ns_eN4 : ns_pN ((1, 18), (3, [.null, .int 0, .int 0, .int 0, .long 0, .int 0, .int 0, .int 0], "NoteSheet$Note")) := ⟨ns_T3, 8, ns_t3, rfl, ns_w3, ns_t3_ok, rfl, by decide +kernel, by decide +kernel, nw_61, nw_62, nw_5⟩
theorem nw_14 : Cond.classLink "NoteSheetLaw" 7 "NoteSheet" ∈ ns_Tb := ns_in 14 (by decide +kernel) (by decide +kernel)
theorem nw_15 : Cond.instantiable "NoteSheet" 8 ∈ ns_Tb := ns_in 15 (by decide +kernel) (by decide +kernel)
theorem ns_eN5 : ns_pN ((6, 7), (0, [.null, .null, .null, .null, .null, .int 0, .int 0, .int 0], "NoteSheet")) := ⟨ns_T0, 8, ns_t0, rfl, ns_w0, ns_t0_ok, rfl, by decide +kernel, by decide +kernel, nw_14, nw_15, nw_1⟩
theorem nw_499 : Cond.classLink "NoteSheetLaw" 18 "NoteSheetModel" ∈ ns_Tb := ns_in 499 (by decide +kernel) (by decide +kernel)
theorem nw_500 : Cond.instantiable "NoteSheetModel" 43 ∈ ns_Tb := ns_in 500 (by decide +kernel) (by decide +kernel)
theorem ns_eN6 : ns_pN ((6, 18), (5, [.int 0, .null, .int 0, .int 0, .null, .null, .null, .null, .null, .null, .null, .null, .null, .null, .null, .null, .null, .null, .null, .null, .null, .null, .null, .null, .int 0, .null, .null, .int 0, .null, .null, .null, .null, .null, .null, .null, .null, .null, .int 0, .null, .null, .int 0, .null, .null], "NoteSheetModel")) := ⟨ns_T5, 43, ns_t5, rfl, ns_w5, ns_t5_ok, rfl, by decide +kernel, by decide +kernel, nw_499, nw_500, nw_7⟩
set_option maxRecDepth 20000 in
theorem ns_aN : ∀ q ∈ ns_lN, ns_pN q := List.forall_mem_cons.mpr ⟨ns_eN0, List.forall_mem_cons.mpr ⟨ns_eN1, List.forall_mem_cons.mpr ⟨ns_eN2, List.forall_mem_cons.mpr ⟨ns_eN3, List.forall_mem_cons.mpr ⟨ns_eN4, List.forall_mem_cons.mpr ⟨ns_eN5, List.forall_mem_cons.mpr ⟨ns_eN6, fun _ h => absurd h List.not_mem_nil⟩⟩⟩⟩⟩⟩⟩
theorem ns_okN {G : State → Prop} (h : ∀ s, G s → va_AO "NoteSheet$Cell" s) : ax_okN ns_cl ns_Tb ns_cn ns_tb G := ⟨fun co idx ci fs C q => ns_aN ((co, idx), (ci, fs, C)) (ns_find q), h⟩
def ns_pK (q : (Nat × Nat) × Value) : Prop := (∀ x, q.2 = .int x → Cond.constant (ns_cn q.1.1) q.1.2 x ∈ ns_Tb) ∧ (∀ x, q.2 = .long x → Cond.constantLong (ns_cn q.1.1) q.1.2 x ∈ ns_Tb) ∧ (q.2 = .retAddr 1 → q.1 = (2, 26))
theorem nw_386 : Cond.constantLong "NoteSheet" 98 (-1) ∈ ns_Tb := ns_in 386 (by decide +kernel) (by decide +kernel)
theorem ns_eK0 : ns_pK ((0, 98), (.long (-1))) := ⟨fun _ h => by (cases h), fun _ h => by cases h; exact nw_386, fun h => by (cases h)⟩
theorem nw_451 : Cond.constantLong "NoteSheet" 231 (1099511627776) ∈ ns_Tb := ns_in 451 (by decide +kernel) (by decide +kernel)
theorem ns_eK1 : ns_pK ((0, 231), (.long 1099511627776)) := ⟨fun _ h => by (cases h), fun _ h => by cases h; exact nw_451, fun h => by (cases h)⟩
theorem ns_eK2 : ns_pK ((2, 26), (.retAddr 1)) := ⟨fun _ h => by (cases h), fun _ h => by (cases h), fun _ => rfl⟩
theorem nw_766 : Cond.constantLong "NoteSheetModel" 246 (1099511627776) ∈ ns_Tb := ns_in 766 (by decide +kernel) (by decide +kernel)
theorem ns_eK3 : ns_pK ((5, 246), (.long 1099511627776)) := ⟨fun _ h => by (cases h), fun _ h => by cases h; exact nw_766, fun h => by (cases h)⟩
theorem nw_713 : Cond.constantLong "NoteSheetModel" 248 (-1) ∈ ns_Tb := ns_in 713 (by decide +kernel) (by decide +kernel)
theorem ns_eK4 : ns_pK ((5, 248), (.long (-1))) := ⟨fun _ h => by (cases h), fun _ h => by cases h; exact nw_713, fun h => by (cases h)⟩
set_option maxRecDepth 20000 in
theorem ns_aK : ∀ q ∈ ns_lK, ns_pK q := List.forall_mem_cons.mpr ⟨ns_eK0, List.forall_mem_cons.mpr ⟨ns_eK1, List.forall_mem_cons.mpr ⟨ns_eK2, List.forall_mem_cons.mpr ⟨ns_eK3, List.forall_mem_cons.mpr ⟨ns_eK4, fun _ h => absurd h List.not_mem_nil⟩⟩⟩⟩⟩
theorem ns_okK {rc : Nat → Nat} {G : State → Prop} (h : ∀ s, G s → vk_R "NoteSheet$Formula" 26 "?:<=+-*()@" (rc 1) s) : ax_okK ns_Tb ns_cn ns_tb rc G := fun co idx => ⟨fun x q => (ns_aK ((co, idx), .int x) (ns_find q)).1 x rfl, fun x q => (ns_aK ((co, idx), .long x) (ns_find q)).2.1 x rfl, fun q => by
  have e := (ns_aK ((co, idx), .retAddr 1) (ns_find q)).2.2 rfl
  cases e
  exact ⟨_, h⟩⟩
theorem nw_60 : Cond.arrayClass .int ∈ ns_Tb := ns_in 60 (by decide +kernel) (by decide +kernel)
theorem nw_59 : Cond.arrayClass .char ∈ ns_Tb := ns_in 59 (by decide +kernel) (by decide +kernel)
theorem nw_635 : Cond.arrayClass .boolean ∈ ns_Tb := ns_in 635 (by decide +kernel) (by decide +kernel)
theorem nw_636 : Cond.arrayClass .long ∈ ns_Tb := ns_in 636 (by decide +kernel) (by decide +kernel)
theorem ns_hcn : ∀ (ci : Nat) (r : vw_C), ns_cl[ci]? = some r → r.1 = ns_cn ci := by
  intro ci r h
  rcases ci with _ | _ | _ | _ | _ | _ | ci
  · cases h; rfl
  · cases h; rfl
  · cases h; rfl
  · cases h; rfl
  · cases h; rfl
  · cases h; rfl
  · cases h
end
section
theorem nd_C_init_0 : decode prog_2_method_1_code 0 = .ok (.aload_n 0, 1) := by decide +kernel
theorem nd_C_init_1 : decode prog_2_method_1_code 1 = .ok (.invokespecial 3, 3) := by decide +kernel
theorem nd_C_init_4 : decode prog_2_method_1_code 4 = .ok (.aload_n 0, 1) := by decide +kernel
theorem nd_C_init_5 : decode prog_2_method_1_code 5 = .ok (.new 9, 3) := by decide +kernel
theorem nd_C_init_8 : decode prog_2_method_1_code 8 = .ok (.dup, 1) := by decide +kernel
theorem nd_C_init_9 : decode prog_2_method_1_code 9 = .ok (.invokespecial 11, 3) := by decide +kernel
theorem nd_C_init_12 : decode prog_2_method_1_code 12 = .ok (.putfield 12, 3) := by decide +kernel
theorem nd_C_init_15 : decode prog_2_method_1_code 15 = .ok (.aload_n 0, 1) := by decide +kernel
theorem nd_C_init_16 : decode prog_2_method_1_code 16 = .ok (.new 18, 3) := by decide +kernel
theorem nd_C_init_19 : decode prog_2_method_1_code 19 = .ok (.dup, 1) := by decide +kernel
theorem nd_C_init_20 : decode prog_2_method_1_code 20 = .ok (.invokespecial 20, 3) := by decide +kernel
theorem nd_C_init_23 : decode prog_2_method_1_code 23 = .ok (.putfield 21, 3) := by decide +kernel
theorem nd_C_init_26 : decode prog_2_method_1_code 26 = .ok (.aload_n 0, 1) := by decide +kernel
theorem nd_C_init_27 : decode prog_2_method_1_code 27 = .ok (.iconst 3, 1) := by decide +kernel
theorem nd_C_init_28 : decode prog_2_method_1_code 28 = .ok (.newarray .int, 2) := by decide +kernel
theorem nd_C_init_30 : decode prog_2_method_1_code 30 = .ok (.putfield 25, 3) := by decide +kernel
theorem nd_C_init_33 : decode prog_2_method_1_code 33 = .ok (.aload_n 0, 1) := by decide +kernel
theorem nd_C_init_34 : decode prog_2_method_1_code 34 = .ok (.bipush 30, 2) := by decide +kernel
theorem nd_C_init_36 : decode prog_2_method_1_code 36 = .ok (.newarray .int, 2) := by decide +kernel
theorem nd_C_init_38 : decode prog_2_method_1_code 38 = .ok (.putfield 29, 3) := by decide +kernel
theorem nd_C_init_41 : decode prog_2_method_1_code 41 = .ok (.return_, 1) := by decide +kernel
theorem nd_C_ownDurability_0 : decode prog_2_method_2_code 0 = .ok (.aload_n 0, 1) := by decide +kernel
theorem nd_C_ownDurability_1 : decode prog_2_method_2_code 1 = .ok (.getfield 32, 3) := by decide +kernel
theorem nd_C_ownDurability_4 : decode prog_2_method_2_code 4 = .ok (.ifCond .eq 7, 3) := by decide +kernel
theorem nd_C_ownDurability_7 : decode prog_2_method_2_code 7 = .ok (.iconst 2, 1) := by decide +kernel
theorem nd_C_ownDurability_8 : decode prog_2_method_2_code 8 = .ok (.goto 7, 3) := by decide +kernel
theorem nd_C_ownDurability_11 : decode prog_2_method_2_code 11 = .ok (.aload_n 0, 1) := by decide +kernel
theorem nd_C_ownDurability_12 : decode prog_2_method_2_code 12 = .ok (.getfield 36, 3) := by decide +kernel
theorem nd_C_ownDurability_15 : decode prog_2_method_2_code 15 = .ok (.ireturn, 1) := by decide +kernel
theorem nd_C_givenDurability_0 : decode prog_2_method_3_code 0 = .ok (.aload_n 0, 1) := by decide +kernel
theorem nd_C_givenDurability_1 : decode prog_2_method_3_code 1 = .ok (.getfield 32, 3) := by decide +kernel
theorem nd_C_givenDurability_4 : decode prog_2_method_3_code 4 = .ok (.ifCond .eq 13, 3) := by decide +kernel
theorem nd_C_givenDurability_7 : decode prog_2_method_3_code 7 = .ok (.aload_n 0, 1) := by decide +kernel
theorem nd_C_givenDurability_8 : decode prog_2_method_3_code 8 = .ok (.getfield 21, 3) := by decide +kernel
theorem nd_C_givenDurability_11 : decode prog_2_method_3_code 11 = .ok (.getfield 40, 3) := by decide +kernel
theorem nd_C_givenDurability_14 : decode prog_2_method_3_code 14 = .ok (.goto 7, 3) := by decide +kernel
theorem nd_C_givenDurability_17 : decode prog_2_method_3_code 17 = .ok (.aload_n 0, 1) := by decide +kernel
theorem nd_C_givenDurability_18 : decode prog_2_method_3_code 18 = .ok (.getfield 36, 3) := by decide +kernel
theorem nd_C_givenDurability_21 : decode prog_2_method_3_code 21 = .ok (.ireturn, 1) := by decide +kernel
theorem nd_C_unchangedSince_0 : decode prog_2_method_4_code 0 = .ok (.aload_n 0, 1) := by decide +kernel
theorem nd_C_unchangedSince_1 : decode prog_2_method_4_code 1 = .ok (.getfield 32, 3) := by decide +kernel
theorem nd_C_unchangedSince_4 : decode prog_2_method_4_code 4 = .ok (.ifCond .eq 13, 3) := by decide +kernel
theorem nd_C_unchangedSince_7 : decode prog_2_method_4_code 7 = .ok (.aload_n 0, 1) := by decide +kernel
theorem nd_C_unchangedSince_8 : decode prog_2_method_4_code 8 = .ok (.getfield 21, 3) := by decide +kernel
theorem nd_C_unchangedSince_11 : decode prog_2_method_4_code 11 = .ok (.getfield 41, 3) := by decide +kernel
theorem nd_C_unchangedSince_14 : decode prog_2_method_4_code 14 = .ok (.goto 7, 3) := by decide +kernel
theorem nd_C_unchangedSince_17 : decode prog_2_method_4_code 17 = .ok (.aload_n 0, 1) := by decide +kernel
theorem nd_C_unchangedSince_18 : decode prog_2_method_4_code 18 = .ok (.getfield 44, 3) := by decide +kernel
theorem nd_C_unchangedSince_21 : decode prog_2_method_4_code 21 = .ok (.ireturn, 1) := by decide +kernel
theorem nd_F_init_0 : decode prog_3_method_1_code 0 = .ok (.aload_n 0, 1) := by decide +kernel
theorem nd_F_init_1 : decode prog_3_method_1_code 1 = .ok (.invokespecial 3, 3) := by decide +kernel
theorem nd_F_init_4 : decode prog_3_method_1_code 4 = .ok (.aload_n 0, 1) := by decide +kernel
theorem nd_F_init_5 : decode prog_3_method_1_code 5 = .ok (.bipush 30, 2) := by decide +kernel
theorem nd_F_init_7 : decode prog_3_method_1_code 7 = .ok (.newarray .char, 2) := by decide +kernel
theorem nd_F_init_9 : decode prog_3_method_1_code 9 = .ok (.putfield 9, 3) := by decide +kernel
theorem nd_F_init_12 : decode prog_3_method_1_code 12 = .ok (.aload_n 0, 1) := by decide +kernel
theorem nd_F_init_13 : decode prog_3_method_1_code 13 = .ok (.bipush 30, 2) := by decide +kernel
theorem nd_F_init_15 : decode prog_3_method_1_code 15 = .ok (.newarray .int, 2) := by decide +kernel
theorem nd_F_init_17 : decode prog_3_method_1_code 17 = .ok (.putfield 15, 3) := by decide +kernel
theorem nd_F_init_20 : decode prog_3_method_1_code 20 = .ok (.return_, 1) := by decide +kernel
theorem nd_F_isLetter_0 : decode prog_3_method_2_code 0 = .ok (.iload_n 0, 1) := by decide +kernel
theorem nd_F_isLetter_1 : decode prog_3_method_2_code 1 = .ok (.bipush 65, 2) := by decide +kernel
theorem nd_F_isLetter_3 : decode prog_3_method_2_code 3 = .ok (.if_icmp .lt 13, 3) := by decide +kernel
theorem nd_F_isLetter_6 : decode prog_3_method_2_code 6 = .ok (.iload_n 0, 1) := by decide +kernel
theorem nd_F_isLetter_7 : decode prog_3_method_2_code 7 = .ok (.bipush 77, 2) := by decide +kernel
theorem nd_F_isLetter_9 : decode prog_3_method_2_code 9 = .ok (.if_icmp .ge 7, 3) := by decide +kernel
theorem nd_F_isLetter_12 : decode prog_3_method_2_code 12 = .ok (.iconst 1, 1) := by decide +kernel
theorem nd_F_isLetter_13 : decode prog_3_method_2_code 13 = .ok (.goto 4, 3) := by decide +kernel
theorem nd_F_isLetter_16 : decode prog_3_method_2_code 16 = .ok (.iconst 0, 1) := by decide +kernel
theorem nd_F_isLetter_17 : decode prog_3_method_2_code 17 = .ok (.ireturn, 1) := by decide +kernel
theorem nd_F_isDigit_0 : decode prog_3_method_3_code 0 = .ok (.iload_n 0, 1) := by decide +kernel
theorem nd_F_isDigit_1 : decode prog_3_method_3_code 1 = .ok (.bipush 48, 2) := by decide +kernel
theorem nd_F_isDigit_3 : decode prog_3_method_3_code 3 = .ok (.if_icmp .lt 13, 3) := by decide +kernel
theorem nd_F_isDigit_6 : decode prog_3_method_3_code 6 = .ok (.iload_n 0, 1) := by decide +kernel
theorem nd_F_isDigit_7 : decode prog_3_method_3_code 7 = .ok (.bipush 57, 2) := by decide +kernel
theorem nd_F_isDigit_9 : decode prog_3_method_3_code 9 = .ok (.if_icmp .gt 7, 3) := by decide +kernel
theorem nd_F_isDigit_12 : decode prog_3_method_3_code 12 = .ok (.iconst 1, 1) := by decide +kernel
theorem nd_F_isDigit_13 : decode prog_3_method_3_code 13 = .ok (.goto 4, 3) := by decide +kernel
theorem nd_F_isDigit_16 : decode prog_3_method_3_code 16 = .ok (.iconst 0, 1) := by decide +kernel
theorem nd_F_isDigit_17 : decode prog_3_method_3_code 17 = .ok (.ireturn, 1) := by decide +kernel
theorem nd_F_mayHold_0 : decode prog_3_method_4_code 0 = .ok (.iload_n 0, 1) := by decide +kernel
theorem nd_F_mayHold_1 : decode prog_3_method_4_code 1 = .ok (.invokestatic 19, 3) := by decide +kernel
theorem nd_F_mayHold_4 : decode prog_3_method_4_code 4 = .ok (.ifCond .ne 19, 3) := by decide +kernel
theorem nd_F_mayHold_7 : decode prog_3_method_4_code 7 = .ok (.iload_n 0, 1) := by decide +kernel
theorem nd_F_mayHold_8 : decode prog_3_method_4_code 8 = .ok (.invokestatic 23, 3) := by decide +kernel
theorem nd_F_mayHold_11 : decode prog_3_method_4_code 11 = .ok (.ifCond .ne 12, 3) := by decide +kernel
theorem nd_F_mayHold_14 : decode prog_3_method_4_code 14 = .ok (.ldc 26, 2) := by decide +kernel
theorem nd_F_mayHold_16 : decode prog_3_method_4_code 16 = .ok (.iload_n 0, 1) := by decide +kernel
theorem nd_F_mayHold_17 : decode prog_3_method_4_code 17 = .ok (.invokevirtual 28, 3) := by decide +kernel
theorem nd_F_mayHold_20 : decode prog_3_method_4_code 20 = .ok (.ifCond .lt 7, 3) := by decide +kernel
theorem nd_F_mayHold_23 : decode prog_3_method_4_code 23 = .ok (.iconst 1, 1) := by decide +kernel
theorem nd_F_mayHold_24 : decode prog_3_method_4_code 24 = .ok (.goto 4, 3) := by decide +kernel
theorem nd_F_mayHold_27 : decode prog_3_method_4_code 27 = .ok (.iconst 0, 1) := by decide +kernel
theorem nd_F_mayHold_28 : decode prog_3_method_4_code 28 = .ok (.ireturn, 1) := by decide +kernel
theorem nd_F_append_0 : decode prog_3_method_5_code 0 = .ok (.aload_n 0, 1) := by decide +kernel
theorem nd_F_append_1 : decode prog_3_method_5_code 1 = .ok (.getfield 34, 3) := by decide +kernel
theorem nd_F_append_4 : decode prog_3_method_5_code 4 = .ok (.bipush 30, 2) := by decide +kernel
theorem nd_F_append_6 : decode prog_3_method_5_code 6 = .ok (.if_icmp .lt 5, 3) := by decide +kernel
theorem nd_F_append_9 : decode prog_3_method_5_code 9 = .ok (.iconst 0, 1) := by decide +kernel
theorem nd_F_append_10 : decode prog_3_method_5_code 10 = .ok (.ireturn, 1) := by decide +kernel
theorem nd_F_append_11 : decode prog_3_method_5_code 11 = .ok (.aload_n 0, 1) := by decide +kernel
theorem nd_F_append_12 : decode prog_3_method_5_code 12 = .ok (.getfield 9, 3) := by decide +kernel
theorem nd_F_append_15 : decode prog_3_method_5_code 15 = .ok (.aload_n 0, 1) := by decide +kernel
theorem nd_F_append_16 : decode prog_3_method_5_code 16 = .ok (.getfield 34, 3) := by decide +kernel
theorem nd_F_append_19 : decode prog_3_method_5_code 19 = .ok (.iload_n 1, 1) := by decide +kernel
theorem nd_F_append_20 : decode prog_3_method_5_code 20 = .ok (.castore, 1) := by decide +kernel
theorem nd_F_append_21 : decode prog_3_method_5_code 21 = .ok (.aload_n 0, 1) := by decide +kernel
theorem nd_F_append_22 : decode prog_3_method_5_code 22 = .ok (.dup, 1) := by decide +kernel
theorem nd_F_append_23 : decode prog_3_method_5_code 23 = .ok (.getfield 34, 3) := by decide +kernel
theorem nd_F_append_26 : decode prog_3_method_5_code 26 = .ok (.iconst 1, 1) := by decide +kernel
theorem nd_F_append_27 : decode prog_3_method_5_code 27 = .ok (.iadd, 1) := by decide +kernel
theorem nd_F_append_28 : decode prog_3_method_5_code 28 = .ok (.putfield 34, 3) := by decide +kernel
theorem nd_F_append_31 : decode prog_3_method_5_code 31 = .ok (.iconst 1, 1) := by decide +kernel
theorem nd_F_append_32 : decode prog_3_method_5_code 32 = .ok (.ireturn, 1) := by decide +kernel
theorem nd_F_addStep_0 : decode prog_3_method_6_code 0 = .ok (.aload_n 0, 1) := by decide +kernel
theorem nd_F_addStep_1 : decode prog_3_method_6_code 1 = .ok (.getfield 38, 3) := by decide +kernel
theorem nd_F_addStep_4 : decode prog_3_method_6_code 4 = .ok (.bipush 30, 2) := by decide +kernel
theorem nd_F_addStep_6 : decode prog_3_method_6_code 6 = .ok (.if_icmp .ge 29, 3) := by decide +kernel
theorem nd_F_addStep_9 : decode prog_3_method_6_code 9 = .ok (.aload_n 0, 1) := by decide +kernel
theorem nd_F_addStep_10 : decode prog_3_method_6_code 10 = .ok (.getfield 15, 3) := by decide +kernel
theorem nd_F_addStep_13 : decode prog_3_method_6_code 13 = .ok (.aload_n 0, 1) := by decide +kernel
theorem nd_F_addStep_14 : decode prog_3_method_6_code 14 = .ok (.getfield 38, 3) := by decide +kernel
theorem nd_F_addStep_17 : decode prog_3_method_6_code 17 = .ok (.iload_n 1, 1) := by decide +kernel
theorem nd_F_addStep_18 : decode prog_3_method_6_code 18 = .ok (.sipush 10000, 3) := by decide +kernel
theorem nd_F_addStep_21 : decode prog_3_method_6_code 21 = .ok (.imul, 1) := by decide +kernel
theorem nd_F_addStep_22 : decode prog_3_method_6_code 22 = .ok (.iload_n 2, 1) := by decide +kernel
theorem nd_F_addStep_23 : decode prog_3_method_6_code 23 = .ok (.iadd, 1) := by decide +kernel
theorem nd_F_addStep_24 : decode prog_3_method_6_code 24 = .ok (.iastore, 1) := by decide +kernel
theorem nd_F_addStep_25 : decode prog_3_method_6_code 25 = .ok (.aload_n 0, 1) := by decide +kernel
theorem nd_F_addStep_26 : decode prog_3_method_6_code 26 = .ok (.dup, 1) := by decide +kernel
theorem nd_F_addStep_27 : decode prog_3_method_6_code 27 = .ok (.getfield 38, 3) := by decide +kernel
theorem nd_F_addStep_30 : decode prog_3_method_6_code 30 = .ok (.iconst 1, 1) := by decide +kernel
theorem nd_F_addStep_31 : decode prog_3_method_6_code 31 = .ok (.iadd, 1) := by decide +kernel
theorem nd_F_addStep_32 : decode prog_3_method_6_code 32 = .ok (.putfield 38, 3) := by decide +kernel
theorem nd_F_addStep_35 : decode prog_3_method_6_code 35 = .ok (.aload_n 0, 1) := by decide +kernel
theorem nd_F_addStep_36 : decode prog_3_method_6_code 36 = .ok (.getfield 38, 3) := by decide +kernel
theorem nd_F_addStep_39 : decode prog_3_method_6_code 39 = .ok (.iconst 1, 1) := by decide +kernel
theorem nd_F_addStep_40 : decode prog_3_method_6_code 40 = .ok (.isub, 1) := by decide +kernel
theorem nd_F_addStep_41 : decode prog_3_method_6_code 41 = .ok (.ireturn, 1) := by decide +kernel
theorem nd_F_jumpToEnd_0 : decode prog_3_method_7_code 0 = .ok (.aload_n 0, 1) := by decide +kernel
theorem nd_F_jumpToEnd_1 : decode prog_3_method_7_code 1 = .ok (.getfield 15, 3) := by decide +kernel
theorem nd_F_jumpToEnd_4 : decode prog_3_method_7_code 4 = .ok (.iload_n 1, 1) := by decide +kernel
theorem nd_F_jumpToEnd_5 : decode prog_3_method_7_code 5 = .ok (.aload_n 0, 1) := by decide +kernel
theorem nd_F_jumpToEnd_6 : decode prog_3_method_7_code 6 = .ok (.iload_n 1, 1) := by decide +kernel
theorem nd_F_jumpToEnd_7 : decode prog_3_method_7_code 7 = .ok (.invokevirtual 41, 3) := by decide +kernel
theorem nd_F_jumpToEnd_10 : decode prog_3_method_7_code 10 = .ok (.sipush 10000, 3) := by decide +kernel
theorem nd_F_jumpToEnd_13 : decode prog_3_method_7_code 13 = .ok (.imul, 1) := by decide +kernel
theorem nd_F_jumpToEnd_14 : decode prog_3_method_7_code 14 = .ok (.aload_n 0, 1) := by decide +kernel
theorem nd_F_jumpToEnd_15 : decode prog_3_method_7_code 15 = .ok (.getfield 38, 3) := by decide +kernel
theorem nd_F_jumpToEnd_18 : decode prog_3_method_7_code 18 = .ok (.iadd, 1) := by decide +kernel
theorem nd_F_jumpToEnd_19 : decode prog_3_method_7_code 19 = .ok (.iastore, 1) := by decide +kernel
theorem nd_F_jumpToEnd_20 : decode prog_3_method_7_code 20 = .ok (.return_, 1) := by decide +kernel
theorem nd_F_stepAt_0 : decode prog_3_method_8_code 0 = .ok (.aload_n 0, 1) := by decide +kernel
theorem nd_F_stepAt_1 : decode prog_3_method_8_code 1 = .ok (.getfield 15, 3) := by decide +kernel
theorem nd_F_stepAt_4 : decode prog_3_method_8_code 4 = .ok (.iload_n 1, 1) := by decide +kernel
theorem nd_F_stepAt_5 : decode prog_3_method_8_code 5 = .ok (.iaload, 1) := by decide +kernel
theorem nd_F_stepAt_6 : decode prog_3_method_8_code 6 = .ok (.sipush 10000, 3) := by decide +kernel
theorem nd_F_stepAt_9 : decode prog_3_method_8_code 9 = .ok (.idiv, 1) := by decide +kernel
theorem nd_F_stepAt_10 : decode prog_3_method_8_code 10 = .ok (.ireturn, 1) := by decide +kernel
theorem nd_F_operandAt_0 : decode prog_3_method_9_code 0 = .ok (.aload_n 0, 1) := by decide +kernel
theorem nd_F_operandAt_1 : decode prog_3_method_9_code 1 = .ok (.getfield 15, 3) := by decide +kernel
theorem nd_F_operandAt_4 : decode prog_3_method_9_code 4 = .ok (.iload_n 1, 1) := by decide +kernel
theorem nd_F_operandAt_5 : decode prog_3_method_9_code 5 = .ok (.iaload, 1) := by decide +kernel
theorem nd_F_operandAt_6 : decode prog_3_method_9_code 6 = .ok (.sipush 10000, 3) := by decide +kernel
theorem nd_F_operandAt_9 : decode prog_3_method_9_code 9 = .ok (.irem, 1) := by decide +kernel
theorem nd_F_operandAt_10 : decode prog_3_method_9_code 10 = .ok (.ireturn, 1) := by decide +kernel
theorem nd_F_hasTextOf_0 : decode prog_3_method_10_code 0 = .ok (.aload_n 0, 1) := by decide +kernel
theorem nd_F_hasTextOf_1 : decode prog_3_method_10_code 1 = .ok (.getfield 34, 3) := by decide +kernel
theorem nd_F_hasTextOf_4 : decode prog_3_method_10_code 4 = .ok (.aload_n 1, 1) := by decide +kernel
theorem nd_F_hasTextOf_5 : decode prog_3_method_10_code 5 = .ok (.getfield 34, 3) := by decide +kernel
theorem nd_F_hasTextOf_8 : decode prog_3_method_10_code 8 = .ok (.if_icmp .eq 5, 3) := by decide +kernel
theorem nd_F_hasTextOf_11 : decode prog_3_method_10_code 11 = .ok (.iconst 0, 1) := by decide +kernel
theorem nd_F_hasTextOf_12 : decode prog_3_method_10_code 12 = .ok (.ireturn, 1) := by decide +kernel
theorem nd_F_hasTextOf_13 : decode prog_3_method_10_code 13 = .ok (.iconst 0, 1) := by decide +kernel
theorem nd_F_hasTextOf_14 : decode prog_3_method_10_code 14 = .ok (.istore_n 2, 1) := by decide +kernel
theorem nd_F_hasTextOf_15 : decode prog_3_method_10_code 15 = .ok (.iload_n 2, 1) := by decide +kernel
theorem nd_F_hasTextOf_16 : decode prog_3_method_10_code 16 = .ok (.aload_n 0, 1) := by decide +kernel
theorem nd_F_hasTextOf_17 : decode prog_3_method_10_code 17 = .ok (.getfield 34, 3) := by decide +kernel
theorem nd_F_hasTextOf_20 : decode prog_3_method_10_code 20 = .ok (.if_icmp .ge 26, 3) := by decide +kernel
theorem nd_F_hasTextOf_23 : decode prog_3_method_10_code 23 = .ok (.aload_n 0, 1) := by decide +kernel
theorem nd_F_hasTextOf_24 : decode prog_3_method_10_code 24 = .ok (.getfield 9, 3) := by decide +kernel
theorem nd_F_hasTextOf_27 : decode prog_3_method_10_code 27 = .ok (.iload_n 2, 1) := by decide +kernel
theorem nd_F_hasTextOf_28 : decode prog_3_method_10_code 28 = .ok (.caload, 1) := by decide +kernel
theorem nd_F_hasTextOf_29 : decode prog_3_method_10_code 29 = .ok (.aload_n 1, 1) := by decide +kernel
theorem nd_F_hasTextOf_30 : decode prog_3_method_10_code 30 = .ok (.getfield 9, 3) := by decide +kernel
theorem nd_F_hasTextOf_33 : decode prog_3_method_10_code 33 = .ok (.iload_n 2, 1) := by decide +kernel
theorem nd_F_hasTextOf_34 : decode prog_3_method_10_code 34 = .ok (.caload, 1) := by decide +kernel
theorem nd_F_hasTextOf_35 : decode prog_3_method_10_code 35 = .ok (.if_icmp .eq 5, 3) := by decide +kernel
theorem nd_F_hasTextOf_38 : decode prog_3_method_10_code 38 = .ok (.iconst 0, 1) := by decide +kernel
theorem nd_F_hasTextOf_39 : decode prog_3_method_10_code 39 = .ok (.ireturn, 1) := by decide +kernel
theorem nd_F_hasTextOf_40 : decode prog_3_method_10_code 40 = .ok (.iinc 2 1, 3) := by decide +kernel
theorem nd_F_hasTextOf_43 : decode prog_3_method_10_code 43 = .ok (.goto (-28), 3) := by decide +kernel
theorem nd_F_hasTextOf_46 : decode prog_3_method_10_code 46 = .ok (.iconst 1, 1) := by decide +kernel
theorem nd_F_hasTextOf_47 : decode prog_3_method_10_code 47 = .ok (.ireturn, 1) := by decide +kernel
theorem nd_F_copyFrom_0 : decode prog_3_method_11_code 0 = .ok (.aload_n 1, 1) := by decide +kernel
theorem nd_F_copyFrom_1 : decode prog_3_method_11_code 1 = .ok (.getfield 9, 3) := by decide +kernel
theorem nd_F_copyFrom_4 : decode prog_3_method_11_code 4 = .ok (.iconst 0, 1) := by decide +kernel
theorem nd_F_copyFrom_5 : decode prog_3_method_11_code 5 = .ok (.aload_n 0, 1) := by decide +kernel
theorem nd_F_copyFrom_6 : decode prog_3_method_11_code 6 = .ok (.getfield 9, 3) := by decide +kernel
theorem nd_F_copyFrom_9 : decode prog_3_method_11_code 9 = .ok (.iconst 0, 1) := by decide +kernel
theorem nd_F_copyFrom_10 : decode prog_3_method_11_code 10 = .ok (.bipush 30, 2) := by decide +kernel
theorem nd_F_copyFrom_12 : decode prog_3_method_11_code 12 = .ok (.invokestatic 44, 3) := by decide +kernel
theorem nd_F_copyFrom_15 : decode prog_3_method_11_code 15 = .ok (.aload_n 1, 1) := by decide +kernel
theorem nd_F_copyFrom_16 : decode prog_3_method_11_code 16 = .ok (.getfield 15, 3) := by decide +kernel
theorem nd_F_copyFrom_19 : decode prog_3_method_11_code 19 = .ok (.iconst 0, 1) := by decide +kernel
theorem nd_F_copyFrom_20 : decode prog_3_method_11_code 20 = .ok (.aload_n 0, 1) := by decide +kernel
theorem nd_F_copyFrom_21 : decode prog_3_method_11_code 21 = .ok (.getfield 15, 3) := by decide +kernel
theorem nd_F_copyFrom_24 : decode prog_3_method_11_code 24 = .ok (.iconst 0, 1) := by decide +kernel
theorem nd_F_copyFrom_25 : decode prog_3_method_11_code 25 = .ok (.bipush 30, 2) := by decide +kernel
theorem nd_F_copyFrom_27 : decode prog_3_method_11_code 27 = .ok (.invokestatic 44, 3) := by decide +kernel
theorem nd_F_copyFrom_30 : decode prog_3_method_11_code 30 = .ok (.aload_n 0, 1) := by decide +kernel
theorem nd_F_copyFrom_31 : decode prog_3_method_11_code 31 = .ok (.aload_n 1, 1) := by decide +kernel
theorem nd_F_copyFrom_32 : decode prog_3_method_11_code 32 = .ok (.getfield 34, 3) := by decide +kernel
theorem nd_F_copyFrom_35 : decode prog_3_method_11_code 35 = .ok (.putfield 34, 3) := by decide +kernel
theorem nd_F_copyFrom_38 : decode prog_3_method_11_code 38 = .ok (.aload_n 0, 1) := by decide +kernel
theorem nd_F_copyFrom_39 : decode prog_3_method_11_code 39 = .ok (.aload_n 1, 1) := by decide +kernel
theorem nd_F_copyFrom_40 : decode prog_3_method_11_code 40 = .ok (.getfield 38, 3) := by decide +kernel
theorem nd_F_copyFrom_43 : decode prog_3_method_11_code 43 = .ok (.putfield 38, 3) := by decide +kernel
theorem nd_F_copyFrom_46 : decode prog_3_method_11_code 46 = .ok (.return_, 1) := by decide +kernel
theorem nd_O_init_0 : decode prog_4_method_1_code 0 = .ok (.aload_n 0, 1) := by decide +kernel
theorem nd_O_init_1 : decode prog_4_method_1_code 1 = .ok (.invokespecial 3, 3) := by decide +kernel
theorem nd_O_init_4 : decode prog_4_method_1_code 4 = .ok (.aload_n 0, 1) := by decide +kernel
theorem nd_O_init_5 : decode prog_4_method_1_code 5 = .ok (.bipush 12, 2) := by decide +kernel
theorem nd_O_init_7 : decode prog_4_method_1_code 7 = .ok (.newarray .int, 2) := by decide +kernel
theorem nd_O_init_9 : decode prog_4_method_1_code 9 = .ok (.putfield 9, 3) := by decide +kernel
theorem nd_O_init_12 : decode prog_4_method_1_code 12 = .ok (.return_, 1) := by decide +kernel
theorem nd_O_clear_0 : decode prog_4_method_2_code 0 = .ok (.aload_n 0, 1) := by decide +kernel
theorem nd_O_clear_1 : decode prog_4_method_2_code 1 = .ok (.iconst 0, 1) := by decide +kernel
theorem nd_O_clear_2 : decode prog_4_method_2_code 2 = .ok (.putfield 15, 3) := by decide +kernel
theorem nd_O_clear_5 : decode prog_4_method_2_code 5 = .ok (.aload_n 0, 1) := by decide +kernel
theorem nd_O_clear_6 : decode prog_4_method_2_code 6 = .ok (.iconst 0, 1) := by decide +kernel
theorem nd_O_clear_7 : decode prog_4_method_2_code 7 = .ok (.putfield 19, 3) := by decide +kernel
theorem nd_O_clear_10 : decode prog_4_method_2_code 10 = .ok (.aload_n 0, 1) := by decide +kernel
theorem nd_O_clear_11 : decode prog_4_method_2_code 11 = .ok (.iconst 0, 1) := by decide +kernel
theorem nd_O_clear_12 : decode prog_4_method_2_code 12 = .ok (.putfield 23, 3) := by decide +kernel
theorem nd_O_clear_15 : decode prog_4_method_2_code 15 = .ok (.aload_n 0, 1) := by decide +kernel
theorem nd_O_clear_16 : decode prog_4_method_2_code 16 = .ok (.iconst 0, 1) := by decide +kernel
theorem nd_O_clear_17 : decode prog_4_method_2_code 17 = .ok (.putfield 26, 3) := by decide +kernel
theorem nd_O_clear_20 : decode prog_4_method_2_code 20 = .ok (.aload_n 0, 1) := by decide +kernel
theorem nd_O_clear_21 : decode prog_4_method_2_code 21 = .ok (.iconst 0, 1) := by decide +kernel
theorem nd_O_clear_22 : decode prog_4_method_2_code 22 = .ok (.putfield 29, 3) := by decide +kernel
theorem nd_O_clear_25 : decode prog_4_method_2_code 25 = .ok (.aload_n 0, 1) := by decide +kernel
theorem nd_O_clear_26 : decode prog_4_method_2_code 26 = .ok (.iconst 0, 1) := by decide +kernel
theorem nd_O_clear_27 : decode prog_4_method_2_code 27 = .ok (.putfield 32, 3) := by decide +kernel
theorem nd_O_clear_30 : decode prog_4_method_2_code 30 = .ok (.return_, 1) := by decide +kernel
theorem nd_O_isVerifiedIn_0 : decode prog_4_method_3_code 0 = .ok (.aload_n 0, 1) := by decide +kernel
theorem nd_O_isVerifiedIn_1 : decode prog_4_method_3_code 1 = .ok (.getfield 19, 3) := by decide +kernel
theorem nd_O_isVerifiedIn_4 : decode prog_4_method_3_code 4 = .ok (.ifCond .eq 15, 3) := by decide +kernel
theorem nd_O_isVerifiedIn_7 : decode prog_4_method_3_code 7 = .ok (.aload_n 0, 1) := by decide +kernel
theorem nd_O_isVerifiedIn_8 : decode prog_4_method_3_code 8 = .ok (.getfield 26, 3) := by decide +kernel
theorem nd_O_isVerifiedIn_11 : decode prog_4_method_3_code 11 = .ok (.iload_n 1, 1) := by decide +kernel
theorem nd_O_isVerifiedIn_12 : decode prog_4_method_3_code 12 = .ok (.if_icmp .ne 7, 3) := by decide +kernel
theorem nd_O_isVerifiedIn_15 : decode prog_4_method_3_code 15 = .ok (.iconst 1, 1) := by decide +kernel
theorem nd_O_isVerifiedIn_16 : decode prog_4_method_3_code 16 = .ok (.goto 4, 3) := by decide +kernel
theorem nd_O_isVerifiedIn_19 : decode prog_4_method_3_code 19 = .ok (.iconst 0, 1) := by decide +kernel
theorem nd_O_isVerifiedIn_20 : decode prog_4_method_3_code 20 = .ok (.ireturn, 1) := by decide +kernel
theorem nd_O_keepValue_0 : decode prog_4_method_4_code 0 = .ok (.aload_n 0, 1) := by decide +kernel
theorem nd_O_keepValue_1 : decode prog_4_method_4_code 1 = .ok (.getfield 23, 3) := by decide +kernel
theorem nd_O_keepValue_4 : decode prog_4_method_4_code 4 = .ok (.ifCond .eq 16, 3) := by decide +kernel
theorem nd_O_keepValue_7 : decode prog_4_method_4_code 7 = .ok (.aload_n 0, 1) := by decide +kernel
theorem nd_O_keepValue_8 : decode prog_4_method_4_code 8 = .ok (.getfield 35, 3) := by decide +kernel
theorem nd_O_keepValue_11 : decode prog_4_method_4_code 11 = .ok (.lload_n 1, 1) := by decide +kernel
theorem nd_O_keepValue_12 : decode prog_4_method_4_code 12 = .ok (.lcmp, 1) := by decide +kernel
theorem nd_O_keepValue_13 : decode prog_4_method_4_code 13 = .ok (.ifCond .ne 7, 3) := by decide +kernel
theorem nd_O_keepValue_16 : decode prog_4_method_4_code 16 = .ok (.iconst 1, 1) := by decide +kernel
theorem nd_O_keepValue_17 : decode prog_4_method_4_code 17 = .ok (.goto 4, 3) := by decide +kernel
theorem nd_O_keepValue_20 : decode prog_4_method_4_code 20 = .ok (.iconst 0, 1) := by decide +kernel
theorem nd_O_keepValue_21 : decode prog_4_method_4_code 21 = .ok (.istore 4, 2) := by decide +kernel
theorem nd_O_keepValue_23 : decode prog_4_method_4_code 23 = .ok (.iload 4, 2) := by decide +kernel
theorem nd_O_keepValue_25 : decode prog_4_method_4_code 25 = .ok (.ifCond .ne 16, 3) := by decide +kernel
theorem nd_O_keepValue_28 : decode prog_4_method_4_code 28 = .ok (.aload_n 0, 1) := by decide +kernel
theorem nd_O_keepValue_29 : decode prog_4_method_4_code 29 = .ok (.iload_n 3, 1) := by decide +kernel
theorem nd_O_keepValue_30 : decode prog_4_method_4_code 30 = .ok (.invokevirtual 39, 3) := by decide +kernel
theorem nd_O_keepValue_33 : decode prog_4_method_4_code 33 = .ok (.ifCond .ne 8, 3) := by decide +kernel
theorem nd_O_keepValue_36 : decode prog_4_method_4_code 36 = .ok (.aload_n 0, 1) := by decide +kernel
theorem nd_O_keepValue_37 : decode prog_4_method_4_code 37 = .ok (.iload_n 3, 1) := by decide +kernel
theorem nd_O_keepValue_38 : decode prog_4_method_4_code 38 = .ok (.putfield 29, 3) := by decide +kernel
theorem nd_O_keepValue_41 : decode prog_4_method_4_code 41 = .ok (.aload_n 0, 1) := by decide +kernel
theorem nd_O_keepValue_42 : decode prog_4_method_4_code 42 = .ok (.iconst 1, 1) := by decide +kernel
theorem nd_O_keepValue_43 : decode prog_4_method_4_code 43 = .ok (.putfield 19, 3) := by decide +kernel
theorem nd_O_keepValue_46 : decode prog_4_method_4_code 46 = .ok (.aload_n 0, 1) := by decide +kernel
theorem nd_O_keepValue_47 : decode prog_4_method_4_code 47 = .ok (.iconst 1, 1) := by decide +kernel
theorem nd_O_keepValue_48 : decode prog_4_method_4_code 48 = .ok (.putfield 23, 3) := by decide +kernel
theorem nd_O_keepValue_51 : decode prog_4_method_4_code 51 = .ok (.aload_n 0, 1) := by decide +kernel
theorem nd_O_keepValue_52 : decode prog_4_method_4_code 52 = .ok (.lload_n 1, 1) := by decide +kernel
theorem nd_O_keepValue_53 : decode prog_4_method_4_code 53 = .ok (.putfield 35, 3) := by decide +kernel
theorem nd_O_keepValue_56 : decode prog_4_method_4_code 56 = .ok (.aload_n 0, 1) := by decide +kernel
theorem nd_O_keepValue_57 : decode prog_4_method_4_code 57 = .ok (.iload_n 3, 1) := by decide +kernel
theorem nd_O_keepValue_58 : decode prog_4_method_4_code 58 = .ok (.putfield 26, 3) := by decide +kernel
theorem nd_O_keepValue_61 : decode prog_4_method_4_code 61 = .ok (.return_, 1) := by decide +kernel
theorem nd_O_addRead_0 : decode prog_4_method_5_code 0 = .ok (.iconst 0, 1) := by decide +kernel
theorem nd_O_addRead_1 : decode prog_4_method_5_code 1 = .ok (.istore_n 2, 1) := by decide +kernel
theorem nd_O_addRead_2 : decode prog_4_method_5_code 2 = .ok (.iload_n 2, 1) := by decide +kernel
theorem nd_O_addRead_3 : decode prog_4_method_5_code 3 = .ok (.aload_n 0, 1) := by decide +kernel
theorem nd_O_addRead_4 : decode prog_4_method_5_code 4 = .ok (.getfield 15, 3) := by decide +kernel
theorem nd_O_addRead_7 : decode prog_4_method_5_code 7 = .ok (.if_icmp .ge 20, 3) := by decide +kernel
theorem nd_O_addRead_10 : decode prog_4_method_5_code 10 = .ok (.aload_n 0, 1) := by decide +kernel
theorem nd_O_addRead_11 : decode prog_4_method_5_code 11 = .ok (.getfield 9, 3) := by decide +kernel
theorem nd_O_addRead_14 : decode prog_4_method_5_code 14 = .ok (.iload_n 2, 1) := by decide +kernel
theorem nd_O_addRead_15 : decode prog_4_method_5_code 15 = .ok (.iaload, 1) := by decide +kernel
theorem nd_O_addRead_16 : decode prog_4_method_5_code 16 = .ok (.iload_n 1, 1) := by decide +kernel
theorem nd_O_addRead_17 : decode prog_4_method_5_code 17 = .ok (.if_icmp .ne 4, 3) := by decide +kernel
theorem nd_O_addRead_20 : decode prog_4_method_5_code 20 = .ok (.return_, 1) := by decide +kernel
theorem nd_O_addRead_21 : decode prog_4_method_5_code 21 = .ok (.iinc 2 1, 3) := by decide +kernel
theorem nd_O_addRead_24 : decode prog_4_method_5_code 24 = .ok (.goto (-22), 3) := by decide +kernel
theorem nd_O_addRead_27 : decode prog_4_method_5_code 27 = .ok (.aload_n 0, 1) := by decide +kernel
theorem nd_O_addRead_28 : decode prog_4_method_5_code 28 = .ok (.getfield 15, 3) := by decide +kernel
theorem nd_O_addRead_31 : decode prog_4_method_5_code 31 = .ok (.aload_n 0, 1) := by decide +kernel
theorem nd_O_addRead_32 : decode prog_4_method_5_code 32 = .ok (.getfield 9, 3) := by decide +kernel
theorem nd_O_addRead_35 : decode prog_4_method_5_code 35 = .ok (.arraylength, 1) := by decide +kernel
theorem nd_O_addRead_36 : decode prog_4_method_5_code 36 = .ok (.if_icmp .ge 23, 3) := by decide +kernel
theorem nd_O_addRead_39 : decode prog_4_method_5_code 39 = .ok (.aload_n 0, 1) := by decide +kernel
theorem nd_O_addRead_40 : decode prog_4_method_5_code 40 = .ok (.getfield 9, 3) := by decide +kernel
theorem nd_O_addRead_43 : decode prog_4_method_5_code 43 = .ok (.aload_n 0, 1) := by decide +kernel
theorem nd_O_addRead_44 : decode prog_4_method_5_code 44 = .ok (.getfield 15, 3) := by decide +kernel
theorem nd_O_addRead_47 : decode prog_4_method_5_code 47 = .ok (.iload_n 1, 1) := by decide +kernel
theorem nd_O_addRead_48 : decode prog_4_method_5_code 48 = .ok (.iastore, 1) := by decide +kernel
theorem nd_O_addRead_49 : decode prog_4_method_5_code 49 = .ok (.aload_n 0, 1) := by decide +kernel
theorem nd_O_addRead_50 : decode prog_4_method_5_code 50 = .ok (.dup, 1) := by decide +kernel
theorem nd_O_addRead_51 : decode prog_4_method_5_code 51 = .ok (.getfield 15, 3) := by decide +kernel
theorem nd_O_addRead_54 : decode prog_4_method_5_code 54 = .ok (.iconst 1, 1) := by decide +kernel
theorem nd_O_addRead_55 : decode prog_4_method_5_code 55 = .ok (.iadd, 1) := by decide +kernel
theorem nd_O_addRead_56 : decode prog_4_method_5_code 56 = .ok (.putfield 15, 3) := by decide +kernel
theorem nd_O_addRead_59 : decode prog_4_method_5_code 59 = .ok (.return_, 1) := by decide +kernel
theorem nd_J_floorMod_0 : decode prog_9_method_50_code 0 = .ok (.iload_n 0, 1) := by decide +kernel
theorem nd_J_floorMod_1 : decode prog_9_method_50_code 1 = .ok (.iload_n 1, 1) := by decide +kernel
theorem nd_J_floorMod_2 : decode prog_9_method_50_code 2 = .ok (.irem, 1) := by decide +kernel
theorem nd_J_floorMod_3 : decode prog_9_method_50_code 3 = .ok (.istore_n 2, 1) := by decide +kernel
theorem nd_J_floorMod_4 : decode prog_9_method_50_code 4 = .ok (.iload_n 0, 1) := by decide +kernel
theorem nd_J_floorMod_5 : decode prog_9_method_50_code 5 = .ok (.iload_n 1, 1) := by decide +kernel
theorem nd_J_floorMod_6 : decode prog_9_method_50_code 6 = .ok (.ixor, 1) := by decide +kernel
theorem nd_J_floorMod_7 : decode prog_9_method_50_code 7 = .ok (.ifCond .ge 11, 3) := by decide +kernel
theorem nd_J_floorMod_10 : decode prog_9_method_50_code 10 = .ok (.iload_n 2, 1) := by decide +kernel
theorem nd_J_floorMod_11 : decode prog_9_method_50_code 11 = .ok (.ifCond .eq 7, 3) := by decide +kernel
theorem nd_J_floorMod_14 : decode prog_9_method_50_code 14 = .ok (.iload_n 2, 1) := by decide +kernel
theorem nd_J_floorMod_15 : decode prog_9_method_50_code 15 = .ok (.iload_n 1, 1) := by decide +kernel
theorem nd_J_floorMod_16 : decode prog_9_method_50_code 16 = .ok (.iadd, 1) := by decide +kernel
theorem nd_J_floorMod_17 : decode prog_9_method_50_code 17 = .ok (.ireturn, 1) := by decide +kernel
theorem nd_J_floorMod_18 : decode prog_9_method_50_code 18 = .ok (.iload_n 2, 1) := by decide +kernel
theorem nd_J_floorMod_19 : decode prog_9_method_50_code 19 = .ok (.ireturn, 1) := by decide +kernel
end
section
theorem nd_N_init_0 : decode prog_1_method_1_code 0 = .ok (.aload_n 0, 1) := by decide +kernel
theorem nd_N_init_1 : decode prog_1_method_1_code 1 = .ok (.invokespecial 1, 3) := by decide +kernel
theorem nd_N_init_4 : decode prog_1_method_1_code 4 = .ok (.aload_n 0, 1) := by decide +kernel
theorem nd_N_init_5 : decode prog_1_method_1_code 5 = .ok (.iconst 1, 1) := by decide +kernel
theorem nd_N_init_6 : decode prog_1_method_1_code 6 = .ok (.bipush 12, 2) := by decide +kernel
theorem nd_N_init_8 : decode prog_1_method_1_code 8 = .ok (.iload_n 1, 1) := by decide +kernel
theorem nd_N_init_9 : decode prog_1_method_1_code 9 = .ok (.invokestatic 9, 3) := by decide +kernel
theorem nd_N_init_12 : decode prog_1_method_1_code 12 = .ok (.invokestatic 15, 3) := by decide +kernel
theorem nd_N_init_15 : decode prog_1_method_1_code 15 = .ok (.putfield 18, 3) := by decide +kernel
theorem nd_N_init_18 : decode prog_1_method_1_code 18 = .ok (.aload_n 0, 1) := by decide +kernel
theorem nd_N_init_19 : decode prog_1_method_1_code 19 = .ok (.bipush 12, 2) := by decide +kernel
theorem nd_N_init_21 : decode prog_1_method_1_code 21 = .ok (.anewarray 22, 3) := by decide +kernel
theorem nd_N_init_24 : decode prog_1_method_1_code 24 = .ok (.putfield 24, 3) := by decide +kernel
theorem nd_N_init_27 : decode prog_1_method_1_code 27 = .ok (.iconst 0, 1) := by decide +kernel
theorem nd_N_init_28 : decode prog_1_method_1_code 28 = .ok (.istore_n 2, 1) := by decide +kernel
theorem nd_N_init_29 : decode prog_1_method_1_code 29 = .ok (.iload_n 2, 1) := by decide +kernel
theorem nd_N_init_30 : decode prog_1_method_1_code 30 = .ok (.bipush 12, 2) := by decide +kernel
theorem nd_N_init_32 : decode prog_1_method_1_code 32 = .ok (.if_icmp .ge 22, 3) := by decide +kernel
theorem nd_N_init_35 : decode prog_1_method_1_code 35 = .ok (.aload_n 0, 1) := by decide +kernel
theorem nd_N_init_36 : decode prog_1_method_1_code 36 = .ok (.getfield 24, 3) := by decide +kernel
theorem nd_N_init_39 : decode prog_1_method_1_code 39 = .ok (.iload_n 2, 1) := by decide +kernel
theorem nd_N_init_40 : decode prog_1_method_1_code 40 = .ok (.new 22, 3) := by decide +kernel
theorem nd_N_init_43 : decode prog_1_method_1_code 43 = .ok (.dup, 1) := by decide +kernel
theorem nd_N_init_44 : decode prog_1_method_1_code 44 = .ok (.invokespecial 28, 3) := by decide +kernel
theorem nd_N_init_47 : decode prog_1_method_1_code 47 = .ok (.aastore, 1) := by decide +kernel
theorem nd_N_init_48 : decode prog_1_method_1_code 48 = .ok (.iinc 2 1, 3) := by decide +kernel
theorem nd_N_init_51 : decode prog_1_method_1_code 51 = .ok (.goto (-22), 3) := by decide +kernel
theorem nd_N_init_54 : decode prog_1_method_1_code 54 = .ok (.aload_n 0, 1) := by decide +kernel
theorem nd_N_init_55 : decode prog_1_method_1_code 55 = .ok (.iconst 3, 1) := by decide +kernel
theorem nd_N_init_56 : decode prog_1_method_1_code 56 = .ok (.newarray .int, 2) := by decide +kernel
theorem nd_N_init_58 : decode prog_1_method_1_code 58 = .ok (.putfield 29, 3) := by decide +kernel
theorem nd_N_init_61 : decode prog_1_method_1_code 61 = .ok (.aload_n 0, 1) := by decide +kernel
theorem nd_N_init_62 : decode prog_1_method_1_code 62 = .ok (.iconst 3, 1) := by decide +kernel
theorem nd_N_init_63 : decode prog_1_method_1_code 63 = .ok (.newarray .int, 2) := by decide +kernel
theorem nd_N_init_65 : decode prog_1_method_1_code 65 = .ok (.putfield 33, 3) := by decide +kernel
theorem nd_N_init_68 : decode prog_1_method_1_code 68 = .ok (.aload_n 0, 1) := by decide +kernel
theorem nd_N_init_69 : decode prog_1_method_1_code 69 = .ok (.new 36, 3) := by decide +kernel
theorem nd_N_init_72 : decode prog_1_method_1_code 72 = .ok (.dup, 1) := by decide +kernel
theorem nd_N_init_73 : decode prog_1_method_1_code 73 = .ok (.invokespecial 38, 3) := by decide +kernel
theorem nd_N_init_76 : decode prog_1_method_1_code 76 = .ok (.putfield 39, 3) := by decide +kernel
theorem nd_N_init_79 : decode prog_1_method_1_code 79 = .ok (.aload_n 0, 1) := by decide +kernel
theorem nd_N_init_80 : decode prog_1_method_1_code 80 = .ok (.new 43, 3) := by decide +kernel
theorem nd_N_init_83 : decode prog_1_method_1_code 83 = .ok (.dup, 1) := by decide +kernel
theorem nd_N_init_84 : decode prog_1_method_1_code 84 = .ok (.aload_n 0, 1) := by decide +kernel
theorem nd_N_init_85 : decode prog_1_method_1_code 85 = .ok (.getfield 39, 3) := by decide +kernel
theorem nd_N_init_88 : decode prog_1_method_1_code 88 = .ok (.invokespecial 45, 3) := by decide +kernel
theorem nd_N_init_91 : decode prog_1_method_1_code 91 = .ok (.putfield 48, 3) := by decide +kernel
theorem nd_N_init_94 : decode prog_1_method_1_code 94 = .ok (.aload_n 0, 1) := by decide +kernel
theorem nd_N_init_95 : decode prog_1_method_1_code 95 = .ok (.iconst 1, 1) := by decide +kernel
theorem nd_N_init_96 : decode prog_1_method_1_code 96 = .ok (.putfield 52, 3) := by decide +kernel
theorem nd_N_init_99 : decode prog_1_method_1_code 99 = .ok (.return_, 1) := by decide +kernel
theorem nd_N_type_0 : decode prog_1_method_2_code 0 = .ok (.iload_n 1, 1) := by decide +kernel
theorem nd_N_type_1 : decode prog_1_method_2_code 1 = .ok (.invokestatic 55, 3) := by decide +kernel
theorem nd_N_type_4 : decode prog_1_method_2_code 4 = .ok (.ifCond .eq 18, 3) := by decide +kernel
theorem nd_N_type_7 : decode prog_1_method_2_code 7 = .ok (.aload_n 0, 1) := by decide +kernel
theorem nd_N_type_8 : decode prog_1_method_2_code 8 = .ok (.getfield 39, 3) := by decide +kernel
theorem nd_N_type_11 : decode prog_1_method_2_code 11 = .ok (.iload_n 1, 1) := by decide +kernel
theorem nd_N_type_12 : decode prog_1_method_2_code 12 = .ok (.invokevirtual 59, 3) := by decide +kernel
theorem nd_N_type_15 : decode prog_1_method_2_code 15 = .ok (.ifCond .eq 7, 3) := by decide +kernel
theorem nd_N_type_18 : decode prog_1_method_2_code 18 = .ok (.iconst 1, 1) := by decide +kernel
theorem nd_N_type_19 : decode prog_1_method_2_code 19 = .ok (.goto 4, 3) := by decide +kernel
theorem nd_N_type_22 : decode prog_1_method_2_code 22 = .ok (.iconst 0, 1) := by decide +kernel
theorem nd_N_type_23 : decode prog_1_method_2_code 23 = .ok (.ireturn, 1) := by decide +kernel
theorem nd_N_define_0 : decode prog_1_method_3_code 0 = .ok (.iconst (-1), 1) := by decide +kernel
theorem nd_N_define_1 : decode prog_1_method_3_code 1 = .ok (.istore_n 2, 1) := by decide +kernel
theorem nd_N_define_2 : decode prog_1_method_3_code 2 = .ok (.iload_n 1, 1) := by decide +kernel
theorem nd_N_define_3 : decode prog_1_method_3_code 3 = .ok (.invokestatic 62, 3) := by decide +kernel
theorem nd_N_define_6 : decode prog_1_method_3_code 6 = .ok (.ifCond .eq 27, 3) := by decide +kernel
theorem nd_N_define_9 : decode prog_1_method_3_code 9 = .ok (.aload_n 0, 1) := by decide +kernel
theorem nd_N_define_10 : decode prog_1_method_3_code 10 = .ok (.getfield 48, 3) := by decide +kernel
theorem nd_N_define_13 : decode prog_1_method_3_code 13 = .ok (.invokevirtual 66, 3) := by decide +kernel
theorem nd_N_define_16 : decode prog_1_method_3_code 16 = .ok (.ifCond .eq 7, 3) := by decide +kernel
theorem nd_N_define_19 : decode prog_1_method_3_code 19 = .ok (.iconst 0, 1) := by decide +kernel
theorem nd_N_define_20 : decode prog_1_method_3_code 20 = .ok (.goto 12, 3) := by decide +kernel
theorem nd_N_define_23 : decode prog_1_method_3_code 23 = .ok (.iconst 1, 1) := by decide +kernel
theorem nd_N_define_24 : decode prog_1_method_3_code 24 = .ok (.aload_n 0, 1) := by decide +kernel
theorem nd_N_define_25 : decode prog_1_method_3_code 25 = .ok (.getfield 48, 3) := by decide +kernel
theorem nd_N_define_28 : decode prog_1_method_3_code 28 = .ok (.invokevirtual 70, 3) := by decide +kernel
theorem nd_N_define_31 : decode prog_1_method_3_code 31 = .ok (.iadd, 1) := by decide +kernel
theorem nd_N_define_32 : decode prog_1_method_3_code 32 = .ok (.istore_n 2, 1) := by decide +kernel
theorem nd_N_define_33 : decode prog_1_method_3_code 33 = .ok (.iload_n 2, 1) := by decide +kernel
theorem nd_N_define_34 : decode prog_1_method_3_code 34 = .ok (.ifCond .ne 13, 3) := by decide +kernel
theorem nd_N_define_37 : decode prog_1_method_3_code 37 = .ok (.aload_n 0, 1) := by decide +kernel
theorem nd_N_define_38 : decode prog_1_method_3_code 38 = .ok (.aload_n 0, 1) := by decide +kernel
theorem nd_N_define_39 : decode prog_1_method_3_code 39 = .ok (.getfield 24, 3) := by decide +kernel
theorem nd_N_define_42 : decode prog_1_method_3_code 42 = .ok (.iload_n 1, 1) := by decide +kernel
theorem nd_N_define_43 : decode prog_1_method_3_code 43 = .ok (.aaload, 1) := by decide +kernel
theorem nd_N_define_44 : decode prog_1_method_3_code 44 = .ok (.invokevirtual 74, 3) := by decide +kernel
theorem nd_N_define_47 : decode prog_1_method_3_code 47 = .ok (.aload_n 0, 1) := by decide +kernel
theorem nd_N_define_48 : decode prog_1_method_3_code 48 = .ok (.getfield 39, 3) := by decide +kernel
theorem nd_N_define_51 : decode prog_1_method_3_code 51 = .ok (.iconst 0, 1) := by decide +kernel
theorem nd_N_define_52 : decode prog_1_method_3_code 52 = .ok (.putfield 78, 3) := by decide +kernel
theorem nd_N_define_55 : decode prog_1_method_3_code 55 = .ok (.iload_n 2, 1) := by decide +kernel
theorem nd_N_define_56 : decode prog_1_method_3_code 56 = .ok (.ireturn, 1) := by decide +kernel
theorem nd_N_set_0 : decode prog_1_method_4_code 0 = .ok (.iload_n 1, 1) := by decide +kernel
theorem nd_N_set_1 : decode prog_1_method_4_code 1 = .ok (.invokestatic 62, 3) := by decide +kernel
theorem nd_N_set_4 : decode prog_1_method_4_code 4 = .ok (.ifCond .eq 10, 3) := by decide +kernel
theorem nd_N_set_7 : decode prog_1_method_4_code 7 = .ok (.iload_n 3, 1) := by decide +kernel
theorem nd_N_set_8 : decode prog_1_method_4_code 8 = .ok (.invokestatic 81, 3) := by decide +kernel
theorem nd_N_set_11 : decode prog_1_method_4_code 11 = .ok (.ifCond .ne 5, 3) := by decide +kernel
theorem nd_N_set_14 : decode prog_1_method_4_code 14 = .ok (.iconst 0, 1) := by decide +kernel
theorem nd_N_set_15 : decode prog_1_method_4_code 15 = .ok (.ireturn, 1) := by decide +kernel
theorem nd_N_set_16 : decode prog_1_method_4_code 16 = .ok (.aload_n 0, 1) := by decide +kernel
theorem nd_N_set_17 : decode prog_1_method_4_code 17 = .ok (.getfield 24, 3) := by decide +kernel
theorem nd_N_set_20 : decode prog_1_method_4_code 20 = .ok (.iload_n 1, 1) := by decide +kernel
theorem nd_N_set_21 : decode prog_1_method_4_code 21 = .ok (.aaload, 1) := by decide +kernel
theorem nd_N_set_22 : decode prog_1_method_4_code 22 = .ok (.astore 4, 2) := by decide +kernel
theorem nd_N_set_24 : decode prog_1_method_4_code 24 = .ok (.aload 4, 2) := by decide +kernel
theorem nd_N_set_26 : decode prog_1_method_4_code 26 = .ok (.getfield 84, 3) := by decide +kernel
theorem nd_N_set_29 : decode prog_1_method_4_code 29 = .ok (.ifCond .ne 21, 3) := by decide +kernel
theorem nd_N_set_32 : decode prog_1_method_4_code 32 = .ok (.aload 4, 2) := by decide +kernel
theorem nd_N_set_34 : decode prog_1_method_4_code 34 = .ok (.getfield 88, 3) := by decide +kernel
theorem nd_N_set_37 : decode prog_1_method_4_code 37 = .ok (.iload_n 2, 1) := by decide +kernel
theorem nd_N_set_38 : decode prog_1_method_4_code 38 = .ok (.if_icmp .ne 12, 3) := by decide +kernel
theorem nd_N_set_41 : decode prog_1_method_4_code 41 = .ok (.aload 4, 2) := by decide +kernel
theorem nd_N_set_43 : decode prog_1_method_4_code 43 = .ok (.getfield 91, 3) := by decide +kernel
theorem nd_N_set_46 : decode prog_1_method_4_code 46 = .ok (.iload_n 3, 1) := by decide +kernel
theorem nd_N_set_47 : decode prog_1_method_4_code 47 = .ok (.if_icmp .eq 11, 3) := by decide +kernel
theorem nd_N_set_50 : decode prog_1_method_4_code 50 = .ok (.aload_n 0, 1) := by decide +kernel
theorem nd_N_set_51 : decode prog_1_method_4_code 51 = .ok (.aload 4, 2) := by decide +kernel
theorem nd_N_set_53 : decode prog_1_method_4_code 53 = .ok (.iload_n 2, 1) := by decide +kernel
theorem nd_N_set_54 : decode prog_1_method_4_code 54 = .ok (.iload_n 3, 1) := by decide +kernel
theorem nd_N_set_55 : decode prog_1_method_4_code 55 = .ok (.invokevirtual 94, 3) := by decide +kernel
theorem nd_N_set_58 : decode prog_1_method_4_code 58 = .ok (.iconst 1, 1) := by decide +kernel
theorem nd_N_set_59 : decode prog_1_method_4_code 59 = .ok (.ireturn, 1) := by decide +kernel
theorem nd_N_ask_0 : decode prog_1_method_5_code 0 = .ok (.iload_n 1, 1) := by decide +kernel
theorem nd_N_ask_1 : decode prog_1_method_5_code 1 = .ok (.invokestatic 62, 3) := by decide +kernel
theorem nd_N_ask_4 : decode prog_1_method_5_code 4 = .ok (.ifCond .ne 7, 3) := by decide +kernel
theorem nd_N_ask_7 : decode prog_1_method_5_code 7 = .ok (.ldc2_w 98, 3) := by decide +kernel
theorem nd_N_ask_10 : decode prog_1_method_5_code 10 = .ok (.lreturn, 1) := by decide +kernel
theorem nd_N_ask_11 : decode prog_1_method_5_code 11 = .ok (.iconst 0, 1) := by decide +kernel
theorem nd_N_ask_12 : decode prog_1_method_5_code 12 = .ok (.istore_n 2, 1) := by decide +kernel
theorem nd_N_ask_13 : decode prog_1_method_5_code 13 = .ok (.iload_n 2, 1) := by decide +kernel
theorem nd_N_ask_14 : decode prog_1_method_5_code 14 = .ok (.aload_n 0, 1) := by decide +kernel
theorem nd_N_ask_15 : decode prog_1_method_5_code 15 = .ok (.getfield 33, 3) := by decide +kernel
theorem nd_N_ask_18 : decode prog_1_method_5_code 18 = .ok (.arraylength, 1) := by decide +kernel
theorem nd_N_ask_19 : decode prog_1_method_5_code 19 = .ok (.if_icmp .ge 16, 3) := by decide +kernel
theorem nd_N_ask_22 : decode prog_1_method_5_code 22 = .ok (.aload_n 0, 1) := by decide +kernel
theorem nd_N_ask_23 : decode prog_1_method_5_code 23 = .ok (.getfield 33, 3) := by decide +kernel
theorem nd_N_ask_26 : decode prog_1_method_5_code 26 = .ok (.iload_n 2, 1) := by decide +kernel
theorem nd_N_ask_27 : decode prog_1_method_5_code 27 = .ok (.iconst 0, 1) := by decide +kernel
theorem nd_N_ask_28 : decode prog_1_method_5_code 28 = .ok (.iastore, 1) := by decide +kernel
theorem nd_N_ask_29 : decode prog_1_method_5_code 29 = .ok (.iinc 2 1, 3) := by decide +kernel
theorem nd_N_ask_32 : decode prog_1_method_5_code 32 = .ok (.goto (-19), 3) := by decide +kernel
theorem nd_N_ask_35 : decode prog_1_method_5_code 35 = .ok (.aload_n 0, 1) := by decide +kernel
theorem nd_N_ask_36 : decode prog_1_method_5_code 36 = .ok (.aload_n 0, 1) := by decide +kernel
theorem nd_N_ask_37 : decode prog_1_method_5_code 37 = .ok (.getfield 24, 3) := by decide +kernel
theorem nd_N_ask_40 : decode prog_1_method_5_code 40 = .ok (.iload_n 1, 1) := by decide +kernel
theorem nd_N_ask_41 : decode prog_1_method_5_code 41 = .ok (.aaload, 1) := by decide +kernel
theorem nd_N_ask_42 : decode prog_1_method_5_code 42 = .ok (.invokevirtual 100, 3) := by decide +kernel
theorem nd_N_ask_45 : decode prog_1_method_5_code 45 = .ok (.lstore_n 2, 1) := by decide +kernel
theorem nd_N_ask_46 : decode prog_1_method_5_code 46 = .ok (.aload_n 0, 1) := by decide +kernel
theorem nd_N_ask_47 : decode prog_1_method_5_code 47 = .ok (.invokevirtual 104, 3) := by decide +kernel
theorem nd_N_ask_50 : decode prog_1_method_5_code 50 = .ok (.lload_n 2, 1) := by decide +kernel
theorem nd_N_ask_51 : decode prog_1_method_5_code 51 = .ok (.lreturn, 1) := by decide +kernel
theorem nd_N_revision_0 : decode prog_1_method_6_code 0 = .ok (.aload_n 0, 1) := by decide +kernel
theorem nd_N_revision_1 : decode prog_1_method_6_code 1 = .ok (.getfield 52, 3) := by decide +kernel
theorem nd_N_revision_4 : decode prog_1_method_6_code 4 = .ok (.ireturn, 1) := by decide +kernel
theorem nd_N_changed_0 : decode prog_1_method_7_code 0 = .ok (.iload_n 1, 1) := by decide +kernel
theorem nd_N_changed_1 : decode prog_1_method_7_code 1 = .ok (.invokestatic 81, 3) := by decide +kernel
theorem nd_N_changed_4 : decode prog_1_method_7_code 4 = .ok (.ifCond .eq 12, 3) := by decide +kernel
theorem nd_N_changed_7 : decode prog_1_method_7_code 7 = .ok (.aload_n 0, 1) := by decide +kernel
theorem nd_N_changed_8 : decode prog_1_method_7_code 8 = .ok (.getfield 29, 3) := by decide +kernel
theorem nd_N_changed_11 : decode prog_1_method_7_code 11 = .ok (.iload_n 1, 1) := by decide +kernel
theorem nd_N_changed_12 : decode prog_1_method_7_code 12 = .ok (.iaload, 1) := by decide +kernel
theorem nd_N_changed_13 : decode prog_1_method_7_code 13 = .ok (.goto 4, 3) := by decide +kernel
theorem nd_N_changed_16 : decode prog_1_method_7_code 16 = .ok (.iconst (-1), 1) := by decide +kernel
theorem nd_N_changed_17 : decode prog_1_method_7_code 17 = .ok (.ireturn, 1) := by decide +kernel
theorem nd_N_note_0 : decode prog_1_method_8_code 0 = .ok (.iload_n 1, 1) := by decide +kernel
theorem nd_N_note_1 : decode prog_1_method_8_code 1 = .ok (.invokestatic 62, 3) := by decide +kernel
theorem nd_N_note_4 : decode prog_1_method_8_code 4 = .ok (.ifCond .ne 5, 3) := by decide +kernel
theorem nd_N_note_7 : decode prog_1_method_8_code 7 = .ok (.iconst (-1), 1) := by decide +kernel
theorem nd_N_note_8 : decode prog_1_method_8_code 8 = .ok (.ireturn, 1) := by decide +kernel
theorem nd_N_note_9 : decode prog_1_method_8_code 9 = .ok (.aload_n 0, 1) := by decide +kernel
theorem nd_N_note_10 : decode prog_1_method_8_code 10 = .ok (.getfield 24, 3) := by decide +kernel
theorem nd_N_note_13 : decode prog_1_method_8_code 13 = .ok (.iload_n 1, 1) := by decide +kernel
theorem nd_N_note_14 : decode prog_1_method_8_code 14 = .ok (.aaload, 1) := by decide +kernel
theorem nd_N_note_15 : decode prog_1_method_8_code 15 = .ok (.astore_n 3, 1) := by decide +kernel
theorem nd_N_note_16 : decode prog_1_method_8_code 16 = .ok (.iload_n 2, 1) := by decide +kernel
theorem nd_N_note_17 : decode prog_1_method_8_code 17 = .ok (.tableswitch 103 0 7 #[47, 47, 47, 54, 59, 67, 72, 80], 47) := by decide +kernel
theorem nd_N_note_64 : decode prog_1_method_8_code 64 = .ok (.aload_n 3, 1) := by decide +kernel
theorem nd_N_note_65 : decode prog_1_method_8_code 65 = .ok (.getfield 107, 3) := by decide +kernel
theorem nd_N_note_68 : decode prog_1_method_8_code 68 = .ok (.iload_n 2, 1) := by decide +kernel
theorem nd_N_note_69 : decode prog_1_method_8_code 69 = .ok (.iaload, 1) := by decide +kernel
theorem nd_N_note_70 : decode prog_1_method_8_code 70 = .ok (.ireturn, 1) := by decide +kernel
theorem nd_N_note_71 : decode prog_1_method_8_code 71 = .ok (.aload_n 3, 1) := by decide +kernel
theorem nd_N_note_72 : decode prog_1_method_8_code 72 = .ok (.invokevirtual 110, 3) := by decide +kernel
theorem nd_N_note_75 : decode prog_1_method_8_code 75 = .ok (.ireturn, 1) := by decide +kernel
theorem nd_N_note_76 : decode prog_1_method_8_code 76 = .ok (.aload_n 3, 1) := by decide +kernel
theorem nd_N_note_77 : decode prog_1_method_8_code 77 = .ok (.getfield 113, 3) := by decide +kernel
theorem nd_N_note_80 : decode prog_1_method_8_code 80 = .ok (.getfield 117, 3) := by decide +kernel
theorem nd_N_note_83 : decode prog_1_method_8_code 83 = .ok (.ireturn, 1) := by decide +kernel
theorem nd_N_note_84 : decode prog_1_method_8_code 84 = .ok (.aload_n 3, 1) := by decide +kernel
theorem nd_N_note_85 : decode prog_1_method_8_code 85 = .ok (.invokevirtual 122, 3) := by decide +kernel
theorem nd_N_note_88 : decode prog_1_method_8_code 88 = .ok (.ireturn, 1) := by decide +kernel
theorem nd_N_note_89 : decode prog_1_method_8_code 89 = .ok (.aload_n 3, 1) := by decide +kernel
theorem nd_N_note_90 : decode prog_1_method_8_code 90 = .ok (.getfield 113, 3) := by decide +kernel
theorem nd_N_note_93 : decode prog_1_method_8_code 93 = .ok (.getfield 125, 3) := by decide +kernel
theorem nd_N_note_96 : decode prog_1_method_8_code 96 = .ok (.ireturn, 1) := by decide +kernel
theorem nd_N_note_97 : decode prog_1_method_8_code 97 = .ok (.aload_n 3, 1) := by decide +kernel
theorem nd_N_note_98 : decode prog_1_method_8_code 98 = .ok (.getfield 84, 3) := by decide +kernel
theorem nd_N_note_101 : decode prog_1_method_8_code 101 = .ok (.ifCond .eq 13, 3) := by decide +kernel
theorem nd_N_note_104 : decode prog_1_method_8_code 104 = .ok (.aload_n 3, 1) := by decide +kernel
theorem nd_N_note_105 : decode prog_1_method_8_code 105 = .ok (.getfield 113, 3) := by decide +kernel
theorem nd_N_note_108 : decode prog_1_method_8_code 108 = .ok (.getfield 128, 3) := by decide +kernel
theorem nd_N_note_111 : decode prog_1_method_8_code 111 = .ok (.ifCond .eq 7, 3) := by decide +kernel
theorem nd_N_note_114 : decode prog_1_method_8_code 114 = .ok (.iconst 1, 1) := by decide +kernel
theorem nd_N_note_115 : decode prog_1_method_8_code 115 = .ok (.goto 4, 3) := by decide +kernel
theorem nd_N_note_118 : decode prog_1_method_8_code 118 = .ok (.iconst 0, 1) := by decide +kernel
theorem nd_N_note_119 : decode prog_1_method_8_code 119 = .ok (.ireturn, 1) := by decide +kernel
theorem nd_N_note_120 : decode prog_1_method_8_code 120 = .ok (.iconst (-1), 1) := by decide +kernel
theorem nd_N_note_121 : decode prog_1_method_8_code 121 = .ok (.ireturn, 1) := by decide +kernel
theorem nd_N_read_0 : decode prog_1_method_9_code 0 = .ok (.iload_n 1, 1) := by decide +kernel
theorem nd_N_read_1 : decode prog_1_method_9_code 1 = .ok (.invokestatic 62, 3) := by decide +kernel
theorem nd_N_read_4 : decode prog_1_method_9_code 4 = .ok (.ifCond .eq 23, 3) := by decide +kernel
theorem nd_N_read_7 : decode prog_1_method_9_code 7 = .ok (.iload_n 2, 1) := by decide +kernel
theorem nd_N_read_8 : decode prog_1_method_9_code 8 = .ok (.ifCond .lt 19, 3) := by decide +kernel
theorem nd_N_read_11 : decode prog_1_method_9_code 11 = .ok (.iload_n 2, 1) := by decide +kernel
theorem nd_N_read_12 : decode prog_1_method_9_code 12 = .ok (.aload_n 0, 1) := by decide +kernel
theorem nd_N_read_13 : decode prog_1_method_9_code 13 = .ok (.getfield 24, 3) := by decide +kernel
theorem nd_N_read_16 : decode prog_1_method_9_code 16 = .ok (.iload_n 1, 1) := by decide +kernel
theorem nd_N_read_17 : decode prog_1_method_9_code 17 = .ok (.aaload, 1) := by decide +kernel
theorem nd_N_read_18 : decode prog_1_method_9_code 18 = .ok (.getfield 113, 3) := by decide +kernel
theorem nd_N_read_21 : decode prog_1_method_9_code 21 = .ok (.getfield 125, 3) := by decide +kernel
theorem nd_N_read_24 : decode prog_1_method_9_code 24 = .ok (.if_icmp .lt 5, 3) := by decide +kernel
theorem nd_N_read_27 : decode prog_1_method_9_code 27 = .ok (.iconst (-1), 1) := by decide +kernel
theorem nd_N_read_28 : decode prog_1_method_9_code 28 = .ok (.ireturn, 1) := by decide +kernel
theorem nd_N_read_29 : decode prog_1_method_9_code 29 = .ok (.aload_n 0, 1) := by decide +kernel
theorem nd_N_read_30 : decode prog_1_method_9_code 30 = .ok (.getfield 24, 3) := by decide +kernel
theorem nd_N_read_33 : decode prog_1_method_9_code 33 = .ok (.iload_n 1, 1) := by decide +kernel
theorem nd_N_read_34 : decode prog_1_method_9_code 34 = .ok (.aaload, 1) := by decide +kernel
theorem nd_N_read_35 : decode prog_1_method_9_code 35 = .ok (.getfield 113, 3) := by decide +kernel
theorem nd_N_read_38 : decode prog_1_method_9_code 38 = .ok (.getfield 131, 3) := by decide +kernel
theorem nd_N_read_41 : decode prog_1_method_9_code 41 = .ok (.iload_n 2, 1) := by decide +kernel
theorem nd_N_read_42 : decode prog_1_method_9_code 42 = .ok (.iaload, 1) := by decide +kernel
theorem nd_N_read_43 : decode prog_1_method_9_code 43 = .ok (.ireturn, 1) := by decide +kernel
theorem nd_N_count_0 : decode prog_1_method_10_code 0 = .ok (.iload_n 1, 1) := by decide +kernel
theorem nd_N_count_1 : decode prog_1_method_10_code 1 = .ok (.iconst 3, 1) := by decide +kernel
theorem nd_N_count_2 : decode prog_1_method_10_code 2 = .ok (.if_icmp .ne 8, 3) := by decide +kernel
theorem nd_N_count_5 : decode prog_1_method_10_code 5 = .ok (.aload_n 0, 1) := by decide +kernel
theorem nd_N_count_6 : decode prog_1_method_10_code 6 = .ok (.invokevirtual 134, 3) := by decide +kernel
theorem nd_N_count_9 : decode prog_1_method_10_code 9 = .ok (.ireturn, 1) := by decide +kernel
theorem nd_N_count_10 : decode prog_1_method_10_code 10 = .ok (.iload_n 1, 1) := by decide +kernel
theorem nd_N_count_11 : decode prog_1_method_10_code 11 = .ok (.ifCond .lt 17, 3) := by decide +kernel
theorem nd_N_count_14 : decode prog_1_method_10_code 14 = .ok (.iload_n 1, 1) := by decide +kernel
theorem nd_N_count_15 : decode prog_1_method_10_code 15 = .ok (.iconst 2, 1) := by decide +kernel
theorem nd_N_count_16 : decode prog_1_method_10_code 16 = .ok (.if_icmp .gt 12, 3) := by decide +kernel
theorem nd_N_count_19 : decode prog_1_method_10_code 19 = .ok (.aload_n 0, 1) := by decide +kernel
theorem nd_N_count_20 : decode prog_1_method_10_code 20 = .ok (.getfield 33, 3) := by decide +kernel
theorem nd_N_count_23 : decode prog_1_method_10_code 23 = .ok (.iload_n 1, 1) := by decide +kernel
theorem nd_N_count_24 : decode prog_1_method_10_code 24 = .ok (.iaload, 1) := by decide +kernel
theorem nd_N_count_25 : decode prog_1_method_10_code 25 = .ok (.goto 4, 3) := by decide +kernel
theorem nd_N_count_28 : decode prog_1_method_10_code 28 = .ok (.iconst (-1), 1) := by decide +kernel
theorem nd_N_count_29 : decode prog_1_method_10_code 29 = .ok (.ireturn, 1) := by decide +kernel
theorem nd_N_isCell_0 : decode prog_1_method_11_code 0 = .ok (.iload_n 0, 1) := by decide +kernel
theorem nd_N_isCell_1 : decode prog_1_method_11_code 1 = .ok (.ifCond .lt 13, 3) := by decide +kernel
theorem nd_N_isCell_4 : decode prog_1_method_11_code 4 = .ok (.iload_n 0, 1) := by decide +kernel
theorem nd_N_isCell_5 : decode prog_1_method_11_code 5 = .ok (.bipush 12, 2) := by decide +kernel
theorem nd_N_isCell_7 : decode prog_1_method_11_code 7 = .ok (.if_icmp .ge 7, 3) := by decide +kernel
theorem nd_N_isCell_10 : decode prog_1_method_11_code 10 = .ok (.iconst 1, 1) := by decide +kernel
theorem nd_N_isCell_11 : decode prog_1_method_11_code 11 = .ok (.goto 4, 3) := by decide +kernel
theorem nd_N_isCell_14 : decode prog_1_method_11_code 14 = .ok (.iconst 0, 1) := by decide +kernel
theorem nd_N_isCell_15 : decode prog_1_method_11_code 15 = .ok (.ireturn, 1) := by decide +kernel
theorem nd_N_isDurability_0 : decode prog_1_method_12_code 0 = .ok (.iload_n 0, 1) := by decide +kernel
theorem nd_N_isDurability_1 : decode prog_1_method_12_code 1 = .ok (.ifCond .lt 12, 3) := by decide +kernel
theorem nd_N_isDurability_4 : decode prog_1_method_12_code 4 = .ok (.iload_n 0, 1) := by decide +kernel
theorem nd_N_isDurability_5 : decode prog_1_method_12_code 5 = .ok (.iconst 2, 1) := by decide +kernel
theorem nd_N_isDurability_6 : decode prog_1_method_12_code 6 = .ok (.if_icmp .gt 7, 3) := by decide +kernel
theorem nd_N_isDurability_9 : decode prog_1_method_12_code 9 = .ok (.iconst 1, 1) := by decide +kernel
theorem nd_N_isDurability_10 : decode prog_1_method_12_code 10 = .ok (.goto 4, 3) := by decide +kernel
theorem nd_N_isDurability_13 : decode prog_1_method_12_code 13 = .ok (.iconst 0, 1) := by decide +kernel
theorem nd_N_isDurability_14 : decode prog_1_method_12_code 14 = .ok (.ireturn, 1) := by decide +kernel
theorem nd_N_makeFormula_0 : decode prog_1_method_13_code 0 = .ok (.aload_n 1, 1) := by decide +kernel
theorem nd_N_makeFormula_1 : decode prog_1_method_13_code 1 = .ok (.getfield 84, 3) := by decide +kernel
theorem nd_N_makeFormula_4 : decode prog_1_method_13_code 4 = .ok (.ifCond .eq 18, 3) := by decide +kernel
theorem nd_N_makeFormula_7 : decode prog_1_method_13_code 7 = .ok (.aload_n 1, 1) := by decide +kernel
theorem nd_N_makeFormula_8 : decode prog_1_method_13_code 8 = .ok (.getfield 137, 3) := by decide +kernel
theorem nd_N_makeFormula_11 : decode prog_1_method_13_code 11 = .ok (.aload_n 0, 1) := by decide +kernel
theorem nd_N_makeFormula_12 : decode prog_1_method_13_code 12 = .ok (.getfield 39, 3) := by decide +kernel
theorem nd_N_makeFormula_15 : decode prog_1_method_13_code 15 = .ok (.invokevirtual 140, 3) := by decide +kernel
theorem nd_N_makeFormula_18 : decode prog_1_method_13_code 18 = .ok (.ifCond .eq 4, 3) := by decide +kernel
theorem nd_N_makeFormula_21 : decode prog_1_method_13_code 21 = .ok (.return_, 1) := by decide +kernel
theorem nd_N_makeFormula_22 : decode prog_1_method_13_code 22 = .ok (.aload_n 0, 1) := by decide +kernel
theorem nd_N_makeFormula_23 : decode prog_1_method_13_code 23 = .ok (.aload_n 1, 1) := by decide +kernel
theorem nd_N_makeFormula_24 : decode prog_1_method_13_code 24 = .ok (.invokevirtual 144, 3) := by decide +kernel
theorem nd_N_makeFormula_27 : decode prog_1_method_13_code 27 = .ok (.invokevirtual 147, 3) := by decide +kernel
theorem nd_N_makeFormula_30 : decode prog_1_method_13_code 30 = .ok (.aload_n 1, 1) := by decide +kernel
theorem nd_N_makeFormula_31 : decode prog_1_method_13_code 31 = .ok (.getfield 137, 3) := by decide +kernel
theorem nd_N_makeFormula_34 : decode prog_1_method_13_code 34 = .ok (.aload_n 0, 1) := by decide +kernel
theorem nd_N_makeFormula_35 : decode prog_1_method_13_code 35 = .ok (.getfield 39, 3) := by decide +kernel
theorem nd_N_makeFormula_38 : decode prog_1_method_13_code 38 = .ok (.invokevirtual 151, 3) := by decide +kernel
theorem nd_N_makeFormula_41 : decode prog_1_method_13_code 41 = .ok (.aload_n 1, 1) := by decide +kernel
theorem nd_N_makeFormula_42 : decode prog_1_method_13_code 42 = .ok (.aload_n 0, 1) := by decide +kernel
theorem nd_N_makeFormula_43 : decode prog_1_method_13_code 43 = .ok (.getfield 52, 3) := by decide +kernel
theorem nd_N_makeFormula_46 : decode prog_1_method_13_code 46 = .ok (.putfield 154, 3) := by decide +kernel
theorem nd_N_makeFormula_49 : decode prog_1_method_13_code 49 = .ok (.aload_n 1, 1) := by decide +kernel
theorem nd_N_makeFormula_50 : decode prog_1_method_13_code 50 = .ok (.iconst 1, 1) := by decide +kernel
theorem nd_N_makeFormula_51 : decode prog_1_method_13_code 51 = .ok (.putfield 84, 3) := by decide +kernel
theorem nd_N_makeFormula_54 : decode prog_1_method_13_code 54 = .ok (.return_, 1) := by decide +kernel
theorem nd_N_makeInput_0 : decode prog_1_method_14_code 0 = .ok (.aload_n 0, 1) := by decide +kernel
theorem nd_N_makeInput_1 : decode prog_1_method_14_code 1 = .ok (.aload_n 1, 1) := by decide +kernel
theorem nd_N_makeInput_2 : decode prog_1_method_14_code 2 = .ok (.invokevirtual 144, 3) := by decide +kernel
theorem nd_N_makeInput_5 : decode prog_1_method_14_code 5 = .ok (.invokevirtual 147, 3) := by decide +kernel
theorem nd_N_makeInput_8 : decode prog_1_method_14_code 8 = .ok (.aload_n 1, 1) := by decide +kernel
theorem nd_N_makeInput_9 : decode prog_1_method_14_code 9 = .ok (.getfield 84, 3) := by decide +kernel
theorem nd_N_makeInput_12 : decode prog_1_method_14_code 12 = .ok (.ifCond .ne 11, 3) := by decide +kernel
theorem nd_N_makeInput_15 : decode prog_1_method_14_code 15 = .ok (.aload_n 1, 1) := by decide +kernel
theorem nd_N_makeInput_16 : decode prog_1_method_14_code 16 = .ok (.getfield 88, 3) := by decide +kernel
theorem nd_N_makeInput_19 : decode prog_1_method_14_code 19 = .ok (.iload_n 2, 1) := by decide +kernel
theorem nd_N_makeInput_20 : decode prog_1_method_14_code 20 = .ok (.if_icmp .eq 11, 3) := by decide +kernel
theorem nd_N_makeInput_23 : decode prog_1_method_14_code 23 = .ok (.aload_n 1, 1) := by decide +kernel
theorem nd_N_makeInput_24 : decode prog_1_method_14_code 24 = .ok (.aload_n 0, 1) := by decide +kernel
theorem nd_N_makeInput_25 : decode prog_1_method_14_code 25 = .ok (.getfield 52, 3) := by decide +kernel
theorem nd_N_makeInput_28 : decode prog_1_method_14_code 28 = .ok (.putfield 157, 3) := by decide +kernel
theorem nd_N_makeInput_31 : decode prog_1_method_14_code 31 = .ok (.aload_n 1, 1) := by decide +kernel
theorem nd_N_makeInput_32 : decode prog_1_method_14_code 32 = .ok (.iconst 0, 1) := by decide +kernel
theorem nd_N_makeInput_33 : decode prog_1_method_14_code 33 = .ok (.putfield 84, 3) := by decide +kernel
theorem nd_N_makeInput_36 : decode prog_1_method_14_code 36 = .ok (.aload_n 1, 1) := by decide +kernel
theorem nd_N_makeInput_37 : decode prog_1_method_14_code 37 = .ok (.iload_n 2, 1) := by decide +kernel
theorem nd_N_makeInput_38 : decode prog_1_method_14_code 38 = .ok (.putfield 88, 3) := by decide +kernel
theorem nd_N_makeInput_41 : decode prog_1_method_14_code 41 = .ok (.aload_n 1, 1) := by decide +kernel
theorem nd_N_makeInput_42 : decode prog_1_method_14_code 42 = .ok (.iload_n 3, 1) := by decide +kernel
theorem nd_N_makeInput_43 : decode prog_1_method_14_code 43 = .ok (.putfield 91, 3) := by decide +kernel
theorem nd_N_makeInput_46 : decode prog_1_method_14_code 46 = .ok (.aload_n 1, 1) := by decide +kernel
theorem nd_N_makeInput_47 : decode prog_1_method_14_code 47 = .ok (.getfield 113, 3) := by decide +kernel
theorem nd_N_makeInput_50 : decode prog_1_method_14_code 50 = .ok (.invokevirtual 160, 3) := by decide +kernel
theorem nd_N_makeInput_53 : decode prog_1_method_14_code 53 = .ok (.return_, 1) := by decide +kernel
theorem nd_N_startRevision_0 : decode prog_1_method_15_code 0 = .ok (.aload_n 0, 1) := by decide +kernel
theorem nd_N_startRevision_1 : decode prog_1_method_15_code 1 = .ok (.dup, 1) := by decide +kernel
theorem nd_N_startRevision_2 : decode prog_1_method_15_code 2 = .ok (.getfield 52, 3) := by decide +kernel
theorem nd_N_startRevision_5 : decode prog_1_method_15_code 5 = .ok (.iconst 1, 1) := by decide +kernel
theorem nd_N_startRevision_6 : decode prog_1_method_15_code 6 = .ok (.iadd, 1) := by decide +kernel
theorem nd_N_startRevision_7 : decode prog_1_method_15_code 7 = .ok (.putfield 52, 3) := by decide +kernel
theorem nd_N_startRevision_10 : decode prog_1_method_15_code 10 = .ok (.iconst 0, 1) := by decide +kernel
theorem nd_N_startRevision_11 : decode prog_1_method_15_code 11 = .ok (.istore_n 2, 1) := by decide +kernel
theorem nd_N_startRevision_12 : decode prog_1_method_15_code 12 = .ok (.iload_n 2, 1) := by decide +kernel
theorem nd_N_startRevision_13 : decode prog_1_method_15_code 13 = .ok (.iload_n 1, 1) := by decide +kernel
theorem nd_N_startRevision_14 : decode prog_1_method_15_code 14 = .ok (.if_icmp .gt 19, 3) := by decide +kernel
theorem nd_N_startRevision_17 : decode prog_1_method_15_code 17 = .ok (.aload_n 0, 1) := by decide +kernel
theorem nd_N_startRevision_18 : decode prog_1_method_15_code 18 = .ok (.getfield 29, 3) := by decide +kernel
theorem nd_N_startRevision_21 : decode prog_1_method_15_code 21 = .ok (.iload_n 2, 1) := by decide +kernel
theorem nd_N_startRevision_22 : decode prog_1_method_15_code 22 = .ok (.aload_n 0, 1) := by decide +kernel
theorem nd_N_startRevision_23 : decode prog_1_method_15_code 23 = .ok (.getfield 52, 3) := by decide +kernel
theorem nd_N_startRevision_26 : decode prog_1_method_15_code 26 = .ok (.iastore, 1) := by decide +kernel
theorem nd_N_startRevision_27 : decode prog_1_method_15_code 27 = .ok (.iinc 2 1, 3) := by decide +kernel
theorem nd_N_startRevision_30 : decode prog_1_method_15_code 30 = .ok (.goto (-18), 3) := by decide +kernel
theorem nd_N_startRevision_33 : decode prog_1_method_15_code 33 = .ok (.return_, 1) := by decide +kernel
theorem nd_N_upToDateValue_0 : decode prog_1_method_16_code 0 = .ok (.aload_n 1, 1) := by decide +kernel
theorem nd_N_upToDateValue_1 : decode prog_1_method_16_code 1 = .ok (.getfield 84, 3) := by decide +kernel
theorem nd_N_upToDateValue_4 : decode prog_1_method_16_code 4 = .ok (.ifCond .ne 9, 3) := by decide +kernel
theorem nd_N_upToDateValue_7 : decode prog_1_method_16_code 7 = .ok (.aload_n 1, 1) := by decide +kernel
theorem nd_N_upToDateValue_8 : decode prog_1_method_16_code 8 = .ok (.getfield 88, 3) := by decide +kernel
theorem nd_N_upToDateValue_11 : decode prog_1_method_16_code 11 = .ok (.i2l, 1) := by decide +kernel
theorem nd_N_upToDateValue_12 : decode prog_1_method_16_code 12 = .ok (.lreturn, 1) := by decide +kernel
theorem nd_N_upToDateValue_13 : decode prog_1_method_16_code 13 = .ok (.aload_n 0, 1) := by decide +kernel
theorem nd_N_upToDateValue_14 : decode prog_1_method_16_code 14 = .ok (.aload_n 1, 1) := by decide +kernel
theorem nd_N_upToDateValue_15 : decode prog_1_method_16_code 15 = .ok (.invokevirtual 163, 3) := by decide +kernel
theorem nd_N_upToDateValue_18 : decode prog_1_method_16_code 18 = .ok (.aload_n 1, 1) := by decide +kernel
theorem nd_N_upToDateValue_19 : decode prog_1_method_16_code 19 = .ok (.getfield 113, 3) := by decide +kernel
theorem nd_N_upToDateValue_22 : decode prog_1_method_16_code 22 = .ok (.getfield 128, 3) := by decide +kernel
theorem nd_N_upToDateValue_25 : decode prog_1_method_16_code 25 = .ok (.ifCond .ne 8, 3) := by decide +kernel
theorem nd_N_upToDateValue_28 : decode prog_1_method_16_code 28 = .ok (.aload_n 0, 1) := by decide +kernel
theorem nd_N_upToDateValue_29 : decode prog_1_method_16_code 29 = .ok (.aload_n 1, 1) := by decide +kernel
theorem nd_N_upToDateValue_30 : decode prog_1_method_16_code 30 = .ok (.invokevirtual 166, 3) := by decide +kernel
theorem nd_N_upToDateValue_33 : decode prog_1_method_16_code 33 = .ok (.aload_n 0, 1) := by decide +kernel
theorem nd_N_upToDateValue_34 : decode prog_1_method_16_code 34 = .ok (.aload_n 1, 1) := by decide +kernel
theorem nd_N_upToDateValue_35 : decode prog_1_method_16_code 35 = .ok (.invokevirtual 169, 3) := by decide +kernel
theorem nd_N_upToDateValue_38 : decode prog_1_method_16_code 38 = .ok (.aload_n 1, 1) := by decide +kernel
theorem nd_N_upToDateValue_39 : decode prog_1_method_16_code 39 = .ok (.getfield 113, 3) := by decide +kernel
theorem nd_N_upToDateValue_42 : decode prog_1_method_16_code 42 = .ok (.getfield 172, 3) := by decide +kernel
theorem nd_N_upToDateValue_45 : decode prog_1_method_16_code 45 = .ok (.lreturn, 1) := by decide +kernel
theorem nd_N_bringUpToDate_0 : decode prog_1_method_17_code 0 = .ok (.aload_n 1, 1) := by decide +kernel
theorem nd_N_bringUpToDate_1 : decode prog_1_method_17_code 1 = .ok (.getfield 84, 3) := by decide +kernel
theorem nd_N_bringUpToDate_4 : decode prog_1_method_17_code 4 = .ok (.ifCond .eq 24, 3) := by decide +kernel
theorem nd_N_bringUpToDate_7 : decode prog_1_method_17_code 7 = .ok (.aload_n 1, 1) := by decide +kernel
theorem nd_N_bringUpToDate_8 : decode prog_1_method_17_code 8 = .ok (.getfield 176, 3) := by decide +kernel
theorem nd_N_bringUpToDate_11 : decode prog_1_method_17_code 11 = .ok (.ifCond .ne 17, 3) := by decide +kernel
theorem nd_N_bringUpToDate_14 : decode prog_1_method_17_code 14 = .ok (.aload_n 1, 1) := by decide +kernel
theorem nd_N_bringUpToDate_15 : decode prog_1_method_17_code 15 = .ok (.getfield 113, 3) := by decide +kernel
theorem nd_N_bringUpToDate_18 : decode prog_1_method_17_code 18 = .ok (.aload_n 0, 1) := by decide +kernel
theorem nd_N_bringUpToDate_19 : decode prog_1_method_17_code 19 = .ok (.getfield 52, 3) := by decide +kernel
theorem nd_N_bringUpToDate_22 : decode prog_1_method_17_code 22 = .ok (.invokevirtual 179, 3) := by decide +kernel
theorem nd_N_bringUpToDate_25 : decode prog_1_method_17_code 25 = .ok (.ifCond .eq 4, 3) := by decide +kernel
theorem nd_N_bringUpToDate_28 : decode prog_1_method_17_code 28 = .ok (.return_, 1) := by decide +kernel
theorem nd_N_bringUpToDate_29 : decode prog_1_method_17_code 29 = .ok (.aload_n 1, 1) := by decide +kernel
theorem nd_N_bringUpToDate_30 : decode prog_1_method_17_code 30 = .ok (.iconst 1, 1) := by decide +kernel
theorem nd_N_bringUpToDate_31 : decode prog_1_method_17_code 31 = .ok (.putfield 176, 3) := by decide +kernel
theorem nd_N_bringUpToDate_34 : decode prog_1_method_17_code 34 = .ok (.aload_n 0, 1) := by decide +kernel
theorem nd_N_bringUpToDate_35 : decode prog_1_method_17_code 35 = .ok (.aload_n 1, 1) := by decide +kernel
theorem nd_N_bringUpToDate_36 : decode prog_1_method_17_code 36 = .ok (.getfield 113, 3) := by decide +kernel
theorem nd_N_bringUpToDate_39 : decode prog_1_method_17_code 39 = .ok (.invokevirtual 182, 3) := by decide +kernel
theorem nd_N_bringUpToDate_42 : decode prog_1_method_17_code 42 = .ok (.ifCond .eq 12, 3) := by decide +kernel
theorem nd_N_bringUpToDate_45 : decode prog_1_method_17_code 45 = .ok (.aload_n 0, 1) := by decide +kernel
theorem nd_N_bringUpToDate_46 : decode prog_1_method_17_code 46 = .ok (.aload_n 1, 1) := by decide +kernel
theorem nd_N_bringUpToDate_47 : decode prog_1_method_17_code 47 = .ok (.iconst 2, 1) := by decide +kernel
theorem nd_N_bringUpToDate_48 : decode prog_1_method_17_code 48 = .ok (.invokevirtual 186, 3) := by decide +kernel
theorem nd_N_bringUpToDate_51 : decode prog_1_method_17_code 51 = .ok (.goto 40, 3) := by decide +kernel
theorem nd_N_bringUpToDate_54 : decode prog_1_method_17_code 54 = .ok (.aload_n 0, 1) := by decide +kernel
theorem nd_N_bringUpToDate_55 : decode prog_1_method_17_code 55 = .ok (.aload_n 1, 1) := by decide +kernel
theorem nd_N_bringUpToDate_56 : decode prog_1_method_17_code 56 = .ok (.invokevirtual 190, 3) := by decide +kernel
theorem nd_N_bringUpToDate_59 : decode prog_1_method_17_code 59 = .ok (.ifCond .eq 27, 3) := by decide +kernel
theorem nd_N_bringUpToDate_62 : decode prog_1_method_17_code 62 = .ok (.aload_n 1, 1) := by decide +kernel
theorem nd_N_bringUpToDate_63 : decode prog_1_method_17_code 63 = .ok (.getfield 113, 3) := by decide +kernel
theorem nd_N_bringUpToDate_66 : decode prog_1_method_17_code 66 = .ok (.aload_n 0, 1) := by decide +kernel
theorem nd_N_bringUpToDate_67 : decode prog_1_method_17_code 67 = .ok (.aload_n 1, 1) := by decide +kernel
theorem nd_N_bringUpToDate_68 : decode prog_1_method_17_code 68 = .ok (.getfield 113, 3) := by decide +kernel
theorem nd_N_bringUpToDate_71 : decode prog_1_method_17_code 71 = .ok (.invokevirtual 194, 3) := by decide +kernel
theorem nd_N_bringUpToDate_74 : decode prog_1_method_17_code 74 = .ok (.putfield 198, 3) := by decide +kernel
theorem nd_N_bringUpToDate_77 : decode prog_1_method_17_code 77 = .ok (.aload_n 0, 1) := by decide +kernel
theorem nd_N_bringUpToDate_78 : decode prog_1_method_17_code 78 = .ok (.aload_n 1, 1) := by decide +kernel
theorem nd_N_bringUpToDate_79 : decode prog_1_method_17_code 79 = .ok (.iconst 1, 1) := by decide +kernel
theorem nd_N_bringUpToDate_80 : decode prog_1_method_17_code 80 = .ok (.invokevirtual 186, 3) := by decide +kernel
theorem nd_N_bringUpToDate_83 : decode prog_1_method_17_code 83 = .ok (.goto 8, 3) := by decide +kernel
theorem nd_N_bringUpToDate_86 : decode prog_1_method_17_code 86 = .ok (.aload_n 0, 1) := by decide +kernel
theorem nd_N_bringUpToDate_87 : decode prog_1_method_17_code 87 = .ok (.aload_n 1, 1) := by decide +kernel
theorem nd_N_bringUpToDate_88 : decode prog_1_method_17_code 88 = .ok (.invokevirtual 166, 3) := by decide +kernel
theorem nd_N_bringUpToDate_91 : decode prog_1_method_17_code 91 = .ok (.aload_n 1, 1) := by decide +kernel
theorem nd_N_bringUpToDate_92 : decode prog_1_method_17_code 92 = .ok (.iconst 0, 1) := by decide +kernel
theorem nd_N_bringUpToDate_93 : decode prog_1_method_17_code 93 = .ok (.putfield 176, 3) := by decide +kernel
theorem nd_N_bringUpToDate_96 : decode prog_1_method_17_code 96 = .ok (.return_, 1) := by decide +kernel
theorem nd_N_passes_0 : decode prog_1_method_18_code 0 = .ok (.aload_n 1, 1) := by decide +kernel
theorem nd_N_passes_1 : decode prog_1_method_18_code 1 = .ok (.getfield 199, 3) := by decide +kernel
theorem nd_N_passes_4 : decode prog_1_method_18_code 4 = .ok (.ifCond .eq 23, 3) := by decide +kernel
theorem nd_N_passes_7 : decode prog_1_method_18_code 7 = .ok (.aload_n 0, 1) := by decide +kernel
theorem nd_N_passes_8 : decode prog_1_method_18_code 8 = .ok (.getfield 29, 3) := by decide +kernel
theorem nd_N_passes_11 : decode prog_1_method_18_code 11 = .ok (.aload_n 1, 1) := by decide +kernel
theorem nd_N_passes_12 : decode prog_1_method_18_code 12 = .ok (.getfield 198, 3) := by decide +kernel
theorem nd_N_passes_15 : decode prog_1_method_18_code 15 = .ok (.iaload, 1) := by decide +kernel
theorem nd_N_passes_16 : decode prog_1_method_18_code 16 = .ok (.aload_n 1, 1) := by decide +kernel
theorem nd_N_passes_17 : decode prog_1_method_18_code 17 = .ok (.getfield 117, 3) := by decide +kernel
theorem nd_N_passes_20 : decode prog_1_method_18_code 20 = .ok (.if_icmp .gt 7, 3) := by decide +kernel
theorem nd_N_passes_23 : decode prog_1_method_18_code 23 = .ok (.iconst 1, 1) := by decide +kernel
theorem nd_N_passes_24 : decode prog_1_method_18_code 24 = .ok (.goto 4, 3) := by decide +kernel
theorem nd_N_passes_27 : decode prog_1_method_18_code 27 = .ok (.iconst 0, 1) := by decide +kernel
theorem nd_N_passes_28 : decode prog_1_method_18_code 28 = .ok (.ireturn, 1) := by decide +kernel
theorem nd_N_readsAreUnchanged_0 : decode prog_1_method_19_code 0 = .ok (.aload_n 1, 1) := by decide +kernel
theorem nd_N_readsAreUnchanged_1 : decode prog_1_method_19_code 1 = .ok (.getfield 113, 3) := by decide +kernel
theorem nd_N_readsAreUnchanged_4 : decode prog_1_method_19_code 4 = .ok (.astore_n 2, 1) := by decide +kernel
theorem nd_N_readsAreUnchanged_5 : decode prog_1_method_19_code 5 = .ok (.aload_n 2, 1) := by decide +kernel
theorem nd_N_readsAreUnchanged_6 : decode prog_1_method_19_code 6 = .ok (.getfield 199, 3) := by decide +kernel
theorem nd_N_readsAreUnchanged_9 : decode prog_1_method_19_code 9 = .ok (.ifCond .eq 14, 3) := by decide +kernel
theorem nd_N_readsAreUnchanged_12 : decode prog_1_method_19_code 12 = .ok (.aload_n 1, 1) := by decide +kernel
theorem nd_N_readsAreUnchanged_13 : decode prog_1_method_19_code 13 = .ok (.getfield 154, 3) := by decide +kernel
theorem nd_N_readsAreUnchanged_16 : decode prog_1_method_19_code 16 = .ok (.aload_n 2, 1) := by decide +kernel
theorem nd_N_readsAreUnchanged_17 : decode prog_1_method_19_code 17 = .ok (.getfield 117, 3) := by decide +kernel
theorem nd_N_readsAreUnchanged_20 : decode prog_1_method_19_code 20 = .ok (.if_icmp .le 5, 3) := by decide +kernel
theorem nd_N_readsAreUnchanged_23 : decode prog_1_method_19_code 23 = .ok (.iconst 0, 1) := by decide +kernel
theorem nd_N_readsAreUnchanged_24 : decode prog_1_method_19_code 24 = .ok (.ireturn, 1) := by decide +kernel
theorem nd_N_readsAreUnchanged_25 : decode prog_1_method_19_code 25 = .ok (.iconst 0, 1) := by decide +kernel
theorem nd_N_readsAreUnchanged_26 : decode prog_1_method_19_code 26 = .ok (.istore_n 3, 1) := by decide +kernel
theorem nd_N_readsAreUnchanged_27 : decode prog_1_method_19_code 27 = .ok (.iload_n 3, 1) := by decide +kernel
theorem nd_N_readsAreUnchanged_28 : decode prog_1_method_19_code 28 = .ok (.aload_n 2, 1) := by decide +kernel
theorem nd_N_readsAreUnchanged_29 : decode prog_1_method_19_code 29 = .ok (.getfield 125, 3) := by decide +kernel
theorem nd_N_readsAreUnchanged_32 : decode prog_1_method_19_code 32 = .ok (.if_icmp .ge 50, 3) := by decide +kernel
theorem nd_N_readsAreUnchanged_35 : decode prog_1_method_19_code 35 = .ok (.aload_n 0, 1) := by decide +kernel
theorem nd_N_readsAreUnchanged_36 : decode prog_1_method_19_code 36 = .ok (.getfield 24, 3) := by decide +kernel
theorem nd_N_readsAreUnchanged_39 : decode prog_1_method_19_code 39 = .ok (.aload_n 2, 1) := by decide +kernel
theorem nd_N_readsAreUnchanged_40 : decode prog_1_method_19_code 40 = .ok (.getfield 131, 3) := by decide +kernel
theorem nd_N_readsAreUnchanged_43 : decode prog_1_method_19_code 43 = .ok (.iload_n 3, 1) := by decide +kernel
theorem nd_N_readsAreUnchanged_44 : decode prog_1_method_19_code 44 = .ok (.iaload, 1) := by decide +kernel
theorem nd_N_readsAreUnchanged_45 : decode prog_1_method_19_code 45 = .ok (.aaload, 1) := by decide +kernel
theorem nd_N_readsAreUnchanged_46 : decode prog_1_method_19_code 46 = .ok (.astore 4, 2) := by decide +kernel
theorem nd_N_readsAreUnchanged_48 : decode prog_1_method_19_code 48 = .ok (.aload_n 0, 1) := by decide +kernel
theorem nd_N_readsAreUnchanged_49 : decode prog_1_method_19_code 49 = .ok (.aload 4, 2) := by decide +kernel
theorem nd_N_readsAreUnchanged_51 : decode prog_1_method_19_code 51 = .ok (.invokevirtual 163, 3) := by decide +kernel
theorem nd_N_readsAreUnchanged_54 : decode prog_1_method_19_code 54 = .ok (.aload 4, 2) := by decide +kernel
theorem nd_N_readsAreUnchanged_56 : decode prog_1_method_19_code 56 = .ok (.getfield 176, 3) := by decide +kernel
theorem nd_N_readsAreUnchanged_59 : decode prog_1_method_19_code 59 = .ok (.ifCond .ne 15, 3) := by decide +kernel
theorem nd_N_readsAreUnchanged_62 : decode prog_1_method_19_code 62 = .ok (.aload 4, 2) := by decide +kernel
theorem nd_N_readsAreUnchanged_64 : decode prog_1_method_19_code 64 = .ok (.invokevirtual 110, 3) := by decide +kernel
theorem nd_N_readsAreUnchanged_67 : decode prog_1_method_19_code 67 = .ok (.aload_n 2, 1) := by decide +kernel
theorem nd_N_readsAreUnchanged_68 : decode prog_1_method_19_code 68 = .ok (.getfield 117, 3) := by decide +kernel
theorem nd_N_readsAreUnchanged_71 : decode prog_1_method_19_code 71 = .ok (.if_icmp .le 5, 3) := by decide +kernel
theorem nd_N_readsAreUnchanged_74 : decode prog_1_method_19_code 74 = .ok (.iconst 0, 1) := by decide +kernel
theorem nd_N_readsAreUnchanged_75 : decode prog_1_method_19_code 75 = .ok (.ireturn, 1) := by decide +kernel
theorem nd_N_readsAreUnchanged_76 : decode prog_1_method_19_code 76 = .ok (.iinc 3 1, 3) := by decide +kernel
theorem nd_N_readsAreUnchanged_79 : decode prog_1_method_19_code 79 = .ok (.goto (-52), 3) := by decide +kernel
theorem nd_N_readsAreUnchanged_82 : decode prog_1_method_19_code 82 = .ok (.iconst 1, 1) := by decide +kernel
theorem nd_N_readsAreUnchanged_83 : decode prog_1_method_19_code 83 = .ok (.ireturn, 1) := by decide +kernel
theorem nd_N_verify_0 : decode prog_1_method_20_code 0 = .ok (.aload_n 1, 1) := by decide +kernel
theorem nd_N_verify_1 : decode prog_1_method_20_code 1 = .ok (.getfield 113, 3) := by decide +kernel
theorem nd_N_verify_4 : decode prog_1_method_20_code 4 = .ok (.aload_n 0, 1) := by decide +kernel
theorem nd_N_verify_5 : decode prog_1_method_20_code 5 = .ok (.getfield 52, 3) := by decide +kernel
theorem nd_N_verify_8 : decode prog_1_method_20_code 8 = .ok (.putfield 117, 3) := by decide +kernel
theorem nd_N_verify_11 : decode prog_1_method_20_code 11 = .ok (.aload_n 0, 1) := by decide +kernel
theorem nd_N_verify_12 : decode prog_1_method_20_code 12 = .ok (.aload_n 1, 1) := by decide +kernel
theorem nd_N_verify_13 : decode prog_1_method_20_code 13 = .ok (.iload_n 2, 1) := by decide +kernel
theorem nd_N_verify_14 : decode prog_1_method_20_code 14 = .ok (.invokevirtual 202, 3) := by decide +kernel
theorem nd_N_verify_17 : decode prog_1_method_20_code 17 = .ok (.return_, 1) := by decide +kernel
theorem nd_N_workOut_0 : decode prog_1_method_21_code 0 = .ok (.aload_n 1, 1) := by decide +kernel
theorem nd_N_workOut_1 : decode prog_1_method_21_code 1 = .ok (.iconst 1, 1) := by decide +kernel
theorem nd_N_workOut_2 : decode prog_1_method_21_code 2 = .ok (.putfield 176, 3) := by decide +kernel
theorem nd_N_workOut_5 : decode prog_1_method_21_code 5 = .ok (.aload_n 1, 1) := by decide +kernel
theorem nd_N_workOut_6 : decode prog_1_method_21_code 6 = .ok (.getfield 113, 3) := by decide +kernel
theorem nd_N_workOut_9 : decode prog_1_method_21_code 9 = .ok (.iconst 0, 1) := by decide +kernel
theorem nd_N_workOut_10 : decode prog_1_method_21_code 10 = .ok (.putfield 125, 3) := by decide +kernel
theorem nd_N_workOut_13 : decode prog_1_method_21_code 13 = .ok (.aload_n 0, 1) := by decide +kernel
theorem nd_N_workOut_14 : decode prog_1_method_21_code 14 = .ok (.aload_n 1, 1) := by decide +kernel
theorem nd_N_workOut_15 : decode prog_1_method_21_code 15 = .ok (.invokevirtual 204, 3) := by decide +kernel
theorem nd_N_workOut_18 : decode prog_1_method_21_code 18 = .ok (.lstore_n 2, 1) := by decide +kernel
theorem nd_N_workOut_19 : decode prog_1_method_21_code 19 = .ok (.aload_n 1, 1) := by decide +kernel
theorem nd_N_workOut_20 : decode prog_1_method_21_code 20 = .ok (.getfield 113, 3) := by decide +kernel
theorem nd_N_workOut_23 : decode prog_1_method_21_code 23 = .ok (.aload_n 0, 1) := by decide +kernel
theorem nd_N_workOut_24 : decode prog_1_method_21_code 24 = .ok (.aload_n 1, 1) := by decide +kernel
theorem nd_N_workOut_25 : decode prog_1_method_21_code 25 = .ok (.getfield 113, 3) := by decide +kernel
theorem nd_N_workOut_28 : decode prog_1_method_21_code 28 = .ok (.invokevirtual 194, 3) := by decide +kernel
theorem nd_N_workOut_31 : decode prog_1_method_21_code 31 = .ok (.putfield 198, 3) := by decide +kernel
theorem nd_N_workOut_34 : decode prog_1_method_21_code 34 = .ok (.aload_n 1, 1) := by decide +kernel
theorem nd_N_workOut_35 : decode prog_1_method_21_code 35 = .ok (.getfield 113, 3) := by decide +kernel
theorem nd_N_workOut_38 : decode prog_1_method_21_code 38 = .ok (.lload_n 2, 1) := by decide +kernel
theorem nd_N_workOut_39 : decode prog_1_method_21_code 39 = .ok (.aload_n 0, 1) := by decide +kernel
theorem nd_N_workOut_40 : decode prog_1_method_21_code 40 = .ok (.getfield 52, 3) := by decide +kernel
theorem nd_N_workOut_43 : decode prog_1_method_21_code 43 = .ok (.invokevirtual 207, 3) := by decide +kernel
theorem nd_N_workOut_46 : decode prog_1_method_21_code 46 = .ok (.aload_n 0, 1) := by decide +kernel
theorem nd_N_workOut_47 : decode prog_1_method_21_code 47 = .ok (.aload_n 1, 1) := by decide +kernel
theorem nd_N_workOut_48 : decode prog_1_method_21_code 48 = .ok (.invokevirtual 169, 3) := by decide +kernel
theorem nd_N_workOut_51 : decode prog_1_method_21_code 51 = .ok (.aload_n 0, 1) := by decide +kernel
theorem nd_N_workOut_52 : decode prog_1_method_21_code 52 = .ok (.aload_n 1, 1) := by decide +kernel
theorem nd_N_workOut_53 : decode prog_1_method_21_code 53 = .ok (.iconst 0, 1) := by decide +kernel
theorem nd_N_workOut_54 : decode prog_1_method_21_code 54 = .ok (.invokevirtual 202, 3) := by decide +kernel
theorem nd_N_workOut_57 : decode prog_1_method_21_code 57 = .ok (.aload_n 1, 1) := by decide +kernel
theorem nd_N_workOut_58 : decode prog_1_method_21_code 58 = .ok (.iconst 0, 1) := by decide +kernel
theorem nd_N_workOut_59 : decode prog_1_method_21_code 59 = .ok (.putfield 176, 3) := by decide +kernel
theorem nd_N_workOut_62 : decode prog_1_method_21_code 62 = .ok (.return_, 1) := by decide +kernel
theorem nd_N_leastDurability_0 : decode prog_1_method_22_code 0 = .ok (.iconst 2, 1) := by decide +kernel
theorem nd_N_leastDurability_1 : decode prog_1_method_22_code 1 = .ok (.istore_n 2, 1) := by decide +kernel
theorem nd_N_leastDurability_2 : decode prog_1_method_22_code 2 = .ok (.iconst 0, 1) := by decide +kernel
theorem nd_N_leastDurability_3 : decode prog_1_method_22_code 3 = .ok (.istore_n 3, 1) := by decide +kernel
theorem nd_N_leastDurability_4 : decode prog_1_method_22_code 4 = .ok (.iload_n 3, 1) := by decide +kernel
theorem nd_N_leastDurability_5 : decode prog_1_method_22_code 5 = .ok (.aload_n 1, 1) := by decide +kernel
theorem nd_N_leastDurability_6 : decode prog_1_method_22_code 6 = .ok (.getfield 125, 3) := by decide +kernel
theorem nd_N_leastDurability_9 : decode prog_1_method_22_code 9 = .ok (.if_icmp .ge 44, 3) := by decide +kernel
theorem nd_N_leastDurability_12 : decode prog_1_method_22_code 12 = .ok (.aload_n 0, 1) := by decide +kernel
theorem nd_N_leastDurability_13 : decode prog_1_method_22_code 13 = .ok (.getfield 24, 3) := by decide +kernel
theorem nd_N_leastDurability_16 : decode prog_1_method_22_code 16 = .ok (.aload_n 1, 1) := by decide +kernel
theorem nd_N_leastDurability_17 : decode prog_1_method_22_code 17 = .ok (.getfield 131, 3) := by decide +kernel
theorem nd_N_leastDurability_20 : decode prog_1_method_22_code 20 = .ok (.iload_n 3, 1) := by decide +kernel
theorem nd_N_leastDurability_21 : decode prog_1_method_22_code 21 = .ok (.iaload, 1) := by decide +kernel
theorem nd_N_leastDurability_22 : decode prog_1_method_22_code 22 = .ok (.aaload, 1) := by decide +kernel
theorem nd_N_leastDurability_23 : decode prog_1_method_22_code 23 = .ok (.astore 4, 2) := by decide +kernel
theorem nd_N_leastDurability_25 : decode prog_1_method_22_code 25 = .ok (.iload_n 2, 1) := by decide +kernel
theorem nd_N_leastDurability_26 : decode prog_1_method_22_code 26 = .ok (.aload 4, 2) := by decide +kernel
theorem nd_N_leastDurability_28 : decode prog_1_method_22_code 28 = .ok (.getfield 176, 3) := by decide +kernel
theorem nd_N_leastDurability_31 : decode prog_1_method_22_code 31 = .ok (.ifCond .eq 7, 3) := by decide +kernel
theorem nd_N_leastDurability_34 : decode prog_1_method_22_code 34 = .ok (.iconst 0, 1) := by decide +kernel
theorem nd_N_leastDurability_35 : decode prog_1_method_22_code 35 = .ok (.goto 8, 3) := by decide +kernel
theorem nd_N_leastDurability_38 : decode prog_1_method_22_code 38 = .ok (.aload 4, 2) := by decide +kernel
theorem nd_N_leastDurability_40 : decode prog_1_method_22_code 40 = .ok (.invokevirtual 122, 3) := by decide +kernel
theorem nd_N_leastDurability_43 : decode prog_1_method_22_code 43 = .ok (.invokestatic 9, 3) := by decide +kernel
theorem nd_N_leastDurability_46 : decode prog_1_method_22_code 46 = .ok (.istore_n 2, 1) := by decide +kernel
theorem nd_N_leastDurability_47 : decode prog_1_method_22_code 47 = .ok (.iinc 3 1, 3) := by decide +kernel
theorem nd_N_leastDurability_50 : decode prog_1_method_22_code 50 = .ok (.goto (-46), 3) := by decide +kernel
theorem nd_N_leastDurability_53 : decode prog_1_method_22_code 53 = .ok (.iload_n 2, 1) := by decide +kernel
theorem nd_N_leastDurability_54 : decode prog_1_method_22_code 54 = .ok (.ireturn, 1) := by decide +kernel
theorem nd_N_evaluate_0 : decode prog_1_method_23_code 0 = .ok (.aload_n 1, 1) := by decide +kernel
theorem nd_N_evaluate_1 : decode prog_1_method_23_code 1 = .ok (.getfield 137, 3) := by decide +kernel
theorem nd_N_evaluate_4 : decode prog_1_method_23_code 4 = .ok (.astore_n 2, 1) := by decide +kernel
theorem nd_N_evaluate_5 : decode prog_1_method_23_code 5 = .ok (.aload_n 1, 1) := by decide +kernel
theorem nd_N_evaluate_6 : decode prog_1_method_23_code 6 = .ok (.getfield 211, 3) := by decide +kernel
theorem nd_N_evaluate_9 : decode prog_1_method_23_code 9 = .ok (.astore_n 3, 1) := by decide +kernel
theorem nd_N_evaluate_10 : decode prog_1_method_23_code 10 = .ok (.iconst 0, 1) := by decide +kernel
theorem nd_N_evaluate_11 : decode prog_1_method_23_code 11 = .ok (.istore 4, 2) := by decide +kernel
theorem nd_N_evaluate_13 : decode prog_1_method_23_code 13 = .ok (.iconst 0, 1) := by decide +kernel
theorem nd_N_evaluate_14 : decode prog_1_method_23_code 14 = .ok (.istore 5, 2) := by decide +kernel
theorem nd_N_evaluate_16 : decode prog_1_method_23_code 16 = .ok (.iconst 0, 1) := by decide +kernel
theorem nd_N_evaluate_17 : decode prog_1_method_23_code 17 = .ok (.istore 6, 2) := by decide +kernel
theorem nd_N_evaluate_19 : decode prog_1_method_23_code 19 = .ok (.iload 6, 2) := by decide +kernel
theorem nd_N_evaluate_21 : decode prog_1_method_23_code 21 = .ok (.bipush 30, 2) := by decide +kernel
theorem nd_N_evaluate_23 : decode prog_1_method_23_code 23 = .ok (.if_icmp .ge 220, 3) := by decide +kernel
theorem nd_N_evaluate_26 : decode prog_1_method_23_code 26 = .ok (.iload 5, 2) := by decide +kernel
theorem nd_N_evaluate_28 : decode prog_1_method_23_code 28 = .ok (.aload_n 2, 1) := by decide +kernel
theorem nd_N_evaluate_29 : decode prog_1_method_23_code 29 = .ok (.getfield 214, 3) := by decide +kernel
theorem nd_N_evaluate_32 : decode prog_1_method_23_code 32 = .ok (.if_icmp .ge 211, 3) := by decide +kernel
theorem nd_N_evaluate_35 : decode prog_1_method_23_code 35 = .ok (.aload_n 2, 1) := by decide +kernel
theorem nd_N_evaluate_36 : decode prog_1_method_23_code 36 = .ok (.iload 5, 2) := by decide +kernel
theorem nd_N_evaluate_38 : decode prog_1_method_23_code 38 = .ok (.invokevirtual 217, 3) := by decide +kernel
theorem nd_N_evaluate_41 : decode prog_1_method_23_code 41 = .ok (.istore 7, 2) := by decide +kernel
theorem nd_N_evaluate_43 : decode prog_1_method_23_code 43 = .ok (.aload_n 2, 1) := by decide +kernel
theorem nd_N_evaluate_44 : decode prog_1_method_23_code 44 = .ok (.iload 5, 2) := by decide +kernel
theorem nd_N_evaluate_46 : decode prog_1_method_23_code 46 = .ok (.invokevirtual 221, 3) := by decide +kernel
theorem nd_N_evaluate_49 : decode prog_1_method_23_code 49 = .ok (.istore 8, 2) := by decide +kernel
theorem nd_N_evaluate_51 : decode prog_1_method_23_code 51 = .ok (.iinc 5 1, 3) := by decide +kernel
theorem nd_N_evaluate_54 : decode prog_1_method_23_code 54 = .ok (.iload 8, 2) := by decide +kernel
theorem nd_N_evaluate_56 : decode prog_1_method_23_code 56 = .ok (.tableswitch 157 0 5 #[40, 52, 52, 112, 128, 150], 40) := by decide +kernel
theorem nd_N_evaluate_96 : decode prog_1_method_23_code 96 = .ok (.aload_n 3, 1) := by decide +kernel
theorem nd_N_evaluate_97 : decode prog_1_method_23_code 97 = .ok (.iload 4, 2) := by decide +kernel
theorem nd_N_evaluate_99 : decode prog_1_method_23_code 99 = .ok (.iinc 4 1, 3) := by decide +kernel
theorem nd_N_evaluate_102 : decode prog_1_method_23_code 102 = .ok (.iload 7, 2) := by decide +kernel
theorem nd_N_evaluate_104 : decode prog_1_method_23_code 104 = .ok (.iastore, 1) := by decide +kernel
theorem nd_N_evaluate_105 : decode prog_1_method_23_code 105 = .ok (.goto 132, 3) := by decide +kernel
theorem nd_N_evaluate_108 : decode prog_1_method_23_code 108 = .ok (.iload 8, 2) := by decide +kernel
theorem nd_N_evaluate_110 : decode prog_1_method_23_code 110 = .ok (.iconst 1, 1) := by decide +kernel
theorem nd_N_evaluate_111 : decode prog_1_method_23_code 111 = .ok (.if_icmp .ne 8, 3) := by decide +kernel
theorem nd_N_evaluate_114 : decode prog_1_method_23_code 114 = .ok (.iload 7, 2) := by decide +kernel
theorem nd_N_evaluate_116 : decode prog_1_method_23_code 116 = .ok (.goto 15, 3) := by decide +kernel
theorem nd_N_evaluate_119 : decode prog_1_method_23_code 119 = .ok (.aload_n 3, 1) := by decide +kernel
theorem nd_N_evaluate_120 : decode prog_1_method_23_code 120 = .ok (.iinc 4 (-1), 3) := by decide +kernel
theorem nd_N_evaluate_123 : decode prog_1_method_23_code 123 = .ok (.iload 4, 2) := by decide +kernel
theorem nd_N_evaluate_125 : decode prog_1_method_23_code 125 = .ok (.iaload, 1) := by decide +kernel
theorem nd_N_evaluate_126 : decode prog_1_method_23_code 126 = .ok (.bipush 12, 2) := by decide +kernel
theorem nd_N_evaluate_128 : decode prog_1_method_23_code 128 = .ok (.invokestatic 224, 3) := by decide +kernel
theorem nd_N_evaluate_131 : decode prog_1_method_23_code 131 = .ok (.istore 9, 2) := by decide +kernel
theorem nd_N_evaluate_133 : decode prog_1_method_23_code 133 = .ok (.aload_n 0, 1) := by decide +kernel
theorem nd_N_evaluate_134 : decode prog_1_method_23_code 134 = .ok (.aload_n 1, 1) := by decide +kernel
theorem nd_N_evaluate_135 : decode prog_1_method_23_code 135 = .ok (.iload 9, 2) := by decide +kernel
theorem nd_N_evaluate_137 : decode prog_1_method_23_code 137 = .ok (.invokevirtual 227, 3) := by decide +kernel
theorem nd_N_evaluate_140 : decode prog_1_method_23_code 140 = .ok (.lstore 10, 2) := by decide +kernel
theorem nd_N_evaluate_142 : decode prog_1_method_23_code 142 = .ok (.lload 10, 2) := by decide +kernel
theorem nd_N_evaluate_144 : decode prog_1_method_23_code 144 = .ok (.ldc2_w 231, 3) := by decide +kernel
theorem nd_N_evaluate_147 : decode prog_1_method_23_code 147 = .ok (.lcmp, 1) := by decide +kernel
theorem nd_N_evaluate_148 : decode prog_1_method_23_code 148 = .ok (.ifCond .ne 7, 3) := by decide +kernel
theorem nd_N_evaluate_151 : decode prog_1_method_23_code 151 = .ok (.ldc2_w 231, 3) := by decide +kernel
theorem nd_N_evaluate_154 : decode prog_1_method_23_code 154 = .ok (.lreturn, 1) := by decide +kernel
theorem nd_N_evaluate_155 : decode prog_1_method_23_code 155 = .ok (.aload_n 3, 1) := by decide +kernel
theorem nd_N_evaluate_156 : decode prog_1_method_23_code 156 = .ok (.iload 4, 2) := by decide +kernel
theorem nd_N_evaluate_158 : decode prog_1_method_23_code 158 = .ok (.iinc 4 1, 3) := by decide +kernel
theorem nd_N_evaluate_161 : decode prog_1_method_23_code 161 = .ok (.lload 10, 2) := by decide +kernel
theorem nd_N_evaluate_163 : decode prog_1_method_23_code 163 = .ok (.l2i, 1) := by decide +kernel
theorem nd_N_evaluate_164 : decode prog_1_method_23_code 164 = .ok (.iastore, 1) := by decide +kernel
theorem nd_N_evaluate_165 : decode prog_1_method_23_code 165 = .ok (.goto 72, 3) := by decide +kernel
theorem nd_N_evaluate_168 : decode prog_1_method_23_code 168 = .ok (.aload_n 3, 1) := by decide +kernel
theorem nd_N_evaluate_169 : decode prog_1_method_23_code 169 = .ok (.iload 4, 2) := by decide +kernel
theorem nd_N_evaluate_171 : decode prog_1_method_23_code 171 = .ok (.iconst 1, 1) := by decide +kernel
theorem nd_N_evaluate_172 : decode prog_1_method_23_code 172 = .ok (.isub, 1) := by decide +kernel
theorem nd_N_evaluate_173 : decode prog_1_method_23_code 173 = .ok (.aload_n 3, 1) := by decide +kernel
theorem nd_N_evaluate_174 : decode prog_1_method_23_code 174 = .ok (.iload 4, 2) := by decide +kernel
theorem nd_N_evaluate_176 : decode prog_1_method_23_code 176 = .ok (.iconst 1, 1) := by decide +kernel
theorem nd_N_evaluate_177 : decode prog_1_method_23_code 177 = .ok (.isub, 1) := by decide +kernel
theorem nd_N_evaluate_178 : decode prog_1_method_23_code 178 = .ok (.iaload, 1) := by decide +kernel
theorem nd_N_evaluate_179 : decode prog_1_method_23_code 179 = .ok (.ineg, 1) := by decide +kernel
theorem nd_N_evaluate_180 : decode prog_1_method_23_code 180 = .ok (.iastore, 1) := by decide +kernel
theorem nd_N_evaluate_181 : decode prog_1_method_23_code 181 = .ok (.goto 56, 3) := by decide +kernel
theorem nd_N_evaluate_184 : decode prog_1_method_23_code 184 = .ok (.aload_n 3, 1) := by decide +kernel
theorem nd_N_evaluate_185 : decode prog_1_method_23_code 185 = .ok (.iinc 4 (-1), 3) := by decide +kernel
theorem nd_N_evaluate_188 : decode prog_1_method_23_code 188 = .ok (.iload 4, 2) := by decide +kernel
theorem nd_N_evaluate_190 : decode prog_1_method_23_code 190 = .ok (.iaload, 1) := by decide +kernel
theorem nd_N_evaluate_191 : decode prog_1_method_23_code 191 = .ok (.ifCond .ne 8, 3) := by decide +kernel
theorem nd_N_evaluate_194 : decode prog_1_method_23_code 194 = .ok (.iload 7, 2) := by decide +kernel
theorem nd_N_evaluate_196 : decode prog_1_method_23_code 196 = .ok (.goto 5, 3) := by decide +kernel
theorem nd_N_evaluate_199 : decode prog_1_method_23_code 199 = .ok (.iload 5, 2) := by decide +kernel
theorem nd_N_evaluate_201 : decode prog_1_method_23_code 201 = .ok (.istore 5, 2) := by decide +kernel
theorem nd_N_evaluate_203 : decode prog_1_method_23_code 203 = .ok (.goto 34, 3) := by decide +kernel
theorem nd_N_evaluate_206 : decode prog_1_method_23_code 206 = .ok (.iload 7, 2) := by decide +kernel
theorem nd_N_evaluate_208 : decode prog_1_method_23_code 208 = .ok (.istore 5, 2) := by decide +kernel
theorem nd_N_evaluate_210 : decode prog_1_method_23_code 210 = .ok (.goto 27, 3) := by decide +kernel
theorem nd_N_evaluate_213 : decode prog_1_method_23_code 213 = .ok (.iinc 4 (-1), 3) := by decide +kernel
theorem nd_N_evaluate_216 : decode prog_1_method_23_code 216 = .ok (.aload_n 3, 1) := by decide +kernel
theorem nd_N_evaluate_217 : decode prog_1_method_23_code 217 = .ok (.iload 4, 2) := by decide +kernel
theorem nd_N_evaluate_219 : decode prog_1_method_23_code 219 = .ok (.iconst 1, 1) := by decide +kernel
theorem nd_N_evaluate_220 : decode prog_1_method_23_code 220 = .ok (.isub, 1) := by decide +kernel
theorem nd_N_evaluate_221 : decode prog_1_method_23_code 221 = .ok (.iload 8, 2) := by decide +kernel
theorem nd_N_evaluate_223 : decode prog_1_method_23_code 223 = .ok (.aload_n 3, 1) := by decide +kernel
theorem nd_N_evaluate_224 : decode prog_1_method_23_code 224 = .ok (.iload 4, 2) := by decide +kernel
theorem nd_N_evaluate_226 : decode prog_1_method_23_code 226 = .ok (.iconst 1, 1) := by decide +kernel
theorem nd_N_evaluate_227 : decode prog_1_method_23_code 227 = .ok (.isub, 1) := by decide +kernel
theorem nd_N_evaluate_228 : decode prog_1_method_23_code 228 = .ok (.iaload, 1) := by decide +kernel
theorem nd_N_evaluate_229 : decode prog_1_method_23_code 229 = .ok (.aload_n 3, 1) := by decide +kernel
theorem nd_N_evaluate_230 : decode prog_1_method_23_code 230 = .ok (.iload 4, 2) := by decide +kernel
theorem nd_N_evaluate_232 : decode prog_1_method_23_code 232 = .ok (.iaload, 1) := by decide +kernel
theorem nd_N_evaluate_233 : decode prog_1_method_23_code 233 = .ok (.invokestatic 233, 3) := by decide +kernel
theorem nd_N_evaluate_236 : decode prog_1_method_23_code 236 = .ok (.iastore, 1) := by decide +kernel
theorem nd_N_evaluate_237 : decode prog_1_method_23_code 237 = .ok (.iinc 6 1, 3) := by decide +kernel
theorem nd_N_evaluate_240 : decode prog_1_method_23_code 240 = .ok (.goto (-221), 3) := by decide +kernel
theorem nd_N_evaluate_243 : decode prog_1_method_23_code 243 = .ok (.aload_n 3, 1) := by decide +kernel
theorem nd_N_evaluate_244 : decode prog_1_method_23_code 244 = .ok (.iconst 0, 1) := by decide +kernel
theorem nd_N_evaluate_245 : decode prog_1_method_23_code 245 = .ok (.iaload, 1) := by decide +kernel
theorem nd_N_evaluate_246 : decode prog_1_method_23_code 246 = .ok (.i2l, 1) := by decide +kernel
theorem nd_N_evaluate_247 : decode prog_1_method_23_code 247 = .ok (.lreturn, 1) := by decide +kernel
theorem nd_N_combine_0 : decode prog_1_method_24_code 0 = .ok (.iload_n 0, 1) := by decide +kernel
theorem nd_N_combine_1 : decode prog_1_method_24_code 1 = .ok (.tableswitch 54 6 9 #[31, 35, 39, 43], 31) := by decide +kernel
theorem nd_N_combine_32 : decode prog_1_method_24_code 32 = .ok (.iload_n 1, 1) := by decide +kernel
theorem nd_N_combine_33 : decode prog_1_method_24_code 33 = .ok (.iload_n 2, 1) := by decide +kernel
theorem nd_N_combine_34 : decode prog_1_method_24_code 34 = .ok (.iadd, 1) := by decide +kernel
theorem nd_N_combine_35 : decode prog_1_method_24_code 35 = .ok (.ireturn, 1) := by decide +kernel
theorem nd_N_combine_36 : decode prog_1_method_24_code 36 = .ok (.iload_n 1, 1) := by decide +kernel
theorem nd_N_combine_37 : decode prog_1_method_24_code 37 = .ok (.iload_n 2, 1) := by decide +kernel
theorem nd_N_combine_38 : decode prog_1_method_24_code 38 = .ok (.isub, 1) := by decide +kernel
theorem nd_N_combine_39 : decode prog_1_method_24_code 39 = .ok (.ireturn, 1) := by decide +kernel
theorem nd_N_combine_40 : decode prog_1_method_24_code 40 = .ok (.iload_n 1, 1) := by decide +kernel
theorem nd_N_combine_41 : decode prog_1_method_24_code 41 = .ok (.iload_n 2, 1) := by decide +kernel
theorem nd_N_combine_42 : decode prog_1_method_24_code 42 = .ok (.imul, 1) := by decide +kernel
theorem nd_N_combine_43 : decode prog_1_method_24_code 43 = .ok (.ireturn, 1) := by decide +kernel
theorem nd_N_combine_44 : decode prog_1_method_24_code 44 = .ok (.iload_n 1, 1) := by decide +kernel
theorem nd_N_combine_45 : decode prog_1_method_24_code 45 = .ok (.iload_n 2, 1) := by decide +kernel
theorem nd_N_combine_46 : decode prog_1_method_24_code 46 = .ok (.if_icmp .ge 7, 3) := by decide +kernel
theorem nd_N_combine_49 : decode prog_1_method_24_code 49 = .ok (.iconst 1, 1) := by decide +kernel
theorem nd_N_combine_50 : decode prog_1_method_24_code 50 = .ok (.goto 4, 3) := by decide +kernel
theorem nd_N_combine_53 : decode prog_1_method_24_code 53 = .ok (.iconst 0, 1) := by decide +kernel
theorem nd_N_combine_54 : decode prog_1_method_24_code 54 = .ok (.ireturn, 1) := by decide +kernel
theorem nd_N_combine_55 : decode prog_1_method_24_code 55 = .ok (.iload_n 1, 1) := by decide +kernel
theorem nd_N_combine_56 : decode prog_1_method_24_code 56 = .ok (.iload_n 2, 1) := by decide +kernel
theorem nd_N_combine_57 : decode prog_1_method_24_code 57 = .ok (.if_icmp .ne 7, 3) := by decide +kernel
theorem nd_N_combine_60 : decode prog_1_method_24_code 60 = .ok (.iconst 1, 1) := by decide +kernel
theorem nd_N_combine_61 : decode prog_1_method_24_code 61 = .ok (.goto 4, 3) := by decide +kernel
theorem nd_N_combine_64 : decode prog_1_method_24_code 64 = .ok (.iconst 0, 1) := by decide +kernel
theorem nd_N_combine_65 : decode prog_1_method_24_code 65 = .ok (.ireturn, 1) := by decide +kernel
theorem nd_N_giveTo_0 : decode prog_1_method_25_code 0 = .ok (.aload_n 1, 1) := by decide +kernel
theorem nd_N_giveTo_1 : decode prog_1_method_25_code 1 = .ok (.getfield 113, 3) := by decide +kernel
theorem nd_N_giveTo_4 : decode prog_1_method_25_code 4 = .ok (.iload_n 2, 1) := by decide +kernel
theorem nd_N_giveTo_5 : decode prog_1_method_25_code 5 = .ok (.invokevirtual 237, 3) := by decide +kernel
theorem nd_N_giveTo_8 : decode prog_1_method_25_code 8 = .ok (.aload_n 0, 1) := by decide +kernel
theorem nd_N_giveTo_9 : decode prog_1_method_25_code 9 = .ok (.getfield 24, 3) := by decide +kernel
theorem nd_N_giveTo_12 : decode prog_1_method_25_code 12 = .ok (.iload_n 2, 1) := by decide +kernel
theorem nd_N_giveTo_13 : decode prog_1_method_25_code 13 = .ok (.aaload, 1) := by decide +kernel
theorem nd_N_giveTo_14 : decode prog_1_method_25_code 14 = .ok (.astore_n 3, 1) := by decide +kernel
theorem nd_N_giveTo_15 : decode prog_1_method_25_code 15 = .ok (.aload_n 3, 1) := by decide +kernel
theorem nd_N_giveTo_16 : decode prog_1_method_25_code 16 = .ok (.getfield 176, 3) := by decide +kernel
theorem nd_N_giveTo_19 : decode prog_1_method_25_code 19 = .ok (.ifCond .eq 9, 3) := by decide +kernel
theorem nd_N_giveTo_22 : decode prog_1_method_25_code 22 = .ok (.ldc2_w 231, 3) := by decide +kernel
theorem nd_N_giveTo_25 : decode prog_1_method_25_code 25 = .ok (.goto 8, 3) := by decide +kernel
theorem nd_N_giveTo_28 : decode prog_1_method_25_code 28 = .ok (.aload_n 0, 1) := by decide +kernel
theorem nd_N_giveTo_29 : decode prog_1_method_25_code 29 = .ok (.aload_n 3, 1) := by decide +kernel
theorem nd_N_giveTo_30 : decode prog_1_method_25_code 30 = .ok (.invokevirtual 100, 3) := by decide +kernel
theorem nd_N_giveTo_33 : decode prog_1_method_25_code 33 = .ok (.lreturn, 1) := by decide +kernel
theorem nd_N_markUsed_0 : decode prog_1_method_26_code 0 = .ok (.aload_n 0, 1) := by decide +kernel
theorem nd_N_markUsed_1 : decode prog_1_method_26_code 1 = .ok (.dup, 1) := by decide +kernel
theorem nd_N_markUsed_2 : decode prog_1_method_26_code 2 = .ok (.getfield 240, 3) := by decide +kernel
theorem nd_N_markUsed_5 : decode prog_1_method_26_code 5 = .ok (.iconst 1, 1) := by decide +kernel
theorem nd_N_markUsed_6 : decode prog_1_method_26_code 6 = .ok (.iadd, 1) := by decide +kernel
theorem nd_N_markUsed_7 : decode prog_1_method_26_code 7 = .ok (.putfield 240, 3) := by decide +kernel
theorem nd_N_markUsed_10 : decode prog_1_method_26_code 10 = .ok (.aload_n 1, 1) := by decide +kernel
theorem nd_N_markUsed_11 : decode prog_1_method_26_code 11 = .ok (.aload_n 0, 1) := by decide +kernel
theorem nd_N_markUsed_12 : decode prog_1_method_26_code 12 = .ok (.getfield 240, 3) := by decide +kernel
theorem nd_N_markUsed_15 : decode prog_1_method_26_code 15 = .ok (.putfield 243, 3) := by decide +kernel
theorem nd_N_markUsed_18 : decode prog_1_method_26_code 18 = .ok (.return_, 1) := by decide +kernel
theorem nd_N_tally_0 : decode prog_1_method_27_code 0 = .ok (.aload_n 1, 1) := by decide +kernel
theorem nd_N_tally_1 : decode prog_1_method_27_code 1 = .ok (.getfield 107, 3) := by decide +kernel
theorem nd_N_tally_4 : decode prog_1_method_27_code 4 = .ok (.iload_n 2, 1) := by decide +kernel
theorem nd_N_tally_5 : decode prog_1_method_27_code 5 = .ok (.dup2, 1) := by decide +kernel
theorem nd_N_tally_6 : decode prog_1_method_27_code 6 = .ok (.iaload, 1) := by decide +kernel
theorem nd_N_tally_7 : decode prog_1_method_27_code 7 = .ok (.iconst 1, 1) := by decide +kernel
theorem nd_N_tally_8 : decode prog_1_method_27_code 8 = .ok (.iadd, 1) := by decide +kernel
theorem nd_N_tally_9 : decode prog_1_method_27_code 9 = .ok (.iastore, 1) := by decide +kernel
theorem nd_N_tally_10 : decode prog_1_method_27_code 10 = .ok (.aload_n 0, 1) := by decide +kernel
theorem nd_N_tally_11 : decode prog_1_method_27_code 11 = .ok (.getfield 33, 3) := by decide +kernel
theorem nd_N_tally_14 : decode prog_1_method_27_code 14 = .ok (.iload_n 2, 1) := by decide +kernel
theorem nd_N_tally_15 : decode prog_1_method_27_code 15 = .ok (.dup2, 1) := by decide +kernel
theorem nd_N_tally_16 : decode prog_1_method_27_code 16 = .ok (.iaload, 1) := by decide +kernel
theorem nd_N_tally_17 : decode prog_1_method_27_code 17 = .ok (.iconst 1, 1) := by decide +kernel
theorem nd_N_tally_18 : decode prog_1_method_27_code 18 = .ok (.iadd, 1) := by decide +kernel
theorem nd_N_tally_19 : decode prog_1_method_27_code 19 = .ok (.iastore, 1) := by decide +kernel
theorem nd_N_tally_20 : decode prog_1_method_27_code 20 = .ok (.return_, 1) := by decide +kernel
theorem nd_N_valuesInNotes_0 : decode prog_1_method_28_code 0 = .ok (.iconst 0, 1) := by decide +kernel
theorem nd_N_valuesInNotes_1 : decode prog_1_method_28_code 1 = .ok (.istore_n 1, 1) := by decide +kernel
theorem nd_N_valuesInNotes_2 : decode prog_1_method_28_code 2 = .ok (.iconst 0, 1) := by decide +kernel
theorem nd_N_valuesInNotes_3 : decode prog_1_method_28_code 3 = .ok (.istore_n 2, 1) := by decide +kernel
theorem nd_N_valuesInNotes_4 : decode prog_1_method_28_code 4 = .ok (.iload_n 2, 1) := by decide +kernel
theorem nd_N_valuesInNotes_5 : decode prog_1_method_28_code 5 = .ok (.bipush 12, 2) := by decide +kernel
theorem nd_N_valuesInNotes_7 : decode prog_1_method_28_code 7 = .ok (.if_icmp .ge 32, 3) := by decide +kernel
theorem nd_N_valuesInNotes_10 : decode prog_1_method_28_code 10 = .ok (.iload_n 1, 1) := by decide +kernel
theorem nd_N_valuesInNotes_11 : decode prog_1_method_28_code 11 = .ok (.aload_n 0, 1) := by decide +kernel
theorem nd_N_valuesInNotes_12 : decode prog_1_method_28_code 12 = .ok (.getfield 24, 3) := by decide +kernel
theorem nd_N_valuesInNotes_15 : decode prog_1_method_28_code 15 = .ok (.iload_n 2, 1) := by decide +kernel
theorem nd_N_valuesInNotes_16 : decode prog_1_method_28_code 16 = .ok (.aaload, 1) := by decide +kernel
theorem nd_N_valuesInNotes_17 : decode prog_1_method_28_code 17 = .ok (.getfield 113, 3) := by decide +kernel
theorem nd_N_valuesInNotes_20 : decode prog_1_method_28_code 20 = .ok (.getfield 128, 3) := by decide +kernel
theorem nd_N_valuesInNotes_23 : decode prog_1_method_28_code 23 = .ok (.ifCond .eq 7, 3) := by decide +kernel
theorem nd_N_valuesInNotes_26 : decode prog_1_method_28_code 26 = .ok (.iconst 1, 1) := by decide +kernel
theorem nd_N_valuesInNotes_27 : decode prog_1_method_28_code 27 = .ok (.goto 4, 3) := by decide +kernel
theorem nd_N_valuesInNotes_30 : decode prog_1_method_28_code 30 = .ok (.iconst 0, 1) := by decide +kernel
theorem nd_N_valuesInNotes_31 : decode prog_1_method_28_code 31 = .ok (.iadd, 1) := by decide +kernel
theorem nd_N_valuesInNotes_32 : decode prog_1_method_28_code 32 = .ok (.istore_n 1, 1) := by decide +kernel
theorem nd_N_valuesInNotes_33 : decode prog_1_method_28_code 33 = .ok (.iinc 2 1, 3) := by decide +kernel
theorem nd_N_valuesInNotes_36 : decode prog_1_method_28_code 36 = .ok (.goto (-32), 3) := by decide +kernel
theorem nd_N_valuesInNotes_39 : decode prog_1_method_28_code 39 = .ok (.iload_n 1, 1) := by decide +kernel
theorem nd_N_valuesInNotes_40 : decode prog_1_method_28_code 40 = .ok (.ireturn, 1) := by decide +kernel
theorem nd_N_dropValuesBeyondKept_0 : decode prog_1_method_29_code 0 = .ok (.aload_n 0, 1) := by decide +kernel
theorem nd_N_dropValuesBeyondKept_1 : decode prog_1_method_29_code 1 = .ok (.invokevirtual 134, 3) := by decide +kernel
theorem nd_N_dropValuesBeyondKept_4 : decode prog_1_method_29_code 4 = .ok (.istore_n 1, 1) := by decide +kernel
theorem nd_N_dropValuesBeyondKept_5 : decode prog_1_method_29_code 5 = .ok (.iload_n 1, 1) := by decide +kernel
theorem nd_N_dropValuesBeyondKept_6 : decode prog_1_method_29_code 6 = .ok (.aload_n 0, 1) := by decide +kernel
theorem nd_N_dropValuesBeyondKept_7 : decode prog_1_method_29_code 7 = .ok (.getfield 18, 3) := by decide +kernel
theorem nd_N_dropValuesBeyondKept_10 : decode prog_1_method_29_code 10 = .ok (.if_icmp .le 13, 3) := by decide +kernel
theorem nd_N_dropValuesBeyondKept_13 : decode prog_1_method_29_code 13 = .ok (.aload_n 0, 1) := by decide +kernel
theorem nd_N_dropValuesBeyondKept_14 : decode prog_1_method_29_code 14 = .ok (.invokevirtual 246, 3) := by decide +kernel
theorem nd_N_dropValuesBeyondKept_17 : decode prog_1_method_29_code 17 = .ok (.iinc 1 (-1), 3) := by decide +kernel
theorem nd_N_dropValuesBeyondKept_20 : decode prog_1_method_29_code 20 = .ok (.goto (-15), 3) := by decide +kernel
theorem nd_N_dropValuesBeyondKept_23 : decode prog_1_method_29_code 23 = .ok (.return_, 1) := by decide +kernel
theorem nd_N_dropLongestUnused_0 : decode prog_1_method_30_code 0 = .ok (.aconst_null, 1) := by decide +kernel
theorem nd_N_dropLongestUnused_1 : decode prog_1_method_30_code 1 = .ok (.astore_n 1, 1) := by decide +kernel
theorem nd_N_dropLongestUnused_2 : decode prog_1_method_30_code 2 = .ok (.iconst 0, 1) := by decide +kernel
theorem nd_N_dropLongestUnused_3 : decode prog_1_method_30_code 3 = .ok (.istore_n 2, 1) := by decide +kernel
theorem nd_N_dropLongestUnused_4 : decode prog_1_method_30_code 4 = .ok (.iload_n 2, 1) := by decide +kernel
theorem nd_N_dropLongestUnused_5 : decode prog_1_method_30_code 5 = .ok (.bipush 12, 2) := by decide +kernel
theorem nd_N_dropLongestUnused_7 : decode prog_1_method_30_code 7 = .ok (.if_icmp .ge 43, 3) := by decide +kernel
theorem nd_N_dropLongestUnused_10 : decode prog_1_method_30_code 10 = .ok (.aload_n 0, 1) := by decide +kernel
theorem nd_N_dropLongestUnused_11 : decode prog_1_method_30_code 11 = .ok (.getfield 24, 3) := by decide +kernel
theorem nd_N_dropLongestUnused_14 : decode prog_1_method_30_code 14 = .ok (.iload_n 2, 1) := by decide +kernel
theorem nd_N_dropLongestUnused_15 : decode prog_1_method_30_code 15 = .ok (.aaload, 1) := by decide +kernel
theorem nd_N_dropLongestUnused_16 : decode prog_1_method_30_code 16 = .ok (.astore_n 3, 1) := by decide +kernel
theorem nd_N_dropLongestUnused_17 : decode prog_1_method_30_code 17 = .ok (.aload_n 3, 1) := by decide +kernel
theorem nd_N_dropLongestUnused_18 : decode prog_1_method_30_code 18 = .ok (.getfield 113, 3) := by decide +kernel
theorem nd_N_dropLongestUnused_21 : decode prog_1_method_30_code 21 = .ok (.getfield 128, 3) := by decide +kernel
theorem nd_N_dropLongestUnused_24 : decode prog_1_method_30_code 24 = .ok (.ifCond .eq 20, 3) := by decide +kernel
theorem nd_N_dropLongestUnused_27 : decode prog_1_method_30_code 27 = .ok (.aload_n 1, 1) := by decide +kernel
theorem nd_N_dropLongestUnused_28 : decode prog_1_method_30_code 28 = .ok (.ifnull 14, 3) := by decide +kernel
theorem nd_N_dropLongestUnused_31 : decode prog_1_method_30_code 31 = .ok (.aload_n 3, 1) := by decide +kernel
theorem nd_N_dropLongestUnused_32 : decode prog_1_method_30_code 32 = .ok (.getfield 243, 3) := by decide +kernel
theorem nd_N_dropLongestUnused_35 : decode prog_1_method_30_code 35 = .ok (.aload_n 1, 1) := by decide +kernel
theorem nd_N_dropLongestUnused_36 : decode prog_1_method_30_code 36 = .ok (.getfield 243, 3) := by decide +kernel
theorem nd_N_dropLongestUnused_39 : decode prog_1_method_30_code 39 = .ok (.if_icmp .ge 5, 3) := by decide +kernel
theorem nd_N_dropLongestUnused_42 : decode prog_1_method_30_code 42 = .ok (.aload_n 3, 1) := by decide +kernel
theorem nd_N_dropLongestUnused_43 : decode prog_1_method_30_code 43 = .ok (.astore_n 1, 1) := by decide +kernel
theorem nd_N_dropLongestUnused_44 : decode prog_1_method_30_code 44 = .ok (.iinc 2 1, 3) := by decide +kernel
theorem nd_N_dropLongestUnused_47 : decode prog_1_method_30_code 47 = .ok (.goto (-43), 3) := by decide +kernel
theorem nd_N_dropLongestUnused_50 : decode prog_1_method_30_code 50 = .ok (.aload_n 1, 1) := by decide +kernel
theorem nd_N_dropLongestUnused_51 : decode prog_1_method_30_code 51 = .ok (.ifnull 11, 3) := by decide +kernel
theorem nd_N_dropLongestUnused_54 : decode prog_1_method_30_code 54 = .ok (.aload_n 1, 1) := by decide +kernel
theorem nd_N_dropLongestUnused_55 : decode prog_1_method_30_code 55 = .ok (.getfield 113, 3) := by decide +kernel
theorem nd_N_dropLongestUnused_58 : decode prog_1_method_30_code 58 = .ok (.iconst 0, 1) := by decide +kernel
theorem nd_N_dropLongestUnused_59 : decode prog_1_method_30_code 59 = .ok (.putfield 128, 3) := by decide +kernel
theorem nd_N_dropLongestUnused_62 : decode prog_1_method_30_code 62 = .ok (.return_, 1) := by decide +kernel
end
section
theorem nd_P_init_0 : decode prog_5_method_1_code 0 = .ok (.aload_n 0, 1) := by decide +kernel
theorem nd_P_init_1 : decode prog_5_method_1_code 1 = .ok (.invokespecial 3, 3) := by decide +kernel
theorem nd_P_init_4 : decode prog_5_method_1_code 4 = .ok (.aload_n 0, 1) := by decide +kernel
theorem nd_P_init_5 : decode prog_5_method_1_code 5 = .ok (.aload_n 1, 1) := by decide +kernel
theorem nd_P_init_6 : decode prog_5_method_1_code 6 = .ok (.putfield 9, 3) := by decide +kernel
theorem nd_P_init_9 : decode prog_5_method_1_code 9 = .ok (.return_, 1) := by decide +kernel
theorem nd_P_accepts_0 : decode prog_5_method_2_code 0 = .ok (.aload_n 0, 1) := by decide +kernel
theorem nd_P_accepts_1 : decode prog_5_method_2_code 1 = .ok (.iconst 0, 1) := by decide +kernel
theorem nd_P_accepts_2 : decode prog_5_method_2_code 2 = .ok (.putfield 15, 3) := by decide +kernel
theorem nd_P_accepts_5 : decode prog_5_method_2_code 5 = .ok (.aload_n 0, 1) := by decide +kernel
theorem nd_P_accepts_6 : decode prog_5_method_2_code 6 = .ok (.getfield 9, 3) := by decide +kernel
theorem nd_P_accepts_9 : decode prog_5_method_2_code 9 = .ok (.iconst 0, 1) := by decide +kernel
theorem nd_P_accepts_10 : decode prog_5_method_2_code 10 = .ok (.putfield 19, 3) := by decide +kernel
theorem nd_P_accepts_13 : decode prog_5_method_2_code 13 = .ok (.aload_n 0, 1) := by decide +kernel
theorem nd_P_accepts_14 : decode prog_5_method_2_code 14 = .ok (.iconst 0, 1) := by decide +kernel
theorem nd_P_accepts_15 : decode prog_5_method_2_code 15 = .ok (.invokevirtual 24, 3) := by decide +kernel
theorem nd_P_accepts_18 : decode prog_5_method_2_code 18 = .ok (.ifCond .eq 21, 3) := by decide +kernel
theorem nd_P_accepts_21 : decode prog_5_method_2_code 21 = .ok (.aload_n 0, 1) := by decide +kernel
theorem nd_P_accepts_22 : decode prog_5_method_2_code 22 = .ok (.getfield 15, 3) := by decide +kernel
theorem nd_P_accepts_25 : decode prog_5_method_2_code 25 = .ok (.aload_n 0, 1) := by decide +kernel
theorem nd_P_accepts_26 : decode prog_5_method_2_code 26 = .ok (.getfield 9, 3) := by decide +kernel
theorem nd_P_accepts_29 : decode prog_5_method_2_code 29 = .ok (.getfield 28, 3) := by decide +kernel
theorem nd_P_accepts_32 : decode prog_5_method_2_code 32 = .ok (.if_icmp .ne 7, 3) := by decide +kernel
theorem nd_P_accepts_35 : decode prog_5_method_2_code 35 = .ok (.iconst 1, 1) := by decide +kernel
theorem nd_P_accepts_36 : decode prog_5_method_2_code 36 = .ok (.goto 4, 3) := by decide +kernel
theorem nd_P_accepts_39 : decode prog_5_method_2_code 39 = .ok (.iconst 0, 1) := by decide +kernel
theorem nd_P_accepts_40 : decode prog_5_method_2_code 40 = .ok (.ireturn, 1) := by decide +kernel
theorem nd_P_fault_0 : decode prog_5_method_3_code 0 = .ok (.aload_n 0, 1) := by decide +kernel
theorem nd_P_fault_1 : decode prog_5_method_3_code 1 = .ok (.getfield 15, 3) := by decide +kernel
theorem nd_P_fault_4 : decode prog_5_method_3_code 4 = .ok (.ireturn, 1) := by decide +kernel
theorem nd_P_next_0 : decode prog_5_method_4_code 0 = .ok (.aload_n 0, 1) := by decide +kernel
theorem nd_P_next_1 : decode prog_5_method_4_code 1 = .ok (.getfield 15, 3) := by decide +kernel
theorem nd_P_next_4 : decode prog_5_method_4_code 4 = .ok (.aload_n 0, 1) := by decide +kernel
theorem nd_P_next_5 : decode prog_5_method_4_code 5 = .ok (.getfield 9, 3) := by decide +kernel
theorem nd_P_next_8 : decode prog_5_method_4_code 8 = .ok (.getfield 28, 3) := by decide +kernel
theorem nd_P_next_11 : decode prog_5_method_4_code 11 = .ok (.if_icmp .ge 18, 3) := by decide +kernel
theorem nd_P_next_14 : decode prog_5_method_4_code 14 = .ok (.aload_n 0, 1) := by decide +kernel
theorem nd_P_next_15 : decode prog_5_method_4_code 15 = .ok (.getfield 9, 3) := by decide +kernel
theorem nd_P_next_18 : decode prog_5_method_4_code 18 = .ok (.getfield 31, 3) := by decide +kernel
theorem nd_P_next_21 : decode prog_5_method_4_code 21 = .ok (.aload_n 0, 1) := by decide +kernel
theorem nd_P_next_22 : decode prog_5_method_4_code 22 = .ok (.getfield 15, 3) := by decide +kernel
theorem nd_P_next_25 : decode prog_5_method_4_code 25 = .ok (.caload, 1) := by decide +kernel
theorem nd_P_next_26 : decode prog_5_method_4_code 26 = .ok (.goto 4, 3) := by decide +kernel
theorem nd_P_next_29 : decode prog_5_method_4_code 29 = .ok (.iconst 0, 1) := by decide +kernel
theorem nd_P_next_30 : decode prog_5_method_4_code 30 = .ok (.ireturn, 1) := by decide +kernel
theorem nd_P_take_0 : decode prog_5_method_5_code 0 = .ok (.aload_n 0, 1) := by decide +kernel
theorem nd_P_take_1 : decode prog_5_method_5_code 1 = .ok (.invokevirtual 35, 3) := by decide +kernel
theorem nd_P_take_4 : decode prog_5_method_5_code 4 = .ok (.iload_n 1, 1) := by decide +kernel
theorem nd_P_take_5 : decode prog_5_method_5_code 5 = .ok (.if_icmp .eq 5, 3) := by decide +kernel
theorem nd_P_take_8 : decode prog_5_method_5_code 8 = .ok (.iconst 0, 1) := by decide +kernel
theorem nd_P_take_9 : decode prog_5_method_5_code 9 = .ok (.ireturn, 1) := by decide +kernel
theorem nd_P_take_10 : decode prog_5_method_5_code 10 = .ok (.aload_n 0, 1) := by decide +kernel
theorem nd_P_take_11 : decode prog_5_method_5_code 11 = .ok (.dup, 1) := by decide +kernel
theorem nd_P_take_12 : decode prog_5_method_5_code 12 = .ok (.getfield 15, 3) := by decide +kernel
theorem nd_P_take_15 : decode prog_5_method_5_code 15 = .ok (.iconst 1, 1) := by decide +kernel
theorem nd_P_take_16 : decode prog_5_method_5_code 16 = .ok (.iadd, 1) := by decide +kernel
theorem nd_P_take_17 : decode prog_5_method_5_code 17 = .ok (.putfield 15, 3) := by decide +kernel
theorem nd_P_take_20 : decode prog_5_method_5_code 20 = .ok (.iconst 1, 1) := by decide +kernel
theorem nd_P_take_21 : decode prog_5_method_5_code 21 = .ok (.ireturn, 1) := by decide +kernel
theorem nd_P_takeFormula_0 : decode prog_5_method_6_code 0 = .ok (.aload_n 0, 1) := by decide +kernel
theorem nd_P_takeFormula_1 : decode prog_5_method_6_code 1 = .ok (.iload_n 1, 1) := by decide +kernel
theorem nd_P_takeFormula_2 : decode prog_5_method_6_code 2 = .ok (.invokevirtual 39, 3) := by decide +kernel
theorem nd_P_takeFormula_5 : decode prog_5_method_6_code 5 = .ok (.ifCond .ne 5, 3) := by decide +kernel
theorem nd_P_takeFormula_8 : decode prog_5_method_6_code 8 = .ok (.iconst 0, 1) := by decide +kernel
theorem nd_P_takeFormula_9 : decode prog_5_method_6_code 9 = .ok (.ireturn, 1) := by decide +kernel
theorem nd_P_takeFormula_10 : decode prog_5_method_6_code 10 = .ok (.aload_n 0, 1) := by decide +kernel
theorem nd_P_takeFormula_11 : decode prog_5_method_6_code 11 = .ok (.invokevirtual 35, 3) := by decide +kernel
theorem nd_P_takeFormula_14 : decode prog_5_method_6_code 14 = .ok (.istore_n 2, 1) := by decide +kernel
theorem nd_P_takeFormula_15 : decode prog_5_method_6_code 15 = .ok (.iload_n 2, 1) := by decide +kernel
theorem nd_P_takeFormula_16 : decode prog_5_method_6_code 16 = .ok (.bipush 60, 2) := by decide +kernel
theorem nd_P_takeFormula_18 : decode prog_5_method_6_code 18 = .ok (.if_icmp .eq 9, 3) := by decide +kernel
theorem nd_P_takeFormula_21 : decode prog_5_method_6_code 21 = .ok (.iload_n 2, 1) := by decide +kernel
theorem nd_P_takeFormula_22 : decode prog_5_method_6_code 22 = .ok (.bipush 61, 2) := by decide +kernel
theorem nd_P_takeFormula_24 : decode prog_5_method_6_code 24 = .ok (.if_icmp .ne 45, 3) := by decide +kernel
theorem nd_P_takeFormula_27 : decode prog_5_method_6_code 27 = .ok (.aload_n 0, 1) := by decide +kernel
theorem nd_P_takeFormula_28 : decode prog_5_method_6_code 28 = .ok (.dup, 1) := by decide +kernel
theorem nd_P_takeFormula_29 : decode prog_5_method_6_code 29 = .ok (.getfield 15, 3) := by decide +kernel
theorem nd_P_takeFormula_32 : decode prog_5_method_6_code 32 = .ok (.iconst 1, 1) := by decide +kernel
theorem nd_P_takeFormula_33 : decode prog_5_method_6_code 33 = .ok (.iadd, 1) := by decide +kernel
theorem nd_P_takeFormula_34 : decode prog_5_method_6_code 34 = .ok (.putfield 15, 3) := by decide +kernel
theorem nd_P_takeFormula_37 : decode prog_5_method_6_code 37 = .ok (.aload_n 0, 1) := by decide +kernel
theorem nd_P_takeFormula_38 : decode prog_5_method_6_code 38 = .ok (.iload_n 1, 1) := by decide +kernel
theorem nd_P_takeFormula_39 : decode prog_5_method_6_code 39 = .ok (.invokevirtual 39, 3) := by decide +kernel
theorem nd_P_takeFormula_42 : decode prog_5_method_6_code 42 = .ok (.ifCond .ne 5, 3) := by decide +kernel
theorem nd_P_takeFormula_45 : decode prog_5_method_6_code 45 = .ok (.iconst 0, 1) := by decide +kernel
theorem nd_P_takeFormula_46 : decode prog_5_method_6_code 46 = .ok (.ireturn, 1) := by decide +kernel
theorem nd_P_takeFormula_47 : decode prog_5_method_6_code 47 = .ok (.aload_n 0, 1) := by decide +kernel
theorem nd_P_takeFormula_48 : decode prog_5_method_6_code 48 = .ok (.getfield 9, 3) := by decide +kernel
theorem nd_P_takeFormula_51 : decode prog_5_method_6_code 51 = .ok (.iload_n 2, 1) := by decide +kernel
theorem nd_P_takeFormula_52 : decode prog_5_method_6_code 52 = .ok (.bipush 60, 2) := by decide +kernel
theorem nd_P_takeFormula_54 : decode prog_5_method_6_code 54 = .ok (.if_icmp .ne 8, 3) := by decide +kernel
theorem nd_P_takeFormula_57 : decode prog_5_method_6_code 57 = .ok (.bipush 9, 2) := by decide +kernel
theorem nd_P_takeFormula_59 : decode prog_5_method_6_code 59 = .ok (.goto 5, 3) := by decide +kernel
theorem nd_P_takeFormula_62 : decode prog_5_method_6_code 62 = .ok (.bipush 10, 2) := by decide +kernel
theorem nd_P_takeFormula_64 : decode prog_5_method_6_code 64 = .ok (.iconst 0, 1) := by decide +kernel
theorem nd_P_takeFormula_65 : decode prog_5_method_6_code 65 = .ok (.invokevirtual 42, 3) := by decide +kernel
theorem nd_P_takeFormula_68 : decode prog_5_method_6_code 68 = .ok (.pop, 1) := by decide +kernel
theorem nd_P_takeFormula_69 : decode prog_5_method_6_code 69 = .ok (.aload_n 0, 1) := by decide +kernel
theorem nd_P_takeFormula_70 : decode prog_5_method_6_code 70 = .ok (.bipush 63, 2) := by decide +kernel
theorem nd_P_takeFormula_72 : decode prog_5_method_6_code 72 = .ok (.invokevirtual 46, 3) := by decide +kernel
theorem nd_P_takeFormula_75 : decode prog_5_method_6_code 75 = .ok (.ifCond .eq 11, 3) := by decide +kernel
theorem nd_P_takeFormula_78 : decode prog_5_method_6_code 78 = .ok (.aload_n 0, 1) := by decide +kernel
theorem nd_P_takeFormula_79 : decode prog_5_method_6_code 79 = .ok (.iload_n 1, 1) := by decide +kernel
theorem nd_P_takeFormula_80 : decode prog_5_method_6_code 80 = .ok (.invokevirtual 50, 3) := by decide +kernel
theorem nd_P_takeFormula_83 : decode prog_5_method_6_code 83 = .ok (.ifCond .eq 7, 3) := by decide +kernel
theorem nd_P_takeFormula_86 : decode prog_5_method_6_code 86 = .ok (.iconst 1, 1) := by decide +kernel
theorem nd_P_takeFormula_87 : decode prog_5_method_6_code 87 = .ok (.goto 4, 3) := by decide +kernel
theorem nd_P_takeFormula_90 : decode prog_5_method_6_code 90 = .ok (.iconst 0, 1) := by decide +kernel
theorem nd_P_takeFormula_91 : decode prog_5_method_6_code 91 = .ok (.ireturn, 1) := by decide +kernel
theorem nd_P_takeBranches_0 : decode prog_5_method_7_code 0 = .ok (.aload_n 0, 1) := by decide +kernel
theorem nd_P_takeBranches_1 : decode prog_5_method_7_code 1 = .ok (.getfield 9, 3) := by decide +kernel
theorem nd_P_takeBranches_4 : decode prog_5_method_7_code 4 = .ok (.iconst 4, 1) := by decide +kernel
theorem nd_P_takeBranches_5 : decode prog_5_method_7_code 5 = .ok (.iconst 0, 1) := by decide +kernel
theorem nd_P_takeBranches_6 : decode prog_5_method_7_code 6 = .ok (.invokevirtual 42, 3) := by decide +kernel
theorem nd_P_takeBranches_9 : decode prog_5_method_7_code 9 = .ok (.istore_n 2, 1) := by decide +kernel
theorem nd_P_takeBranches_10 : decode prog_5_method_7_code 10 = .ok (.aload_n 0, 1) := by decide +kernel
theorem nd_P_takeBranches_11 : decode prog_5_method_7_code 11 = .ok (.iload_n 1, 1) := by decide +kernel
theorem nd_P_takeBranches_12 : decode prog_5_method_7_code 12 = .ok (.invokevirtual 24, 3) := by decide +kernel
theorem nd_P_takeBranches_15 : decode prog_5_method_7_code 15 = .ok (.ifCond .eq 12, 3) := by decide +kernel
theorem nd_P_takeBranches_18 : decode prog_5_method_7_code 18 = .ok (.aload_n 0, 1) := by decide +kernel
theorem nd_P_takeBranches_19 : decode prog_5_method_7_code 19 = .ok (.bipush 58, 2) := by decide +kernel
theorem nd_P_takeBranches_21 : decode prog_5_method_7_code 21 = .ok (.invokevirtual 46, 3) := by decide +kernel
theorem nd_P_takeBranches_24 : decode prog_5_method_7_code 24 = .ok (.ifCond .ne 5, 3) := by decide +kernel
theorem nd_P_takeBranches_27 : decode prog_5_method_7_code 27 = .ok (.iconst 0, 1) := by decide +kernel
theorem nd_P_takeBranches_28 : decode prog_5_method_7_code 28 = .ok (.ireturn, 1) := by decide +kernel
theorem nd_P_takeBranches_29 : decode prog_5_method_7_code 29 = .ok (.aload_n 0, 1) := by decide +kernel
theorem nd_P_takeBranches_30 : decode prog_5_method_7_code 30 = .ok (.getfield 9, 3) := by decide +kernel
theorem nd_P_takeBranches_33 : decode prog_5_method_7_code 33 = .ok (.iconst 5, 1) := by decide +kernel
theorem nd_P_takeBranches_34 : decode prog_5_method_7_code 34 = .ok (.iconst 0, 1) := by decide +kernel
theorem nd_P_takeBranches_35 : decode prog_5_method_7_code 35 = .ok (.invokevirtual 42, 3) := by decide +kernel
theorem nd_P_takeBranches_38 : decode prog_5_method_7_code 38 = .ok (.istore_n 3, 1) := by decide +kernel
theorem nd_P_takeBranches_39 : decode prog_5_method_7_code 39 = .ok (.aload_n 0, 1) := by decide +kernel
theorem nd_P_takeBranches_40 : decode prog_5_method_7_code 40 = .ok (.getfield 9, 3) := by decide +kernel
theorem nd_P_takeBranches_43 : decode prog_5_method_7_code 43 = .ok (.iload_n 2, 1) := by decide +kernel
theorem nd_P_takeBranches_44 : decode prog_5_method_7_code 44 = .ok (.invokevirtual 53, 3) := by decide +kernel
theorem nd_P_takeBranches_47 : decode prog_5_method_7_code 47 = .ok (.aload_n 0, 1) := by decide +kernel
theorem nd_P_takeBranches_48 : decode prog_5_method_7_code 48 = .ok (.iload_n 1, 1) := by decide +kernel
theorem nd_P_takeBranches_49 : decode prog_5_method_7_code 49 = .ok (.invokevirtual 24, 3) := by decide +kernel
theorem nd_P_takeBranches_52 : decode prog_5_method_7_code 52 = .ok (.ifCond .ne 5, 3) := by decide +kernel
theorem nd_P_takeBranches_55 : decode prog_5_method_7_code 55 = .ok (.iconst 0, 1) := by decide +kernel
theorem nd_P_takeBranches_56 : decode prog_5_method_7_code 56 = .ok (.ireturn, 1) := by decide +kernel
theorem nd_P_takeBranches_57 : decode prog_5_method_7_code 57 = .ok (.aload_n 0, 1) := by decide +kernel
theorem nd_P_takeBranches_58 : decode prog_5_method_7_code 58 = .ok (.getfield 9, 3) := by decide +kernel
theorem nd_P_takeBranches_61 : decode prog_5_method_7_code 61 = .ok (.iload_n 3, 1) := by decide +kernel
theorem nd_P_takeBranches_62 : decode prog_5_method_7_code 62 = .ok (.invokevirtual 53, 3) := by decide +kernel
theorem nd_P_takeBranches_65 : decode prog_5_method_7_code 65 = .ok (.iconst 1, 1) := by decide +kernel
theorem nd_P_takeBranches_66 : decode prog_5_method_7_code 66 = .ok (.ireturn, 1) := by decide +kernel
theorem nd_P_takeSum_0 : decode prog_5_method_8_code 0 = .ok (.aload_n 0, 1) := by decide +kernel
theorem nd_P_takeSum_1 : decode prog_5_method_8_code 1 = .ok (.iload_n 1, 1) := by decide +kernel
theorem nd_P_takeSum_2 : decode prog_5_method_8_code 2 = .ok (.invokevirtual 57, 3) := by decide +kernel
theorem nd_P_takeSum_5 : decode prog_5_method_8_code 5 = .ok (.ifCond .ne 5, 3) := by decide +kernel
theorem nd_P_takeSum_8 : decode prog_5_method_8_code 8 = .ok (.iconst 0, 1) := by decide +kernel
theorem nd_P_takeSum_9 : decode prog_5_method_8_code 9 = .ok (.ireturn, 1) := by decide +kernel
theorem nd_P_takeSum_10 : decode prog_5_method_8_code 10 = .ok (.iconst 0, 1) := by decide +kernel
theorem nd_P_takeSum_11 : decode prog_5_method_8_code 11 = .ok (.istore_n 2, 1) := by decide +kernel
theorem nd_P_takeSum_12 : decode prog_5_method_8_code 12 = .ok (.iload_n 2, 1) := by decide +kernel
theorem nd_P_takeSum_13 : decode prog_5_method_8_code 13 = .ok (.bipush 30, 2) := by decide +kernel
theorem nd_P_takeSum_15 : decode prog_5_method_8_code 15 = .ok (.if_icmp .ge 70, 3) := by decide +kernel
theorem nd_P_takeSum_18 : decode prog_5_method_8_code 18 = .ok (.aload_n 0, 1) := by decide +kernel
theorem nd_P_takeSum_19 : decode prog_5_method_8_code 19 = .ok (.invokevirtual 35, 3) := by decide +kernel
theorem nd_P_takeSum_22 : decode prog_5_method_8_code 22 = .ok (.istore_n 3, 1) := by decide +kernel
theorem nd_P_takeSum_23 : decode prog_5_method_8_code 23 = .ok (.iload_n 3, 1) := by decide +kernel
theorem nd_P_takeSum_24 : decode prog_5_method_8_code 24 = .ok (.bipush 43, 2) := by decide +kernel
theorem nd_P_takeSum_26 : decode prog_5_method_8_code 26 = .ok (.if_icmp .eq 11, 3) := by decide +kernel
theorem nd_P_takeSum_29 : decode prog_5_method_8_code 29 = .ok (.iload_n 3, 1) := by decide +kernel
theorem nd_P_takeSum_30 : decode prog_5_method_8_code 30 = .ok (.bipush 45, 2) := by decide +kernel
theorem nd_P_takeSum_32 : decode prog_5_method_8_code 32 = .ok (.if_icmp .eq 5, 3) := by decide +kernel
theorem nd_P_takeSum_35 : decode prog_5_method_8_code 35 = .ok (.iconst 1, 1) := by decide +kernel
theorem nd_P_takeSum_36 : decode prog_5_method_8_code 36 = .ok (.ireturn, 1) := by decide +kernel
theorem nd_P_takeSum_37 : decode prog_5_method_8_code 37 = .ok (.aload_n 0, 1) := by decide +kernel
theorem nd_P_takeSum_38 : decode prog_5_method_8_code 38 = .ok (.dup, 1) := by decide +kernel
theorem nd_P_takeSum_39 : decode prog_5_method_8_code 39 = .ok (.getfield 15, 3) := by decide +kernel
theorem nd_P_takeSum_42 : decode prog_5_method_8_code 42 = .ok (.iconst 1, 1) := by decide +kernel
theorem nd_P_takeSum_43 : decode prog_5_method_8_code 43 = .ok (.iadd, 1) := by decide +kernel
theorem nd_P_takeSum_44 : decode prog_5_method_8_code 44 = .ok (.putfield 15, 3) := by decide +kernel
theorem nd_P_takeSum_47 : decode prog_5_method_8_code 47 = .ok (.aload_n 0, 1) := by decide +kernel
theorem nd_P_takeSum_48 : decode prog_5_method_8_code 48 = .ok (.iload_n 1, 1) := by decide +kernel
theorem nd_P_takeSum_49 : decode prog_5_method_8_code 49 = .ok (.invokevirtual 57, 3) := by decide +kernel
theorem nd_P_takeSum_52 : decode prog_5_method_8_code 52 = .ok (.ifCond .ne 5, 3) := by decide +kernel
theorem nd_P_takeSum_55 : decode prog_5_method_8_code 55 = .ok (.iconst 0, 1) := by decide +kernel
theorem nd_P_takeSum_56 : decode prog_5_method_8_code 56 = .ok (.ireturn, 1) := by decide +kernel
theorem nd_P_takeSum_57 : decode prog_5_method_8_code 57 = .ok (.aload_n 0, 1) := by decide +kernel
theorem nd_P_takeSum_58 : decode prog_5_method_8_code 58 = .ok (.getfield 9, 3) := by decide +kernel
theorem nd_P_takeSum_61 : decode prog_5_method_8_code 61 = .ok (.iload_n 3, 1) := by decide +kernel
theorem nd_P_takeSum_62 : decode prog_5_method_8_code 62 = .ok (.bipush 43, 2) := by decide +kernel
theorem nd_P_takeSum_64 : decode prog_5_method_8_code 64 = .ok (.if_icmp .ne 8, 3) := by decide +kernel
theorem nd_P_takeSum_67 : decode prog_5_method_8_code 67 = .ok (.bipush 6, 2) := by decide +kernel
theorem nd_P_takeSum_69 : decode prog_5_method_8_code 69 = .ok (.goto 5, 3) := by decide +kernel
theorem nd_P_takeSum_72 : decode prog_5_method_8_code 72 = .ok (.bipush 7, 2) := by decide +kernel
theorem nd_P_takeSum_74 : decode prog_5_method_8_code 74 = .ok (.iconst 0, 1) := by decide +kernel
theorem nd_P_takeSum_75 : decode prog_5_method_8_code 75 = .ok (.invokevirtual 42, 3) := by decide +kernel
theorem nd_P_takeSum_78 : decode prog_5_method_8_code 78 = .ok (.pop, 1) := by decide +kernel
theorem nd_P_takeSum_79 : decode prog_5_method_8_code 79 = .ok (.iinc 2 1, 3) := by decide +kernel
theorem nd_P_takeSum_82 : decode prog_5_method_8_code 82 = .ok (.goto (-70), 3) := by decide +kernel
theorem nd_P_takeSum_85 : decode prog_5_method_8_code 85 = .ok (.iconst 1, 1) := by decide +kernel
theorem nd_P_takeSum_86 : decode prog_5_method_8_code 86 = .ok (.ireturn, 1) := by decide +kernel
theorem nd_P_takeProduct_0 : decode prog_5_method_9_code 0 = .ok (.aload_n 0, 1) := by decide +kernel
theorem nd_P_takeProduct_1 : decode prog_5_method_9_code 1 = .ok (.iload_n 1, 1) := by decide +kernel
theorem nd_P_takeProduct_2 : decode prog_5_method_9_code 2 = .ok (.invokevirtual 60, 3) := by decide +kernel
theorem nd_P_takeProduct_5 : decode prog_5_method_9_code 5 = .ok (.ifCond .ne 5, 3) := by decide +kernel
theorem nd_P_takeProduct_8 : decode prog_5_method_9_code 8 = .ok (.iconst 0, 1) := by decide +kernel
theorem nd_P_takeProduct_9 : decode prog_5_method_9_code 9 = .ok (.ireturn, 1) := by decide +kernel
theorem nd_P_takeProduct_10 : decode prog_5_method_9_code 10 = .ok (.iconst 0, 1) := by decide +kernel
theorem nd_P_takeProduct_11 : decode prog_5_method_9_code 11 = .ok (.istore_n 2, 1) := by decide +kernel
theorem nd_P_takeProduct_12 : decode prog_5_method_9_code 12 = .ok (.iload_n 2, 1) := by decide +kernel
theorem nd_P_takeProduct_13 : decode prog_5_method_9_code 13 = .ok (.bipush 30, 2) := by decide +kernel
theorem nd_P_takeProduct_15 : decode prog_5_method_9_code 15 = .ok (.if_icmp .ge 39, 3) := by decide +kernel
theorem nd_P_takeProduct_18 : decode prog_5_method_9_code 18 = .ok (.aload_n 0, 1) := by decide +kernel
theorem nd_P_takeProduct_19 : decode prog_5_method_9_code 19 = .ok (.bipush 42, 2) := by decide +kernel
theorem nd_P_takeProduct_21 : decode prog_5_method_9_code 21 = .ok (.invokevirtual 46, 3) := by decide +kernel
theorem nd_P_takeProduct_24 : decode prog_5_method_9_code 24 = .ok (.ifCond .eq 30, 3) := by decide +kernel
theorem nd_P_takeProduct_27 : decode prog_5_method_9_code 27 = .ok (.aload_n 0, 1) := by decide +kernel
theorem nd_P_takeProduct_28 : decode prog_5_method_9_code 28 = .ok (.iload_n 1, 1) := by decide +kernel
theorem nd_P_takeProduct_29 : decode prog_5_method_9_code 29 = .ok (.invokevirtual 60, 3) := by decide +kernel
theorem nd_P_takeProduct_32 : decode prog_5_method_9_code 32 = .ok (.ifCond .ne 5, 3) := by decide +kernel
theorem nd_P_takeProduct_35 : decode prog_5_method_9_code 35 = .ok (.iconst 0, 1) := by decide +kernel
theorem nd_P_takeProduct_36 : decode prog_5_method_9_code 36 = .ok (.ireturn, 1) := by decide +kernel
theorem nd_P_takeProduct_37 : decode prog_5_method_9_code 37 = .ok (.aload_n 0, 1) := by decide +kernel
theorem nd_P_takeProduct_38 : decode prog_5_method_9_code 38 = .ok (.getfield 9, 3) := by decide +kernel
theorem nd_P_takeProduct_41 : decode prog_5_method_9_code 41 = .ok (.bipush 8, 2) := by decide +kernel
theorem nd_P_takeProduct_43 : decode prog_5_method_9_code 43 = .ok (.iconst 0, 1) := by decide +kernel
theorem nd_P_takeProduct_44 : decode prog_5_method_9_code 44 = .ok (.invokevirtual 42, 3) := by decide +kernel
theorem nd_P_takeProduct_47 : decode prog_5_method_9_code 47 = .ok (.pop, 1) := by decide +kernel
theorem nd_P_takeProduct_48 : decode prog_5_method_9_code 48 = .ok (.iinc 2 1, 3) := by decide +kernel
theorem nd_P_takeProduct_51 : decode prog_5_method_9_code 51 = .ok (.goto (-39), 3) := by decide +kernel
theorem nd_P_takeProduct_54 : decode prog_5_method_9_code 54 = .ok (.iconst 1, 1) := by decide +kernel
theorem nd_P_takeProduct_55 : decode prog_5_method_9_code 55 = .ok (.ireturn, 1) := by decide +kernel
theorem nd_P_takeUnit_0 : decode prog_5_method_10_code 0 = .ok (.aload_n 0, 1) := by decide +kernel
theorem nd_P_takeUnit_1 : decode prog_5_method_10_code 1 = .ok (.invokevirtual 35, 3) := by decide +kernel
theorem nd_P_takeUnit_4 : decode prog_5_method_10_code 4 = .ok (.istore_n 2, 1) := by decide +kernel
theorem nd_P_takeUnit_5 : decode prog_5_method_10_code 5 = .ok (.iload_n 2, 1) := by decide +kernel
theorem nd_P_takeUnit_6 : decode prog_5_method_10_code 6 = .ok (.invokestatic 63, 3) := by decide +kernel
theorem nd_P_takeUnit_9 : decode prog_5_method_10_code 9 = .ok (.ifCond .eq 28, 3) := by decide +kernel
theorem nd_P_takeUnit_12 : decode prog_5_method_10_code 12 = .ok (.aload_n 0, 1) := by decide +kernel
theorem nd_P_takeUnit_13 : decode prog_5_method_10_code 13 = .ok (.dup, 1) := by decide +kernel
theorem nd_P_takeUnit_14 : decode prog_5_method_10_code 14 = .ok (.getfield 15, 3) := by decide +kernel
theorem nd_P_takeUnit_17 : decode prog_5_method_10_code 17 = .ok (.iconst 1, 1) := by decide +kernel
theorem nd_P_takeUnit_18 : decode prog_5_method_10_code 18 = .ok (.iadd, 1) := by decide +kernel
theorem nd_P_takeUnit_19 : decode prog_5_method_10_code 19 = .ok (.putfield 15, 3) := by decide +kernel
theorem nd_P_takeUnit_22 : decode prog_5_method_10_code 22 = .ok (.aload_n 0, 1) := by decide +kernel
theorem nd_P_takeUnit_23 : decode prog_5_method_10_code 23 = .ok (.getfield 9, 3) := by decide +kernel
theorem nd_P_takeUnit_26 : decode prog_5_method_10_code 26 = .ok (.iconst 1, 1) := by decide +kernel
theorem nd_P_takeUnit_27 : decode prog_5_method_10_code 27 = .ok (.iload_n 2, 1) := by decide +kernel
theorem nd_P_takeUnit_28 : decode prog_5_method_10_code 28 = .ok (.bipush 65, 2) := by decide +kernel
theorem nd_P_takeUnit_30 : decode prog_5_method_10_code 30 = .ok (.isub, 1) := by decide +kernel
theorem nd_P_takeUnit_31 : decode prog_5_method_10_code 31 = .ok (.invokevirtual 42, 3) := by decide +kernel
theorem nd_P_takeUnit_34 : decode prog_5_method_10_code 34 = .ok (.pop, 1) := by decide +kernel
theorem nd_P_takeUnit_35 : decode prog_5_method_10_code 35 = .ok (.iconst 1, 1) := by decide +kernel
theorem nd_P_takeUnit_36 : decode prog_5_method_10_code 36 = .ok (.ireturn, 1) := by decide +kernel
theorem nd_P_takeUnit_37 : decode prog_5_method_10_code 37 = .ok (.iload_n 2, 1) := by decide +kernel
theorem nd_P_takeUnit_38 : decode prog_5_method_10_code 38 = .ok (.invokestatic 66, 3) := by decide +kernel
theorem nd_P_takeUnit_41 : decode prog_5_method_10_code 41 = .ok (.ifCond .eq 9, 3) := by decide +kernel
theorem nd_P_takeUnit_44 : decode prog_5_method_10_code 44 = .ok (.aload_n 0, 1) := by decide +kernel
theorem nd_P_takeUnit_45 : decode prog_5_method_10_code 45 = .ok (.invokevirtual 69, 3) := by decide +kernel
theorem nd_P_takeUnit_48 : decode prog_5_method_10_code 48 = .ok (.iconst 1, 1) := by decide +kernel
theorem nd_P_takeUnit_49 : decode prog_5_method_10_code 49 = .ok (.ireturn, 1) := by decide +kernel
theorem nd_P_takeUnit_50 : decode prog_5_method_10_code 50 = .ok (.iload_n 1, 1) := by decide +kernel
theorem nd_P_takeUnit_51 : decode prog_5_method_10_code 51 = .ok (.iconst 5, 1) := by decide +kernel
theorem nd_P_takeUnit_52 : decode prog_5_method_10_code 52 = .ok (.if_icmp .lt 5, 3) := by decide +kernel
theorem nd_P_takeUnit_55 : decode prog_5_method_10_code 55 = .ok (.iconst 0, 1) := by decide +kernel
theorem nd_P_takeUnit_56 : decode prog_5_method_10_code 56 = .ok (.ireturn, 1) := by decide +kernel
theorem nd_P_takeUnit_57 : decode prog_5_method_10_code 57 = .ok (.aload_n 0, 1) := by decide +kernel
theorem nd_P_takeUnit_58 : decode prog_5_method_10_code 58 = .ok (.bipush 40, 2) := by decide +kernel
theorem nd_P_takeUnit_60 : decode prog_5_method_10_code 60 = .ok (.invokevirtual 46, 3) := by decide +kernel
theorem nd_P_takeUnit_63 : decode prog_5_method_10_code 63 = .ok (.ifCond .eq 28, 3) := by decide +kernel
theorem nd_P_takeUnit_66 : decode prog_5_method_10_code 66 = .ok (.aload_n 0, 1) := by decide +kernel
theorem nd_P_takeUnit_67 : decode prog_5_method_10_code 67 = .ok (.iload_n 1, 1) := by decide +kernel
theorem nd_P_takeUnit_68 : decode prog_5_method_10_code 68 = .ok (.iconst 1, 1) := by decide +kernel
theorem nd_P_takeUnit_69 : decode prog_5_method_10_code 69 = .ok (.iadd, 1) := by decide +kernel
theorem nd_P_takeUnit_70 : decode prog_5_method_10_code 70 = .ok (.invokevirtual 24, 3) := by decide +kernel
theorem nd_P_takeUnit_73 : decode prog_5_method_10_code 73 = .ok (.ifCond .eq 16, 3) := by decide +kernel
theorem nd_P_takeUnit_76 : decode prog_5_method_10_code 76 = .ok (.aload_n 0, 1) := by decide +kernel
theorem nd_P_takeUnit_77 : decode prog_5_method_10_code 77 = .ok (.bipush 41, 2) := by decide +kernel
theorem nd_P_takeUnit_79 : decode prog_5_method_10_code 79 = .ok (.invokevirtual 46, 3) := by decide +kernel
theorem nd_P_takeUnit_82 : decode prog_5_method_10_code 82 = .ok (.ifCond .eq 7, 3) := by decide +kernel
theorem nd_P_takeUnit_85 : decode prog_5_method_10_code 85 = .ok (.iconst 1, 1) := by decide +kernel
theorem nd_P_takeUnit_86 : decode prog_5_method_10_code 86 = .ok (.goto 4, 3) := by decide +kernel
theorem nd_P_takeUnit_89 : decode prog_5_method_10_code 89 = .ok (.iconst 0, 1) := by decide +kernel
theorem nd_P_takeUnit_90 : decode prog_5_method_10_code 90 = .ok (.ireturn, 1) := by decide +kernel
theorem nd_P_takeUnit_91 : decode prog_5_method_10_code 91 = .ok (.aload_n 0, 1) := by decide +kernel
theorem nd_P_takeUnit_92 : decode prog_5_method_10_code 92 = .ok (.bipush 45, 2) := by decide +kernel
theorem nd_P_takeUnit_94 : decode prog_5_method_10_code 94 = .ok (.invokevirtual 46, 3) := by decide +kernel
theorem nd_P_takeUnit_97 : decode prog_5_method_10_code 97 = .ok (.ifCond .ne 14, 3) := by decide +kernel
theorem nd_P_takeUnit_100 : decode prog_5_method_10_code 100 = .ok (.aload_n 0, 1) := by decide +kernel
theorem nd_P_takeUnit_101 : decode prog_5_method_10_code 101 = .ok (.bipush 64, 2) := by decide +kernel
theorem nd_P_takeUnit_103 : decode prog_5_method_10_code 103 = .ok (.invokevirtual 46, 3) := by decide +kernel
theorem nd_P_takeUnit_106 : decode prog_5_method_10_code 106 = .ok (.ifCond .ne 5, 3) := by decide +kernel
theorem nd_P_takeUnit_109 : decode prog_5_method_10_code 109 = .ok (.iconst 0, 1) := by decide +kernel
theorem nd_P_takeUnit_110 : decode prog_5_method_10_code 110 = .ok (.ireturn, 1) := by decide +kernel
theorem nd_P_takeUnit_111 : decode prog_5_method_10_code 111 = .ok (.aload_n 0, 1) := by decide +kernel
theorem nd_P_takeUnit_112 : decode prog_5_method_10_code 112 = .ok (.iload_n 1, 1) := by decide +kernel
theorem nd_P_takeUnit_113 : decode prog_5_method_10_code 113 = .ok (.iconst 1, 1) := by decide +kernel
theorem nd_P_takeUnit_114 : decode prog_5_method_10_code 114 = .ok (.iadd, 1) := by decide +kernel
theorem nd_P_takeUnit_115 : decode prog_5_method_10_code 115 = .ok (.invokevirtual 60, 3) := by decide +kernel
theorem nd_P_takeUnit_118 : decode prog_5_method_10_code 118 = .ok (.ifCond .ne 5, 3) := by decide +kernel
theorem nd_P_takeUnit_121 : decode prog_5_method_10_code 121 = .ok (.iconst 0, 1) := by decide +kernel
theorem nd_P_takeUnit_122 : decode prog_5_method_10_code 122 = .ok (.ireturn, 1) := by decide +kernel
theorem nd_P_takeUnit_123 : decode prog_5_method_10_code 123 = .ok (.aload_n 0, 1) := by decide +kernel
theorem nd_P_takeUnit_124 : decode prog_5_method_10_code 124 = .ok (.getfield 9, 3) := by decide +kernel
theorem nd_P_takeUnit_127 : decode prog_5_method_10_code 127 = .ok (.iload_n 2, 1) := by decide +kernel
theorem nd_P_takeUnit_128 : decode prog_5_method_10_code 128 = .ok (.bipush 45, 2) := by decide +kernel
theorem nd_P_takeUnit_130 : decode prog_5_method_10_code 130 = .ok (.if_icmp .ne 7, 3) := by decide +kernel
theorem nd_P_takeUnit_133 : decode prog_5_method_10_code 133 = .ok (.iconst 3, 1) := by decide +kernel
theorem nd_P_takeUnit_134 : decode prog_5_method_10_code 134 = .ok (.goto 4, 3) := by decide +kernel
theorem nd_P_takeUnit_137 : decode prog_5_method_10_code 137 = .ok (.iconst 2, 1) := by decide +kernel
theorem nd_P_takeUnit_138 : decode prog_5_method_10_code 138 = .ok (.iconst 0, 1) := by decide +kernel
theorem nd_P_takeUnit_139 : decode prog_5_method_10_code 139 = .ok (.invokevirtual 42, 3) := by decide +kernel
theorem nd_P_takeUnit_142 : decode prog_5_method_10_code 142 = .ok (.pop, 1) := by decide +kernel
theorem nd_P_takeUnit_143 : decode prog_5_method_10_code 143 = .ok (.iconst 1, 1) := by decide +kernel
theorem nd_P_takeUnit_144 : decode prog_5_method_10_code 144 = .ok (.ireturn, 1) := by decide +kernel
theorem nd_P_takeNumber_0 : decode prog_5_method_11_code 0 = .ok (.iconst 0, 1) := by decide +kernel
theorem nd_P_takeNumber_1 : decode prog_5_method_11_code 1 = .ok (.istore_n 1, 1) := by decide +kernel
theorem nd_P_takeNumber_2 : decode prog_5_method_11_code 2 = .ok (.iconst 0, 1) := by decide +kernel
theorem nd_P_takeNumber_3 : decode prog_5_method_11_code 3 = .ok (.istore_n 2, 1) := by decide +kernel
theorem nd_P_takeNumber_4 : decode prog_5_method_11_code 4 = .ok (.iload_n 2, 1) := by decide +kernel
theorem nd_P_takeNumber_5 : decode prog_5_method_11_code 5 = .ok (.iconst 4, 1) := by decide +kernel
theorem nd_P_takeNumber_6 : decode prog_5_method_11_code 6 = .ok (.if_icmp .ge 42, 3) := by decide +kernel
theorem nd_P_takeNumber_9 : decode prog_5_method_11_code 9 = .ok (.aload_n 0, 1) := by decide +kernel
theorem nd_P_takeNumber_10 : decode prog_5_method_11_code 10 = .ok (.invokevirtual 35, 3) := by decide +kernel
theorem nd_P_takeNumber_13 : decode prog_5_method_11_code 13 = .ok (.invokestatic 66, 3) := by decide +kernel
theorem nd_P_takeNumber_16 : decode prog_5_method_11_code 16 = .ok (.ifCond .eq 32, 3) := by decide +kernel
theorem nd_P_takeNumber_19 : decode prog_5_method_11_code 19 = .ok (.iload_n 1, 1) := by decide +kernel
theorem nd_P_takeNumber_20 : decode prog_5_method_11_code 20 = .ok (.bipush 10, 2) := by decide +kernel
theorem nd_P_takeNumber_22 : decode prog_5_method_11_code 22 = .ok (.imul, 1) := by decide +kernel
theorem nd_P_takeNumber_23 : decode prog_5_method_11_code 23 = .ok (.aload_n 0, 1) := by decide +kernel
theorem nd_P_takeNumber_24 : decode prog_5_method_11_code 24 = .ok (.invokevirtual 35, 3) := by decide +kernel
theorem nd_P_takeNumber_27 : decode prog_5_method_11_code 27 = .ok (.bipush 48, 2) := by decide +kernel
theorem nd_P_takeNumber_29 : decode prog_5_method_11_code 29 = .ok (.isub, 1) := by decide +kernel
theorem nd_P_takeNumber_30 : decode prog_5_method_11_code 30 = .ok (.iadd, 1) := by decide +kernel
theorem nd_P_takeNumber_31 : decode prog_5_method_11_code 31 = .ok (.istore_n 1, 1) := by decide +kernel
theorem nd_P_takeNumber_32 : decode prog_5_method_11_code 32 = .ok (.aload_n 0, 1) := by decide +kernel
theorem nd_P_takeNumber_33 : decode prog_5_method_11_code 33 = .ok (.dup, 1) := by decide +kernel
theorem nd_P_takeNumber_34 : decode prog_5_method_11_code 34 = .ok (.getfield 15, 3) := by decide +kernel
theorem nd_P_takeNumber_37 : decode prog_5_method_11_code 37 = .ok (.iconst 1, 1) := by decide +kernel
theorem nd_P_takeNumber_38 : decode prog_5_method_11_code 38 = .ok (.iadd, 1) := by decide +kernel
theorem nd_P_takeNumber_39 : decode prog_5_method_11_code 39 = .ok (.putfield 15, 3) := by decide +kernel
theorem nd_P_takeNumber_42 : decode prog_5_method_11_code 42 = .ok (.iinc 2 1, 3) := by decide +kernel
theorem nd_P_takeNumber_45 : decode prog_5_method_11_code 45 = .ok (.goto (-41), 3) := by decide +kernel
theorem nd_P_takeNumber_48 : decode prog_5_method_11_code 48 = .ok (.aload_n 0, 1) := by decide +kernel
theorem nd_P_takeNumber_49 : decode prog_5_method_11_code 49 = .ok (.getfield 9, 3) := by decide +kernel
theorem nd_P_takeNumber_52 : decode prog_5_method_11_code 52 = .ok (.iconst 0, 1) := by decide +kernel
theorem nd_P_takeNumber_53 : decode prog_5_method_11_code 53 = .ok (.iload_n 1, 1) := by decide +kernel
theorem nd_P_takeNumber_54 : decode prog_5_method_11_code 54 = .ok (.invokevirtual 42, 3) := by decide +kernel
theorem nd_P_takeNumber_57 : decode prog_5_method_11_code 57 = .ok (.pop, 1) := by decide +kernel
theorem nd_P_takeNumber_58 : decode prog_5_method_11_code 58 = .ok (.return_, 1) := by decide +kernel
end
section
/-! the abstract machine over this program, a row an instruction -/
abbrev nM (L : Nat) (xs : Nat → Int32) (d : Nat) : ax_MT := ax_M ns_cl L xs ns_tb ns_mt d
abbrev nW (L : Nat) (xs : Nat → Int32) (d : Nat) (I : ax_MI) (Q : ax_Q) : ax_P := ax_W ns_cl L xs ns_tb (d + 1) I (nM L xs d) Q
theorem nM.of {L : Nat} {xs : Nat → Int32} {d y : Nat} {args : List Value} {h : ax_H} {Q : ax_Q} (I : ax_MI) (hI : ns_mt y = some I) {ls : List (Option Value)} (hl : (ax_el args).length ≤ I.2.2.2.1) (hls : ax_en I.2.2.2.1 args = ls) (hw : nW L xs d I Q 0 ls [] 0 0 h) : nM L xs (d + 1) y args h Q := by
  show ax_op (ns_mt y) _
  rw [hI]
  subst hls
  exact ⟨hl, hw⟩
theorem ax_up_s (h : ax_H) (a : Nat) (e : ax_E) : (ax_up h a e).2 a = some e := by simp [ax_up]
theorem ax_up_o {h : ax_H} {a i : Nat} {e : ax_E} (hi : ¬ i = a) : (ax_up h a e).2 i = h.2 i := by simp [ax_up, hi]
theorem ax_nw_s (h : ax_H) (e : ax_E) : (ax_nw h e).2 h.1 = some e := by simp [ax_nw]
theorem ax_nw_o {h : ax_H} {i : Nat} {e : ax_E} (hi : ¬ i = h.1) : (ax_nw h e).2 i = h.2 i := by simp [ax_nw, hi]
/-- field kf of cell a is v -/
def gfv (h : ax_H) (a ci kf : Nat) (v : Value) : Prop := ∃ fs, h.2 a = some (.inr (ci, fs)) ∧ fs[kf]? = some v
def pfv (h : ax_H) (a ci kf : Nat) (v : Value) (h' : ax_H) : Prop := ∃ fs, h.2 a = some (.inr (ci, fs)) ∧ kf < fs.length ∧ h' = ax_up h a (.inr (ci, fs.set kf v))
/-- cell a is an array of ints, chars or booleans -/
def gav (h : ax_H) (a : Nat) (ty : FieldType) (n : Nat) (f : Nat → Int32) : Prop := h.2 a = some (.inl (ty, n, .inl f)) ∧ n < 2 ^ 31
def pav (h : ax_H) (a : Nat) (ty : FieldType) (n j : Nat) (x : Int32) (h' : ax_H) : Prop := ∃ f, h.2 a = some (.inl (ty, n, .inl f)) ∧ n < 2 ^ 31 ∧ h' = ax_up h a (.inl (ty, n, .inl (upd f j x)))
def glv (h : ax_H) (a n : Nat) (f : Nat → Int64) : Prop := h.2 a = some (.inl (.long, n, .inr (.inl f))) ∧ n < 2 ^ 31
def plv (h : ax_H) (a n j : Nat) (x : Int64) (h' : ax_H) : Prop := ∃ f, h.2 a = some (.inl (.long, n, .inr (.inl f))) ∧ n < 2 ^ 31 ∧ h' = ax_up h a (.inl (.long, n, .inr (.inl (vp_updL f j x))))
section NR
variable {L : Nat} {xs : Nat → Int32} {d : Nat} {Q : ax_Q} {pc pc' : Nat} {ls ls' : List (Option Value)} {st : List Value} {k n : Nat} {h h' : ax_H} {cc : ByteArray} {co ml mc ms : Nat} {ini : Bool} {rt : Option FieldType}
theorem aw_of {I : ax_MI} {i : Instr} {len : Nat} (hd : decode I.1 pc = .ok (i, len)) (hl : len = ax_len i ∨ ax_len i = 0) (hi : ax_ins ns_cl L xs ns_tb (d + 1) I.2.1 I.2.2.1 I.2.2.2.2.1 I.2.2.2.2.2.1 I.2.2.2.2.2.2 (nM L xs d) Q (nW L xs d I Q) (nW L xs d I Q) pc ls st k n h i) : nW L xs d I Q pc ls st k n h := ax_W.st (by
  unfold ax_step
  rw [hd]
  exact ⟨hl, hi⟩)

theorem aw_iconst {I : ax_MI} {v : Int} {x : Int32} (hd : decode I.1 pc = .ok (.iconst v, 1)) (hpc : pc + 1 = pc') (hx : Int32.ofInt v = x) (kk : nW L xs d I Q pc' ls (.int x :: st) k n h) : nW L xs d I Q pc ls st k n h := by subst hpc; subst hx; exact aw_of hd (Or.inl rfl) kk
theorem aw_bipush {I : ax_MI} {v : Int} {x : Int32} (hd : decode I.1 pc = .ok (.bipush v, 2)) (hpc : pc + 2 = pc') (hx : (Int8.ofInt v).toInt32 = x) (kk : nW L xs d I Q pc' ls (.int x :: st) k n h) : nW L xs d I Q pc ls st k n h := by subst hpc; subst hx; exact aw_of hd (Or.inl rfl) kk
theorem aw_sipush {I : ax_MI} {v : Int} {x : Int32} (hd : decode I.1 pc = .ok (.sipush v, 3)) (hpc : pc + 3 = pc') (hx : (Int16.ofInt v).toInt32 = x) (kk : nW L xs d I Q pc' ls (.int x :: st) k n h) : nW L xs d I Q pc ls st k n h := by subst hpc; subst hx; exact aw_of hd (Or.inl rfl) kk
theorem aw_lconst {I : ax_MI} {v : Fin 2} {x : Int64} (hd : decode I.1 pc = .ok (.lconst v, 1)) (hpc : pc + 1 = pc') (hx : Int64.ofNat (v : Nat) = x) (kk : nW L xs d I Q pc' ls (.long x :: st) k n h) : nW L xs d I Q pc ls st k n h := by subst hpc; subst hx; exact aw_of hd (Or.inl rfl) kk
theorem aw_null {I : ax_MI}  (hd : decode I.1 pc = .ok (.aconst_null, 1)) (hpc : pc + 1 = pc') (kk : nW L xs d I Q pc' ls (.null :: st) k n h) : nW L xs d I Q pc ls st k n h := by subst hpc; exact aw_of hd (Or.inl rfl) kk
theorem aw_ldcS {I : ax_MI} {idx : Nat} (hd : decode I.1 pc = .ok (.ldc idx, 2)) (hpc : pc + 2 = pc') (hk : ns_tK I.2.1 idx = some (.retAddr 1)) (kk : nW L xs d I Q pc' ls (.retAddr 1 :: st) k n h) : nW L xs d I Q pc ls st k n h := by
  subst hpc
  refine aw_of hd (Or.inl rfl) ?_
  show ax_op (ns_tK I.2.1 idx) _
  rw [hk]
  exact ⟨rfl, kk⟩
theorem aw_ldc2 {I : ax_MI} {idx : Nat} {x : Int64} (hd : decode I.1 pc = .ok (.ldc2_w idx, 3)) (hpc : pc + 3 = pc') (hk : ns_tK I.2.1 idx = some (.long x)) (kk : nW L xs d I Q pc' ls (.long x :: st) k n h) : nW L xs d I Q pc ls st k n h := by
  subst hpc
  refine aw_of hd (Or.inl rfl) ?_
  show ax_op (ns_tK I.2.1 idx) _
  rw [hk]
  exact kk
theorem aw_iload {I : ax_MI} {j : Nat} {x : Int32} (hd : decode I.1 pc = .ok (.iload j, 2)) (hpc : pc + 2 = pc') (hl : ls[j]? = some (some (.int x))) (kk : nW L xs d I Q pc' ls (.int x :: st) k n h) : nW L xs d I Q pc ls st k n h := by
  subst hpc
  refine aw_of hd (Or.inl rfl) ?_
  show ax_ld ls j _
  unfold ax_ld
  rw [hl]
  exact kk
theorem aw_iload_n {I : ax_MI} {j : Fin 4} {x : Int32} (hd : decode I.1 pc = .ok (.iload_n j, 1)) (hpc : pc + 1 = pc') (hl : ls[(j : Nat)]? = some (some (.int x))) (kk : nW L xs d I Q pc' ls (.int x :: st) k n h) : nW L xs d I Q pc ls st k n h := by
  subst hpc
  refine aw_of hd (Or.inl rfl) ?_
  show ax_ld ls (j : Nat) _
  unfold ax_ld
  rw [hl]
  exact kk
theorem aw_lload {I : ax_MI} {j : Nat} {x : Int64} (hd : decode I.1 pc = .ok (.lload j, 2)) (hpc : pc + 2 = pc') (hl : ls[j]? = some (some (.long x))) (kk : nW L xs d I Q pc' ls (.long x :: st) k n h) : nW L xs d I Q pc ls st k n h := by
  subst hpc
  refine aw_of hd (Or.inl rfl) ?_
  show ax_ld ls j _
  unfold ax_ld
  rw [hl]
  exact kk
theorem aw_lload_n {I : ax_MI} {j : Fin 4} {x : Int64} (hd : decode I.1 pc = .ok (.lload_n j, 1)) (hpc : pc + 1 = pc') (hl : ls[(j : Nat)]? = some (some (.long x))) (kk : nW L xs d I Q pc' ls (.long x :: st) k n h) : nW L xs d I Q pc ls st k n h := by
  subst hpc
  refine aw_of hd (Or.inl rfl) ?_
  show ax_ld ls (j : Nat) _
  unfold ax_ld
  rw [hl]
  exact kk
theorem aw_aload {I : ax_MI} {j : Nat} {v : Value} (hd : decode I.1 pc = .ok (.aload j, 2)) (hpc : pc + 2 = pc') (hl : ls[j]? = some (some v)) (hv : ax_isa v = true) (kk : nW L xs d I Q pc' ls (v :: st) k n h) : nW L xs d I Q pc ls st k n h := by
  subst hpc
  refine aw_of hd (Or.inl rfl) ?_
  show ax_ld ls j _
  unfold ax_ld
  rw [hl]
  exact ⟨hv, kk⟩
theorem aw_aload_n {I : ax_MI} {j : Fin 4} {v : Value} (hd : decode I.1 pc = .ok (.aload_n j, 1)) (hpc : pc + 1 = pc') (hl : ls[(j : Nat)]? = some (some v)) (hv : ax_isa v = true) (kk : nW L xs d I Q pc' ls (v :: st) k n h) : nW L xs d I Q pc ls st k n h := by
  subst hpc
  refine aw_of hd (Or.inl rfl) ?_
  show ax_ld ls (j : Nat) _
  unfold ax_ld
  rw [hl]
  exact ⟨hv, kk⟩
theorem aw_istore {I : ax_MI} {j : Nat} {x : Int32} (hd : decode I.1 pc = .ok (.istore j, 2)) (hpc : pc + 2 = pc') (hj : j < ls.length) (hl : ax_s1 ls j (.int x) = ls') (kk : nW L xs d I Q pc' ls' st k n h) : nW L xs d I Q pc ls (.int x :: st) k n h := by subst hpc; subst hl; exact aw_of hd (Or.inl rfl) ⟨hj, kk⟩
theorem aw_istore_n {I : ax_MI} {j : Fin 4} {x : Int32} (hd : decode I.1 pc = .ok (.istore_n j, 1)) (hpc : pc + 1 = pc') (hj : (j : Nat) < ls.length) (hl : ax_s1 ls (j : Nat) (.int x) = ls') (kk : nW L xs d I Q pc' ls' st k n h) : nW L xs d I Q pc ls (.int x :: st) k n h := by subst hpc; subst hl; exact aw_of hd (Or.inl rfl) ⟨hj, kk⟩
theorem aw_lstore {I : ax_MI} {j : Nat} {x : Int64} (hd : decode I.1 pc = .ok (.lstore j, 2)) (hpc : pc + 2 = pc') (hj : j + 1 < ls.length) (hl : ax_s2 ls j (.long x) = ls') (kk : nW L xs d I Q pc' ls' st k n h) : nW L xs d I Q pc ls (.long x :: st) k n h := by subst hpc; subst hl; exact aw_of hd (Or.inl rfl) ⟨hj, kk⟩
theorem aw_lstore_n {I : ax_MI} {j : Fin 4} {x : Int64} (hd : decode I.1 pc = .ok (.lstore_n j, 1)) (hpc : pc + 1 = pc') (hj : (j : Nat) + 1 < ls.length) (hl : ax_s2 ls (j : Nat) (.long x) = ls') (kk : nW L xs d I Q pc' ls' st k n h) : nW L xs d I Q pc ls (.long x :: st) k n h := by subst hpc; subst hl; exact aw_of hd (Or.inl rfl) ⟨hj, kk⟩
theorem aw_astore {I : ax_MI} {j : Nat} {v : Value} (hd : decode I.1 pc = .ok (.astore j, 2)) (hpc : pc + 2 = pc') (hv : ax_isa v = true) (hj : j < ls.length) (hl : ax_s1 ls j v = ls') (kk : nW L xs d I Q pc' ls' st k n h) : nW L xs d I Q pc ls (v :: st) k n h := by subst hpc; subst hl; exact aw_of hd (Or.inl rfl) ⟨by cases v <;> first | rfl | (cases hv; done), hv, hj, kk⟩
theorem aw_astore_n {I : ax_MI} {j : Fin 4} {v : Value} (hd : decode I.1 pc = .ok (.astore_n j, 1)) (hpc : pc + 1 = pc') (hv : ax_isa v = true) (hj : (j : Nat) < ls.length) (hl : ax_s1 ls (j : Nat) v = ls') (kk : nW L xs d I Q pc' ls' st k n h) : nW L xs d I Q pc ls (v :: st) k n h := by subst hpc; subst hl; exact aw_of hd (Or.inl rfl) ⟨by cases v <;> first | rfl | (cases hv; done), hv, hj, kk⟩
theorem aw_iinc {I : ax_MI} {j : Nat} {v : Int} {x y : Int32} (hd : decode I.1 pc = .ok (.iinc j v, 3)) (hpc : pc + 3 = pc') (hl : ls[j]? = some (some (.int x))) (hy : x + Int32.ofInt v = y) (hl' : ax_s1 ls j (.int y) = ls') (kk : nW L xs d I Q pc' ls' st k n h) : nW L xs d I Q pc ls st k n h := by
  subst hpc; subst hl'; subst hy
  refine aw_of hd (Or.inl rfl) ?_
  show ax_ld ls j _
  unfold ax_ld
  rw [hl]
  exact kk
theorem aw_iadd {I : ax_MI} {x y : Int32} (hd : decode I.1 pc = .ok (.iadd, 1)) (hpc : pc + 1 = pc') (kk : nW L xs d I Q pc' ls (.int (x + y) :: st) k n h) : nW L xs d I Q pc ls (.int y :: .int x :: st) k n h := by subst hpc; exact aw_of hd (Or.inl rfl) kk
theorem aw_isub {I : ax_MI} {x y : Int32} (hd : decode I.1 pc = .ok (.isub, 1)) (hpc : pc + 1 = pc') (kk : nW L xs d I Q pc' ls (.int (x - y) :: st) k n h) : nW L xs d I Q pc ls (.int y :: .int x :: st) k n h := by subst hpc; exact aw_of hd (Or.inl rfl) kk
theorem aw_imul {I : ax_MI} {x y : Int32} (hd : decode I.1 pc = .ok (.imul, 1)) (hpc : pc + 1 = pc') (kk : nW L xs d I Q pc' ls (.int (x * y) :: st) k n h) : nW L xs d I Q pc ls (.int y :: .int x :: st) k n h := by subst hpc; exact aw_of hd (Or.inl rfl) kk
theorem aw_iand {I : ax_MI} {x y : Int32} (hd : decode I.1 pc = .ok (.iand, 1)) (hpc : pc + 1 = pc') (kk : nW L xs d I Q pc' ls (.int (x &&& y) :: st) k n h) : nW L xs d I Q pc ls (.int y :: .int x :: st) k n h := by subst hpc; exact aw_of hd (Or.inl rfl) kk
theorem aw_ixor {I : ax_MI} {x y : Int32} (hd : decode I.1 pc = .ok (.ixor, 1)) (hpc : pc + 1 = pc') (kk : nW L xs d I Q pc' ls (.int (x ^^^ y) :: st) k n h) : nW L xs d I Q pc ls (.int y :: .int x :: st) k n h := by subst hpc; exact aw_of hd (Or.inl rfl) kk
theorem aw_idiv {I : ax_MI} {x y : Int32} (hd : decode I.1 pc = .ok (.idiv, 1)) (hpc : pc + 1 = pc') (hy : ¬ y = 0) (kk : nW L xs d I Q pc' ls (.int (x / y) :: st) k n h) : nW L xs d I Q pc ls (.int y :: .int x :: st) k n h := by subst hpc; exact aw_of hd (Or.inl rfl) ⟨hy, kk⟩
theorem aw_irem {I : ax_MI} {x y : Int32} (hd : decode I.1 pc = .ok (.irem, 1)) (hpc : pc + 1 = pc') (hy : ¬ y = 0) (kk : nW L xs d I Q pc' ls (.int (x - x / y * y) :: st) k n h) : nW L xs d I Q pc ls (.int y :: .int x :: st) k n h := by subst hpc; exact aw_of hd (Or.inl rfl) ⟨hy, kk⟩
theorem aw_ineg {I : ax_MI} {x : Int32} (hd : decode I.1 pc = .ok (.ineg, 1)) (hpc : pc + 1 = pc') (kk : nW L xs d I Q pc' ls (.int (-x) :: st) k n h) : nW L xs d I Q pc ls (.int x :: st) k n h := by subst hpc; exact aw_of hd (Or.inl rfl) kk
theorem aw_i2l {I : ax_MI} {x : Int32} (hd : decode I.1 pc = .ok (.i2l, 1)) (hpc : pc + 1 = pc') (kk : nW L xs d I Q pc' ls (.long x.toInt64 :: st) k n h) : nW L xs d I Q pc ls (.int x :: st) k n h := by subst hpc; exact aw_of hd (Or.inl rfl) kk
theorem aw_l2i {I : ax_MI} {x : Int64} (hd : decode I.1 pc = .ok (.l2i, 1)) (hpc : pc + 1 = pc') (kk : nW L xs d I Q pc' ls (.int x.toInt32 :: st) k n h) : nW L xs d I Q pc ls (.long x :: st) k n h := by subst hpc; exact aw_of hd (Or.inl rfl) kk
theorem aw_i2c {I : ax_MI} {x : Int32} (hd : decode I.1 pc = .ok (.i2c, 1)) (hpc : pc + 1 = pc') (kk : nW L xs d I Q pc' ls (.int (x.toUInt32 % 65536).toInt32 :: st) k n h) : nW L xs d I Q pc ls (.int x :: st) k n h := by subst hpc; exact aw_of hd (Or.inl rfl) kk
theorem aw_lcmp {I : ax_MI} {x y : Int64} (hd : decode I.1 pc = .ok (.lcmp, 1)) (hpc : pc + 1 = pc') (kk : nW L xs d I Q pc' ls (.int (lg_cmp x y) :: st) k n h) : nW L xs d I Q pc ls (.long y :: .long x :: st) k n h := by subst hpc; exact aw_of hd (Or.inl rfl) kk
theorem aw_dup {I : ax_MI} {v : Value} (hd : decode I.1 pc = .ok (.dup, 1)) (hpc : pc + 1 = pc') (hv : ax_c1 v = true) (kk : nW L xs d I Q pc' ls (v :: v :: st) k n h) : nW L xs d I Q pc ls (v :: st) k n h := by subst hpc; exact aw_of hd (Or.inl rfl) ⟨hv, kk⟩
theorem aw_pop {I : ax_MI} {v : Value} (hd : decode I.1 pc = .ok (.pop, 1)) (hpc : pc + 1 = pc') (hv : ax_c1 v = true) (kk : nW L xs d I Q pc' ls st k n h) : nW L xs d I Q pc ls (v :: st) k n h := by subst hpc; exact aw_of hd (Or.inl rfl) ⟨hv, kk⟩
theorem aw_dup2 {I : ax_MI} {v u : Value} (hd : decode I.1 pc = .ok (.dup2, 1)) (hpc : pc + 1 = pc') (hv : ax_c1 v = true) (hu : ax_c1 u = true) (kk : nW L xs d I Q pc' ls (v :: u :: v :: u :: st) k n h) : nW L xs d I Q pc ls (v :: u :: st) k n h := by subst hpc; exact aw_of hd (Or.inl rfl) ⟨hv, hu, kk⟩
theorem aw_t {off : Int} {K : Nat → Prop} (ht : (pc : Int) + off = (pc' : Int)) (h : K pc') : ax_t pc off K := by
  refine ⟨by rw [ht]; exact Int.natCast_nonneg _, ?_⟩
  rw [ht, Int.toNat_natCast]
  exact h
theorem aw_goto {I : ax_MI} {off : Int} (hd : decode I.1 pc = .ok (.goto off, 3)) (ht : (pc : Int) + off = (pc' : Int)) (kk : nW L xs d I Q pc' ls st k n h) : nW L xs d I Q pc ls st k n h := aw_of hd (Or.inl rfl) (aw_t (K := fun t => nW L xs d I Q t ls st k n h) ht kk)
theorem aw_icmp_eq {I : ax_MI} {x y : Int32} {off : Int} {tg : Nat} (hd : decode I.1 pc = .ok (.if_icmp .eq off, 3)) (ht : (pc : Int) + off = (tg : Int)) (hpc : pc + 3 = pc') (kt : x = y → nW L xs d I Q tg ls st k n h) (kf : ¬ x = y → nW L xs d I Q pc' ls st k n h) : nW L xs d I Q pc ls (.int y :: .int x :: st) k n h := by subst hpc; exact aw_of hd (Or.inl rfl) (aw_t (K := fun t => ax_br (ax_c .eq x y) (nW L xs d I Q t ls st k n h) (nW L xs d I Q (pc + 3) ls st k n h)) ht ⟨kt, kf⟩)
theorem aw_if_eq {I : ax_MI} {x : Int32} {off : Int} {tg : Nat} (hd : decode I.1 pc = .ok (.ifCond .eq off, 3)) (ht : (pc : Int) + off = (tg : Int)) (hpc : pc + 3 = pc') (kt : x = 0 → nW L xs d I Q tg ls st k n h) (kf : ¬ x = 0 → nW L xs d I Q pc' ls st k n h) : nW L xs d I Q pc ls (.int x :: st) k n h := by subst hpc; exact aw_of hd (Or.inl rfl) (aw_t (K := fun t => ax_br (ax_c .eq x 0) (nW L xs d I Q t ls st k n h) (nW L xs d I Q (pc + 3) ls st k n h)) ht ⟨kt, kf⟩)
theorem aw_icmp_ne {I : ax_MI} {x y : Int32} {off : Int} {tg : Nat} (hd : decode I.1 pc = .ok (.if_icmp .ne off, 3)) (ht : (pc : Int) + off = (tg : Int)) (hpc : pc + 3 = pc') (kt : ¬ x = y → nW L xs d I Q tg ls st k n h) (kf : x = y → nW L xs d I Q pc' ls st k n h) : nW L xs d I Q pc ls (.int y :: .int x :: st) k n h := by subst hpc; exact aw_of hd (Or.inl rfl) (aw_t (K := fun t => ax_br (ax_c .ne x y) (nW L xs d I Q t ls st k n h) (nW L xs d I Q (pc + 3) ls st k n h)) ht ⟨kt, (fun z => kf (Classical.not_not.mp z))⟩)
theorem aw_if_ne {I : ax_MI} {x : Int32} {off : Int} {tg : Nat} (hd : decode I.1 pc = .ok (.ifCond .ne off, 3)) (ht : (pc : Int) + off = (tg : Int)) (hpc : pc + 3 = pc') (kt : ¬ x = 0 → nW L xs d I Q tg ls st k n h) (kf : x = 0 → nW L xs d I Q pc' ls st k n h) : nW L xs d I Q pc ls (.int x :: st) k n h := by subst hpc; exact aw_of hd (Or.inl rfl) (aw_t (K := fun t => ax_br (ax_c .ne x 0) (nW L xs d I Q t ls st k n h) (nW L xs d I Q (pc + 3) ls st k n h)) ht ⟨kt, (fun z => kf (Classical.not_not.mp z))⟩)
theorem aw_icmp_lt {I : ax_MI} {x y : Int32} {off : Int} {tg : Nat} (hd : decode I.1 pc = .ok (.if_icmp .lt off, 3)) (ht : (pc : Int) + off = (tg : Int)) (hpc : pc + 3 = pc') (kt : x < y → nW L xs d I Q tg ls st k n h) (kf : ¬ x < y → nW L xs d I Q pc' ls st k n h) : nW L xs d I Q pc ls (.int y :: .int x :: st) k n h := by subst hpc; exact aw_of hd (Or.inl rfl) (aw_t (K := fun t => ax_br (ax_c .lt x y) (nW L xs d I Q t ls st k n h) (nW L xs d I Q (pc + 3) ls st k n h)) ht ⟨kt, kf⟩)
theorem aw_if_lt {I : ax_MI} {x : Int32} {off : Int} {tg : Nat} (hd : decode I.1 pc = .ok (.ifCond .lt off, 3)) (ht : (pc : Int) + off = (tg : Int)) (hpc : pc + 3 = pc') (kt : x < 0 → nW L xs d I Q tg ls st k n h) (kf : ¬ x < 0 → nW L xs d I Q pc' ls st k n h) : nW L xs d I Q pc ls (.int x :: st) k n h := by subst hpc; exact aw_of hd (Or.inl rfl) (aw_t (K := fun t => ax_br (ax_c .lt x 0) (nW L xs d I Q t ls st k n h) (nW L xs d I Q (pc + 3) ls st k n h)) ht ⟨kt, kf⟩)
theorem aw_icmp_ge {I : ax_MI} {x y : Int32} {off : Int} {tg : Nat} (hd : decode I.1 pc = .ok (.if_icmp .ge off, 3)) (ht : (pc : Int) + off = (tg : Int)) (hpc : pc + 3 = pc') (kt : y ≤ x → nW L xs d I Q tg ls st k n h) (kf : ¬ y ≤ x → nW L xs d I Q pc' ls st k n h) : nW L xs d I Q pc ls (.int y :: .int x :: st) k n h := by subst hpc; exact aw_of hd (Or.inl rfl) (aw_t (K := fun t => ax_br (ax_c .ge x y) (nW L xs d I Q t ls st k n h) (nW L xs d I Q (pc + 3) ls st k n h)) ht ⟨kt, kf⟩)
theorem aw_if_ge {I : ax_MI} {x : Int32} {off : Int} {tg : Nat} (hd : decode I.1 pc = .ok (.ifCond .ge off, 3)) (ht : (pc : Int) + off = (tg : Int)) (hpc : pc + 3 = pc') (kt : 0 ≤ x → nW L xs d I Q tg ls st k n h) (kf : ¬ 0 ≤ x → nW L xs d I Q pc' ls st k n h) : nW L xs d I Q pc ls (.int x :: st) k n h := by subst hpc; exact aw_of hd (Or.inl rfl) (aw_t (K := fun t => ax_br (ax_c .ge x 0) (nW L xs d I Q t ls st k n h) (nW L xs d I Q (pc + 3) ls st k n h)) ht ⟨kt, kf⟩)
theorem aw_icmp_gt {I : ax_MI} {x y : Int32} {off : Int} {tg : Nat} (hd : decode I.1 pc = .ok (.if_icmp .gt off, 3)) (ht : (pc : Int) + off = (tg : Int)) (hpc : pc + 3 = pc') (kt : y < x → nW L xs d I Q tg ls st k n h) (kf : ¬ y < x → nW L xs d I Q pc' ls st k n h) : nW L xs d I Q pc ls (.int y :: .int x :: st) k n h := by subst hpc; exact aw_of hd (Or.inl rfl) (aw_t (K := fun t => ax_br (ax_c .gt x y) (nW L xs d I Q t ls st k n h) (nW L xs d I Q (pc + 3) ls st k n h)) ht ⟨kt, kf⟩)
theorem aw_if_gt {I : ax_MI} {x : Int32} {off : Int} {tg : Nat} (hd : decode I.1 pc = .ok (.ifCond .gt off, 3)) (ht : (pc : Int) + off = (tg : Int)) (hpc : pc + 3 = pc') (kt : 0 < x → nW L xs d I Q tg ls st k n h) (kf : ¬ 0 < x → nW L xs d I Q pc' ls st k n h) : nW L xs d I Q pc ls (.int x :: st) k n h := by subst hpc; exact aw_of hd (Or.inl rfl) (aw_t (K := fun t => ax_br (ax_c .gt x 0) (nW L xs d I Q t ls st k n h) (nW L xs d I Q (pc + 3) ls st k n h)) ht ⟨kt, kf⟩)
theorem aw_icmp_le {I : ax_MI} {x y : Int32} {off : Int} {tg : Nat} (hd : decode I.1 pc = .ok (.if_icmp .le off, 3)) (ht : (pc : Int) + off = (tg : Int)) (hpc : pc + 3 = pc') (kt : x ≤ y → nW L xs d I Q tg ls st k n h) (kf : ¬ x ≤ y → nW L xs d I Q pc' ls st k n h) : nW L xs d I Q pc ls (.int y :: .int x :: st) k n h := by subst hpc; exact aw_of hd (Or.inl rfl) (aw_t (K := fun t => ax_br (ax_c .le x y) (nW L xs d I Q t ls st k n h) (nW L xs d I Q (pc + 3) ls st k n h)) ht ⟨kt, kf⟩)
theorem aw_if_le {I : ax_MI} {x : Int32} {off : Int} {tg : Nat} (hd : decode I.1 pc = .ok (.ifCond .le off, 3)) (ht : (pc : Int) + off = (tg : Int)) (hpc : pc + 3 = pc') (kt : x ≤ 0 → nW L xs d I Q tg ls st k n h) (kf : ¬ x ≤ 0 → nW L xs d I Q pc' ls st k n h) : nW L xs d I Q pc ls (.int x :: st) k n h := by subst hpc; exact aw_of hd (Or.inl rfl) (aw_t (K := fun t => ax_br (ax_c .le x 0) (nW L xs d I Q t ls st k n h) (nW L xs d I Q (pc + 3) ls st k n h)) ht ⟨kt, kf⟩)
theorem aw_ifnull {I : ax_MI} {a : Nat} {off : Int} {tg : Nat} (hd : decode I.1 pc = .ok (.ifnull off, 3)) (ht : (pc : Int) + off = (tg : Int)) (hpc : pc + 3 = pc') (kk : nW L xs d I Q pc' ls st k n h) : nW L xs d I Q pc ls (.ref a :: st) k n h := by subst hpc; exact aw_of hd (Or.inl rfl) (aw_t (K := fun t => ax_nu (.ref a :: st) (fun st => nW L xs d I Q t ls st k n h) (fun st => nW L xs d I Q (pc + 3) ls st k n h)) ht kk)
theorem aw_ifnullN {I : ax_MI} {off : Int} {tg : Nat} (hd : decode I.1 pc = .ok (.ifnull off, 3)) (ht : (pc : Int) + off = (tg : Int)) (kk : nW L xs d I Q tg ls st k n h) : nW L xs d I Q pc ls (.null :: st) k n h := aw_of hd (Or.inl rfl) (aw_t (K := fun t => ax_nu (.null :: st) (fun st => nW L xs d I Q t ls st k n h) (fun st => nW L xs d I Q (pc + 3) ls st k n h)) ht kk)
theorem aw_tabIn {I : ax_MI} {df lo hi : Int} {offs : Array Int} {len : Nat} {x : Int32} {off : Int} {tg : Nat} (hd : decode I.1 pc = .ok (.tableswitch df lo hi offs, len)) (h1 : ¬ (x.toInt < lo ∨ hi < x.toInt)) (ho : offs[(x.toInt - lo).toNat]? = some off) (ht : (pc : Int) + off = (tg : Int)) (kk : nW L xs d I Q tg ls st k n h) : nW L xs d I Q pc ls (.int x :: st) k n h := aw_of hd (Or.inr rfl) ⟨fun z => absurd z h1, fun _ => by rw [ho]; exact aw_t (K := fun t => nW L xs d I Q t ls st k n h) ht kk⟩
theorem aw_tabOut {I : ax_MI} {df lo hi : Int} {offs : Array Int} {len : Nat} {x : Int32} {tg : Nat} (hd : decode I.1 pc = .ok (.tableswitch df lo hi offs, len)) (h1 : x.toInt < lo ∨ hi < x.toInt) (ht : (pc : Int) + df = (tg : Int)) (kk : nW L xs d I Q tg ls st k n h) : nW L xs d I Q pc ls (.int x :: st) k n h := aw_of hd (Or.inr rfl) ⟨fun _ => aw_t (K := fun t => nW L xs d I Q t ls st k n h) ht kk, fun z => absurd h1 z⟩
theorem aw_get {I : ax_MI} {idx a ci kf : Nat} {ty : FieldType} {fin : Bool} {v : Value} (hd : decode I.1 pc = .ok (.getfield idx, 3)) (hpc : pc + 3 = pc') (hf : ns_tF I.2.1 idx = some (ci, kf, ty, fin)) (hg : gfv h a ci kf v) (kk : nW L xs d I Q pc' ls (v :: st) k n h) : nW L xs d I Q pc ls (.ref a :: st) k n h := by
  subst hpc
  refine aw_of hd (Or.inl rfl) ?_
  show ax_op (ns_tF I.2.1 idx) _
  rw [hf]
  obtain ⟨fs, g1, g2⟩ := hg
  show ax_gf h a ci kf _
  unfold ax_gf
  rw [g1]
  refine ⟨rfl, ?_⟩
  rw [g2]
  exact kk
theorem aw_put {I : ax_MI} {idx a ci kf : Nat} {ty : FieldType} {v : Value} (hd : decode I.1 pc = .ok (.putfield idx, 3)) (hpc : pc + 3 = pc') (hf : ns_tF I.2.1 idx = some (ci, kf, ty, false)) (hv : ax_ft ty v) (hg : pfv h a ci kf v h') (kk : nW L xs d I Q pc' ls st k n h') : nW L xs d I Q pc ls (v :: .ref a :: st) k n h := by
  subst hpc
  refine aw_of hd (Or.inl rfl) ?_
  show ax_op (ns_tF I.2.1 idx) _
  rw [hf]
  obtain ⟨fs, g1, g2, g3⟩ := hg
  refine ⟨hv, (fun z => by cases z), ?_⟩
  show ax_pf h a ci kf v _
  unfold ax_pf
  rw [g1]
  refine ⟨rfl, g2, ?_⟩
  rw [← g3]
  exact kk
theorem aw_putF {I : ax_MI} {idx a ci kf : Nat} {ty : FieldType} {v : Value} (hd : decode I.1 pc = .ok (.putfield idx, 3)) (hpc : pc + 3 = pc') (hf : ns_tF I.2.1 idx = some (ci, kf, ty, true)) (hini : I.2.2.1 = true ∧ ci = I.2.1) (hv : ax_ft ty v) (hg : pfv h a ci kf v h') (kk : nW L xs d I Q pc' ls st k n h') : nW L xs d I Q pc ls (v :: .ref a :: st) k n h := by
  subst hpc
  refine aw_of hd (Or.inl rfl) ?_
  show ax_op (ns_tF I.2.1 idx) _
  rw [hf]
  obtain ⟨fs, g1, g2, g3⟩ := hg
  refine ⟨hv, fun _ => hini, ?_⟩
  show ax_pf h a ci kf v _
  unfold ax_pf
  rw [g1]
  refine ⟨rfl, g2, ?_⟩
  rw [← g3]
  exact kk
theorem aw_iald {I : ax_MI} {a N : Nat} {f : Nat → Int32} {i : Int32} (hd : decode I.1 pc = .ok (.iaload, 1)) (hpc : pc + 1 = pc') (hg : gav h a .int N f) (j : Nat) (hi : i = nI j) (hj : j < N) (kk : nW L xs d I Q pc' ls (.int (f j) :: st) k n h) : nW L xs d I Q pc ls (.int i :: .ref a :: st) k n h := by
  subst hpc; subst hi
  refine aw_of hd (Or.inl rfl) ?_
  show ax_ga h a .int (nI j) (fun v => nW L xs d I Q (pc + 1) ls (.int v :: st) k n h)
  unfold ax_ga
  rw [hg.1]
  refine ⟨rfl, vp_in_nI hj hg.2, ?_⟩
  rw [nI_clamp (Nat.lt_trans hj hg.2)]
  exact kk
theorem aw_cald {I : ax_MI} {a N : Nat} {f : Nat → Int32} {i : Int32} (hd : decode I.1 pc = .ok (.caload, 1)) (hpc : pc + 1 = pc') (hg : gav h a .char N f) (j : Nat) (hi : i = nI j) (hj : j < N) (kk : nW L xs d I Q pc' ls (.int (f j) :: st) k n h) : nW L xs d I Q pc ls (.int i :: .ref a :: st) k n h := by
  subst hpc; subst hi
  refine aw_of hd (Or.inl rfl) ?_
  show ax_ga h a .char (nI j) (fun v => nW L xs d I Q (pc + 1) ls (.int v :: st) k n h)
  unfold ax_ga
  rw [hg.1]
  refine ⟨rfl, vp_in_nI hj hg.2, ?_⟩
  rw [nI_clamp (Nat.lt_trans hj hg.2)]
  exact kk
theorem aw_bald {I : ax_MI} {a N : Nat} {f : Nat → Int32} {i : Int32} (hd : decode I.1 pc = .ok (.baload, 1)) (hpc : pc + 1 = pc') (hg : gav h a .boolean N f) (j : Nat) (hi : i = nI j) (hj : j < N) (kk : nW L xs d I Q pc' ls (.int (f j) :: st) k n h) : nW L xs d I Q pc ls (.int i :: .ref a :: st) k n h := by
  subst hpc; subst hi
  refine aw_of hd (Or.inl rfl) ?_
  show ax_ga h a .boolean (nI j) (fun v => nW L xs d I Q (pc + 1) ls (.int v :: st) k n h)
  unfold ax_ga
  rw [hg.1]
  refine ⟨rfl, vp_in_nI hj hg.2, ?_⟩
  rw [nI_clamp (Nat.lt_trans hj hg.2)]
  exact kk
theorem aw_lald {I : ax_MI} {a N : Nat} {f : Nat → Int64} {i : Int32} (hd : decode I.1 pc = .ok (.laload, 1)) (hpc : pc + 1 = pc') (hg : glv h a N f) (j : Nat) (hi : i = nI j) (hj : j < N) (kk : nW L xs d I Q pc' ls (.long (f j) :: st) k n h) : nW L xs d I Q pc ls (.int i :: .ref a :: st) k n h := by
  subst hpc; subst hi
  refine aw_of hd (Or.inl rfl) ?_
  show ax_gl h a (nI j) (fun v => nW L xs d I Q (pc + 1) ls (.long v :: st) k n h)
  unfold ax_gl
  rw [hg.1]
  refine ⟨rfl, vp_in_nI hj hg.2, ?_⟩
  rw [nI_clamp (Nat.lt_trans hj hg.2)]
  exact kk
theorem aw_aald {I : ax_MI} {a N : Nat} {C : String} {f : Nat → Option Nat} {i : Int32} (hd : decode I.1 pc = .ok (.aaload, 1)) (hpc : pc + 1 = pc') (hg : h.2 a = some (.inl (.object C, N, .inr (.inr (.inr (.inr f)))))) (hN : N < 2 ^ 31) (j : Nat) (hi : i = nI j) (hj : j < N) (kk : nW L xs d I Q pc' ls (va_rf (f j) :: st) k n h) : nW L xs d I Q pc ls (.int i :: .ref a :: st) k n h := by
  subst hpc; subst hi
  refine aw_of hd (Or.inl rfl) ?_
  show ax_gq h a (nI j) (fun v => nW L xs d I Q (pc + 1) ls (va_rf v :: st) k n h)
  unfold ax_gq
  rw [hg]
  refine ⟨rfl, vp_in_nI hj hN, ?_⟩
  rw [nI_clamp (Nat.lt_trans hj hN)]
  exact kk
theorem aw_sld {I : ax_MI} {i : Int32} (hd : decode I.1 pc = .ok (.iaload, 1)) (hpc : pc + 1 = pc') (hin : vp_in i L) (kk : nW L xs d I Q pc' ls (.int (xs i.toNatClampNeg) :: st) k n h) : nW L xs d I Q pc ls (.int i :: .retAddr 0 :: st) k n h := by subst hpc; exact aw_of hd (Or.inl rfl) ⟨hin, kk⟩
theorem aw_slen {I : ax_MI}  (hd : decode I.1 pc = .ok (.arraylength, 1)) (hpc : pc + 1 = pc') (kk : nW L xs d I Q pc' ls (.int (nI L) :: st) k n h) : nW L xs d I Q pc ls (.retAddr 0 :: st) k n h := by subst hpc; exact aw_of hd (Or.inl rfl) kk
theorem aw_iast {I : ax_MI} {a N : Nat} {i x y : Int32} (hd : decode I.1 pc = .ok (.iastore, 1)) (hpc : pc + 1 = pc') (hy : x = y) (j : Nat) (hi : i = nI j) (hj : j < N) (hg : pav h a .int N j y h') (kk : nW L xs d I Q pc' ls st k n h') : nW L xs d I Q pc ls (.int x :: .int i :: .ref a :: st) k n h := by
  subst hpc; subst hi; subst hy
  refine aw_of hd (Or.inl rfl) ?_
  obtain ⟨f, g1, g2, g3⟩ := hg
  show ax_pa h a .int (nI j) _ _
  unfold ax_pa
  rw [g1]
  refine ⟨rfl, vp_in_nI hj g2, ?_⟩
  rw [nI_clamp (Nat.lt_trans hj g2), ← g3]
  exact kk
theorem aw_cast {I : ax_MI} {a N : Nat} {i x y : Int32} (hd : decode I.1 pc = .ok (.castore, 1)) (hpc : pc + 1 = pc') (hy : (vp_nar .char x) = y) (j : Nat) (hi : i = nI j) (hj : j < N) (hg : pav h a .char N j y h') (kk : nW L xs d I Q pc' ls st k n h') : nW L xs d I Q pc ls (.int x :: .int i :: .ref a :: st) k n h := by
  subst hpc; subst hi; subst hy
  refine aw_of hd (Or.inl rfl) ?_
  obtain ⟨f, g1, g2, g3⟩ := hg
  show ax_pa h a .char (nI j) _ _
  unfold ax_pa
  rw [g1]
  refine ⟨rfl, vp_in_nI hj g2, ?_⟩
  rw [nI_clamp (Nat.lt_trans hj g2), ← g3]
  exact kk
theorem aw_bast {I : ax_MI} {a N : Nat} {i x y : Int32} (hd : decode I.1 pc = .ok (.bastore, 1)) (hpc : pc + 1 = pc') (hy : (vp_nar .boolean x) = y) (j : Nat) (hi : i = nI j) (hj : j < N) (hg : pav h a .boolean N j y h') (kk : nW L xs d I Q pc' ls st k n h') : nW L xs d I Q pc ls (.int x :: .int i :: .ref a :: st) k n h := by
  subst hpc; subst hi; subst hy
  refine aw_of hd (Or.inl rfl) ?_
  obtain ⟨f, g1, g2, g3⟩ := hg
  show ax_pa h a .boolean (nI j) _ _
  unfold ax_pa
  rw [g1]
  refine ⟨rfl, vp_in_nI hj g2, ?_⟩
  rw [nI_clamp (Nat.lt_trans hj g2), ← g3]
  exact kk
theorem aw_last {I : ax_MI} {a N : Nat} {i : Int32} {x : Int64} (hd : decode I.1 pc = .ok (.lastore, 1)) (hpc : pc + 1 = pc') (j : Nat) (hi : i = nI j) (hj : j < N) (hg : plv h a N j x h') (kk : nW L xs d I Q pc' ls st k n h') : nW L xs d I Q pc ls (.long x :: .int i :: .ref a :: st) k n h := by
  subst hpc; subst hi
  refine aw_of hd (Or.inl rfl) ?_
  obtain ⟨f, g1, g2, g3⟩ := hg
  show ax_pl h a (nI j) _ _
  unfold ax_pl
  rw [g1]
  refine ⟨rfl, vp_in_nI hj g2, ?_⟩
  rw [nI_clamp (Nat.lt_trans hj g2), ← g3]
  exact kk
theorem aw_alen {I : ax_MI} {a N : Nat} {t : FieldType} {f : (Nat → Int32) ⊕ (Nat → Int64) ⊕ (Nat → UInt32) ⊕ (Nat → UInt64) ⊕ (Nat → Option Nat)} (hd : decode I.1 pc = .ok (.arraylength, 1)) (hpc : pc + 1 = pc') (hg : h.2 a = some (.inl (t, N, f))) (kk : nW L xs d I Q pc' ls (.int (nI N) :: st) k n h) : nW L xs d I Q pc ls (.ref a :: st) k n h := by
  subst hpc
  refine aw_of hd (Or.inl rfl) ?_
  show ax_al h a _
  unfold ax_al
  rw [hg]
  exact kk
theorem aw_newa {I : ax_MI} {ty : ArrayType} {t : FieldType} {x : Int32} {N : Nat} {a : vp_A} (hd : decode I.1 pc = .ok (.newarray ty, 2)) (hpc : pc + 2 = pc') (hx : x = nI N) (hN : N ≤ 1000) (hk : k + 1 ≤ I.2.2.2.2.2.1) (hn : n + N ≤ I.2.2.2.2.2.2) (ht : newarray.typeOf ty = t) (ha : ax_zero t N = some a) (kk : nW L xs d I Q pc' ls (.ref h.1 :: st) (k + 1) (n + N) (ax_nw h (.inl (t, a)))) : nW L xs d I Q pc ls (.int x :: st) k n h := by
  subst hpc; subst ht; subst hx
  have e : (nI N).toNatClampNeg = N := nI_clamp (by omega)
  refine aw_of hd (Or.inl rfl) ⟨nI_pos (by omega), by rw [e]; exact hN, hk, by rw [e]; exact hn, ?_⟩
  rw [e, ha]
  exact kk
theorem aw_newq {I : ax_MI} {idx ci : Nat} {fs : List Value} {C : String} {x : Int32} {N : Nat} (hd : decode I.1 pc = .ok (.anewarray idx, 3)) (hpc : pc + 3 = pc') (hx : x = nI N) (hN : N ≤ 1000) (hk : k + 1 ≤ I.2.2.2.2.2.1) (hn : n + N ≤ I.2.2.2.2.2.2) (hf : ns_tN I.2.1 idx = some (ci, fs, C)) (hC : ax_kt (.object C) = true) (kk : nW L xs d I Q pc' ls (.ref h.1 :: st) (k + 1) (n + N) (ax_nw h (.inl (.object C, N, .inr (.inr (.inr (.inr (fun _ => none)))))))) : nW L xs d I Q pc ls (.int x :: st) k n h := by
  subst hpc; subst hx
  have e : (nI N).toNatClampNeg = N := nI_clamp (by omega)
  refine aw_of hd (Or.inl rfl) ⟨nI_pos (by omega), by rw [e]; exact hN, hk, by rw [e]; exact hn, ?_⟩
  show ax_op (ns_tN I.2.1 idx) _
  rw [hf, e]
  exact ⟨hC, kk⟩
theorem aw_new {I : ax_MI} {idx ci : Nat} {fs : List Value} {C : String} (hd : decode I.1 pc = .ok (.new idx, 3)) (hpc : pc + 3 = pc') (hf : ns_tN I.2.1 idx = some (ci, fs, C)) (hk : k + 1 ≤ I.2.2.2.2.2.1) (hn : n + fs.length ≤ I.2.2.2.2.2.2) (kk : nW L xs d I Q pc' ls (.ref h.1 :: st) (k + 1) (n + fs.length) (ax_nw h (.inr (ci, fs)))) : nW L xs d I Q pc ls st k n h := by
  subst hpc
  refine aw_of hd (Or.inl rfl) ?_
  show ax_op (ns_tN I.2.1 idx) _
  rw [hf]
  exact ⟨hk, hn, kk⟩
theorem aw_aast {I : ax_MI} {a v N ci : Nat} {t : FieldType} {f : Nat → Option Nat} {vs : List Value} {i : Int32} (hd : decode I.1 pc = .ok (.aastore, 1)) (hpc : pc + 1 = pc') (j : Nat) (hi : i = nI j) (hj : j < N) (hN : N < 2 ^ 31) (hg : h.2 a = some (.inl (t, N, .inr (.inr (.inr (.inr f)))))) (hv : h.2 v = some (.inr (ci, vs))) (ht : (ns_cl[ci]?).map (fun q => FieldType.object q.1) = some t) (kk : nW L xs d I Q pc' ls st k n (ax_up h a (.inl (t, N, .inr (.inr (.inr (.inr (va_up f j (some v))))))))) : nW L xs d I Q pc ls (.ref v :: .int i :: .ref a :: st) k n h := by
  subst hpc; subst hi
  refine aw_of hd (Or.inl rfl) ?_
  show ax_pq ns_cl h a (nI j) v _
  unfold ax_pq
  rw [hg, hv]
  refine ⟨ht, vp_in_nI hj hN, ?_⟩
  rw [nI_clamp (Nat.lt_trans hj hN)]
  exact kk
theorem aw_callS {I : ax_MI} {idx y np mc' ms' ci a : Nat} {as st0 : List Value} (hd : decode I.1 pc = .ok (.invokestatic idx, 3)) (hpc : pc + 3 = pc') (hc : ns_tC I.2.1 idx = some (.inl y, np, mc', ms', ci, 0)) (hs : np ≤ st0.length ∧ (st0.take np).reverse = as ∧ st0.drop np = st) (hw : ax_w8 st) (hk : k + mc' ≤ I.2.2.2.2.2.1) (hn : n + ms' ≤ I.2.2.2.2.2.2) (kk : nM L xs d y as h fun v h' => nW L xs d I Q pc' ls (v.toList ++ st) (k + mc') (n + ms') h') : nW L xs d I Q pc ls st0 k n h := by
  subst hpc
  refine aw_of hd (Or.inl rfl) ?_
  show ax_op (ns_tC I.2.1 idx) _
  rw [hc]
  obtain ⟨h1, h2, h3⟩ := hs
  refine ⟨rfl, h1, ?_⟩
  rw [h2, h3]
  exact ⟨hw, hk, hn, kk⟩
theorem aw_callV {I : ax_MI} {idx y np mc' ms' ci a : Nat} {as st0 : List Value} (hd : decode I.1 pc = .ok (.invokevirtual idx, 3)) (hpc : pc + 3 = pc') (hc : ns_tC I.2.1 idx = some (.inl y, np, mc', ms', ci, 1)) (hs : np ≤ st0.length ∧ (st0.take np).reverse = as ∧ st0.drop np = .ref a :: st) (hio : ax_io h a ci) (hw : ax_w8 st) (hk : k + mc' ≤ I.2.2.2.2.2.1) (hn : n + ms' ≤ I.2.2.2.2.2.2) (kk : nM L xs d y (.ref a :: as) h fun v h' => nW L xs d I Q pc' ls (v.toList ++ st) (k + mc') (n + ms') h') : nW L xs d I Q pc ls st0 k n h := by
  subst hpc
  refine aw_of hd (Or.inl rfl) ?_
  show ax_op (ns_tC I.2.1 idx) _
  rw [hc]
  obtain ⟨h1, h2, h3⟩ := hs
  refine ⟨rfl, h1, ?_⟩
  rw [h2, h3]
  exact ⟨hio, hw, hk, hn, kk⟩
theorem aw_callI {I : ax_MI} {idx y np mc' ms' ci a : Nat} {as st0 : List Value} (hd : decode I.1 pc = .ok (.invokespecial idx, 3)) (hpc : pc + 3 = pc') (hc : ns_tC I.2.1 idx = some (.inl y, np, mc', ms', ci, 2)) (hs : np ≤ st0.length ∧ (st0.take np).reverse = as ∧ st0.drop np = .ref a :: st) (hw : ax_w8 st) (hk : k + mc' ≤ I.2.2.2.2.2.1) (hn : n + ms' ≤ I.2.2.2.2.2.2) (kk : nM L xs d y (.ref a :: as) h fun v h' => nW L xs d I Q pc' ls (v.toList ++ st) (k + mc') (n + ms') h') : nW L xs d I Q pc ls st0 k n h := by
  subst hpc
  refine aw_of hd (Or.inl rfl) ?_
  show ax_op (ns_tC I.2.1 idx) _
  rw [hc]
  obtain ⟨h1, h2, h3⟩ := hs
  refine ⟨rfl, h1, ?_⟩
  rw [h2, h3]
  exact ⟨hw, hk, hn, kk⟩
theorem aw_objInit {I : ax_MI} {idx np mc' ms' ci a : Nat} {x y : Int32} (hd : decode I.1 pc = .ok (.invokespecial idx, 3)) (hpc : pc + 3 = pc') (hc : ns_tC I.2.1 idx = some (.inr 0, np, mc', ms', ci, 2)) (hw : ax_w8 st) (kk : nW L xs d I Q pc' ls st k n h) : nW L xs d I Q pc ls (.ref a :: st) k n h := by
  subst hpc
  refine aw_of hd (Or.inl rfl) ?_
  show ax_op (ns_tC I.2.1 idx) _
  rw [hc]
  exact ⟨rfl, hw, kk⟩
theorem aw_max {I : ax_MI} {idx np mc' ms' ci a : Nat} {x y : Int32} (hd : decode I.1 pc = .ok (.invokestatic idx, 3)) (hpc : pc + 3 = pc') (hc : ns_tC I.2.1 idx = some (.inr 1, np, mc', ms', ci, 0)) (hw : ax_w8 st) (kk : nW L xs d I Q pc' ls (.int (if x < y then y else x) :: st) k n h) : nW L xs d I Q pc ls (.int y :: .int x :: st) k n h := by
  subst hpc
  refine aw_of hd (Or.inl rfl) ?_
  show ax_op (ns_tC I.2.1 idx) _
  rw [hc]
  exact ⟨rfl, hw, kk⟩
theorem aw_min {I : ax_MI} {idx np mc' ms' ci a : Nat} {x y : Int32} (hd : decode I.1 pc = .ok (.invokestatic idx, 3)) (hpc : pc + 3 = pc') (hc : ns_tC I.2.1 idx = some (.inr 2, np, mc', ms', ci, 0)) (hw : ax_w8 st) (kk : nW L xs d I Q pc' ls (.int (if y < x then y else x) :: st) k n h) : nW L xs d I Q pc ls (.int y :: .int x :: st) k n h := by
  subst hpc
  refine aw_of hd (Or.inl rfl) ?_
  show ax_op (ns_tC I.2.1 idx) _
  rw [hc]
  exact ⟨rfl, hw, kk⟩
theorem aw_indexOf {I : ax_MI} {idx np mc' ms' ci : Nat} {x : Int32} (hd : decode I.1 pc = .ok (.invokevirtual idx, 3)) (hpc : pc + 3 = pc') (hc : ns_tC I.2.1 idx = some (.inr 4, np, mc', ms', ci, 1)) (h8 : 8 ≤ d + 1) (hw : ax_w8 st) (kk : nW L xs d I Q pc' ls (.int (ax_ix x) :: st) k n h) : nW L xs d I Q pc ls (.int x :: .retAddr 1 :: st) k n h := by
  subst hpc
  refine aw_of hd (Or.inl rfl) ?_
  show ax_op (ns_tC I.2.1 idx) _
  rw [hc]
  exact ⟨rfl, h8, hw, kk⟩
theorem aw_ireturn {I : ax_MI} {ty : FieldType} {x : Int32} (hd : decode I.1 pc = .ok (.ireturn, 1)) (ht : I.2.2.2.2.1 = some ty) (hn : narrow ty (.int x) = .int x) (hk : k ≤ I.2.2.2.2.2.1) (hs : n ≤ I.2.2.2.2.2.2) (hq : Q (some (.int x)) h) : nW L xs d I Q pc ls [.int x] k n h := by
  refine aw_of hd (Or.inl rfl) ⟨rfl, ?_⟩
  rw [ht]
  exact ⟨hn, hk, hs, hq⟩
theorem aw_lreturn {I : ax_MI} {x : Int64} (hd : decode I.1 pc = .ok (.lreturn, 1)) (ht : I.2.2.2.2.1 = some .long) (hk : k ≤ I.2.2.2.2.2.1) (hs : n ≤ I.2.2.2.2.2.2) (hq : Q (some (.long x)) h) : nW L xs d I Q pc ls [.long x] k n h := aw_of hd (Or.inl rfl) ⟨rfl, ht, hk, hs, hq⟩
theorem aw_return {I : ax_MI} (hd : decode I.1 pc = .ok (.return_, 1)) (ht : I.2.2.2.2.1 = none) (hk : k ≤ I.2.2.2.2.2.1) (hs : n ≤ I.2.2.2.2.2.2) (hq : Q none h) : nW L xs d I Q pc ls [] k n h := aw_of hd (Or.inl rfl) ⟨rfl, ht, hk, hs, hq⟩
end NR
end
section
/-! the picture of the heap: cells by their numbers; cell k's parts; the pad is formula 12 -/
abbrev nMem : Type := (Nat → Nat → Int32) × (Nat → Nat → Int64)
def ms (μ : nMem) (a k : Nat) (x : Int32) : nMem := (fun b => if b = a then upd (μ.1 a) k x else μ.1 b, μ.2)
def ml (μ : nMem) (a k : Nat) (x : Int64) : nMem := (μ.1, fun b => if b = a then vp_updL (μ.2 a) k x else μ.2 b)
def nC (k : Nat) : Nat := 2 + 8 * k
def nF (k : Nat) : Nat := if k = 12 then 100 else 3 + 8 * k
def nT (k : Nat) : Nat := if k = 12 then 101 else 4 + 8 * k
def nS (k : Nat) : Nat := if k = 12 then 102 else 5 + 8 * k
def nN (k : Nat) : Nat := 6 + 8 * k
def nR (k : Nat) : Nat := 7 + 8 * k
def nY (k : Nat) : Nat := 8 + 8 * k
def nK (k : Nat) : Nat := 9 + 8 * k
def ns_fC (k : Nat) (f : Nat → Int32) : List Value := [.ref (nF k), .ref (nN k), .ref (nY k), .ref (nK k), .int (f 4), .int (f 5), .int (f 6), .int (f 7), .int (f 8), .int (f 9), .int (f 10)]
def ns_fF (k : Nat) (f : Nat → Int32) : List Value := [.ref (nT k), .ref (nS k), .int (f 2), .int (f 3)]
def ns_fO (k : Nat) (f : Nat → Int32) (g : Nat → Int64) : List Value := [.ref (nR k), .int (f 1), .int (f 2), .int (f 3), .long (g 4), .int (f 5), .int (f 6), .int (f 7)]
def ns_fP (f : Nat → Int32) : List Value := [.ref 100, .int (f 1)]
def ns_fN (f : Nat → Int32) : List Value := [.ref 1, .ref 98, .ref 99, .ref 100, .ref 103, .int (f 5), .int (f 6), .int (f 7)]
def ns_fM (f : Nat → Int32) : List Value := [.int (f 0), .ref 105, .int (f 2), .int (f 3), .ref 106, .ref 107, .ref 108, .ref 109, .ref 110, .ref 111, .ref 112, .ref 113, .ref 114, .ref 115, .ref 116, .ref 117, .ref 118, .ref 119, .ref 120, .ref 121, .ref 122, .ref 123, .ref 124, .ref 125, .int (f 24), .ref 126, .ref 127, .int (f 27), .ref 128, .ref 129, .ref 130, .ref 131, .ref 132, .ref 133, .ref 134, .ref 135, .ref 136, .int (f 37), .ref 137, .ref 138, .int (f 40), .ref 139, .ref 140]
def ns_en (id : Nat) (f : Nat → Int32) (g : Nat → Int64) : Option ax_E :=
  if id = 0 then some (.inr (0, ns_fN f))
  else if id = 1 then some (.inl (.object "NoteSheet$Cell", 12, .inr (.inr (.inr (.inr (fun j => if j < 12 then some (nC j) else none))))))
  else if id < 98 then match (id - 2) % 8 with
    | 0 => some (.inr (1, ns_fC ((id - 2) / 8) f))
    | 1 => some (.inr (2, ns_fF ((id - 2) / 8) f))
    | 2 => some (.inl (.char, 30, .inl f))
    | 3 => some (.inl (.int, 30, .inl f))
    | 4 => some (.inr (3, ns_fO ((id - 2) / 8) f g))
    | 5 => some (.inl (.int, 12, .inl f))
    | 6 => some (.inl (.int, 3, .inl f))
    | _ => some (.inl (.int, 30, .inl f))
  else match id with
    | 98 => some (.inl (.int, 3, .inl f))
    | 99 => some (.inl (.int, 3, .inl f))
    | 100 => some (.inr (2, ns_fF 12 f))
    | 101 => some (.inl (.char, 30, .inl f))
    | 102 => some (.inl (.int, 30, .inl f))
    | 103 => some (.inr (4, ns_fP f))
    | 104 => some (.inr (5, ns_fM f))
    | 105 => some (.inl (.int, 30, .inl f))
    | 106 => some (.inl (.int, 3, .inl f))
    | 107 => some (.inl (.boolean, 12, .inl f))
    | 108 => some (.inl (.int, 360, .inl f))
    | 109 => some (.inl (.int, 12, .inl f))
    | 110 => some (.inl (.int, 12, .inl f))
    | 111 => some (.inl (.int, 480, .inl f))
    | 112 => some (.inl (.int, 480, .inl f))
    | 113 => some (.inl (.int, 12, .inl f))
    | 114 => some (.inl (.int, 12, .inl f))
    | 115 => some (.inl (.int, 12, .inl f))
    | 116 => some (.inl (.int, 12, .inl f))
    | 117 => some (.inl (.boolean, 12, .inl f))
    | 118 => some (.inl (.boolean, 12, .inl f))
    | 119 => some (.inl (.long, 12, .inr (.inl g)))
    | 120 => some (.inl (.int, 12, .inl f))
    | 121 => some (.inl (.int, 12, .inl f))
    | 122 => some (.inl (.int, 12, .inl f))
    | 123 => some (.inl (.int, 12, .inl f))
    | 124 => some (.inl (.int, 144, .inl f))
    | 125 => some (.inl (.int, 12, .inl f))
    | 126 => some (.inl (.int, 36, .inl f))
    | 127 => some (.inl (.int, 3, .inl f))
    | 128 => some (.inl (.int, 12, .inl f))
    | 129 => some (.inl (.int, 12, .inl f))
    | 130 => some (.inl (.int, 12, .inl f))
    | 131 => some (.inl (.int, 12, .inl f))
    | 132 => some (.inl (.long, 192, .inr (.inl g)))
    | 133 => some (.inl (.int, 12, .inl f))
    | 134 => some (.inl (.int, 144, .inl f))
    | 135 => some (.inl (.boolean, 12, .inl f))
    | 136 => some (.inl (.boolean, 12, .inl f))
    | 137 => some (.inl (.int, 64, .inl f))
    | 138 => some (.inl (.int, 64, .inl f))
    | 139 => some (.inl (.int, 40, .inl f))
    | 140 => some (.inl (.int, 40, .inl f))
    | _ => none
def ns_rp (N : Nat) (μ : nMem) : ax_H := (N, fun id => if id < N then ns_en id (μ.1 id) (μ.2 id) else none)
abbrev ns_rep (μ : nMem) : ax_H := ns_rp 141 μ
theorem ns_rp_at {N : Nat} {μ : nMem} {a : Nat} {e : ax_E} (h : a < N) (he : ns_en a (μ.1 a) (μ.2 a) = some e) : (ns_rp N μ).2 a = some e := by
  show (if a < N then _ else none) = _
  rw [if_pos h, he]
theorem ns_rp_up {N : Nat} {μ : nMem} {a k : Nat} {x : Int32} {e : ax_E} (h : a < N) (he : ns_en a (upd (μ.1 a) k x) (μ.2 a) = some e) : ns_rp N (ms μ a k x) = ax_up (ns_rp N μ) a e := by
  refine Prod.ext rfl (funext fun id => ?_)
  by_cases hid : id = a
  · subst hid
    show (if id < N then ns_en id ((ms μ id k x).1 id) (μ.2 id) else none) = if id = id then some e else _
    have e1 : (ms μ id k x).1 id = upd (μ.1 id) k x := if_pos rfl
    rw [if_pos h, if_pos rfl, e1, he]
  · show (if id < N then ns_en id ((ms μ a k x).1 id) (μ.2 id) else none) = if id = a then some e else (if id < N then ns_en id (μ.1 id) (μ.2 id) else none)
    have e1 : (ms μ a k x).1 id = μ.1 id := if_neg hid
    rw [if_neg hid, e1]
theorem ns_rp_ul {N : Nat} {μ : nMem} {a k : Nat} {x : Int64} {e : ax_E} (h : a < N) (he : ns_en a (μ.1 a) (vp_updL (μ.2 a) k x) = some e) : ns_rp N (ml μ a k x) = ax_up (ns_rp N μ) a e := by
  refine Prod.ext rfl (funext fun id => ?_)
  by_cases hid : id = a
  · subst hid
    show (if id < N then ns_en id (μ.1 id) ((ml μ id k x).2 id) else none) = if id = id then some e else _
    have e1 : (ml μ id k x).2 id = vp_updL (μ.2 id) k x := if_pos rfl
    rw [if_pos h, if_pos rfl, e1, he]
  · show (if id < N then ns_en id (μ.1 id) ((ml μ a k x).2 id) else none) = if id = a then some e else (if id < N then ns_en id (μ.1 id) (μ.2 id) else none)
    have e1 : (ml μ a k x).2 id = μ.2 id := if_neg hid
    rw [if_neg hid, e1]
theorem ns_gfv {μ : nMem} {a ci kf : Nat} {fs : List Value} {v : Value} (h : a < 141) (he : ns_en a (μ.1 a) (μ.2 a) = some (.inr (ci, fs))) (hv : fs[kf]? = some v) : gfv (ns_rep μ) a ci kf v := ⟨fs, ns_rp_at h he, hv⟩
theorem ns_pfv {μ : nMem} {a ci kf : Nat} {fs : List Value} {x : Int32} (h : a < 141) (he : ns_en a (μ.1 a) (μ.2 a) = some (.inr (ci, fs))) (hl : kf < fs.length) (hu : ns_en a (upd (μ.1 a) kf x) (μ.2 a) = some (.inr (ci, fs.set kf (.int x)))) : pfv (ns_rep μ) a ci kf (.int x) (ns_rep (ms μ a kf x)) := ⟨fs, ns_rp_at h he, hl, ns_rp_up h hu⟩
theorem ns_pfl {μ : nMem} {a ci kf : Nat} {fs : List Value} {x : Int64} (h : a < 141) (he : ns_en a (μ.1 a) (μ.2 a) = some (.inr (ci, fs))) (hl : kf < fs.length) (hu : ns_en a (μ.1 a) (vp_updL (μ.2 a) kf x) = some (.inr (ci, fs.set kf (.long x)))) : pfv (ns_rep μ) a ci kf (.long x) (ns_rep (ml μ a kf x)) := ⟨fs, ns_rp_at h he, hl, ns_rp_ul h hu⟩
theorem ns_gav {μ : nMem} {a n : Nat} {ty : FieldType} (h : a < 141) (hn : n < 2 ^ 31) (he : ∀ f g, ns_en a f g = some (.inl (ty, n, .inl f))) : gav (ns_rep μ) a ty n (μ.1 a) := ⟨ns_rp_at h (he _ _), hn⟩
theorem ns_pav {μ : nMem} {a n j : Nat} {x : Int32} {ty : FieldType} (h : a < 141) (hn : n < 2 ^ 31) (he : ∀ f g, ns_en a f g = some (.inl (ty, n, .inl f))) : pav (ns_rep μ) a ty n j x (ns_rep (ms μ a j x)) := ⟨_, ns_rp_at h (he _ _), hn, ns_rp_up h (he _ _)⟩
theorem ns_glv {μ : nMem} {a n : Nat} (h : a < 141) (hn : n < 2 ^ 31) (he : ∀ f g, ns_en a f g = some (.inl (.long, n, .inr (.inl g)))) : glv (ns_rep μ) a n (μ.2 a) := ⟨ns_rp_at h (he _ _), hn⟩
theorem ns_plv {μ : nMem} {a n j : Nat} {x : Int64} (h : a < 141) (hn : n < 2 ^ 31) (he : ∀ f g, ns_en a f g = some (.inl (.long, n, .inr (.inl g)))) : plv (ns_rep μ) a n j x (ns_rep (ml μ a j x)) := ⟨_, ns_rp_at h (he _ _), hn, ns_rp_ul h (he _ _)⟩
theorem ns_eC : ∀ {k : Nat}, k < 12 → ∀ (f : Nat → Int32) (g : Nat → Int64), ns_en (nC k) f g = some (.inr (1, ns_fC k f))
  | 0, _ => fun _ _ => rfl
  | 1, _ => fun _ _ => rfl
  | 2, _ => fun _ _ => rfl
  | 3, _ => fun _ _ => rfl
  | 4, _ => fun _ _ => rfl
  | 5, _ => fun _ _ => rfl
  | 6, _ => fun _ _ => rfl
  | 7, _ => fun _ _ => rfl
  | 8, _ => fun _ _ => rfl
  | 9, _ => fun _ _ => rfl
  | 10, _ => fun _ _ => rfl
  | 11, _ => fun _ _ => rfl
  | k + 12, h => absurd h (by omega)
theorem ns_eF : ∀ {k : Nat}, k < 13 → ∀ (f : Nat → Int32) (g : Nat → Int64), ns_en (nF k) f g = some (.inr (2, ns_fF k f))
  | 0, _ => fun _ _ => rfl
  | 1, _ => fun _ _ => rfl
  | 2, _ => fun _ _ => rfl
  | 3, _ => fun _ _ => rfl
  | 4, _ => fun _ _ => rfl
  | 5, _ => fun _ _ => rfl
  | 6, _ => fun _ _ => rfl
  | 7, _ => fun _ _ => rfl
  | 8, _ => fun _ _ => rfl
  | 9, _ => fun _ _ => rfl
  | 10, _ => fun _ _ => rfl
  | 11, _ => fun _ _ => rfl
  | 12, _ => fun _ _ => rfl
  | k + 13, h => absurd h (by omega)
theorem ns_eT : ∀ {k : Nat}, k < 13 → ∀ (f : Nat → Int32) (g : Nat → Int64), ns_en (nT k) f g = some (.inl (.char, 30, .inl f))
  | 0, _ => fun _ _ => rfl
  | 1, _ => fun _ _ => rfl
  | 2, _ => fun _ _ => rfl
  | 3, _ => fun _ _ => rfl
  | 4, _ => fun _ _ => rfl
  | 5, _ => fun _ _ => rfl
  | 6, _ => fun _ _ => rfl
  | 7, _ => fun _ _ => rfl
  | 8, _ => fun _ _ => rfl
  | 9, _ => fun _ _ => rfl
  | 10, _ => fun _ _ => rfl
  | 11, _ => fun _ _ => rfl
  | 12, _ => fun _ _ => rfl
  | k + 13, h => absurd h (by omega)
theorem ns_eS : ∀ {k : Nat}, k < 13 → ∀ (f : Nat → Int32) (g : Nat → Int64), ns_en (nS k) f g = some (.inl (.int, 30, .inl f))
  | 0, _ => fun _ _ => rfl
  | 1, _ => fun _ _ => rfl
  | 2, _ => fun _ _ => rfl
  | 3, _ => fun _ _ => rfl
  | 4, _ => fun _ _ => rfl
  | 5, _ => fun _ _ => rfl
  | 6, _ => fun _ _ => rfl
  | 7, _ => fun _ _ => rfl
  | 8, _ => fun _ _ => rfl
  | 9, _ => fun _ _ => rfl
  | 10, _ => fun _ _ => rfl
  | 11, _ => fun _ _ => rfl
  | 12, _ => fun _ _ => rfl
  | k + 13, h => absurd h (by omega)
theorem ns_eO : ∀ {k : Nat}, k < 12 → ∀ (f : Nat → Int32) (g : Nat → Int64), ns_en (nN k) f g = some (.inr (3, ns_fO k f g))
  | 0, _ => fun _ _ => rfl
  | 1, _ => fun _ _ => rfl
  | 2, _ => fun _ _ => rfl
  | 3, _ => fun _ _ => rfl
  | 4, _ => fun _ _ => rfl
  | 5, _ => fun _ _ => rfl
  | 6, _ => fun _ _ => rfl
  | 7, _ => fun _ _ => rfl
  | 8, _ => fun _ _ => rfl
  | 9, _ => fun _ _ => rfl
  | 10, _ => fun _ _ => rfl
  | 11, _ => fun _ _ => rfl
  | k + 12, h => absurd h (by omega)
theorem ns_eR : ∀ {k : Nat}, k < 12 → ∀ (f : Nat → Int32) (g : Nat → Int64), ns_en (nR k) f g = some (.inl (.int, 12, .inl f))
  | 0, _ => fun _ _ => rfl
  | 1, _ => fun _ _ => rfl
  | 2, _ => fun _ _ => rfl
  | 3, _ => fun _ _ => rfl
  | 4, _ => fun _ _ => rfl
  | 5, _ => fun _ _ => rfl
  | 6, _ => fun _ _ => rfl
  | 7, _ => fun _ _ => rfl
  | 8, _ => fun _ _ => rfl
  | 9, _ => fun _ _ => rfl
  | 10, _ => fun _ _ => rfl
  | 11, _ => fun _ _ => rfl
  | k + 12, h => absurd h (by omega)
theorem ns_eY : ∀ {k : Nat}, k < 12 → ∀ (f : Nat → Int32) (g : Nat → Int64), ns_en (nY k) f g = some (.inl (.int, 3, .inl f))
  | 0, _ => fun _ _ => rfl
  | 1, _ => fun _ _ => rfl
  | 2, _ => fun _ _ => rfl
  | 3, _ => fun _ _ => rfl
  | 4, _ => fun _ _ => rfl
  | 5, _ => fun _ _ => rfl
  | 6, _ => fun _ _ => rfl
  | 7, _ => fun _ _ => rfl
  | 8, _ => fun _ _ => rfl
  | 9, _ => fun _ _ => rfl
  | 10, _ => fun _ _ => rfl
  | 11, _ => fun _ _ => rfl
  | k + 12, h => absurd h (by omega)
theorem ns_eK : ∀ {k : Nat}, k < 12 → ∀ (f : Nat → Int32) (g : Nat → Int64), ns_en (nK k) f g = some (.inl (.int, 30, .inl f))
  | 0, _ => fun _ _ => rfl
  | 1, _ => fun _ _ => rfl
  | 2, _ => fun _ _ => rfl
  | 3, _ => fun _ _ => rfl
  | 4, _ => fun _ _ => rfl
  | 5, _ => fun _ _ => rfl
  | 6, _ => fun _ _ => rfl
  | 7, _ => fun _ _ => rfl
  | 8, _ => fun _ _ => rfl
  | 9, _ => fun _ _ => rfl
  | 10, _ => fun _ _ => rfl
  | 11, _ => fun _ _ => rfl
  | k + 12, h => absurd h (by omega)
theorem nC_lt {k : Nat} (h : k < 12) : nC k < 141 := by unfold nC; (try split) <;> omega
theorem nF_lt {k : Nat} (h : k < 13) : nF k < 141 := by unfold nF; (try split) <;> omega
theorem nT_lt {k : Nat} (h : k < 13) : nT k < 141 := by unfold nT; (try split) <;> omega
theorem nS_lt {k : Nat} (h : k < 13) : nS k < 141 := by unfold nS; (try split) <;> omega
theorem nN_lt {k : Nat} (h : k < 12) : nN k < 141 := by unfold nN; (try split) <;> omega
theorem nR_lt {k : Nat} (h : k < 12) : nR k < 141 := by unfold nR; (try split) <;> omega
theorem nY_lt {k : Nat} (h : k < 12) : nY k < 141 := by unfold nY; (try split) <;> omega
theorem nK_lt {k : Nat} (h : k < 12) : nK k < 141 := by unfold nK; (try split) <;> omega
theorem g_C_formula {μ : nMem} {k : Nat} (hk : k < 12) : gfv (ns_rep μ) (nC k) 1 0 (.ref (nF k)) := ns_gfv (nC_lt hk) (ns_eC hk _ _) rfl
theorem g_C_note {μ : nMem} {k : Nat} (hk : k < 12) : gfv (ns_rep μ) (nC k) 1 1 (.ref (nN k)) := ns_gfv (nC_lt hk) (ns_eC hk _ _) rfl
theorem g_C_tally {μ : nMem} {k : Nat} (hk : k < 12) : gfv (ns_rep μ) (nC k) 1 2 (.ref (nY k)) := ns_gfv (nC_lt hk) (ns_eC hk _ _) rfl
theorem g_C_stack {μ : nMem} {k : Nat} (hk : k < 12) : gfv (ns_rep μ) (nC k) 1 3 (.ref (nK k)) := ns_gfv (nC_lt hk) (ns_eC hk _ _) rfl
theorem g_C_hasFormula {μ : nMem} {k : Nat} (hk : k < 12) : gfv (ns_rep μ) (nC k) 1 4 (.int (μ.1 (nC k) 4)) := ns_gfv (nC_lt hk) (ns_eC hk _ _) rfl
theorem p_C_hasFormula {μ : nMem} {x : Int32} {k : Nat} (hk : k < 12) : pfv (ns_rep μ) (nC k) 1 4 (.int x) (ns_rep (ms μ (nC k) 4 x)) := ns_pfv (nC_lt hk) (ns_eC hk _ _) (Nat.le_of_ble_eq_true rfl) (ns_eC hk _ _)
theorem g_C_formulaChanged {μ : nMem} {k : Nat} (hk : k < 12) : gfv (ns_rep μ) (nC k) 1 5 (.int (μ.1 (nC k) 5)) := ns_gfv (nC_lt hk) (ns_eC hk _ _) rfl
theorem p_C_formulaChanged {μ : nMem} {x : Int32} {k : Nat} (hk : k < 12) : pfv (ns_rep μ) (nC k) 1 5 (.int x) (ns_rep (ms μ (nC k) 5 x)) := ns_pfv (nC_lt hk) (ns_eC hk _ _) (Nat.le_of_ble_eq_true rfl) (ns_eC hk _ _)
theorem g_C_number {μ : nMem} {k : Nat} (hk : k < 12) : gfv (ns_rep μ) (nC k) 1 6 (.int (μ.1 (nC k) 6)) := ns_gfv (nC_lt hk) (ns_eC hk _ _) rfl
theorem p_C_number {μ : nMem} {x : Int32} {k : Nat} (hk : k < 12) : pfv (ns_rep μ) (nC k) 1 6 (.int x) (ns_rep (ms μ (nC k) 6 x)) := ns_pfv (nC_lt hk) (ns_eC hk _ _) (Nat.le_of_ble_eq_true rfl) (ns_eC hk _ _)
theorem g_C_durability {μ : nMem} {k : Nat} (hk : k < 12) : gfv (ns_rep μ) (nC k) 1 7 (.int (μ.1 (nC k) 7)) := ns_gfv (nC_lt hk) (ns_eC hk _ _) rfl
theorem p_C_durability {μ : nMem} {x : Int32} {k : Nat} (hk : k < 12) : pfv (ns_rep μ) (nC k) 1 7 (.int x) (ns_rep (ms μ (nC k) 7 x)) := ns_pfv (nC_lt hk) (ns_eC hk _ _) (Nat.le_of_ble_eq_true rfl) (ns_eC hk _ _)
theorem g_C_inputSince {μ : nMem} {k : Nat} (hk : k < 12) : gfv (ns_rep μ) (nC k) 1 8 (.int (μ.1 (nC k) 8)) := ns_gfv (nC_lt hk) (ns_eC hk _ _) rfl
theorem p_C_inputSince {μ : nMem} {x : Int32} {k : Nat} (hk : k < 12) : pfv (ns_rep μ) (nC k) 1 8 (.int x) (ns_rep (ms μ (nC k) 8 x)) := ns_pfv (nC_lt hk) (ns_eC hk _ _) (Nat.le_of_ble_eq_true rfl) (ns_eC hk _ _)
theorem g_C_atWork {μ : nMem} {k : Nat} (hk : k < 12) : gfv (ns_rep μ) (nC k) 1 9 (.int (μ.1 (nC k) 9)) := ns_gfv (nC_lt hk) (ns_eC hk _ _) rfl
theorem p_C_atWork {μ : nMem} {x : Int32} {k : Nat} (hk : k < 12) : pfv (ns_rep μ) (nC k) 1 9 (.int x) (ns_rep (ms μ (nC k) 9 x)) := ns_pfv (nC_lt hk) (ns_eC hk _ _) (Nat.le_of_ble_eq_true rfl) (ns_eC hk _ _)
theorem g_C_lastUse {μ : nMem} {k : Nat} (hk : k < 12) : gfv (ns_rep μ) (nC k) 1 10 (.int (μ.1 (nC k) 10)) := ns_gfv (nC_lt hk) (ns_eC hk _ _) rfl
theorem p_C_lastUse {μ : nMem} {x : Int32} {k : Nat} (hk : k < 12) : pfv (ns_rep μ) (nC k) 1 10 (.int x) (ns_rep (ms μ (nC k) 10 x)) := ns_pfv (nC_lt hk) (ns_eC hk _ _) (Nat.le_of_ble_eq_true rfl) (ns_eC hk _ _)
theorem g_F_text {μ : nMem} {k : Nat} (hk : k < 13) : gfv (ns_rep μ) (nF k) 2 0 (.ref (nT k)) := ns_gfv (nF_lt hk) (ns_eF hk _ _) rfl
theorem g_F_steps {μ : nMem} {k : Nat} (hk : k < 13) : gfv (ns_rep μ) (nF k) 2 1 (.ref (nS k)) := ns_gfv (nF_lt hk) (ns_eF hk _ _) rfl
theorem g_F_length {μ : nMem} {k : Nat} (hk : k < 13) : gfv (ns_rep μ) (nF k) 2 2 (.int (μ.1 (nF k) 2)) := ns_gfv (nF_lt hk) (ns_eF hk _ _) rfl
theorem p_F_length {μ : nMem} {x : Int32} {k : Nat} (hk : k < 13) : pfv (ns_rep μ) (nF k) 2 2 (.int x) (ns_rep (ms μ (nF k) 2 x)) := ns_pfv (nF_lt hk) (ns_eF hk _ _) (Nat.le_of_ble_eq_true rfl) (ns_eF hk _ _)
theorem g_F_stepCount {μ : nMem} {k : Nat} (hk : k < 13) : gfv (ns_rep μ) (nF k) 2 3 (.int (μ.1 (nF k) 3)) := ns_gfv (nF_lt hk) (ns_eF hk _ _) rfl
theorem p_F_stepCount {μ : nMem} {x : Int32} {k : Nat} (hk : k < 13) : pfv (ns_rep μ) (nF k) 2 3 (.int x) (ns_rep (ms μ (nF k) 3 x)) := ns_pfv (nF_lt hk) (ns_eF hk _ _) (Nat.le_of_ble_eq_true rfl) (ns_eF hk _ _)
theorem g_O_reads {μ : nMem} {k : Nat} (hk : k < 12) : gfv (ns_rep μ) (nN k) 3 0 (.ref (nR k)) := ns_gfv (nN_lt hk) (ns_eO hk _ _) rfl
theorem g_O_readCount {μ : nMem} {k : Nat} (hk : k < 12) : gfv (ns_rep μ) (nN k) 3 1 (.int (μ.1 (nN k) 1)) := ns_gfv (nN_lt hk) (ns_eO hk _ _) rfl
theorem p_O_readCount {μ : nMem} {x : Int32} {k : Nat} (hk : k < 12) : pfv (ns_rep μ) (nN k) 3 1 (.int x) (ns_rep (ms μ (nN k) 1 x)) := ns_pfv (nN_lt hk) (ns_eO hk _ _) (Nat.le_of_ble_eq_true rfl) (ns_eO hk _ _)
theorem g_O_exists {μ : nMem} {k : Nat} (hk : k < 12) : gfv (ns_rep μ) (nN k) 3 2 (.int (μ.1 (nN k) 2)) := ns_gfv (nN_lt hk) (ns_eO hk _ _) rfl
theorem p_O_exists {μ : nMem} {x : Int32} {k : Nat} (hk : k < 12) : pfv (ns_rep μ) (nN k) 3 2 (.int x) (ns_rep (ms μ (nN k) 2 x)) := ns_pfv (nN_lt hk) (ns_eO hk _ _) (Nat.le_of_ble_eq_true rfl) (ns_eO hk _ _)
theorem g_O_hasValue {μ : nMem} {k : Nat} (hk : k < 12) : gfv (ns_rep μ) (nN k) 3 3 (.int (μ.1 (nN k) 3)) := ns_gfv (nN_lt hk) (ns_eO hk _ _) rfl
theorem p_O_hasValue {μ : nMem} {x : Int32} {k : Nat} (hk : k < 12) : pfv (ns_rep μ) (nN k) 3 3 (.int x) (ns_rep (ms μ (nN k) 3 x)) := ns_pfv (nN_lt hk) (ns_eO hk _ _) (Nat.le_of_ble_eq_true rfl) (ns_eO hk _ _)
theorem g_O_value {μ : nMem} {k : Nat} (hk : k < 12) : gfv (ns_rep μ) (nN k) 3 4 (.long (μ.2 (nN k) 4)) := ns_gfv (nN_lt hk) (ns_eO hk _ _) rfl
theorem p_O_value {μ : nMem} {x : Int64} {k : Nat} (hk : k < 12) : pfv (ns_rep μ) (nN k) 3 4 (.long x) (ns_rep (ml μ (nN k) 4 x)) := ns_pfl (nN_lt hk) (ns_eO hk _ _) (Nat.le_of_ble_eq_true rfl) (ns_eO hk _ _)
theorem g_O_verified {μ : nMem} {k : Nat} (hk : k < 12) : gfv (ns_rep μ) (nN k) 3 5 (.int (μ.1 (nN k) 5)) := ns_gfv (nN_lt hk) (ns_eO hk _ _) rfl
theorem p_O_verified {μ : nMem} {x : Int32} {k : Nat} (hk : k < 12) : pfv (ns_rep μ) (nN k) 3 5 (.int x) (ns_rep (ms μ (nN k) 5 x)) := ns_pfv (nN_lt hk) (ns_eO hk _ _) (Nat.le_of_ble_eq_true rfl) (ns_eO hk _ _)
theorem g_O_since {μ : nMem} {k : Nat} (hk : k < 12) : gfv (ns_rep μ) (nN k) 3 6 (.int (μ.1 (nN k) 6)) := ns_gfv (nN_lt hk) (ns_eO hk _ _) rfl
theorem p_O_since {μ : nMem} {x : Int32} {k : Nat} (hk : k < 12) : pfv (ns_rep μ) (nN k) 3 6 (.int x) (ns_rep (ms μ (nN k) 6 x)) := ns_pfv (nN_lt hk) (ns_eO hk _ _) (Nat.le_of_ble_eq_true rfl) (ns_eO hk _ _)
theorem g_O_durability {μ : nMem} {k : Nat} (hk : k < 12) : gfv (ns_rep μ) (nN k) 3 7 (.int (μ.1 (nN k) 7)) := ns_gfv (nN_lt hk) (ns_eO hk _ _) rfl
theorem p_O_durability {μ : nMem} {x : Int32} {k : Nat} (hk : k < 12) : pfv (ns_rep μ) (nN k) 3 7 (.int x) (ns_rep (ms μ (nN k) 7 x)) := ns_pfv (nN_lt hk) (ns_eO hk _ _) (Nat.le_of_ble_eq_true rfl) (ns_eO hk _ _)
theorem g_P_formula {μ : nMem} : gfv (ns_rep μ) 103 4 0 (.ref (nF 12)) := ns_gfv (by decide) rfl rfl
theorem g_P_at {μ : nMem} : gfv (ns_rep μ) 103 4 1 (.int (μ.1 103 1)) := ns_gfv (by decide) rfl rfl
theorem p_P_at {μ : nMem} {x : Int32} : pfv (ns_rep μ) 103 4 1 (.int x) (ns_rep (ms μ 103 1 x)) := ns_pfv (by decide) rfl (Nat.le_of_ble_eq_true rfl) rfl
theorem g_N_cells {μ : nMem} : gfv (ns_rep μ) 0 0 0 (.ref 1) := ns_gfv (by decide) rfl rfl
theorem g_N_lastChanges {μ : nMem} : gfv (ns_rep μ) 0 0 1 (.ref 98) := ns_gfv (by decide) rfl rfl
theorem g_N_latestTally {μ : nMem} : gfv (ns_rep μ) 0 0 2 (.ref 99) := ns_gfv (by decide) rfl rfl
theorem g_N_pad {μ : nMem} : gfv (ns_rep μ) 0 0 3 (.ref (nF 12)) := ns_gfv (by decide) rfl rfl
theorem g_N_parser {μ : nMem} : gfv (ns_rep μ) 0 0 4 (.ref 103) := ns_gfv (by decide) rfl rfl
theorem g_N_kept {μ : nMem} : gfv (ns_rep μ) 0 0 5 (.int (μ.1 0 5)) := ns_gfv (by decide) rfl rfl
theorem g_N_now {μ : nMem} : gfv (ns_rep μ) 0 0 6 (.int (μ.1 0 6)) := ns_gfv (by decide) rfl rfl
theorem p_N_now {μ : nMem} {x : Int32} : pfv (ns_rep μ) 0 0 6 (.int x) (ns_rep (ms μ 0 6 x)) := ns_pfv (by decide) rfl (Nat.le_of_ble_eq_true rfl) rfl
theorem g_N_uses {μ : nMem} : gfv (ns_rep μ) 0 0 7 (.int (μ.1 0 7)) := ns_gfv (by decide) rfl rfl
theorem p_N_uses {μ : nMem} {x : Int32} : pfv (ns_rep μ) 0 0 7 (.int x) (ns_rep (ms μ 0 7 x)) := ns_pfv (by decide) rfl (Nat.le_of_ble_eq_true rfl) rfl
theorem g_M_most {μ : nMem} : gfv (ns_rep μ) 104 5 0 (.int (μ.1 104 0)) := ns_gfv (by decide) rfl rfl
theorem g_M_pad {μ : nMem} : gfv (ns_rep μ) 104 5 1 (.ref 105) := ns_gfv (by decide) rfl rfl
theorem g_M_length {μ : nMem} : gfv (ns_rep μ) 104 5 2 (.int (μ.1 104 2)) := ns_gfv (by decide) rfl rfl
theorem p_M_length {μ : nMem} {x : Int32} : pfv (ns_rep μ) 104 5 2 (.int x) (ns_rep (ms μ 104 2 x)) := ns_pfv (by decide) rfl (Nat.le_of_ble_eq_true rfl) rfl
theorem g_M_revision {μ : nMem} : gfv (ns_rep μ) 104 5 3 (.int (μ.1 104 3)) := ns_gfv (by decide) rfl rfl
theorem p_M_revision {μ : nMem} {x : Int32} : pfv (ns_rep μ) 104 5 3 (.int x) (ns_rep (ms μ 104 3 x)) := ns_pfv (by decide) rfl (Nat.le_of_ble_eq_true rfl) rfl
theorem g_M_changes {μ : nMem} : gfv (ns_rep μ) 104 5 4 (.ref 106) := ns_gfv (by decide) rfl rfl
theorem g_M_formula {μ : nMem} : gfv (ns_rep μ) 104 5 5 (.ref 107) := ns_gfv (by decide) rfl rfl
theorem g_M_text {μ : nMem} : gfv (ns_rep μ) 104 5 6 (.ref 108) := ns_gfv (by decide) rfl rfl
theorem g_M_size {μ : nMem} : gfv (ns_rep μ) 104 5 7 (.ref 109) := ns_gfv (by decide) rfl rfl
theorem g_M_steps {μ : nMem} : gfv (ns_rep μ) 104 5 8 (.ref 110) := ns_gfv (by decide) rfl rfl
theorem g_M_step {μ : nMem} : gfv (ns_rep μ) 104 5 9 (.ref 111) := ns_gfv (by decide) rfl rfl
theorem g_M_with {μ : nMem} : gfv (ns_rep μ) 104 5 10 (.ref 112) := ns_gfv (by decide) rfl rfl
theorem g_M_altered {μ : nMem} : gfv (ns_rep μ) 104 5 11 (.ref 113) := ns_gfv (by decide) rfl rfl
theorem g_M_number {μ : nMem} : gfv (ns_rep μ) 104 5 12 (.ref 114) := ns_gfv (by decide) rfl rfl
theorem g_M_durable {μ : nMem} : gfv (ns_rep μ) 104 5 13 (.ref 115) := ns_gfv (by decide) rfl rfl
theorem g_M_born {μ : nMem} : gfv (ns_rep μ) 104 5 14 (.ref 116) := ns_gfv (by decide) rfl rfl
theorem g_M_noted {μ : nMem} : gfv (ns_rep μ) 104 5 15 (.ref 117) := ns_gfv (by decide) rfl rfl
theorem g_M_valued {μ : nMem} : gfv (ns_rep μ) 104 5 16 (.ref 118) := ns_gfv (by decide) rfl rfl
theorem g_M_value {μ : nMem} : gfv (ns_rep μ) 104 5 17 (.ref 119) := ns_gfv (by decide) rfl rfl
theorem g_M_verified {μ : nMem} : gfv (ns_rep μ) 104 5 18 (.ref 120) := ns_gfv (by decide) rfl rfl
theorem g_M_since {μ : nMem} : gfv (ns_rep μ) 104 5 19 (.ref 121) := ns_gfv (by decide) rfl rfl
theorem g_M_noteDurable {μ : nMem} : gfv (ns_rep μ) 104 5 20 (.ref 122) := ns_gfv (by decide) rfl rfl
theorem g_M_reads {μ : nMem} : gfv (ns_rep μ) 104 5 21 (.ref 123) := ns_gfv (by decide) rfl rfl
theorem g_M_readCell {μ : nMem} : gfv (ns_rep μ) 104 5 22 (.ref 124) := ns_gfv (by decide) rfl rfl
theorem g_M_used {μ : nMem} : gfv (ns_rep μ) 104 5 23 (.ref 125) := ns_gfv (by decide) rfl rfl
theorem g_M_clock {μ : nMem} : gfv (ns_rep μ) 104 5 24 (.int (μ.1 104 24)) := ns_gfv (by decide) rfl rfl
theorem p_M_clock {μ : nMem} {x : Int32} : pfv (ns_rep μ) 104 5 24 (.int x) (ns_rep (ms μ 104 24 x)) := ns_pfv (by decide) rfl (Nat.le_of_ble_eq_true rfl) rfl
theorem g_M_often {μ : nMem} : gfv (ns_rep μ) 104 5 25 (.ref 126) := ns_gfv (by decide) rfl rfl
theorem g_M_lately {μ : nMem} : gfv (ns_rep μ) 104 5 26 (.ref 127) := ns_gfv (by decide) rfl rfl
theorem g_M_opened {μ : nMem} : gfv (ns_rep μ) 104 5 27 (.int (μ.1 104 27)) := ns_gfv (by decide) rfl rfl
theorem p_M_opened {μ : nMem} {x : Int32} : pfv (ns_rep μ) 104 5 27 (.int x) (ns_rep (ms μ 104 27 x)) := ns_pfv (by decide) rfl (Nat.le_of_ble_eq_true rfl) rfl
theorem g_M_open {μ : nMem} : gfv (ns_rep μ) 104 5 28 (.ref 128) := ns_gfv (by decide) rfl rfl
theorem g_M_mode {μ : nMem} : gfv (ns_rep μ) 104 5 29 (.ref 129) := ns_gfv (by decide) rfl rfl
theorem g_M_at {μ : nMem} : gfv (ns_rep μ) 104 5 30 (.ref 130) := ns_gfv (by decide) rfl rfl
theorem g_M_depth {μ : nMem} : gfv (ns_rep μ) 104 5 31 (.ref 131) := ns_gfv (by decide) rfl rfl
theorem g_M_stack {μ : nMem} : gfv (ns_rep μ) 104 5 32 (.ref 132) := ns_gfv (by decide) rfl rfl
theorem g_M_found {μ : nMem} : gfv (ns_rep μ) 104 5 33 (.ref 133) := ns_gfv (by decide) rfl rfl
theorem g_M_foundCell {μ : nMem} : gfv (ns_rep μ) 104 5 34 (.ref 134) := ns_gfv (by decide) rfl rfl
theorem g_M_atWork {μ : nMem} : gfv (ns_rep μ) 104 5 35 (.ref 135) := ns_gfv (by decide) rfl rfl
theorem g_M_ring {μ : nMem} : gfv (ns_rep μ) 104 5 36 (.ref 136) := ns_gfv (by decide) rfl rfl
theorem g_M_signs {μ : nMem} : gfv (ns_rep μ) 104 5 37 (.int (μ.1 104 37)) := ns_gfv (by decide) rfl rfl
theorem p_M_signs {μ : nMem} {x : Int32} : pfv (ns_rep μ) 104 5 37 (.int x) (ns_rep (ms μ 104 37 x)) := ns_pfv (by decide) rfl (Nat.le_of_ble_eq_true rfl) rfl
theorem g_M_sign {μ : nMem} : gfv (ns_rep μ) 104 5 38 (.ref 137) := ns_gfv (by decide) rfl rfl
theorem g_M_mend {μ : nMem} : gfv (ns_rep μ) 104 5 39 (.ref 138) := ns_gfv (by decide) rfl rfl
theorem g_M_made {μ : nMem} : gfv (ns_rep μ) 104 5 40 (.int (μ.1 104 40)) := ns_gfv (by decide) rfl rfl
theorem p_M_made {μ : nMem} {x : Int32} : pfv (ns_rep μ) 104 5 40 (.int x) (ns_rep (ms μ 104 40 x)) := ns_pfv (by decide) rfl (Nat.le_of_ble_eq_true rfl) rfl
theorem g_M_newStep {μ : nMem} : gfv (ns_rep μ) 104 5 41 (.ref 139) := ns_gfv (by decide) rfl rfl
theorem g_M_newWith {μ : nMem} : gfv (ns_rep μ) 104 5 42 (.ref 140) := ns_gfv (by decide) rfl rfl
theorem ga_T {μ : nMem} {k : Nat} (hk : k < 13) : gav (ns_rep μ) (nT k) .char 30 (μ.1 (nT k)) := ns_gav (nT_lt hk) (by decide) (ns_eT hk)
theorem pa_T {μ : nMem} {k j : Nat} {x : Int32} (hk : k < 13) : pav (ns_rep μ) (nT k) .char 30 j x (ns_rep (ms μ (nT k) j x)) := ns_pav (nT_lt hk) (by decide) (ns_eT hk)
theorem ga_S {μ : nMem} {k : Nat} (hk : k < 13) : gav (ns_rep μ) (nS k) .int 30 (μ.1 (nS k)) := ns_gav (nS_lt hk) (by decide) (ns_eS hk)
theorem pa_S {μ : nMem} {k j : Nat} {x : Int32} (hk : k < 13) : pav (ns_rep μ) (nS k) .int 30 j x (ns_rep (ms μ (nS k) j x)) := ns_pav (nS_lt hk) (by decide) (ns_eS hk)
theorem ga_R {μ : nMem} {k : Nat} (hk : k < 12) : gav (ns_rep μ) (nR k) .int 12 (μ.1 (nR k)) := ns_gav (nR_lt hk) (by decide) (ns_eR hk)
theorem pa_R {μ : nMem} {k j : Nat} {x : Int32} (hk : k < 12) : pav (ns_rep μ) (nR k) .int 12 j x (ns_rep (ms μ (nR k) j x)) := ns_pav (nR_lt hk) (by decide) (ns_eR hk)
theorem ga_Y {μ : nMem} {k : Nat} (hk : k < 12) : gav (ns_rep μ) (nY k) .int 3 (μ.1 (nY k)) := ns_gav (nY_lt hk) (by decide) (ns_eY hk)
theorem pa_Y {μ : nMem} {k j : Nat} {x : Int32} (hk : k < 12) : pav (ns_rep μ) (nY k) .int 3 j x (ns_rep (ms μ (nY k) j x)) := ns_pav (nY_lt hk) (by decide) (ns_eY hk)
theorem ga_K {μ : nMem} {k : Nat} (hk : k < 12) : gav (ns_rep μ) (nK k) .int 30 (μ.1 (nK k)) := ns_gav (nK_lt hk) (by decide) (ns_eK hk)
theorem pa_K {μ : nMem} {k j : Nat} {x : Int32} (hk : k < 12) : pav (ns_rep μ) (nK k) .int 30 j x (ns_rep (ms μ (nK k) j x)) := ns_pav (nK_lt hk) (by decide) (ns_eK hk)
theorem ga_lastChanges {μ : nMem} : gav (ns_rep μ) 98 .int 3 (μ.1 98) := ns_gav (by decide) (by decide) (fun _ _ => rfl)
theorem pa_lastChanges {μ : nMem} {j : Nat} {x : Int32} : pav (ns_rep μ) 98 .int 3 j x (ns_rep (ms μ 98 j x)) := ns_pav (by decide) (by decide) (fun _ _ => rfl)
theorem ga_latestTally {μ : nMem} : gav (ns_rep μ) 99 .int 3 (μ.1 99) := ns_gav (by decide) (by decide) (fun _ _ => rfl)
theorem pa_latestTally {μ : nMem} {j : Nat} {x : Int32} : pav (ns_rep μ) 99 .int 3 j x (ns_rep (ms μ 99 j x)) := ns_pav (by decide) (by decide) (fun _ _ => rfl)
theorem ga_Mpad {μ : nMem} : gav (ns_rep μ) 105 .int 30 (μ.1 105) := ns_gav (by decide) (by decide) (fun _ _ => rfl)
theorem pa_Mpad {μ : nMem} {j : Nat} {x : Int32} : pav (ns_rep μ) 105 .int 30 j x (ns_rep (ms μ 105 j x)) := ns_pav (by decide) (by decide) (fun _ _ => rfl)
theorem ga_Mchanges {μ : nMem} : gav (ns_rep μ) 106 .int 3 (μ.1 106) := ns_gav (by decide) (by decide) (fun _ _ => rfl)
theorem pa_Mchanges {μ : nMem} {j : Nat} {x : Int32} : pav (ns_rep μ) 106 .int 3 j x (ns_rep (ms μ 106 j x)) := ns_pav (by decide) (by decide) (fun _ _ => rfl)
theorem ga_Mformula {μ : nMem} : gav (ns_rep μ) 107 .boolean 12 (μ.1 107) := ns_gav (by decide) (by decide) (fun _ _ => rfl)
theorem pa_Mformula {μ : nMem} {j : Nat} {x : Int32} : pav (ns_rep μ) 107 .boolean 12 j x (ns_rep (ms μ 107 j x)) := ns_pav (by decide) (by decide) (fun _ _ => rfl)
theorem ga_Mtext {μ : nMem} : gav (ns_rep μ) 108 .int 360 (μ.1 108) := ns_gav (by decide) (by decide) (fun _ _ => rfl)
theorem pa_Mtext {μ : nMem} {j : Nat} {x : Int32} : pav (ns_rep μ) 108 .int 360 j x (ns_rep (ms μ 108 j x)) := ns_pav (by decide) (by decide) (fun _ _ => rfl)
theorem ga_Msize {μ : nMem} : gav (ns_rep μ) 109 .int 12 (μ.1 109) := ns_gav (by decide) (by decide) (fun _ _ => rfl)
theorem pa_Msize {μ : nMem} {j : Nat} {x : Int32} : pav (ns_rep μ) 109 .int 12 j x (ns_rep (ms μ 109 j x)) := ns_pav (by decide) (by decide) (fun _ _ => rfl)
theorem ga_Msteps {μ : nMem} : gav (ns_rep μ) 110 .int 12 (μ.1 110) := ns_gav (by decide) (by decide) (fun _ _ => rfl)
theorem pa_Msteps {μ : nMem} {j : Nat} {x : Int32} : pav (ns_rep μ) 110 .int 12 j x (ns_rep (ms μ 110 j x)) := ns_pav (by decide) (by decide) (fun _ _ => rfl)
theorem ga_Mstep {μ : nMem} : gav (ns_rep μ) 111 .int 480 (μ.1 111) := ns_gav (by decide) (by decide) (fun _ _ => rfl)
theorem pa_Mstep {μ : nMem} {j : Nat} {x : Int32} : pav (ns_rep μ) 111 .int 480 j x (ns_rep (ms μ 111 j x)) := ns_pav (by decide) (by decide) (fun _ _ => rfl)
theorem ga_Mwith {μ : nMem} : gav (ns_rep μ) 112 .int 480 (μ.1 112) := ns_gav (by decide) (by decide) (fun _ _ => rfl)
theorem pa_Mwith {μ : nMem} {j : Nat} {x : Int32} : pav (ns_rep μ) 112 .int 480 j x (ns_rep (ms μ 112 j x)) := ns_pav (by decide) (by decide) (fun _ _ => rfl)
theorem ga_Maltered {μ : nMem} : gav (ns_rep μ) 113 .int 12 (μ.1 113) := ns_gav (by decide) (by decide) (fun _ _ => rfl)
theorem pa_Maltered {μ : nMem} {j : Nat} {x : Int32} : pav (ns_rep μ) 113 .int 12 j x (ns_rep (ms μ 113 j x)) := ns_pav (by decide) (by decide) (fun _ _ => rfl)
theorem ga_Mnumber {μ : nMem} : gav (ns_rep μ) 114 .int 12 (μ.1 114) := ns_gav (by decide) (by decide) (fun _ _ => rfl)
theorem pa_Mnumber {μ : nMem} {j : Nat} {x : Int32} : pav (ns_rep μ) 114 .int 12 j x (ns_rep (ms μ 114 j x)) := ns_pav (by decide) (by decide) (fun _ _ => rfl)
theorem ga_Mdurable {μ : nMem} : gav (ns_rep μ) 115 .int 12 (μ.1 115) := ns_gav (by decide) (by decide) (fun _ _ => rfl)
theorem pa_Mdurable {μ : nMem} {j : Nat} {x : Int32} : pav (ns_rep μ) 115 .int 12 j x (ns_rep (ms μ 115 j x)) := ns_pav (by decide) (by decide) (fun _ _ => rfl)
theorem ga_Mborn {μ : nMem} : gav (ns_rep μ) 116 .int 12 (μ.1 116) := ns_gav (by decide) (by decide) (fun _ _ => rfl)
theorem pa_Mborn {μ : nMem} {j : Nat} {x : Int32} : pav (ns_rep μ) 116 .int 12 j x (ns_rep (ms μ 116 j x)) := ns_pav (by decide) (by decide) (fun _ _ => rfl)
theorem ga_Mnoted {μ : nMem} : gav (ns_rep μ) 117 .boolean 12 (μ.1 117) := ns_gav (by decide) (by decide) (fun _ _ => rfl)
theorem pa_Mnoted {μ : nMem} {j : Nat} {x : Int32} : pav (ns_rep μ) 117 .boolean 12 j x (ns_rep (ms μ 117 j x)) := ns_pav (by decide) (by decide) (fun _ _ => rfl)
theorem ga_Mvalued {μ : nMem} : gav (ns_rep μ) 118 .boolean 12 (μ.1 118) := ns_gav (by decide) (by decide) (fun _ _ => rfl)
theorem pa_Mvalued {μ : nMem} {j : Nat} {x : Int32} : pav (ns_rep μ) 118 .boolean 12 j x (ns_rep (ms μ 118 j x)) := ns_pav (by decide) (by decide) (fun _ _ => rfl)
theorem ga_Mvalue {μ : nMem} : glv (ns_rep μ) 119 12 (μ.2 119) := ns_glv (by decide) (by decide) (fun _ _ => rfl)
theorem pa_Mvalue {μ : nMem} {j : Nat} {x : Int64} : plv (ns_rep μ) 119 12 j x (ns_rep (ml μ 119 j x)) := ns_plv (by decide) (by decide) (fun _ _ => rfl)
theorem ga_Mverified {μ : nMem} : gav (ns_rep μ) 120 .int 12 (μ.1 120) := ns_gav (by decide) (by decide) (fun _ _ => rfl)
theorem pa_Mverified {μ : nMem} {j : Nat} {x : Int32} : pav (ns_rep μ) 120 .int 12 j x (ns_rep (ms μ 120 j x)) := ns_pav (by decide) (by decide) (fun _ _ => rfl)
theorem ga_Msince {μ : nMem} : gav (ns_rep μ) 121 .int 12 (μ.1 121) := ns_gav (by decide) (by decide) (fun _ _ => rfl)
theorem pa_Msince {μ : nMem} {j : Nat} {x : Int32} : pav (ns_rep μ) 121 .int 12 j x (ns_rep (ms μ 121 j x)) := ns_pav (by decide) (by decide) (fun _ _ => rfl)
theorem ga_MnoteDurable {μ : nMem} : gav (ns_rep μ) 122 .int 12 (μ.1 122) := ns_gav (by decide) (by decide) (fun _ _ => rfl)
theorem pa_MnoteDurable {μ : nMem} {j : Nat} {x : Int32} : pav (ns_rep μ) 122 .int 12 j x (ns_rep (ms μ 122 j x)) := ns_pav (by decide) (by decide) (fun _ _ => rfl)
theorem ga_Mreads {μ : nMem} : gav (ns_rep μ) 123 .int 12 (μ.1 123) := ns_gav (by decide) (by decide) (fun _ _ => rfl)
theorem pa_Mreads {μ : nMem} {j : Nat} {x : Int32} : pav (ns_rep μ) 123 .int 12 j x (ns_rep (ms μ 123 j x)) := ns_pav (by decide) (by decide) (fun _ _ => rfl)
theorem ga_MreadCell {μ : nMem} : gav (ns_rep μ) 124 .int 144 (μ.1 124) := ns_gav (by decide) (by decide) (fun _ _ => rfl)
theorem pa_MreadCell {μ : nMem} {j : Nat} {x : Int32} : pav (ns_rep μ) 124 .int 144 j x (ns_rep (ms μ 124 j x)) := ns_pav (by decide) (by decide) (fun _ _ => rfl)
theorem ga_Mused {μ : nMem} : gav (ns_rep μ) 125 .int 12 (μ.1 125) := ns_gav (by decide) (by decide) (fun _ _ => rfl)
theorem pa_Mused {μ : nMem} {j : Nat} {x : Int32} : pav (ns_rep μ) 125 .int 12 j x (ns_rep (ms μ 125 j x)) := ns_pav (by decide) (by decide) (fun _ _ => rfl)
theorem ga_Moften {μ : nMem} : gav (ns_rep μ) 126 .int 36 (μ.1 126) := ns_gav (by decide) (by decide) (fun _ _ => rfl)
theorem pa_Moften {μ : nMem} {j : Nat} {x : Int32} : pav (ns_rep μ) 126 .int 36 j x (ns_rep (ms μ 126 j x)) := ns_pav (by decide) (by decide) (fun _ _ => rfl)
theorem ga_Mlately {μ : nMem} : gav (ns_rep μ) 127 .int 3 (μ.1 127) := ns_gav (by decide) (by decide) (fun _ _ => rfl)
theorem pa_Mlately {μ : nMem} {j : Nat} {x : Int32} : pav (ns_rep μ) 127 .int 3 j x (ns_rep (ms μ 127 j x)) := ns_pav (by decide) (by decide) (fun _ _ => rfl)
theorem ga_Mopen {μ : nMem} : gav (ns_rep μ) 128 .int 12 (μ.1 128) := ns_gav (by decide) (by decide) (fun _ _ => rfl)
theorem pa_Mopen {μ : nMem} {j : Nat} {x : Int32} : pav (ns_rep μ) 128 .int 12 j x (ns_rep (ms μ 128 j x)) := ns_pav (by decide) (by decide) (fun _ _ => rfl)
theorem ga_Mmode {μ : nMem} : gav (ns_rep μ) 129 .int 12 (μ.1 129) := ns_gav (by decide) (by decide) (fun _ _ => rfl)
theorem pa_Mmode {μ : nMem} {j : Nat} {x : Int32} : pav (ns_rep μ) 129 .int 12 j x (ns_rep (ms μ 129 j x)) := ns_pav (by decide) (by decide) (fun _ _ => rfl)
theorem ga_Mat {μ : nMem} : gav (ns_rep μ) 130 .int 12 (μ.1 130) := ns_gav (by decide) (by decide) (fun _ _ => rfl)
theorem pa_Mat {μ : nMem} {j : Nat} {x : Int32} : pav (ns_rep μ) 130 .int 12 j x (ns_rep (ms μ 130 j x)) := ns_pav (by decide) (by decide) (fun _ _ => rfl)
theorem ga_Mdepth {μ : nMem} : gav (ns_rep μ) 131 .int 12 (μ.1 131) := ns_gav (by decide) (by decide) (fun _ _ => rfl)
theorem pa_Mdepth {μ : nMem} {j : Nat} {x : Int32} : pav (ns_rep μ) 131 .int 12 j x (ns_rep (ms μ 131 j x)) := ns_pav (by decide) (by decide) (fun _ _ => rfl)
theorem ga_Mstack {μ : nMem} : glv (ns_rep μ) 132 192 (μ.2 132) := ns_glv (by decide) (by decide) (fun _ _ => rfl)
theorem pa_Mstack {μ : nMem} {j : Nat} {x : Int64} : plv (ns_rep μ) 132 192 j x (ns_rep (ml μ 132 j x)) := ns_plv (by decide) (by decide) (fun _ _ => rfl)
theorem ga_Mfound {μ : nMem} : gav (ns_rep μ) 133 .int 12 (μ.1 133) := ns_gav (by decide) (by decide) (fun _ _ => rfl)
theorem pa_Mfound {μ : nMem} {j : Nat} {x : Int32} : pav (ns_rep μ) 133 .int 12 j x (ns_rep (ms μ 133 j x)) := ns_pav (by decide) (by decide) (fun _ _ => rfl)
theorem ga_MfoundCell {μ : nMem} : gav (ns_rep μ) 134 .int 144 (μ.1 134) := ns_gav (by decide) (by decide) (fun _ _ => rfl)
theorem pa_MfoundCell {μ : nMem} {j : Nat} {x : Int32} : pav (ns_rep μ) 134 .int 144 j x (ns_rep (ms μ 134 j x)) := ns_pav (by decide) (by decide) (fun _ _ => rfl)
theorem ga_MatWork {μ : nMem} : gav (ns_rep μ) 135 .boolean 12 (μ.1 135) := ns_gav (by decide) (by decide) (fun _ _ => rfl)
theorem pa_MatWork {μ : nMem} {j : Nat} {x : Int32} : pav (ns_rep μ) 135 .boolean 12 j x (ns_rep (ms μ 135 j x)) := ns_pav (by decide) (by decide) (fun _ _ => rfl)
theorem ga_Mring {μ : nMem} : gav (ns_rep μ) 136 .boolean 12 (μ.1 136) := ns_gav (by decide) (by decide) (fun _ _ => rfl)
theorem pa_Mring {μ : nMem} {j : Nat} {x : Int32} : pav (ns_rep μ) 136 .boolean 12 j x (ns_rep (ms μ 136 j x)) := ns_pav (by decide) (by decide) (fun _ _ => rfl)
theorem ga_Msign {μ : nMem} : gav (ns_rep μ) 137 .int 64 (μ.1 137) := ns_gav (by decide) (by decide) (fun _ _ => rfl)
theorem pa_Msign {μ : nMem} {j : Nat} {x : Int32} : pav (ns_rep μ) 137 .int 64 j x (ns_rep (ms μ 137 j x)) := ns_pav (by decide) (by decide) (fun _ _ => rfl)
theorem ga_Mmend {μ : nMem} : gav (ns_rep μ) 138 .int 64 (μ.1 138) := ns_gav (by decide) (by decide) (fun _ _ => rfl)
theorem pa_Mmend {μ : nMem} {j : Nat} {x : Int32} : pav (ns_rep μ) 138 .int 64 j x (ns_rep (ms μ 138 j x)) := ns_pav (by decide) (by decide) (fun _ _ => rfl)
theorem ga_MnewStep {μ : nMem} : gav (ns_rep μ) 139 .int 40 (μ.1 139) := ns_gav (by decide) (by decide) (fun _ _ => rfl)
theorem pa_MnewStep {μ : nMem} {j : Nat} {x : Int32} : pav (ns_rep μ) 139 .int 40 j x (ns_rep (ms μ 139 j x)) := ns_pav (by decide) (by decide) (fun _ _ => rfl)
theorem ga_MnewWith {μ : nMem} : gav (ns_rep μ) 140 .int 40 (μ.1 140) := ns_gav (by decide) (by decide) (fun _ _ => rfl)
theorem pa_MnewWith {μ : nMem} {j : Nat} {x : Int32} : pav (ns_rep μ) 140 .int 40 j x (ns_rep (ms μ 140 j x)) := ns_pav (by decide) (by decide) (fun _ _ => rfl)
theorem ns_cells {μ : nMem} : (ns_rep μ).2 1 = some (.inl (.object "NoteSheet$Cell", 12, .inr (.inr (.inr (.inr (fun j => if j < 12 then some (nC j) else none)))))) := ns_rp_at (by decide) rfl
theorem ns_ioN {μ : nMem} : ax_io (ns_rep μ) 0 0 := rfl
theorem ns_ioP {μ : nMem} : ax_io (ns_rep μ) 103 4 := rfl
theorem ns_ioM {μ : nMem} : ax_io (ns_rep μ) 104 5 := rfl
theorem ns_ioC {μ : nMem} {k : Nat} (hk : k < 12) : ax_io (ns_rep μ) (nC k) 1 := by unfold ax_io; rw [ns_rp_at (nC_lt hk) (ns_eC hk _ _)]
theorem ns_ioF {μ : nMem} {k : Nat} (hk : k < 13) : ax_io (ns_rep μ) (nF k) 2 := by unfold ax_io; rw [ns_rp_at (nF_lt hk) (ns_eF hk _ _)]
theorem ns_ioO {μ : nMem} {k : Nat} (hk : k < 12) : ax_io (ns_rep μ) (nN k) 3 := by unfold ax_io; rw [ns_rp_at (nN_lt hk) (ns_eO hk _ _)]
end
section
/-! what a memory holds behind a write -/
theorem ms_o {μ : nMem} {a k : Nat} {x : Int32} {b : Nat} (h : ¬ b = a) : (ms μ a k x).1 b = μ.1 b := if_neg h
theorem ms_s {μ : nMem} {a k : Nat} {x : Int32} : (ms μ a k x).1 a = upd (μ.1 a) k x := if_pos rfl
theorem ms_2 {μ : nMem} {a k : Nat} {x : Int32} : (ms μ a k x).2 = μ.2 := rfl
theorem ml_1 {μ : nMem} {a k : Nat} {x : Int64} : (ml μ a k x).1 = μ.1 := rfl
theorem ml_o {μ : nMem} {a k : Nat} {x : Int64} {b : Nat} (h : ¬ b = a) : (ml μ a k x).2 b = μ.2 b := if_neg h
theorem ml_s {μ : nMem} {a k : Nat} {x : Int64} : (ml μ a k x).2 a = vp_updL (μ.2 a) k x := if_pos rfl
theorem ms_r {μ : nMem} {a k : Nat} {x : Int32} {b j : Nat} : (ms μ a k x).1 b j = if b = a ∧ j = k then x else μ.1 b j := by
  by_cases h : b = a
  · subst h
    rw [ms_s]
    by_cases hj : j = k
    · simp [upd, hj]
    · simp [upd, hj]
  · rw [ms_o h, if_neg (fun z => h z.1)]
theorem ml_r {μ : nMem} {a k : Nat} {x : Int64} {b j : Nat} : (ml μ a k x).2 b j = if b = a ∧ j = k then x else μ.2 b j := by
  by_cases h : b = a
  · subst h
    rw [ml_s]
    by_cases hj : j = k
    · simp [vp_updL, hj]
    · simp [vp_updL, hj]
  · rw [ml_o h, if_neg (fun z => h z.1)]
theorem ms_ms {μ : nMem} {a k : Nat} {x y : Int32} : ms (ms μ a k x) a k y = ms μ a k y := by
  refine Prod.ext (funext fun b => ?_) rfl
  by_cases h : b = a
  · subst h
    rw [ms_s, ms_s, ms_s]
    funext j
    by_cases hj : j = k
    · simp [upd, hj]
    · simp [upd, hj]
  · rw [ms_o h, ms_o h, ms_o h]
/-! leaves: Formula's and Cell's, and the small ones -/
def bi (b : Bool) : Int32 := if b then 1 else 0
theorem bi_narrow (b : Bool) : narrow .boolean (.int (bi b)) = .int (bi b) := by cases b <;> rfl
theorem bi_0 (b : Bool) : bi b = 0 ↔ b = false := by cases b <;> simp [bi]
def isLet (x : Int32) : Bool := if x < 65 then false else if 77 ≤ x then false else true
def isDig (x : Int32) : Bool := if x < 48 then false else if 57 < x then false else true

theorem c_F_isLetter {L : Nat} {xs : Nat → Int32} {d : Nat} {Q : ax_Q} {x : Int32} {h : ax_H} (hq : Q (some (.int (bi (isLet x)))) h) : nM L xs (d + 1) 78 [.int x] h Q := by
  refine nM.of ns_I_F_isLetter rfl (ls := [_]) (Nat.le_of_ble_eq_true rfl) rfl ?_
  refine aw_iload_n (pc' := 1) nd_F_isLetter_0 rfl rfl ?_
  refine aw_bipush (pc' := 3) (x := 65) nd_F_isLetter_1 rfl (by decide) ?_
  refine aw_icmp_lt (pc' := 6) (tg := 16) nd_F_isLetter_3 (by decide) rfl (fun hb3 => ?_) (fun hb3 => ?_)
  · skip
    refine aw_iconst (pc' := 17) (x := 0) nd_F_isLetter_16 rfl (by decide) ?_
    refine aw_ireturn nd_F_isLetter_17 rfl (by first | rfl | assumption) (Nat.le_of_ble_eq_true rfl) (Nat.le_of_ble_eq_true rfl) ?_
    simpa [isLet, bi, *] using hq
  · skip
    refine aw_iload_n (pc' := 7) nd_F_isLetter_6 rfl rfl ?_
    refine aw_bipush (pc' := 9) (x := 77) nd_F_isLetter_7 rfl (by decide) ?_
    refine aw_icmp_ge (pc' := 12) (tg := 16) nd_F_isLetter_9 (by decide) rfl (fun hb9 => ?_) (fun hb9 => ?_)
    · skip
      refine aw_iconst (pc' := 17) (x := 0) nd_F_isLetter_16 rfl (by decide) ?_
      refine aw_ireturn nd_F_isLetter_17 rfl (by first | rfl | assumption) (Nat.le_of_ble_eq_true rfl) (Nat.le_of_ble_eq_true rfl) ?_
      simpa [isLet, bi, *] using hq
    · skip
      refine aw_iconst (pc' := 13) (x := 1) nd_F_isLetter_12 rfl (by decide) ?_
      refine aw_goto (pc' := 17) nd_F_isLetter_13 (by decide) ?_
      refine aw_ireturn nd_F_isLetter_17 rfl (by first | rfl | assumption) (Nat.le_of_ble_eq_true rfl) (Nat.le_of_ble_eq_true rfl) ?_
      simpa [isLet, bi, *] using hq

theorem c_F_isDigit {L : Nat} {xs : Nat → Int32} {d : Nat} {Q : ax_Q} {x : Int32} {h : ax_H} (hq : Q (some (.int (bi (isDig x)))) h) : nM L xs (d + 1) 79 [.int x] h Q := by
  refine nM.of ns_I_F_isDigit rfl (ls := [_]) (Nat.le_of_ble_eq_true rfl) rfl ?_
  refine aw_iload_n (pc' := 1) nd_F_isDigit_0 rfl rfl ?_
  refine aw_bipush (pc' := 3) (x := 48) nd_F_isDigit_1 rfl (by decide) ?_
  refine aw_icmp_lt (pc' := 6) (tg := 16) nd_F_isDigit_3 (by decide) rfl (fun hb3 => ?_) (fun hb3 => ?_)
  · skip
    refine aw_iconst (pc' := 17) (x := 0) nd_F_isDigit_16 rfl (by decide) ?_
    refine aw_ireturn nd_F_isDigit_17 rfl (by first | rfl | assumption) (Nat.le_of_ble_eq_true rfl) (Nat.le_of_ble_eq_true rfl) ?_
    simpa [isDig, bi, *] using hq
  · skip
    refine aw_iload_n (pc' := 7) nd_F_isDigit_6 rfl rfl ?_
    refine aw_bipush (pc' := 9) (x := 57) nd_F_isDigit_7 rfl (by decide) ?_
    refine aw_icmp_gt (pc' := 12) (tg := 16) nd_F_isDigit_9 (by decide) rfl (fun hb9 => ?_) (fun hb9 => ?_)
    · skip
      refine aw_iconst (pc' := 17) (x := 0) nd_F_isDigit_16 rfl (by decide) ?_
      refine aw_ireturn nd_F_isDigit_17 rfl (by first | rfl | assumption) (Nat.le_of_ble_eq_true rfl) (Nat.le_of_ble_eq_true rfl) ?_
      simpa [isDig, bi, *] using hq
    · skip
      refine aw_iconst (pc' := 13) (x := 1) nd_F_isDigit_12 rfl (by decide) ?_
      refine aw_goto (pc' := 17) nd_F_isDigit_13 (by decide) ?_
      refine aw_ireturn nd_F_isDigit_17 rfl (by first | rfl | assumption) (Nat.le_of_ble_eq_true rfl) (Nat.le_of_ble_eq_true rfl) ?_
      simpa [isDig, bi, *] using hq

theorem ne_FT (k j : Nat) : ¬ nF k = nT j := (by unfold nF nT; (repeat' split) <;> omega)
theorem ne_FS (k j : Nat) : ¬ nF k = nS j := (by unfold nF nS; (repeat' split) <;> omega)
theorem ne_TS (k j : Nat) : ¬ nT k = nS j := (by unfold nT nS; (repeat' split) <;> omega)

theorem c_F_append {L : Nat} {xs : Nat → Int32} {d : Nat} {Q : ax_Q} {μ : nMem} {k n : Nat} {c : Int32} (hk : k < 13) (hn : μ.1 (nF k) 2 = nI n) (hle : n ≤ 30) (hc : vp_nar .char c = c) (hq1 : n < 30 → Q (some (.int 1)) (ns_rep (ms (ms μ (nT k) n c) (nF k) 2 (nI (n + 1))))) (hq2 : n = 30 → Q (some (.int 0)) (ns_rep μ)) : nM L xs (d + 1) 81 [.ref (nF k), .int c] (ns_rep μ) Q := by
  refine nM.of ns_I_F_append rfl (ls := [_, _]) (Nat.le_of_ble_eq_true rfl) rfl ?_
  refine aw_aload_n (pc' := 1) nd_F_append_0 rfl rfl rfl ?_
  refine aw_get (pc' := 4) nd_F_append_1 rfl nF_2_34 (g_F_length (by assumption)) ?_
  refine aw_bipush (pc' := 6) (x := 30) nd_F_append_4 rfl (by decide) ?_
  have hx30 : (30 : Int32) = nI 30 := by decide
  rw [hn, hx30]
  refine aw_icmp_lt (pc' := 9) (tg := 11) nd_F_append_6 (by decide) rfl (fun hb6 => ?_) (fun hb6 => ?_)
  · skip
    refine aw_aload_n (pc' := 12) nd_F_append_11 rfl rfl rfl ?_
    refine aw_get (pc' := 15) nd_F_append_12 rfl nF_2_9 (g_F_text (by assumption)) ?_
    refine aw_aload_n (pc' := 16) nd_F_append_15 rfl rfl rfl ?_
    refine aw_get (pc' := 19) nd_F_append_16 rfl nF_2_34 (g_F_length (by assumption)) ?_
    refine aw_iload_n (pc' := 20) nd_F_append_19 rfl rfl ?_
    refine aw_cast (pc' := 21) nd_F_append_20 rfl hc n hn (by have := (nI_ltI (a := n) (b := 30) (by omega) (by decide)).mp hb6; omega) (pa_T (by assumption)) ?_
    refine aw_aload_n (pc' := 22) nd_F_append_21 rfl rfl rfl ?_
    refine aw_dup (pc' := 23) nd_F_append_22 rfl rfl ?_
    refine aw_get (pc' := 26) nd_F_append_23 rfl nF_2_34 (g_F_length (by assumption)) ?_
    refine aw_iconst (pc' := 27) (x := 1) nd_F_append_26 rfl (by decide) ?_
    refine aw_iadd (pc' := 28) nd_F_append_27 rfl ?_
    refine aw_put (pc' := 31) nd_F_append_28 rfl nF_2_34 trivial (p_F_length (by assumption)) ?_
    refine aw_iconst (pc' := 32) (x := 1) nd_F_append_31 rfl (by decide) ?_
    refine aw_ireturn nd_F_append_32 rfl (by first | rfl | assumption) (Nat.le_of_ble_eq_true rfl) (Nat.le_of_ble_eq_true rfl) ?_
    have hlt : n < 30 := (nI_ltI (a := n) (b := 30) (by omega) (by decide)).mp hb6
    have e : (ms μ (nT k) n c).1 (nF k) 2 + 1 = nI (n + 1) := by rw [ms_o (ne_FT k k), hn, nI_1]
    rw [e]
    exact hq1 hlt
  · skip
    refine aw_iconst (pc' := 10) (x := 0) nd_F_append_9 rfl (by decide) ?_
    refine aw_ireturn nd_F_append_10 rfl (by first | rfl | assumption) (Nat.le_of_ble_eq_true rfl) (Nat.le_of_ble_eq_true rfl) ?_
    refine hq2 ?_
    have : ¬ n < 30 := fun z => hb6 ((nI_ltI (by omega) (by decide)).mpr z)
    omega

theorem c_F_addStep {L : Nat} {xs : Nat → Int32} {d : Nat} {Q : ax_Q} {μ : nMem} {k n : Nat} {a b : Int32} (hk : k < 13) (hn : μ.1 (nF k) 3 = nI n) (hlt : n < 30) (hq : Q (some (.int (nI n))) (ns_rep (ms (ms μ (nS k) n (a * 10000 + b)) (nF k) 3 (nI (n + 1))))) : nM L xs (d + 1) 82 [.ref (nF k), .int a, .int b] (ns_rep μ) Q := by
  refine nM.of ns_I_F_addStep rfl (ls := [_, _, _]) (Nat.le_of_ble_eq_true rfl) rfl ?_
  refine aw_aload_n (pc' := 1) nd_F_addStep_0 rfl rfl rfl ?_
  refine aw_get (pc' := 4) nd_F_addStep_1 rfl nF_2_38 (g_F_stepCount (by assumption)) ?_
  refine aw_bipush (pc' := 6) (x := 30) nd_F_addStep_4 rfl (by decide) ?_
  refine aw_icmp_ge (pc' := 9) (tg := 35) nd_F_addStep_6 (by decide) rfl (fun hx => absurd hx (by rw [hn]; exact nI_ge hlt (by decide))) (fun _ => ?_)
  refine aw_aload_n (pc' := 10) nd_F_addStep_9 rfl rfl rfl ?_
  refine aw_get (pc' := 13) nd_F_addStep_10 rfl nF_2_15 (g_F_steps (by assumption)) ?_
  refine aw_aload_n (pc' := 14) nd_F_addStep_13 rfl rfl rfl ?_
  refine aw_get (pc' := 17) nd_F_addStep_14 rfl nF_2_38 (g_F_stepCount (by assumption)) ?_
  refine aw_iload_n (pc' := 18) nd_F_addStep_17 rfl rfl ?_
  refine aw_sipush (pc' := 21) (x := 10000) nd_F_addStep_18 rfl (by decide) ?_
  refine aw_imul (pc' := 22) nd_F_addStep_21 rfl ?_
  refine aw_iload_n (pc' := 23) nd_F_addStep_22 rfl rfl ?_
  refine aw_iadd (pc' := 24) nd_F_addStep_23 rfl ?_
  refine aw_iast (pc' := 25) nd_F_addStep_24 rfl rfl n hn hlt (pa_S (by assumption)) ?_
  refine aw_aload_n (pc' := 26) nd_F_addStep_25 rfl rfl rfl ?_
  refine aw_dup (pc' := 27) nd_F_addStep_26 rfl rfl ?_
  refine aw_get (pc' := 30) nd_F_addStep_27 rfl nF_2_38 (g_F_stepCount (by assumption)) ?_
  refine aw_iconst (pc' := 31) (x := 1) nd_F_addStep_30 rfl (by decide) ?_
  refine aw_iadd (pc' := 32) nd_F_addStep_31 rfl ?_
  refine aw_put (pc' := 35) nd_F_addStep_32 rfl nF_2_38 trivial (p_F_stepCount (by assumption)) ?_
  refine aw_aload_n (pc' := 36) nd_F_addStep_35 rfl rfl rfl ?_
  refine aw_get (pc' := 39) nd_F_addStep_36 rfl nF_2_38 (g_F_stepCount (by assumption)) ?_
  refine aw_iconst (pc' := 40) (x := 1) nd_F_addStep_39 rfl (by decide) ?_
  refine aw_isub (pc' := 41) nd_F_addStep_40 rfl ?_
  refine aw_ireturn nd_F_addStep_41 rfl rfl (Nat.le_of_ble_eq_true rfl) (Nat.le_of_ble_eq_true rfl) ?_
  have e : (ms μ (nS k) n (a * 10000 + b)).1 (nF k) 3 + 1 = nI (n + 1) := by rw [ms_o (ne_FS k k), hn, nI_1]
  rw [e]
  have e2 : (ms (ms μ (nS k) n (a * 10000 + b)) (nF k) 3 (nI (n + 1))).1 (nF k) 3 - 1 = nI n := by rw [ms_s, pk_us, nI_pred]
  rw [e2]
  exact hq

theorem c_F_stepAt {L : Nat} {xs : Nat → Int32} {d : Nat} {Q : ax_Q} {μ : nMem} {k j : Nat} (hk : k < 13) (hj : j < 30) (hq : Q (some (.int (μ.1 (nS k) j / 10000))) (ns_rep μ)) : nM L xs (d + 1) 84 [.ref (nF k), .int (nI j)] (ns_rep μ) Q := by
  refine nM.of ns_I_F_stepAt rfl (ls := [_, _]) (Nat.le_of_ble_eq_true rfl) rfl ?_
  refine aw_aload_n (pc' := 1) nd_F_stepAt_0 rfl rfl rfl ?_
  refine aw_get (pc' := 4) nd_F_stepAt_1 rfl nF_2_15 (g_F_steps (by assumption)) ?_
  refine aw_iload_n (pc' := 5) nd_F_stepAt_4 rfl rfl ?_
  refine aw_iald (pc' := 6) nd_F_stepAt_5 rfl (ga_S (by assumption)) j rfl hj ?_
  refine aw_sipush (pc' := 9) (x := 10000) nd_F_stepAt_6 rfl (by decide) ?_
  refine aw_idiv (pc' := 10) nd_F_stepAt_9 rfl (by decide) ?_
  refine aw_ireturn nd_F_stepAt_10 rfl rfl (Nat.le_of_ble_eq_true rfl) (Nat.le_of_ble_eq_true rfl) ?_
  exact hq

theorem c_F_operandAt {L : Nat} {xs : Nat → Int32} {d : Nat} {Q : ax_Q} {μ : nMem} {k j : Nat} (hk : k < 13) (hj : j < 30) (hq : Q (some (.int (μ.1 (nS k) j - μ.1 (nS k) j / 10000 * 10000))) (ns_rep μ)) : nM L xs (d + 1) 85 [.ref (nF k), .int (nI j)] (ns_rep μ) Q := by
  refine nM.of ns_I_F_operandAt rfl (ls := [_, _]) (Nat.le_of_ble_eq_true rfl) rfl ?_
  refine aw_aload_n (pc' := 1) nd_F_operandAt_0 rfl rfl rfl ?_
  refine aw_get (pc' := 4) nd_F_operandAt_1 rfl nF_2_15 (g_F_steps (by assumption)) ?_
  refine aw_iload_n (pc' := 5) nd_F_operandAt_4 rfl rfl ?_
  refine aw_iald (pc' := 6) nd_F_operandAt_5 rfl (ga_S (by assumption)) j rfl hj ?_
  refine aw_sipush (pc' := 9) (x := 10000) nd_F_operandAt_6 rfl (by decide) ?_
  refine aw_irem (pc' := 10) nd_F_operandAt_9 rfl (by decide) ?_
  refine aw_ireturn nd_F_operandAt_10 rfl rfl (Nat.le_of_ble_eq_true rfl) (Nat.le_of_ble_eq_true rfl) ?_
  exact hq

theorem c_F_jumpToEnd {L : Nat} {xs : Nat → Int32} {d : Nat} {Q : ax_Q} {μ : nMem} {k j : Nat} (hk : k < 13) (hj : j < 30) (hq : Q none (ns_rep (ms μ (nS k) j (μ.1 (nS k) j / 10000 * 10000 + μ.1 (nF k) 3)))) : nM L xs (d + 2) 83 [.ref (nF k), .int (nI j)] (ns_rep μ) Q := by
  refine nM.of ns_I_F_jumpToEnd rfl (ls := [_, _]) (Nat.le_of_ble_eq_true rfl) rfl ?_
  refine aw_aload_n (pc' := 1) nd_F_jumpToEnd_0 rfl rfl rfl ?_
  refine aw_get (pc' := 4) nd_F_jumpToEnd_1 rfl nF_2_15 (g_F_steps (by assumption)) ?_
  refine aw_iload_n (pc' := 5) nd_F_jumpToEnd_4 rfl rfl ?_
  refine aw_aload_n (pc' := 6) nd_F_jumpToEnd_5 rfl rfl rfl ?_
  refine aw_iload_n (pc' := 7) nd_F_jumpToEnd_6 rfl rfl ?_
  refine aw_callV (pc' := 10) (as := [_]) (st := [_, _]) nd_F_jumpToEnd_7 rfl nC_2_41 ⟨(Nat.le_of_ble_eq_true rfl), rfl, rfl⟩ (ns_ioF (by assumption)) (Nat.le_of_ble_eq_true rfl) (Nat.le_of_ble_eq_true rfl) (Nat.le_of_ble_eq_true rfl) ?_
  refine c_F_stepAt hk hj ?_
  show nW _ _ _ _ _ 10 _ [_, _, _] _ _ _
  refine aw_sipush (pc' := 13) (x := 10000) nd_F_jumpToEnd_10 rfl (by decide) ?_
  refine aw_imul (pc' := 14) nd_F_jumpToEnd_13 rfl ?_
  refine aw_aload_n (pc' := 15) nd_F_jumpToEnd_14 rfl rfl rfl ?_
  refine aw_get (pc' := 18) nd_F_jumpToEnd_15 rfl nF_2_38 (g_F_stepCount (by assumption)) ?_
  refine aw_iadd (pc' := 19) nd_F_jumpToEnd_18 rfl ?_
  refine aw_iast (pc' := 20) nd_F_jumpToEnd_19 rfl rfl j rfl hj (pa_S (by assumption)) ?_
  refine aw_return nd_F_jumpToEnd_20 rfl (Nat.le_of_ble_eq_true rfl) (Nat.le_of_ble_eq_true rfl) ?_
  exact hq

theorem c_C_own {L : Nat} {xs : Nat → Int32} {d : Nat} {Q : ax_Q} {μ : nMem} {k : Nat} (hk : k < 12) (hq : Q (some (.int (if μ.1 (nC k) 4 = 0 then μ.1 (nC k) 7 else 2))) (ns_rep μ)) : nM L xs (d + 1) 74 [.ref (nC k)] (ns_rep μ) Q := by
  refine nM.of ns_I_C_ownDurability rfl (ls := [_]) (Nat.le_of_ble_eq_true rfl) rfl ?_
  refine aw_aload_n (pc' := 1) nd_C_ownDurability_0 rfl rfl rfl ?_
  refine aw_get (pc' := 4) nd_C_ownDurability_1 rfl nF_1_32 (g_C_hasFormula (by assumption)) ?_
  refine aw_if_eq (pc' := 7) (tg := 11) nd_C_ownDurability_4 (by decide) rfl (fun hb4 => ?_) (fun hb4 => ?_)
  · skip
    refine aw_aload_n (pc' := 12) nd_C_ownDurability_11 rfl rfl rfl ?_
    refine aw_get (pc' := 15) nd_C_ownDurability_12 rfl nF_1_36 (g_C_durability (by assumption)) ?_
    refine aw_ireturn nd_C_ownDurability_15 rfl rfl (Nat.le_of_ble_eq_true rfl) (Nat.le_of_ble_eq_true rfl) ?_
    simpa [*] using hq
  · skip
    refine aw_iconst (pc' := 8) (x := 2) nd_C_ownDurability_7 rfl (by decide) ?_
    refine aw_goto (pc' := 15) nd_C_ownDurability_8 (by decide) ?_
    refine aw_ireturn nd_C_ownDurability_15 rfl rfl (Nat.le_of_ble_eq_true rfl) (Nat.le_of_ble_eq_true rfl) ?_
    simpa [*] using hq

theorem c_C_given {L : Nat} {xs : Nat → Int32} {d : Nat} {Q : ax_Q} {μ : nMem} {k : Nat} (hk : k < 12) (hq : Q (some (.int (if μ.1 (nC k) 4 = 0 then μ.1 (nC k) 7 else μ.1 (nN k) 7))) (ns_rep μ)) : nM L xs (d + 1) 75 [.ref (nC k)] (ns_rep μ) Q := by
  refine nM.of ns_I_C_givenDurability rfl (ls := [_]) (Nat.le_of_ble_eq_true rfl) rfl ?_
  refine aw_aload_n (pc' := 1) nd_C_givenDurability_0 rfl rfl rfl ?_
  refine aw_get (pc' := 4) nd_C_givenDurability_1 rfl nF_1_32 (g_C_hasFormula (by assumption)) ?_
  refine aw_if_eq (pc' := 7) (tg := 17) nd_C_givenDurability_4 (by decide) rfl (fun hb4 => ?_) (fun hb4 => ?_)
  · skip
    refine aw_aload_n (pc' := 18) nd_C_givenDurability_17 rfl rfl rfl ?_
    refine aw_get (pc' := 21) nd_C_givenDurability_18 rfl nF_1_36 (g_C_durability (by assumption)) ?_
    refine aw_ireturn nd_C_givenDurability_21 rfl rfl (Nat.le_of_ble_eq_true rfl) (Nat.le_of_ble_eq_true rfl) ?_
    simpa [*] using hq
  · skip
    refine aw_aload_n (pc' := 8) nd_C_givenDurability_7 rfl rfl rfl ?_
    refine aw_get (pc' := 11) nd_C_givenDurability_8 rfl nF_1_21 (g_C_note (by assumption)) ?_
    refine aw_get (pc' := 14) nd_C_givenDurability_11 rfl nF_1_40 (g_O_durability (by assumption)) ?_
    refine aw_goto (pc' := 21) nd_C_givenDurability_14 (by decide) ?_
    refine aw_ireturn nd_C_givenDurability_21 rfl rfl (Nat.le_of_ble_eq_true rfl) (Nat.le_of_ble_eq_true rfl) ?_
    simpa [*] using hq

theorem c_C_since {L : Nat} {xs : Nat → Int32} {d : Nat} {Q : ax_Q} {μ : nMem} {k : Nat} (hk : k < 12) (hq : Q (some (.int (if μ.1 (nC k) 4 = 0 then μ.1 (nC k) 8 else μ.1 (nN k) 6))) (ns_rep μ)) : nM L xs (d + 1) 76 [.ref (nC k)] (ns_rep μ) Q := by
  refine nM.of ns_I_C_unchangedSince rfl (ls := [_]) (Nat.le_of_ble_eq_true rfl) rfl ?_
  refine aw_aload_n (pc' := 1) nd_C_unchangedSince_0 rfl rfl rfl ?_
  refine aw_get (pc' := 4) nd_C_unchangedSince_1 rfl nF_1_32 (g_C_hasFormula (by assumption)) ?_
  refine aw_if_eq (pc' := 7) (tg := 17) nd_C_unchangedSince_4 (by decide) rfl (fun hb4 => ?_) (fun hb4 => ?_)
  · skip
    refine aw_aload_n (pc' := 18) nd_C_unchangedSince_17 rfl rfl rfl ?_
    refine aw_get (pc' := 21) nd_C_unchangedSince_18 rfl nF_1_44 (g_C_inputSince (by assumption)) ?_
    refine aw_ireturn nd_C_unchangedSince_21 rfl rfl (Nat.le_of_ble_eq_true rfl) (Nat.le_of_ble_eq_true rfl) ?_
    simpa [*] using hq
  · skip
    refine aw_aload_n (pc' := 8) nd_C_unchangedSince_7 rfl rfl rfl ?_
    refine aw_get (pc' := 11) nd_C_unchangedSince_8 rfl nF_1_21 (g_C_note (by assumption)) ?_
    refine aw_get (pc' := 14) nd_C_unchangedSince_11 rfl nF_1_41 (g_O_since (by assumption)) ?_
    refine aw_goto (pc' := 21) nd_C_unchangedSince_14 (by decide) ?_
    refine aw_ireturn nd_C_unchangedSince_21 rfl rfl (Nat.le_of_ble_eq_true rfl) (Nat.le_of_ble_eq_true rfl) ?_
    simpa [*] using hq

theorem c_O_ver {L : Nat} {xs : Nat → Int32} {d : Nat} {Q : ax_Q} {μ : nMem} {k : Nat} {r : Int32} (hk : k < 12) (hq : Q (some (.int (bi (if μ.1 (nN k) 2 = 0 then false else decide (μ.1 (nN k) 5 = r))))) (ns_rep μ)) : nM L xs (d + 1) 90 [.ref (nN k), .int r] (ns_rep μ) Q := by
  refine nM.of ns_I_O_isVerifiedIn rfl (ls := [_, _]) (Nat.le_of_ble_eq_true rfl) rfl ?_
  refine aw_aload_n (pc' := 1) nd_O_isVerifiedIn_0 rfl rfl rfl ?_
  refine aw_get (pc' := 4) nd_O_isVerifiedIn_1 rfl nF_3_19 (g_O_exists (by assumption)) ?_
  refine aw_if_eq (pc' := 7) (tg := 19) nd_O_isVerifiedIn_4 (by decide) rfl (fun hb4 => ?_) (fun hb4 => ?_)
  · skip
    refine aw_iconst (pc' := 20) (x := 0) nd_O_isVerifiedIn_19 rfl (by decide) ?_
    refine aw_ireturn nd_O_isVerifiedIn_20 rfl (by first | rfl | assumption) (Nat.le_of_ble_eq_true rfl) (Nat.le_of_ble_eq_true rfl) ?_
    simpa [bi, *] using hq
  · skip
    refine aw_aload_n (pc' := 8) nd_O_isVerifiedIn_7 rfl rfl rfl ?_
    refine aw_get (pc' := 11) nd_O_isVerifiedIn_8 rfl nF_3_26 (g_O_verified (by assumption)) ?_
    refine aw_iload_n (pc' := 12) nd_O_isVerifiedIn_11 rfl rfl ?_
    refine aw_icmp_ne (pc' := 15) (tg := 19) nd_O_isVerifiedIn_12 (by decide) rfl (fun hb12 => ?_) (fun hb12 => ?_)
    · skip
      refine aw_iconst (pc' := 20) (x := 0) nd_O_isVerifiedIn_19 rfl (by decide) ?_
      refine aw_ireturn nd_O_isVerifiedIn_20 rfl (by first | rfl | assumption) (Nat.le_of_ble_eq_true rfl) (Nat.le_of_ble_eq_true rfl) ?_
      simpa [bi, *] using hq
    · skip
      refine aw_iconst (pc' := 16) (x := 1) nd_O_isVerifiedIn_15 rfl (by decide) ?_
      refine aw_goto (pc' := 20) nd_O_isVerifiedIn_16 (by decide) ?_
      refine aw_ireturn nd_O_isVerifiedIn_20 rfl (by first | rfl | assumption) (Nat.le_of_ble_eq_true rfl) (Nat.le_of_ble_eq_true rfl) ?_
      simpa [bi, *] using hq

theorem c_O_clear {L : Nat} {xs : Nat → Int32} {d : Nat} {Q : ax_Q} {μ : nMem} {k : Nat} (hk : k < 12) (hq : Q none (ns_rep (ms (ms (ms (ms (ms (ms μ (nN k) 1 0) (nN k) 2 0) (nN k) 3 0) (nN k) 5 0) (nN k) 6 0) (nN k) 7 0))) : nM L xs (d + 1) 89 [.ref (nN k)] (ns_rep μ) Q := by
  refine nM.of ns_I_O_clear rfl (ls := [_]) (Nat.le_of_ble_eq_true rfl) rfl ?_
  refine aw_aload_n (pc' := 1) nd_O_clear_0 rfl rfl rfl ?_
  refine aw_iconst (pc' := 2) (x := 0) nd_O_clear_1 rfl (by decide) ?_
  refine aw_put (pc' := 5) nd_O_clear_2 rfl nF_3_15 trivial (p_O_readCount (by assumption)) ?_
  refine aw_aload_n (pc' := 6) nd_O_clear_5 rfl rfl rfl ?_
  refine aw_iconst (pc' := 7) (x := 0) nd_O_clear_6 rfl (by decide) ?_
  refine aw_put (pc' := 10) nd_O_clear_7 rfl nF_3_19 (by first | exact Or.inl rfl | exact Or.inr rfl | assumption) (p_O_exists (by assumption)) ?_
  refine aw_aload_n (pc' := 11) nd_O_clear_10 rfl rfl rfl ?_
  refine aw_iconst (pc' := 12) (x := 0) nd_O_clear_11 rfl (by decide) ?_
  refine aw_put (pc' := 15) nd_O_clear_12 rfl nF_3_23 (by first | exact Or.inl rfl | exact Or.inr rfl | assumption) (p_O_hasValue (by assumption)) ?_
  refine aw_aload_n (pc' := 16) nd_O_clear_15 rfl rfl rfl ?_
  refine aw_iconst (pc' := 17) (x := 0) nd_O_clear_16 rfl (by decide) ?_
  refine aw_put (pc' := 20) nd_O_clear_17 rfl nF_3_26 trivial (p_O_verified (by assumption)) ?_
  refine aw_aload_n (pc' := 21) nd_O_clear_20 rfl rfl rfl ?_
  refine aw_iconst (pc' := 22) (x := 0) nd_O_clear_21 rfl (by decide) ?_
  refine aw_put (pc' := 25) nd_O_clear_22 rfl nF_3_29 trivial (p_O_since (by assumption)) ?_
  refine aw_aload_n (pc' := 26) nd_O_clear_25 rfl rfl rfl ?_
  refine aw_iconst (pc' := 27) (x := 0) nd_O_clear_26 rfl (by decide) ?_
  refine aw_put (pc' := 30) nd_O_clear_27 rfl nF_3_32 trivial (p_O_durability (by assumption)) ?_
  refine aw_return nd_O_clear_30 rfl (Nat.le_of_ble_eq_true rfl) (Nat.le_of_ble_eq_true rfl) ?_
  exact hq

theorem c_N_isCell {L : Nat} {xs : Nat → Int32} {d : Nat} {Q : ax_Q} {x : Int32} {h : ax_H} (hq : Q (some (.int (bi (if x < 0 then false else if 12 ≤ x then false else true)))) h) : nM L xs (d + 1) 10 [.int x] h Q := by
  refine nM.of ns_I_N_isCell rfl (ls := [_]) (Nat.le_of_ble_eq_true rfl) rfl ?_
  refine aw_iload_n (pc' := 1) nd_N_isCell_0 rfl rfl ?_
  refine aw_if_lt (pc' := 4) (tg := 14) nd_N_isCell_1 (by decide) rfl (fun hb1 => ?_) (fun hb1 => ?_)
  · skip
    refine aw_iconst (pc' := 15) (x := 0) nd_N_isCell_14 rfl (by decide) ?_
    refine aw_ireturn nd_N_isCell_15 rfl (by first | rfl | assumption) (Nat.le_of_ble_eq_true rfl) (Nat.le_of_ble_eq_true rfl) ?_
    simpa [bi, *] using hq
  · skip
    refine aw_iload_n (pc' := 5) nd_N_isCell_4 rfl rfl ?_
    refine aw_bipush (pc' := 7) (x := 12) nd_N_isCell_5 rfl (by decide) ?_
    refine aw_icmp_ge (pc' := 10) (tg := 14) nd_N_isCell_7 (by decide) rfl (fun hb7 => ?_) (fun hb7 => ?_)
    · skip
      refine aw_iconst (pc' := 15) (x := 0) nd_N_isCell_14 rfl (by decide) ?_
      refine aw_ireturn nd_N_isCell_15 rfl (by first | rfl | assumption) (Nat.le_of_ble_eq_true rfl) (Nat.le_of_ble_eq_true rfl) ?_
      simpa [bi, *] using hq
    · skip
      refine aw_iconst (pc' := 11) (x := 1) nd_N_isCell_10 rfl (by decide) ?_
      refine aw_goto (pc' := 15) nd_N_isCell_11 (by decide) ?_
      refine aw_ireturn nd_N_isCell_15 rfl (by first | rfl | assumption) (Nat.le_of_ble_eq_true rfl) (Nat.le_of_ble_eq_true rfl) ?_
      simpa [bi, *] using hq

theorem c_N_isDur {L : Nat} {xs : Nat → Int32} {d : Nat} {Q : ax_Q} {x : Int32} {h : ax_H} (hq : Q (some (.int (bi (if x < 0 then false else if 2 < x then false else true)))) h) : nM L xs (d + 1) 11 [.int x] h Q := by
  refine nM.of ns_I_N_isDurability rfl (ls := [_]) (Nat.le_of_ble_eq_true rfl) rfl ?_
  refine aw_iload_n (pc' := 1) nd_N_isDurability_0 rfl rfl ?_
  refine aw_if_lt (pc' := 4) (tg := 13) nd_N_isDurability_1 (by decide) rfl (fun hb1 => ?_) (fun hb1 => ?_)
  · skip
    refine aw_iconst (pc' := 14) (x := 0) nd_N_isDurability_13 rfl (by decide) ?_
    refine aw_ireturn nd_N_isDurability_14 rfl (by first | rfl | assumption) (Nat.le_of_ble_eq_true rfl) (Nat.le_of_ble_eq_true rfl) ?_
    simpa [bi, *] using hq
  · skip
    refine aw_iload_n (pc' := 5) nd_N_isDurability_4 rfl rfl ?_
    refine aw_iconst (pc' := 6) (x := 2) nd_N_isDurability_5 rfl (by decide) ?_
    refine aw_icmp_gt (pc' := 9) (tg := 13) nd_N_isDurability_6 (by decide) rfl (fun hb6 => ?_) (fun hb6 => ?_)
    · skip
      refine aw_iconst (pc' := 14) (x := 0) nd_N_isDurability_13 rfl (by decide) ?_
      refine aw_ireturn nd_N_isDurability_14 rfl (by first | rfl | assumption) (Nat.le_of_ble_eq_true rfl) (Nat.le_of_ble_eq_true rfl) ?_
      simpa [bi, *] using hq
    · skip
      refine aw_iconst (pc' := 10) (x := 1) nd_N_isDurability_9 rfl (by decide) ?_
      refine aw_goto (pc' := 14) nd_N_isDurability_10 (by decide) ?_
      refine aw_ireturn nd_N_isDurability_14 rfl (by first | rfl | assumption) (Nat.le_of_ble_eq_true rfl) (Nat.le_of_ble_eq_true rfl) ?_
      simpa [bi, *] using hq

theorem c_N_revision {L : Nat} {xs : Nat → Int32} {d : Nat} {Q : ax_Q} {μ : nMem} (hq : Q (some (.int (μ.1 0 6))) (ns_rep μ)) : nM L xs (d + 1) 5 [.ref 0] (ns_rep μ) Q := by
  refine nM.of ns_I_N_revision rfl (ls := [_]) (Nat.le_of_ble_eq_true rfl) rfl ?_
  refine aw_aload_n (pc' := 1) nd_N_revision_0 rfl rfl rfl ?_
  refine aw_get (pc' := 4) nd_N_revision_1 rfl nF_0_52 g_N_now ?_
  refine aw_ireturn nd_N_revision_4 rfl rfl (Nat.le_of_ble_eq_true rfl) (Nat.le_of_ble_eq_true rfl) ?_
  exact hq

theorem c_N_markUsed {L : Nat} {xs : Nat → Int32} {d : Nat} {Q : ax_Q} {μ : nMem} {k : Nat} (hk : k < 12) (hq : Q none (ns_rep (ms (ms μ 0 7 (μ.1 0 7 + 1)) (nC k) 10 (μ.1 0 7 + 1)))) : nM L xs (d + 1) 25 [.ref 0, .ref (nC k)] (ns_rep μ) Q := by
  refine nM.of ns_I_N_markUsed rfl (ls := [_, _]) (Nat.le_of_ble_eq_true rfl) rfl ?_
  refine aw_aload_n (pc' := 1) nd_N_markUsed_0 rfl rfl rfl ?_
  refine aw_dup (pc' := 2) nd_N_markUsed_1 rfl rfl ?_
  refine aw_get (pc' := 5) nd_N_markUsed_2 rfl nF_0_240 g_N_uses ?_
  refine aw_iconst (pc' := 6) (x := 1) nd_N_markUsed_5 rfl (by decide) ?_
  refine aw_iadd (pc' := 7) nd_N_markUsed_6 rfl ?_
  refine aw_put (pc' := 10) nd_N_markUsed_7 rfl nF_0_240 trivial p_N_uses ?_
  refine aw_aload_n (pc' := 11) nd_N_markUsed_10 rfl rfl rfl ?_
  refine aw_aload_n (pc' := 12) nd_N_markUsed_11 rfl rfl rfl ?_
  refine aw_get (pc' := 15) nd_N_markUsed_12 rfl nF_0_240 g_N_uses ?_
  refine aw_put (pc' := 18) nd_N_markUsed_15 rfl nF_0_243 trivial (p_C_lastUse (by assumption)) ?_
  refine aw_return nd_N_markUsed_18 rfl (Nat.le_of_ble_eq_true rfl) (Nat.le_of_ble_eq_true rfl) ?_
  have e : (ms μ 0 7 (μ.1 0 7 + 1)).1 0 7 = μ.1 0 7 + 1 := by rw [ms_s, pk_us]
  rw [e]
  exact hq

theorem c_P_fault {L : Nat} {xs : Nat → Int32} {d : Nat} {Q : ax_Q} {μ : nMem} (hq : Q (some (.int (μ.1 103 1))) (ns_rep μ)) : nM L xs (d + 1) 95 [.ref 103] (ns_rep μ) Q := by
  refine nM.of ns_I_P_fault rfl (ls := [_]) (Nat.le_of_ble_eq_true rfl) rfl ?_
  refine aw_aload_n (pc' := 1) nd_P_fault_0 rfl rfl rfl ?_
  refine aw_get (pc' := 4) nd_P_fault_1 rfl nF_4_15 g_P_at ?_
  refine aw_ireturn nd_P_fault_4 rfl rfl (Nat.le_of_ble_eq_true rfl) (Nat.le_of_ble_eq_true rfl) ?_
  exact hq

theorem c_floorMod {L : Nat} {xs : Nat → Int32} {d : Nat} {Q : ax_Q} {x y : Int32} {h : ax_H} (hy : ¬ y = 0) (hq : Q (some (.int (if 0 ≤ x ^^^ y then x - x / y * y else if x - x / y * y = 0 then x - x / y * y else x - x / y * y + y))) h) : nM L xs (d + 1) 106 [.int x, .int y] h Q := by
  refine nM.of ns_I_J_floorMod rfl (ls := [_, _, _]) (Nat.le_of_ble_eq_true rfl) rfl ?_
  refine aw_iload_n (pc' := 1) nd_J_floorMod_0 rfl rfl ?_
  refine aw_iload_n (pc' := 2) nd_J_floorMod_1 rfl rfl ?_
  refine aw_irem (pc' := 3) nd_J_floorMod_2 rfl hy ?_
  refine aw_istore_n (pc' := 4) (ls' := [_, _, _]) nd_J_floorMod_3 rfl (Nat.le_of_ble_eq_true rfl) rfl ?_
  refine aw_iload_n (pc' := 5) nd_J_floorMod_4 rfl rfl ?_
  refine aw_iload_n (pc' := 6) nd_J_floorMod_5 rfl rfl ?_
  refine aw_ixor (pc' := 7) nd_J_floorMod_6 rfl ?_
  refine aw_if_ge (pc' := 10) (tg := 18) nd_J_floorMod_7 (by decide) rfl (fun hb7 => ?_) (fun hb7 => ?_)
  · skip
    refine aw_iload_n (pc' := 19) nd_J_floorMod_18 rfl rfl ?_
    refine aw_ireturn nd_J_floorMod_19 rfl rfl (Nat.le_of_ble_eq_true rfl) (Nat.le_of_ble_eq_true rfl) ?_
    simpa [*] using hq
  · skip
    refine aw_iload_n (pc' := 11) nd_J_floorMod_10 rfl rfl ?_
    refine aw_if_eq (pc' := 14) (tg := 18) nd_J_floorMod_11 (by decide) rfl (fun hb11 => ?_) (fun hb11 => ?_)
    · skip
      refine aw_iload_n (pc' := 19) nd_J_floorMod_18 rfl rfl ?_
      refine aw_ireturn nd_J_floorMod_19 rfl rfl (Nat.le_of_ble_eq_true rfl) (Nat.le_of_ble_eq_true rfl) ?_
      simpa [*] using hq
    · skip
      refine aw_iload_n (pc' := 15) nd_J_floorMod_14 rfl rfl ?_
      refine aw_iload_n (pc' := 16) nd_J_floorMod_15 rfl rfl ?_
      refine aw_iadd (pc' := 17) nd_J_floorMod_16 rfl ?_
      refine aw_ireturn nd_J_floorMod_17 rfl rfl (Nat.le_of_ble_eq_true rfl) (Nat.le_of_ble_eq_true rfl) ?_
      simpa [*] using hq
end
section
/-! the sheet's own small methods; loops -/

theorem ne_NR {k j : Nat} (h : k < 12) : ¬ nN k = nR j := by unfold nN nR; omega
theorem ne_RN {k j : Nat} (h : k < 12) : ¬ nR k = nN j := by unfold nN nR; omega
theorem ne_YN {k j : Nat} : ¬ nY k = nN j := by unfold nY nN; omega
theorem ne_lt {f : Nat → Nat} {k : Nat} : True := trivial
theorem nN_l {k : Nat} (h : k < 12) : nN k < 98 := by unfold nN; omega
theorem nC_l {k : Nat} (h : k < 12) : nC k < 98 := by unfold nC; omega
theorem nY_l {k : Nat} (h : k < 12) : nY k < 98 := by unfold nY; omega
theorem nY_0 {k : Nat} : 0 < nY k := by unfold nY; omega
theorem nN_0 {k : Nat} : 0 < nN k := by unfold nN; omega
theorem nC_0 {k : Nat} : 0 < nC k := by unfold nC; omega
theorem ne_NC {k j : Nat} : ¬ nN k = nC j := by unfold nN nC; omega
theorem ne_CN {k j : Nat} : ¬ nC k = nN j := by unfold nN nC; omega

theorem c_N_combine {L : Nat} {xs : Nat → Int32} {d : Nat} {Q : ax_Q} {a x y : Int32} {h : ax_H} (hq : Q (some (.int (if a = 6 then x + y else if a = 7 then x - y else if a = 8 then x * y else if a = 9 then bi (decide (x < y)) else bi (decide (x = y))))) h) : nM L xs (d + 1) 23 [.int a, .int x, .int y] h Q := by
  refine nM.of ns_I_N_combine rfl (ls := [_, _, _]) (Nat.le_of_ble_eq_true rfl) rfl ?_
  refine aw_iload_n (pc' := 1) nd_N_combine_0 rfl rfl ?_
  have e6 : (6 : Int32).toInt = 6 := by decide
  have e7 : (7 : Int32).toInt = 7 := by decide
  have e8 : (8 : Int32).toInt = 8 := by decide
  have e9 : (9 : Int32).toInt = 9 := by decide
  by_cases h6 : a = 6
  · subst h6
    refine aw_tabIn (tg := 32) (off := 31) nd_N_combine_1 (by decide) (by decide) (by decide) ?_
    refine aw_iload_n (pc' := 33) nd_N_combine_32 rfl rfl ?_
    refine aw_iload_n (pc' := 34) nd_N_combine_33 rfl rfl ?_
    refine aw_iadd (pc' := 35) nd_N_combine_34 rfl ?_
    exact aw_ireturn nd_N_combine_35 rfl rfl (Nat.le_of_ble_eq_true rfl) (Nat.le_of_ble_eq_true rfl) (by simpa using hq)
  by_cases h7 : a = 7
  · subst h7
    refine aw_tabIn (tg := 36) (off := 35) nd_N_combine_1 (by decide) (by decide) (by decide) ?_
    refine aw_iload_n (pc' := 37) nd_N_combine_36 rfl rfl ?_
    refine aw_iload_n (pc' := 38) nd_N_combine_37 rfl rfl ?_
    refine aw_isub (pc' := 39) nd_N_combine_38 rfl ?_
    exact aw_ireturn nd_N_combine_39 rfl rfl (Nat.le_of_ble_eq_true rfl) (Nat.le_of_ble_eq_true rfl) (by simpa using hq)
  by_cases h8 : a = 8
  · subst h8
    refine aw_tabIn (tg := 40) (off := 39) nd_N_combine_1 (by decide) (by decide) (by decide) ?_
    refine aw_iload_n (pc' := 41) nd_N_combine_40 rfl rfl ?_
    refine aw_iload_n (pc' := 42) nd_N_combine_41 rfl rfl ?_
    refine aw_imul (pc' := 43) nd_N_combine_42 rfl ?_
    exact aw_ireturn nd_N_combine_43 rfl rfl (Nat.le_of_ble_eq_true rfl) (Nat.le_of_ble_eq_true rfl) (by simpa using hq)
  by_cases h9 : a = 9
  · subst h9
    refine aw_tabIn (tg := 44) (off := 43) nd_N_combine_1 (by decide) (by decide) (by decide) ?_
    refine aw_iload_n (pc' := 45) nd_N_combine_44 rfl rfl ?_
    refine aw_iload_n (pc' := 46) nd_N_combine_45 rfl rfl ?_
    refine aw_icmp_ge (pc' := 49) (tg := 53) nd_N_combine_46 (by decide) rfl (fun hb => ?_) (fun hb => ?_)
    · refine aw_iconst (pc' := 54) (x := 0) nd_N_combine_53 rfl (by decide) ?_
      exact aw_ireturn nd_N_combine_54 rfl rfl (Nat.le_of_ble_eq_true rfl) (Nat.le_of_ble_eq_true rfl) (by have := Int32.not_lt.mpr hb; simpa [bi, this] using hq)
    · refine aw_iconst (pc' := 50) (x := 1) nd_N_combine_49 rfl (by decide) ?_
      refine aw_goto (pc' := 54) nd_N_combine_50 (by decide) ?_
      exact aw_ireturn nd_N_combine_54 rfl rfl (Nat.le_of_ble_eq_true rfl) (Nat.le_of_ble_eq_true rfl) (by have := Int32.not_le.mp hb; simpa [bi, this] using hq)
  have hout : a.toInt < 6 ∨ 9 < a.toInt := by
    have n6 : ¬ a.toInt = 6 := fun z => h6 (Int32.toInt_inj.mp (by rw [z, e6]))
    have n7 : ¬ a.toInt = 7 := fun z => h7 (Int32.toInt_inj.mp (by rw [z, e7]))
    have n8 : ¬ a.toInt = 8 := fun z => h8 (Int32.toInt_inj.mp (by rw [z, e8]))
    have n9 : ¬ a.toInt = 9 := fun z => h9 (Int32.toInt_inj.mp (by rw [z, e9]))
    omega
  refine aw_tabOut (tg := 55) nd_N_combine_1 hout (by decide) ?_
  refine aw_iload_n (pc' := 56) nd_N_combine_55 rfl rfl ?_
  refine aw_iload_n (pc' := 57) nd_N_combine_56 rfl rfl ?_
  refine aw_icmp_ne (pc' := 60) (tg := 64) nd_N_combine_57 (by decide) rfl (fun hb => ?_) (fun hb => ?_)
  · refine aw_iconst (pc' := 65) (x := 0) nd_N_combine_64 rfl (by decide) ?_
    exact aw_ireturn nd_N_combine_65 rfl rfl (Nat.le_of_ble_eq_true rfl) (Nat.le_of_ble_eq_true rfl) (by simpa [bi, h6, h7, h8, h9, hb] using hq)
  · refine aw_iconst (pc' := 61) (x := 1) nd_N_combine_60 rfl (by decide) ?_
    refine aw_goto (pc' := 65) nd_N_combine_61 (by decide) ?_
    exact aw_ireturn nd_N_combine_65 rfl rfl (Nat.le_of_ble_eq_true rfl) (Nat.le_of_ble_eq_true rfl) (by simpa [bi, h6, h7, h8, h9, hb] using hq)

theorem c_N_tally {L : Nat} {xs : Nat → Int32} {d : Nat} {Q : ax_Q} {μ : nMem} {k j : Nat} (hk : k < 12) (hj : j < 3) (hq : Q none (ns_rep (ms (ms μ (nY k) j (μ.1 (nY k) j + 1)) 99 j (μ.1 99 j + 1)))) : nM L xs (d + 1) 26 [.ref 0, .ref (nC k), .int (nI j)] (ns_rep μ) Q := by
  refine nM.of ns_I_N_tally rfl (ls := [_, _, _]) (Nat.le_of_ble_eq_true rfl) rfl ?_
  refine aw_aload_n (pc' := 1) nd_N_tally_0 rfl rfl rfl ?_
  refine aw_get (pc' := 4) nd_N_tally_1 rfl nF_0_107 (g_C_tally (by assumption)) ?_
  refine aw_iload_n (pc' := 5) nd_N_tally_4 rfl rfl ?_
  refine aw_dup2 (pc' := 6) nd_N_tally_5 rfl rfl rfl ?_
  refine aw_iald (pc' := 7) nd_N_tally_6 rfl (ga_Y (by assumption)) j rfl hj ?_
  refine aw_iconst (pc' := 8) (x := 1) nd_N_tally_7 rfl (by decide) ?_
  refine aw_iadd (pc' := 9) nd_N_tally_8 rfl ?_
  refine aw_iast (pc' := 10) nd_N_tally_9 rfl rfl j rfl hj (pa_Y (by assumption)) ?_
  refine aw_aload_n (pc' := 11) nd_N_tally_10 rfl rfl rfl ?_
  refine aw_get (pc' := 14) nd_N_tally_11 rfl nF_0_33 g_N_latestTally ?_
  refine aw_iload_n (pc' := 15) nd_N_tally_14 rfl rfl ?_
  refine aw_dup2 (pc' := 16) nd_N_tally_15 rfl rfl rfl ?_
  refine aw_iald (pc' := 17) nd_N_tally_16 rfl ga_latestTally j rfl hj ?_
  refine aw_iconst (pc' := 18) (x := 1) nd_N_tally_17 rfl (by decide) ?_
  refine aw_iadd (pc' := 19) nd_N_tally_18 rfl ?_
  refine aw_iast (pc' := 20) nd_N_tally_19 rfl rfl j rfl hj pa_latestTally ?_
  refine aw_return nd_N_tally_20 rfl (Nat.le_of_ble_eq_true rfl) (Nat.le_of_ble_eq_true rfl) ?_
  have e : (ms μ (nY k) j (μ.1 (nY k) j + 1)).1 99 = μ.1 99 := ms_o (by have := nY_l hk; omega)
  rw [e]
  exact hq

theorem c_N_verify {L : Nat} {xs : Nat → Int32} {d : Nat} {Q : ax_Q} {μ : nMem} {k j : Nat} (hk : k < 12) (hj : j < 3) (hq : Q none (ns_rep (ms (ms (ms μ (nN k) 5 (μ.1 0 6)) (nY k) j (μ.1 (nY k) j + 1)) 99 j (μ.1 99 j + 1)))) : nM L xs (d + 2) 19 [.ref 0, .ref (nC k), .int (nI j)] (ns_rep μ) Q := by
  refine nM.of ns_I_N_verify rfl (ls := [_, _, _]) (Nat.le_of_ble_eq_true rfl) rfl ?_
  refine aw_aload_n (pc' := 1) nd_N_verify_0 rfl rfl rfl ?_
  refine aw_get (pc' := 4) nd_N_verify_1 rfl nF_0_113 (g_C_note (by assumption)) ?_
  refine aw_aload_n (pc' := 5) nd_N_verify_4 rfl rfl rfl ?_
  refine aw_get (pc' := 8) nd_N_verify_5 rfl nF_0_52 g_N_now ?_
  refine aw_put (pc' := 11) nd_N_verify_8 rfl nF_0_117 trivial (p_O_verified (by assumption)) ?_
  refine aw_aload_n (pc' := 12) nd_N_verify_11 rfl rfl rfl ?_
  refine aw_aload_n (pc' := 13) nd_N_verify_12 rfl rfl rfl ?_
  refine aw_iload_n (pc' := 14) nd_N_verify_13 rfl rfl ?_
  refine aw_callV (pc' := 17) (as := [_, _]) (st := []) nd_N_verify_14 rfl nC_0_202 ⟨(Nat.le_of_ble_eq_true rfl), rfl, rfl⟩ ns_ioN (Nat.le_of_ble_eq_true rfl) (Nat.le_of_ble_eq_true rfl) (Nat.le_of_ble_eq_true rfl) ?_
  refine c_N_tally hk hj ?_
  show nW _ _ _ _ _ 17 _ [] _ _ _
  refine aw_return nd_N_verify_17 rfl (Nat.le_of_ble_eq_true rfl) (Nat.le_of_ble_eq_true rfl) ?_
  have e1 : (ms μ (nN k) 5 (μ.1 0 6)).1 (nY k) = μ.1 (nY k) := ms_o ne_YN
  have e2 : (ms μ (nN k) 5 (μ.1 0 6)).1 99 = μ.1 99 := ms_o (by have := nN_l hk; omega)
  rw [← e1, ← e2] at hq
  exact hq

theorem c_N_changed {L : Nat} {xs : Nat → Int32} {d : Nat} {Q : ax_Q} {μ : nMem} {x : Int32} (hq : Q (some (.int (if x < 0 then -1 else if 2 < x then -1 else μ.1 98 x.toNatClampNeg))) (ns_rep μ)) : nM L xs (d + 2) 6 [.ref 0, .int x] (ns_rep μ) Q := by
  refine nM.of ns_I_N_changed rfl (ls := [_, _]) (Nat.le_of_ble_eq_true rfl) rfl ?_
  refine aw_iload_n (pc' := 1) nd_N_changed_0 rfl rfl ?_
  refine aw_callS (a := 0) (pc' := 4) (as := [_]) (st := []) nd_N_changed_1 rfl nC_0_81 ⟨(Nat.le_of_ble_eq_true rfl), rfl, rfl⟩ (Nat.le_of_ble_eq_true rfl) (Nat.le_of_ble_eq_true rfl) (Nat.le_of_ble_eq_true rfl) ?_
  refine c_N_isDur ?_
  show nW _ _ _ _ _ 4 _ [_] _ _ _
  refine aw_if_eq (pc' := 7) (tg := 16) nd_N_changed_4 (by decide) rfl (fun hb => ?_) (fun hb => ?_)
  · skip
    have hx : x < 0 ∨ 2 < x := by
      by_cases h1 : x < 0
      · exact Or.inl h1
      · by_cases h2 : 2 < x
        · exact Or.inr h2
        · exact absurd hb (by simp [bi, h1, h2])
    refine aw_iconst (pc' := 17) (x := -1) nd_N_changed_16 rfl (by decide) ?_
    refine aw_ireturn nd_N_changed_17 rfl rfl (Nat.le_of_ble_eq_true rfl) (Nat.le_of_ble_eq_true rfl) ?_
    first
      | (rcases hx with h1 | h1
         · simpa [h1] using hq
         · by_cases h0 : x < 0
           · simpa [h0] using hq
           · simpa [h0, h1] using hq)
      | (rw [if_neg hx.1, if_neg hx.2, nI_clamp (by omega)] at hq; exact hq)
  · skip
    have hx : ¬ x < 0 ∧ ¬ 2 < x := by
      refine ⟨fun z => hb ?_, fun z => hb ?_⟩
      · simp [bi, z]
      · simp [bi, z]
    obtain ⟨j, hj, rfl⟩ := nI_of2 (M := 2) (n := 2) (by decide) hx.1 (Int32.not_lt.mp hx.2)
    refine aw_aload_n (pc' := 8) nd_N_changed_7 rfl rfl rfl ?_
    refine aw_get (pc' := 11) nd_N_changed_8 rfl nF_0_29 g_N_lastChanges ?_
    refine aw_iload_n (pc' := 12) nd_N_changed_11 rfl rfl ?_
    refine aw_iald (pc' := 13) nd_N_changed_12 rfl ga_lastChanges j rfl (by omega) ?_
    refine aw_goto (pc' := 17) nd_N_changed_13 (by decide) ?_
    refine aw_ireturn nd_N_changed_17 rfl rfl (Nat.le_of_ble_eq_true rfl) (Nat.le_of_ble_eq_true rfl) ?_
    first
      | (rcases hx with h1 | h1
         · simpa [h1] using hq
         · by_cases h0 : x < 0
           · simpa [h0] using hq
           · simpa [h0, h1] using hq)
      | (rw [if_neg hx.1, if_neg hx.2, nI_clamp (by omega)] at hq; exact hq)

theorem c_N_passes {L : Nat} {xs : Nat → Int32} {d : Nat} {Q : ax_Q} {μ : nMem} {k j : Nat} (hk : k < 12) (hj : μ.1 (nN k) 7 = nI j) (hj3 : j < 3) (hq : Q (some (.int (bi (if μ.1 (nN k) 2 = 0 then false else decide (μ.1 98 j ≤ μ.1 (nN k) 5))))) (ns_rep μ)) : nM L xs (d + 1) 17 [.ref 0, .ref (nN k)] (ns_rep μ) Q := by
  refine nM.of ns_I_N_passes rfl (ls := [_, _]) (Nat.le_of_ble_eq_true rfl) rfl ?_
  refine aw_aload_n (pc' := 1) nd_N_passes_0 rfl rfl rfl ?_
  refine aw_get (pc' := 4) nd_N_passes_1 rfl nF_0_199 (g_O_exists (by assumption)) ?_
  refine aw_if_eq (pc' := 7) (tg := 27) nd_N_passes_4 (by decide) rfl (fun hb4 => ?_) (fun hb4 => ?_)
  · skip
    refine aw_iconst (pc' := 28) (x := 0) nd_N_passes_27 rfl (by decide) ?_
    refine aw_ireturn nd_N_passes_28 rfl (by first | rfl | assumption) (Nat.le_of_ble_eq_true rfl) (Nat.le_of_ble_eq_true rfl) ?_
    first
      | simpa [bi, *] using hq
      | (have := Int32.not_le.mpr hb20; simpa [bi, *] using hq)
      | (have := Int32.not_lt.mp hb20; simpa [bi, *] using hq)
  · skip
    refine aw_aload_n (pc' := 8) nd_N_passes_7 rfl rfl rfl ?_
    refine aw_get (pc' := 11) nd_N_passes_8 rfl nF_0_29 g_N_lastChanges ?_
    refine aw_aload_n (pc' := 12) nd_N_passes_11 rfl rfl rfl ?_
    refine aw_get (pc' := 15) nd_N_passes_12 rfl nF_0_198 (g_O_durability (by assumption)) ?_
    refine aw_iald (pc' := 16) nd_N_passes_15 rfl ga_lastChanges j hj hj3 ?_
    refine aw_aload_n (pc' := 17) nd_N_passes_16 rfl rfl rfl ?_
    refine aw_get (pc' := 20) nd_N_passes_17 rfl nF_0_117 (g_O_verified (by assumption)) ?_
    refine aw_icmp_gt (pc' := 23) (tg := 27) nd_N_passes_20 (by decide) rfl (fun hb20 => ?_) (fun hb20 => ?_)
    · skip
      refine aw_iconst (pc' := 28) (x := 0) nd_N_passes_27 rfl (by decide) ?_
      refine aw_ireturn nd_N_passes_28 rfl (by first | rfl | assumption) (Nat.le_of_ble_eq_true rfl) (Nat.le_of_ble_eq_true rfl) ?_
      first
        | simpa [bi, *] using hq
        | (have := Int32.not_le.mpr hb20; simpa [bi, *] using hq)
        | (have := Int32.not_lt.mp hb20; simpa [bi, *] using hq)
    · skip
      refine aw_iconst (pc' := 24) (x := 1) nd_N_passes_23 rfl (by decide) ?_
      refine aw_goto (pc' := 28) nd_N_passes_24 (by decide) ?_
      refine aw_ireturn nd_N_passes_28 rfl (by first | rfl | assumption) (Nat.le_of_ble_eq_true rfl) (Nat.le_of_ble_eq_true rfl) ?_
      first
        | simpa [bi, *] using hq
        | (have := Int32.not_le.mpr hb20; simpa [bi, *] using hq)
        | (have := Int32.not_lt.mp hb20; simpa [bi, *] using hq)

theorem l_O_addRead {L : Nat} {xs : Nat → Int32} {d : Nat} {Q : ax_Q} {μ : nMem} {k n : Nat} {x : Int32} (hk : k < 12) (hn : μ.1 (nN k) 1 = nI n) (hle : n ≤ 12) (hq1 : (∃ i, i < n ∧ μ.1 (nR k) i = x) → Q none (ns_rep μ)) (hq2 : (∀ i, i < n → ¬ μ.1 (nR k) i = x) → n < 12 → Q none (ns_rep (ms (ms μ (nR k) n x) (nN k) 1 (nI (n + 1))))) (hq3 : (∀ i, i < n → ¬ μ.1 (nR k) i = x) → n = 12 → Q none (ns_rep μ)) : ∀ m j, m + j = n → (∀ i, i < j → ¬ μ.1 (nR k) i = x) → nW L xs d ns_I_O_addRead Q 2 [some (.ref (nN k)), some (.int x), some (.int (nI j))] [] 0 0 (ns_rep μ) := by
  intro m
  induction m with
  | zero =>
    intro j hj hall
    obtain rfl : j = n := by omega
    refine aw_iload_n (pc' := 3) nd_O_addRead_2 rfl rfl ?_
    refine aw_aload_n (pc' := 4) nd_O_addRead_3 rfl rfl rfl ?_
    refine aw_get (pc' := 7) nd_O_addRead_4 rfl nF_3_15 (g_O_readCount (by assumption)) ?_
    refine aw_icmp_ge (pc' := 10) (tg := 27) nd_O_addRead_7 (by decide) rfl (fun _ => ?_) (fun hx => absurd (by rw [hn]; exact nI_le (Nat.le_refl _) (by omega)) hx)
    refine aw_aload_n (pc' := 28) nd_O_addRead_27 rfl rfl rfl ?_
    refine aw_get (pc' := 31) nd_O_addRead_28 rfl nF_3_15 (g_O_readCount (by assumption)) ?_
    refine aw_aload_n (pc' := 32) nd_O_addRead_31 rfl rfl rfl ?_
    refine aw_get (pc' := 35) nd_O_addRead_32 rfl nF_3_9 (g_O_reads (by assumption)) ?_
    refine aw_alen (pc' := 36) nd_O_addRead_35 rfl (ga_R (by assumption)).1 ?_
    have e12 : (nI 12 : Int32) ≤ nI j ↔ 12 ≤ j := nI_leI (by decide) (by omega)
    rw [hn]
    refine aw_icmp_ge (pc' := 39) (tg := 59) nd_O_addRead_36 (by decide) rfl (fun hb36 => ?_) (fun hb36 => ?_)
    · skip
      refine aw_return nd_O_addRead_59 rfl (Nat.le_of_ble_eq_true rfl) (Nat.le_of_ble_eq_true rfl) ?_
      first
        | exact hq3 hall (by have := e12.mp hb36; omega)
        | (have e : (ms μ (nR k) j x).1 (nN k) 1 + 1 = nI (j + 1) := by rw [ms_o (ne_NR hk), hn, nI_1]
           rw [e]
           exact hq2 hall (by have := mt e12.mpr hb36; omega))
    · skip
      refine aw_aload_n (pc' := 40) nd_O_addRead_39 rfl rfl rfl ?_
      refine aw_get (pc' := 43) nd_O_addRead_40 rfl nF_3_9 (g_O_reads (by assumption)) ?_
      refine aw_aload_n (pc' := 44) nd_O_addRead_43 rfl rfl rfl ?_
      refine aw_get (pc' := 47) nd_O_addRead_44 rfl nF_3_15 (g_O_readCount (by assumption)) ?_
      refine aw_iload_n (pc' := 48) nd_O_addRead_47 rfl rfl ?_
      refine aw_iast (pc' := 49) nd_O_addRead_48 rfl rfl j hn (by have := mt e12.mpr hb36; omega) (pa_R (by assumption)) ?_
      refine aw_aload_n (pc' := 50) nd_O_addRead_49 rfl rfl rfl ?_
      refine aw_dup (pc' := 51) nd_O_addRead_50 rfl rfl ?_
      refine aw_get (pc' := 54) nd_O_addRead_51 rfl nF_3_15 (g_O_readCount (by assumption)) ?_
      refine aw_iconst (pc' := 55) (x := 1) nd_O_addRead_54 rfl (by decide) ?_
      refine aw_iadd (pc' := 56) nd_O_addRead_55 rfl ?_
      refine aw_put (pc' := 59) nd_O_addRead_56 rfl nF_3_15 trivial (p_O_readCount (by assumption)) ?_
      refine aw_return nd_O_addRead_59 rfl (Nat.le_of_ble_eq_true rfl) (Nat.le_of_ble_eq_true rfl) ?_
      first
        | exact hq3 hall (by have := e12.mp hb36; omega)
        | (have e : (ms μ (nR k) j x).1 (nN k) 1 + 1 = nI (j + 1) := by rw [ms_o (ne_NR hk), hn, nI_1]
           rw [e]
           exact hq2 hall (by have := mt e12.mpr hb36; omega))
  | succ m ih =>
    intro j hj hall
    refine aw_iload_n (pc' := 3) nd_O_addRead_2 rfl rfl ?_
    refine aw_aload_n (pc' := 4) nd_O_addRead_3 rfl rfl rfl ?_
    refine aw_get (pc' := 7) nd_O_addRead_4 rfl nF_3_15 (g_O_readCount (by assumption)) ?_
    refine aw_icmp_ge (pc' := 10) (tg := 27) nd_O_addRead_7 (by decide) rfl (fun hx => absurd hx (by rw [hn]; exact nI_ge (by omega) (by omega))) (fun _ => ?_)
    refine aw_aload_n (pc' := 11) nd_O_addRead_10 rfl rfl rfl ?_
    refine aw_get (pc' := 14) nd_O_addRead_11 rfl nF_3_9 (g_O_reads (by assumption)) ?_
    refine aw_iload_n (pc' := 15) nd_O_addRead_14 rfl rfl ?_
    refine aw_iald (pc' := 16) nd_O_addRead_15 rfl (ga_R (by assumption)) j rfl (by omega) ?_
    refine aw_iload_n (pc' := 17) nd_O_addRead_16 rfl rfl ?_
    refine aw_icmp_ne (pc' := 20) (tg := 21) nd_O_addRead_17 (by decide) rfl (fun hb17 => ?_) (fun hb17 => ?_)
    · skip
      refine aw_iinc (pc' := 24) (ls' := [_, _, _]) nd_O_addRead_21 rfl rfl (nI_1 j) rfl ?_
      refine aw_goto (pc' := 2) nd_O_addRead_24 (by decide) ?_
      refine ih (j + 1) (by omega) ?_
      intro i hi
      by_cases e : i = j
      · rw [e]; exact hb17
      · exact hall i (by omega)
    · skip
      refine aw_return nd_O_addRead_20 rfl (Nat.le_of_ble_eq_true rfl) (Nat.le_of_ble_eq_true rfl) ?_
      exact hq1 ⟨j, by omega, hb17⟩

theorem c_O_addRead {L : Nat} {xs : Nat → Int32} {d : Nat} {Q : ax_Q} {μ : nMem} {k n : Nat} {x : Int32} (hk : k < 12) (hn : μ.1 (nN k) 1 = nI n) (hle : n ≤ 12) (hq1 : (∃ i, i < n ∧ μ.1 (nR k) i = x) → Q none (ns_rep μ)) (hq2 : (∀ i, i < n → ¬ μ.1 (nR k) i = x) → n < 12 → Q none (ns_rep (ms (ms μ (nR k) n x) (nN k) 1 (nI (n + 1))))) (hq3 : (∀ i, i < n → ¬ μ.1 (nR k) i = x) → n = 12 → Q none (ns_rep μ)) : nM L xs (d + 1) 92 [.ref (nN k), .int x] (ns_rep μ) Q := by
  refine nM.of ns_I_O_addRead rfl (ls := [_, _, _]) (Nat.le_of_ble_eq_true rfl) rfl ?_
  refine aw_iconst (pc' := 1) (x := 0) nd_O_addRead_0 rfl (by decide) ?_
  refine aw_istore_n (pc' := 2) (ls' := [_, _, _]) nd_O_addRead_1 rfl (Nat.le_of_ble_eq_true rfl) rfl ?_
  exact l_O_addRead hk hn hle hq1 hq2 hq3 n 0 (by omega) (fun i hi => absurd hi (by omega))
end
section
/-! more of the sheet: cells by index, whole rows copied -/
theorem aw_cells {L : Nat} {xs : Nat → Int32} {d : Nat} {Q : ax_Q} {pc pc' : Nat} {ls : List (Option Value)} {st : List Value} {k n : Nat} {μ : nMem} {I : ax_MI} {i : Int32} (hd : decode I.1 pc = .ok (.aaload, 1)) (hpc : pc + 1 = pc') (j : Nat) (hi : i = nI j) (hj : j < 12) (kk : nW L xs d I Q pc' ls (.ref (nC j) :: st) k n (ns_rep μ)) : nW L xs d I Q pc ls (.int i :: .ref 1 :: st) k n (ns_rep μ) := by
  refine aw_aald hd hpc ns_cells (by decide) j hi hj ?_
  rw [if_pos hj]
  exact kk
def mw (μ : nMem) (a : Nat) (f : Nat → Int32) : nMem := (fun b => if b = a then f else μ.1 b, μ.2)
theorem mw_s {μ : nMem} {a : Nat} {f : Nat → Int32} : (mw μ a f).1 a = f := if_pos rfl
theorem mw_o {μ : nMem} {a b : Nat} {f : Nat → Int32} (h : ¬ b = a) : (mw μ a f).1 b = μ.1 b := if_neg h
theorem ns_rp_uw {N : Nat} {μ : nMem} {a : Nat} {f : Nat → Int32} {e : ax_E} (h : a < N) (he : ns_en a f (μ.2 a) = some e) : ns_rp N (mw μ a f) = ax_up (ns_rp N μ) a e := by
  refine Prod.ext rfl (funext fun id => ?_)
  by_cases hid : id = a
  · subst hid
    show (if id < N then ns_en id ((mw μ id f).1 id) (μ.2 id) else none) = if id = id then some e else _
    rw [if_pos h, if_pos rfl, mw_s, he]
  · show (if id < N then ns_en id ((mw μ a f).1 id) (μ.2 id) else none) = if id = a then some e else (if id < N then ns_en id (μ.1 id) (μ.2 id) else none)
    rw [if_neg hid, mw_o hid]
theorem aw_acopy {L : Nat} {xs : Nat → Int32} {d : Nat} {Q : ax_Q} {pc pc' : Nat} {ls : List (Option Value)} {st : List Value} {k n : Nat} {μ : nMem} {I : ax_MI} {idx np mc' ms' ci a b : Nat} {ty : FieldType} (hd : decode I.1 pc = .ok (.invokestatic idx, 3)) (hpc : pc + 3 = pc') (hc : ns_tC I.2.1 idx = some (.inr 5, np, mc', ms', ci, 0)) (hw : ax_w8 st) (ha : a < 141) (hb : b < 141) (hea : ∀ f g, ns_en a f g = some (.inl (ty, 30, .inl f))) (heb : ∀ f g, ns_en b f g = some (.inl (ty, 30, .inl f))) (ht : refKind ty = false) (hf : ∀ i, i < 30 → fits ty (.int (μ.1 b i)) = true) (kk : nW L xs d I Q pc' ls st k n (ns_rep (mw μ a (va_cpy (μ.1 b) (μ.1 a) 0 0 30)))) : nW L xs d I Q pc ls (.int 30 :: .int 0 :: .ref a :: .int 0 :: .ref b :: st) k n (ns_rep μ) := by
  subst hpc
  refine aw_of hd (Or.inl rfl) ?_
  show ax_op (ns_tC I.2.1 idx) _
  rw [hc]
  refine ⟨rfl, ?_⟩
  show ax_cp (ns_rep μ) (.int 30 :: .int 0 :: .ref a :: .int 0 :: .ref b :: st) (fun st h => nW L xs d I Q (pc + 3) ls st k n h)
  unfold ax_cp
  have e1 : (ns_rep μ).2 b = some (.inl (ty, 30, .inl (μ.1 b))) := ns_rp_at hb (heb _ _)
  have e2 : (ns_rep μ).2 a = some (.inl (ty, 30, .inl (μ.1 a))) := ns_rp_at ha (hea _ _)
  have z0 : (0 : Int32).toNatClampNeg = 0 := by decide
  have z30 : (30 : Int32).toNatClampNeg = 30 := by decide
  simp only [e1, e2, z0, z30]
  refine ⟨trivial, ht, by decide, by decide, by decide, by decide, by decide, (fun i hi => by rw [Nat.zero_add]; exact hf i hi), hw, ?_⟩
  rw [← ns_rp_uw ha (hea _ _)]
  exact kk
theorem ne_SF (k j : Nat) : ¬ nS k = nF j := fun h => ne_FS j k h.symm
theorem ne_ST (k j : Nat) : ¬ nS k = nT j := fun h => ne_TS j k h.symm
theorem ne_TF (k j : Nat) : ¬ nT k = nF j := fun h => ne_FT j k h.symm
/-- the first i places of lastChanges set to v -/
def sr : Nat → nMem → Int32 → nMem
  | 0, m, _ => m
  | i + 1, m, v => ms (sr i m v) 98 i v
theorem sr_o {i : Nat} {m : nMem} {v : Int32} {b : Nat} (h : ¬ b = 98) : (sr i m v).1 b = m.1 b := by
  induction i with
  | zero => rfl
  | succ i ih => rw [sr, ms_o h, ih]
theorem sr_2 {i : Nat} {m : nMem} {v : Int32} : (sr i m v).2 = m.2 := by
  induction i with
  | zero => rfl
  | succ i ih => rw [sr, ms_2, ih]
def srv (μ : nMem) (j : Nat) : nMem := sr (j + 1) (ms μ 0 6 (μ.1 0 6 + 1)) (μ.1 0 6 + 1)
/-- how many of the first i cells have a value in their notes -/
def vcn (μ : nMem) : Nat → Nat
  | 0 => 0
  | i + 1 => vcn μ i + if μ.1 (nN i) 3 = 0 then 0 else 1
theorem vcn_le (μ : nMem) (i : Nat) : vcn μ i ≤ i := by
  induction i with
  | zero => exact Nat.le_refl _
  | succ i ih => unfold vcn; split <;> omega
/-- read i of cell k's note, as a number -/
def rN (μ : nMem) (k i : Nat) : Nat := (μ.1 (nR k) i).toNatClampNeg
/-- the durability that cell s gives -/
def gd (μ : nMem) (s : Nat) : Int32 := if μ.1 (nC s) 9 = 0 then (if μ.1 (nC s) 4 = 0 then μ.1 (nC s) 7 else μ.1 (nN s) 7) else 0
def ldn (μ : nMem) (k : Nat) : Nat → Int32
  | 0 => 2
  | i + 1 => if gd μ (rN μ k i) < ldn μ k i then gd μ (rN μ k i) else ldn μ k i

theorem l_N_startRevision {L : Nat} {xs : Nat → Int32} {d : Nat} {Q : ax_Q} {m : nMem} {v : Int32} {j : Nat} (hj : j < 3) (hv : m.1 0 6 = v) (hq : Q none (ns_rep (sr (j + 1) m v))) : ∀ z i, z + i = j + 1 → nW L xs d ns_I_N_startRevision Q 12 [some (.ref 0), some (.int (nI j)), some (.int (nI i))] [] 0 0 (ns_rep (sr i m v)) := by
  intro z
  induction z with
  | zero =>
    intro i hi
    obtain rfl : i = j + 1 := by omega
    refine aw_iload_n (pc' := 13) nd_N_startRevision_12 rfl rfl ?_
    refine aw_iload_n (pc' := 14) nd_N_startRevision_13 rfl rfl ?_
    refine aw_icmp_gt (pc' := 17) (tg := 33) nd_N_startRevision_14 (by decide) rfl (fun _ => ?_) (fun hx => absurd (nI_lt (by omega) (by omega)) hx)
    refine aw_return nd_N_startRevision_33 rfl (Nat.le_of_ble_eq_true rfl) (Nat.le_of_ble_eq_true rfl) ?_
    exact hq
  | succ z ih =>
    intro i hi
    refine aw_iload_n (pc' := 13) nd_N_startRevision_12 rfl rfl ?_
    refine aw_iload_n (pc' := 14) nd_N_startRevision_13 rfl rfl ?_
    refine aw_icmp_gt (pc' := 17) (tg := 33) nd_N_startRevision_14 (by decide) rfl (fun hx => absurd hx (nI_nlt (by omega) (by omega))) (fun _ => ?_)
    refine aw_aload_n (pc' := 18) nd_N_startRevision_17 rfl rfl rfl ?_
    refine aw_get (pc' := 21) nd_N_startRevision_18 rfl nF_0_29 g_N_lastChanges ?_
    refine aw_iload_n (pc' := 22) nd_N_startRevision_21 rfl rfl ?_
    refine aw_aload_n (pc' := 23) nd_N_startRevision_22 rfl rfl rfl ?_
    refine aw_get (pc' := 26) nd_N_startRevision_23 rfl nF_0_52 g_N_now ?_
    refine aw_iast (pc' := 27) nd_N_startRevision_26 rfl rfl i rfl (by omega) pa_lastChanges ?_
    refine aw_iinc (pc' := 30) (ls' := [_, _, _]) nd_N_startRevision_27 rfl rfl (nI_1 i) rfl ?_
    refine aw_goto (pc' := 12) nd_N_startRevision_30 (by decide) ?_
    rw [show (sr i m v).1 0 6 = v from by rw [sr_o (by decide)]; exact hv]
    exact ih (i + 1) (by omega)

theorem c_N_startRevision {L : Nat} {xs : Nat → Int32} {d : Nat} {Q : ax_Q} {μ : nMem} {j : Nat} (hj : j < 3) (hq : Q none (ns_rep (srv μ j))) : nM L xs (d + 1) 14 [.ref 0, .int (nI j)] (ns_rep μ) Q := by
  refine nM.of ns_I_N_startRevision rfl (ls := [_, _, _]) (Nat.le_of_ble_eq_true rfl) rfl ?_
  refine aw_aload_n (pc' := 1) nd_N_startRevision_0 rfl rfl rfl ?_
  refine aw_dup (pc' := 2) nd_N_startRevision_1 rfl rfl ?_
  refine aw_get (pc' := 5) nd_N_startRevision_2 rfl nF_0_52 g_N_now ?_
  refine aw_iconst (pc' := 6) (x := 1) nd_N_startRevision_5 rfl (by decide) ?_
  refine aw_iadd (pc' := 7) nd_N_startRevision_6 rfl ?_
  refine aw_put (pc' := 10) nd_N_startRevision_7 rfl nF_0_52 trivial p_N_now ?_
  refine aw_iconst (pc' := 11) (x := 0) nd_N_startRevision_10 rfl (by decide) ?_
  refine aw_istore_n (pc' := 12) (ls' := [_, _, _]) nd_N_startRevision_11 rfl (Nat.le_of_ble_eq_true rfl) rfl ?_
  exact l_N_startRevision hj (by rw [ms_s, pk_us]) hq (j + 1) 0 (by omega)

theorem l_N_valuesInNotes {L : Nat} {xs : Nat → Int32} {d : Nat} {Q : ax_Q} {μ : nMem} (hq : Q (some (.int (nI (vcn μ 12)))) (ns_rep μ)) : ∀ z i, z + i = 12 → nW L xs d ns_I_N_valuesInNotes Q 4 [some (.ref 0), some (.int (nI (vcn μ i))), some (.int (nI i))] [] 0 0 (ns_rep μ) := by
  intro z
  induction z with
  | zero =>
    intro i hi
    obtain rfl : i = 12 := by omega
    refine aw_iload_n (pc' := 5) nd_N_valuesInNotes_4 rfl rfl ?_
    refine aw_bipush (pc' := 7) (x := 12) nd_N_valuesInNotes_5 rfl (by decide) ?_
    refine aw_icmp_ge (pc' := 10) (tg := 39) nd_N_valuesInNotes_7 (by decide) rfl (fun _ => ?_) (fun hx => absurd (by decide) hx)
    refine aw_iload_n (pc' := 40) nd_N_valuesInNotes_39 rfl rfl ?_
    refine aw_ireturn nd_N_valuesInNotes_40 rfl rfl (Nat.le_of_ble_eq_true rfl) (Nat.le_of_ble_eq_true rfl) ?_
    exact hq
  | succ z ih =>
    intro i hi
    have hi12 : i < 12 := by omega
    refine aw_iload_n (pc' := 5) nd_N_valuesInNotes_4 rfl rfl ?_
    refine aw_bipush (pc' := 7) (x := 12) nd_N_valuesInNotes_5 rfl (by decide) ?_
    refine aw_icmp_ge (pc' := 10) (tg := 39) nd_N_valuesInNotes_7 (by decide) rfl (fun hx => absurd hx (nI_ge (b := 12) hi12 (by decide))) (fun _ => ?_)
    refine aw_iload_n (pc' := 11) nd_N_valuesInNotes_10 rfl rfl ?_
    refine aw_aload_n (pc' := 12) nd_N_valuesInNotes_11 rfl rfl rfl ?_
    refine aw_get (pc' := 15) nd_N_valuesInNotes_12 rfl nF_0_24 g_N_cells ?_
    refine aw_iload_n (pc' := 16) nd_N_valuesInNotes_15 rfl rfl ?_
    refine aw_cells (pc' := 17) nd_N_valuesInNotes_16 rfl i rfl hi12 ?_
    refine aw_get (pc' := 20) nd_N_valuesInNotes_17 rfl nF_0_113 (g_C_note (by assumption)) ?_
    refine aw_get (pc' := 23) nd_N_valuesInNotes_20 rfl nF_0_128 (g_O_hasValue (by assumption)) ?_
    refine aw_if_eq (pc' := 26) (tg := 30) nd_N_valuesInNotes_23 (by decide) rfl (fun hb23 => ?_) (fun hb23 => ?_)
    · skip
      refine aw_iconst (pc' := 31) (x := 0) nd_N_valuesInNotes_30 rfl (by decide) ?_
      refine aw_iadd (pc' := 32) nd_N_valuesInNotes_31 rfl ?_
      refine aw_istore_n (pc' := 33) (ls' := [_, _, _]) nd_N_valuesInNotes_32 rfl (Nat.le_of_ble_eq_true rfl) rfl ?_
      refine aw_iinc (pc' := 36) (ls' := [_, _, _]) nd_N_valuesInNotes_33 rfl rfl (nI_1 i) rfl ?_
      refine aw_goto (pc' := 4) nd_N_valuesInNotes_36 (by decide) ?_
      have e := ih (i + 1) (by omega)
      simp only [vcn, hb23, if_true, if_false, Nat.add_zero] at e
      first
        | exact e
        | (rw [← nI_1] at e; exact e)
        | (rw [show nI (vcn μ i) + 0 = nI (vcn μ i) from Int32.add_zero _]; exact e)
    · skip
      refine aw_iconst (pc' := 27) (x := 1) nd_N_valuesInNotes_26 rfl (by decide) ?_
      refine aw_goto (pc' := 31) nd_N_valuesInNotes_27 (by decide) ?_
      refine aw_iadd (pc' := 32) nd_N_valuesInNotes_31 rfl ?_
      refine aw_istore_n (pc' := 33) (ls' := [_, _, _]) nd_N_valuesInNotes_32 rfl (Nat.le_of_ble_eq_true rfl) rfl ?_
      refine aw_iinc (pc' := 36) (ls' := [_, _, _]) nd_N_valuesInNotes_33 rfl rfl (nI_1 i) rfl ?_
      refine aw_goto (pc' := 4) nd_N_valuesInNotes_36 (by decide) ?_
      have e := ih (i + 1) (by omega)
      simp only [vcn, hb23, if_true, if_false, Nat.add_zero] at e
      first
        | exact e
        | (rw [← nI_1] at e; exact e)
        | (rw [show nI (vcn μ i) + 0 = nI (vcn μ i) from Int32.add_zero _]; exact e)

theorem c_N_valuesInNotes {L : Nat} {xs : Nat → Int32} {d : Nat} {Q : ax_Q} {μ : nMem} (hq : Q (some (.int (nI (vcn μ 12)))) (ns_rep μ)) : nM L xs (d + 1) 27 [.ref 0] (ns_rep μ) Q := by
  refine nM.of ns_I_N_valuesInNotes rfl (ls := [_, _, _]) (Nat.le_of_ble_eq_true rfl) rfl ?_
  refine aw_iconst (pc' := 1) (x := 0) nd_N_valuesInNotes_0 rfl (by decide) ?_
  refine aw_istore_n (pc' := 2) (ls' := [_, _, _]) nd_N_valuesInNotes_1 rfl (Nat.le_of_ble_eq_true rfl) rfl ?_
  refine aw_iconst (pc' := 3) (x := 0) nd_N_valuesInNotes_2 rfl (by decide) ?_
  refine aw_istore_n (pc' := 4) (ls' := [_, _, _]) nd_N_valuesInNotes_3 rfl (Nat.le_of_ble_eq_true rfl) rfl ?_
  exact l_N_valuesInNotes hq 12 0 (by omega)

theorem l_N_least {L : Nat} {xs : Nat → Int32} {d : Nat} {Q : ax_Q} {μ : nMem} {k n : Nat} (hk : k < 12) (hn : μ.1 (nN k) 1 = nI n) (hle : n ≤ 12) (hr : ∀ i, i < n → μ.1 (nR k) i = nI (rN μ k i) ∧ rN μ k i < 12) (hq : Q (some (.int (ldn μ k n))) (ns_rep μ)) : ∀ z i (o : Option Value), z + i = n → nW L xs (d + 1) ns_I_N_leastDurability Q 4 [some (.ref 0), some (.ref (nN k)), some (.int (ldn μ k i)), some (.int (nI i)), o] [] 0 0 (ns_rep μ) := by
  intro z
  induction z with
  | zero =>
    intro i o hi
    obtain rfl : i = n := by omega
    refine aw_iload_n (pc' := 5) nd_N_leastDurability_4 rfl rfl ?_
    refine aw_aload_n (pc' := 6) nd_N_leastDurability_5 rfl rfl rfl ?_
    refine aw_get (pc' := 9) nd_N_leastDurability_6 rfl nF_0_125 (g_O_readCount (by assumption)) ?_
    refine aw_icmp_ge (pc' := 12) (tg := 53) nd_N_leastDurability_9 (by decide) rfl (fun _ => ?_) (fun hx => absurd (by rw [hn]; exact nI_le (Nat.le_refl _) (by omega)) hx)
    refine aw_iload_n (pc' := 54) nd_N_leastDurability_53 rfl rfl ?_
    refine aw_ireturn nd_N_leastDurability_54 rfl rfl (Nat.le_of_ble_eq_true rfl) (Nat.le_of_ble_eq_true rfl) ?_
    exact hq
  | succ z ih =>
    intro i o hi
    have hin : i < n := by omega
    have hs := (hr i hin).2
    refine aw_iload_n (pc' := 5) nd_N_leastDurability_4 rfl rfl ?_
    refine aw_aload_n (pc' := 6) nd_N_leastDurability_5 rfl rfl rfl ?_
    refine aw_get (pc' := 9) nd_N_leastDurability_6 rfl nF_0_125 (g_O_readCount (by assumption)) ?_
    refine aw_icmp_ge (pc' := 12) (tg := 53) nd_N_leastDurability_9 (by decide) rfl (fun hx => absurd hx (by rw [hn]; exact nI_ge hin (by omega))) (fun _ => ?_)
    refine aw_aload_n (pc' := 13) nd_N_leastDurability_12 rfl rfl rfl ?_
    refine aw_get (pc' := 16) nd_N_leastDurability_13 rfl nF_0_24 g_N_cells ?_
    refine aw_aload_n (pc' := 17) nd_N_leastDurability_16 rfl rfl rfl ?_
    refine aw_get (pc' := 20) nd_N_leastDurability_17 rfl nF_0_131 (g_O_reads (by assumption)) ?_
    refine aw_iload_n (pc' := 21) nd_N_leastDurability_20 rfl rfl ?_
    refine aw_iald (pc' := 22) nd_N_leastDurability_21 rfl (ga_R (by assumption)) i rfl (by omega) ?_
    refine aw_cells (pc' := 23) nd_N_leastDurability_22 rfl (rN μ k i) (hr i hin).1 hs ?_
    refine aw_astore (pc' := 25) (ls' := [_, _, _, _, _]) nd_N_leastDurability_23 rfl rfl (Nat.le_of_ble_eq_true rfl) rfl ?_
    refine aw_iload_n (pc' := 26) nd_N_leastDurability_25 rfl rfl ?_
    refine aw_aload (pc' := 28) nd_N_leastDurability_26 rfl rfl rfl ?_
    refine aw_get (pc' := 31) nd_N_leastDurability_28 rfl nF_0_176 (g_C_atWork (by assumption)) ?_
    refine aw_if_eq (pc' := 34) (tg := 38) nd_N_leastDurability_31 (by decide) rfl (fun hb31 => ?_) (fun hb31 => ?_)
    · skip
      refine aw_aload (pc' := 40) nd_N_leastDurability_38 rfl rfl rfl ?_
      refine aw_callV (pc' := 43) (as := []) (st := [_]) nd_N_leastDurability_40 rfl nC_0_122 ⟨(Nat.le_of_ble_eq_true rfl), rfl, rfl⟩ (ns_ioC (by assumption)) (Nat.le_of_ble_eq_true rfl) (Nat.le_of_ble_eq_true rfl) (Nat.le_of_ble_eq_true rfl) ?_
      refine c_C_given hs ?_
      show nW _ _ _ _ _ 43 _ [_, _] _ _ _
      refine aw_min (a := 0) (pc' := 46) nd_N_leastDurability_43 rfl nC_0_9 (Nat.le_of_ble_eq_true rfl) ?_
      refine aw_istore_n (pc' := 47) (ls' := [_, _, _, _, _]) nd_N_leastDurability_46 rfl (Nat.le_of_ble_eq_true rfl) rfl ?_
      refine aw_iinc (pc' := 50) (ls' := [_, _, _, _, _]) nd_N_leastDurability_47 rfl rfl (nI_1 i) rfl ?_
      refine aw_goto (pc' := 4) nd_N_leastDurability_50 (by decide) ?_
      have e := ih (i + 1) (some (.ref (nC (rN μ k i)))) (by omega)
      simp only [ldn, gd, hb31, if_true, if_false] at e
      exact e
    · skip
      refine aw_iconst (pc' := 35) (x := 0) nd_N_leastDurability_34 rfl (by decide) ?_
      refine aw_goto (pc' := 43) nd_N_leastDurability_35 (by decide) ?_
      refine aw_min (a := 0) (pc' := 46) nd_N_leastDurability_43 rfl nC_0_9 (Nat.le_of_ble_eq_true rfl) ?_
      refine aw_istore_n (pc' := 47) (ls' := [_, _, _, _, _]) nd_N_leastDurability_46 rfl (Nat.le_of_ble_eq_true rfl) rfl ?_
      refine aw_iinc (pc' := 50) (ls' := [_, _, _, _, _]) nd_N_leastDurability_47 rfl rfl (nI_1 i) rfl ?_
      refine aw_goto (pc' := 4) nd_N_leastDurability_50 (by decide) ?_
      have e := ih (i + 1) (some (.ref (nC (rN μ k i)))) (by omega)
      simp only [ldn, gd, hb31, if_true, if_false] at e
      exact e

theorem c_N_least {L : Nat} {xs : Nat → Int32} {d : Nat} {Q : ax_Q} {μ : nMem} {k n : Nat} (hk : k < 12) (hn : μ.1 (nN k) 1 = nI n) (hle : n ≤ 12) (hr : ∀ i, i < n → μ.1 (nR k) i = nI (rN μ k i) ∧ rN μ k i < 12) (hq : Q (some (.int (ldn μ k n))) (ns_rep μ)) : nM L xs (d + 2) 21 [.ref 0, .ref (nN k)] (ns_rep μ) Q := by
  refine nM.of ns_I_N_leastDurability rfl (ls := [_, _, _, _, _]) (Nat.le_of_ble_eq_true rfl) rfl ?_
  refine aw_iconst (pc' := 1) (x := 2) nd_N_leastDurability_0 rfl (by decide) ?_
  refine aw_istore_n (pc' := 2) (ls' := [_, _, _, _, _]) nd_N_leastDurability_1 rfl (Nat.le_of_ble_eq_true rfl) rfl ?_
  refine aw_iconst (pc' := 3) (x := 0) nd_N_leastDurability_2 rfl (by decide) ?_
  refine aw_istore_n (pc' := 4) (ls' := [_, _, _, _, _]) nd_N_leastDurability_3 rfl (Nat.le_of_ble_eq_true rfl) rfl ?_
  exact l_N_least hk hn hle hr hq n 0 none (by omega)
end
section
/-! dropping values; texts; keepValue -/
/-- among the first i cells the one with a value that was used longest ago -/
def od (μ : nMem) : Nat → Option Nat
  | 0 => none
  | i + 1 => if μ.1 (nN i) 3 = 0 then od μ i else match od μ i with
    | none => some i
    | some o => if μ.1 (nC o) 10 ≤ μ.1 (nC i) 10 then some o else some i
theorem od_lt {μ : nMem} : ∀ {i o : Nat}, od μ i = some o → o < i := by
  intro i
  induction i with
  | zero => intro o h; cases h
  | succ i ih =>
    intro o h
    unfold od at h
    split at h
    · exact Nat.lt_succ_of_lt (ih h)
    · split at h
      · cases h; exact Nat.lt_succ_self _
      · rename_i o' he
        split at h
        · cases h; exact Nat.lt_succ_of_lt (ih he)
        · cases h; exact Nat.lt_succ_self _
def dl (μ : nMem) : nMem := match od μ 12 with
  | none => μ
  | some o => ms μ (nN o) 3 0
def dk : Nat → nMem → nMem
  | 0, μ => μ
  | z + 1, μ => dk z (dl μ)
theorem dl_0 {μ : nMem} : (dl μ).1 0 = μ.1 0 := by
  unfold dl
  split
  · rfl
  · exact ms_o (by unfold nN; omega)
def orf (o : Option Nat) : Value := match o with
  | none => .null
  | some o => .ref (nC o)

theorem l_N_drop {L : Nat} {xs : Nat → Int32} {d : Nat} {Q : ax_Q} {μ : nMem} (hq : Q none (ns_rep (dl μ))) : ∀ z i (o : Option Value), z + i = 12 → nW L xs d ns_I_N_dropLongestUnused Q 4 [some (.ref 0), some (orf (od μ i)), some (.int (nI i)), o] [] 0 0 (ns_rep μ) := by
  intro z
  induction z with
  | zero =>
    intro i o hi
    obtain rfl : i = 12 := by omega
    cases hod : od μ 12 with
    | none =>
      refine aw_iload_n (pc' := 5) nd_N_dropLongestUnused_4 rfl rfl ?_
      refine aw_bipush (pc' := 7) (x := 12) nd_N_dropLongestUnused_5 rfl (by decide) ?_
      refine aw_icmp_ge (pc' := 10) (tg := 50) nd_N_dropLongestUnused_7 (by decide) rfl (fun _ => ?_) (fun hx => absurd (by decide) hx)
      refine aw_aload_n (pc' := 51) nd_N_dropLongestUnused_50 rfl rfl rfl ?_
      refine aw_ifnullN (tg := 62) nd_N_dropLongestUnused_51 (by decide) ?_
      refine aw_return nd_N_dropLongestUnused_62 rfl (Nat.le_of_ble_eq_true rfl) (Nat.le_of_ble_eq_true rfl) ?_
      simpa [dl, hod] using hq
    | some w =>
      have hw := od_lt hod
      refine aw_iload_n (pc' := 5) nd_N_dropLongestUnused_4 rfl rfl ?_
      refine aw_bipush (pc' := 7) (x := 12) nd_N_dropLongestUnused_5 rfl (by decide) ?_
      refine aw_icmp_ge (pc' := 10) (tg := 50) nd_N_dropLongestUnused_7 (by decide) rfl (fun _ => ?_) (fun hx => absurd (by decide) hx)
      refine aw_aload_n (pc' := 51) nd_N_dropLongestUnused_50 rfl rfl rfl ?_
      refine aw_ifnull (pc' := 54) (tg := 62) nd_N_dropLongestUnused_51 (by decide) rfl ?_
      refine aw_aload_n (pc' := 55) nd_N_dropLongestUnused_54 rfl rfl rfl ?_
      refine aw_get (pc' := 58) nd_N_dropLongestUnused_55 rfl nF_0_113 (g_C_note (by assumption)) ?_
      refine aw_iconst (pc' := 59) (x := 0) nd_N_dropLongestUnused_58 rfl (by decide) ?_
      refine aw_put (pc' := 62) nd_N_dropLongestUnused_59 rfl nF_0_128 (by first | exact Or.inl rfl | exact Or.inr rfl | assumption) (p_O_hasValue (by assumption)) ?_
      refine aw_return nd_N_dropLongestUnused_62 rfl (Nat.le_of_ble_eq_true rfl) (Nat.le_of_ble_eq_true rfl) ?_
      simpa [dl, hod] using hq
  | succ z ih =>
    intro i o hi
    have hi12 : i < 12 := by omega
    cases hod : od μ i with
    | none =>
      refine aw_iload_n (pc' := 5) nd_N_dropLongestUnused_4 rfl rfl ?_
      refine aw_bipush (pc' := 7) (x := 12) nd_N_dropLongestUnused_5 rfl (by decide) ?_
      refine aw_icmp_ge (pc' := 10) (tg := 50) nd_N_dropLongestUnused_7 (by decide) rfl (fun hx => absurd hx (nI_ge (b := 12) hi12 (by decide))) (fun _ => ?_)
      refine aw_aload_n (pc' := 11) nd_N_dropLongestUnused_10 rfl rfl rfl ?_
      refine aw_get (pc' := 14) nd_N_dropLongestUnused_11 rfl nF_0_24 g_N_cells ?_
      refine aw_iload_n (pc' := 15) nd_N_dropLongestUnused_14 rfl rfl ?_
      refine aw_cells (pc' := 16) nd_N_dropLongestUnused_15 rfl i rfl hi12 ?_
      refine aw_astore_n (pc' := 17) (ls' := [_, _, _, _]) nd_N_dropLongestUnused_16 rfl rfl (Nat.le_of_ble_eq_true rfl) rfl ?_
      refine aw_aload_n (pc' := 18) nd_N_dropLongestUnused_17 rfl rfl rfl ?_
      refine aw_get (pc' := 21) nd_N_dropLongestUnused_18 rfl nF_0_113 (g_C_note (by assumption)) ?_
      refine aw_get (pc' := 24) nd_N_dropLongestUnused_21 rfl nF_0_128 (g_O_hasValue (by assumption)) ?_
      refine aw_if_eq (pc' := 27) (tg := 44) nd_N_dropLongestUnused_24 (by decide) rfl (fun hb24 => ?_) (fun hb24 => ?_)
      · skip
        refine aw_iinc (pc' := 47) (ls' := [_, _, _, _]) nd_N_dropLongestUnused_44 rfl rfl (nI_1 i) rfl ?_
        refine aw_goto (pc' := 4) nd_N_dropLongestUnused_47 (by decide) ?_
        have e := ih (i + 1) (some (.ref (nC i))) (by omega)
        simp only [od, hod, orf, hb24, if_true, if_false] at e
        exact e
      · skip
        refine aw_aload_n (pc' := 28) nd_N_dropLongestUnused_27 rfl rfl rfl ?_
        refine aw_ifnullN (tg := 42) nd_N_dropLongestUnused_28 (by decide) ?_
        refine aw_aload_n (pc' := 43) nd_N_dropLongestUnused_42 rfl rfl rfl ?_
        refine aw_astore_n (pc' := 44) (ls' := [_, _, _, _]) nd_N_dropLongestUnused_43 rfl rfl (Nat.le_of_ble_eq_true rfl) rfl ?_
        refine aw_iinc (pc' := 47) (ls' := [_, _, _, _]) nd_N_dropLongestUnused_44 rfl rfl (nI_1 i) rfl ?_
        refine aw_goto (pc' := 4) nd_N_dropLongestUnused_47 (by decide) ?_
        have e := ih (i + 1) (some (.ref (nC i))) (by omega)
        simp only [od, hod, orf, hb24, if_true, if_false] at e
        exact e
    | some w =>
      have hw := od_lt hod
      have hw12 : w < 12 := by omega
      refine aw_iload_n (pc' := 5) nd_N_dropLongestUnused_4 rfl rfl ?_
      refine aw_bipush (pc' := 7) (x := 12) nd_N_dropLongestUnused_5 rfl (by decide) ?_
      refine aw_icmp_ge (pc' := 10) (tg := 50) nd_N_dropLongestUnused_7 (by decide) rfl (fun hx => absurd hx (nI_ge (b := 12) hi12 (by decide))) (fun _ => ?_)
      refine aw_aload_n (pc' := 11) nd_N_dropLongestUnused_10 rfl rfl rfl ?_
      refine aw_get (pc' := 14) nd_N_dropLongestUnused_11 rfl nF_0_24 g_N_cells ?_
      refine aw_iload_n (pc' := 15) nd_N_dropLongestUnused_14 rfl rfl ?_
      refine aw_cells (pc' := 16) nd_N_dropLongestUnused_15 rfl i rfl hi12 ?_
      refine aw_astore_n (pc' := 17) (ls' := [_, _, _, _]) nd_N_dropLongestUnused_16 rfl rfl (Nat.le_of_ble_eq_true rfl) rfl ?_
      refine aw_aload_n (pc' := 18) nd_N_dropLongestUnused_17 rfl rfl rfl ?_
      refine aw_get (pc' := 21) nd_N_dropLongestUnused_18 rfl nF_0_113 (g_C_note (by assumption)) ?_
      refine aw_get (pc' := 24) nd_N_dropLongestUnused_21 rfl nF_0_128 (g_O_hasValue (by assumption)) ?_
      refine aw_if_eq (pc' := 27) (tg := 44) nd_N_dropLongestUnused_24 (by decide) rfl (fun hb24 => ?_) (fun hb24 => ?_)
      · skip
        refine aw_iinc (pc' := 47) (ls' := [_, _, _, _]) nd_N_dropLongestUnused_44 rfl rfl (nI_1 i) rfl ?_
        refine aw_goto (pc' := 4) nd_N_dropLongestUnused_47 (by decide) ?_
        have e := ih (i + 1) (some (.ref (nC i))) (by omega)
        first
          | (simp only [od, hod, orf, hb24, if_true, if_false] at e; exact e)
          | (simp only [od, hod, orf, hb24, hb39, if_true, if_false] at e; exact e)
      · skip
        refine aw_aload_n (pc' := 28) nd_N_dropLongestUnused_27 rfl rfl rfl ?_
        refine aw_ifnull (pc' := 31) (tg := 42) nd_N_dropLongestUnused_28 (by decide) rfl ?_
        refine aw_aload_n (pc' := 32) nd_N_dropLongestUnused_31 rfl rfl rfl ?_
        refine aw_get (pc' := 35) nd_N_dropLongestUnused_32 rfl nF_0_243 (g_C_lastUse (by assumption)) ?_
        refine aw_aload_n (pc' := 36) nd_N_dropLongestUnused_35 rfl rfl rfl ?_
        refine aw_get (pc' := 39) nd_N_dropLongestUnused_36 rfl nF_0_243 (g_C_lastUse (by assumption)) ?_
        refine aw_icmp_ge (pc' := 42) (tg := 44) nd_N_dropLongestUnused_39 (by decide) rfl (fun hb39 => ?_) (fun hb39 => ?_)
        · skip
          refine aw_iinc (pc' := 47) (ls' := [_, _, _, _]) nd_N_dropLongestUnused_44 rfl rfl (nI_1 i) rfl ?_
          refine aw_goto (pc' := 4) nd_N_dropLongestUnused_47 (by decide) ?_
          have e := ih (i + 1) (some (.ref (nC i))) (by omega)
          first
            | (simp only [od, hod, orf, hb24, if_true, if_false] at e; exact e)
            | (simp only [od, hod, orf, hb24, hb39, if_true, if_false] at e; exact e)
        · skip
          refine aw_aload_n (pc' := 43) nd_N_dropLongestUnused_42 rfl rfl rfl ?_
          refine aw_astore_n (pc' := 44) (ls' := [_, _, _, _]) nd_N_dropLongestUnused_43 rfl rfl (Nat.le_of_ble_eq_true rfl) rfl ?_
          refine aw_iinc (pc' := 47) (ls' := [_, _, _, _]) nd_N_dropLongestUnused_44 rfl rfl (nI_1 i) rfl ?_
          refine aw_goto (pc' := 4) nd_N_dropLongestUnused_47 (by decide) ?_
          have e := ih (i + 1) (some (.ref (nC i))) (by omega)
          first
            | (simp only [od, hod, orf, hb24, if_true, if_false] at e; exact e)
            | (simp only [od, hod, orf, hb24, hb39, if_true, if_false] at e; exact e)

theorem c_N_drop {L : Nat} {xs : Nat → Int32} {d : Nat} {Q : ax_Q} {μ : nMem} (hq : Q none (ns_rep (dl μ))) : nM L xs (d + 1) 29 [.ref 0] (ns_rep μ) Q := by
  refine nM.of ns_I_N_dropLongestUnused rfl (ls := [_, _, _, _]) (Nat.le_of_ble_eq_true rfl) rfl ?_
  refine aw_null (pc' := 1) nd_N_dropLongestUnused_0 rfl ?_
  refine aw_astore_n (pc' := 2) (ls' := [_, _, _, _]) nd_N_dropLongestUnused_1 rfl rfl (Nat.le_of_ble_eq_true rfl) rfl ?_
  refine aw_iconst (pc' := 3) (x := 0) nd_N_dropLongestUnused_2 rfl (by decide) ?_
  refine aw_istore_n (pc' := 4) (ls' := [_, _, _, _]) nd_N_dropLongestUnused_3 rfl (Nat.le_of_ble_eq_true rfl) rfl ?_
  exact l_N_drop hq 12 0 none (by omega)

theorem l_N_dropK {L : Nat} {xs : Nat → Int32} {d : Nat} {Q : ax_Q} {kp : Nat} (hkp : kp ≤ 12) : ∀ z (μ : nMem), z + kp ≤ 12 → μ.1 0 5 = nI kp → Q none (ns_rep (dk z μ)) → nW L xs (d + 1) ns_I_N_dropValuesBeyondKept Q 5 [some (.ref 0), some (.int (nI (z + kp)))] [] 0 0 (ns_rep μ) := by
  intro z
  induction z with
  | zero =>
    intro μ hz hk0 hq
    rw [Nat.zero_add]
    refine aw_iload_n (pc' := 6) nd_N_dropValuesBeyondKept_5 rfl rfl ?_
    refine aw_aload_n (pc' := 7) nd_N_dropValuesBeyondKept_6 rfl rfl rfl ?_
    refine aw_get (pc' := 10) nd_N_dropValuesBeyondKept_7 rfl nF_0_18 g_N_kept ?_
    refine aw_icmp_le (pc' := 13) (tg := 23) nd_N_dropValuesBeyondKept_10 (by decide) rfl (fun _ => ?_) (fun hx => absurd (by rw [hk0]; exact nI_le (Nat.le_refl _) (by omega)) hx)
    refine aw_return nd_N_dropValuesBeyondKept_23 rfl (Nat.le_of_ble_eq_true rfl) (Nat.le_of_ble_eq_true rfl) ?_
    exact hq
  | succ z ih =>
    intro μ hz hk0 hq
    refine aw_iload_n (pc' := 6) nd_N_dropValuesBeyondKept_5 rfl rfl ?_
    refine aw_aload_n (pc' := 7) nd_N_dropValuesBeyondKept_6 rfl rfl rfl ?_
    refine aw_get (pc' := 10) nd_N_dropValuesBeyondKept_7 rfl nF_0_18 g_N_kept ?_
    refine aw_icmp_le (pc' := 13) (tg := 23) nd_N_dropValuesBeyondKept_10 (by decide) rfl (fun hx => absurd hx (by rw [hk0]; exact nI_ge (by omega) (by omega))) (fun _ => ?_)
    refine aw_aload_n (pc' := 14) nd_N_dropValuesBeyondKept_13 rfl rfl rfl ?_
    refine aw_callV (pc' := 17) (as := []) (st := []) nd_N_dropValuesBeyondKept_14 rfl nC_0_246 ⟨(Nat.le_of_ble_eq_true rfl), rfl, rfl⟩ ns_ioN (Nat.le_of_ble_eq_true rfl) (Nat.le_of_ble_eq_true rfl) (Nat.le_of_ble_eq_true rfl) ?_
    refine c_N_drop ?_
    show nW _ _ _ _ _ 17 _ [] _ _ _
    refine aw_iinc (pc' := 20) (ls' := [_, _]) nd_N_dropValuesBeyondKept_17 rfl rfl (show nI (z + 1 + kp) + Int32.ofInt (-1) = nI (z + kp) by rw [show z + 1 + kp = (z + kp) + 1 by omega]; exact pk_m1 _) rfl ?_
    refine aw_goto (pc' := 5) nd_N_dropValuesBeyondKept_20 (by decide) ?_
    exact ih (dl μ) (by omega) (by rw [dl_0]; exact hk0) hq

theorem l_N_dropK0 {L : Nat} {xs : Nat → Int32} {d : Nat} {Q : ax_Q} {kp v : Nat} {μ : nMem} (hkp : kp ≤ 12) (hv : v ≤ kp) (hk0 : μ.1 0 5 = nI kp) (hq : Q none (ns_rep μ)) : nW L xs (d + 1) ns_I_N_dropValuesBeyondKept Q 5 [some (.ref 0), some (.int (nI v))] [] 0 0 (ns_rep μ) := by
  skip
  refine aw_iload_n (pc' := 6) nd_N_dropValuesBeyondKept_5 rfl rfl ?_
  refine aw_aload_n (pc' := 7) nd_N_dropValuesBeyondKept_6 rfl rfl rfl ?_
  refine aw_get (pc' := 10) nd_N_dropValuesBeyondKept_7 rfl nF_0_18 g_N_kept ?_
  refine aw_icmp_le (pc' := 13) (tg := 23) nd_N_dropValuesBeyondKept_10 (by decide) rfl (fun _ => ?_) (fun hx => absurd (by rw [hk0]; exact nI_le hv (by omega)) hx)
  refine aw_return nd_N_dropValuesBeyondKept_23 rfl (Nat.le_of_ble_eq_true rfl) (Nat.le_of_ble_eq_true rfl) ?_
  exact hq

theorem c_N_dropK {L : Nat} {xs : Nat → Int32} {d : Nat} {Q : ax_Q} {μ : nMem} {kp : Nat} (hkp : kp ≤ 12) (hk0 : μ.1 0 5 = nI kp) (hq : Q none (ns_rep (dk (vcn μ 12 - kp) μ))) : nM L xs (d + 2) 28 [.ref 0] (ns_rep μ) Q := by
  refine nM.of ns_I_N_dropValuesBeyondKept rfl (ls := [_, _]) (Nat.le_of_ble_eq_true rfl) rfl ?_
  refine aw_aload_n (pc' := 1) nd_N_dropValuesBeyondKept_0 rfl rfl rfl ?_
  refine aw_callV (pc' := 4) (as := []) (st := []) nd_N_dropValuesBeyondKept_1 rfl nC_0_134 ⟨(Nat.le_of_ble_eq_true rfl), rfl, rfl⟩ ns_ioN (Nat.le_of_ble_eq_true rfl) (Nat.le_of_ble_eq_true rfl) (Nat.le_of_ble_eq_true rfl) ?_
  refine c_N_valuesInNotes ?_
  show nW _ _ _ _ _ 4 _ [_] _ _ _
  refine aw_istore_n (pc' := 5) (ls' := [_, _]) nd_N_dropValuesBeyondKept_4 rfl (Nat.le_of_ble_eq_true rfl) rfl ?_
  have hv := vcn_le μ 12
  by_cases hc : vcn μ 12 ≤ kp
  · exact l_N_dropK0 hkp hc hk0 (by rw [Nat.sub_eq_zero_of_le hc] at hq; exact hq)
  · have e := l_N_dropK (L := L) (xs := xs) (d := d) (Q := Q) hkp (vcn μ 12 - kp) μ (by omega) hk0 hq
    rw [show vcn μ 12 - kp + kp = vcn μ 12 by omega] at e
    exact e

theorem l_F_hasText {L : Nat} {xs : Nat → Int32} {d : Nat} {Q : ax_Q} {μ : nMem} {k n : Nat} (hk : k < 12) (hn : μ.1 (nF k) 2 = nI n) (hle : n ≤ 30) (hq1 : (∀ i, i < n → μ.1 (nT k) i = μ.1 (nT 12) i) → Q (some (.int 1)) (ns_rep μ)) (hq0 : (¬ ∀ i, i < n → μ.1 (nT k) i = μ.1 (nT 12) i) → Q (some (.int 0)) (ns_rep μ)) : ∀ z i, z + i = n → (∀ a, a < i → μ.1 (nT k) a = μ.1 (nT 12) a) → nW L xs d ns_I_F_hasTextOf Q 15 [some (.ref (nF k)), some (.ref (nF 12)), some (.int (nI i))] [] 0 0 (ns_rep μ) := by
  have hk13 : k < 13 := by omega
  have hp13 : 12 < 13 := by omega
  intro z
  induction z with
  | zero =>
    intro i hi hall
    obtain rfl : i = n := by omega
    refine aw_iload_n (pc' := 16) nd_F_hasTextOf_15 rfl rfl ?_
    refine aw_aload_n (pc' := 17) nd_F_hasTextOf_16 rfl rfl rfl ?_
    refine aw_get (pc' := 20) nd_F_hasTextOf_17 rfl nF_2_34 (g_F_length (by assumption)) ?_
    refine aw_icmp_ge (pc' := 23) (tg := 46) nd_F_hasTextOf_20 (by decide) rfl (fun _ => ?_) (fun hx => absurd (by rw [hn]; exact nI_le (Nat.le_refl _) (by omega)) hx)
    refine aw_iconst (pc' := 47) (x := 1) nd_F_hasTextOf_46 rfl (by decide) ?_
    refine aw_ireturn nd_F_hasTextOf_47 rfl (by first | rfl | assumption) (Nat.le_of_ble_eq_true rfl) (Nat.le_of_ble_eq_true rfl) ?_
    exact hq1 hall
  | succ z ih =>
    intro i hi hall
    refine aw_iload_n (pc' := 16) nd_F_hasTextOf_15 rfl rfl ?_
    refine aw_aload_n (pc' := 17) nd_F_hasTextOf_16 rfl rfl rfl ?_
    refine aw_get (pc' := 20) nd_F_hasTextOf_17 rfl nF_2_34 (g_F_length (by assumption)) ?_
    refine aw_icmp_ge (pc' := 23) (tg := 46) nd_F_hasTextOf_20 (by decide) rfl (fun hx => absurd hx (by rw [hn]; exact nI_ge (by omega) (by omega))) (fun _ => ?_)
    refine aw_aload_n (pc' := 24) nd_F_hasTextOf_23 rfl rfl rfl ?_
    refine aw_get (pc' := 27) nd_F_hasTextOf_24 rfl nF_2_9 (g_F_text (by assumption)) ?_
    refine aw_iload_n (pc' := 28) nd_F_hasTextOf_27 rfl rfl ?_
    refine aw_cald (pc' := 29) nd_F_hasTextOf_28 rfl (ga_T hk13) i rfl (by omega) ?_
    refine aw_aload_n (pc' := 30) nd_F_hasTextOf_29 rfl rfl rfl ?_
    refine aw_get (pc' := 33) nd_F_hasTextOf_30 rfl nF_2_9 (g_F_text (by assumption)) ?_
    refine aw_iload_n (pc' := 34) nd_F_hasTextOf_33 rfl rfl ?_
    refine aw_cald (pc' := 35) nd_F_hasTextOf_34 rfl (ga_T hp13) i rfl (by omega) ?_
    refine aw_icmp_eq (pc' := 38) (tg := 40) nd_F_hasTextOf_35 (by decide) rfl (fun hb35 => ?_) (fun hb35 => ?_)
    · skip
      refine aw_iinc (pc' := 43) (ls' := [_, _, _]) nd_F_hasTextOf_40 rfl rfl (nI_1 i) rfl ?_
      refine aw_goto (pc' := 15) nd_F_hasTextOf_43 (by decide) ?_
      refine ih (i + 1) (by omega) ?_
      intro a ha
      by_cases e : a = i
      · rw [e]; exact hb35
      · exact hall a (by omega)
    · skip
      refine aw_iconst (pc' := 39) (x := 0) nd_F_hasTextOf_38 rfl (by decide) ?_
      refine aw_ireturn nd_F_hasTextOf_39 rfl (by first | rfl | assumption) (Nat.le_of_ble_eq_true rfl) (Nat.le_of_ble_eq_true rfl) ?_
      exact hq0 (fun h => hb35 (h i (by omega)))

theorem c_F_hasText {L : Nat} {xs : Nat → Int32} {d : Nat} {Q : ax_Q} {μ : nMem} {k n m : Nat} (hk : k < 12) (hn : μ.1 (nF k) 2 = nI n) (hle : n ≤ 30) (hm : μ.1 (nF 12) 2 = nI m) (hme : m ≤ 30) (hq1 : n = m → (∀ i, i < n → μ.1 (nT k) i = μ.1 (nT 12) i) → Q (some (.int 1)) (ns_rep μ)) (hq0 : (n = m → ¬ ∀ i, i < n → μ.1 (nT k) i = μ.1 (nT 12) i) → Q (some (.int 0)) (ns_rep μ)) : nM L xs (d + 1) 86 [.ref (nF k), .ref (nF 12)] (ns_rep μ) Q := by
  have hk13 : k < 13 := by omega
  have hp13 : 12 < 13 := by omega
  have e8 : nI n = nI m ↔ n = m := nI_eq (by omega) (by omega)
  refine nM.of ns_I_F_hasTextOf rfl (ls := [_, _, _]) (Nat.le_of_ble_eq_true rfl) rfl ?_
  refine aw_aload_n (pc' := 1) nd_F_hasTextOf_0 rfl rfl rfl ?_
  refine aw_get (pc' := 4) nd_F_hasTextOf_1 rfl nF_2_34 (g_F_length (by assumption)) ?_
  refine aw_aload_n (pc' := 5) nd_F_hasTextOf_4 rfl rfl rfl ?_
  refine aw_get (pc' := 8) nd_F_hasTextOf_5 rfl nF_2_34 (g_F_length (by assumption)) ?_
  rw [hn, hm]
  refine aw_icmp_eq (pc' := 11) (tg := 13) nd_F_hasTextOf_8 (by decide) rfl (fun hb8 => ?_) (fun hb8 => ?_)
  · skip
    refine aw_iconst (pc' := 14) (x := 0) nd_F_hasTextOf_13 rfl (by decide) ?_
    refine aw_istore_n (pc' := 15) (ls' := [_, _, _]) nd_F_hasTextOf_14 rfl (Nat.le_of_ble_eq_true rfl) rfl ?_
    exact l_F_hasText hk hn hle (hq1 (e8.mp hb8)) (fun h => hq0 (fun _ => h)) n 0 (by omega) (fun a ha => absurd ha (by omega))
  · skip
    refine aw_iconst (pc' := 12) (x := 0) nd_F_hasTextOf_11 rfl (by decide) ?_
    refine aw_ireturn nd_F_hasTextOf_12 rfl (by first | rfl | assumption) (Nat.le_of_ble_eq_true rfl) (Nat.le_of_ble_eq_true rfl) ?_
    exact hq0 (fun h => absurd (e8.mpr h) hb8)

theorem c_F_copyFrom {L : Nat} {xs : Nat → Int32} {d : Nat} {Q : ax_Q} {μ : nMem} {k : Nat} (hk : k < 12) (hf : ∀ i, i < 30 → fits .char (.int (μ.1 (nT 12) i)) = true) (hq : Q none (ns_rep (ms (ms (mw (mw μ (nT k) (va_cpy (μ.1 (nT 12)) (μ.1 (nT k)) 0 0 30)) (nS k) (va_cpy (μ.1 (nS 12)) (μ.1 (nS k)) 0 0 30)) (nF k) 2 (μ.1 (nF 12) 2)) (nF k) 3 (μ.1 (nF 12) 3)))) : nM L xs (d + 1) 87 [.ref (nF k), .ref (nF 12)] (ns_rep μ) Q := by
  have hk13 : k < 13 := by omega
  have hp13 : 12 < 13 := by omega
  have hne : ¬ nF 12 = nF k := by unfold nF; simp; omega
  refine nM.of ns_I_F_copyFrom rfl (ls := [_, _]) (Nat.le_of_ble_eq_true rfl) rfl ?_
  refine aw_aload_n (pc' := 1) nd_F_copyFrom_0 rfl rfl rfl ?_
  refine aw_get (pc' := 4) nd_F_copyFrom_1 rfl nF_2_9 (g_F_text (by assumption)) ?_
  refine aw_iconst (pc' := 5) (x := 0) nd_F_copyFrom_4 rfl (by decide) ?_
  refine aw_aload_n (pc' := 6) nd_F_copyFrom_5 rfl rfl rfl ?_
  refine aw_get (pc' := 9) nd_F_copyFrom_6 rfl nF_2_9 (g_F_text (by assumption)) ?_
  refine aw_iconst (pc' := 10) (x := 0) nd_F_copyFrom_9 rfl (by decide) ?_
  refine aw_bipush (pc' := 12) (x := 30) nd_F_copyFrom_10 rfl (by decide) ?_
  refine aw_acopy (pc' := 15) nd_F_copyFrom_12 rfl nC_2_44 (Nat.le_of_ble_eq_true rfl) (nT_lt hk13) (nT_lt hp13) (ns_eT hk13) (ns_eT hp13) rfl hf ?_
  refine aw_aload_n (pc' := 16) nd_F_copyFrom_15 rfl rfl rfl ?_
  refine aw_get (pc' := 19) nd_F_copyFrom_16 rfl nF_2_15 (g_F_steps (by assumption)) ?_
  refine aw_iconst (pc' := 20) (x := 0) nd_F_copyFrom_19 rfl (by decide) ?_
  refine aw_aload_n (pc' := 21) nd_F_copyFrom_20 rfl rfl rfl ?_
  refine aw_get (pc' := 24) nd_F_copyFrom_21 rfl nF_2_15 (g_F_steps (by assumption)) ?_
  refine aw_iconst (pc' := 25) (x := 0) nd_F_copyFrom_24 rfl (by decide) ?_
  refine aw_bipush (pc' := 27) (x := 30) nd_F_copyFrom_25 rfl (by decide) ?_
  refine aw_acopy (pc' := 30) nd_F_copyFrom_27 rfl nC_2_44 (Nat.le_of_ble_eq_true rfl) (nS_lt hk13) (nS_lt hp13) (ns_eS hk13) (ns_eS hp13) rfl (fun _ _ => rfl) ?_
  refine aw_aload_n (pc' := 31) nd_F_copyFrom_30 rfl rfl rfl ?_
  refine aw_aload_n (pc' := 32) nd_F_copyFrom_31 rfl rfl rfl ?_
  refine aw_get (pc' := 35) nd_F_copyFrom_32 rfl nF_2_34 (g_F_length (by assumption)) ?_
  refine aw_put (pc' := 38) nd_F_copyFrom_35 rfl nF_2_34 trivial (p_F_length (by assumption)) ?_
  refine aw_aload_n (pc' := 39) nd_F_copyFrom_38 rfl rfl rfl ?_
  refine aw_aload_n (pc' := 40) nd_F_copyFrom_39 rfl rfl rfl ?_
  refine aw_get (pc' := 43) nd_F_copyFrom_40 rfl nF_2_38 (g_F_stepCount (by assumption)) ?_
  refine aw_put (pc' := 46) nd_F_copyFrom_43 rfl nF_2_38 trivial (p_F_stepCount (by assumption)) ?_
  refine aw_return nd_F_copyFrom_46 rfl (Nat.le_of_ble_eq_true rfl) (Nat.le_of_ble_eq_true rfl) ?_
  have e1 : (mw μ (nT k) (va_cpy (μ.1 (nT 12)) (μ.1 (nT k)) 0 0 30)).1 (nS 12) = μ.1 (nS 12) := mw_o (ne_ST 12 k)
  have e2 : (mw μ (nT k) (va_cpy (μ.1 (nT 12)) (μ.1 (nT k)) 0 0 30)).1 (nS k) = μ.1 (nS k) := mw_o (ne_ST k k)
  rw [e1, e2]
  have e3 : (mw (mw μ (nT k) (va_cpy (μ.1 (nT 12)) (μ.1 (nT k)) 0 0 30)) (nS k) (va_cpy (μ.1 (nS 12)) (μ.1 (nS k)) 0 0 30)).1 (nF 12) = μ.1 (nF 12) := by rw [mw_o (ne_FS 12 k), mw_o (ne_FT 12 k)]
  rw [ms_o hne, e3]
  exact hq

def kvs (μ : nMem) (k : Nat) (v : Int64) (r : Int32) : nMem := if μ.1 (nN k) 3 = 0 ∨ ¬ μ.2 (nN k) 4 = v then (if μ.1 (nN k) 2 = 0 ∨ ¬ μ.1 (nN k) 5 = r then ms μ (nN k) 6 r else μ) else μ
def kv (μ : nMem) (k : Nat) (v : Int64) (r : Int32) : nMem := ms (ml (ms (ms (kvs μ k v r) (nN k) 2 1) (nN k) 3 1) (nN k) 4 v) (nN k) 5 r

theorem c_O_keep {L : Nat} {xs : Nat → Int32} {d : Nat} {Q : ax_Q} {μ : nMem} {k : Nat} {v : Int64} {r : Int32} (hk : k < 12) (hq : Q none (ns_rep (kv μ k v r))) : nM L xs (d + 2) 91 [.ref (nN k), .long v, .int r] (ns_rep μ) Q := by
  refine nM.of ns_I_O_keepValue rfl (ls := [_, _, _, _, _]) (Nat.le_of_ble_eq_true rfl) rfl ?_
  refine aw_aload_n (pc' := 1) nd_O_keepValue_0 rfl rfl rfl ?_
  refine aw_get (pc' := 4) nd_O_keepValue_1 rfl nF_3_23 (g_O_hasValue (by assumption)) ?_
  refine aw_if_eq (pc' := 7) (tg := 20) nd_O_keepValue_4 (by decide) rfl (fun hb4 => ?_) (fun hb4 => ?_)
  · skip
    refine aw_iconst (pc' := 21) (x := 0) nd_O_keepValue_20 rfl (by decide) ?_
    refine aw_istore (pc' := 23) (ls' := [_, _, _, _, _]) nd_O_keepValue_21 rfl (Nat.le_of_ble_eq_true rfl) rfl ?_
    refine aw_iload (pc' := 25) nd_O_keepValue_23 rfl rfl ?_
    refine aw_if_ne (pc' := 28) (tg := 41) nd_O_keepValue_25 (by decide) rfl (fun hb25 => ?_) (fun hb25 => ?_)
    · skip
      refine aw_aload_n (pc' := 42) nd_O_keepValue_41 rfl rfl rfl ?_
      refine aw_iconst (pc' := 43) (x := 1) nd_O_keepValue_42 rfl (by decide) ?_
      refine aw_put (pc' := 46) nd_O_keepValue_43 rfl nF_3_19 (by first | exact Or.inl rfl | exact Or.inr rfl | assumption) (p_O_exists (by assumption)) ?_
      refine aw_aload_n (pc' := 47) nd_O_keepValue_46 rfl rfl rfl ?_
      refine aw_iconst (pc' := 48) (x := 1) nd_O_keepValue_47 rfl (by decide) ?_
      refine aw_put (pc' := 51) nd_O_keepValue_48 rfl nF_3_23 (by first | exact Or.inl rfl | exact Or.inr rfl | assumption) (p_O_hasValue (by assumption)) ?_
      refine aw_aload_n (pc' := 52) nd_O_keepValue_51 rfl rfl rfl ?_
      refine aw_lload_n (pc' := 53) nd_O_keepValue_52 rfl rfl ?_
      refine aw_put (pc' := 56) nd_O_keepValue_53 rfl nF_3_35 trivial (p_O_value (by assumption)) ?_
      refine aw_aload_n (pc' := 57) nd_O_keepValue_56 rfl rfl rfl ?_
      refine aw_iload_n (pc' := 58) nd_O_keepValue_57 rfl rfl ?_
      refine aw_put (pc' := 61) nd_O_keepValue_58 rfl nF_3_26 trivial (p_O_verified (by assumption)) ?_
      refine aw_return nd_O_keepValue_61 rfl (Nat.le_of_ble_eq_true rfl) (Nat.le_of_ble_eq_true rfl) ?_
      (try simp only [hcm] at hb13)
      (try simp only [bi_0] at hb33)
      by_cases z1 : μ.1 (nN k) 2 = 0 <;> by_cases z2 : μ.1 (nN k) 5 = r <;> simp_all [kv, kvs]
    · skip
      refine aw_aload_n (pc' := 29) nd_O_keepValue_28 rfl rfl rfl ?_
      refine aw_iload_n (pc' := 30) nd_O_keepValue_29 rfl rfl ?_
      refine aw_callV (pc' := 33) (as := [_]) (st := []) nd_O_keepValue_30 rfl nC_3_39 ⟨(Nat.le_of_ble_eq_true rfl), rfl, rfl⟩ (ns_ioO (by assumption)) (Nat.le_of_ble_eq_true rfl) (Nat.le_of_ble_eq_true rfl) (Nat.le_of_ble_eq_true rfl) ?_
      refine c_O_ver hk ?_
      show nW _ _ _ _ _ 33 _ [_] _ _ _
      refine aw_if_ne (pc' := 36) (tg := 41) nd_O_keepValue_33 (by decide) rfl (fun hb33 => ?_) (fun hb33 => ?_)
      · skip
        refine aw_aload_n (pc' := 42) nd_O_keepValue_41 rfl rfl rfl ?_
        refine aw_iconst (pc' := 43) (x := 1) nd_O_keepValue_42 rfl (by decide) ?_
        refine aw_put (pc' := 46) nd_O_keepValue_43 rfl nF_3_19 (by first | exact Or.inl rfl | exact Or.inr rfl | assumption) (p_O_exists (by assumption)) ?_
        refine aw_aload_n (pc' := 47) nd_O_keepValue_46 rfl rfl rfl ?_
        refine aw_iconst (pc' := 48) (x := 1) nd_O_keepValue_47 rfl (by decide) ?_
        refine aw_put (pc' := 51) nd_O_keepValue_48 rfl nF_3_23 (by first | exact Or.inl rfl | exact Or.inr rfl | assumption) (p_O_hasValue (by assumption)) ?_
        refine aw_aload_n (pc' := 52) nd_O_keepValue_51 rfl rfl rfl ?_
        refine aw_lload_n (pc' := 53) nd_O_keepValue_52 rfl rfl ?_
        refine aw_put (pc' := 56) nd_O_keepValue_53 rfl nF_3_35 trivial (p_O_value (by assumption)) ?_
        refine aw_aload_n (pc' := 57) nd_O_keepValue_56 rfl rfl rfl ?_
        refine aw_iload_n (pc' := 58) nd_O_keepValue_57 rfl rfl ?_
        refine aw_put (pc' := 61) nd_O_keepValue_58 rfl nF_3_26 trivial (p_O_verified (by assumption)) ?_
        refine aw_return nd_O_keepValue_61 rfl (Nat.le_of_ble_eq_true rfl) (Nat.le_of_ble_eq_true rfl) ?_
        (try simp only [hcm] at hb13)
        (try simp only [bi_0] at hb33)
        by_cases z1 : μ.1 (nN k) 2 = 0 <;> by_cases z2 : μ.1 (nN k) 5 = r <;> simp_all [kv, kvs]
      · skip
        refine aw_aload_n (pc' := 37) nd_O_keepValue_36 rfl rfl rfl ?_
        refine aw_iload_n (pc' := 38) nd_O_keepValue_37 rfl rfl ?_
        refine aw_put (pc' := 41) nd_O_keepValue_38 rfl nF_3_29 trivial (p_O_since (by assumption)) ?_
        refine aw_aload_n (pc' := 42) nd_O_keepValue_41 rfl rfl rfl ?_
        refine aw_iconst (pc' := 43) (x := 1) nd_O_keepValue_42 rfl (by decide) ?_
        refine aw_put (pc' := 46) nd_O_keepValue_43 rfl nF_3_19 (by first | exact Or.inl rfl | exact Or.inr rfl | assumption) (p_O_exists (by assumption)) ?_
        refine aw_aload_n (pc' := 47) nd_O_keepValue_46 rfl rfl rfl ?_
        refine aw_iconst (pc' := 48) (x := 1) nd_O_keepValue_47 rfl (by decide) ?_
        refine aw_put (pc' := 51) nd_O_keepValue_48 rfl nF_3_23 (by first | exact Or.inl rfl | exact Or.inr rfl | assumption) (p_O_hasValue (by assumption)) ?_
        refine aw_aload_n (pc' := 52) nd_O_keepValue_51 rfl rfl rfl ?_
        refine aw_lload_n (pc' := 53) nd_O_keepValue_52 rfl rfl ?_
        refine aw_put (pc' := 56) nd_O_keepValue_53 rfl nF_3_35 trivial (p_O_value (by assumption)) ?_
        refine aw_aload_n (pc' := 57) nd_O_keepValue_56 rfl rfl rfl ?_
        refine aw_iload_n (pc' := 58) nd_O_keepValue_57 rfl rfl ?_
        refine aw_put (pc' := 61) nd_O_keepValue_58 rfl nF_3_26 trivial (p_O_verified (by assumption)) ?_
        refine aw_return nd_O_keepValue_61 rfl (Nat.le_of_ble_eq_true rfl) (Nat.le_of_ble_eq_true rfl) ?_
        (try simp only [hcm] at hb13)
        (try simp only [bi_0] at hb33)
        by_cases z1 : μ.1 (nN k) 2 = 0 <;> by_cases z2 : μ.1 (nN k) 5 = r <;> simp_all [kv, kvs]
  · skip
    refine aw_aload_n (pc' := 8) nd_O_keepValue_7 rfl rfl rfl ?_
    refine aw_get (pc' := 11) nd_O_keepValue_8 rfl nF_3_35 (g_O_value (by assumption)) ?_
    refine aw_lload_n (pc' := 12) nd_O_keepValue_11 rfl rfl ?_
    refine aw_lcmp (pc' := 13) nd_O_keepValue_12 rfl ?_
    have hcm : lg_cmp (μ.2 (nN k) 4) v = 0 ↔ μ.2 (nN k) 4 = v := lg_cmp_eq _ _
    refine aw_if_ne (pc' := 16) (tg := 20) nd_O_keepValue_13 (by decide) rfl (fun hb13 => ?_) (fun hb13 => ?_)
    · skip
      refine aw_iconst (pc' := 21) (x := 0) nd_O_keepValue_20 rfl (by decide) ?_
      refine aw_istore (pc' := 23) (ls' := [_, _, _, _, _]) nd_O_keepValue_21 rfl (Nat.le_of_ble_eq_true rfl) rfl ?_
      refine aw_iload (pc' := 25) nd_O_keepValue_23 rfl rfl ?_
      refine aw_if_ne (pc' := 28) (tg := 41) nd_O_keepValue_25 (by decide) rfl (fun hb25 => ?_) (fun hb25 => ?_)
      · skip
        refine aw_aload_n (pc' := 42) nd_O_keepValue_41 rfl rfl rfl ?_
        refine aw_iconst (pc' := 43) (x := 1) nd_O_keepValue_42 rfl (by decide) ?_
        refine aw_put (pc' := 46) nd_O_keepValue_43 rfl nF_3_19 (by first | exact Or.inl rfl | exact Or.inr rfl | assumption) (p_O_exists (by assumption)) ?_
        refine aw_aload_n (pc' := 47) nd_O_keepValue_46 rfl rfl rfl ?_
        refine aw_iconst (pc' := 48) (x := 1) nd_O_keepValue_47 rfl (by decide) ?_
        refine aw_put (pc' := 51) nd_O_keepValue_48 rfl nF_3_23 (by first | exact Or.inl rfl | exact Or.inr rfl | assumption) (p_O_hasValue (by assumption)) ?_
        refine aw_aload_n (pc' := 52) nd_O_keepValue_51 rfl rfl rfl ?_
        refine aw_lload_n (pc' := 53) nd_O_keepValue_52 rfl rfl ?_
        refine aw_put (pc' := 56) nd_O_keepValue_53 rfl nF_3_35 trivial (p_O_value (by assumption)) ?_
        refine aw_aload_n (pc' := 57) nd_O_keepValue_56 rfl rfl rfl ?_
        refine aw_iload_n (pc' := 58) nd_O_keepValue_57 rfl rfl ?_
        refine aw_put (pc' := 61) nd_O_keepValue_58 rfl nF_3_26 trivial (p_O_verified (by assumption)) ?_
        refine aw_return nd_O_keepValue_61 rfl (Nat.le_of_ble_eq_true rfl) (Nat.le_of_ble_eq_true rfl) ?_
        (try simp only [hcm] at hb13)
        (try simp only [bi_0] at hb33)
        by_cases z1 : μ.1 (nN k) 2 = 0 <;> by_cases z2 : μ.1 (nN k) 5 = r <;> simp_all [kv, kvs]
      · skip
        refine aw_aload_n (pc' := 29) nd_O_keepValue_28 rfl rfl rfl ?_
        refine aw_iload_n (pc' := 30) nd_O_keepValue_29 rfl rfl ?_
        refine aw_callV (pc' := 33) (as := [_]) (st := []) nd_O_keepValue_30 rfl nC_3_39 ⟨(Nat.le_of_ble_eq_true rfl), rfl, rfl⟩ (ns_ioO (by assumption)) (Nat.le_of_ble_eq_true rfl) (Nat.le_of_ble_eq_true rfl) (Nat.le_of_ble_eq_true rfl) ?_
        refine c_O_ver hk ?_
        show nW _ _ _ _ _ 33 _ [_] _ _ _
        refine aw_if_ne (pc' := 36) (tg := 41) nd_O_keepValue_33 (by decide) rfl (fun hb33 => ?_) (fun hb33 => ?_)
        · skip
          refine aw_aload_n (pc' := 42) nd_O_keepValue_41 rfl rfl rfl ?_
          refine aw_iconst (pc' := 43) (x := 1) nd_O_keepValue_42 rfl (by decide) ?_
          refine aw_put (pc' := 46) nd_O_keepValue_43 rfl nF_3_19 (by first | exact Or.inl rfl | exact Or.inr rfl | assumption) (p_O_exists (by assumption)) ?_
          refine aw_aload_n (pc' := 47) nd_O_keepValue_46 rfl rfl rfl ?_
          refine aw_iconst (pc' := 48) (x := 1) nd_O_keepValue_47 rfl (by decide) ?_
          refine aw_put (pc' := 51) nd_O_keepValue_48 rfl nF_3_23 (by first | exact Or.inl rfl | exact Or.inr rfl | assumption) (p_O_hasValue (by assumption)) ?_
          refine aw_aload_n (pc' := 52) nd_O_keepValue_51 rfl rfl rfl ?_
          refine aw_lload_n (pc' := 53) nd_O_keepValue_52 rfl rfl ?_
          refine aw_put (pc' := 56) nd_O_keepValue_53 rfl nF_3_35 trivial (p_O_value (by assumption)) ?_
          refine aw_aload_n (pc' := 57) nd_O_keepValue_56 rfl rfl rfl ?_
          refine aw_iload_n (pc' := 58) nd_O_keepValue_57 rfl rfl ?_
          refine aw_put (pc' := 61) nd_O_keepValue_58 rfl nF_3_26 trivial (p_O_verified (by assumption)) ?_
          refine aw_return nd_O_keepValue_61 rfl (Nat.le_of_ble_eq_true rfl) (Nat.le_of_ble_eq_true rfl) ?_
          (try simp only [hcm] at hb13)
          (try simp only [bi_0] at hb33)
          by_cases z1 : μ.1 (nN k) 2 = 0 <;> by_cases z2 : μ.1 (nN k) 5 = r <;> simp_all [kv, kvs]
        · skip
          refine aw_aload_n (pc' := 37) nd_O_keepValue_36 rfl rfl rfl ?_
          refine aw_iload_n (pc' := 38) nd_O_keepValue_37 rfl rfl ?_
          refine aw_put (pc' := 41) nd_O_keepValue_38 rfl nF_3_29 trivial (p_O_since (by assumption)) ?_
          refine aw_aload_n (pc' := 42) nd_O_keepValue_41 rfl rfl rfl ?_
          refine aw_iconst (pc' := 43) (x := 1) nd_O_keepValue_42 rfl (by decide) ?_
          refine aw_put (pc' := 46) nd_O_keepValue_43 rfl nF_3_19 (by first | exact Or.inl rfl | exact Or.inr rfl | assumption) (p_O_exists (by assumption)) ?_
          refine aw_aload_n (pc' := 47) nd_O_keepValue_46 rfl rfl rfl ?_
          refine aw_iconst (pc' := 48) (x := 1) nd_O_keepValue_47 rfl (by decide) ?_
          refine aw_put (pc' := 51) nd_O_keepValue_48 rfl nF_3_23 (by first | exact Or.inl rfl | exact Or.inr rfl | assumption) (p_O_hasValue (by assumption)) ?_
          refine aw_aload_n (pc' := 52) nd_O_keepValue_51 rfl rfl rfl ?_
          refine aw_lload_n (pc' := 53) nd_O_keepValue_52 rfl rfl ?_
          refine aw_put (pc' := 56) nd_O_keepValue_53 rfl nF_3_35 trivial (p_O_value (by assumption)) ?_
          refine aw_aload_n (pc' := 57) nd_O_keepValue_56 rfl rfl rfl ?_
          refine aw_iload_n (pc' := 58) nd_O_keepValue_57 rfl rfl ?_
          refine aw_put (pc' := 61) nd_O_keepValue_58 rfl nF_3_26 trivial (p_O_verified (by assumption)) ?_
          refine aw_return nd_O_keepValue_61 rfl (Nat.le_of_ble_eq_true rfl) (Nat.le_of_ble_eq_true rfl) ?_
          (try simp only [hcm] at hb13)
          (try simp only [bi_0] at hb33)
          by_cases z1 : μ.1 (nN k) 2 = 0 <;> by_cases z2 : μ.1 (nN k) 5 = r <;> simp_all [kv, kvs]
    · skip
      refine aw_iconst (pc' := 17) (x := 1) nd_O_keepValue_16 rfl (by decide) ?_
      refine aw_goto (pc' := 21) nd_O_keepValue_17 (by decide) ?_
      refine aw_istore (pc' := 23) (ls' := [_, _, _, _, _]) nd_O_keepValue_21 rfl (Nat.le_of_ble_eq_true rfl) rfl ?_
      refine aw_iload (pc' := 25) nd_O_keepValue_23 rfl rfl ?_
      refine aw_if_ne (pc' := 28) (tg := 41) nd_O_keepValue_25 (by decide) rfl (fun hb25 => ?_) (fun hb25 => ?_)
      · skip
        refine aw_aload_n (pc' := 42) nd_O_keepValue_41 rfl rfl rfl ?_
        refine aw_iconst (pc' := 43) (x := 1) nd_O_keepValue_42 rfl (by decide) ?_
        refine aw_put (pc' := 46) nd_O_keepValue_43 rfl nF_3_19 (by first | exact Or.inl rfl | exact Or.inr rfl | assumption) (p_O_exists (by assumption)) ?_
        refine aw_aload_n (pc' := 47) nd_O_keepValue_46 rfl rfl rfl ?_
        refine aw_iconst (pc' := 48) (x := 1) nd_O_keepValue_47 rfl (by decide) ?_
        refine aw_put (pc' := 51) nd_O_keepValue_48 rfl nF_3_23 (by first | exact Or.inl rfl | exact Or.inr rfl | assumption) (p_O_hasValue (by assumption)) ?_
        refine aw_aload_n (pc' := 52) nd_O_keepValue_51 rfl rfl rfl ?_
        refine aw_lload_n (pc' := 53) nd_O_keepValue_52 rfl rfl ?_
        refine aw_put (pc' := 56) nd_O_keepValue_53 rfl nF_3_35 trivial (p_O_value (by assumption)) ?_
        refine aw_aload_n (pc' := 57) nd_O_keepValue_56 rfl rfl rfl ?_
        refine aw_iload_n (pc' := 58) nd_O_keepValue_57 rfl rfl ?_
        refine aw_put (pc' := 61) nd_O_keepValue_58 rfl nF_3_26 trivial (p_O_verified (by assumption)) ?_
        refine aw_return nd_O_keepValue_61 rfl (Nat.le_of_ble_eq_true rfl) (Nat.le_of_ble_eq_true rfl) ?_
        (try simp only [hcm] at hb13)
        (try simp only [bi_0] at hb33)
        by_cases z1 : μ.1 (nN k) 2 = 0 <;> by_cases z2 : μ.1 (nN k) 5 = r <;> simp_all [kv, kvs]
      · skip
        refine aw_aload_n (pc' := 29) nd_O_keepValue_28 rfl rfl rfl ?_
        refine aw_iload_n (pc' := 30) nd_O_keepValue_29 rfl rfl ?_
        refine aw_callV (pc' := 33) (as := [_]) (st := []) nd_O_keepValue_30 rfl nC_3_39 ⟨(Nat.le_of_ble_eq_true rfl), rfl, rfl⟩ (ns_ioO (by assumption)) (Nat.le_of_ble_eq_true rfl) (Nat.le_of_ble_eq_true rfl) (Nat.le_of_ble_eq_true rfl) ?_
        refine c_O_ver hk ?_
        show nW _ _ _ _ _ 33 _ [_] _ _ _
        refine aw_if_ne (pc' := 36) (tg := 41) nd_O_keepValue_33 (by decide) rfl (fun hb33 => ?_) (fun hb33 => ?_)
        · skip
          refine aw_aload_n (pc' := 42) nd_O_keepValue_41 rfl rfl rfl ?_
          refine aw_iconst (pc' := 43) (x := 1) nd_O_keepValue_42 rfl (by decide) ?_
          refine aw_put (pc' := 46) nd_O_keepValue_43 rfl nF_3_19 (by first | exact Or.inl rfl | exact Or.inr rfl | assumption) (p_O_exists (by assumption)) ?_
          refine aw_aload_n (pc' := 47) nd_O_keepValue_46 rfl rfl rfl ?_
          refine aw_iconst (pc' := 48) (x := 1) nd_O_keepValue_47 rfl (by decide) ?_
          refine aw_put (pc' := 51) nd_O_keepValue_48 rfl nF_3_23 (by first | exact Or.inl rfl | exact Or.inr rfl | assumption) (p_O_hasValue (by assumption)) ?_
          refine aw_aload_n (pc' := 52) nd_O_keepValue_51 rfl rfl rfl ?_
          refine aw_lload_n (pc' := 53) nd_O_keepValue_52 rfl rfl ?_
          refine aw_put (pc' := 56) nd_O_keepValue_53 rfl nF_3_35 trivial (p_O_value (by assumption)) ?_
          refine aw_aload_n (pc' := 57) nd_O_keepValue_56 rfl rfl rfl ?_
          refine aw_iload_n (pc' := 58) nd_O_keepValue_57 rfl rfl ?_
          refine aw_put (pc' := 61) nd_O_keepValue_58 rfl nF_3_26 trivial (p_O_verified (by assumption)) ?_
          refine aw_return nd_O_keepValue_61 rfl (Nat.le_of_ble_eq_true rfl) (Nat.le_of_ble_eq_true rfl) ?_
          (try simp only [hcm] at hb13)
          (try simp only [bi_0] at hb33)
          by_cases z1 : μ.1 (nN k) 2 = 0 <;> by_cases z2 : μ.1 (nN k) 5 = r <;> simp_all [kv, kvs]
        · skip
          refine aw_aload_n (pc' := 37) nd_O_keepValue_36 rfl rfl rfl ?_
          refine aw_iload_n (pc' := 38) nd_O_keepValue_37 rfl rfl ?_
          refine aw_put (pc' := 41) nd_O_keepValue_38 rfl nF_3_29 trivial (p_O_since (by assumption)) ?_
          refine aw_aload_n (pc' := 42) nd_O_keepValue_41 rfl rfl rfl ?_
          refine aw_iconst (pc' := 43) (x := 1) nd_O_keepValue_42 rfl (by decide) ?_
          refine aw_put (pc' := 46) nd_O_keepValue_43 rfl nF_3_19 (by first | exact Or.inl rfl | exact Or.inr rfl | assumption) (p_O_exists (by assumption)) ?_
          refine aw_aload_n (pc' := 47) nd_O_keepValue_46 rfl rfl rfl ?_
          refine aw_iconst (pc' := 48) (x := 1) nd_O_keepValue_47 rfl (by decide) ?_
          refine aw_put (pc' := 51) nd_O_keepValue_48 rfl nF_3_23 (by first | exact Or.inl rfl | exact Or.inr rfl | assumption) (p_O_hasValue (by assumption)) ?_
          refine aw_aload_n (pc' := 52) nd_O_keepValue_51 rfl rfl rfl ?_
          refine aw_lload_n (pc' := 53) nd_O_keepValue_52 rfl rfl ?_
          refine aw_put (pc' := 56) nd_O_keepValue_53 rfl nF_3_35 trivial (p_O_value (by assumption)) ?_
          refine aw_aload_n (pc' := 57) nd_O_keepValue_56 rfl rfl rfl ?_
          refine aw_iload_n (pc' := 58) nd_O_keepValue_57 rfl rfl ?_
          refine aw_put (pc' := 61) nd_O_keepValue_58 rfl nF_3_26 trivial (p_O_verified (by assumption)) ?_
          refine aw_return nd_O_keepValue_61 rfl (Nat.le_of_ble_eq_true rfl) (Nat.le_of_ble_eq_true rfl) ?_
          (try simp only [hcm] at hb13)
          (try simp only [bi_0] at hb33)
          by_cases z1 : μ.1 (nN k) 2 = 0 <;> by_cases z2 : μ.1 (nN k) 5 = r <;> simp_all [kv, kvs]
end
section
/-! the sheet's face, but for define and ask -/
def ic (x : Int32) : Bool := if x < 0 then false else if 12 ≤ x then false else true
def idr (x : Int32) : Bool := if x < 0 then false else if 2 < x then false else true
theorem ic_t {x : Int32} (h : ic x = true) : ∃ j, j < 12 ∧ x = nI j := by
  unfold ic at h
  split at h
  · cases h
  · rename_i h0
    split at h
    · cases h
    · rename_i h1
      obtain ⟨j, hj, rfl⟩ := nI_of h0
      exact ⟨j, by have := mt (nI_leI (a := 12) (b := j) (by decide) hj).mpr h1; omega, rfl⟩
theorem ic_nI {j : Nat} (h : j < 12) : ic (nI j) = true := by
  unfold ic
  rw [if_neg (nI_pos (by omega)), if_neg (show ¬ (12 : Int32) ≤ nI j from nI_ge (b := 12) h (by decide))]
theorem idr_t {x : Int32} (h : idr x = true) : ∃ j, j < 3 ∧ x = nI j := by
  unfold idr at h
  split at h
  · cases h
  · rename_i h0
    split at h
    · cases h
    · rename_i h1
      obtain ⟨j, hj, rfl⟩ := nI_of h0
      exact ⟨j, by have := mt (nI_ltI (a := 2) (b := j) (by decide) hj).mpr h1; omega, rfl⟩
theorem bi_t {b : Bool} (h : ¬ bi b = 0) : b = true := by cases b <;> simp [bi] at h ⊢
theorem bi_f {b : Bool} (h : bi b = 0) : b = false := by cases b <;> simp [bi] at h ⊢

theorem c_N_count {L : Nat} {xs : Nat → Int32} {d : Nat} {Q : ax_Q} {μ : nMem} {x : Int32} (hq : Q (some (.int (if x = 3 then nI (vcn μ 12) else if x < 0 then -1 else if 2 < x then -1 else μ.1 99 x.toNatClampNeg))) (ns_rep μ)) : nM L xs (d + 2) 9 [.ref 0, .int x] (ns_rep μ) Q := by
  refine nM.of ns_I_N_count rfl (ls := [_, _]) (Nat.le_of_ble_eq_true rfl) rfl ?_
  refine aw_iload_n (pc' := 1) nd_N_count_0 rfl rfl ?_
  refine aw_iconst (pc' := 2) (x := 3) nd_N_count_1 rfl (by decide) ?_
  refine aw_icmp_ne (pc' := 5) (tg := 10) nd_N_count_2 (by decide) rfl (fun hb2 => ?_) (fun hb2 => ?_)
  · skip
    refine aw_iload_n (pc' := 11) nd_N_count_10 rfl rfl ?_
    refine aw_if_lt (pc' := 14) (tg := 28) nd_N_count_11 (by decide) rfl (fun hb11 => ?_) (fun hb11 => ?_)
    · skip
      refine aw_iconst (pc' := 29) (x := -1) nd_N_count_28 rfl (by decide) ?_
      refine aw_ireturn nd_N_count_29 rfl rfl (Nat.le_of_ble_eq_true rfl) (Nat.le_of_ble_eq_true rfl) ?_
      first
        | simpa [*] using hq
        | (rw [if_neg hb2, if_neg hb11, if_neg hb16, nI_clamp (by omega)] at hq; exact hq)
    · skip
      refine aw_iload_n (pc' := 15) nd_N_count_14 rfl rfl ?_
      refine aw_iconst (pc' := 16) (x := 2) nd_N_count_15 rfl (by decide) ?_
      refine aw_icmp_gt (pc' := 19) (tg := 28) nd_N_count_16 (by decide) rfl (fun hb16 => ?_) (fun hb16 => ?_)
      · skip
        refine aw_iconst (pc' := 29) (x := -1) nd_N_count_28 rfl (by decide) ?_
        refine aw_ireturn nd_N_count_29 rfl rfl (Nat.le_of_ble_eq_true rfl) (Nat.le_of_ble_eq_true rfl) ?_
        first
          | simpa [*] using hq
          | (rw [if_neg hb2, if_neg hb11, if_neg hb16, nI_clamp (by omega)] at hq; exact hq)
      · skip
        obtain ⟨j, hj, rfl⟩ := nI_of2 (M := 2) (n := 2) (by decide) hb11 (Int32.not_lt.mp hb16)
        refine aw_aload_n (pc' := 20) nd_N_count_19 rfl rfl rfl ?_
        refine aw_get (pc' := 23) nd_N_count_20 rfl nF_0_33 g_N_latestTally ?_
        refine aw_iload_n (pc' := 24) nd_N_count_23 rfl rfl ?_
        refine aw_iald (pc' := 25) nd_N_count_24 rfl ga_latestTally j rfl (by omega) ?_
        refine aw_goto (pc' := 29) nd_N_count_25 (by decide) ?_
        refine aw_ireturn nd_N_count_29 rfl rfl (Nat.le_of_ble_eq_true rfl) (Nat.le_of_ble_eq_true rfl) ?_
        first
          | simpa [*] using hq
          | (rw [if_neg hb2, if_neg hb11, if_neg hb16, nI_clamp (by omega)] at hq; exact hq)
  · skip
    refine aw_aload_n (pc' := 6) nd_N_count_5 rfl rfl rfl ?_
    refine aw_callV (pc' := 9) (as := []) (st := []) nd_N_count_6 rfl nC_0_134 ⟨(Nat.le_of_ble_eq_true rfl), rfl, rfl⟩ ns_ioN (Nat.le_of_ble_eq_true rfl) (Nat.le_of_ble_eq_true rfl) (Nat.le_of_ble_eq_true rfl) ?_
    refine c_N_valuesInNotes ?_
    show nW _ _ _ _ _ 9 _ [_] _ _ _
    refine aw_ireturn nd_N_count_9 rfl rfl (Nat.le_of_ble_eq_true rfl) (Nat.le_of_ble_eq_true rfl) ?_
    first
      | simpa [*] using hq
      | (rw [if_neg hb2, if_neg hb11, if_neg hb16, nI_clamp (by omega)] at hq; exact hq)

theorem c_N_read {L : Nat} {xs : Nat → Int32} {d : Nat} {Q : ax_Q} {μ : nMem} {x i : Int32} {n : Nat} (hq0 : ic x = false → Q (some (.int (-1))) (ns_rep μ)) (hn : ∀ j, j < 12 → x = nI j → μ.1 (nN j) 1 = nI n ∧ n ≤ 12) (hq1 : ∀ j, j < 12 → x = nI j → (i < 0 ∨ nI n ≤ i) → Q (some (.int (-1))) (ns_rep μ)) (hq2 : ∀ j m, j < 12 → x = nI j → m < n → i = nI m → Q (some (.int (μ.1 (nR j) m))) (ns_rep μ)) : nM L xs (d + 2) 8 [.ref 0, .int x, .int i] (ns_rep μ) Q := by
  refine nM.of ns_I_N_read rfl (ls := [_, _, _]) (Nat.le_of_ble_eq_true rfl) rfl ?_
  refine aw_iload_n (pc' := 1) nd_N_read_0 rfl rfl ?_
  refine aw_callS (a := 0) (pc' := 4) (as := [_]) (st := []) nd_N_read_1 rfl nC_0_62 ⟨(Nat.le_of_ble_eq_true rfl), rfl, rfl⟩ (Nat.le_of_ble_eq_true rfl) (Nat.le_of_ble_eq_true rfl) (Nat.le_of_ble_eq_true rfl) ?_
  refine c_N_isCell ?_
  change nW _ _ _ _ _ _ _ ((some (Value.int (bi (ic x)))).toList ++ _) _ _ _
  show nW _ _ _ _ _ 4 _ [_] _ _ _
  refine aw_if_eq (pc' := 7) (tg := 27) nd_N_read_4 (by decide) rfl (fun hb4 => ?_) (fun hb4 => ?_)
  · skip
    refine aw_iconst (pc' := 28) (x := -1) nd_N_read_27 rfl (by decide) ?_
    refine aw_ireturn nd_N_read_28 rfl rfl (Nat.le_of_ble_eq_true rfl) (Nat.le_of_ble_eq_true rfl) ?_
    first
      | exact hq0 (bi_f hb4)
      | exact hq1 j hj rfl (Or.inl hb8)
      | exact hq1 j hj rfl (Or.inr (Int32.not_lt.mp hb24))
  · skip
    obtain ⟨j, hj, rfl⟩ := ic_t (bi_t hb4)
    obtain ⟨hn1, hn2⟩ := hn j hj rfl
    refine aw_iload_n (pc' := 8) nd_N_read_7 rfl rfl ?_
    refine aw_if_lt (pc' := 11) (tg := 27) nd_N_read_8 (by decide) rfl (fun hb8 => ?_) (fun hb8 => ?_)
    · skip
      refine aw_iconst (pc' := 28) (x := -1) nd_N_read_27 rfl (by decide) ?_
      refine aw_ireturn nd_N_read_28 rfl rfl (Nat.le_of_ble_eq_true rfl) (Nat.le_of_ble_eq_true rfl) ?_
      first
        | exact hq0 (bi_f hb4)
        | exact hq1 j hj rfl (Or.inl hb8)
        | exact hq1 j hj rfl (Or.inr (Int32.not_lt.mp hb24))
    · skip
      refine aw_iload_n (pc' := 12) nd_N_read_11 rfl rfl ?_
      refine aw_aload_n (pc' := 13) nd_N_read_12 rfl rfl rfl ?_
      refine aw_get (pc' := 16) nd_N_read_13 rfl nF_0_24 g_N_cells ?_
      refine aw_iload_n (pc' := 17) nd_N_read_16 rfl rfl ?_
      refine aw_cells (pc' := 18) nd_N_read_17 rfl j rfl hj ?_
      refine aw_get (pc' := 21) nd_N_read_18 rfl nF_0_113 (g_C_note (by assumption)) ?_
      refine aw_get (pc' := 24) nd_N_read_21 rfl nF_0_125 (g_O_readCount (by assumption)) ?_
      rw [hn1]
      refine aw_icmp_lt (pc' := 27) (tg := 29) nd_N_read_24 (by decide) rfl (fun hb24 => ?_) (fun hb24 => ?_)
      · skip
        obtain ⟨m, hm, rfl⟩ := nI_of hb8
        have hmn : m < n := (nI_ltI hm (by omega)).mp hb24
        refine aw_aload_n (pc' := 30) nd_N_read_29 rfl rfl rfl ?_
        refine aw_get (pc' := 33) nd_N_read_30 rfl nF_0_24 g_N_cells ?_
        refine aw_iload_n (pc' := 34) nd_N_read_33 rfl rfl ?_
        refine aw_cells (pc' := 35) nd_N_read_34 rfl j rfl hj ?_
        refine aw_get (pc' := 38) nd_N_read_35 rfl nF_0_113 (g_C_note (by assumption)) ?_
        refine aw_get (pc' := 41) nd_N_read_38 rfl nF_0_131 (g_O_reads (by assumption)) ?_
        refine aw_iload_n (pc' := 42) nd_N_read_41 rfl rfl ?_
        refine aw_iald (pc' := 43) nd_N_read_42 rfl (ga_R (by assumption)) m rfl (by omega) ?_
        refine aw_ireturn nd_N_read_43 rfl rfl (Nat.le_of_ble_eq_true rfl) (Nat.le_of_ble_eq_true rfl) ?_
        exact hq2 j m hj rfl hmn rfl
      · skip
        refine aw_iconst (pc' := 28) (x := -1) nd_N_read_27 rfl (by decide) ?_
        refine aw_ireturn nd_N_read_28 rfl rfl (Nat.le_of_ble_eq_true rfl) (Nat.le_of_ble_eq_true rfl) ?_
        first
          | exact hq0 (bi_f hb4)
          | exact hq1 j hj rfl (Or.inl hb8)
          | exact hq1 j hj rfl (Or.inr (Int32.not_lt.mp hb24))

def ntA (μ : nMem) (j : Nat) (y : Int32) : Int32 := if y = 0 then μ.1 (nY j) 0 else if y = 1 then μ.1 (nY j) 1 else if y = 2 then μ.1 (nY j) 2 else if y = 3 then (if μ.1 (nC j) 4 = 0 then μ.1 (nC j) 8 else μ.1 (nN j) 6) else if y = 4 then μ.1 (nN j) 5 else if y = 5 then (if μ.1 (nC j) 4 = 0 then μ.1 (nC j) 7 else μ.1 (nN j) 7) else if y = 6 then μ.1 (nN j) 1 else if y = 7 then (if μ.1 (nC j) 4 = 0 then 1 else if μ.1 (nN j) 3 = 0 then 0 else 1) else -1

theorem c_N_note {L : Nat} {xs : Nat → Int32} {d : Nat} {Q : ax_Q} {μ : nMem} {x y : Int32} (hq0 : ic x = false → Q (some (.int (-1))) (ns_rep μ)) (hq1 : ∀ j, j < 12 → x = nI j → Q (some (.int (ntA μ j y))) (ns_rep μ)) : nM L xs (d + 2) 7 [.ref 0, .int x, .int y] (ns_rep μ) Q := by
  refine nM.of ns_I_N_note rfl (ls := [_, _, _, _]) (Nat.le_of_ble_eq_true rfl) rfl ?_
  refine aw_iload_n (pc' := 1) nd_N_note_0 rfl rfl ?_
  refine aw_callS (a := 0) (pc' := 4) (as := [_]) (st := []) nd_N_note_1 rfl nC_0_62 ⟨(Nat.le_of_ble_eq_true rfl), rfl, rfl⟩ (Nat.le_of_ble_eq_true rfl) (Nat.le_of_ble_eq_true rfl) (Nat.le_of_ble_eq_true rfl) ?_
  refine c_N_isCell ?_
  change nW _ _ _ _ _ _ _ ((some (Value.int (bi (ic x)))).toList ++ _) _ _ _
  show nW _ _ _ _ _ 4 _ [_] _ _ _
  refine aw_if_ne (pc' := 7) (tg := 9) nd_N_note_4 (by decide) rfl (fun hb4 => ?_) (fun hb4 => ?_)
  · skip
    obtain ⟨j, hj, rfl⟩ := ic_t (bi_t hb4)
    have hq := hq1 j hj rfl
    refine aw_aload_n (pc' := 10) nd_N_note_9 rfl rfl rfl ?_
    refine aw_get (pc' := 13) nd_N_note_10 rfl nF_0_24 g_N_cells ?_
    refine aw_iload_n (pc' := 14) nd_N_note_13 rfl rfl ?_
    refine aw_cells (pc' := 15) nd_N_note_14 rfl j rfl hj ?_
    refine aw_astore_n (pc' := 16) (ls' := [_, _, _, _]) nd_N_note_15 rfl rfl (Nat.le_of_ble_eq_true rfl) rfl ?_
    refine aw_iload_n (pc' := 17) nd_N_note_16 rfl rfl ?_
    by_cases hs0 : y = 0
    · subst hs0
      refine aw_tabIn (tg := 64) (off := 47) nd_N_note_17 (by decide) (by decide) (by decide) ?_
      refine aw_aload_n (pc' := 65) nd_N_note_64 rfl rfl rfl ?_
      refine aw_get (pc' := 68) nd_N_note_65 rfl nF_0_107 (g_C_tally (by assumption)) ?_
      refine aw_iload_n (pc' := 69) nd_N_note_68 rfl rfl ?_
      refine aw_iald (pc' := 70) nd_N_note_69 rfl (ga_Y (by assumption)) 0 (by decide) (by decide) ?_
      refine aw_ireturn nd_N_note_70 rfl rfl (Nat.le_of_ble_eq_true rfl) (Nat.le_of_ble_eq_true rfl) ?_
      first
        | (simpa [ntA] using hq)
        | (simpa [ntA, *] using hq)
        | (simpa [ntA, hb101] using hq)
        | (simpa [ntA, hb101, hb111] using hq)
    by_cases hs1 : y = 1
    · subst hs1
      refine aw_tabIn (tg := 64) (off := 47) nd_N_note_17 (by decide) (by decide) (by decide) ?_
      refine aw_aload_n (pc' := 65) nd_N_note_64 rfl rfl rfl ?_
      refine aw_get (pc' := 68) nd_N_note_65 rfl nF_0_107 (g_C_tally (by assumption)) ?_
      refine aw_iload_n (pc' := 69) nd_N_note_68 rfl rfl ?_
      refine aw_iald (pc' := 70) nd_N_note_69 rfl (ga_Y (by assumption)) 1 (by decide) (by decide) ?_
      refine aw_ireturn nd_N_note_70 rfl rfl (Nat.le_of_ble_eq_true rfl) (Nat.le_of_ble_eq_true rfl) ?_
      first
        | (simpa [ntA] using hq)
        | (simpa [ntA, *] using hq)
        | (simpa [ntA, hb101] using hq)
        | (simpa [ntA, hb101, hb111] using hq)
    by_cases hs2 : y = 2
    · subst hs2
      refine aw_tabIn (tg := 64) (off := 47) nd_N_note_17 (by decide) (by decide) (by decide) ?_
      refine aw_aload_n (pc' := 65) nd_N_note_64 rfl rfl rfl ?_
      refine aw_get (pc' := 68) nd_N_note_65 rfl nF_0_107 (g_C_tally (by assumption)) ?_
      refine aw_iload_n (pc' := 69) nd_N_note_68 rfl rfl ?_
      refine aw_iald (pc' := 70) nd_N_note_69 rfl (ga_Y (by assumption)) 2 (by decide) (by decide) ?_
      refine aw_ireturn nd_N_note_70 rfl rfl (Nat.le_of_ble_eq_true rfl) (Nat.le_of_ble_eq_true rfl) ?_
      first
        | (simpa [ntA] using hq)
        | (simpa [ntA, *] using hq)
        | (simpa [ntA, hb101] using hq)
        | (simpa [ntA, hb101, hb111] using hq)
    by_cases hs3 : y = 3
    · subst hs3
      refine aw_tabIn (tg := 71) (off := 54) nd_N_note_17 (by decide) (by decide) (by decide) ?_
      refine aw_aload_n (pc' := 72) nd_N_note_71 rfl rfl rfl ?_
      refine aw_callV (pc' := 75) (as := []) (st := []) nd_N_note_72 rfl nC_0_110 ⟨(Nat.le_of_ble_eq_true rfl), rfl, rfl⟩ (ns_ioC (by assumption)) (Nat.le_of_ble_eq_true rfl) (Nat.le_of_ble_eq_true rfl) (Nat.le_of_ble_eq_true rfl) ?_
      refine c_C_since hj ?_
      show nW _ _ _ _ _ 75 _ [_] _ _ _
      refine aw_ireturn nd_N_note_75 rfl rfl (Nat.le_of_ble_eq_true rfl) (Nat.le_of_ble_eq_true rfl) ?_
      first
        | (simpa [ntA] using hq)
        | (simpa [ntA, *] using hq)
        | (simpa [ntA, hb101] using hq)
        | (simpa [ntA, hb101, hb111] using hq)
    by_cases hs4 : y = 4
    · subst hs4
      refine aw_tabIn (tg := 76) (off := 59) nd_N_note_17 (by decide) (by decide) (by decide) ?_
      refine aw_aload_n (pc' := 77) nd_N_note_76 rfl rfl rfl ?_
      refine aw_get (pc' := 80) nd_N_note_77 rfl nF_0_113 (g_C_note (by assumption)) ?_
      refine aw_get (pc' := 83) nd_N_note_80 rfl nF_0_117 (g_O_verified (by assumption)) ?_
      refine aw_ireturn nd_N_note_83 rfl rfl (Nat.le_of_ble_eq_true rfl) (Nat.le_of_ble_eq_true rfl) ?_
      first
        | (simpa [ntA] using hq)
        | (simpa [ntA, *] using hq)
        | (simpa [ntA, hb101] using hq)
        | (simpa [ntA, hb101, hb111] using hq)
    by_cases hs5 : y = 5
    · subst hs5
      refine aw_tabIn (tg := 84) (off := 67) nd_N_note_17 (by decide) (by decide) (by decide) ?_
      refine aw_aload_n (pc' := 85) nd_N_note_84 rfl rfl rfl ?_
      refine aw_callV (pc' := 88) (as := []) (st := []) nd_N_note_85 rfl nC_0_122 ⟨(Nat.le_of_ble_eq_true rfl), rfl, rfl⟩ (ns_ioC (by assumption)) (Nat.le_of_ble_eq_true rfl) (Nat.le_of_ble_eq_true rfl) (Nat.le_of_ble_eq_true rfl) ?_
      refine c_C_given hj ?_
      show nW _ _ _ _ _ 88 _ [_] _ _ _
      refine aw_ireturn nd_N_note_88 rfl rfl (Nat.le_of_ble_eq_true rfl) (Nat.le_of_ble_eq_true rfl) ?_
      first
        | (simpa [ntA] using hq)
        | (simpa [ntA, *] using hq)
        | (simpa [ntA, hb101] using hq)
        | (simpa [ntA, hb101, hb111] using hq)
    by_cases hs6 : y = 6
    · subst hs6
      refine aw_tabIn (tg := 89) (off := 72) nd_N_note_17 (by decide) (by decide) (by decide) ?_
      refine aw_aload_n (pc' := 90) nd_N_note_89 rfl rfl rfl ?_
      refine aw_get (pc' := 93) nd_N_note_90 rfl nF_0_113 (g_C_note (by assumption)) ?_
      refine aw_get (pc' := 96) nd_N_note_93 rfl nF_0_125 (g_O_readCount (by assumption)) ?_
      refine aw_ireturn nd_N_note_96 rfl rfl (Nat.le_of_ble_eq_true rfl) (Nat.le_of_ble_eq_true rfl) ?_
      first
        | (simpa [ntA] using hq)
        | (simpa [ntA, *] using hq)
        | (simpa [ntA, hb101] using hq)
        | (simpa [ntA, hb101, hb111] using hq)
    by_cases hs7 : y = 7
    · subst hs7
      refine aw_tabIn (tg := 97) (off := 80) nd_N_note_17 (by decide) (by decide) (by decide) ?_
      refine aw_aload_n (pc' := 98) nd_N_note_97 rfl rfl rfl ?_
      refine aw_get (pc' := 101) nd_N_note_98 rfl nF_0_84 (g_C_hasFormula (by assumption)) ?_
      refine aw_if_eq (pc' := 104) (tg := 114) nd_N_note_101 (by decide) rfl (fun hb101 => ?_) (fun hb101 => ?_)
      · skip
        refine aw_iconst (pc' := 115) (x := 1) nd_N_note_114 rfl (by decide) ?_
        refine aw_goto (pc' := 119) nd_N_note_115 (by decide) ?_
        refine aw_ireturn nd_N_note_119 rfl rfl (Nat.le_of_ble_eq_true rfl) (Nat.le_of_ble_eq_true rfl) ?_
        first
          | (simpa [ntA] using hq)
          | (simpa [ntA, *] using hq)
          | (simpa [ntA, hb101] using hq)
          | (simpa [ntA, hb101, hb111] using hq)
      · skip
        refine aw_aload_n (pc' := 105) nd_N_note_104 rfl rfl rfl ?_
        refine aw_get (pc' := 108) nd_N_note_105 rfl nF_0_113 (g_C_note (by assumption)) ?_
        refine aw_get (pc' := 111) nd_N_note_108 rfl nF_0_128 (g_O_hasValue (by assumption)) ?_
        refine aw_if_eq (pc' := 114) (tg := 118) nd_N_note_111 (by decide) rfl (fun hb111 => ?_) (fun hb111 => ?_)
        · skip
          refine aw_iconst (pc' := 119) (x := 0) nd_N_note_118 rfl (by decide) ?_
          refine aw_ireturn nd_N_note_119 rfl rfl (Nat.le_of_ble_eq_true rfl) (Nat.le_of_ble_eq_true rfl) ?_
          first
            | (simpa [ntA] using hq)
            | (simpa [ntA, *] using hq)
            | (simpa [ntA, hb101] using hq)
            | (simpa [ntA, hb101, hb111] using hq)
        · skip
          refine aw_iconst (pc' := 115) (x := 1) nd_N_note_114 rfl (by decide) ?_
          refine aw_goto (pc' := 119) nd_N_note_115 (by decide) ?_
          refine aw_ireturn nd_N_note_119 rfl rfl (Nat.le_of_ble_eq_true rfl) (Nat.le_of_ble_eq_true rfl) ?_
          first
            | (simpa [ntA] using hq)
            | (simpa [ntA, *] using hq)
            | (simpa [ntA, hb101] using hq)
            | (simpa [ntA, hb101, hb111] using hq)
    have hout : (y : Int32).toInt < 0 ∨ 7 < (y : Int32).toInt := by
      have m0 : ¬ (y : Int32).toInt = 0 := fun z => hs0 (Int32.toInt_inj.mp (by rw [z]; decide))
      have m1 : ¬ (y : Int32).toInt = 1 := fun z => hs1 (Int32.toInt_inj.mp (by rw [z]; decide))
      have m2 : ¬ (y : Int32).toInt = 2 := fun z => hs2 (Int32.toInt_inj.mp (by rw [z]; decide))
      have m3 : ¬ (y : Int32).toInt = 3 := fun z => hs3 (Int32.toInt_inj.mp (by rw [z]; decide))
      have m4 : ¬ (y : Int32).toInt = 4 := fun z => hs4 (Int32.toInt_inj.mp (by rw [z]; decide))
      have m5 : ¬ (y : Int32).toInt = 5 := fun z => hs5 (Int32.toInt_inj.mp (by rw [z]; decide))
      have m6 : ¬ (y : Int32).toInt = 6 := fun z => hs6 (Int32.toInt_inj.mp (by rw [z]; decide))
      have m7 : ¬ (y : Int32).toInt = 7 := fun z => hs7 (Int32.toInt_inj.mp (by rw [z]; decide))
      omega
    refine aw_tabOut (tg := 120) nd_N_note_17 hout (by decide) ?_
    refine aw_iconst (pc' := 121) (x := -1) nd_N_note_120 rfl (by decide) ?_
    refine aw_ireturn nd_N_note_121 rfl rfl (Nat.le_of_ble_eq_true rfl) (Nat.le_of_ble_eq_true rfl) ?_
    first
      | (simpa [ntA] using hq)
      | (simpa [ntA, *] using hq)
      | (simpa [ntA, hb101] using hq)
      | (simpa [ntA, hb101, hb111] using hq)
  · skip
    refine aw_iconst (pc' := 8) (x := -1) nd_N_note_7 rfl (by decide) ?_
    refine aw_ireturn nd_N_note_8 rfl rfl (Nat.le_of_ble_eq_true rfl) (Nat.le_of_ble_eq_true rfl) ?_
    exact hq0 (bi_f hb4)

def oD (μ : nMem) (k : Nat) : Int32 := if μ.1 (nC k) 4 = 0 then μ.1 (nC k) 7 else 2
def clr (μ : nMem) (k : Nat) : nMem := ms (ms (ms (ms (ms (ms μ (nN k) 1 0) (nN k) 2 0) (nN k) 3 0) (nN k) 5 0) (nN k) 6 0) (nN k) 7 0
def mkB (m : nMem) (k : Nat) (v : Int32) : nMem := if m.1 (nC k) 4 = 0 ∧ m.1 (nC k) 6 = v then m else ms m (nC k) 8 (m.1 0 6)
def mkI (μ : nMem) (k o : Nat) (v y : Int32) : nMem := clr (ms (ms (ms (mkB (srv μ o) k v) (nC k) 4 0) (nC k) 6 v) (nC k) 7 y) k

theorem c_N_makeInput {L : Nat} {xs : Nat → Int32} {d : Nat} {Q : ax_Q} {μ : nMem} {k o : Nat} {v y : Int32} (hk : k < 12) (ho : oD μ k = nI o) (ho3 : o < 3) (hq : Q none (ns_rep (mkI μ k o v y))) : nM L xs (d + 2) 13 [.ref 0, .ref (nC k), .int v, .int y] (ns_rep μ) Q := by
  refine nM.of ns_I_N_makeInput rfl (ls := [_, _, _, _]) (Nat.le_of_ble_eq_true rfl) rfl ?_
  refine aw_aload_n (pc' := 1) nd_N_makeInput_0 rfl rfl rfl ?_
  refine aw_aload_n (pc' := 2) nd_N_makeInput_1 rfl rfl rfl ?_
  refine aw_callV (pc' := 5) (as := []) (st := [_]) nd_N_makeInput_2 rfl nC_0_144 ⟨(Nat.le_of_ble_eq_true rfl), rfl, rfl⟩ (ns_ioC (by assumption)) (Nat.le_of_ble_eq_true rfl) (Nat.le_of_ble_eq_true rfl) (Nat.le_of_ble_eq_true rfl) ?_
  refine c_C_own hk ?_
  rw [show (if μ.1 (nC k) 4 = 0 then μ.1 (nC k) 7 else 2) = nI o from ho]
  show nW _ _ _ _ _ 5 _ [_, _] _ _ _
  refine aw_callV (pc' := 8) (as := [_]) (st := []) nd_N_makeInput_5 rfl nC_0_147 ⟨(Nat.le_of_ble_eq_true rfl), rfl, rfl⟩ ns_ioN (Nat.le_of_ble_eq_true rfl) (Nat.le_of_ble_eq_true rfl) (Nat.le_of_ble_eq_true rfl) ?_
  refine c_N_startRevision ho3 ?_
  show nW _ _ _ _ _ 8 _ [] _ _ _
  refine aw_aload_n (pc' := 9) nd_N_makeInput_8 rfl rfl rfl ?_
  refine aw_get (pc' := 12) nd_N_makeInput_9 rfl nF_0_84 (g_C_hasFormula (by assumption)) ?_
  refine aw_if_ne (pc' := 15) (tg := 23) nd_N_makeInput_12 (by decide) rfl (fun hb12 => ?_) (fun hb12 => ?_)
  · skip
    refine aw_aload_n (pc' := 24) nd_N_makeInput_23 rfl rfl rfl ?_
    refine aw_aload_n (pc' := 25) nd_N_makeInput_24 rfl rfl rfl ?_
    refine aw_get (pc' := 28) nd_N_makeInput_25 rfl nF_0_52 g_N_now ?_
    refine aw_put (pc' := 31) nd_N_makeInput_28 rfl nF_0_157 trivial (p_C_inputSince (by assumption)) ?_
    refine aw_aload_n (pc' := 32) nd_N_makeInput_31 rfl rfl rfl ?_
    refine aw_iconst (pc' := 33) (x := 0) nd_N_makeInput_32 rfl (by decide) ?_
    refine aw_put (pc' := 36) nd_N_makeInput_33 rfl nF_0_84 (by first | exact Or.inl rfl | exact Or.inr rfl | assumption) (p_C_hasFormula (by assumption)) ?_
    refine aw_aload_n (pc' := 37) nd_N_makeInput_36 rfl rfl rfl ?_
    refine aw_iload_n (pc' := 38) nd_N_makeInput_37 rfl rfl ?_
    refine aw_put (pc' := 41) nd_N_makeInput_38 rfl nF_0_88 trivial (p_C_number (by assumption)) ?_
    refine aw_aload_n (pc' := 42) nd_N_makeInput_41 rfl rfl rfl ?_
    refine aw_iload_n (pc' := 43) nd_N_makeInput_42 rfl rfl ?_
    refine aw_put (pc' := 46) nd_N_makeInput_43 rfl nF_0_91 trivial (p_C_durability (by assumption)) ?_
    refine aw_aload_n (pc' := 47) nd_N_makeInput_46 rfl rfl rfl ?_
    refine aw_get (pc' := 50) nd_N_makeInput_47 rfl nF_0_113 (g_C_note (by assumption)) ?_
    refine aw_callV (pc' := 53) (as := []) (st := []) nd_N_makeInput_50 rfl nC_0_160 ⟨(Nat.le_of_ble_eq_true rfl), rfl, rfl⟩ (ns_ioO (by assumption)) (Nat.le_of_ble_eq_true rfl) (Nat.le_of_ble_eq_true rfl) (Nat.le_of_ble_eq_true rfl) ?_
    refine c_O_clear hk ?_
    show nW _ _ _ _ _ 53 _ [] _ _ _
    refine aw_return nd_N_makeInput_53 rfl (Nat.le_of_ble_eq_true rfl) (Nat.le_of_ble_eq_true rfl) ?_
    first
      | simpa [mkI, mkB, clr, hb12] using hq
      | simpa [mkI, mkB, clr, hb12, hb20] using hq
  · skip
    refine aw_aload_n (pc' := 16) nd_N_makeInput_15 rfl rfl rfl ?_
    refine aw_get (pc' := 19) nd_N_makeInput_16 rfl nF_0_88 (g_C_number (by assumption)) ?_
    refine aw_iload_n (pc' := 20) nd_N_makeInput_19 rfl rfl ?_
    refine aw_icmp_eq (pc' := 23) (tg := 31) nd_N_makeInput_20 (by decide) rfl (fun hb20 => ?_) (fun hb20 => ?_)
    · skip
      refine aw_aload_n (pc' := 32) nd_N_makeInput_31 rfl rfl rfl ?_
      refine aw_iconst (pc' := 33) (x := 0) nd_N_makeInput_32 rfl (by decide) ?_
      refine aw_put (pc' := 36) nd_N_makeInput_33 rfl nF_0_84 (by first | exact Or.inl rfl | exact Or.inr rfl | assumption) (p_C_hasFormula (by assumption)) ?_
      refine aw_aload_n (pc' := 37) nd_N_makeInput_36 rfl rfl rfl ?_
      refine aw_iload_n (pc' := 38) nd_N_makeInput_37 rfl rfl ?_
      refine aw_put (pc' := 41) nd_N_makeInput_38 rfl nF_0_88 trivial (p_C_number (by assumption)) ?_
      refine aw_aload_n (pc' := 42) nd_N_makeInput_41 rfl rfl rfl ?_
      refine aw_iload_n (pc' := 43) nd_N_makeInput_42 rfl rfl ?_
      refine aw_put (pc' := 46) nd_N_makeInput_43 rfl nF_0_91 trivial (p_C_durability (by assumption)) ?_
      refine aw_aload_n (pc' := 47) nd_N_makeInput_46 rfl rfl rfl ?_
      refine aw_get (pc' := 50) nd_N_makeInput_47 rfl nF_0_113 (g_C_note (by assumption)) ?_
      refine aw_callV (pc' := 53) (as := []) (st := []) nd_N_makeInput_50 rfl nC_0_160 ⟨(Nat.le_of_ble_eq_true rfl), rfl, rfl⟩ (ns_ioO (by assumption)) (Nat.le_of_ble_eq_true rfl) (Nat.le_of_ble_eq_true rfl) (Nat.le_of_ble_eq_true rfl) ?_
      refine c_O_clear hk ?_
      show nW _ _ _ _ _ 53 _ [] _ _ _
      refine aw_return nd_N_makeInput_53 rfl (Nat.le_of_ble_eq_true rfl) (Nat.le_of_ble_eq_true rfl) ?_
      first
        | simpa [mkI, mkB, clr, hb12] using hq
        | simpa [mkI, mkB, clr, hb12, hb20] using hq
    · skip
      refine aw_aload_n (pc' := 24) nd_N_makeInput_23 rfl rfl rfl ?_
      refine aw_aload_n (pc' := 25) nd_N_makeInput_24 rfl rfl rfl ?_
      refine aw_get (pc' := 28) nd_N_makeInput_25 rfl nF_0_52 g_N_now ?_
      refine aw_put (pc' := 31) nd_N_makeInput_28 rfl nF_0_157 trivial (p_C_inputSince (by assumption)) ?_
      refine aw_aload_n (pc' := 32) nd_N_makeInput_31 rfl rfl rfl ?_
      refine aw_iconst (pc' := 33) (x := 0) nd_N_makeInput_32 rfl (by decide) ?_
      refine aw_put (pc' := 36) nd_N_makeInput_33 rfl nF_0_84 (by first | exact Or.inl rfl | exact Or.inr rfl | assumption) (p_C_hasFormula (by assumption)) ?_
      refine aw_aload_n (pc' := 37) nd_N_makeInput_36 rfl rfl rfl ?_
      refine aw_iload_n (pc' := 38) nd_N_makeInput_37 rfl rfl ?_
      refine aw_put (pc' := 41) nd_N_makeInput_38 rfl nF_0_88 trivial (p_C_number (by assumption)) ?_
      refine aw_aload_n (pc' := 42) nd_N_makeInput_41 rfl rfl rfl ?_
      refine aw_iload_n (pc' := 43) nd_N_makeInput_42 rfl rfl ?_
      refine aw_put (pc' := 46) nd_N_makeInput_43 rfl nF_0_91 trivial (p_C_durability (by assumption)) ?_
      refine aw_aload_n (pc' := 47) nd_N_makeInput_46 rfl rfl rfl ?_
      refine aw_get (pc' := 50) nd_N_makeInput_47 rfl nF_0_113 (g_C_note (by assumption)) ?_
      refine aw_callV (pc' := 53) (as := []) (st := []) nd_N_makeInput_50 rfl nC_0_160 ⟨(Nat.le_of_ble_eq_true rfl), rfl, rfl⟩ (ns_ioO (by assumption)) (Nat.le_of_ble_eq_true rfl) (Nat.le_of_ble_eq_true rfl) (Nat.le_of_ble_eq_true rfl) ?_
      refine c_O_clear hk ?_
      show nW _ _ _ _ _ 53 _ [] _ _ _
      refine aw_return nd_N_makeInput_53 rfl (Nat.le_of_ble_eq_true rfl) (Nat.le_of_ble_eq_true rfl) ?_
      first
        | simpa [mkI, mkB, clr, hb12] using hq
        | simpa [mkI, mkB, clr, hb12, hb20] using hq

theorem c_N_set {L : Nat} {xs : Nat → Int32} {d : Nat} {Q : ax_Q} {μ : nMem} {x v y : Int32} (hq0 : (ic x = false ∨ idr y = false) → Q (some (.int 0)) (ns_rep μ)) (hd : ∀ j, j < 12 → ∃ o, oD μ j = nI o ∧ o < 3) (hq1 : ∀ j e, j < 12 → e < 3 → x = nI j → y = nI e → μ.1 (nC j) 4 = 0 → μ.1 (nC j) 6 = v → μ.1 (nC j) 7 = y → Q (some (.int 1)) (ns_rep μ)) (hq2 : ∀ j e o, j < 12 → e < 3 → x = nI j → y = nI e → ¬ (μ.1 (nC j) 4 = 0 ∧ μ.1 (nC j) 6 = v ∧ μ.1 (nC j) 7 = y) → oD μ j = nI o → o < 3 → Q (some (.int 1)) (ns_rep (mkI μ j o v y))) : nM L xs (d + 3) 3 [.ref 0, .int x, .int v, .int y] (ns_rep μ) Q := by
  refine nM.of ns_I_N_set rfl (ls := [_, _, _, _, _]) (Nat.le_of_ble_eq_true rfl) rfl ?_
  refine aw_iload_n (pc' := 1) nd_N_set_0 rfl rfl ?_
  refine aw_callS (a := 0) (pc' := 4) (as := [_]) (st := []) nd_N_set_1 rfl nC_0_62 ⟨(Nat.le_of_ble_eq_true rfl), rfl, rfl⟩ (Nat.le_of_ble_eq_true rfl) (Nat.le_of_ble_eq_true rfl) (Nat.le_of_ble_eq_true rfl) ?_
  refine c_N_isCell ?_
  change nW _ _ _ _ _ _ _ ((some (Value.int (bi (ic x)))).toList ++ _) _ _ _
  show nW _ _ _ _ _ 4 _ [_] _ _ _
  refine aw_if_eq (pc' := 7) (tg := 14) nd_N_set_4 (by decide) rfl (fun hb4 => ?_) (fun hb4 => ?_)
  · skip
    refine aw_iconst (pc' := 15) (x := 0) nd_N_set_14 rfl (by decide) ?_
    refine aw_ireturn nd_N_set_15 rfl (by first | rfl | assumption) (Nat.le_of_ble_eq_true rfl) (Nat.le_of_ble_eq_true rfl) ?_
    first
      | exact hq0 (Or.inl (bi_f hb4))
      | exact hq0 (Or.inr (bi_f hb11))
  · skip
    refine aw_iload_n (pc' := 8) nd_N_set_7 rfl rfl ?_
    refine aw_callS (a := 0) (pc' := 11) (as := [_]) (st := []) nd_N_set_8 rfl nC_0_81 ⟨(Nat.le_of_ble_eq_true rfl), rfl, rfl⟩ (Nat.le_of_ble_eq_true rfl) (Nat.le_of_ble_eq_true rfl) (Nat.le_of_ble_eq_true rfl) ?_
    refine c_N_isDur ?_
    change nW _ _ _ _ _ _ _ ((some (Value.int (bi (idr y)))).toList ++ _) _ _ _
    show nW _ _ _ _ _ 11 _ [_] _ _ _
    refine aw_if_ne (pc' := 14) (tg := 16) nd_N_set_11 (by decide) rfl (fun hb11 => ?_) (fun hb11 => ?_)
    · skip
      obtain ⟨j, hj, rfl⟩ := ic_t (bi_t hb4)
      obtain ⟨e, he, rfl⟩ := idr_t (bi_t hb11)
      obtain ⟨o, ho, ho3⟩ := hd j hj
      refine aw_aload_n (pc' := 17) nd_N_set_16 rfl rfl rfl ?_
      refine aw_get (pc' := 20) nd_N_set_17 rfl nF_0_24 g_N_cells ?_
      refine aw_iload_n (pc' := 21) nd_N_set_20 rfl rfl ?_
      refine aw_cells (pc' := 22) nd_N_set_21 rfl j rfl hj ?_
      refine aw_astore (pc' := 24) (ls' := [_, _, _, _, _]) nd_N_set_22 rfl rfl (Nat.le_of_ble_eq_true rfl) rfl ?_
      refine aw_aload (pc' := 26) nd_N_set_24 rfl rfl rfl ?_
      refine aw_get (pc' := 29) nd_N_set_26 rfl nF_0_84 (g_C_hasFormula (by assumption)) ?_
      refine aw_if_ne (pc' := 32) (tg := 50) nd_N_set_29 (by decide) rfl (fun hb29 => ?_) (fun hb29 => ?_)
      · skip
        refine aw_aload_n (pc' := 51) nd_N_set_50 rfl rfl rfl ?_
        refine aw_aload (pc' := 53) nd_N_set_51 rfl rfl rfl ?_
        refine aw_iload_n (pc' := 54) nd_N_set_53 rfl rfl ?_
        refine aw_iload_n (pc' := 55) nd_N_set_54 rfl rfl ?_
        refine aw_callV (pc' := 58) (as := [_, _, _]) (st := []) nd_N_set_55 rfl nC_0_94 ⟨(Nat.le_of_ble_eq_true rfl), rfl, rfl⟩ ns_ioN (Nat.le_of_ble_eq_true rfl) (Nat.le_of_ble_eq_true rfl) (Nat.le_of_ble_eq_true rfl) ?_
        refine c_N_makeInput hj ho ho3 ?_
        show nW _ _ _ _ _ 58 _ [] _ _ _
        refine aw_iconst (pc' := 59) (x := 1) nd_N_set_58 rfl (by decide) ?_
        refine aw_ireturn nd_N_set_59 rfl (by first | rfl | assumption) (Nat.le_of_ble_eq_true rfl) (Nat.le_of_ble_eq_true rfl) ?_
        first
          | exact hq1 j e hj he rfl rfl hb29 hb38 hb47
          | exact hq2 j e o hj he rfl rfl (fun z => hb29 z.1) ho ho3
          | exact hq2 j e o hj he rfl rfl (fun z => hb38 z.2.1) ho ho3
          | exact hq2 j e o hj he rfl rfl (fun z => hb47 z.2.2) ho ho3
      · skip
        refine aw_aload (pc' := 34) nd_N_set_32 rfl rfl rfl ?_
        refine aw_get (pc' := 37) nd_N_set_34 rfl nF_0_88 (g_C_number (by assumption)) ?_
        refine aw_iload_n (pc' := 38) nd_N_set_37 rfl rfl ?_
        refine aw_icmp_ne (pc' := 41) (tg := 50) nd_N_set_38 (by decide) rfl (fun hb38 => ?_) (fun hb38 => ?_)
        · skip
          refine aw_aload_n (pc' := 51) nd_N_set_50 rfl rfl rfl ?_
          refine aw_aload (pc' := 53) nd_N_set_51 rfl rfl rfl ?_
          refine aw_iload_n (pc' := 54) nd_N_set_53 rfl rfl ?_
          refine aw_iload_n (pc' := 55) nd_N_set_54 rfl rfl ?_
          refine aw_callV (pc' := 58) (as := [_, _, _]) (st := []) nd_N_set_55 rfl nC_0_94 ⟨(Nat.le_of_ble_eq_true rfl), rfl, rfl⟩ ns_ioN (Nat.le_of_ble_eq_true rfl) (Nat.le_of_ble_eq_true rfl) (Nat.le_of_ble_eq_true rfl) ?_
          refine c_N_makeInput hj ho ho3 ?_
          show nW _ _ _ _ _ 58 _ [] _ _ _
          refine aw_iconst (pc' := 59) (x := 1) nd_N_set_58 rfl (by decide) ?_
          refine aw_ireturn nd_N_set_59 rfl (by first | rfl | assumption) (Nat.le_of_ble_eq_true rfl) (Nat.le_of_ble_eq_true rfl) ?_
          first
            | exact hq1 j e hj he rfl rfl hb29 hb38 hb47
            | exact hq2 j e o hj he rfl rfl (fun z => hb29 z.1) ho ho3
            | exact hq2 j e o hj he rfl rfl (fun z => hb38 z.2.1) ho ho3
            | exact hq2 j e o hj he rfl rfl (fun z => hb47 z.2.2) ho ho3
        · skip
          refine aw_aload (pc' := 43) nd_N_set_41 rfl rfl rfl ?_
          refine aw_get (pc' := 46) nd_N_set_43 rfl nF_0_91 (g_C_durability (by assumption)) ?_
          refine aw_iload_n (pc' := 47) nd_N_set_46 rfl rfl ?_
          refine aw_icmp_eq (pc' := 50) (tg := 58) nd_N_set_47 (by decide) rfl (fun hb47 => ?_) (fun hb47 => ?_)
          · skip
            refine aw_iconst (pc' := 59) (x := 1) nd_N_set_58 rfl (by decide) ?_
            refine aw_ireturn nd_N_set_59 rfl (by first | rfl | assumption) (Nat.le_of_ble_eq_true rfl) (Nat.le_of_ble_eq_true rfl) ?_
            first
              | exact hq1 j e hj he rfl rfl hb29 hb38 hb47
              | exact hq2 j e o hj he rfl rfl (fun z => hb29 z.1) ho ho3
              | exact hq2 j e o hj he rfl rfl (fun z => hb38 z.2.1) ho ho3
              | exact hq2 j e o hj he rfl rfl (fun z => hb47 z.2.2) ho ho3
          · skip
            refine aw_aload_n (pc' := 51) nd_N_set_50 rfl rfl rfl ?_
            refine aw_aload (pc' := 53) nd_N_set_51 rfl rfl rfl ?_
            refine aw_iload_n (pc' := 54) nd_N_set_53 rfl rfl ?_
            refine aw_iload_n (pc' := 55) nd_N_set_54 rfl rfl ?_
            refine aw_callV (pc' := 58) (as := [_, _, _]) (st := []) nd_N_set_55 rfl nC_0_94 ⟨(Nat.le_of_ble_eq_true rfl), rfl, rfl⟩ ns_ioN (Nat.le_of_ble_eq_true rfl) (Nat.le_of_ble_eq_true rfl) (Nat.le_of_ble_eq_true rfl) ?_
            refine c_N_makeInput hj ho ho3 ?_
            show nW _ _ _ _ _ 58 _ [] _ _ _
            refine aw_iconst (pc' := 59) (x := 1) nd_N_set_58 rfl (by decide) ?_
            refine aw_ireturn nd_N_set_59 rfl (by first | rfl | assumption) (Nat.le_of_ble_eq_true rfl) (Nat.le_of_ble_eq_true rfl) ?_
            first
              | exact hq1 j e hj he rfl rfl hb29 hb38 hb47
              | exact hq2 j e o hj he rfl rfl (fun z => hb29 z.1) ho ho3
              | exact hq2 j e o hj he rfl rfl (fun z => hb38 z.2.1) ho ho3
              | exact hq2 j e o hj he rfl rfl (fun z => hb47 z.2.2) ho ho3
    · skip
      refine aw_iconst (pc' := 15) (x := 0) nd_N_set_14 rfl (by decide) ?_
      refine aw_ireturn nd_N_set_15 rfl (by first | rfl | assumption) (Nat.le_of_ble_eq_true rfl) (Nat.le_of_ble_eq_true rfl) ?_
      first
        | exact hq0 (Or.inl (bi_f hb4))
        | exact hq0 (Or.inr (bi_f hb11))

def mh (c : Int32) : Bool := isLet c || isDig c || decide (¬ ax_ix c < 0)

theorem c_F_mayHold {L : Nat} {xs : Nat → Int32} {d : Nat} {Q : ax_Q} {c : Int32} {h : ax_H} (hq : Q (some (.int (bi (mh c)))) h) : nM L xs (d + 9) 80 [.int c] h Q := by
  refine nM.of ns_I_F_mayHold rfl (ls := [_]) (Nat.le_of_ble_eq_true rfl) rfl ?_
  refine aw_iload_n (pc' := 1) nd_F_mayHold_0 rfl rfl ?_
  refine aw_callS (a := 0) (pc' := 4) (as := [_]) (st := []) nd_F_mayHold_1 rfl nC_2_19 ⟨(Nat.le_of_ble_eq_true rfl), rfl, rfl⟩ (Nat.le_of_ble_eq_true rfl) (Nat.le_of_ble_eq_true rfl) (Nat.le_of_ble_eq_true rfl) ?_
  refine c_F_isLetter ?_
  show nW _ _ _ _ _ 4 _ [_] _ _ _
  refine aw_if_ne (pc' := 7) (tg := 23) nd_F_mayHold_4 (by decide) rfl (fun hb4 => ?_) (fun hb4 => ?_)
  · skip
    refine aw_iconst (pc' := 24) (x := 1) nd_F_mayHold_23 rfl (by decide) ?_
    refine aw_goto (pc' := 28) nd_F_mayHold_24 (by decide) ?_
    refine aw_ireturn nd_F_mayHold_28 rfl (by first | rfl | assumption) (Nat.le_of_ble_eq_true rfl) (Nat.le_of_ble_eq_true rfl) ?_
    first
      | (simpa [mh, bi_t hb4, bi] using hq)
      | (simpa [mh, bi_f hb4, bi_t hb11, bi] using hq)
      | (simpa [mh, bi_f hb4, bi_f hb11, hb20, bi] using hq)
      | (have h0 := Int32.not_lt.mp hb20; simpa [mh, bi_f hb4, bi_f hb11, h0, hb20, bi] using hq)
  · skip
    refine aw_iload_n (pc' := 8) nd_F_mayHold_7 rfl rfl ?_
    refine aw_callS (a := 0) (pc' := 11) (as := [_]) (st := []) nd_F_mayHold_8 rfl nC_2_23 ⟨(Nat.le_of_ble_eq_true rfl), rfl, rfl⟩ (Nat.le_of_ble_eq_true rfl) (Nat.le_of_ble_eq_true rfl) (Nat.le_of_ble_eq_true rfl) ?_
    refine c_F_isDigit ?_
    show nW _ _ _ _ _ 11 _ [_] _ _ _
    refine aw_if_ne (pc' := 14) (tg := 23) nd_F_mayHold_11 (by decide) rfl (fun hb11 => ?_) (fun hb11 => ?_)
    · skip
      refine aw_iconst (pc' := 24) (x := 1) nd_F_mayHold_23 rfl (by decide) ?_
      refine aw_goto (pc' := 28) nd_F_mayHold_24 (by decide) ?_
      refine aw_ireturn nd_F_mayHold_28 rfl (by first | rfl | assumption) (Nat.le_of_ble_eq_true rfl) (Nat.le_of_ble_eq_true rfl) ?_
      first
        | (simpa [mh, bi_t hb4, bi] using hq)
        | (simpa [mh, bi_f hb4, bi_t hb11, bi] using hq)
        | (simpa [mh, bi_f hb4, bi_f hb11, hb20, bi] using hq)
        | (have h0 := Int32.not_lt.mp hb20; simpa [mh, bi_f hb4, bi_f hb11, h0, hb20, bi] using hq)
    · skip
      refine aw_ldcS (pc' := 16) nd_F_mayHold_14 rfl nK_2_26 ?_
      refine aw_iload_n (pc' := 17) nd_F_mayHold_16 rfl rfl ?_
      refine aw_indexOf (pc' := 20) nd_F_mayHold_17 rfl nC_2_28 (by omega) (Nat.le_of_ble_eq_true rfl) ?_
      refine aw_if_lt (pc' := 23) (tg := 27) nd_F_mayHold_20 (by decide) rfl (fun hb20 => ?_) (fun hb20 => ?_)
      · skip
        refine aw_iconst (pc' := 28) (x := 0) nd_F_mayHold_27 rfl (by decide) ?_
        refine aw_ireturn nd_F_mayHold_28 rfl (by first | rfl | assumption) (Nat.le_of_ble_eq_true rfl) (Nat.le_of_ble_eq_true rfl) ?_
        first
          | (simpa [mh, bi_t hb4, bi] using hq)
          | (simpa [mh, bi_f hb4, bi_t hb11, bi] using hq)
          | (simpa [mh, bi_f hb4, bi_f hb11, hb20, bi] using hq)
          | (have h0 := Int32.not_lt.mp hb20; simpa [mh, bi_f hb4, bi_f hb11, h0, hb20, bi] using hq)
      · skip
        refine aw_iconst (pc' := 24) (x := 1) nd_F_mayHold_23 rfl (by decide) ?_
        refine aw_goto (pc' := 28) nd_F_mayHold_24 (by decide) ?_
        refine aw_ireturn nd_F_mayHold_28 rfl (by first | rfl | assumption) (Nat.le_of_ble_eq_true rfl) (Nat.le_of_ble_eq_true rfl) ?_
        first
          | (simpa [mh, bi_t hb4, bi] using hq)
          | (simpa [mh, bi_f hb4, bi_t hb11, bi] using hq)
          | (simpa [mh, bi_f hb4, bi_f hb11, hb20, bi] using hq)
          | (have h0 := Int32.not_lt.mp hb20; simpa [mh, bi_f hb4, bi_f hb11, h0, hb20, bi] using hq)

theorem c_N_type {L : Nat} {xs : Nat → Int32} {d : Nat} {Q : ax_Q} {μ : nMem} {c : Int32} {n : Nat} (hn : μ.1 (nF 12) 2 = nI n) (hle : n ≤ 30) (hc : vp_nar .char c = c) (hq1 : mh c = true → n < 30 → Q (some (.int 1)) (ns_rep (ms (ms μ (nT 12) n c) (nF 12) 2 (nI (n + 1))))) (hq0 : (mh c = false ∨ n = 30) → Q (some (.int 0)) (ns_rep μ)) : nM L xs (d + 10) 1 [.ref 0, .int c] (ns_rep μ) Q := by
  refine nM.of ns_I_N_type rfl (ls := [_, _]) (Nat.le_of_ble_eq_true rfl) rfl ?_
  refine aw_iload_n (pc' := 1) nd_N_type_0 rfl rfl ?_
  refine aw_callS (a := 0) (pc' := 4) (as := [_]) (st := []) nd_N_type_1 rfl nC_0_55 ⟨(Nat.le_of_ble_eq_true rfl), rfl, rfl⟩ (Nat.le_of_ble_eq_true rfl) (Nat.le_of_ble_eq_true rfl) (Nat.le_of_ble_eq_true rfl) ?_
  refine c_F_mayHold ?_
  show nW _ _ _ _ _ 4 _ [_] _ _ _
  refine aw_if_eq (pc' := 7) (tg := 22) nd_N_type_4 (by decide) rfl (fun hb4 => ?_) (fun hb4 => ?_)
  · skip
    refine aw_iconst (pc' := 23) (x := 0) nd_N_type_22 rfl (by decide) ?_
    refine aw_ireturn nd_N_type_23 rfl (by first | rfl | assumption) (Nat.le_of_ble_eq_true rfl) (Nat.le_of_ble_eq_true rfl) ?_
    exact hq0 (Or.inl (bi_f hb4))
  · skip
    refine aw_aload_n (pc' := 8) nd_N_type_7 rfl rfl rfl ?_
    refine aw_get (pc' := 11) nd_N_type_8 rfl nF_0_39 g_N_pad ?_
    refine aw_iload_n (pc' := 12) nd_N_type_11 rfl rfl ?_
    refine aw_callV (pc' := 15) (as := [_]) (st := []) nd_N_type_12 rfl nC_0_59 ⟨(Nat.le_of_ble_eq_true rfl), rfl, rfl⟩ (ns_ioF (by decide)) (Nat.le_of_ble_eq_true rfl) (Nat.le_of_ble_eq_true rfl) (Nat.le_of_ble_eq_true rfl) ?_
    refine c_F_append (by decide) hn hle hc (fun hlt => ?_) (fun heq => ?_)
    · show nW _ _ _ _ _ 15 _ [_] _ _ _
      refine aw_if_eq (pc' := 18) (tg := 22) nd_N_type_15 (by decide) rfl (fun hx => absurd hx (by decide)) (fun _ => ?_)
      refine aw_iconst (pc' := 19) (x := 1) nd_N_type_18 rfl (by decide) ?_
      refine aw_goto (pc' := 23) nd_N_type_19 (by decide) ?_
      refine aw_ireturn nd_N_type_23 rfl rfl (Nat.le_of_ble_eq_true rfl) (Nat.le_of_ble_eq_true rfl) ?_
      exact hq1 (bi_t hb4) hlt
    · show nW _ _ _ _ _ 15 _ [_] _ _ _
      refine aw_if_eq (pc' := 18) (tg := 22) nd_N_type_15 (by decide) rfl (fun _ => ?_) (fun hx => absurd rfl hx)
      refine aw_iconst (pc' := 23) (x := 0) nd_N_type_22 rfl (by decide) ?_
      refine aw_ireturn nd_N_type_23 rfl rfl (Nat.le_of_ble_eq_true rfl) (Nat.le_of_ble_eq_true rfl) ?_
      exact hq0 (Or.inr heq)
end
section
/-! the parser: its mathematics (recursive descent over a text t of n characters), and what its memory holds -/
abbrev pC : Type := List (Nat × Nat)
abbrev pR : Type := Bool × Nat × pC
def nx (t : Nat → Int32) (n i : Nat) : Int32 := if i < n then t i else 0
def dg (c : Int32) : Nat := (c - 48).toNatClampNeg
def la (c : Int32) : Nat := (c - 65).toNatClampNeg
/-- at most g digits more: where it ends, and the number -/
def pn (t : Nat → Int32) (n : Nat) : Nat → Nat → Nat → Nat × Nat
  | 0, i, v => (i, v)
  | g + 1, i, v => if isDig (nx t n i) = true then pn t n g (i + 1) (v * 10 + dg (nx t n i)) else (i, v)
def jmp (cs : pC) (j : Nat) : pC := cs.set j ((cs.getD j (0, 0)).1, cs.length)
section PP
variable (t : Nat → Int32) (n : Nat)
def pPl (U : Nat → Nat → pC → pR) : Nat → Nat → Nat → pC → pR
  | 0, _, i, cs => (true, i, cs)
  | g + 1, dp, i, cs => if nx t n i = 42 then (match U dp (i + 1) cs with
      | (true, i1, cs1) => pPl U g dp i1 (cs1 ++ [(8, 0)])
      | (false, i1, cs1) => (false, i1, cs1)) else (true, i, cs)
def pP (U : Nat → Nat → pC → pR) (dp i : Nat) (cs : pC) : pR := match U dp i cs with
  | (true, i1, cs1) => pPl t n U 30 dp i1 cs1
  | (false, i1, cs1) => (false, i1, cs1)
def pSl (U : Nat → Nat → pC → pR) : Nat → Nat → Nat → pC → pR
  | 0, _, i, cs => (true, i, cs)
  | g + 1, dp, i, cs => if nx t n i = 43 ∨ nx t n i = 45 then (match pP t n U dp (i + 1) cs with
      | (true, i1, cs1) => pSl U g dp i1 (cs1 ++ [(if nx t n i = 43 then 6 else 7, 0)])
      | (false, i1, cs1) => (false, i1, cs1)) else (true, i, cs)
def pS (U : Nat → Nat → pC → pR) (dp i : Nat) (cs : pC) : pR := match pP t n U dp i cs with
  | (true, i1, cs1) => pSl t n U 30 dp i1 cs1
  | (false, i1, cs1) => (false, i1, cs1)
/-- behind '?' -/
def pB (F : Nat → Nat → pC → pR) (dp i : Nat) (cs : pC) : pR := match F dp i (cs ++ [(4, 0)]) with
  | (false, i1, cs1) => (false, i1, cs1)
  | (true, i1, cs1) => if nx t n i1 = 58 then (match F dp (i1 + 1) (jmp (cs1 ++ [(5, 0)]) cs.length) with
      | (false, i2, cs2) => (false, i2, cs2)
      | (true, i2, cs2) => (true, i2, jmp cs2 cs1.length)) else (false, i1, cs1)
/-- behind the first sum, or the comparison -/
def pQ (F : Nat → Nat → pC → pR) (dp i : Nat) (cs : pC) : pR := if nx t n i = 63 then pB t n F dp (i + 1) cs else (true, i, cs)
def pFf (U F : Nat → Nat → pC → pR) (dp i : Nat) (cs : pC) : pR := match pS t n U dp i cs with
  | (false, i1, cs1) => (false, i1, cs1)
  | (true, i1, cs1) => if nx t n i1 = 60 ∨ nx t n i1 = 61 then (match pS t n U dp (i1 + 1) cs1 with
      | (false, i2, cs2) => (false, i2, cs2)
      | (true, i2, cs2) => pQ t n F dp i2 (cs2 ++ [(if nx t n i1 = 60 then 9 else 10, 0)])) else pQ t n F dp i1 cs1
def pUf (U F : Nat → Nat → pC → pR) (dp i : Nat) (cs : pC) : pR :=
  if isLet (nx t n i) = true then (true, i + 1, cs ++ [(1, la (nx t n i))])
  else if isDig (nx t n i) = true then (true, (pn t n 4 i 0).1, cs ++ [(0, (pn t n 4 i 0).2)])
  else if 5 ≤ dp then (false, i, cs)
  else if nx t n i = 40 then (match F (dp + 1) (i + 1) cs with
    | (false, i1, cs1) => (false, i1, cs1)
    | (true, i1, cs1) => if nx t n i1 = 41 then (true, i1 + 1, cs1) else (false, i1, cs1))
  else if nx t n i = 45 ∨ nx t n i = 64 then (match U (dp + 1) (i + 1) cs with
    | (false, i1, cs1) => (false, i1, cs1)
    | (true, i1, cs1) => (true, i1, cs1 ++ [(if nx t n i = 45 then 3 else 2, 0)]))
  else (false, i, cs)
/-- unit and formula, with fuel f: more than the characters that are left -/
def pW : Nat → (Nat → Nat → pC → pR) × (Nat → Nat → pC → pR)
  | 0 => (fun _ i cs => (false, i, cs), fun _ i cs => (false, i, cs))
  | f + 1 => (pUf t n (pW f).1 (pW f).2, pFf t n (pUf t n (pW f).1 (pW f).2) (pW f).2)
end PP
/-! what every part of the parser keeps: it goes forward, not beyond the text, and adds no more steps than it takes characters; steps stay within bounds -/
def pOk (n i : Nat) (cs : pC) (r : pR) : Prop := i ≤ r.2.1 ∧ r.2.1 ≤ n ∧ r.2.2.length + i ≤ cs.length + r.2.1 ∧ cs.length ≤ r.2.2.length
theorem nx_lt {t : Nat → Int32} {n i : Nat} {c : Int32} (h : nx t n i = c) (hc : ¬ c = 0) : i < n := by
  unfold nx at h
  split at h
  · assumption
  · exact absurd h.symm hc
theorem isDig_lt {t : Nat → Int32} {n i : Nat} (h : isDig (nx t n i) = true) : i < n := by
  by_cases hi : i < n
  · exact hi
  · unfold nx at h
    rw [if_neg hi] at h
    exact absurd h (by decide)
theorem isLet_lt {t : Nat → Int32} {n i : Nat} (h : isLet (nx t n i) = true) : i < n := by
  by_cases hi : i < n
  · exact hi
  · unfold nx at h
    rw [if_neg hi] at h
    exact absurd h (by decide)
theorem pn_ok (t : Nat → Int32) (n : Nat) : ∀ (g i v : Nat), i ≤ n → i ≤ (pn t n g i v).1 ∧ (pn t n g i v).1 ≤ n := by
  intro g
  induction g with
  | zero => intro i v h; exact ⟨Nat.le_refl _, h⟩
  | succ g ih =>
    intro i v h
    unfold pn
    split
    · rename_i hd
      have := isDig_lt hd
      have := ih (i + 1) (v * 10 + dg (nx t n i)) (by omega)
      omega
    · exact ⟨Nat.le_refl _, h⟩
theorem pn_one {t : Nat → Int32} {n i : Nat} (h : isDig (nx t n i) = true) : i + 1 ≤ (pn t n 4 i 0).1 ∧ (pn t n 4 i 0).1 ≤ n := by
  have hi := isDig_lt h
  unfold pn
  rw [if_pos h]
  exact pn_ok t n 3 (i + 1) _ (by omega)
section PO
variable {t : Nat → Int32} {n : Nat}
abbrev pAll (n : Nat) (G : Nat → Nat → pC → pR) (f : Nat) : Prop := ∀ dp i cs, i ≤ n → n - i < f → pOk n i cs (G dp i cs)
theorem pPl_ok {U : Nat → Nat → pC → pR} {f : Nat} (hU : pAll n U f) : ∀ g dp i cs, i ≤ n → n - i < f → pOk n i cs (pPl t n U g dp i cs) := by
  intro g
  induction g with
  | zero => intro dp i cs hi hf; exact ⟨Nat.le_refl _, hi, Nat.le_refl _, Nat.le_refl _⟩
  | succ g ih =>
    intro dp i cs hi hf
    unfold pPl
    split
    · rename_i hc
      have hlt := nx_lt hc (by decide)
      have h1 := hU dp (i + 1) cs (by omega) (by omega)
      split
      · rename_i i1 cs1 he
        rw [he] at h1
        obtain ⟨a1, a2, a3, a4⟩ := h1
        dsimp only at a1 a2 a3 a4
        have h2 := ih dp i1 (cs1 ++ [(8, 0)]) a2 (by omega)
        obtain ⟨b1, b2, b3, b4⟩ := h2
        rw [List.length_append, List.length_singleton] at b3 b4
        exact ⟨by omega, b2, by omega, by omega⟩
      · rename_i i1 cs1 he
        rw [he] at h1
        obtain ⟨a1, a2, a3, a4⟩ := h1
        dsimp only at a1 a2 a3 a4
        exact ⟨by dsimp only; omega, a2, by dsimp only; omega, a4⟩
    · exact ⟨Nat.le_refl _, hi, Nat.le_refl _, Nat.le_refl _⟩
theorem pP_ok {U : Nat → Nat → pC → pR} {f : Nat} (hU : pAll n U f) : pAll n (pP t n U) f := by
  intro dp i cs hi hf
  have h1 := hU dp i cs hi hf
  unfold pP
  split
  · rename_i i1 cs1 he
    rw [he] at h1
    obtain ⟨a1, a2, a3, a4⟩ := h1
    dsimp only at a1 a2 a3 a4
    obtain ⟨b1, b2, b3, b4⟩ := pPl_ok (t := t) hU 30 dp i1 cs1 a2 (by omega)
    exact ⟨by omega, b2, by omega, by omega⟩
  · rename_i i1 cs1 he
    rw [he] at h1
    exact h1
theorem pSl_ok {U : Nat → Nat → pC → pR} {f : Nat} (hU : pAll n U f) : ∀ g dp i cs, i ≤ n → n - i < f → pOk n i cs (pSl t n U g dp i cs) := by
  intro g
  induction g with
  | zero => intro dp i cs hi hf; exact ⟨Nat.le_refl _, hi, Nat.le_refl _, Nat.le_refl _⟩
  | succ g ih =>
    intro dp i cs hi hf
    unfold pSl
    split
    · rename_i hc
      have hlt : i < n := by rcases hc with hc | hc <;> exact nx_lt hc (by decide)
      have h1 := pP_ok (t := t) hU dp (i + 1) cs (by omega) (by omega)
      split
      · rename_i i1 cs1 he
        rw [he] at h1
        obtain ⟨a1, a2, a3, a4⟩ := h1
        dsimp only at a1 a2 a3 a4
        have h2 := ih dp i1 (cs1 ++ [(if nx t n i = 43 then 6 else 7, 0)]) a2 (by omega)
        obtain ⟨b1, b2, b3, b4⟩ := h2
        rw [List.length_append, List.length_singleton] at b3 b4
        exact ⟨by omega, b2, by omega, by omega⟩
      · rename_i i1 cs1 he
        rw [he] at h1
        obtain ⟨a1, a2, a3, a4⟩ := h1
        dsimp only at a1 a2 a3 a4
        exact ⟨by dsimp only; omega, a2, by dsimp only; omega, a4⟩
    · exact ⟨Nat.le_refl _, hi, Nat.le_refl _, Nat.le_refl _⟩
theorem pS_ok {U : Nat → Nat → pC → pR} {f : Nat} (hU : pAll n U f) : pAll n (pS t n U) f := by
  intro dp i cs hi hf
  have h1 := pP_ok (t := t) hU dp i cs hi hf
  unfold pS
  split
  · rename_i i1 cs1 he
    rw [he] at h1
    obtain ⟨a1, a2, a3, a4⟩ := h1
    dsimp only at a1 a2 a3 a4
    obtain ⟨b1, b2, b3, b4⟩ := pSl_ok (t := t) hU 30 dp i1 cs1 a2 (by omega)
    exact ⟨by omega, b2, by omega, by omega⟩
  · rename_i i1 cs1 he
    rw [he] at h1
    exact h1
theorem jmp_len (cs : pC) (j : Nat) : (jmp cs j).length = cs.length := by simp [jmp]
theorem pQ_ok {F : Nat → Nat → pC → pR} {f : Nat} (hF : pAll n F f) : ∀ dp i cs, i ≤ n → n - i < f + 1 → pOk n i cs (pQ t n F dp i cs) := by
  intro dp i cs hi hf
  unfold pQ
  split
  · rename_i hc
    have hlt := nx_lt hc (by decide)
    unfold pB
    have h1 := hF dp (i + 1) (cs ++ [(4, 0)]) (by omega) (by omega)
    split
    · rename_i i1 cs1 he
      rw [he] at h1
      obtain ⟨a1, a2, a3, a4⟩ := h1
      dsimp only at a1 a2 a3 a4
      rw [List.length_append, List.length_singleton] at a3 a4
      exact ⟨by dsimp only; omega, a2, by dsimp only; omega, by dsimp only; omega⟩
    · rename_i i1 cs1 he
      rw [he] at h1
      obtain ⟨a1, a2, a3, a4⟩ := h1
      dsimp only at a1 a2 a3 a4
      rw [List.length_append, List.length_singleton] at a3 a4
      split
      · rename_i hc2
        have hlt2 := nx_lt hc2 (by decide)
        have h2 := hF dp (i1 + 1) (jmp (cs1 ++ [(5, 0)]) cs.length) (by omega) (by omega)
        split
        · rename_i i2 cs2 he2
          rw [he2] at h2
          obtain ⟨b1, b2, b3, b4⟩ := h2
          dsimp only at b1 b2 b3 b4
          rw [jmp_len, List.length_append, List.length_singleton] at b3 b4
          exact ⟨by dsimp only; omega, b2, by dsimp only; omega, by dsimp only; omega⟩
        · rename_i i2 cs2 he2
          rw [he2] at h2
          obtain ⟨b1, b2, b3, b4⟩ := h2
          dsimp only at b1 b2 b3 b4
          rw [jmp_len, List.length_append, List.length_singleton] at b3 b4
          refine ⟨by dsimp only; omega, b2, ?_, ?_⟩
          · dsimp only; rw [jmp_len]; omega
          · dsimp only; rw [jmp_len]; omega
      · exact ⟨by dsimp only; omega, a2, by dsimp only; omega, by dsimp only; omega⟩
  · exact ⟨Nat.le_refl _, hi, Nat.le_refl _, Nat.le_refl _⟩
theorem pFf_ok {U F : Nat → Nat → pC → pR} {f : Nat} (hU : pAll n U (f + 1)) (hF : pAll n F f) : pAll n (pFf t n U F) (f + 1) := by
  intro dp i cs hi hf
  have h1 := pS_ok (t := t) hU dp i cs hi hf
  unfold pFf
  split
  · rename_i i1 cs1 he
    rw [he] at h1
    exact h1
  · rename_i i1 cs1 he
    rw [he] at h1
    obtain ⟨a1, a2, a3, a4⟩ := h1
    dsimp only at a1 a2 a3 a4
    split
    · rename_i hc
      have hlt : i1 < n := by rcases hc with hc | hc <;> exact nx_lt hc (by decide)
      have h2 := pS_ok (t := t) hU dp (i1 + 1) cs1 (by omega) (by omega)
      split
      · rename_i i2 cs2 he2
        rw [he2] at h2
        obtain ⟨b1, b2, b3, b4⟩ := h2
        dsimp only at b1 b2 b3 b4
        exact ⟨by dsimp only; omega, b2, by dsimp only; omega, by dsimp only; omega⟩
      · rename_i i2 cs2 he2
        rw [he2] at h2
        obtain ⟨b1, b2, b3, b4⟩ := h2
        dsimp only at b1 b2 b3 b4
        obtain ⟨c1, c2, c3, c4⟩ := pQ_ok (t := t) hF dp i2 (cs2 ++ [(if nx t n i1 = 60 then 9 else 10, 0)]) b2 (by omega)
        rw [List.length_append, List.length_singleton] at c3 c4
        exact ⟨by omega, c2, by omega, by omega⟩
    · obtain ⟨c1, c2, c3, c4⟩ := pQ_ok (t := t) hF dp i1 cs1 a2 (by omega)
      exact ⟨by omega, c2, by omega, by omega⟩
theorem pUf_ok {U F : Nat → Nat → pC → pR} {f : Nat} (hU : pAll n U f) (hF : pAll n F f) : pAll n (pUf t n U F) (f + 1) := by
  intro dp i cs hi hf
  unfold pUf
  split
  · rename_i h
    have := isLet_lt h
    refine ⟨by dsimp only; omega, by dsimp only; omega, ?_, ?_⟩ <;> (dsimp only; rw [List.length_append, List.length_singleton]; omega)
  split
  · rename_i h
    have := pn_one h
    refine ⟨by dsimp only; omega, by dsimp only; omega, ?_, ?_⟩ <;> (dsimp only; rw [List.length_append, List.length_singleton]; omega)
  split
  · exact ⟨Nat.le_refl _, hi, Nat.le_refl _, Nat.le_refl _⟩
  split
  · rename_i hc
    have hlt := nx_lt hc (by decide)
    have h1 := hF (dp + 1) (i + 1) cs (by omega) (by omega)
    split
    · rename_i i1 cs1 he
      rw [he] at h1
      obtain ⟨a1, a2, a3, a4⟩ := h1
      dsimp only at a1 a2 a3 a4
      exact ⟨by dsimp only; omega, a2, by dsimp only; omega, a4⟩
    · rename_i i1 cs1 he
      rw [he] at h1
      obtain ⟨a1, a2, a3, a4⟩ := h1
      dsimp only at a1 a2 a3 a4
      split
      · rename_i hc2
        have hlt2 := nx_lt hc2 (by decide)
        exact ⟨by dsimp only; omega, by dsimp only; omega, by dsimp only; omega, a4⟩
      · exact ⟨by dsimp only; omega, a2, by dsimp only; omega, a4⟩
  split
  · rename_i hc
    have hlt : i < n := by rcases hc with hc | hc <;> exact nx_lt hc (by decide)
    have h1 := hU (dp + 1) (i + 1) cs (by omega) (by omega)
    split
    · rename_i i1 cs1 he
      rw [he] at h1
      obtain ⟨a1, a2, a3, a4⟩ := h1
      dsimp only at a1 a2 a3 a4
      exact ⟨by dsimp only; omega, a2, by dsimp only; omega, a4⟩
    · rename_i i1 cs1 he
      rw [he] at h1
      obtain ⟨a1, a2, a3, a4⟩ := h1
      dsimp only at a1 a2 a3 a4
      refine ⟨by dsimp only; omega, a2, ?_, ?_⟩ <;> (dsimp only; rw [List.length_append, List.length_singleton]; omega)
  · exact ⟨Nat.le_refl _, hi, Nat.le_refl _, Nat.le_refl _⟩
theorem pW_ok (t : Nat → Int32) (n : Nat) : ∀ f, pAll n (pW t n f).1 f ∧ pAll n (pW t n f).2 f := by
  intro f
  induction f with
  | zero => exact ⟨fun _ _ _ _ h => absurd h (by omega), fun _ _ _ _ h => absurd h (by omega)⟩
  | succ f ih => exact ⟨pUf_ok ih.1 ih.2, pFf_ok (pUf_ok ih.1 ih.2) ih.2⟩
end PO
end
section
/-! the parser's memory -/
def en (q : Nat × Nat) : Int32 := nI q.1 * 10000 + nI q.2
theorem en_nI (q : Nat × Nat) : en q = nI (q.1 * 10000 + q.2) := by
  have e : (10000 : Int32) = nI 10000 := by decide
  unfold en
  rw [e, pk_mul, nI_add]
theorem en_div {q : Nat × Nat} (h1 : q.1 ≤ 10) (h2 : q.2 < 10000) : en q / 10000 = nI q.1 := by
  have e : (10000 : Int32) = nI 10000 := by decide
  rw [en_nI, e, pk_div (by omega) (by decide) (by decide)]
  congr 1
  omega
theorem en_rem {q : Nat × Nat} (h1 : q.1 ≤ 10) (h2 : q.2 < 10000) : en q - en q / 10000 * 10000 = nI q.2 := by
  have e : (10000 : Int32) = nI 10000 := by decide
  rw [en_nI, e, pk_rem (by omega) (by decide) (by decide)]
  congr 1
  omega
/-- all but the parser's place, the pad's number of steps and its steps is as it was -/
def Pf (μ0 μ : nMem) : Prop := (∀ b, ¬ b = 103 → ¬ b = nF 12 → ¬ b = nS 12 → μ.1 b = μ0.1 b) ∧ (∀ j, ¬ j = 3 → μ.1 (nF 12) j = μ0.1 (nF 12) j) ∧ (∀ j, ¬ j = 1 → μ.1 103 j = μ0.1 103 j) ∧ μ.2 = μ0.2
def PSt (μ0 μ : nMem) (i : Nat) (cs : pC) : Prop := Pf μ0 μ ∧ μ.1 103 1 = nI i ∧ μ.1 (nF 12) 3 = nI cs.length ∧ (∀ j q, cs[j]? = some q → μ.1 (nS 12) j = en q) ∧ ∀ q ∈ cs, q.1 ≤ 10 ∧ q.2 < 10000
/-- the pad's text -/
def PH (μ0 : nMem) (n : Nat) : Prop := μ0.1 (nF 12) 2 = nI n ∧ n ≤ 30 ∧ ∀ j, j < n → vp_nar .char (μ0.1 (nT 12) j) = μ0.1 (nT 12) j
theorem v12F : nF 12 = 100 := rfl
theorem v12S : nS 12 = 102 := rfl
theorem v12T : nT 12 = 101 := rfl
theorem PSt.at {μ0 μ : nMem} {i i' : Nat} {cs : pC} {x : Int32} (h : PSt μ0 μ i cs) (hx : x = nI i') : PSt μ0 (ms μ 103 1 x) i' cs := by
  subst hx
  obtain ⟨⟨p1, p2, p3, p4⟩, h2, h3, h4, h5⟩ := h
  refine ⟨⟨fun b h1 hb2 hb3 => ?_, fun j hj => ?_, fun j hj => ?_, p4⟩, ?_, ?_, fun j q hq => ?_, h5⟩
  · rw [ms_o h1]; exact p1 b h1 hb2 hb3
  · rw [ms_o (by decide)]; exact p2 j hj
  · rw [ms_s, pk_un hj]; exact p3 j hj
  · rw [ms_s, pk_us]
  · rw [ms_o (by decide)]; exact h3
  · rw [ms_o (by decide)]; exact h4 j q hq
theorem PSt.inc {μ0 μ : nMem} {i : Nat} {cs : pC} (h : PSt μ0 μ i cs) : PSt μ0 (ms μ 103 1 (μ.1 103 1 + 1)) (i + 1) cs := h.at (by rw [h.2.1, nI_1])
theorem PSt.add {μ0 μ : nMem} {i : Nat} {cs : pC} {q : Nat × Nat} {x : Int32} (h : PSt μ0 μ i cs) (hx : x = en q) (h1 : q.1 ≤ 10) (h2 : q.2 < 10000) : PSt μ0 (ms (ms μ (nS 12) cs.length x) (nF 12) 3 (nI (cs.length + 1))) i (cs ++ [q]) := by
  subst hx
  obtain ⟨⟨p1, p2, p3, p4⟩, g2, g3, g4, g5⟩ := h
  refine ⟨⟨fun b hb1 hb2 hb3 => ?_, fun j hj => ?_, fun j hj => ?_, p4⟩, ?_, ?_, fun j q' hq => ?_, fun q' hq => ?_⟩
  · rw [ms_o hb2, ms_o hb3]; exact p1 b hb1 hb2 hb3
  · rw [ms_s, pk_un hj, ms_o (by decide)]; exact p2 j hj
  · rw [ms_o (by decide), ms_o (by decide)]; exact p3 j hj
  · rw [ms_o (by decide), ms_o (by decide)]; exact g2
  · rw [ms_s, pk_us, List.length_append, List.length_singleton]
  · rw [ms_o (by decide), ms_s]
    by_cases hj : j = cs.length
    · subst hj
      rw [pk_us]
      rw [List.getElem?_append_right (Nat.le_refl _), Nat.sub_self] at hq
      rw [Option.some.inj hq]
    · rw [pk_un hj]
      have hlt : j < cs.length := by
        have := (List.getElem?_eq_some_iff.mp hq).1
        rw [List.length_append, List.length_singleton] at this
        omega
      rw [List.getElem?_append_left hlt] at hq
      exact g4 j q' hq
  · rcases List.mem_append.mp hq with hq | hq
    · exact g5 q' hq
    · rw [List.mem_singleton.mp hq]; exact ⟨h1, h2⟩
theorem PSt.jm {μ0 μ : nMem} {i j : Nat} {cs : pC} (h : PSt μ0 μ i cs) (hj : j < cs.length) (hl : cs.length ≤ 30) : PSt μ0 (ms μ (nS 12) j (μ.1 (nS 12) j / 10000 * 10000 + μ.1 (nF 12) 3)) i (jmp cs j) := by
  obtain ⟨⟨p1, p2, p3, p4⟩, g2, g3, g4, g5⟩ := h
  have hq0 : cs[j]? = some (cs[j]) := List.getElem?_eq_getElem hj
  have hd : cs.getD j (0, 0) = cs[j] := by simp [List.getD, hq0]
  have hb := g5 _ (List.getElem_mem hj)
  have hv : μ.1 (nS 12) j / 10000 * 10000 + μ.1 (nF 12) 3 = en ((cs.getD j (0, 0)).1, cs.length) := by
    rw [g4 j _ hq0, en_div hb.1 hb.2, g3, hd]
    rfl
  rw [hv]
  refine ⟨⟨fun b hb1 hb2 hb3 => ?_, fun j' hj' => ?_, fun j' hj' => ?_, p4⟩, ?_, ?_, fun j' q' hq => ?_, fun q' hq => ?_⟩
  · rw [ms_o hb3]; exact p1 b hb1 hb2 hb3
  · rw [ms_o (by decide)]; exact p2 j' hj'
  · rw [ms_o (by decide)]; exact p3 j' hj'
  · rw [ms_o (by decide)]; exact g2
  · rw [ms_o (by decide), jmp_len]; exact g3
  · rw [ms_s]
    unfold jmp at hq
    rw [List.getElem?_set] at hq
    split at hq
    · rename_i e
      subst e
      (try rw [if_pos hj] at hq)
      rw [pk_us, ← Option.some.inj hq]
    · rename_i e
      rw [pk_un (fun z => e z.symm)]
      exact g4 j' q' hq
  · unfold jmp at hq
    rcases List.mem_or_eq_of_mem_set hq with hq | rfl
    · exact g5 q' hq
    · refine ⟨?_, ?_⟩
      · dsimp only; rw [hd]; exact hb.1
      · dsimp only; omega
theorem PSt.txt {μ0 μ : nMem} {i : Nat} {cs : pC} (h : PSt μ0 μ i cs) : μ.1 (nT 12) = μ0.1 (nT 12) := h.1.1 _ (by decide) (by decide) (by decide)
theorem PSt.len {μ0 μ : nMem} {i : Nat} {cs : pC} (h : PSt μ0 μ i cs) : μ.1 (nF 12) 2 = μ0.1 (nF 12) 2 := h.1.2.1 2 (by decide)

theorem c_P_next {L : Nat} {xs : Nat → Int32} {d : Nat} {Q : ax_Q} {μ0 μ : nMem} {n i : Nat} {cs : pC} (hH : PH μ0 n) (hs : PSt μ0 μ i cs) (hi : i ≤ n) (hq : Q (some (.int (nx (μ0.1 (nT 12)) n i))) (ns_rep μ)) : nM L xs (d + 1) 96 [.ref 103] (ns_rep μ) Q := by
  obtain ⟨hn, hn30, hch⟩ := hH
  have h12 : 12 < 13 := by omega
  have ei : nI n ≤ nI i ↔ n ≤ i := nI_leI (by omega) (by omega)
  refine nM.of ns_I_P_next rfl (ls := [_]) (Nat.le_of_ble_eq_true rfl) rfl ?_
  refine aw_aload_n (pc' := 1) nd_P_next_0 rfl rfl rfl ?_
  refine aw_get (pc' := 4) nd_P_next_1 rfl nF_4_15 g_P_at ?_
  refine aw_aload_n (pc' := 5) nd_P_next_4 rfl rfl rfl ?_
  refine aw_get (pc' := 8) nd_P_next_5 rfl nF_4_9 g_P_formula ?_
  refine aw_get (pc' := 11) nd_P_next_8 rfl nF_4_28 (g_F_length h12) ?_
  rw [hs.2.1, hs.len, hn]
  refine aw_icmp_ge (pc' := 14) (tg := 29) nd_P_next_11 (by decide) rfl (fun hb11 => ?_) (fun hb11 => ?_)
  · skip
    
    refine aw_iconst (pc' := 30) (x := 0) nd_P_next_29 rfl (by decide) ?_
    refine aw_ireturn nd_P_next_30 rfl (by first | rfl | (show Value.int (vp_nar .char _) = _; rw [hs.txt, hch i hlt])) (Nat.le_of_ble_eq_true rfl) (Nat.le_of_ble_eq_true rfl) ?_
    first
      | (unfold nx at hq; rw [if_neg (by have := ei.mp hb11; omega)] at hq; exact hq)
      | (unfold nx at hq; rw [if_pos hlt] at hq; rw [hs.txt]; exact hq)
  · skip
    have hlt : i < n := by have := mt ei.mpr hb11; omega
    refine aw_aload_n (pc' := 15) nd_P_next_14 rfl rfl rfl ?_
    refine aw_get (pc' := 18) nd_P_next_15 rfl nF_4_9 g_P_formula ?_
    refine aw_get (pc' := 21) nd_P_next_18 rfl nF_4_31 (g_F_text h12) ?_
    refine aw_aload_n (pc' := 22) nd_P_next_21 rfl rfl rfl ?_
    refine aw_get (pc' := 25) nd_P_next_22 rfl nF_4_15 g_P_at ?_
    refine aw_cald (pc' := 26) nd_P_next_25 rfl (ga_T h12) i hs.2.1 (by omega) ?_
    refine aw_goto (pc' := 30) nd_P_next_26 (by decide) ?_
    refine aw_ireturn nd_P_next_30 rfl (by first | rfl | (show Value.int (vp_nar .char _) = _; rw [hs.txt, hch i hlt])) (Nat.le_of_ble_eq_true rfl) (Nat.le_of_ble_eq_true rfl) ?_
    first
      | (unfold nx at hq; rw [if_neg (by have := ei.mp hb11; omega)] at hq; exact hq)
      | (unfold nx at hq; rw [if_pos hlt] at hq; rw [hs.txt]; exact hq)

theorem c_P_take {L : Nat} {xs : Nat → Int32} {d : Nat} {Q : ax_Q} {μ0 μ : nMem} {n i : Nat} {cs : pC} (hH : PH μ0 n) (hs : PSt μ0 μ i cs) (hi : i ≤ n) {c : Int32} (hq1 : nx (μ0.1 (nT 12)) n i = c → ∀ μ', PSt μ0 μ' (i + 1) cs → Q (some (.int 1)) (ns_rep μ')) (hq0 : ¬ nx (μ0.1 (nT 12)) n i = c → Q (some (.int 0)) (ns_rep μ)) : nM L xs (d + 2) 97 [.ref 103, .int c] (ns_rep μ) Q := by
  refine nM.of ns_I_P_take rfl (ls := [_, _]) (Nat.le_of_ble_eq_true rfl) rfl ?_
  refine aw_aload_n (pc' := 1) nd_P_take_0 rfl rfl rfl ?_
  refine aw_callV (pc' := 4) (as := []) (st := []) nd_P_take_1 rfl nC_4_35 ⟨(Nat.le_of_ble_eq_true rfl), rfl, rfl⟩ ns_ioP (Nat.le_of_ble_eq_true rfl) (Nat.le_of_ble_eq_true rfl) (Nat.le_of_ble_eq_true rfl) ?_
  refine c_P_next hH hs hi ?_
  show nW _ _ _ _ _ 4 _ [_] _ _ _
  refine aw_iload_n (pc' := 5) nd_P_take_4 rfl rfl ?_
  refine aw_icmp_eq (pc' := 8) (tg := 10) nd_P_take_5 (by decide) rfl (fun hb5 => ?_) (fun hb5 => ?_)
  · skip
    refine aw_aload_n (pc' := 11) nd_P_take_10 rfl rfl rfl ?_
    refine aw_dup (pc' := 12) nd_P_take_11 rfl rfl ?_
    refine aw_get (pc' := 15) nd_P_take_12 rfl nF_4_15 g_P_at ?_
    refine aw_iconst (pc' := 16) (x := 1) nd_P_take_15 rfl (by decide) ?_
    refine aw_iadd (pc' := 17) nd_P_take_16 rfl ?_
    refine aw_put (pc' := 20) nd_P_take_17 rfl nF_4_15 trivial p_P_at ?_
    refine aw_iconst (pc' := 21) (x := 1) nd_P_take_20 rfl (by decide) ?_
    refine aw_ireturn nd_P_take_21 rfl (by first | rfl | assumption) (Nat.le_of_ble_eq_true rfl) (Nat.le_of_ble_eq_true rfl) ?_
    exact hq1 hb5 _ hs.inc
  · skip
    refine aw_iconst (pc' := 9) (x := 0) nd_P_take_8 rfl (by decide) ?_
    refine aw_ireturn nd_P_take_9 rfl (by first | rfl | assumption) (Nat.le_of_ble_eq_true rfl) (Nat.le_of_ble_eq_true rfl) ?_
    exact hq0 hb5

theorem c_P_add {L : Nat} {xs : Nat → Int32} {d : Nat} {Q : ax_Q} {μ0 μ : nMem} {i : Nat} {cs : pC} {a b : Int32} (hs : PSt μ0 μ i cs) (q : Nat × Nat) (ha : a = nI q.1) (hb : b = nI q.2) (h1 : q.1 ≤ 10) (h2 : q.2 < 10000) (hl : cs.length < 30) (hq : ∀ μ', PSt μ0 μ' i (cs ++ [q]) → Q (some (.int (nI cs.length))) (ns_rep μ')) : nM L xs (d + 1) 82 [.ref (nF 12), .int a, .int b] (ns_rep μ) Q := by
  subst ha; subst hb
  exact c_F_addStep (by decide) hs.2.2.1 hl (hq _ (hs.add rfl h1 h2))
theorem c_P_jmp {L : Nat} {xs : Nat → Int32} {d : Nat} {Q : ax_Q} {μ0 μ : nMem} {i j : Nat} {cs : pC} (hs : PSt μ0 μ i cs) (hj : j < cs.length) (hl : cs.length ≤ 30) (hq : ∀ μ', PSt μ0 μ' i (jmp cs j) → Q none (ns_rep μ')) : nM L xs (d + 2) 83 [.ref (nF 12), .int (nI j)] (ns_rep μ) Q := c_F_jumpToEnd (by decide) (by omega) (hq _ (hs.jm hj hl))
theorem dg_of {c : Int32} (h : isDig c = true) : c - 48 = nI (dg c) ∧ dg c < 10 := by
  unfold isDig at h
  split at h
  · cases h
  · rename_i h0
    split at h
    · cases h
    · rename_i h1
      have hc0 : ¬ c < 0 := fun z => h0 (Int32.lt_trans z (by decide))
      obtain ⟨j, hj, rfl⟩ := nI_of hc0
      have e48 : (48 : Int32) = nI 48 := by decide
      have e57 : (57 : Int32) = nI 57 := by decide
      rw [e48] at h0
      rw [e57] at h1
      have b0 := mt (nI_ltI hj (by decide : 48 < 2 ^ 31)).mpr h0
      have b1 := mt (nI_ltI (by decide : 57 < 2 ^ 31) hj).mpr h1
      have e : nI j - 48 = nI (j - 48) := by rw [e48, pk_sub (by omega)]
      unfold dg
      rw [e, nI_clamp (by omega)]
      exact ⟨rfl, by omega⟩
theorem la_of {c : Int32} (h : isLet c = true) : c - 65 = nI (la c) ∧ la c < 12 := by
  unfold isLet at h
  split at h
  · cases h
  · rename_i h0
    split at h
    · cases h
    · rename_i h1
      have hc0 : ¬ c < 0 := fun z => h0 (Int32.lt_trans z (by decide))
      obtain ⟨j, hj, rfl⟩ := nI_of hc0
      have e65 : (65 : Int32) = nI 65 := by decide
      have e77 : (77 : Int32) = nI 77 := by decide
      rw [e65] at h0
      rw [e77] at h1
      have b0 := mt (nI_ltI hj (by decide : 65 < 2 ^ 31)).mpr h0
      have b1 := mt (nI_leI (by decide : 77 < 2 ^ 31) hj).mpr h1
      have e : nI j - 65 = nI (j - 65) := by rw [e65, pk_sub (by omega)]
      unfold la
      rw [e, nI_clamp (by omega)]
      exact ⟨rfl, by omega⟩
theorem pn_val (t : Nat → Int32) (n : Nat) : ∀ (g i v : Nat), v < 10 ^ (4 - g) → g ≤ 4 → (pn t n g i v).2 < 10000 := by
  intro g
  induction g with
  | zero => intro i v h _; exact h
  | succ g ih =>
    intro i v h hg
    unfold pn
    split
    · rename_i hd
      refine ih _ _ ?_ (by omega)
      have := (dg_of hd).2
      rw [show 4 - g = (4 - (g + 1)) + 1 by omega, Nat.pow_succ]
      omega
    · refine Nat.lt_of_lt_of_le h ?_
      have : 10 ^ (4 - (g + 1)) ≤ 10 ^ 4 := Nat.pow_le_pow_right (by decide) (by omega)
      exact this

theorem l_P_num {L : Nat} {xs : Nat → Int32} {d : Nat} {Q : ax_Q} {μ0 : nMem} {n : Nat} {cs : pC} (hH : PH μ0 n) (hl : cs.length < 30) : ∀ g (μ : nMem) (i v j : Nat), g + j = 4 → i ≤ n → PSt μ0 μ i cs → v < 10 ^ j → (∀ μ', PSt μ0 μ' (pn (μ0.1 (nT 12)) n g i v).1 (cs ++ [(0, (pn (μ0.1 (nT 12)) n g i v).2)]) → Q none (ns_rep μ')) → nW L xs (d + 1) ns_I_P_takeNumber Q 4 [some (.ref 103), some (.int (nI v)), some (.int (nI j))] [] 0 0 (ns_rep μ) := by
  have h12 : 12 < 13 := by omega
  intro g
  induction g with
  | zero =>
    intro μ i v j hg hi hs hv hq
    obtain rfl : j = 4 := by omega
    refine aw_iload_n (pc' := 5) nd_P_takeNumber_4 rfl rfl ?_
    refine aw_iconst (pc' := 6) (x := 4) nd_P_takeNumber_5 rfl (by decide) ?_
    refine aw_icmp_ge (pc' := 9) (tg := 48) nd_P_takeNumber_6 (by decide) rfl (fun _ => ?_) (fun hx => absurd (by decide) hx)
    refine aw_aload_n (pc' := 49) nd_P_takeNumber_48 rfl rfl rfl ?_
    refine aw_get (pc' := 52) nd_P_takeNumber_49 rfl nF_4_9 g_P_formula ?_
    refine aw_iconst (pc' := 53) (x := 0) nd_P_takeNumber_52 rfl (by decide) ?_
    refine aw_iload_n (pc' := 54) nd_P_takeNumber_53 rfl rfl ?_
    refine aw_callV (pc' := 57) (as := [_, _]) (st := []) nd_P_takeNumber_54 rfl nC_4_42 ⟨(Nat.le_of_ble_eq_true rfl), rfl, rfl⟩ (ns_ioF h12) (Nat.le_of_ble_eq_true rfl) (Nat.le_of_ble_eq_true rfl) (Nat.le_of_ble_eq_true rfl) ?_
    refine c_P_add hs (0, v) rfl rfl (Nat.zero_le _) (by exact hv) hl (fun μ' hs' => ?_)
    show nW _ _ _ _ _ 57 _ [_] _ _ _
    refine aw_pop (pc' := 58) nd_P_takeNumber_57 rfl rfl ?_
    refine aw_return nd_P_takeNumber_58 rfl (Nat.le_of_ble_eq_true rfl) (Nat.le_of_ble_eq_true rfl) ?_
    exact hq _ hs'
  | succ g ih =>
    intro μ i v j hg hi hs hv hq
    unfold pn at hq
    refine aw_iload_n (pc' := 5) nd_P_takeNumber_4 rfl rfl ?_
    refine aw_iconst (pc' := 6) (x := 4) nd_P_takeNumber_5 rfl (by decide) ?_
    refine aw_icmp_ge (pc' := 9) (tg := 48) nd_P_takeNumber_6 (by decide) rfl (fun hx => absurd hx (nI_ge (b := 4) (by omega) (by decide))) (fun _ => ?_)
    refine aw_aload_n (pc' := 10) nd_P_takeNumber_9 rfl rfl rfl ?_
    refine aw_callV (pc' := 13) (as := []) (st := []) nd_P_takeNumber_10 rfl nC_4_35 ⟨(Nat.le_of_ble_eq_true rfl), rfl, rfl⟩ ns_ioP (Nat.le_of_ble_eq_true rfl) (Nat.le_of_ble_eq_true rfl) (Nat.le_of_ble_eq_true rfl) ?_
    refine c_P_next hH hs hi ?_
    show nW _ _ _ _ _ 13 _ [_] _ _ _
    refine aw_callS (a := 0) (pc' := 16) (as := [_]) (st := []) nd_P_takeNumber_13 rfl nC_4_66 ⟨(Nat.le_of_ble_eq_true rfl), rfl, rfl⟩ (Nat.le_of_ble_eq_true rfl) (Nat.le_of_ble_eq_true rfl) (Nat.le_of_ble_eq_true rfl) ?_
    refine c_F_isDigit ?_
    show nW _ _ _ _ _ 16 _ [_] _ _ _
    refine aw_if_eq (pc' := 19) (tg := 48) nd_P_takeNumber_16 (by decide) rfl (fun hb16 => ?_) (fun hb16 => ?_)
    · skip
      refine aw_aload_n (pc' := 49) nd_P_takeNumber_48 rfl rfl rfl ?_
      refine aw_get (pc' := 52) nd_P_takeNumber_49 rfl nF_4_9 g_P_formula ?_
      refine aw_iconst (pc' := 53) (x := 0) nd_P_takeNumber_52 rfl (by decide) ?_
      refine aw_iload_n (pc' := 54) nd_P_takeNumber_53 rfl rfl ?_
      refine aw_callV (pc' := 57) (as := [_, _]) (st := []) nd_P_takeNumber_54 rfl nC_4_42 ⟨(Nat.le_of_ble_eq_true rfl), rfl, rfl⟩ (ns_ioF h12) (Nat.le_of_ble_eq_true rfl) (Nat.le_of_ble_eq_true rfl) (Nat.le_of_ble_eq_true rfl) ?_
      refine c_P_add hs (0, v) rfl rfl (Nat.zero_le _) (show v < 10000 from Nat.lt_of_lt_of_le hv (Nat.pow_le_pow_right (n := 10) (i := j) (j := 4) (by decide) (by omega))) hl (fun μ' hs' => ?_)
      show nW _ _ _ _ _ 57 _ [_] _ _ _
      refine aw_pop (pc' := 58) nd_P_takeNumber_57 rfl rfl ?_
      refine aw_return nd_P_takeNumber_58 rfl (Nat.le_of_ble_eq_true rfl) (Nat.le_of_ble_eq_true rfl) ?_
      rw [if_neg (by rw [bi_f hb16]; decide)] at hq
      exact hq _ hs'
    · skip
      have hd := bi_t hb16
      rw [if_pos hd] at hq
      have hi2 := isDig_lt hd
      have e10 : (10 : Int32) = nI 10 := by decide
      have hdg := dg_of hd
      refine aw_iload_n (pc' := 20) nd_P_takeNumber_19 rfl rfl ?_
      refine aw_bipush (pc' := 22) (x := 10) nd_P_takeNumber_20 rfl (by decide) ?_
      refine aw_imul (pc' := 23) nd_P_takeNumber_22 rfl ?_
      refine aw_aload_n (pc' := 24) nd_P_takeNumber_23 rfl rfl rfl ?_
      refine aw_callV (pc' := 27) (as := []) (st := [_]) nd_P_takeNumber_24 rfl nC_4_35 ⟨(Nat.le_of_ble_eq_true rfl), rfl, rfl⟩ ns_ioP (Nat.le_of_ble_eq_true rfl) (Nat.le_of_ble_eq_true rfl) (Nat.le_of_ble_eq_true rfl) ?_
      refine c_P_next hH hs hi ?_
      show nW _ _ _ _ _ 27 _ [_, _] _ _ _
      refine aw_bipush (pc' := 29) (x := 48) nd_P_takeNumber_27 rfl (by decide) ?_
      refine aw_isub (pc' := 30) nd_P_takeNumber_29 rfl ?_
      refine aw_iadd (pc' := 31) nd_P_takeNumber_30 rfl ?_
      rw [e10, pk_mul, hdg.1, nI_add]
      refine aw_istore_n (pc' := 32) (ls' := [_, _, _]) nd_P_takeNumber_31 rfl (Nat.le_of_ble_eq_true rfl) rfl ?_
      refine aw_aload_n (pc' := 33) nd_P_takeNumber_32 rfl rfl rfl ?_
      refine aw_dup (pc' := 34) nd_P_takeNumber_33 rfl rfl ?_
      refine aw_get (pc' := 37) nd_P_takeNumber_34 rfl nF_4_15 g_P_at ?_
      refine aw_iconst (pc' := 38) (x := 1) nd_P_takeNumber_37 rfl (by decide) ?_
      refine aw_iadd (pc' := 39) nd_P_takeNumber_38 rfl ?_
      refine aw_put (pc' := 42) nd_P_takeNumber_39 rfl nF_4_15 trivial p_P_at ?_
      refine aw_iinc (pc' := 45) (ls' := [_, _, _]) nd_P_takeNumber_42 rfl rfl (nI_1 j) rfl ?_
      refine aw_goto (pc' := 4) nd_P_takeNumber_45 (by decide) ?_
      exact ih _ (i + 1) (v * 10 + dg (nx (μ0.1 (nT 12)) n i)) (j + 1) (by omega) (by omega) hs.inc (by rw [Nat.pow_succ]; have := hdg.2; omega) hq

theorem c_P_num {L : Nat} {xs : Nat → Int32} {d : Nat} {Q : ax_Q} {μ0 μ : nMem} {n i : Nat} {cs : pC} (hH : PH μ0 n) (hs : PSt μ0 μ i cs) (hi : i ≤ n) (hl : cs.length < 30) (hq : ∀ μ', PSt μ0 μ' (pn (μ0.1 (nT 12)) n 4 i 0).1 (cs ++ [(0, (pn (μ0.1 (nT 12)) n 4 i 0).2)]) → Q none (ns_rep μ')) : nM L xs (d + 2) 103 [.ref 103] (ns_rep μ) Q := by
  refine nM.of ns_I_P_takeNumber rfl (ls := [_, _, _]) (Nat.le_of_ble_eq_true rfl) rfl ?_
  refine aw_iconst (pc' := 1) (x := 0) nd_P_takeNumber_0 rfl (by decide) ?_
  refine aw_istore_n (pc' := 2) (ls' := [_, _, _]) nd_P_takeNumber_1 rfl (Nat.le_of_ble_eq_true rfl) rfl ?_
  refine aw_iconst (pc' := 3) (x := 0) nd_P_takeNumber_2 rfl (by decide) ?_
  refine aw_istore_n (pc' := 4) (ls' := [_, _, _]) nd_P_takeNumber_3 rfl (Nat.le_of_ble_eq_true rfl) rfl ?_
  exact l_P_num hH hl 4 μ i 0 0 (by omega) hi hs (by decide) hq
end
section
/-! the parser's contracts -/
/-- a part of the parser that answers as G does, with fuel f -/
def CU (L : Nat) (xs : Nat → Int32) (μ0 : nMem) (n f : Nat) (G : Nat → Nat → pC → pR) (id dep : Nat) : Prop := ∀ (d : Nat) (Q : ax_Q) (μ : nMem) (dp i : Nat) (cs : pC), PSt μ0 μ i cs → dp ≤ 5 → i ≤ n → n - i < f → cs.length ≤ i → (∀ μ', PSt μ0 μ' (G dp i cs).2.1 (G dp i cs).2.2 → Q (some (.int (bi (G dp i cs).1))) (ns_rep μ')) → nM L xs (d + dep) id [.ref 103, .int (nI dp)] (ns_rep μ) Q

theorem l_P_prod {L : Nat} {xs : Nat → Int32} {μ0 : nMem} {n f : Nat} (hH : PH μ0 n) {U : Nat → Nat → pC → pR} {e : Nat} (hU : CU L xs μ0 n f U 102 (e + 2)) (hUo : pAll n U f) : ∀ (g j d : Nat) (Q : ax_Q) (μ : nMem) (dp i : Nat) (cs : pC), g + j = 30 → PSt μ0 μ i cs → dp ≤ 5 → i ≤ n → n - i < f → cs.length ≤ i → (∀ μ', PSt μ0 μ' (pPl (μ0.1 (nT 12)) n U g dp i cs).2.1 (pPl (μ0.1 (nT 12)) n U g dp i cs).2.2 → Q (some (.int (bi (pPl (μ0.1 (nT 12)) n U g dp i cs).1))) (ns_rep μ')) → nW L xs (d + e + 2) ns_I_P_takeProduct Q 12 [some (.ref 103), some (.int (nI dp)), some (.int (nI j))] [] 0 0 (ns_rep μ) := by
  have h12 : 12 < 13 := by omega
  have hn30 := hH.2.1
  intro g
  induction g with
  | zero =>
    intro j d Q μ dp i cs hg hs hdp hi hf hcs hq
    obtain rfl : j = 30 := by omega
    refine aw_iload_n (pc' := 13) nd_P_takeProduct_12 rfl rfl ?_
    refine aw_bipush (pc' := 15) (x := 30) nd_P_takeProduct_13 rfl (by decide) ?_
    refine aw_icmp_ge (pc' := 18) (tg := 54) nd_P_takeProduct_15 (by decide) rfl (fun _ => ?_) (fun hx => absurd (by decide) hx)
    refine aw_iconst (pc' := 55) (x := 1) nd_P_takeProduct_54 rfl (by decide) ?_
    refine aw_ireturn nd_P_takeProduct_55 rfl (by first | rfl | assumption) (Nat.le_of_ble_eq_true rfl) (Nat.le_of_ble_eq_true rfl) ?_
    exact hq _ hs
  | succ g ih =>
    intro j d Q μ dp i cs hg hs hdp hi hf hcs hq
    refine aw_iload_n (pc' := 13) nd_P_takeProduct_12 rfl rfl ?_
    refine aw_bipush (pc' := 15) (x := 30) nd_P_takeProduct_13 rfl (by decide) ?_
    refine aw_icmp_ge (pc' := 18) (tg := 54) nd_P_takeProduct_15 (by decide) rfl (fun hx => absurd hx (nI_ge (b := 30) (by omega) (by decide))) (fun _ => ?_)
    refine aw_aload_n (pc' := 19) nd_P_takeProduct_18 rfl rfl rfl ?_
    refine aw_bipush (pc' := 21) (x := 42) nd_P_takeProduct_19 rfl (by decide) ?_
    refine aw_callV (pc' := 24) (as := [_]) (st := []) nd_P_takeProduct_21 rfl nC_4_46 ⟨(Nat.le_of_ble_eq_true rfl), rfl, rfl⟩ ns_ioP (Nat.le_of_ble_eq_true rfl) (Nat.le_of_ble_eq_true rfl) (Nat.le_of_ble_eq_true rfl) ?_
    refine c_P_take hH hs hi (c := 42) (fun ht1 μ1 hs1 => ?_) (fun ht1 => ?_)
    · skip
      have hlt1 := nx_lt ht1 (by decide)
      show nW _ _ _ _ _ 24 _ [_] _ _ _
      refine aw_if_eq (pc' := 27) (tg := 54) nd_P_takeProduct_24 (by decide) rfl (fun hx => absurd hx (by decide)) (fun _ => ?_)
      refine aw_aload_n (pc' := 28) nd_P_takeProduct_27 rfl rfl rfl ?_
      refine aw_iload_n (pc' := 29) nd_P_takeProduct_28 rfl rfl ?_
      refine aw_callV (pc' := 32) (as := [_]) (st := []) nd_P_takeProduct_29 rfl nC_4_60 ⟨(Nat.le_of_ble_eq_true rfl), rfl, rfl⟩ ns_ioP (Nat.le_of_ble_eq_true rfl) (Nat.le_of_ble_eq_true rfl) (Nat.le_of_ble_eq_true rfl) ?_
      have ho2 := hUo dp (i + 1) cs (by omega) (by omega)
      refine hU d _ _ dp (i + 1) cs hs1 hdp (by omega) (by omega) (by omega) ?_
      rcases hr2 : U dp (i + 1) cs with ⟨ok2, i2, cs2⟩
      rw [hr2] at ho2
      obtain ⟨oa2, ob2, oc2, od2⟩ := ho2
      dsimp only at oa2 ob2 oc2 od2
      dsimp only
      intro μ2 hs2
      cases ok2 with
      | false =>
        show nW _ _ _ _ _ 32 _ [_] _ _ _
        refine aw_if_ne (pc' := 35) (tg := 37) nd_P_takeProduct_32 (by decide) rfl (fun hx => absurd (by decide) hx) (fun _ => ?_)
        refine aw_iconst (pc' := 36) (x := 0) nd_P_takeProduct_35 rfl (by decide) ?_
        refine aw_ireturn nd_P_takeProduct_36 rfl (by first | rfl | assumption) (Nat.le_of_ble_eq_true rfl) (Nat.le_of_ble_eq_true rfl) ?_
        simp only [pPl, ht1, hr2, if_true, if_false] at hq
        exact hq _ hs2
      | true =>
        show nW _ _ _ _ _ 32 _ [_] _ _ _
        refine aw_if_ne (pc' := 35) (tg := 37) nd_P_takeProduct_32 (by decide) rfl (fun _ => ?_) (fun hx => absurd hx (by decide))
        refine aw_aload_n (pc' := 38) nd_P_takeProduct_37 rfl rfl rfl ?_
        refine aw_get (pc' := 41) nd_P_takeProduct_38 rfl nF_4_9 g_P_formula ?_
        refine aw_bipush (pc' := 43) (x := 8) nd_P_takeProduct_41 rfl (by decide) ?_
        refine aw_iconst (pc' := 44) (x := 0) nd_P_takeProduct_43 rfl (by decide) ?_
        refine aw_callV (pc' := 47) (as := [_, _]) (st := []) nd_P_takeProduct_44 rfl nC_4_42 ⟨(Nat.le_of_ble_eq_true rfl), rfl, rfl⟩ (ns_ioF h12) (Nat.le_of_ble_eq_true rfl) (Nat.le_of_ble_eq_true rfl) (Nat.le_of_ble_eq_true rfl) ?_
        refine c_P_add hs2 (8, 0) rfl rfl (by decide) (by decide) (by omega) (fun μ3 hs3 => ?_)
        show nW _ _ _ _ _ 47 _ [_] _ _ _
        refine aw_pop (pc' := 48) nd_P_takeProduct_47 rfl rfl ?_
        refine aw_iinc (pc' := 51) (ls' := [_, _, _]) nd_P_takeProduct_48 rfl rfl (nI_1 j) rfl ?_
        refine aw_goto (pc' := 12) nd_P_takeProduct_51 (by decide) ?_
        have hq2 := hq
        simp only [pPl, ht1, hr2, if_true] at hq2
        exact ih (j + 1) _ _ _ dp i2 (cs2 ++ [(8, 0)]) (by omega) hs3 hdp ob2 (by omega) (by simp only [List.length_append, List.length_singleton]; omega) hq2
    · skip
      show nW _ _ _ _ _ 24 _ [_] _ _ _
      refine aw_if_eq (pc' := 27) (tg := 54) nd_P_takeProduct_24 (by decide) rfl (fun _ => ?_) (fun hx => absurd (by decide) hx)
      refine aw_iconst (pc' := 55) (x := 1) nd_P_takeProduct_54 rfl (by decide) ?_
      refine aw_ireturn nd_P_takeProduct_55 rfl (by first | rfl | assumption) (Nat.le_of_ble_eq_true rfl) (Nat.le_of_ble_eq_true rfl) ?_
      simp only [pPl, ht1, if_true, if_false] at hq
      exact hq _ hs

theorem c_P_prod {L : Nat} {xs : Nat → Int32} {μ0 : nMem} {n f : Nat} (hH : PH μ0 n) {U : Nat → Nat → pC → pR} {e : Nat} (hU : CU L xs μ0 n f U 102 (e + 2)) (hUo : pAll n U f) : CU L xs μ0 n f (pP (μ0.1 (nT 12)) n U) 101 (e + 3) := by
  intro d Q μ dp i cs hs hdp hi hf hcs hq
  show nM L xs ((d + e + 2) + 1) _ _ _ _
  refine nM.of ns_I_P_takeProduct rfl (ls := [_, _, _]) (Nat.le_of_ble_eq_true rfl) rfl ?_
  refine aw_aload_n (pc' := 1) nd_P_takeProduct_0 rfl rfl rfl ?_
  refine aw_iload_n (pc' := 2) nd_P_takeProduct_1 rfl rfl ?_
  refine aw_callV (pc' := 5) (as := [_]) (st := []) nd_P_takeProduct_2 rfl nC_4_60 ⟨(Nat.le_of_ble_eq_true rfl), rfl, rfl⟩ ns_ioP (Nat.le_of_ble_eq_true rfl) (Nat.le_of_ble_eq_true rfl) (Nat.le_of_ble_eq_true rfl) ?_
  have ho4 := hUo dp i cs hi hf
  refine hU d _ _ dp i cs hs hdp hi hf hcs ?_
  rcases hr4 : U dp i cs with ⟨ok4, i4, cs4⟩
  rw [hr4] at ho4
  obtain ⟨oa4, ob4, oc4, od4⟩ := ho4
  dsimp only at oa4 ob4 oc4 od4
  dsimp only
  intro μ4 hs4
  cases ok4 with
  | false =>
    show nW _ _ _ _ _ 5 _ [_] _ _ _
    refine aw_if_ne (pc' := 8) (tg := 10) nd_P_takeProduct_5 (by decide) rfl (fun hx => absurd (by decide) hx) (fun _ => ?_)
    refine aw_iconst (pc' := 9) (x := 0) nd_P_takeProduct_8 rfl (by decide) ?_
    refine aw_ireturn nd_P_takeProduct_9 rfl (by first | rfl | assumption) (Nat.le_of_ble_eq_true rfl) (Nat.le_of_ble_eq_true rfl) ?_
    simp only [pP, hr4] at hq
    exact hq _ hs4
  | true =>
    show nW _ _ _ _ _ 5 _ [_] _ _ _
    refine aw_if_ne (pc' := 8) (tg := 10) nd_P_takeProduct_5 (by decide) rfl (fun _ => ?_) (fun hx => absurd hx (by decide))
    refine aw_iconst (pc' := 11) (x := 0) nd_P_takeProduct_10 rfl (by decide) ?_
    refine aw_istore_n (pc' := 12) (ls' := [_, _, _]) nd_P_takeProduct_11 rfl (Nat.le_of_ble_eq_true rfl) rfl ?_
    refine l_P_prod hH hU hUo 30 0 d Q _ dp i4 cs4 (by omega) hs4 hdp ob4 (by omega) (by omega) ?_
    simp only [pP, hr4] at hq
    exact hq

theorem l_P_sum {L : Nat} {xs : Nat → Int32} {μ0 : nMem} {n f : Nat} (hH : PH μ0 n) {U : Nat → Nat → pC → pR} {e : Nat} (hP : CU L xs μ0 n f (pP (μ0.1 (nT 12)) n U) 101 (e + 2)) (hPo : pAll n (pP (μ0.1 (nT 12)) n U) f) : ∀ (g j d : Nat) (o : Option Value) (Q : ax_Q) (μ : nMem) (dp i : Nat) (cs : pC), g + j = 30 → PSt μ0 μ i cs → dp ≤ 5 → i ≤ n → n - i < f → cs.length ≤ i → (∀ μ', PSt μ0 μ' (pSl (μ0.1 (nT 12)) n U g dp i cs).2.1 (pSl (μ0.1 (nT 12)) n U g dp i cs).2.2 → Q (some (.int (bi (pSl (μ0.1 (nT 12)) n U g dp i cs).1))) (ns_rep μ')) → nW L xs (d + e + 2) ns_I_P_takeSum Q 12 [some (.ref 103), some (.int (nI dp)), some (.int (nI j)), o] [] 0 0 (ns_rep μ) := by
  have h12 : 12 < 13 := by omega
  have hn30 := hH.2.1
  intro g
  induction g with
  | zero =>
    intro j d o Q μ dp i cs hg hs hdp hi hf hcs hq
    obtain rfl : j = 30 := by omega
    refine aw_iload_n (pc' := 13) nd_P_takeSum_12 rfl rfl ?_
    refine aw_bipush (pc' := 15) (x := 30) nd_P_takeSum_13 rfl (by decide) ?_
    refine aw_icmp_ge (pc' := 18) (tg := 85) nd_P_takeSum_15 (by decide) rfl (fun _ => ?_) (fun hx => absurd (by decide) hx)
    refine aw_iconst (pc' := 86) (x := 1) nd_P_takeSum_85 rfl (by decide) ?_
    refine aw_ireturn nd_P_takeSum_86 rfl (by first | rfl | assumption) (Nat.le_of_ble_eq_true rfl) (Nat.le_of_ble_eq_true rfl) ?_
    exact hq _ hs
  | succ g ih =>
    intro j d o Q μ dp i cs hg hs hdp hi hf hcs hq
    refine aw_iload_n (pc' := 13) nd_P_takeSum_12 rfl rfl ?_
    refine aw_bipush (pc' := 15) (x := 30) nd_P_takeSum_13 rfl (by decide) ?_
    refine aw_icmp_ge (pc' := 18) (tg := 85) nd_P_takeSum_15 (by decide) rfl (fun hx => absurd hx (nI_ge (b := 30) (by omega) (by decide))) (fun _ => ?_)
    refine aw_aload_n (pc' := 19) nd_P_takeSum_18 rfl rfl rfl ?_
    refine aw_callV (pc' := 22) (as := []) (st := []) nd_P_takeSum_19 rfl nC_4_35 ⟨(Nat.le_of_ble_eq_true rfl), rfl, rfl⟩ ns_ioP (Nat.le_of_ble_eq_true rfl) (Nat.le_of_ble_eq_true rfl) (Nat.le_of_ble_eq_true rfl) ?_
    refine c_P_next hH hs hi ?_
    show nW _ _ _ _ _ 22 _ [_] _ _ _
    refine aw_istore_n (pc' := 23) (ls' := [_, _, _, _]) nd_P_takeSum_22 rfl (Nat.le_of_ble_eq_true rfl) rfl ?_
    refine aw_iload_n (pc' := 24) nd_P_takeSum_23 rfl rfl ?_
    refine aw_bipush (pc' := 26) (x := 43) nd_P_takeSum_24 rfl (by decide) ?_
    refine aw_icmp_eq (pc' := 29) (tg := 37) nd_P_takeSum_26 (by decide) rfl (fun hb26 => ?_) (fun hb26 => ?_)
    · skip
      have hor : nx (μ0.1 (nT 12)) n i = 43 ∨ nx (μ0.1 (nT 12)) n i = 45 := by first | exact Or.inl hb26 | exact Or.inr hb32
      have hlt : i < n := by rcases hor with z | z <;> exact nx_lt z (by decide)
      refine aw_aload_n (pc' := 38) nd_P_takeSum_37 rfl rfl rfl ?_
      refine aw_dup (pc' := 39) nd_P_takeSum_38 rfl rfl ?_
      refine aw_get (pc' := 42) nd_P_takeSum_39 rfl nF_4_15 g_P_at ?_
      refine aw_iconst (pc' := 43) (x := 1) nd_P_takeSum_42 rfl (by decide) ?_
      refine aw_iadd (pc' := 44) nd_P_takeSum_43 rfl ?_
      refine aw_put (pc' := 47) nd_P_takeSum_44 rfl nF_4_15 trivial p_P_at ?_
      refine aw_aload_n (pc' := 48) nd_P_takeSum_47 rfl rfl rfl ?_
      refine aw_iload_n (pc' := 49) nd_P_takeSum_48 rfl rfl ?_
      refine aw_callV (pc' := 52) (as := [_]) (st := []) nd_P_takeSum_49 rfl nC_4_57 ⟨(Nat.le_of_ble_eq_true rfl), rfl, rfl⟩ ns_ioP (Nat.le_of_ble_eq_true rfl) (Nat.le_of_ble_eq_true rfl) (Nat.le_of_ble_eq_true rfl) ?_
      have ho5 := hPo dp (i + 1) cs (by omega) (by omega)
      refine hP d _ _ dp (i + 1) cs hs.inc hdp (by omega) (by omega) (by omega) ?_
      rcases hr5 : pP (μ0.1 (nT 12)) n U dp (i + 1) cs with ⟨ok5, i5, cs5⟩
      rw [hr5] at ho5
      obtain ⟨oa5, ob5, oc5, od5⟩ := ho5
      dsimp only at oa5 ob5 oc5 od5
      dsimp only
      intro μ5 hs5
      cases ok5 with
      | false =>
        show nW _ _ _ _ _ 52 _ [_] _ _ _
        refine aw_if_ne (pc' := 55) (tg := 57) nd_P_takeSum_52 (by decide) rfl (fun hx => absurd (by decide) hx) (fun _ => ?_)
        refine aw_iconst (pc' := 56) (x := 0) nd_P_takeSum_55 rfl (by decide) ?_
        refine aw_ireturn nd_P_takeSum_56 rfl (by first | rfl | assumption) (Nat.le_of_ble_eq_true rfl) (Nat.le_of_ble_eq_true rfl) ?_
        unfold pSl at hq
        rw [if_pos hor] at hq
        rw [hr5] at hq
        dsimp only at hq
        (try dsimp only at hq)
        exact hq _ hs5
      | true =>
        show nW _ _ _ _ _ 52 _ [_] _ _ _
        refine aw_if_ne (pc' := 55) (tg := 57) nd_P_takeSum_52 (by decide) rfl (fun _ => ?_) (fun hx => absurd hx (by decide))
        refine aw_aload_n (pc' := 58) nd_P_takeSum_57 rfl rfl rfl ?_
        refine aw_get (pc' := 61) nd_P_takeSum_58 rfl nF_4_9 g_P_formula ?_
        refine aw_iload_n (pc' := 62) nd_P_takeSum_61 rfl rfl ?_
        refine aw_bipush (pc' := 64) (x := 43) nd_P_takeSum_62 rfl (by decide) ?_
        refine aw_icmp_ne (pc' := 67) (tg := 72) nd_P_takeSum_64 (by decide) rfl (fun hx => absurd hb26 hx) (fun _ => ?_)
        refine aw_bipush (pc' := 69) (x := 6) nd_P_takeSum_67 rfl (by decide) ?_
        refine aw_goto (pc' := 74) nd_P_takeSum_69 (by decide) ?_
        refine aw_iconst (pc' := 75) (x := 0) nd_P_takeSum_74 rfl (by decide) ?_
        refine aw_callV (pc' := 78) (as := [_, _]) (st := []) nd_P_takeSum_75 rfl nC_4_42 ⟨(Nat.le_of_ble_eq_true rfl), rfl, rfl⟩ (ns_ioF h12) (Nat.le_of_ble_eq_true rfl) (Nat.le_of_ble_eq_true rfl) (Nat.le_of_ble_eq_true rfl) ?_
        refine c_P_add hs5 ((if nx (μ0.1 (nT 12)) n i = 43 then 6 else 7), 0) (by rw [if_pos hb26]; rfl) rfl (by dsimp only; split <;> decide) (Nat.le_of_ble_eq_true rfl) (by omega) (fun μ6 hs6 => ?_)
        show nW _ _ _ _ _ 78 _ [_] _ _ _
        refine aw_pop (pc' := 79) nd_P_takeSum_78 rfl rfl ?_
        refine aw_iinc (pc' := 82) (ls' := [_, _, _, _]) nd_P_takeSum_79 rfl rfl (nI_1 j) rfl ?_
        refine aw_goto (pc' := 12) nd_P_takeSum_82 (by decide) ?_
        unfold pSl at hq
        rw [if_pos hor] at hq
        rw [hr5] at hq
        dsimp only at hq
        exact ih (j + 1) d _ _ _ dp i5 (cs5 ++ [((if nx (μ0.1 (nT 12)) n i = 43 then 6 else 7), 0)]) (by omega) hs6 hdp ob5 (by omega) (by simp only [List.length_append, List.length_singleton]; omega) hq
    · skip
      refine aw_iload_n (pc' := 30) nd_P_takeSum_29 rfl rfl ?_
      refine aw_bipush (pc' := 32) (x := 45) nd_P_takeSum_30 rfl (by decide) ?_
      refine aw_icmp_eq (pc' := 35) (tg := 37) nd_P_takeSum_32 (by decide) rfl (fun hb32 => ?_) (fun hb32 => ?_)
      · skip
        have hor : nx (μ0.1 (nT 12)) n i = 43 ∨ nx (μ0.1 (nT 12)) n i = 45 := by first | exact Or.inl hb26 | exact Or.inr hb32
        have hlt : i < n := by rcases hor with z | z <;> exact nx_lt z (by decide)
        refine aw_aload_n (pc' := 38) nd_P_takeSum_37 rfl rfl rfl ?_
        refine aw_dup (pc' := 39) nd_P_takeSum_38 rfl rfl ?_
        refine aw_get (pc' := 42) nd_P_takeSum_39 rfl nF_4_15 g_P_at ?_
        refine aw_iconst (pc' := 43) (x := 1) nd_P_takeSum_42 rfl (by decide) ?_
        refine aw_iadd (pc' := 44) nd_P_takeSum_43 rfl ?_
        refine aw_put (pc' := 47) nd_P_takeSum_44 rfl nF_4_15 trivial p_P_at ?_
        refine aw_aload_n (pc' := 48) nd_P_takeSum_47 rfl rfl rfl ?_
        refine aw_iload_n (pc' := 49) nd_P_takeSum_48 rfl rfl ?_
        refine aw_callV (pc' := 52) (as := [_]) (st := []) nd_P_takeSum_49 rfl nC_4_57 ⟨(Nat.le_of_ble_eq_true rfl), rfl, rfl⟩ ns_ioP (Nat.le_of_ble_eq_true rfl) (Nat.le_of_ble_eq_true rfl) (Nat.le_of_ble_eq_true rfl) ?_
        have ho7 := hPo dp (i + 1) cs (by omega) (by omega)
        refine hP d _ _ dp (i + 1) cs hs.inc hdp (by omega) (by omega) (by omega) ?_
        rcases hr7 : pP (μ0.1 (nT 12)) n U dp (i + 1) cs with ⟨ok7, i7, cs7⟩
        rw [hr7] at ho7
        obtain ⟨oa7, ob7, oc7, od7⟩ := ho7
        dsimp only at oa7 ob7 oc7 od7
        dsimp only
        intro μ7 hs7
        cases ok7 with
        | false =>
          show nW _ _ _ _ _ 52 _ [_] _ _ _
          refine aw_if_ne (pc' := 55) (tg := 57) nd_P_takeSum_52 (by decide) rfl (fun hx => absurd (by decide) hx) (fun _ => ?_)
          refine aw_iconst (pc' := 56) (x := 0) nd_P_takeSum_55 rfl (by decide) ?_
          refine aw_ireturn nd_P_takeSum_56 rfl (by first | rfl | assumption) (Nat.le_of_ble_eq_true rfl) (Nat.le_of_ble_eq_true rfl) ?_
          unfold pSl at hq
          rw [if_pos hor] at hq
          rw [hr7] at hq
          dsimp only at hq
          (try dsimp only at hq)
          exact hq _ hs7
        | true =>
          show nW _ _ _ _ _ 52 _ [_] _ _ _
          refine aw_if_ne (pc' := 55) (tg := 57) nd_P_takeSum_52 (by decide) rfl (fun _ => ?_) (fun hx => absurd hx (by decide))
          refine aw_aload_n (pc' := 58) nd_P_takeSum_57 rfl rfl rfl ?_
          refine aw_get (pc' := 61) nd_P_takeSum_58 rfl nF_4_9 g_P_formula ?_
          refine aw_iload_n (pc' := 62) nd_P_takeSum_61 rfl rfl ?_
          refine aw_bipush (pc' := 64) (x := 43) nd_P_takeSum_62 rfl (by decide) ?_
          refine aw_icmp_ne (pc' := 67) (tg := 72) nd_P_takeSum_64 (by decide) rfl (fun _ => ?_) (fun hx => absurd hx hb26)
          refine aw_bipush (pc' := 74) (x := 7) nd_P_takeSum_72 rfl (by decide) ?_
          refine aw_iconst (pc' := 75) (x := 0) nd_P_takeSum_74 rfl (by decide) ?_
          refine aw_callV (pc' := 78) (as := [_, _]) (st := []) nd_P_takeSum_75 rfl nC_4_42 ⟨(Nat.le_of_ble_eq_true rfl), rfl, rfl⟩ (ns_ioF h12) (Nat.le_of_ble_eq_true rfl) (Nat.le_of_ble_eq_true rfl) (Nat.le_of_ble_eq_true rfl) ?_
          refine c_P_add hs7 ((if nx (μ0.1 (nT 12)) n i = 43 then 6 else 7), 0) (by rw [if_neg hb26]; rfl) rfl (by dsimp only; split <;> decide) (Nat.le_of_ble_eq_true rfl) (by omega) (fun μ8 hs8 => ?_)
          show nW _ _ _ _ _ 78 _ [_] _ _ _
          refine aw_pop (pc' := 79) nd_P_takeSum_78 rfl rfl ?_
          refine aw_iinc (pc' := 82) (ls' := [_, _, _, _]) nd_P_takeSum_79 rfl rfl (nI_1 j) rfl ?_
          refine aw_goto (pc' := 12) nd_P_takeSum_82 (by decide) ?_
          unfold pSl at hq
          rw [if_pos hor] at hq
          rw [hr7] at hq
          dsimp only at hq
          exact ih (j + 1) d _ _ _ dp i7 (cs7 ++ [((if nx (μ0.1 (nT 12)) n i = 43 then 6 else 7), 0)]) (by omega) hs8 hdp ob7 (by omega) (by simp only [List.length_append, List.length_singleton]; omega) hq
      · skip
        have hor : ¬ (nx (μ0.1 (nT 12)) n i = 43 ∨ nx (μ0.1 (nT 12)) n i = 45) := fun z => z.elim hb26 hb32
        refine aw_iconst (pc' := 36) (x := 1) nd_P_takeSum_35 rfl (by decide) ?_
        refine aw_ireturn nd_P_takeSum_36 rfl (by first | rfl | assumption) (Nat.le_of_ble_eq_true rfl) (Nat.le_of_ble_eq_true rfl) ?_
        unfold pSl at hq
        rw [if_neg hor] at hq
        (try dsimp only at hq)
        exact hq _ hs

theorem c_P_sum {L : Nat} {xs : Nat → Int32} {μ0 : nMem} {n f : Nat} (hH : PH μ0 n) {U : Nat → Nat → pC → pR} {e : Nat} (hP : CU L xs μ0 n f (pP (μ0.1 (nT 12)) n U) 101 (e + 2)) (hPo : pAll n (pP (μ0.1 (nT 12)) n U) f) : CU L xs μ0 n f (pS (μ0.1 (nT 12)) n U) 100 (e + 3) := by
  intro d Q μ dp i cs hs hdp hi hf hcs hq
  show nM L xs ((d + e + 2) + 1) _ _ _ _
  refine nM.of ns_I_P_takeSum rfl (ls := [_, _, _, _]) (Nat.le_of_ble_eq_true rfl) rfl ?_
  refine aw_aload_n (pc' := 1) nd_P_takeSum_0 rfl rfl rfl ?_
  refine aw_iload_n (pc' := 2) nd_P_takeSum_1 rfl rfl ?_
  refine aw_callV (pc' := 5) (as := [_]) (st := []) nd_P_takeSum_2 rfl nC_4_57 ⟨(Nat.le_of_ble_eq_true rfl), rfl, rfl⟩ ns_ioP (Nat.le_of_ble_eq_true rfl) (Nat.le_of_ble_eq_true rfl) (Nat.le_of_ble_eq_true rfl) ?_
  have ho9 := hPo dp i cs hi hf
  refine hP d _ _ dp i cs hs hdp hi hf hcs ?_
  rcases hr9 : pP (μ0.1 (nT 12)) n U dp i cs with ⟨ok9, i9, cs9⟩
  rw [hr9] at ho9
  obtain ⟨oa9, ob9, oc9, od9⟩ := ho9
  dsimp only at oa9 ob9 oc9 od9
  dsimp only
  intro μ9 hs9
  cases ok9 with
  | false =>
    show nW _ _ _ _ _ 5 _ [_] _ _ _
    refine aw_if_ne (pc' := 8) (tg := 10) nd_P_takeSum_5 (by decide) rfl (fun hx => absurd (by decide) hx) (fun _ => ?_)
    refine aw_iconst (pc' := 9) (x := 0) nd_P_takeSum_8 rfl (by decide) ?_
    refine aw_ireturn nd_P_takeSum_9 rfl (by first | rfl | assumption) (Nat.le_of_ble_eq_true rfl) (Nat.le_of_ble_eq_true rfl) ?_
    unfold pS at hq
    rw [hr9] at hq
    dsimp only at hq
    (try dsimp only at hq)
    exact hq _ hs9
  | true =>
    show nW _ _ _ _ _ 5 _ [_] _ _ _
    refine aw_if_ne (pc' := 8) (tg := 10) nd_P_takeSum_5 (by decide) rfl (fun _ => ?_) (fun hx => absurd hx (by decide))
    refine aw_iconst (pc' := 11) (x := 0) nd_P_takeSum_10 rfl (by decide) ?_
    refine aw_istore_n (pc' := 12) (ls' := [_, _, _, _]) nd_P_takeSum_11 rfl (Nat.le_of_ble_eq_true rfl) rfl ?_
    unfold pS at hq
    rw [hr9] at hq
    dsimp only at hq
    exact l_P_sum hH hP hPo 30 0 d none Q _ dp i9 cs9 (by omega) hs9 hdp ob9 (by omega) (by omega) hq

def CB (L : Nat) (xs : Nat → Int32) (μ0 : nMem) (n f : Nat) (G : Nat → Nat → pC → pR) (id dep : Nat) : Prop := ∀ (d : Nat) (Q : ax_Q) (μ : nMem) (dp i : Nat) (cs : pC), PSt μ0 μ i cs → dp ≤ 5 → i ≤ n → n - i < f → cs.length + 1 ≤ i → (∀ μ', PSt μ0 μ' (G dp i cs).2.1 (G dp i cs).2.2 → Q (some (.int (bi (G dp i cs).1))) (ns_rep μ')) → nM L xs (d + dep) id [.ref 103, .int (nI dp)] (ns_rep μ) Q

theorem c_P_bra {L : Nat} {xs : Nat → Int32} {μ0 : nMem} {n f : Nat} (hH : PH μ0 n) {F : Nat → Nat → pC → pR} {e : Nat} (hF : CU L xs μ0 n f F 98 (e + 2)) (hFo : pAll n F f) : CB L xs μ0 n f (pB (μ0.1 (nT 12)) n F) 99 (e + 3) := by
  have h12 : 12 < 13 := by omega
  have hn30 := hH.2.1
  intro d Q μ dp i cs hs hdp hi hf hcs hq
  show nM L xs ((d + e + 2) + 1) _ _ _ _
  refine nM.of ns_I_P_takeBranches rfl (ls := [_, _, _, _]) (Nat.le_of_ble_eq_true rfl) rfl ?_
  refine aw_aload_n (pc' := 1) nd_P_takeBranches_0 rfl rfl rfl ?_
  refine aw_get (pc' := 4) nd_P_takeBranches_1 rfl nF_4_9 g_P_formula ?_
  refine aw_iconst (pc' := 5) (x := 4) nd_P_takeBranches_4 rfl (by decide) ?_
  refine aw_iconst (pc' := 6) (x := 0) nd_P_takeBranches_5 rfl (by decide) ?_
  refine aw_callV (pc' := 9) (as := [_, _]) (st := []) nd_P_takeBranches_6 rfl nC_4_42 ⟨(Nat.le_of_ble_eq_true rfl), rfl, rfl⟩ (ns_ioF h12) (Nat.le_of_ble_eq_true rfl) (Nat.le_of_ble_eq_true rfl) (Nat.le_of_ble_eq_true rfl) ?_
  refine c_P_add hs (4, 0) rfl rfl (by decide) (by decide) (by omega) (fun μ10 hs10 => ?_)
  have hl4 : (cs ++ [(4, 0)] : pC).length = cs.length + 1 := by simp
  show nW _ _ _ _ _ 9 _ [_] _ _ _
  refine aw_istore_n (pc' := 10) (ls' := [_, _, _, _]) nd_P_takeBranches_9 rfl (Nat.le_of_ble_eq_true rfl) rfl ?_
  refine aw_aload_n (pc' := 11) nd_P_takeBranches_10 rfl rfl rfl ?_
  refine aw_iload_n (pc' := 12) nd_P_takeBranches_11 rfl rfl ?_
  refine aw_callV (pc' := 15) (as := [_]) (st := []) nd_P_takeBranches_12 rfl nC_4_24 ⟨(Nat.le_of_ble_eq_true rfl), rfl, rfl⟩ ns_ioP (Nat.le_of_ble_eq_true rfl) (Nat.le_of_ble_eq_true rfl) (Nat.le_of_ble_eq_true rfl) ?_
  have ho11 := hFo dp i (cs ++ [(4, 0)]) hi hf
  refine hF d _ _ dp i (cs ++ [(4, 0)]) hs10 hdp hi hf (by omega) ?_
  rcases hr11 : F dp i (cs ++ [(4, 0)]) with ⟨ok11, i11, cs11⟩
  rw [hr11] at ho11
  obtain ⟨oa11, ob11, oc11, od11⟩ := ho11
  dsimp only at oa11 ob11 oc11 od11
  dsimp only
  intro μ11 hs11
  cases ok11 with
  | false =>
    show nW _ _ _ _ _ 15 _ [_] _ _ _
    refine aw_if_eq (pc' := 18) (tg := 27) nd_P_takeBranches_15 (by decide) rfl (fun _ => ?_) (fun hx => absurd (by decide) hx)
    refine aw_iconst (pc' := 28) (x := 0) nd_P_takeBranches_27 rfl (by decide) ?_
    refine aw_ireturn nd_P_takeBranches_28 rfl (by first | rfl | assumption) (Nat.le_of_ble_eq_true rfl) (Nat.le_of_ble_eq_true rfl) ?_
    unfold pB at hq
    rw [hr11] at hq
    dsimp only at hq
    (try dsimp only at hq)
    exact hq _ hs11
  | true =>
    show nW _ _ _ _ _ 15 _ [_] _ _ _
    refine aw_if_eq (pc' := 18) (tg := 27) nd_P_takeBranches_15 (by decide) rfl (fun hx => absurd hx (by decide)) (fun _ => ?_)
    refine aw_aload_n (pc' := 19) nd_P_takeBranches_18 rfl rfl rfl ?_
    refine aw_bipush (pc' := 21) (x := 58) nd_P_takeBranches_19 rfl (by decide) ?_
    refine aw_callV (pc' := 24) (as := [_]) (st := []) nd_P_takeBranches_21 rfl nC_4_46 ⟨(Nat.le_of_ble_eq_true rfl), rfl, rfl⟩ ns_ioP (Nat.le_of_ble_eq_true rfl) (Nat.le_of_ble_eq_true rfl) (Nat.le_of_ble_eq_true rfl) ?_
    refine c_P_take hH hs11 ob11 (c := 58) (fun ht12 μ12 hs12 => ?_) (fun ht12 => ?_)
    · skip
      have hlt12 := nx_lt ht12 (by decide)
      show nW _ _ _ _ _ 24 _ [_] _ _ _
      refine aw_if_ne (pc' := 27) (tg := 29) nd_P_takeBranches_24 (by decide) rfl (fun _ => ?_) (fun hx => absurd hx (by decide))
      refine aw_aload_n (pc' := 30) nd_P_takeBranches_29 rfl rfl rfl ?_
      refine aw_get (pc' := 33) nd_P_takeBranches_30 rfl nF_4_9 g_P_formula ?_
      refine aw_iconst (pc' := 34) (x := 5) nd_P_takeBranches_33 rfl (by decide) ?_
      refine aw_iconst (pc' := 35) (x := 0) nd_P_takeBranches_34 rfl (by decide) ?_
      refine aw_callV (pc' := 38) (as := [_, _]) (st := []) nd_P_takeBranches_35 rfl nC_4_42 ⟨(Nat.le_of_ble_eq_true rfl), rfl, rfl⟩ (ns_ioF h12) (Nat.le_of_ble_eq_true rfl) (Nat.le_of_ble_eq_true rfl) (Nat.le_of_ble_eq_true rfl) ?_
      refine c_P_add hs12 (5, 0) rfl rfl (by decide) (by decide) (by omega) (fun μ13 hs13 => ?_)
      have hl5 : (cs11 ++ [(5, 0)] : pC).length = cs11.length + 1 := by simp
      show nW _ _ _ _ _ 38 _ [_] _ _ _
      refine aw_istore_n (pc' := 39) (ls' := [_, _, _, _]) nd_P_takeBranches_38 rfl (Nat.le_of_ble_eq_true rfl) rfl ?_
      refine aw_aload_n (pc' := 40) nd_P_takeBranches_39 rfl rfl rfl ?_
      refine aw_get (pc' := 43) nd_P_takeBranches_40 rfl nF_4_9 g_P_formula ?_
      refine aw_iload_n (pc' := 44) nd_P_takeBranches_43 rfl rfl ?_
      refine aw_callV (pc' := 47) (as := [_]) (st := []) nd_P_takeBranches_44 rfl nC_4_53 ⟨(Nat.le_of_ble_eq_true rfl), rfl, rfl⟩ (ns_ioF h12) (Nat.le_of_ble_eq_true rfl) (Nat.le_of_ble_eq_true rfl) (Nat.le_of_ble_eq_true rfl) ?_
      have hj14 := jmp_len (cs11 ++ [(5, 0)]) cs.length
      refine c_P_jmp hs13 (j := cs.length) (by omega) (by omega) (fun μ14 hs14 => ?_)
      show nW _ _ _ _ _ 47 _ [] _ _ _
      refine aw_aload_n (pc' := 48) nd_P_takeBranches_47 rfl rfl rfl ?_
      refine aw_iload_n (pc' := 49) nd_P_takeBranches_48 rfl rfl ?_
      refine aw_callV (pc' := 52) (as := [_]) (st := []) nd_P_takeBranches_49 rfl nC_4_24 ⟨(Nat.le_of_ble_eq_true rfl), rfl, rfl⟩ ns_ioP (Nat.le_of_ble_eq_true rfl) (Nat.le_of_ble_eq_true rfl) (Nat.le_of_ble_eq_true rfl) ?_
      have ho15 := hFo dp (i11 + 1) (jmp (cs11 ++ [(5, 0)]) cs.length) (by omega) (by omega)
      refine hF d _ _ dp (i11 + 1) (jmp (cs11 ++ [(5, 0)]) cs.length) hs14 hdp (by omega) (by omega) (by omega) ?_
      rcases hr15 : F dp (i11 + 1) (jmp (cs11 ++ [(5, 0)]) cs.length) with ⟨ok15, i15, cs15⟩
      rw [hr15] at ho15
      obtain ⟨oa15, ob15, oc15, od15⟩ := ho15
      dsimp only at oa15 ob15 oc15 od15
      dsimp only
      intro μ15 hs15
      cases ok15 with
      | false =>
        show nW _ _ _ _ _ 52 _ [_] _ _ _
        refine aw_if_ne (pc' := 55) (tg := 57) nd_P_takeBranches_52 (by decide) rfl (fun hx => absurd (by decide) hx) (fun _ => ?_)
        refine aw_iconst (pc' := 56) (x := 0) nd_P_takeBranches_55 rfl (by decide) ?_
        refine aw_ireturn nd_P_takeBranches_56 rfl (by first | rfl | assumption) (Nat.le_of_ble_eq_true rfl) (Nat.le_of_ble_eq_true rfl) ?_
        unfold pB at hq
        rw [hr11] at hq
        dsimp only at hq
        rw [if_pos ht12] at hq
        rw [hr15] at hq
        dsimp only at hq
        (try dsimp only at hq)
        exact hq _ hs15
      | true =>
        show nW _ _ _ _ _ 52 _ [_] _ _ _
        refine aw_if_ne (pc' := 55) (tg := 57) nd_P_takeBranches_52 (by decide) rfl (fun _ => ?_) (fun hx => absurd hx (by decide))
        refine aw_aload_n (pc' := 58) nd_P_takeBranches_57 rfl rfl rfl ?_
        refine aw_get (pc' := 61) nd_P_takeBranches_58 rfl nF_4_9 g_P_formula ?_
        refine aw_iload_n (pc' := 62) nd_P_takeBranches_61 rfl rfl ?_
        refine aw_callV (pc' := 65) (as := [_]) (st := []) nd_P_takeBranches_62 rfl nC_4_53 ⟨(Nat.le_of_ble_eq_true rfl), rfl, rfl⟩ (ns_ioF h12) (Nat.le_of_ble_eq_true rfl) (Nat.le_of_ble_eq_true rfl) (Nat.le_of_ble_eq_true rfl) ?_
        have hj16 := jmp_len cs15 cs11.length
        refine c_P_jmp hs15 (j := cs11.length) (by omega) (by omega) (fun μ16 hs16 => ?_)
        show nW _ _ _ _ _ 65 _ [] _ _ _
        refine aw_iconst (pc' := 66) (x := 1) nd_P_takeBranches_65 rfl (by decide) ?_
        refine aw_ireturn nd_P_takeBranches_66 rfl (by first | rfl | assumption) (Nat.le_of_ble_eq_true rfl) (Nat.le_of_ble_eq_true rfl) ?_
        unfold pB at hq
        rw [hr11] at hq
        dsimp only at hq
        rw [if_pos ht12] at hq
        rw [hr15] at hq
        dsimp only at hq
        (try dsimp only at hq)
        exact hq _ hs16
    · skip
      show nW _ _ _ _ _ 24 _ [_] _ _ _
      refine aw_if_ne (pc' := 27) (tg := 29) nd_P_takeBranches_24 (by decide) rfl (fun hx => absurd (by decide) hx) (fun _ => ?_)
      refine aw_iconst (pc' := 28) (x := 0) nd_P_takeBranches_27 rfl (by decide) ?_
      refine aw_ireturn nd_P_takeBranches_28 rfl (by first | rfl | assumption) (Nat.le_of_ble_eq_true rfl) (Nat.le_of_ble_eq_true rfl) ?_
      unfold pB at hq
      rw [hr11] at hq
      dsimp only at hq
      rw [if_neg ht12] at hq
      (try dsimp only at hq)
      exact hq _ hs11

theorem c_P_for {L : Nat} {xs : Nat → Int32} {μ0 : nMem} {n f : Nat} (hH : PH μ0 n) {U F : Nat → Nat → pC → pR} {e : Nat} (hS : CU L xs μ0 n (f + 1) (pS (μ0.1 (nT 12)) n U) 100 (e + 2)) (hSo : pAll n (pS (μ0.1 (nT 12)) n U) (f + 1)) (hB : CB L xs μ0 n f (pB (μ0.1 (nT 12)) n F) 99 (e + 2)) : CU L xs μ0 n (f + 1) (pFf (μ0.1 (nT 12)) n U F) 98 (e + 3) := by
  have h12 : 12 < 13 := by omega
  have hn30 := hH.2.1
  intro d Q μ dp i cs hs hdp hi hf hcs hq
  show nM L xs ((d + e + 2) + 1) _ _ _ _
  refine nM.of ns_I_P_takeFormula rfl (ls := [_, _, _]) (Nat.le_of_ble_eq_true rfl) rfl ?_
  refine aw_aload_n (pc' := 1) nd_P_takeFormula_0 rfl rfl rfl ?_
  refine aw_iload_n (pc' := 2) nd_P_takeFormula_1 rfl rfl ?_
  refine aw_callV (pc' := 5) (as := [_]) (st := []) nd_P_takeFormula_2 rfl nC_4_39 ⟨(Nat.le_of_ble_eq_true rfl), rfl, rfl⟩ ns_ioP (Nat.le_of_ble_eq_true rfl) (Nat.le_of_ble_eq_true rfl) (Nat.le_of_ble_eq_true rfl) ?_
  have ho17 := hSo dp i cs hi hf
  refine hS d _ _ dp i cs hs hdp hi hf hcs ?_
  rcases hr17 : pS (μ0.1 (nT 12)) n U dp i cs with ⟨ok17, i17, cs17⟩
  rw [hr17] at ho17
  obtain ⟨oa17, ob17, oc17, od17⟩ := ho17
  dsimp only at oa17 ob17 oc17 od17
  dsimp only
  intro μ17 hs17
  cases ok17 with
  | false =>
    show nW _ _ _ _ _ 5 _ [_] _ _ _
    refine aw_if_ne (pc' := 8) (tg := 10) nd_P_takeFormula_5 (by decide) rfl (fun hx => absurd (by decide) hx) (fun _ => ?_)
    refine aw_iconst (pc' := 9) (x := 0) nd_P_takeFormula_8 rfl (by decide) ?_
    refine aw_ireturn nd_P_takeFormula_9 rfl (by first | rfl | assumption) (Nat.le_of_ble_eq_true rfl) (Nat.le_of_ble_eq_true rfl) ?_
    unfold pFf at hq
    rw [hr17] at hq
    dsimp only at hq
    (try dsimp only at hq)
    exact hq _ hs17
  | true =>
    show nW _ _ _ _ _ 5 _ [_] _ _ _
    refine aw_if_ne (pc' := 8) (tg := 10) nd_P_takeFormula_5 (by decide) rfl (fun _ => ?_) (fun hx => absurd hx (by decide))
    refine aw_aload_n (pc' := 11) nd_P_takeFormula_10 rfl rfl rfl ?_
    refine aw_callV (pc' := 14) (as := []) (st := []) nd_P_takeFormula_11 rfl nC_4_35 ⟨(Nat.le_of_ble_eq_true rfl), rfl, rfl⟩ ns_ioP (Nat.le_of_ble_eq_true rfl) (Nat.le_of_ble_eq_true rfl) (Nat.le_of_ble_eq_true rfl) ?_
    refine c_P_next hH hs17 ob17 ?_
    show nW _ _ _ _ _ 14 _ [_] _ _ _
    refine aw_istore_n (pc' := 15) (ls' := [_, _, _]) nd_P_takeFormula_14 rfl (Nat.le_of_ble_eq_true rfl) rfl ?_
    refine aw_iload_n (pc' := 16) nd_P_takeFormula_15 rfl rfl ?_
    refine aw_bipush (pc' := 18) (x := 60) nd_P_takeFormula_16 rfl (by decide) ?_
    refine aw_icmp_eq (pc' := 21) (tg := 27) nd_P_takeFormula_18 (by decide) rfl (fun hb18 => ?_) (fun hb18 => ?_)
    · skip
      have hor : nx (μ0.1 (nT 12)) n i17 = 60 ∨ nx (μ0.1 (nT 12)) n i17 = 61 := by first | exact Or.inl hb18 | exact Or.inr hb24
      have hlt : i17 < n := by rcases hor with z | z <;> exact nx_lt z (by decide)
      refine aw_aload_n (pc' := 28) nd_P_takeFormula_27 rfl rfl rfl ?_
      refine aw_dup (pc' := 29) nd_P_takeFormula_28 rfl rfl ?_
      refine aw_get (pc' := 32) nd_P_takeFormula_29 rfl nF_4_15 g_P_at ?_
      refine aw_iconst (pc' := 33) (x := 1) nd_P_takeFormula_32 rfl (by decide) ?_
      refine aw_iadd (pc' := 34) nd_P_takeFormula_33 rfl ?_
      refine aw_put (pc' := 37) nd_P_takeFormula_34 rfl nF_4_15 trivial p_P_at ?_
      refine aw_aload_n (pc' := 38) nd_P_takeFormula_37 rfl rfl rfl ?_
      refine aw_iload_n (pc' := 39) nd_P_takeFormula_38 rfl rfl ?_
      refine aw_callV (pc' := 42) (as := [_]) (st := []) nd_P_takeFormula_39 rfl nC_4_39 ⟨(Nat.le_of_ble_eq_true rfl), rfl, rfl⟩ ns_ioP (Nat.le_of_ble_eq_true rfl) (Nat.le_of_ble_eq_true rfl) (Nat.le_of_ble_eq_true rfl) ?_
      have ho18 := hSo dp (i17 + 1) cs17 (by omega) (by omega)
      refine hS d _ _ dp (i17 + 1) cs17 hs17.inc hdp (by omega) (by omega) (by omega) ?_
      rcases hr18 : pS (μ0.1 (nT 12)) n U dp (i17 + 1) cs17 with ⟨ok18, i18, cs18⟩
      rw [hr18] at ho18
      obtain ⟨oa18, ob18, oc18, od18⟩ := ho18
      dsimp only at oa18 ob18 oc18 od18
      dsimp only
      intro μ18 hs18
      cases ok18 with
      | false =>
        show nW _ _ _ _ _ 42 _ [_] _ _ _
        refine aw_if_ne (pc' := 45) (tg := 47) nd_P_takeFormula_42 (by decide) rfl (fun hx => absurd (by decide) hx) (fun _ => ?_)
        refine aw_iconst (pc' := 46) (x := 0) nd_P_takeFormula_45 rfl (by decide) ?_
        refine aw_ireturn nd_P_takeFormula_46 rfl (by first | rfl | assumption) (Nat.le_of_ble_eq_true rfl) (Nat.le_of_ble_eq_true rfl) ?_
        unfold pFf at hq
        rw [hr17] at hq
        dsimp only at hq
        rw [if_pos hor] at hq
        rw [hr18] at hq
        dsimp only at hq
        (try dsimp only at hq)
        exact hq _ hs18
      | true =>
        show nW _ _ _ _ _ 42 _ [_] _ _ _
        refine aw_if_ne (pc' := 45) (tg := 47) nd_P_takeFormula_42 (by decide) rfl (fun _ => ?_) (fun hx => absurd hx (by decide))
        refine aw_aload_n (pc' := 48) nd_P_takeFormula_47 rfl rfl rfl ?_
        refine aw_get (pc' := 51) nd_P_takeFormula_48 rfl nF_4_9 g_P_formula ?_
        refine aw_iload_n (pc' := 52) nd_P_takeFormula_51 rfl rfl ?_
        refine aw_bipush (pc' := 54) (x := 60) nd_P_takeFormula_52 rfl (by decide) ?_
        refine aw_icmp_ne (pc' := 57) (tg := 62) nd_P_takeFormula_54 (by decide) rfl (fun hx => absurd hb18 hx) (fun _ => ?_)
        refine aw_bipush (pc' := 59) (x := 9) nd_P_takeFormula_57 rfl (by decide) ?_
        refine aw_goto (pc' := 64) nd_P_takeFormula_59 (by decide) ?_
        refine aw_iconst (pc' := 65) (x := 0) nd_P_takeFormula_64 rfl (by decide) ?_
        refine aw_callV (pc' := 68) (as := [_, _]) (st := []) nd_P_takeFormula_65 rfl nC_4_42 ⟨(Nat.le_of_ble_eq_true rfl), rfl, rfl⟩ (ns_ioF h12) (Nat.le_of_ble_eq_true rfl) (Nat.le_of_ble_eq_true rfl) (Nat.le_of_ble_eq_true rfl) ?_
        refine c_P_add hs18 ((if nx (μ0.1 (nT 12)) n i17 = 60 then 9 else 10), 0) (by rw [if_pos hb18]; rfl) rfl (by dsimp only; split <;> decide) (Nat.le_of_ble_eq_true rfl) (by omega) (fun μ19 hs19 => ?_)
        have hla19 : (cs18 ++ [((if nx (μ0.1 (nT 12)) n i17 = 60 then 9 else 10), 0)] : pC).length = cs18.length + 1 := by simp
        show nW _ _ _ _ _ 68 _ [_] _ _ _
        refine aw_pop (pc' := 69) nd_P_takeFormula_68 rfl rfl ?_
        refine aw_aload_n (pc' := 70) nd_P_takeFormula_69 rfl rfl rfl ?_
        refine aw_bipush (pc' := 72) (x := 63) nd_P_takeFormula_70 rfl (by decide) ?_
        refine aw_callV (pc' := 75) (as := [_]) (st := []) nd_P_takeFormula_72 rfl nC_4_46 ⟨(Nat.le_of_ble_eq_true rfl), rfl, rfl⟩ ns_ioP (Nat.le_of_ble_eq_true rfl) (Nat.le_of_ble_eq_true rfl) (Nat.le_of_ble_eq_true rfl) ?_
        refine c_P_take hH hs19 ob18 (c := 63) (fun ht20 μ20 hs20 => ?_) (fun ht20 => ?_)
        · skip
          have hlt20 := nx_lt ht20 (by decide)
          show nW _ _ _ _ _ 75 _ [_] _ _ _
          refine aw_if_eq (pc' := 78) (tg := 86) nd_P_takeFormula_75 (by decide) rfl (fun hx => absurd hx (by decide)) (fun _ => ?_)
          refine aw_aload_n (pc' := 79) nd_P_takeFormula_78 rfl rfl rfl ?_
          refine aw_iload_n (pc' := 80) nd_P_takeFormula_79 rfl rfl ?_
          refine aw_callV (pc' := 83) (as := [_]) (st := []) nd_P_takeFormula_80 rfl nC_4_50 ⟨(Nat.le_of_ble_eq_true rfl), rfl, rfl⟩ ns_ioP (Nat.le_of_ble_eq_true rfl) (Nat.le_of_ble_eq_true rfl) (Nat.le_of_ble_eq_true rfl) ?_
          refine hB d _ _ dp (i18 + 1) (cs18 ++ [((if nx (μ0.1 (nT 12)) n i17 = 60 then 9 else 10), 0)]) hs20 hdp (by omega) (by omega) (by omega) ?_
          rcases hr21 : pB (μ0.1 (nT 12)) n F dp (i18 + 1) (cs18 ++ [((if nx (μ0.1 (nT 12)) n i17 = 60 then 9 else 10), 0)]) with ⟨ok21, i21, cs21⟩
          dsimp only
          intro μ21 hs21
          cases ok21 with
          | false =>
            show nW _ _ _ _ _ 83 _ [_] _ _ _
            refine aw_if_eq (pc' := 86) (tg := 90) nd_P_takeFormula_83 (by decide) rfl (fun _ => ?_) (fun hx => absurd (by decide) hx)
            refine aw_iconst (pc' := 91) (x := 0) nd_P_takeFormula_90 rfl (by decide) ?_
            refine aw_ireturn nd_P_takeFormula_91 rfl (by first | rfl | assumption) (Nat.le_of_ble_eq_true rfl) (Nat.le_of_ble_eq_true rfl) ?_
            unfold pFf at hq
            rw [hr17] at hq
            dsimp only at hq
            rw [if_pos hor] at hq
            rw [hr18] at hq
            dsimp only at hq
            unfold pQ at hq
            rw [if_pos ht20] at hq
            rw [hr21] at hq
            dsimp only at hq
            (try dsimp only at hq)
            exact hq _ hs21
          | true =>
            show nW _ _ _ _ _ 83 _ [_] _ _ _
            refine aw_if_eq (pc' := 86) (tg := 90) nd_P_takeFormula_83 (by decide) rfl (fun hx => absurd hx (by decide)) (fun _ => ?_)
            refine aw_iconst (pc' := 87) (x := 1) nd_P_takeFormula_86 rfl (by decide) ?_
            refine aw_goto (pc' := 91) nd_P_takeFormula_87 (by decide) ?_
            refine aw_ireturn nd_P_takeFormula_91 rfl (by first | rfl | assumption) (Nat.le_of_ble_eq_true rfl) (Nat.le_of_ble_eq_true rfl) ?_
            unfold pFf at hq
            rw [hr17] at hq
            dsimp only at hq
            rw [if_pos hor] at hq
            rw [hr18] at hq
            dsimp only at hq
            unfold pQ at hq
            rw [if_pos ht20] at hq
            rw [hr21] at hq
            dsimp only at hq
            (try dsimp only at hq)
            exact hq _ hs21
        · skip
          show nW _ _ _ _ _ 75 _ [_] _ _ _
          refine aw_if_eq (pc' := 78) (tg := 86) nd_P_takeFormula_75 (by decide) rfl (fun _ => ?_) (fun hx => absurd (by decide) hx)
          refine aw_iconst (pc' := 87) (x := 1) nd_P_takeFormula_86 rfl (by decide) ?_
          refine aw_goto (pc' := 91) nd_P_takeFormula_87 (by decide) ?_
          refine aw_ireturn nd_P_takeFormula_91 rfl (by first | rfl | assumption) (Nat.le_of_ble_eq_true rfl) (Nat.le_of_ble_eq_true rfl) ?_
          unfold pFf at hq
          rw [hr17] at hq
          dsimp only at hq
          rw [if_pos hor] at hq
          rw [hr18] at hq
          dsimp only at hq
          unfold pQ at hq
          rw [if_neg ht20] at hq
          (try dsimp only at hq)
          exact hq _ hs19
    · skip
      refine aw_iload_n (pc' := 22) nd_P_takeFormula_21 rfl rfl ?_
      refine aw_bipush (pc' := 24) (x := 61) nd_P_takeFormula_22 rfl (by decide) ?_
      refine aw_icmp_ne (pc' := 27) (tg := 69) nd_P_takeFormula_24 (by decide) rfl (fun hb24 => ?_) (fun hb24 => ?_)
      · skip
        have hor : ¬ (nx (μ0.1 (nT 12)) n i17 = 60 ∨ nx (μ0.1 (nT 12)) n i17 = 61) := fun z => z.elim hb18 hb24
        refine aw_aload_n (pc' := 70) nd_P_takeFormula_69 rfl rfl rfl ?_
        refine aw_bipush (pc' := 72) (x := 63) nd_P_takeFormula_70 rfl (by decide) ?_
        refine aw_callV (pc' := 75) (as := [_]) (st := []) nd_P_takeFormula_72 rfl nC_4_46 ⟨(Nat.le_of_ble_eq_true rfl), rfl, rfl⟩ ns_ioP (Nat.le_of_ble_eq_true rfl) (Nat.le_of_ble_eq_true rfl) (Nat.le_of_ble_eq_true rfl) ?_
        refine c_P_take hH hs17 ob17 (c := 63) (fun ht22 μ22 hs22 => ?_) (fun ht22 => ?_)
        · skip
          have hlt22 := nx_lt ht22 (by decide)
          show nW _ _ _ _ _ 75 _ [_] _ _ _
          refine aw_if_eq (pc' := 78) (tg := 86) nd_P_takeFormula_75 (by decide) rfl (fun hx => absurd hx (by decide)) (fun _ => ?_)
          refine aw_aload_n (pc' := 79) nd_P_takeFormula_78 rfl rfl rfl ?_
          refine aw_iload_n (pc' := 80) nd_P_takeFormula_79 rfl rfl ?_
          refine aw_callV (pc' := 83) (as := [_]) (st := []) nd_P_takeFormula_80 rfl nC_4_50 ⟨(Nat.le_of_ble_eq_true rfl), rfl, rfl⟩ ns_ioP (Nat.le_of_ble_eq_true rfl) (Nat.le_of_ble_eq_true rfl) (Nat.le_of_ble_eq_true rfl) ?_
          refine hB d _ _ dp (i17 + 1) cs17 hs22 hdp (by omega) (by omega) (by omega) ?_
          rcases hr23 : pB (μ0.1 (nT 12)) n F dp (i17 + 1) cs17 with ⟨ok23, i23, cs23⟩
          dsimp only
          intro μ23 hs23
          cases ok23 with
          | false =>
            show nW _ _ _ _ _ 83 _ [_] _ _ _
            refine aw_if_eq (pc' := 86) (tg := 90) nd_P_takeFormula_83 (by decide) rfl (fun _ => ?_) (fun hx => absurd (by decide) hx)
            refine aw_iconst (pc' := 91) (x := 0) nd_P_takeFormula_90 rfl (by decide) ?_
            refine aw_ireturn nd_P_takeFormula_91 rfl (by first | rfl | assumption) (Nat.le_of_ble_eq_true rfl) (Nat.le_of_ble_eq_true rfl) ?_
            unfold pFf at hq
            rw [hr17] at hq
            dsimp only at hq
            rw [if_neg hor] at hq
            unfold pQ at hq
            rw [if_pos ht22] at hq
            rw [hr23] at hq
            dsimp only at hq
            (try dsimp only at hq)
            exact hq _ hs23
          | true =>
            show nW _ _ _ _ _ 83 _ [_] _ _ _
            refine aw_if_eq (pc' := 86) (tg := 90) nd_P_takeFormula_83 (by decide) rfl (fun hx => absurd hx (by decide)) (fun _ => ?_)
            refine aw_iconst (pc' := 87) (x := 1) nd_P_takeFormula_86 rfl (by decide) ?_
            refine aw_goto (pc' := 91) nd_P_takeFormula_87 (by decide) ?_
            refine aw_ireturn nd_P_takeFormula_91 rfl (by first | rfl | assumption) (Nat.le_of_ble_eq_true rfl) (Nat.le_of_ble_eq_true rfl) ?_
            unfold pFf at hq
            rw [hr17] at hq
            dsimp only at hq
            rw [if_neg hor] at hq
            unfold pQ at hq
            rw [if_pos ht22] at hq
            rw [hr23] at hq
            dsimp only at hq
            (try dsimp only at hq)
            exact hq _ hs23
        · skip
          show nW _ _ _ _ _ 75 _ [_] _ _ _
          refine aw_if_eq (pc' := 78) (tg := 86) nd_P_takeFormula_75 (by decide) rfl (fun _ => ?_) (fun hx => absurd (by decide) hx)
          refine aw_iconst (pc' := 87) (x := 1) nd_P_takeFormula_86 rfl (by decide) ?_
          refine aw_goto (pc' := 91) nd_P_takeFormula_87 (by decide) ?_
          refine aw_ireturn nd_P_takeFormula_91 rfl (by first | rfl | assumption) (Nat.le_of_ble_eq_true rfl) (Nat.le_of_ble_eq_true rfl) ?_
          unfold pFf at hq
          rw [hr17] at hq
          dsimp only at hq
          rw [if_neg hor] at hq
          unfold pQ at hq
          rw [if_neg ht22] at hq
          (try dsimp only at hq)
          exact hq _ hs17
      · skip
        have hor : nx (μ0.1 (nT 12)) n i17 = 60 ∨ nx (μ0.1 (nT 12)) n i17 = 61 := by first | exact Or.inl hb18 | exact Or.inr hb24
        have hlt : i17 < n := by rcases hor with z | z <;> exact nx_lt z (by decide)
        refine aw_aload_n (pc' := 28) nd_P_takeFormula_27 rfl rfl rfl ?_
        refine aw_dup (pc' := 29) nd_P_takeFormula_28 rfl rfl ?_
        refine aw_get (pc' := 32) nd_P_takeFormula_29 rfl nF_4_15 g_P_at ?_
        refine aw_iconst (pc' := 33) (x := 1) nd_P_takeFormula_32 rfl (by decide) ?_
        refine aw_iadd (pc' := 34) nd_P_takeFormula_33 rfl ?_
        refine aw_put (pc' := 37) nd_P_takeFormula_34 rfl nF_4_15 trivial p_P_at ?_
        refine aw_aload_n (pc' := 38) nd_P_takeFormula_37 rfl rfl rfl ?_
        refine aw_iload_n (pc' := 39) nd_P_takeFormula_38 rfl rfl ?_
        refine aw_callV (pc' := 42) (as := [_]) (st := []) nd_P_takeFormula_39 rfl nC_4_39 ⟨(Nat.le_of_ble_eq_true rfl), rfl, rfl⟩ ns_ioP (Nat.le_of_ble_eq_true rfl) (Nat.le_of_ble_eq_true rfl) (Nat.le_of_ble_eq_true rfl) ?_
        have ho24 := hSo dp (i17 + 1) cs17 (by omega) (by omega)
        refine hS d _ _ dp (i17 + 1) cs17 hs17.inc hdp (by omega) (by omega) (by omega) ?_
        rcases hr24 : pS (μ0.1 (nT 12)) n U dp (i17 + 1) cs17 with ⟨ok24, i24, cs24⟩
        rw [hr24] at ho24
        obtain ⟨oa24, ob24, oc24, od24⟩ := ho24
        dsimp only at oa24 ob24 oc24 od24
        dsimp only
        intro μ24 hs24
        cases ok24 with
        | false =>
          show nW _ _ _ _ _ 42 _ [_] _ _ _
          refine aw_if_ne (pc' := 45) (tg := 47) nd_P_takeFormula_42 (by decide) rfl (fun hx => absurd (by decide) hx) (fun _ => ?_)
          refine aw_iconst (pc' := 46) (x := 0) nd_P_takeFormula_45 rfl (by decide) ?_
          refine aw_ireturn nd_P_takeFormula_46 rfl (by first | rfl | assumption) (Nat.le_of_ble_eq_true rfl) (Nat.le_of_ble_eq_true rfl) ?_
          unfold pFf at hq
          rw [hr17] at hq
          dsimp only at hq
          rw [if_pos hor] at hq
          rw [hr24] at hq
          dsimp only at hq
          (try dsimp only at hq)
          exact hq _ hs24
        | true =>
          show nW _ _ _ _ _ 42 _ [_] _ _ _
          refine aw_if_ne (pc' := 45) (tg := 47) nd_P_takeFormula_42 (by decide) rfl (fun _ => ?_) (fun hx => absurd hx (by decide))
          refine aw_aload_n (pc' := 48) nd_P_takeFormula_47 rfl rfl rfl ?_
          refine aw_get (pc' := 51) nd_P_takeFormula_48 rfl nF_4_9 g_P_formula ?_
          refine aw_iload_n (pc' := 52) nd_P_takeFormula_51 rfl rfl ?_
          refine aw_bipush (pc' := 54) (x := 60) nd_P_takeFormula_52 rfl (by decide) ?_
          refine aw_icmp_ne (pc' := 57) (tg := 62) nd_P_takeFormula_54 (by decide) rfl (fun _ => ?_) (fun hx => absurd hx hb18)
          refine aw_bipush (pc' := 64) (x := 10) nd_P_takeFormula_62 rfl (by decide) ?_
          refine aw_iconst (pc' := 65) (x := 0) nd_P_takeFormula_64 rfl (by decide) ?_
          refine aw_callV (pc' := 68) (as := [_, _]) (st := []) nd_P_takeFormula_65 rfl nC_4_42 ⟨(Nat.le_of_ble_eq_true rfl), rfl, rfl⟩ (ns_ioF h12) (Nat.le_of_ble_eq_true rfl) (Nat.le_of_ble_eq_true rfl) (Nat.le_of_ble_eq_true rfl) ?_
          refine c_P_add hs24 ((if nx (μ0.1 (nT 12)) n i17 = 60 then 9 else 10), 0) (by rw [if_neg hb18]; rfl) rfl (by dsimp only; split <;> decide) (Nat.le_of_ble_eq_true rfl) (by omega) (fun μ25 hs25 => ?_)
          have hla25 : (cs24 ++ [((if nx (μ0.1 (nT 12)) n i17 = 60 then 9 else 10), 0)] : pC).length = cs24.length + 1 := by simp
          show nW _ _ _ _ _ 68 _ [_] _ _ _
          refine aw_pop (pc' := 69) nd_P_takeFormula_68 rfl rfl ?_
          refine aw_aload_n (pc' := 70) nd_P_takeFormula_69 rfl rfl rfl ?_
          refine aw_bipush (pc' := 72) (x := 63) nd_P_takeFormula_70 rfl (by decide) ?_
          refine aw_callV (pc' := 75) (as := [_]) (st := []) nd_P_takeFormula_72 rfl nC_4_46 ⟨(Nat.le_of_ble_eq_true rfl), rfl, rfl⟩ ns_ioP (Nat.le_of_ble_eq_true rfl) (Nat.le_of_ble_eq_true rfl) (Nat.le_of_ble_eq_true rfl) ?_
          refine c_P_take hH hs25 ob24 (c := 63) (fun ht26 μ26 hs26 => ?_) (fun ht26 => ?_)
          · skip
            have hlt26 := nx_lt ht26 (by decide)
            show nW _ _ _ _ _ 75 _ [_] _ _ _
            refine aw_if_eq (pc' := 78) (tg := 86) nd_P_takeFormula_75 (by decide) rfl (fun hx => absurd hx (by decide)) (fun _ => ?_)
            refine aw_aload_n (pc' := 79) nd_P_takeFormula_78 rfl rfl rfl ?_
            refine aw_iload_n (pc' := 80) nd_P_takeFormula_79 rfl rfl ?_
            refine aw_callV (pc' := 83) (as := [_]) (st := []) nd_P_takeFormula_80 rfl nC_4_50 ⟨(Nat.le_of_ble_eq_true rfl), rfl, rfl⟩ ns_ioP (Nat.le_of_ble_eq_true rfl) (Nat.le_of_ble_eq_true rfl) (Nat.le_of_ble_eq_true rfl) ?_
            refine hB d _ _ dp (i24 + 1) (cs24 ++ [((if nx (μ0.1 (nT 12)) n i17 = 60 then 9 else 10), 0)]) hs26 hdp (by omega) (by omega) (by omega) ?_
            rcases hr27 : pB (μ0.1 (nT 12)) n F dp (i24 + 1) (cs24 ++ [((if nx (μ0.1 (nT 12)) n i17 = 60 then 9 else 10), 0)]) with ⟨ok27, i27, cs27⟩
            dsimp only
            intro μ27 hs27
            cases ok27 with
            | false =>
              show nW _ _ _ _ _ 83 _ [_] _ _ _
              refine aw_if_eq (pc' := 86) (tg := 90) nd_P_takeFormula_83 (by decide) rfl (fun _ => ?_) (fun hx => absurd (by decide) hx)
              refine aw_iconst (pc' := 91) (x := 0) nd_P_takeFormula_90 rfl (by decide) ?_
              refine aw_ireturn nd_P_takeFormula_91 rfl (by first | rfl | assumption) (Nat.le_of_ble_eq_true rfl) (Nat.le_of_ble_eq_true rfl) ?_
              unfold pFf at hq
              rw [hr17] at hq
              dsimp only at hq
              rw [if_pos hor] at hq
              rw [hr24] at hq
              dsimp only at hq
              unfold pQ at hq
              rw [if_pos ht26] at hq
              rw [hr27] at hq
              dsimp only at hq
              (try dsimp only at hq)
              exact hq _ hs27
            | true =>
              show nW _ _ _ _ _ 83 _ [_] _ _ _
              refine aw_if_eq (pc' := 86) (tg := 90) nd_P_takeFormula_83 (by decide) rfl (fun hx => absurd hx (by decide)) (fun _ => ?_)
              refine aw_iconst (pc' := 87) (x := 1) nd_P_takeFormula_86 rfl (by decide) ?_
              refine aw_goto (pc' := 91) nd_P_takeFormula_87 (by decide) ?_
              refine aw_ireturn nd_P_takeFormula_91 rfl (by first | rfl | assumption) (Nat.le_of_ble_eq_true rfl) (Nat.le_of_ble_eq_true rfl) ?_
              unfold pFf at hq
              rw [hr17] at hq
              dsimp only at hq
              rw [if_pos hor] at hq
              rw [hr24] at hq
              dsimp only at hq
              unfold pQ at hq
              rw [if_pos ht26] at hq
              rw [hr27] at hq
              dsimp only at hq
              (try dsimp only at hq)
              exact hq _ hs27
          · skip
            show nW _ _ _ _ _ 75 _ [_] _ _ _
            refine aw_if_eq (pc' := 78) (tg := 86) nd_P_takeFormula_75 (by decide) rfl (fun _ => ?_) (fun hx => absurd (by decide) hx)
            refine aw_iconst (pc' := 87) (x := 1) nd_P_takeFormula_86 rfl (by decide) ?_
            refine aw_goto (pc' := 91) nd_P_takeFormula_87 (by decide) ?_
            refine aw_ireturn nd_P_takeFormula_91 rfl (by first | rfl | assumption) (Nat.le_of_ble_eq_true rfl) (Nat.le_of_ble_eq_true rfl) ?_
            unfold pFf at hq
            rw [hr17] at hq
            dsimp only at hq
            rw [if_pos hor] at hq
            rw [hr24] at hq
            dsimp only at hq
            unfold pQ at hq
            rw [if_neg ht26] at hq
            (try dsimp only at hq)
            exact hq _ hs25

theorem c_P_unit {L : Nat} {xs : Nat → Int32} {μ0 : nMem} {n f : Nat} (hH : PH μ0 n) {U F : Nat → Nat → pC → pR} {e : Nat} (hU : CU L xs μ0 n f U 102 (e + 2)) (hUo : pAll n U f) (hF : CU L xs μ0 n f F 98 (e + 2)) (hFo : pAll n F f) : CU L xs μ0 n (f + 1) (pUf (μ0.1 (nT 12)) n U F) 102 (e + 3) := by
  have h12 : 12 < 13 := by omega
  have hn30 := hH.2.1
  intro d Q μ dp i cs hs hdp hi hf hcs hq
  show nM L xs ((d + e + 2) + 1) _ _ _ _
  refine nM.of ns_I_P_takeUnit rfl (ls := [_, _, _]) (Nat.le_of_ble_eq_true rfl) rfl ?_
  refine aw_aload_n (pc' := 1) nd_P_takeUnit_0 rfl rfl rfl ?_
  refine aw_callV (pc' := 4) (as := []) (st := []) nd_P_takeUnit_1 rfl nC_4_35 ⟨(Nat.le_of_ble_eq_true rfl), rfl, rfl⟩ ns_ioP (Nat.le_of_ble_eq_true rfl) (Nat.le_of_ble_eq_true rfl) (Nat.le_of_ble_eq_true rfl) ?_
  refine c_P_next hH hs hi ?_
  show nW _ _ _ _ _ 4 _ [_] _ _ _
  refine aw_istore_n (pc' := 5) (ls' := [_, _, _]) nd_P_takeUnit_4 rfl (Nat.le_of_ble_eq_true rfl) rfl ?_
  refine aw_iload_n (pc' := 6) nd_P_takeUnit_5 rfl rfl ?_
  refine aw_callS (a := 0) (pc' := 9) (as := [_]) (st := []) nd_P_takeUnit_6 rfl nC_4_63 ⟨(Nat.le_of_ble_eq_true rfl), rfl, rfl⟩ (Nat.le_of_ble_eq_true rfl) (Nat.le_of_ble_eq_true rfl) (Nat.le_of_ble_eq_true rfl) ?_
  refine c_F_isLetter ?_
  show nW _ _ _ _ _ 9 _ [_] _ _ _
  refine aw_if_eq (pc' := 12) (tg := 37) nd_P_takeUnit_9 (by decide) rfl (fun hb9 => ?_) (fun hb9 => ?_)
  · skip
    have hl9 := bi_f hb9
    refine aw_iload_n (pc' := 38) nd_P_takeUnit_37 rfl rfl ?_
    refine aw_callS (a := 0) (pc' := 41) (as := [_]) (st := []) nd_P_takeUnit_38 rfl nC_4_66 ⟨(Nat.le_of_ble_eq_true rfl), rfl, rfl⟩ (Nat.le_of_ble_eq_true rfl) (Nat.le_of_ble_eq_true rfl) (Nat.le_of_ble_eq_true rfl) ?_
    refine c_F_isDigit ?_
    show nW _ _ _ _ _ 41 _ [_] _ _ _
    refine aw_if_eq (pc' := 44) (tg := 50) nd_P_takeUnit_41 (by decide) rfl (fun hb41 => ?_) (fun hb41 => ?_)
    · skip
      have hl41 := bi_f hb41
      have e5 : nI dp < (5 : Int32) ↔ dp < 5 := nI_ltI (b := 5) (by omega) (by decide)
      refine aw_iload_n (pc' := 51) nd_P_takeUnit_50 rfl rfl ?_
      refine aw_iconst (pc' := 52) (x := 5) nd_P_takeUnit_51 rfl (by decide) ?_
      refine aw_icmp_lt (pc' := 55) (tg := 57) nd_P_takeUnit_52 (by decide) rfl (fun hb52 => ?_) (fun hb52 => ?_)
      · skip
        have h5 : ¬ 5 ≤ dp := by have := e5.mp hb52; omega
        refine aw_aload_n (pc' := 58) nd_P_takeUnit_57 rfl rfl rfl ?_
        refine aw_bipush (pc' := 60) (x := 40) nd_P_takeUnit_58 rfl (by decide) ?_
        refine aw_callV (pc' := 63) (as := [_]) (st := []) nd_P_takeUnit_60 rfl nC_4_46 ⟨(Nat.le_of_ble_eq_true rfl), rfl, rfl⟩ ns_ioP (Nat.le_of_ble_eq_true rfl) (Nat.le_of_ble_eq_true rfl) (Nat.le_of_ble_eq_true rfl) ?_
        refine c_P_take hH hs hi (c := 40) (fun ht28 μ28 hs28 => ?_) (fun ht28 => ?_)
        · skip
          have hlt28 := nx_lt ht28 (by decide)
          show nW _ _ _ _ _ 63 _ [_] _ _ _
          refine aw_if_eq (pc' := 66) (tg := 91) nd_P_takeUnit_63 (by decide) rfl (fun hx => absurd hx (by decide)) (fun _ => ?_)
          refine aw_aload_n (pc' := 67) nd_P_takeUnit_66 rfl rfl rfl ?_
          refine aw_iload_n (pc' := 68) nd_P_takeUnit_67 rfl rfl ?_
          refine aw_iconst (pc' := 69) (x := 1) nd_P_takeUnit_68 rfl (by decide) ?_
          refine aw_iadd (pc' := 70) nd_P_takeUnit_69 rfl ?_
          rw [nI_1]
          refine aw_callV (pc' := 73) (as := [_]) (st := []) nd_P_takeUnit_70 rfl nC_4_24 ⟨(Nat.le_of_ble_eq_true rfl), rfl, rfl⟩ ns_ioP (Nat.le_of_ble_eq_true rfl) (Nat.le_of_ble_eq_true rfl) (Nat.le_of_ble_eq_true rfl) ?_
          have ho29 := hFo (dp + 1) (i + 1) cs (by omega) (by omega)
          refine hF d _ _ (dp + 1) (i + 1) cs hs28 (by omega) (by omega) (by omega) (by omega) ?_
          rcases hr29 : F (dp + 1) (i + 1) cs with ⟨ok29, i29, cs29⟩
          rw [hr29] at ho29
          obtain ⟨oa29, ob29, oc29, od29⟩ := ho29
          dsimp only at oa29 ob29 oc29 od29
          dsimp only
          intro μ29 hs29
          cases ok29 with
          | false =>
            show nW _ _ _ _ _ 73 _ [_] _ _ _
            refine aw_if_eq (pc' := 76) (tg := 89) nd_P_takeUnit_73 (by decide) rfl (fun _ => ?_) (fun hx => absurd (by decide) hx)
            refine aw_iconst (pc' := 90) (x := 0) nd_P_takeUnit_89 rfl (by decide) ?_
            refine aw_ireturn nd_P_takeUnit_90 rfl (by first | rfl | assumption) (Nat.le_of_ble_eq_true rfl) (Nat.le_of_ble_eq_true rfl) ?_
            unfold pUf at hq
            rw [if_neg (by rw [hl9]; decide)] at hq
            rw [if_neg (by rw [hl41]; decide)] at hq
            rw [if_neg h5] at hq
            rw [if_pos ht28] at hq
            rw [hr29] at hq
            dsimp only at hq
            (try dsimp only at hq)
            exact hq _ hs29
          | true =>
            show nW _ _ _ _ _ 73 _ [_] _ _ _
            refine aw_if_eq (pc' := 76) (tg := 89) nd_P_takeUnit_73 (by decide) rfl (fun hx => absurd hx (by decide)) (fun _ => ?_)
            refine aw_aload_n (pc' := 77) nd_P_takeUnit_76 rfl rfl rfl ?_
            refine aw_bipush (pc' := 79) (x := 41) nd_P_takeUnit_77 rfl (by decide) ?_
            refine aw_callV (pc' := 82) (as := [_]) (st := []) nd_P_takeUnit_79 rfl nC_4_46 ⟨(Nat.le_of_ble_eq_true rfl), rfl, rfl⟩ ns_ioP (Nat.le_of_ble_eq_true rfl) (Nat.le_of_ble_eq_true rfl) (Nat.le_of_ble_eq_true rfl) ?_
            refine c_P_take hH hs29 ob29 (c := 41) (fun ht30 μ30 hs30 => ?_) (fun ht30 => ?_)
            · skip
              have hlt30 := nx_lt ht30 (by decide)
              show nW _ _ _ _ _ 82 _ [_] _ _ _
              refine aw_if_eq (pc' := 85) (tg := 89) nd_P_takeUnit_82 (by decide) rfl (fun hx => absurd hx (by decide)) (fun _ => ?_)
              refine aw_iconst (pc' := 86) (x := 1) nd_P_takeUnit_85 rfl (by decide) ?_
              refine aw_goto (pc' := 90) nd_P_takeUnit_86 (by decide) ?_
              refine aw_ireturn nd_P_takeUnit_90 rfl (by first | rfl | assumption) (Nat.le_of_ble_eq_true rfl) (Nat.le_of_ble_eq_true rfl) ?_
              unfold pUf at hq
              rw [if_neg (by rw [hl9]; decide)] at hq
              rw [if_neg (by rw [hl41]; decide)] at hq
              rw [if_neg h5] at hq
              rw [if_pos ht28] at hq
              rw [hr29] at hq
              dsimp only at hq
              rw [if_pos ht30] at hq
              (try dsimp only at hq)
              exact hq _ hs30
            · skip
              show nW _ _ _ _ _ 82 _ [_] _ _ _
              refine aw_if_eq (pc' := 85) (tg := 89) nd_P_takeUnit_82 (by decide) rfl (fun _ => ?_) (fun hx => absurd (by decide) hx)
              refine aw_iconst (pc' := 90) (x := 0) nd_P_takeUnit_89 rfl (by decide) ?_
              refine aw_ireturn nd_P_takeUnit_90 rfl (by first | rfl | assumption) (Nat.le_of_ble_eq_true rfl) (Nat.le_of_ble_eq_true rfl) ?_
              unfold pUf at hq
              rw [if_neg (by rw [hl9]; decide)] at hq
              rw [if_neg (by rw [hl41]; decide)] at hq
              rw [if_neg h5] at hq
              rw [if_pos ht28] at hq
              rw [hr29] at hq
              dsimp only at hq
              rw [if_neg ht30] at hq
              (try dsimp only at hq)
              exact hq _ hs29
        · skip
          show nW _ _ _ _ _ 63 _ [_] _ _ _
          refine aw_if_eq (pc' := 66) (tg := 91) nd_P_takeUnit_63 (by decide) rfl (fun _ => ?_) (fun hx => absurd (by decide) hx)
          refine aw_aload_n (pc' := 92) nd_P_takeUnit_91 rfl rfl rfl ?_
          refine aw_bipush (pc' := 94) (x := 45) nd_P_takeUnit_92 rfl (by decide) ?_
          refine aw_callV (pc' := 97) (as := [_]) (st := []) nd_P_takeUnit_94 rfl nC_4_46 ⟨(Nat.le_of_ble_eq_true rfl), rfl, rfl⟩ ns_ioP (Nat.le_of_ble_eq_true rfl) (Nat.le_of_ble_eq_true rfl) (Nat.le_of_ble_eq_true rfl) ?_
          refine c_P_take hH hs hi (c := 45) (fun ht31 μ31 hs31 => ?_) (fun ht31 => ?_)
          · skip
            have hlt31 := nx_lt ht31 (by decide)
            show nW _ _ _ _ _ 97 _ [_] _ _ _
            refine aw_if_ne (pc' := 100) (tg := 111) nd_P_takeUnit_97 (by decide) rfl (fun _ => ?_) (fun hx => absurd hx (by decide))
            refine aw_aload_n (pc' := 112) nd_P_takeUnit_111 rfl rfl rfl ?_
            refine aw_iload_n (pc' := 113) nd_P_takeUnit_112 rfl rfl ?_
            refine aw_iconst (pc' := 114) (x := 1) nd_P_takeUnit_113 rfl (by decide) ?_
            refine aw_iadd (pc' := 115) nd_P_takeUnit_114 rfl ?_
            rw [nI_1]
            refine aw_callV (pc' := 118) (as := [_]) (st := []) nd_P_takeUnit_115 rfl nC_4_60 ⟨(Nat.le_of_ble_eq_true rfl), rfl, rfl⟩ ns_ioP (Nat.le_of_ble_eq_true rfl) (Nat.le_of_ble_eq_true rfl) (Nat.le_of_ble_eq_true rfl) ?_
            have ho32 := hUo (dp + 1) (i + 1) cs (by omega) (by omega)
            refine hU d _ _ (dp + 1) (i + 1) cs hs31 (by omega) (by omega) (by omega) (by omega) ?_
            rcases hr32 : U (dp + 1) (i + 1) cs with ⟨ok32, i32, cs32⟩
            rw [hr32] at ho32
            obtain ⟨oa32, ob32, oc32, od32⟩ := ho32
            dsimp only at oa32 ob32 oc32 od32
            dsimp only
            intro μ32 hs32
            cases ok32 with
            | false =>
              show nW _ _ _ _ _ 118 _ [_] _ _ _
              refine aw_if_ne (pc' := 121) (tg := 123) nd_P_takeUnit_118 (by decide) rfl (fun hx => absurd (by decide) hx) (fun _ => ?_)
              refine aw_iconst (pc' := 122) (x := 0) nd_P_takeUnit_121 rfl (by decide) ?_
              refine aw_ireturn nd_P_takeUnit_122 rfl (by first | rfl | assumption) (Nat.le_of_ble_eq_true rfl) (Nat.le_of_ble_eq_true rfl) ?_
              unfold pUf at hq
              rw [if_neg (by rw [hl9]; decide)] at hq
              rw [if_neg (by rw [hl41]; decide)] at hq
              rw [if_neg h5] at hq
              rw [if_neg ht28] at hq
              rw [if_pos (Or.inl ht31)] at hq
              rw [hr32] at hq
              dsimp only at hq
              (try dsimp only at hq)
              exact hq _ hs32
            | true =>
              show nW _ _ _ _ _ 118 _ [_] _ _ _
              refine aw_if_ne (pc' := 121) (tg := 123) nd_P_takeUnit_118 (by decide) rfl (fun _ => ?_) (fun hx => absurd hx (by decide))
              refine aw_aload_n (pc' := 124) nd_P_takeUnit_123 rfl rfl rfl ?_
              refine aw_get (pc' := 127) nd_P_takeUnit_124 rfl nF_4_9 g_P_formula ?_
              refine aw_iload_n (pc' := 128) nd_P_takeUnit_127 rfl rfl ?_
              refine aw_bipush (pc' := 130) (x := 45) nd_P_takeUnit_128 rfl (by decide) ?_
              refine aw_icmp_ne (pc' := 133) (tg := 137) nd_P_takeUnit_130 (by decide) rfl (fun hx => absurd ht31 hx) (fun _ => ?_)
              refine aw_iconst (pc' := 134) (x := 3) nd_P_takeUnit_133 rfl (by decide) ?_
              refine aw_goto (pc' := 138) nd_P_takeUnit_134 (by decide) ?_
              refine aw_iconst (pc' := 139) (x := 0) nd_P_takeUnit_138 rfl (by decide) ?_
              refine aw_callV (pc' := 142) (as := [_, _]) (st := []) nd_P_takeUnit_139 rfl nC_4_42 ⟨(Nat.le_of_ble_eq_true rfl), rfl, rfl⟩ (ns_ioF h12) (Nat.le_of_ble_eq_true rfl) (Nat.le_of_ble_eq_true rfl) (Nat.le_of_ble_eq_true rfl) ?_
              refine c_P_add hs32 ((if nx (μ0.1 (nT 12)) n i = 45 then 3 else 2), 0) (by rw [if_pos ht31]; rfl) rfl (by dsimp only; split <;> decide) (Nat.le_of_ble_eq_true rfl) (by omega) (fun μ33 hs33 => ?_)
              show nW _ _ _ _ _ 142 _ [_] _ _ _
              refine aw_pop (pc' := 143) nd_P_takeUnit_142 rfl rfl ?_
              refine aw_iconst (pc' := 144) (x := 1) nd_P_takeUnit_143 rfl (by decide) ?_
              refine aw_ireturn nd_P_takeUnit_144 rfl (by first | rfl | assumption) (Nat.le_of_ble_eq_true rfl) (Nat.le_of_ble_eq_true rfl) ?_
              unfold pUf at hq
              rw [if_neg (by rw [hl9]; decide)] at hq
              rw [if_neg (by rw [hl41]; decide)] at hq
              rw [if_neg h5] at hq
              rw [if_neg ht28] at hq
              rw [if_pos (Or.inl ht31)] at hq
              rw [hr32] at hq
              dsimp only at hq
              (try dsimp only at hq)
              exact hq _ hs33
          · skip
            show nW _ _ _ _ _ 97 _ [_] _ _ _
            refine aw_if_ne (pc' := 100) (tg := 111) nd_P_takeUnit_97 (by decide) rfl (fun hx => absurd (by decide) hx) (fun _ => ?_)
            refine aw_aload_n (pc' := 101) nd_P_takeUnit_100 rfl rfl rfl ?_
            refine aw_bipush (pc' := 103) (x := 64) nd_P_takeUnit_101 rfl (by decide) ?_
            refine aw_callV (pc' := 106) (as := [_]) (st := []) nd_P_takeUnit_103 rfl nC_4_46 ⟨(Nat.le_of_ble_eq_true rfl), rfl, rfl⟩ ns_ioP (Nat.le_of_ble_eq_true rfl) (Nat.le_of_ble_eq_true rfl) (Nat.le_of_ble_eq_true rfl) ?_
            refine c_P_take hH hs hi (c := 64) (fun ht34 μ34 hs34 => ?_) (fun ht34 => ?_)
            · skip
              have hlt34 := nx_lt ht34 (by decide)
              show nW _ _ _ _ _ 106 _ [_] _ _ _
              refine aw_if_ne (pc' := 109) (tg := 111) nd_P_takeUnit_106 (by decide) rfl (fun _ => ?_) (fun hx => absurd hx (by decide))
              refine aw_aload_n (pc' := 112) nd_P_takeUnit_111 rfl rfl rfl ?_
              refine aw_iload_n (pc' := 113) nd_P_takeUnit_112 rfl rfl ?_
              refine aw_iconst (pc' := 114) (x := 1) nd_P_takeUnit_113 rfl (by decide) ?_
              refine aw_iadd (pc' := 115) nd_P_takeUnit_114 rfl ?_
              rw [nI_1]
              refine aw_callV (pc' := 118) (as := [_]) (st := []) nd_P_takeUnit_115 rfl nC_4_60 ⟨(Nat.le_of_ble_eq_true rfl), rfl, rfl⟩ ns_ioP (Nat.le_of_ble_eq_true rfl) (Nat.le_of_ble_eq_true rfl) (Nat.le_of_ble_eq_true rfl) ?_
              have ho35 := hUo (dp + 1) (i + 1) cs (by omega) (by omega)
              refine hU d _ _ (dp + 1) (i + 1) cs hs34 (by omega) (by omega) (by omega) (by omega) ?_
              rcases hr35 : U (dp + 1) (i + 1) cs with ⟨ok35, i35, cs35⟩
              rw [hr35] at ho35
              obtain ⟨oa35, ob35, oc35, od35⟩ := ho35
              dsimp only at oa35 ob35 oc35 od35
              dsimp only
              intro μ35 hs35
              cases ok35 with
              | false =>
                show nW _ _ _ _ _ 118 _ [_] _ _ _
                refine aw_if_ne (pc' := 121) (tg := 123) nd_P_takeUnit_118 (by decide) rfl (fun hx => absurd (by decide) hx) (fun _ => ?_)
                refine aw_iconst (pc' := 122) (x := 0) nd_P_takeUnit_121 rfl (by decide) ?_
                refine aw_ireturn nd_P_takeUnit_122 rfl (by first | rfl | assumption) (Nat.le_of_ble_eq_true rfl) (Nat.le_of_ble_eq_true rfl) ?_
                unfold pUf at hq
                rw [if_neg (by rw [hl9]; decide)] at hq
                rw [if_neg (by rw [hl41]; decide)] at hq
                rw [if_neg h5] at hq
                rw [if_neg ht28] at hq
                rw [if_pos (Or.inr ht34)] at hq
                rw [hr35] at hq
                dsimp only at hq
                (try dsimp only at hq)
                exact hq _ hs35
              | true =>
                show nW _ _ _ _ _ 118 _ [_] _ _ _
                refine aw_if_ne (pc' := 121) (tg := 123) nd_P_takeUnit_118 (by decide) rfl (fun _ => ?_) (fun hx => absurd hx (by decide))
                refine aw_aload_n (pc' := 124) nd_P_takeUnit_123 rfl rfl rfl ?_
                refine aw_get (pc' := 127) nd_P_takeUnit_124 rfl nF_4_9 g_P_formula ?_
                refine aw_iload_n (pc' := 128) nd_P_takeUnit_127 rfl rfl ?_
                refine aw_bipush (pc' := 130) (x := 45) nd_P_takeUnit_128 rfl (by decide) ?_
                refine aw_icmp_ne (pc' := 133) (tg := 137) nd_P_takeUnit_130 (by decide) rfl (fun _ => ?_) (fun hx => absurd hx ht31)
                refine aw_iconst (pc' := 138) (x := 2) nd_P_takeUnit_137 rfl (by decide) ?_
                refine aw_iconst (pc' := 139) (x := 0) nd_P_takeUnit_138 rfl (by decide) ?_
                refine aw_callV (pc' := 142) (as := [_, _]) (st := []) nd_P_takeUnit_139 rfl nC_4_42 ⟨(Nat.le_of_ble_eq_true rfl), rfl, rfl⟩ (ns_ioF h12) (Nat.le_of_ble_eq_true rfl) (Nat.le_of_ble_eq_true rfl) (Nat.le_of_ble_eq_true rfl) ?_
                refine c_P_add hs35 ((if nx (μ0.1 (nT 12)) n i = 45 then 3 else 2), 0) (by rw [if_neg ht31]; rfl) rfl (by dsimp only; split <;> decide) (Nat.le_of_ble_eq_true rfl) (by omega) (fun μ36 hs36 => ?_)
                show nW _ _ _ _ _ 142 _ [_] _ _ _
                refine aw_pop (pc' := 143) nd_P_takeUnit_142 rfl rfl ?_
                refine aw_iconst (pc' := 144) (x := 1) nd_P_takeUnit_143 rfl (by decide) ?_
                refine aw_ireturn nd_P_takeUnit_144 rfl (by first | rfl | assumption) (Nat.le_of_ble_eq_true rfl) (Nat.le_of_ble_eq_true rfl) ?_
                unfold pUf at hq
                rw [if_neg (by rw [hl9]; decide)] at hq
                rw [if_neg (by rw [hl41]; decide)] at hq
                rw [if_neg h5] at hq
                rw [if_neg ht28] at hq
                rw [if_pos (Or.inr ht34)] at hq
                rw [hr35] at hq
                dsimp only at hq
                (try dsimp only at hq)
                exact hq _ hs36
            · skip
              show nW _ _ _ _ _ 106 _ [_] _ _ _
              refine aw_if_ne (pc' := 109) (tg := 111) nd_P_takeUnit_106 (by decide) rfl (fun hx => absurd (by decide) hx) (fun _ => ?_)
              refine aw_iconst (pc' := 110) (x := 0) nd_P_takeUnit_109 rfl (by decide) ?_
              refine aw_ireturn nd_P_takeUnit_110 rfl (by first | rfl | assumption) (Nat.le_of_ble_eq_true rfl) (Nat.le_of_ble_eq_true rfl) ?_
              unfold pUf at hq
              rw [if_neg (by rw [hl9]; decide)] at hq
              rw [if_neg (by rw [hl41]; decide)] at hq
              rw [if_neg h5] at hq
              rw [if_neg ht28] at hq
              rw [if_neg (fun z => z.elim ht31 ht34)] at hq
              (try dsimp only at hq)
              exact hq _ hs
      · skip
        have h5 : 5 ≤ dp := by have := mt e5.mpr hb52; omega
        refine aw_iconst (pc' := 56) (x := 0) nd_P_takeUnit_55 rfl (by decide) ?_
        refine aw_ireturn nd_P_takeUnit_56 rfl (by first | rfl | assumption) (Nat.le_of_ble_eq_true rfl) (Nat.le_of_ble_eq_true rfl) ?_
        unfold pUf at hq
        rw [if_neg (by rw [hl9]; decide)] at hq
        rw [if_neg (by rw [hl41]; decide)] at hq
        rw [if_pos h5] at hq
        (try dsimp only at hq)
        exact hq _ hs
    · skip
      have hl41 := bi_t hb41
      have hlt41 := isDig_lt hl41
      refine aw_aload_n (pc' := 45) nd_P_takeUnit_44 rfl rfl rfl ?_
      refine aw_callV (pc' := 48) (as := []) (st := []) nd_P_takeUnit_45 rfl nC_4_69 ⟨(Nat.le_of_ble_eq_true rfl), rfl, rfl⟩ ns_ioP (Nat.le_of_ble_eq_true rfl) (Nat.le_of_ble_eq_true rfl) (Nat.le_of_ble_eq_true rfl) ?_
      refine c_P_num hH hs hi (by omega) (fun μ37 hs37 => ?_)
      show nW _ _ _ _ _ 48 _ [] _ _ _
      refine aw_iconst (pc' := 49) (x := 1) nd_P_takeUnit_48 rfl (by decide) ?_
      refine aw_ireturn nd_P_takeUnit_49 rfl (by first | rfl | assumption) (Nat.le_of_ble_eq_true rfl) (Nat.le_of_ble_eq_true rfl) ?_
      unfold pUf at hq
      rw [if_neg (by rw [hl9]; decide)] at hq
      rw [if_pos hl41] at hq
      (try dsimp only at hq)
      exact hq _ hs37
  · skip
    have hl9 := bi_t hb9
    have hlt9 := isLet_lt hl9
    refine aw_aload_n (pc' := 13) nd_P_takeUnit_12 rfl rfl rfl ?_
    refine aw_dup (pc' := 14) nd_P_takeUnit_13 rfl rfl ?_
    refine aw_get (pc' := 17) nd_P_takeUnit_14 rfl nF_4_15 g_P_at ?_
    refine aw_iconst (pc' := 18) (x := 1) nd_P_takeUnit_17 rfl (by decide) ?_
    refine aw_iadd (pc' := 19) nd_P_takeUnit_18 rfl ?_
    refine aw_put (pc' := 22) nd_P_takeUnit_19 rfl nF_4_15 trivial p_P_at ?_
    refine aw_aload_n (pc' := 23) nd_P_takeUnit_22 rfl rfl rfl ?_
    refine aw_get (pc' := 26) nd_P_takeUnit_23 rfl nF_4_9 g_P_formula ?_
    refine aw_iconst (pc' := 27) (x := 1) nd_P_takeUnit_26 rfl (by decide) ?_
    refine aw_iload_n (pc' := 28) nd_P_takeUnit_27 rfl rfl ?_
    refine aw_bipush (pc' := 30) (x := 65) nd_P_takeUnit_28 rfl (by decide) ?_
    refine aw_isub (pc' := 31) nd_P_takeUnit_30 rfl ?_
    refine aw_callV (pc' := 34) (as := [_, _]) (st := []) nd_P_takeUnit_31 rfl nC_4_42 ⟨(Nat.le_of_ble_eq_true rfl), rfl, rfl⟩ (ns_ioF h12) (Nat.le_of_ble_eq_true rfl) (Nat.le_of_ble_eq_true rfl) (Nat.le_of_ble_eq_true rfl) ?_
    refine c_P_add hs.inc (1, la (nx (μ0.1 (nT 12)) n i)) rfl (la_of hl9).1 (by dsimp only; omega) (by have := (la_of hl9).2; dsimp only; omega) (by omega) (fun μ38 hs38 => ?_)
    show nW _ _ _ _ _ 34 _ [_] _ _ _
    refine aw_pop (pc' := 35) nd_P_takeUnit_34 rfl rfl ?_
    refine aw_iconst (pc' := 36) (x := 1) nd_P_takeUnit_35 rfl (by decide) ?_
    refine aw_ireturn nd_P_takeUnit_36 rfl (by first | rfl | assumption) (Nat.le_of_ble_eq_true rfl) (Nat.le_of_ble_eq_true rfl) ?_
    unfold pUf at hq
    rw [if_pos hl9] at hq
    (try dsimp only at hq)
    exact hq _ hs38
end
section
/-! the parser as a whole; define -/
theorem CU.up {L : Nat} {xs : Nat → Int32} {μ0 : nMem} {n f : Nat} {G : Nat → Nat → pC → pR} {id dep dep' : Nat} (h : CU L xs μ0 n f G id dep) (hd : dep ≤ dep') : CU L xs μ0 n f G id dep' := by
  intro d Q μ dp i cs hs hdp hi hf hcs hq
  have e := h (d + (dep' - dep)) Q μ dp i cs hs hdp hi hf hcs hq
  rw [show d + (dep' - dep) + dep = d + dep' by omega] at e
  exact e
theorem CB.up {L : Nat} {xs : Nat → Int32} {μ0 : nMem} {n f : Nat} {G : Nat → Nat → pC → pR} {id dep dep' : Nat} (h : CB L xs μ0 n f G id dep) (hd : dep ≤ dep') : CB L xs μ0 n f G id dep' := by
  intro d Q μ dp i cs hs hdp hi hf hcs hq
  have e := h (d + (dep' - dep)) Q μ dp i cs hs hdp hi hf hcs hq
  rw [show d + (dep' - dep) + dep = d + dep' by omega] at e
  exact e
theorem c_P_W {L : Nat} {xs : Nat → Int32} {μ0 : nMem} {n : Nat} (hH : PH μ0 n) : ∀ f, CU L xs μ0 n f (pW (μ0.1 (nT 12)) n f).1 102 (4 * f + 3) ∧ CU L xs μ0 n f (pW (μ0.1 (nT 12)) n f).2 98 (4 * f + 6) := by
  intro f
  induction f with
  | zero => exact ⟨fun _ _ _ _ _ _ _ _ _ h => absurd h (by omega), fun _ _ _ _ _ _ _ _ _ h => absurd h (by omega)⟩
  | succ f ih =>
    obtain ⟨hU, hF⟩ := ih
    obtain ⟨oU, oF⟩ := pW_ok (μ0.1 (nT 12)) n f
    have u1 : CU L xs μ0 n (f + 1) (pUf (μ0.1 (nT 12)) n (pW (μ0.1 (nT 12)) n f).1 (pW (μ0.1 (nT 12)) n f).2) 102 (4 * f + 4 + 3) := c_P_unit hH (e := 4 * f + 4) (hU.up (by omega)) oU (hF.up (by omega)) oF
    have o1 := pUf_ok (t := (μ0.1 (nT 12))) oU oF
    have p1 := c_P_prod hH (e := 4 * f + 5) u1 o1
    have s1 := c_P_sum hH (e := 4 * f + 6) (p1.up (by omega)) (pP_ok o1)
    have b1 := c_P_bra hH (e := 4 * f + 4) hF oF
    have f1 := c_P_for hH (e := 4 * f + 7) (s1.up (by omega)) (pS_ok o1) (b1.up (by omega))
    exact ⟨u1.up (by omega), f1.up (by omega)⟩
/-- what the parser makes of a text of n characters -/
def pAcc (t : Nat → Int32) (n : Nat) : pR := (pW t n 31).2 0 0 []
theorem pAcc_ok (t : Nat → Int32) {n : Nat} (hn : n ≤ 30) : (pAcc t n).2.1 ≤ n ∧ (pAcc t n).2.2.length ≤ (pAcc t n).2.1 := by
  obtain ⟨a1, a2, a3, a4⟩ := (pW_ok t n 31).2 0 0 [] (by omega) (by omega)
  have e : ([] : pC).length = 0 := rfl
  rw [e] at a3
  exact ⟨a2, by unfold pAcc; omega⟩
theorem PSt.start {μ : nMem} : PSt μ (ms (ms μ 103 1 0) (nF 12) 3 0) 0 [] := by
  refine ⟨⟨fun b h1 h2 h3 => ?_, fun j hj => ?_, fun j hj => ?_, rfl⟩, ?_, ?_, fun j q hq => ?_, fun q hq => ?_⟩
  · rw [ms_o h2, ms_o h1]
  · rw [ms_s, pk_un hj, ms_o (by decide)]
  · rw [ms_o (by decide), ms_s, pk_un hj]
  · rw [ms_o (by decide), ms_s, pk_us]; rfl
  · rw [ms_s, pk_us]; rfl
  · simp at hq
  · simp at hq

theorem c_P_accepts {L : Nat} {xs : Nat → Int32} {d : Nat} {Q : ax_Q} {μ : nMem} {n : Nat} (hH : PH μ n) (hq : ∀ μ', PSt μ μ' (pAcc (μ.1 (nT 12)) n).2.1 (pAcc (μ.1 (nT 12)) n).2.2 → Q (some (.int (bi ((pAcc (μ.1 (nT 12)) n).1 && decide ((pAcc (μ.1 (nT 12)) n).2.1 = n))))) (ns_rep μ')) : nM L xs (d + 131) 94 [.ref 103] (ns_rep μ) Q := by
  have h12 : 12 < 13 := by omega
  refine nM.of ns_I_P_accepts rfl (ls := [_]) (Nat.le_of_ble_eq_true rfl) rfl ?_
  refine aw_aload_n (pc' := 1) nd_P_accepts_0 rfl rfl rfl ?_
  refine aw_iconst (pc' := 2) (x := 0) nd_P_accepts_1 rfl (by decide) ?_
  refine aw_put (pc' := 5) nd_P_accepts_2 rfl nF_4_15 trivial p_P_at ?_
  refine aw_aload_n (pc' := 6) nd_P_accepts_5 rfl rfl rfl ?_
  refine aw_get (pc' := 9) nd_P_accepts_6 rfl nF_4_9 g_P_formula ?_
  refine aw_iconst (pc' := 10) (x := 0) nd_P_accepts_9 rfl (by decide) ?_
  refine aw_put (pc' := 13) nd_P_accepts_10 rfl nF_4_19 trivial (p_F_stepCount h12) ?_
  refine aw_aload_n (pc' := 14) nd_P_accepts_13 rfl rfl rfl ?_
  refine aw_iconst (pc' := 15) (x := 0) nd_P_accepts_14 rfl (by decide) ?_
  refine aw_callV (pc' := 18) (as := [_]) (st := []) nd_P_accepts_15 rfl nC_4_24 ⟨(Nat.le_of_ble_eq_true rfl), rfl, rfl⟩ ns_ioP (Nat.le_of_ble_eq_true rfl) (Nat.le_of_ble_eq_true rfl) (Nat.le_of_ble_eq_true rfl) ?_
  have ho := pAcc_ok (μ.1 (nT 12)) hH.2.1
  refine (show CU L xs μ n 31 (pW (μ.1 (nT 12)) n 31).2 98 130 from (c_P_W hH 31).2) d _ _ 0 0 [] PSt.start (by decide) (Nat.zero_le _) (by have := hH.2.1; omega) (Nat.zero_le _) ?_
  change ∀ μ', PSt μ μ' (pAcc (μ.1 (nT 12)) n).2.1 (pAcc (μ.1 (nT 12)) n).2.2 → nW L xs (d + 130) _ _ _ _ ((some (Value.int (bi (pAcc (μ.1 (nT 12)) n).1))).toList ++ _) _ _ (ns_rep μ')
  rcases hr : pAcc (μ.1 (nT 12)) n with ⟨ok, i1, cs1⟩
  rw [hr] at hq ho
  dsimp only at hq ho ⊢
  intro μ1 hs1
  have e2 := hs1.2.1
  have e3 := hs1.len.trans hH.1
  have e4 : nI i1 = nI n ↔ i1 = n := nI_eq (by have := hH.2.1; omega) (by have := hH.2.1; omega)
  cases ok with
  | false =>
    show nW _ _ _ _ _ 18 _ [_] _ _ _
    refine aw_if_eq (pc' := 21) (tg := 39) nd_P_accepts_18 (by decide) rfl (fun _ => ?_) (fun hx => absurd (by decide) hx)
    refine aw_iconst (pc' := 40) (x := 0) nd_P_accepts_39 rfl (by decide) ?_
    refine aw_ireturn nd_P_accepts_40 rfl (by first | rfl | assumption) (Nat.le_of_ble_eq_true rfl) (Nat.le_of_ble_eq_true rfl) ?_
    have hq := hq _ hs1
    first
      | exact hq
      | (rw [show decide (i1 = n) = true from decide_eq_true (e4.mp hb32)] at hq; exact hq)
      | (rw [show decide (i1 = n) = false from decide_eq_false (fun z => hb32 (e4.mpr z))] at hq; exact hq)
  | true =>
    show nW _ _ _ _ _ 18 _ [_] _ _ _
    refine aw_if_eq (pc' := 21) (tg := 39) nd_P_accepts_18 (by decide) rfl (fun hx => absurd hx (by decide)) (fun _ => ?_)
    refine aw_aload_n (pc' := 22) nd_P_accepts_21 rfl rfl rfl ?_
    refine aw_get (pc' := 25) nd_P_accepts_22 rfl nF_4_15 g_P_at ?_
    refine aw_aload_n (pc' := 26) nd_P_accepts_25 rfl rfl rfl ?_
    refine aw_get (pc' := 29) nd_P_accepts_26 rfl nF_4_9 g_P_formula ?_
    refine aw_get (pc' := 32) nd_P_accepts_29 rfl nF_4_28 (g_F_length h12) ?_
    rw [e2, e3]
    refine aw_icmp_ne (pc' := 35) (tg := 39) nd_P_accepts_32 (by decide) rfl (fun hb32 => ?_) (fun hb32 => ?_)
    · skip
      refine aw_iconst (pc' := 40) (x := 0) nd_P_accepts_39 rfl (by decide) ?_
      refine aw_ireturn nd_P_accepts_40 rfl (by first | rfl | assumption) (Nat.le_of_ble_eq_true rfl) (Nat.le_of_ble_eq_true rfl) ?_
      have hq := hq _ hs1
      first
        | exact hq
        | (rw [show decide (i1 = n) = true from decide_eq_true (e4.mp hb32)] at hq; exact hq)
        | (rw [show decide (i1 = n) = false from decide_eq_false (fun z => hb32 (e4.mpr z))] at hq; exact hq)
    · skip
      refine aw_iconst (pc' := 36) (x := 1) nd_P_accepts_35 rfl (by decide) ?_
      refine aw_goto (pc' := 40) nd_P_accepts_36 (by decide) ?_
      refine aw_ireturn nd_P_accepts_40 rfl (by first | rfl | assumption) (Nat.le_of_ble_eq_true rfl) (Nat.le_of_ble_eq_true rfl) ?_
      have hq := hq _ hs1
      first
        | exact hq
        | (rw [show decide (i1 = n) = true from decide_eq_true (e4.mp hb32)] at hq; exact hq)
        | (rw [show decide (i1 = n) = false from decide_eq_false (fun z => hb32 (e4.mpr z))] at hq; exact hq)

def cpF (m : nMem) (k : Nat) : nMem := ms (ms (mw (mw m (nT k) (va_cpy (m.1 (nT 12)) (m.1 (nT k)) 0 0 30)) (nS k) (va_cpy (m.1 (nS 12)) (m.1 (nS k)) 0 0 30)) (nF k) 2 (m.1 (nF 12) 2)) (nF k) 3 (m.1 (nF 12) 3)
def mkF (μ : nMem) (k o : Nat) : nMem := ms (ms (cpF (srv μ o) k) (nC k) 5 ((cpF (srv μ o) k).1 0 6)) (nC k) 4 1
theorem srv_o {μ : nMem} {o b : Nat} (h : ¬ b = 98) (h0 : ¬ b = 0) : (srv μ o).1 b = μ.1 b := by
  unfold srv
  rw [sr_o h, ms_o h0]

theorem c_N_makeFormula {L : Nat} {xs : Nat → Int32} {d : Nat} {Q : ax_Q} {μ : nMem} {k a m o : Nat} (hk : k < 12) (ha : μ.1 (nF k) 2 = nI a) (ha30 : a ≤ 30) (hm : μ.1 (nF 12) 2 = nI m) (hm30 : m ≤ 30) (ho : oD μ k = nI o) (ho3 : o < 3) (hfit : ∀ i, i < 30 → fits .char (.int (μ.1 (nT 12) i)) = true) (hq1 : ¬ μ.1 (nC k) 4 = 0 → a = m → (∀ i, i < a → μ.1 (nT k) i = μ.1 (nT 12) i) → Q none (ns_rep μ)) (hq2 : (¬ μ.1 (nC k) 4 = 0 → a = m → ¬ ∀ i, i < a → μ.1 (nT k) i = μ.1 (nT 12) i) → Q none (ns_rep (mkF μ k o))) : nM L xs (d + 2) 12 [.ref 0, .ref (nC k)] (ns_rep μ) Q := by
  have h12 : 12 < 13 := by omega
  have hk13 : k < 13 := by omega
  refine nM.of ns_I_N_makeFormula rfl (ls := [_, _]) (Nat.le_of_ble_eq_true rfl) rfl ?_
  refine aw_aload_n (pc' := 1) nd_N_makeFormula_0 rfl rfl rfl ?_
  refine aw_get (pc' := 4) nd_N_makeFormula_1 rfl nF_0_84 (g_C_hasFormula (by assumption)) ?_
  refine aw_if_eq (pc' := 7) (tg := 22) nd_N_makeFormula_4 (by decide) rfl (fun hb4 => ?_) (fun hb4 => ?_)
  · skip
    refine aw_aload_n (pc' := 23) nd_N_makeFormula_22 rfl rfl rfl ?_
    refine aw_aload_n (pc' := 24) nd_N_makeFormula_23 rfl rfl rfl ?_
    refine aw_callV (pc' := 27) (as := []) (st := [_]) nd_N_makeFormula_24 rfl nC_0_144 ⟨(Nat.le_of_ble_eq_true rfl), rfl, rfl⟩ (ns_ioC (by assumption)) (Nat.le_of_ble_eq_true rfl) (Nat.le_of_ble_eq_true rfl) (Nat.le_of_ble_eq_true rfl) ?_
    refine c_C_own hk ?_
    rw [show (if μ.1 (nC k) 4 = 0 then μ.1 (nC k) 7 else 2) = nI o from ho]
    show nW _ _ _ _ _ 27 _ [_, _] _ _ _
    refine aw_callV (pc' := 30) (as := [_]) (st := []) nd_N_makeFormula_27 rfl nC_0_147 ⟨(Nat.le_of_ble_eq_true rfl), rfl, rfl⟩ ns_ioN (Nat.le_of_ble_eq_true rfl) (Nat.le_of_ble_eq_true rfl) (Nat.le_of_ble_eq_true rfl) ?_
    refine c_N_startRevision ho3 ?_
    show nW _ _ _ _ _ 30 _ [] _ _ _
    refine aw_aload_n (pc' := 31) nd_N_makeFormula_30 rfl rfl rfl ?_
    refine aw_get (pc' := 34) nd_N_makeFormula_31 rfl nF_0_137 (g_C_formula (by assumption)) ?_
    refine aw_aload_n (pc' := 35) nd_N_makeFormula_34 rfl rfl rfl ?_
    refine aw_get (pc' := 38) nd_N_makeFormula_35 rfl nF_0_39 g_N_pad ?_
    refine aw_callV (pc' := 41) (as := [_]) (st := []) nd_N_makeFormula_38 rfl nC_0_151 ⟨(Nat.le_of_ble_eq_true rfl), rfl, rfl⟩ (ns_ioF hk13) (Nat.le_of_ble_eq_true rfl) (Nat.le_of_ble_eq_true rfl) (Nat.le_of_ble_eq_true rfl) ?_
    refine c_F_copyFrom hk (by rw [srv_o (by decide) (by decide)]; exact hfit) ?_
    show nW _ _ _ _ _ 41 _ [] _ _ _
    refine aw_aload_n (pc' := 42) nd_N_makeFormula_41 rfl rfl rfl ?_
    refine aw_aload_n (pc' := 43) nd_N_makeFormula_42 rfl rfl rfl ?_
    refine aw_get (pc' := 46) nd_N_makeFormula_43 rfl nF_0_52 g_N_now ?_
    refine aw_put (pc' := 49) nd_N_makeFormula_46 rfl nF_0_154 trivial (p_C_formulaChanged (by assumption)) ?_
    refine aw_aload_n (pc' := 50) nd_N_makeFormula_49 rfl rfl rfl ?_
    refine aw_iconst (pc' := 51) (x := 1) nd_N_makeFormula_50 rfl (by decide) ?_
    refine aw_put (pc' := 54) nd_N_makeFormula_51 rfl nF_0_84 (by first | exact Or.inl rfl | exact Or.inr rfl | assumption) (p_C_hasFormula (by assumption)) ?_
    refine aw_return nd_N_makeFormula_54 rfl (Nat.le_of_ble_eq_true rfl) (Nat.le_of_ble_eq_true rfl) ?_
    first
      | exact hq2 (fun z => absurd hb4 z)
      | exact hq2 (fun _ => hno)
  · skip
    refine aw_aload_n (pc' := 8) nd_N_makeFormula_7 rfl rfl rfl ?_
    refine aw_get (pc' := 11) nd_N_makeFormula_8 rfl nF_0_137 (g_C_formula (by assumption)) ?_
    refine aw_aload_n (pc' := 12) nd_N_makeFormula_11 rfl rfl rfl ?_
    refine aw_get (pc' := 15) nd_N_makeFormula_12 rfl nF_0_39 g_N_pad ?_
    refine aw_callV (pc' := 18) (as := [_]) (st := []) nd_N_makeFormula_15 rfl nC_0_140 ⟨(Nat.le_of_ble_eq_true rfl), rfl, rfl⟩ (ns_ioF hk13) (Nat.le_of_ble_eq_true rfl) (Nat.le_of_ble_eq_true rfl) (Nat.le_of_ble_eq_true rfl) ?_
    refine c_F_hasText hk ha ha30 hm hm30 (fun he hall => ?_) (fun hno => ?_)
    · skip
      show nW _ _ _ _ _ 18 _ [_] _ _ _
      refine aw_if_eq (pc' := 21) (tg := 22) nd_N_makeFormula_18 (by decide) rfl (fun hx => absurd hx (by decide)) (fun _ => ?_)
      refine aw_return nd_N_makeFormula_21 rfl (Nat.le_of_ble_eq_true rfl) (Nat.le_of_ble_eq_true rfl) ?_
      exact hq1 hb4 he hall
    · skip
      show nW _ _ _ _ _ 18 _ [_] _ _ _
      refine aw_if_eq (pc' := 21) (tg := 22) nd_N_makeFormula_18 (by decide) rfl (fun _ => ?_) (fun hx => absurd (by decide) hx)
      refine aw_aload_n (pc' := 23) nd_N_makeFormula_22 rfl rfl rfl ?_
      refine aw_aload_n (pc' := 24) nd_N_makeFormula_23 rfl rfl rfl ?_
      refine aw_callV (pc' := 27) (as := []) (st := [_]) nd_N_makeFormula_24 rfl nC_0_144 ⟨(Nat.le_of_ble_eq_true rfl), rfl, rfl⟩ (ns_ioC (by assumption)) (Nat.le_of_ble_eq_true rfl) (Nat.le_of_ble_eq_true rfl) (Nat.le_of_ble_eq_true rfl) ?_
      refine c_C_own hk ?_
      rw [show (if μ.1 (nC k) 4 = 0 then μ.1 (nC k) 7 else 2) = nI o from ho]
      show nW _ _ _ _ _ 27 _ [_, _] _ _ _
      refine aw_callV (pc' := 30) (as := [_]) (st := []) nd_N_makeFormula_27 rfl nC_0_147 ⟨(Nat.le_of_ble_eq_true rfl), rfl, rfl⟩ ns_ioN (Nat.le_of_ble_eq_true rfl) (Nat.le_of_ble_eq_true rfl) (Nat.le_of_ble_eq_true rfl) ?_
      refine c_N_startRevision ho3 ?_
      show nW _ _ _ _ _ 30 _ [] _ _ _
      refine aw_aload_n (pc' := 31) nd_N_makeFormula_30 rfl rfl rfl ?_
      refine aw_get (pc' := 34) nd_N_makeFormula_31 rfl nF_0_137 (g_C_formula (by assumption)) ?_
      refine aw_aload_n (pc' := 35) nd_N_makeFormula_34 rfl rfl rfl ?_
      refine aw_get (pc' := 38) nd_N_makeFormula_35 rfl nF_0_39 g_N_pad ?_
      refine aw_callV (pc' := 41) (as := [_]) (st := []) nd_N_makeFormula_38 rfl nC_0_151 ⟨(Nat.le_of_ble_eq_true rfl), rfl, rfl⟩ (ns_ioF hk13) (Nat.le_of_ble_eq_true rfl) (Nat.le_of_ble_eq_true rfl) (Nat.le_of_ble_eq_true rfl) ?_
      refine c_F_copyFrom hk (by rw [srv_o (by decide) (by decide)]; exact hfit) ?_
      show nW _ _ _ _ _ 41 _ [] _ _ _
      refine aw_aload_n (pc' := 42) nd_N_makeFormula_41 rfl rfl rfl ?_
      refine aw_aload_n (pc' := 43) nd_N_makeFormula_42 rfl rfl rfl ?_
      refine aw_get (pc' := 46) nd_N_makeFormula_43 rfl nF_0_52 g_N_now ?_
      refine aw_put (pc' := 49) nd_N_makeFormula_46 rfl nF_0_154 trivial (p_C_formulaChanged (by assumption)) ?_
      refine aw_aload_n (pc' := 50) nd_N_makeFormula_49 rfl rfl rfl ?_
      refine aw_iconst (pc' := 51) (x := 1) nd_N_makeFormula_50 rfl (by decide) ?_
      refine aw_put (pc' := 54) nd_N_makeFormula_51 rfl nF_0_84 (by first | exact Or.inl rfl | exact Or.inr rfl | assumption) (p_C_hasFormula (by assumption)) ?_
      refine aw_return nd_N_makeFormula_54 rfl (Nat.le_of_ble_eq_true rfl) (Nat.le_of_ble_eq_true rfl) ?_
      first
        | exact hq2 (fun z => absurd hb4 z)
        | exact hq2 (fun _ => hno)

theorem c_N_define {L : Nat} {xs : Nat → Int32} {d : Nat} {Q : ax_Q} {μ : nMem} {n : Nat} {x : Int32} (hH : PH μ n) (hq0 : ic x = false → Q (some (.int (-1))) (ns_rep (ms μ (nF 12) 2 0)))
    (hq1 : ∀ k μ', k < 12 → x = nI k → PSt μ μ' (pAcc (μ.1 (nT 12)) n).2.1 (pAcc (μ.1 (nT 12)) n).2.2 → ((pAcc (μ.1 (nT 12)) n).1 && decide ((pAcc (μ.1 (nT 12)) n).2.1 = n)) = false → Q (some (.int (nI (1 + (pAcc (μ.1 (nT 12)) n).2.1)))) (ns_rep (ms μ' (nF 12) 2 0)))
    (hq2 : ∀ k μ', k < 12 → x = nI k → PSt μ μ' (pAcc (μ.1 (nT 12)) n).2.1 (pAcc (μ.1 (nT 12)) n).2.2 → ((pAcc (μ.1 (nT 12)) n).1 && decide ((pAcc (μ.1 (nT 12)) n).2.1 = n)) = true → ∃ a o, μ'.1 (nF k) 2 = nI a ∧ a ≤ 30 ∧ oD μ' k = nI o ∧ o < 3 ∧ (∀ i, i < 30 → fits .char (.int (μ'.1 (nT 12) i)) = true) ∧ (¬ μ'.1 (nC k) 4 = 0 → a = n → (∀ i, i < a → μ'.1 (nT k) i = μ'.1 (nT 12) i) → Q (some (.int 0)) (ns_rep (ms μ' (nF 12) 2 0))) ∧ ((¬ μ'.1 (nC k) 4 = 0 → a = n → ¬ ∀ i, i < a → μ'.1 (nT k) i = μ'.1 (nT 12) i) → Q (some (.int 0)) (ns_rep (ms (mkF μ' k o) (nF 12) 2 0)))) : nM L xs (d + 132) 2 [.ref 0, .int x] (ns_rep μ) Q := by
  have h12 : 12 < 13 := by omega
  have ho := pAcc_ok (μ.1 (nT 12)) hH.2.1
  have hn30 := hH.2.1
  refine nM.of ns_I_N_define rfl (ls := [_, _, _]) (Nat.le_of_ble_eq_true rfl) rfl ?_
  refine aw_iconst (pc' := 1) (x := -1) nd_N_define_0 rfl (by decide) ?_
  refine aw_istore_n (pc' := 2) (ls' := [_, _, _]) nd_N_define_1 rfl (Nat.le_of_ble_eq_true rfl) rfl ?_
  refine aw_iload_n (pc' := 3) nd_N_define_2 rfl rfl ?_
  refine aw_callS (a := 0) (pc' := 6) (as := [_]) (st := []) nd_N_define_3 rfl nC_0_62 ⟨(Nat.le_of_ble_eq_true rfl), rfl, rfl⟩ (Nat.le_of_ble_eq_true rfl) (Nat.le_of_ble_eq_true rfl) (Nat.le_of_ble_eq_true rfl) ?_
  refine c_N_isCell ?_
  change nW _ _ _ _ _ _ _ ((some (Value.int (bi (ic x)))).toList ++ _) _ _ _
  show nW _ _ _ _ _ 6 _ [_] _ _ _
  refine aw_if_eq (pc' := 9) (tg := 33) nd_N_define_6 (by decide) rfl (fun hb6 => ?_) (fun hb6 => ?_)
  · skip
    refine aw_iload_n (pc' := 34) nd_N_define_33 rfl rfl ?_
    refine aw_if_ne (pc' := 37) (tg := 47) nd_N_define_34 (by decide) rfl (fun _ => ?_) (fun hx => absurd hx (by decide))
    refine aw_aload_n (pc' := 48) nd_N_define_47 rfl rfl rfl ?_
    refine aw_get (pc' := 51) nd_N_define_48 rfl nF_0_39 g_N_pad ?_
    refine aw_iconst (pc' := 52) (x := 0) nd_N_define_51 rfl (by decide) ?_
    refine aw_put (pc' := 55) nd_N_define_52 rfl nF_0_78 trivial (p_F_length h12) ?_
    refine aw_iload_n (pc' := 56) nd_N_define_55 rfl rfl ?_
    refine aw_ireturn nd_N_define_56 rfl rfl (Nat.le_of_ble_eq_true rfl) (Nat.le_of_ble_eq_true rfl) ?_
    first
      | exact hq0 (bi_f hb6)
      | (have e := hq1 k _ hk rfl hs1 hb; rw [hone] at e; exact e)
      | exact hA z1 z2 z3
      | exact hB z
  · skip
    obtain ⟨k, hk, rfl⟩ := ic_t (bi_t hb6)
    refine aw_aload_n (pc' := 10) nd_N_define_9 rfl rfl rfl ?_
    refine aw_get (pc' := 13) nd_N_define_10 rfl nF_0_48 g_N_parser ?_
    refine aw_callV (pc' := 16) (as := []) (st := []) nd_N_define_13 rfl nC_0_66 ⟨(Nat.le_of_ble_eq_true rfl), rfl, rfl⟩ ns_ioP (Nat.le_of_ble_eq_true rfl) (Nat.le_of_ble_eq_true rfl) (Nat.le_of_ble_eq_true rfl) ?_
    refine c_P_accepts hH ?_
    intro μ1 hs1
    rcases hb : ((pAcc (μ.1 (nT 12)) n).1 && decide ((pAcc (μ.1 (nT 12)) n).2.1 = n)) with _ | _
    · skip
      show nW _ _ _ _ _ 16 _ [_] _ _ _
      refine aw_if_eq (pc' := 19) (tg := 23) nd_N_define_16 (by decide) rfl (fun _ => ?_) (fun hx => absurd (by decide) hx)
      refine aw_iconst (pc' := 24) (x := 1) nd_N_define_23 rfl (by decide) ?_
      refine aw_aload_n (pc' := 25) nd_N_define_24 rfl rfl rfl ?_
      refine aw_get (pc' := 28) nd_N_define_25 rfl nF_0_48 g_N_parser ?_
      refine aw_callV (pc' := 31) (as := []) (st := [_]) nd_N_define_28 rfl nC_0_70 ⟨(Nat.le_of_ble_eq_true rfl), rfl, rfl⟩ ns_ioP (Nat.le_of_ble_eq_true rfl) (Nat.le_of_ble_eq_true rfl) (Nat.le_of_ble_eq_true rfl) ?_
      refine c_P_fault ?_
      show nW _ _ _ _ _ 31 _ [_, _] _ _ _
      rw [hs1.2.1]
      have hone : nI (1 + (pAcc (μ.1 (nT 12)) n).2.1) = 1 + nI (pAcc (μ.1 (nT 12)) n).2.1 := (nI_add 1 _).symm
      have hne : ¬ 1 + nI (pAcc (μ.1 (nT 12)) n).2.1 = 0 := by rw [← hone]; exact nI_ne0 (by omega) (by omega)
      refine aw_iadd (pc' := 32) nd_N_define_31 rfl ?_
      refine aw_istore_n (pc' := 33) (ls' := [_, _, _]) nd_N_define_32 rfl (Nat.le_of_ble_eq_true rfl) rfl ?_
      refine aw_iload_n (pc' := 34) nd_N_define_33 rfl rfl ?_
      refine aw_if_ne (pc' := 37) (tg := 47) nd_N_define_34 (by decide) rfl (fun _ => ?_) (fun hx => absurd hx hne)
      refine aw_aload_n (pc' := 48) nd_N_define_47 rfl rfl rfl ?_
      refine aw_get (pc' := 51) nd_N_define_48 rfl nF_0_39 g_N_pad ?_
      refine aw_iconst (pc' := 52) (x := 0) nd_N_define_51 rfl (by decide) ?_
      refine aw_put (pc' := 55) nd_N_define_52 rfl nF_0_78 trivial (p_F_length h12) ?_
      refine aw_iload_n (pc' := 56) nd_N_define_55 rfl rfl ?_
      refine aw_ireturn nd_N_define_56 rfl rfl (Nat.le_of_ble_eq_true rfl) (Nat.le_of_ble_eq_true rfl) ?_
      first
        | exact hq0 (bi_f hb6)
        | (have e := hq1 k _ hk rfl hs1 hb; rw [hone] at e; exact e)
        | exact hA z1 z2 z3
        | exact hB z
    · skip
      show nW _ _ _ _ _ 16 _ [_] _ _ _
      refine aw_if_eq (pc' := 19) (tg := 23) nd_N_define_16 (by decide) rfl (fun hx => absurd hx (by decide)) (fun _ => ?_)
      refine aw_iconst (pc' := 20) (x := 0) nd_N_define_19 rfl (by decide) ?_
      refine aw_goto (pc' := 32) nd_N_define_20 (by decide) ?_
      refine aw_istore_n (pc' := 33) (ls' := [_, _, _]) nd_N_define_32 rfl (Nat.le_of_ble_eq_true rfl) rfl ?_
      refine aw_iload_n (pc' := 34) nd_N_define_33 rfl rfl ?_
      refine aw_if_ne (pc' := 37) (tg := 47) nd_N_define_34 (by decide) rfl (fun hx => absurd rfl hx) (fun _ => ?_)
      obtain ⟨a, o, ha, ha30, hoo, ho3, hfit, hA, hB⟩ := hq2 k _ hk rfl hs1 hb
      refine aw_aload_n (pc' := 38) nd_N_define_37 rfl rfl rfl ?_
      refine aw_aload_n (pc' := 39) nd_N_define_38 rfl rfl rfl ?_
      refine aw_get (pc' := 42) nd_N_define_39 rfl nF_0_24 g_N_cells ?_
      refine aw_iload_n (pc' := 43) nd_N_define_42 rfl rfl ?_
      refine aw_cells (pc' := 44) nd_N_define_43 rfl k rfl hk ?_
      refine aw_callV (pc' := 47) (as := [_]) (st := []) nd_N_define_44 rfl nC_0_74 ⟨(Nat.le_of_ble_eq_true rfl), rfl, rfl⟩ ns_ioN (Nat.le_of_ble_eq_true rfl) (Nat.le_of_ble_eq_true rfl) (Nat.le_of_ble_eq_true rfl) ?_
      refine c_N_makeFormula hk ha ha30 (hs1.len.trans hH.1) hn30 hoo ho3 hfit (fun z1 z2 z3 => ?_) (fun z => ?_)
      · skip
        show nW _ _ _ _ _ 47 _ [] _ _ _
        refine aw_aload_n (pc' := 48) nd_N_define_47 rfl rfl rfl ?_
        refine aw_get (pc' := 51) nd_N_define_48 rfl nF_0_39 g_N_pad ?_
        refine aw_iconst (pc' := 52) (x := 0) nd_N_define_51 rfl (by decide) ?_
        refine aw_put (pc' := 55) nd_N_define_52 rfl nF_0_78 trivial (p_F_length h12) ?_
        refine aw_iload_n (pc' := 56) nd_N_define_55 rfl rfl ?_
        refine aw_ireturn nd_N_define_56 rfl rfl (Nat.le_of_ble_eq_true rfl) (Nat.le_of_ble_eq_true rfl) ?_
        first
          | exact hq0 (bi_f hb6)
          | (have e := hq1 k _ hk rfl hs1 hb; rw [hone] at e; exact e)
          | exact hA z1 z2 z3
          | exact hB z
      · skip
        show nW _ _ _ _ _ 47 _ [] _ _ _
        refine aw_aload_n (pc' := 48) nd_N_define_47 rfl rfl rfl ?_
        refine aw_get (pc' := 51) nd_N_define_48 rfl nF_0_39 g_N_pad ?_
        refine aw_iconst (pc' := 52) (x := 0) nd_N_define_51 rfl (by decide) ?_
        refine aw_put (pc' := 55) nd_N_define_52 rfl nF_0_78 trivial (p_F_length h12) ?_
        refine aw_iload_n (pc' := 56) nd_N_define_55 rfl rfl ?_
        refine aw_ireturn nd_N_define_56 rfl rfl (Nat.le_of_ble_eq_true rfl) (Nat.le_of_ble_eq_true rfl) ?_
        first
          | exact hq0 (bi_f hb6)
          | (have e := hq1 k _ hk rfl hs1 hb; rw [hone] at e; exact e)
          | exact hA z1 z2 z3
          | exact hB z
end
section
/-! asking: what the class does to its memory, by depth -/
def BADv : Int64 := 1099511627776
def fmI (x : Int32) : Int32 := if 0 ≤ x ^^^ 12 then x - x / 12 * 12 else if x - x / 12 * 12 = 0 then x - x / 12 * 12 else x - x / 12 * 12 + 12
def fm (x : Int32) : Nat := (fmI x).toNatClampNeg
def cmb (a : Nat) (x y : Int32) : Int32 := if a = 6 then x + y else if a = 7 then x - y else if a = 8 then x * y else if a = 9 then bi (decide (x < y)) else bi (decide (x = y))
/-- a read is written down -/
def adR (μ : nMem) (k s : Nat) : nMem := if (∃ i, i < (μ.1 (nN k) 1).toNatClampNeg ∧ μ.1 (nR k) i = nI s) ∨ (μ.1 (nN k) 1).toNatClampNeg = 12 then μ else ms (ms μ (nR k) (μ.1 (nN k) 1).toNatClampNeg (nI s)) (nN k) 1 (nI ((μ.1 (nN k) 1).toNatClampNeg + 1))
def mU (μ : nMem) (k : Nat) : nMem := ms (ms μ 0 7 (μ.1 0 7 + 1)) (nC k) 10 (μ.1 0 7 + 1)
def tly (μ : nMem) (k j : Nat) : nMem := ms (ms μ (nY k) j (μ.1 (nY k) j + 1)) 99 j (μ.1 99 j + 1)
def vfy (μ : nMem) (k j : Nat) : nMem := ms (ms (ms μ (nN k) 5 (μ.1 0 6)) (nY k) j (μ.1 (nY k) j + 1)) 99 j (μ.1 99 j + 1)
def lst (μ : nMem) (k : Nat) : Int32 := ldn μ k (μ.1 (nN k) 1).toNatClampNeg
section AK
variable (cd : Nat → pC)
def evl (G : nMem → Nat → Int64 × nMem) (cs : pC) (k : Nat) : Nat → nMem → Nat → Nat → Int64 × nMem
  | 0, μ, _, _ => ((μ.1 (nK k) 0).toInt64, μ)
  | g + 1, μ, tp, at_ => match cs[at_]? with
    | none => ((μ.1 (nK k) 0).toInt64, μ)
    | some q =>
      if q.1 = 0 then evl G cs k g (ms μ (nK k) tp (nI q.2)) (tp + 1) (at_ + 1)
      else if q.1 = 1 then (match G μ q.2 with
        | (v, μ1) => if v = BADv then (BADv, μ1) else evl G cs k g (ms μ1 (nK k) tp v.toInt32) (tp + 1) (at_ + 1))
      else if q.1 = 2 then (match G μ (fm (μ.1 (nK k) (tp - 1))) with
        | (v, μ1) => if v = BADv then (BADv, μ1) else evl G cs k g (ms μ1 (nK k) (tp - 1) v.toInt32) tp (at_ + 1))
      else if q.1 = 3 then evl G cs k g (ms μ (nK k) (tp - 1) (-(μ.1 (nK k) (tp - 1)))) tp (at_ + 1)
      else if q.1 = 4 then evl G cs k g μ (tp - 1) (if μ.1 (nK k) (tp - 1) = 0 then q.2 else at_ + 1)
      else if q.1 = 5 then evl G cs k g μ tp q.2
      else evl G cs k g (ms μ (nK k) (tp - 2) (cmb q.1 (μ.1 (nK k) (tp - 2)) (μ.1 (nK k) (tp - 1)))) (tp - 1) (at_ + 1)
variable (B W : nMem → Nat → nMem)
def uF (μ : nMem) (k : Nat) : Int64 × nMem := if μ.1 (nC k) 4 = 0 then ((μ.1 (nC k) 6).toInt64, μ)
  else (((mU (if (B μ k).1 (nN k) 3 = 0 then W (B μ k) k else B μ k) k).2 (nN k) 4), mU (if (B μ k).1 (nN k) 3 = 0 then W (B μ k) k else B μ k) k)
def gF (μ : nMem) (k s : Nat) : Int64 × nMem := if (adR μ k s).1 (nC s) 9 = 0 then uF B W (adR μ k s) s else (BADv, adR μ k s)
/-- behind the evaluation -/
def wEnd (μ : nMem) (k : Nat) (v : Int64) : nMem := ms (tly (mU (kv (ms μ (nN k) 7 (lst μ k)) k v (μ.1 0 6)) k) k 0) (nC k) 9 0
def wF (μ : nMem) (k : Nat) : nMem := match evl (fun m s => gF B W m k s) (cd k) k 30 (ms (ms μ (nC k) 9 1) (nN k) 1 0) 0 0 with
  | (v, μ1) => wEnd μ1 k v
def ruL (k : Nat) : Nat → nMem → Nat → Bool × nMem
  | 0, μ, _ => (true, μ)
  | g + 1, μ, i => if i < (μ.1 (nN k) 1).toNatClampNeg then
      (if (B μ (rN μ k i)).1 (nC (rN μ k i)) 9 = 0 then (if (if (B μ (rN μ k i)).1 (nC (rN μ k i)) 4 = 0 then (B μ (rN μ k i)).1 (nC (rN μ k i)) 8 else (B μ (rN μ k i)).1 (nN (rN μ k i)) 6) ≤ (B μ (rN μ k i)).1 (nN k) 5 then ruL k g (B μ (rN μ k i)) (i + 1) else (false, B μ (rN μ k i))) else (false, B μ (rN μ k i)))
    else (true, μ)
def ruF (μ : nMem) (k : Nat) : Bool × nMem := if μ.1 (nN k) 2 = 0 then (false, μ) else if μ.1 (nC k) 5 ≤ μ.1 (nN k) 5 then ruL B k 13 μ 0 else (false, μ)
def bIn (μ : nMem) (k : Nat) : nMem := if μ.1 (nN k) 2 = 0 ∨ ¬ μ.1 98 (μ.1 (nN k) 7).toNatClampNeg ≤ μ.1 (nN k) 5 then (match ruF B μ k with
    | (true, μ1) => vfy (ms μ1 (nN k) 7 (lst μ1 k)) k 1
    | (false, μ1) => wF cd B W μ1 k) else vfy μ k 2
def bF (μ : nMem) (k : Nat) : nMem := if μ.1 (nC k) 4 = 0 then μ else if ¬ μ.1 (nC k) 9 = 0 then μ else if ¬ μ.1 (nN k) 2 = 0 ∧ μ.1 (nN k) 5 = μ.1 0 6 then μ else ms (bIn cd B W (ms μ (nC k) 9 1) k) (nC k) 9 0
end AK
def bw (cd : Nat → pC) : Nat → (nMem → Nat → nMem) × (nMem → Nat → nMem)
  | 0 => (fun μ _ => μ, fun μ _ => μ)
  | d + 1 => (bF cd (bw cd d).1 (bw cd d).2, wF cd (bw cd d).1 (bw cd d).2)
/-! what holds of the memory at all times -/
def WN (μ : nMem) (k : Nat) : Prop := ∃ n, μ.1 (nN k) 1 = nI n ∧ n ≤ 12 ∧ ∀ i, i < n → ∃ s, s < 12 ∧ μ.1 (nR k) i = nI s
def WD (μ : nMem) (k : Nat) : Prop := (∃ j, μ.1 (nN k) 7 = nI j ∧ j < 3) ∧ ∃ j, μ.1 (nC k) 7 = nI j ∧ j < 3
/-- steps of a formula: heights of the stack before each, jumps forward -/
def WT (cs : pC) : Prop := ∃ ht : Nat → Nat, ht 0 = 0 ∧ ht cs.length = 1 ∧ (∀ i, i ≤ cs.length → ht i ≤ 15) ∧ ∀ i q, cs[i]? = some q →
  (q.1 = 0 ∧ ht (i + 1) = ht i + 1 ∧ q.2 < 10000) ∨ (q.1 = 1 ∧ ht (i + 1) = ht i + 1 ∧ q.2 < 12) ∨ ((q.1 = 2 ∨ q.1 = 3) ∧ 1 ≤ ht i ∧ ht (i + 1) = ht i ∧ q.2 < 10000) ∨ (q.1 = 4 ∧ 1 ≤ ht i ∧ ht (i + 1) + 1 = ht i ∧ ht q.2 + 1 = ht i ∧ i < q.2 ∧ q.2 ≤ cs.length) ∨ (q.1 = 5 ∧ ht q.2 = ht i ∧ i < q.2 ∧ q.2 ≤ cs.length) ∨ ((6 ≤ q.1 ∧ q.1 ≤ 10) ∧ 2 ≤ ht i ∧ ht (i + 1) + 1 = ht i ∧ q.2 < 10000)
def WK (cs : pC) (μ : nMem) (k : Nat) : Prop := ¬ μ.1 (nC k) 4 = 0 → WT cs ∧ cs.length ≤ 30 ∧ μ.1 (nF k) 3 = nI cs.length ∧ ∀ j q, cs[j]? = some q → μ.1 (nS k) j = en q
def WF (cd : Nat → pC) (μ : nMem) : Prop := ∀ k, k < 12 → WN μ k ∧ WD μ k ∧ WK (cd k) μ k
theorem WN.n {μ : nMem} {k : Nat} (h : WN μ k) : μ.1 (nN k) 1 = nI (μ.1 (nN k) 1).toNatClampNeg ∧ (μ.1 (nN k) 1).toNatClampNeg ≤ 12 ∧ ∀ i, i < (μ.1 (nN k) 1).toNatClampNeg → μ.1 (nR k) i = nI (rN μ k i) ∧ rN μ k i < 12 := by
  obtain ⟨n, h1, h2, h3⟩ := h
  have e : (μ.1 (nN k) 1).toNatClampNeg = n := by rw [h1, nI_clamp (by omega)]
  rw [e]
  refine ⟨h1, h2, fun i hi => ?_⟩
  obtain ⟨s, hs, e2⟩ := h3 i hi
  have e3 : rN μ k i = s := by unfold rN; rw [e2, nI_clamp (by omega)]
  rw [e3]
  exact ⟨e2, hs⟩
/-- two memories that agree where WF looks -/
def WE (μ μ' : nMem) : Prop := ∀ k, k < 12 → μ'.1 (nN k) 1 = μ.1 (nN k) 1 ∧ μ'.1 (nR k) = μ.1 (nR k) ∧ μ'.1 (nN k) 7 = μ.1 (nN k) 7 ∧ μ'.1 (nC k) 7 = μ.1 (nC k) 7 ∧ μ'.1 (nC k) 4 = μ.1 (nC k) 4 ∧ μ'.1 (nF k) = μ.1 (nF k) ∧ μ'.1 (nS k) = μ.1 (nS k)
theorem WF.cong {cd : Nat → pC} {μ μ' : nMem} (h : WF cd μ) (e : WE μ μ') : WF cd μ' := by
  intro k hk
  obtain ⟨h1, h2, h3⟩ := h k hk
  obtain ⟨e1, e2, e3, e4, e5, e6, e7⟩ := e k hk
  refine ⟨?_, ?_, ?_⟩
  · unfold WN; rw [e1, e2]; exact h1
  · unfold WD; rw [e3, e4]; exact h2
  · unfold WK; rw [e5, e6, e7]; exact h3
theorem WE.rfl {μ : nMem} : WE μ μ := fun _ _ => ⟨Eq.refl _, Eq.refl _, Eq.refl _, Eq.refl _, Eq.refl _, Eq.refl _, Eq.refl _⟩
theorem WE.trans {a b c : nMem} (h1 : WE a b) (h2 : WE b c) : WE a c := fun k hk => by
  obtain ⟨e1, e2, e3, e4, e5, e6, e7⟩ := h1 k hk
  obtain ⟨f1, f2, f3, f4, f5, f6, f7⟩ := h2 k hk
  exact ⟨f1.trans e1, f2.trans e2, f3.trans e3, f4.trans e4, f5.trans e5, f6.trans e6, f7.trans e7⟩
/-- a place where WF doesn't look -/
def free (a j : Nat) : Prop := ∀ k, k < 12 → (a = nN k → ¬ j = 1 ∧ ¬ j = 7) ∧ ¬ a = nR k ∧ (a = nC k → ¬ j = 4 ∧ ¬ j = 7) ∧ ¬ a = nF k ∧ ¬ a = nS k
theorem WE.ms {μ : nMem} {a j : Nat} {x : Int32} (h : free a j) : WE μ (ms μ a j x) := by
  intro k hk
  obtain ⟨h1, h2, h3, h4, h5⟩ := h k hk
  refine ⟨?_, ms_o (fun z => h2 z.symm), ?_, ?_, ?_, ms_o (fun z => h4 z.symm), ms_o (fun z => h5 z.symm)⟩
  · rw [ms_r, if_neg (fun z => (h1 z.1.symm).1 z.2.symm)]
  · rw [ms_r, if_neg (fun z => (h1 z.1.symm).2 z.2.symm)]
  · rw [ms_r, if_neg (fun z => (h3 z.1.symm).2 z.2.symm)]
  · rw [ms_r, if_neg (fun z => (h3 z.1.symm).1 z.2.symm)]
theorem WE.ml {μ : nMem} {a j : Nat} {x : Int64} : WE μ (ml μ a j x) := fun _ _ => ⟨Eq.refl _, Eq.refl _, Eq.refl _, Eq.refl _, Eq.refl _, Eq.refl _, Eq.refl _⟩
theorem free_C {k j : Nat} (hk : k < 12) (h : ¬ j = 4 ∧ ¬ j = 7) : free (nC k) j := by
  intro i hi
  refine ⟨fun z => ?_, ?_, fun _ => h, ?_, ?_⟩
  · exfalso; unfold nC nN at z; omega
  · unfold nC nR; omega
  · unfold nC nF; split <;> omega
  · unfold nC nS; split <;> omega
theorem free_N {k j : Nat} (hk : k < 12) (h : ¬ j = 1 ∧ ¬ j = 7) : free (nN k) j := by
  intro i hi
  refine ⟨fun _ => h, ?_, fun z => ?_, ?_, ?_⟩
  · unfold nN nR; omega
  · exfalso; unfold nC nN at z; omega
  · unfold nN nF; split <;> omega
  · unfold nN nS; split <;> omega
theorem free_Y {k j : Nat} (hk : k < 12) : free (nY k) j := by
  intro i hi
  refine ⟨fun z => ?_, ?_, fun z => ?_, ?_, ?_⟩
  · exfalso; unfold nY nN at z; omega
  · unfold nY nR; omega
  · exfalso; unfold nC nY at z; omega
  · unfold nY nF; split <;> omega
  · unfold nY nS; split <;> omega
theorem free_K {k j : Nat} (hk : k < 12) : free (nK k) j := by
  intro i hi
  refine ⟨fun z => ?_, ?_, fun z => ?_, ?_, ?_⟩
  · exfalso; unfold nK nN at z; omega
  · unfold nK nR; omega
  · exfalso; unfold nC nK at z; omega
  · unfold nK nF; split <;> omega
  · unfold nK nS; split <;> omega
theorem free_lo {j : Nat} : free 0 j := by
  intro i hi
  refine ⟨fun z => ?_, ?_, fun z => ?_, ?_, ?_⟩
  · exfalso; unfold nN at z; omega
  · unfold nR; omega
  · exfalso; unfold nC at z; omega
  · unfold nF; split <;> omega
  · unfold nS; split <;> omega
theorem free_99 {j : Nat} : free 99 j := by
  intro i hi
  refine ⟨fun z => ?_, ?_, fun z => ?_, ?_, ?_⟩
  · exfalso; unfold nN at z; omega
  · unfold nR; omega
  · exfalso; unfold nC at z; omega
  · unfold nF; split <;> omega
  · unfold nS; split <;> omega
/-! flags: which cells have formulas, which are at work -/
def FL (μ μ' : nMem) : Prop := ∀ j, j < 12 → μ'.1 (nC j) 4 = μ.1 (nC j) 4 ∧ μ'.1 (nC j) 9 = μ.1 (nC j) 9
theorem FL.trans {a b c : nMem} (h1 : FL a b) (h2 : FL b c) : FL a c := fun j hj => ⟨(h2 j hj).1.trans (h1 j hj).1, (h2 j hj).2.trans (h1 j hj).2⟩
/-- cells with a formula that aren't at work, among the first i -/
def fw (μ : nMem) : Nat → Nat
  | 0 => 0
  | i + 1 => fw μ i + if μ.1 (nC i) 4 = 0 then 0 else if μ.1 (nC i) 9 = 0 then 1 else 0
theorem fw_FL {μ μ' : nMem} (h : FL μ μ') : ∀ i, i ≤ 12 → fw μ' i = fw μ i := by
  intro i
  induction i with
  | zero => intro _; rfl
  | succ i ih =>
    intro hi
    unfold fw
    rw [ih (by omega), (h i (by omega)).1, (h i (by omega)).2]
theorem fw_set {μ : nMem} {k : Nat} {x : Int32} (hx : ¬ x = 0) (h4 : ¬ μ.1 (nC k) 4 = 0) (h9 : μ.1 (nC k) 9 = 0) : ∀ i, i ≤ 12 → fw (ms μ (nC k) 9 x) i + (if k < i then 1 else 0) = fw μ i := by
  intro i
  induction i with
  | zero => intro _; rfl
  | succ i ih =>
    intro hi
    have ih := ih (by omega)
    unfold fw
    by_cases hk : i = k
    · subst hk
      have e4 : (ms μ (nC i) 9 x).1 (nC i) 4 = μ.1 (nC i) 4 := by rw [ms_r, if_neg (fun z => by omega)]
      have e9 : (ms μ (nC i) 9 x).1 (nC i) 9 = x := by rw [ms_r, if_pos ⟨rfl, rfl⟩]
      rw [e4, e9, if_neg h4, if_neg h4, if_pos h9, if_neg hx, if_pos (Nat.lt_succ_self _)]
      rw [if_neg (by omega)] at ih
      omega
    · have hn : ¬ nC i = nC k := by unfold nC; omega
      rw [ms_o hn]
      by_cases hlt : k < i
      · rw [if_pos hlt] at ih
        rw [if_pos (show k < i + 1 by omega)]
        omega
      · rw [if_neg hlt] at ih
        rw [if_neg (show ¬ k < i + 1 by omega)]
        omega
theorem fw_pos {μ : nMem} {k : Nat} (h4 : ¬ μ.1 (nC k) 4 = 0) (h9 : μ.1 (nC k) 9 = 0) : ∀ i, k < i → 1 ≤ fw μ i := by
  intro i
  induction i with
  | zero => intro h; omega
  | succ i ih =>
    intro h
    unfold fw
    by_cases hk : k = i
    · subst hk
      rw [if_neg h4, if_pos h9]
      omega
    · have := ih (by omega)
      omega
end
section
/-! asking keeps the memory in order, and the flags -/
theorem FL.rfl {μ : nMem} : FL μ μ := fun _ _ => ⟨Eq.refl _, Eq.refl _⟩
theorem FL.ms {μ : nMem} {a j : Nat} {x : Int32} (h : ∀ i, i < 12 → a = nC i → ¬ j = 4 ∧ ¬ j = 9) : FL μ (ms μ a j x) := fun i hi => ⟨by rw [ms_r, if_neg (fun z => (h i hi z.1.symm).1 z.2.symm)], by rw [ms_r, if_neg (fun z => (h i hi z.1.symm).2 z.2.symm)]⟩
theorem FL.ml {μ : nMem} {a j : Nat} {x : Int64} : FL μ (ml μ a j x) := fun _ _ => ⟨Eq.refl _, Eq.refl _⟩
theorem FL.symm {a b : nMem} (h : FL a b) : FL b a := fun j hj => ⟨(h j hj).1.symm, (h j hj).2.symm⟩
theorem fl_N {k j : Nat} : ∀ i, i < 12 → nN k = nC i → ¬ j = 4 ∧ ¬ j = 9 := fun i _ z => by exfalso; unfold nN nC at z; omega
theorem fl_Y {k j : Nat} : ∀ i, i < 12 → nY k = nC i → ¬ j = 4 ∧ ¬ j = 9 := fun i _ z => by exfalso; unfold nY nC at z; omega
theorem fl_K {k j : Nat} : ∀ i, i < 12 → nK k = nC i → ¬ j = 4 ∧ ¬ j = 9 := fun i _ z => by exfalso; unfold nK nC at z; omega
theorem fl_R {k j : Nat} : ∀ i, i < 12 → nR k = nC i → ¬ j = 4 ∧ ¬ j = 9 := fun i _ z => by exfalso; unfold nR nC at z; omega
theorem fl_0 {j : Nat} : ∀ i, i < 12 → 0 = nC i → ¬ j = 4 ∧ ¬ j = 9 := fun i _ z => by exfalso; unfold nC at z; omega
theorem fl_99 {j : Nat} : ∀ i, i < 12 → 99 = nC i → ¬ j = 4 ∧ ¬ j = 9 := fun i _ z => by exfalso; unfold nC at z; omega
theorem fl_C {k j : Nat} (h : ¬ j = 4 ∧ ¬ j = 9) : ∀ i, i < 12 → nC k = nC i → ¬ j = 4 ∧ ¬ j = 9 := fun _ _ _ => h
theorem mU_E {μ : nMem} {k : Nat} (hk : k < 12) : WE μ (mU μ k) := (WE.ms free_lo).trans (WE.ms (free_C hk (by decide)))
theorem mU_L {μ : nMem} {k : Nat} : FL μ (mU μ k) := (FL.ms fl_0).trans (FL.ms (fl_C (by decide)))
theorem tly_E {μ : nMem} {k j : Nat} (hk : k < 12) : WE μ (tly μ k j) := (WE.ms (free_Y hk)).trans (WE.ms free_99)
theorem tly_L {μ : nMem} {k j : Nat} : FL μ (tly μ k j) := (FL.ms fl_Y).trans (FL.ms fl_99)
theorem vfy_E {μ : nMem} {k j : Nat} (hk : k < 12) : WE μ (vfy μ k j) := ((WE.ms (free_N hk (by decide))).trans (WE.ms (free_Y hk))).trans (WE.ms free_99)
theorem vfy_L {μ : nMem} {k j : Nat} : FL μ (vfy μ k j) := ((FL.ms fl_N).trans (FL.ms fl_Y)).trans (FL.ms fl_99)
theorem kvs_E {μ : nMem} {k : Nat} {v : Int64} {r : Int32} (hk : k < 12) : WE μ (kvs μ k v r) := by
  unfold kvs
  split
  · split
    · exact WE.ms (free_N hk (by decide))
    · exact WE.rfl
  · exact WE.rfl
theorem kvs_L {μ : nMem} {k : Nat} {v : Int64} {r : Int32} : FL μ (kvs μ k v r) := by
  unfold kvs
  split
  · split
    · exact FL.ms fl_N
    · exact FL.rfl
  · exact FL.rfl
theorem kv_E {μ : nMem} {k : Nat} {v : Int64} {r : Int32} (hk : k < 12) : WE μ (kv μ k v r) := (((kvs_E hk).trans (WE.ms (free_N hk (by decide)))).trans (WE.ms (free_N hk (by decide)))).trans (WE.ml.trans (WE.ms (free_N hk (by decide))))
theorem kv_L {μ : nMem} {k : Nat} {v : Int64} {r : Int32} : FL μ (kv μ k v r) := ((kvs_L.trans (FL.ms fl_N)).trans (FL.ms fl_N)).trans (FL.ml.trans (FL.ms fl_N))
theorem WF.d7 {cd : Nat → pC} {μ : nMem} {k : Nat} {x : Int32} (h : WF cd μ) (hk : k < 12) (hx : ∃ j, x = nI j ∧ j < 3) : WF cd (ms μ (nN k) 7 x) := by
  intro i hi
  obtain ⟨h1, h2, h3⟩ := h i hi
  have eR : (ms μ (nN k) 7 x).1 (nR i) = μ.1 (nR i) := ms_o (ne_RN hi)
  have eC : (ms μ (nN k) 7 x).1 (nC i) = μ.1 (nC i) := ms_o ne_CN
  have eF : (ms μ (nN k) 7 x).1 (nF i) = μ.1 (nF i) := ms_o (by unfold nF nN; split <;> omega)
  have eS : (ms μ (nN k) 7 x).1 (nS i) = μ.1 (nS i) := ms_o (by unfold nS nN; split <;> omega)
  have e1 : (ms μ (nN k) 7 x).1 (nN i) 1 = μ.1 (nN i) 1 := by rw [ms_r, if_neg (fun z => by omega)]
  refine ⟨?_, ⟨?_, ?_⟩, ?_⟩
  · unfold WN; rw [e1, eR]; exact h1
  · rw [ms_r]
    split
    · exact hx
    · exact h2.1
  · rw [eC]; exact h2.2
  · unfold WK; rw [eC, eF, eS]; exact h3
theorem WF.n0 {cd : Nat → pC} {μ : nMem} {k : Nat} (h : WF cd μ) (hk : k < 12) : WF cd (ms μ (nN k) 1 0) := by
  intro i hi
  obtain ⟨h1, h2, h3⟩ := h i hi
  have eR : (ms μ (nN k) 1 0).1 (nR i) = μ.1 (nR i) := ms_o (ne_RN hi)
  have eC : (ms μ (nN k) 1 0).1 (nC i) = μ.1 (nC i) := ms_o ne_CN
  have eF : (ms μ (nN k) 1 0).1 (nF i) = μ.1 (nF i) := ms_o (by unfold nF nN; split <;> omega)
  have eS : (ms μ (nN k) 1 0).1 (nS i) = μ.1 (nS i) := ms_o (by unfold nS nN; split <;> omega)
  have e7 : (ms μ (nN k) 1 0).1 (nN i) 7 = μ.1 (nN i) 7 := by rw [ms_r, if_neg (fun z => by omega)]
  refine ⟨?_, ⟨by rw [e7]; exact h2.1, by rw [eC]; exact h2.2⟩, by unfold WK; rw [eC, eF, eS]; exact h3⟩
  by_cases hik : i = k
  · subst hik
    exact ⟨0, by rw [ms_s, pk_us]; rfl, by omega, fun j hj => by omega⟩
  · have e1 : (ms μ (nN k) 1 0).1 (nN i) = μ.1 (nN i) := ms_o (by unfold nN; omega)
    unfold WN; rw [e1, eR]; exact h1
theorem adR_W {cd : Nat → pC} {μ : nMem} {k s : Nat} (h : WF cd μ) (hk : k < 12) (hs : s < 12) : WF cd (adR μ k s) := by
  obtain ⟨n1, n2, n3⟩ := (h k hk).1.n
  unfold adR
  split
  · exact h
  · rename_i hno
    have hn : (μ.1 (nN k) 1).toNatClampNeg < 12 := by
      have : ¬ (μ.1 (nN k) 1).toNatClampNeg = 12 := fun z => hno (Or.inr z)
      omega
    generalize hm : (μ.1 (nN k) 1).toNatClampNeg = m at *
    intro i hi
    obtain ⟨h1, h2, h3⟩ := h i hi
    have eC : (ms (ms μ (nR k) m (nI s)) (nN k) 1 (nI (m + 1))).1 (nC i) = μ.1 (nC i) := by rw [ms_o ne_CN, ms_o (by unfold nC nR; omega)]
    have eF : (ms (ms μ (nR k) m (nI s)) (nN k) 1 (nI (m + 1))).1 (nF i) = μ.1 (nF i) := by rw [ms_o (by unfold nF nN; split <;> omega), ms_o (by unfold nF nR; split <;> omega)]
    have eS : (ms (ms μ (nR k) m (nI s)) (nN k) 1 (nI (m + 1))).1 (nS i) = μ.1 (nS i) := by rw [ms_o (by unfold nS nN; split <;> omega), ms_o (by unfold nS nR; split <;> omega)]
    have e7 : (ms (ms μ (nR k) m (nI s)) (nN k) 1 (nI (m + 1))).1 (nN i) 7 = μ.1 (nN i) 7 := by rw [ms_r, if_neg (fun z => by omega), ms_o (ne_NR hi)]
    refine ⟨?_, ⟨by rw [e7]; exact h2.1, by rw [eC]; exact h2.2⟩, by unfold WK; rw [eC, eF, eS]; exact h3⟩
    by_cases hik : i = k
    · subst hik
      refine ⟨m + 1, by rw [ms_s, pk_us], by omega, fun j hj => ?_⟩
      rw [ms_o (ne_RN hi), ms_s]
      by_cases hjm : j = m
      · subst hjm
        exact ⟨s, hs, by rw [pk_us]⟩
      · rw [pk_un hjm]
        obtain ⟨a, b⟩ := n3 j (by omega)
        exact ⟨_, b, a⟩
    · have e1 : (ms (ms μ (nR k) m (nI s)) (nN k) 1 (nI (m + 1))).1 (nN i) = μ.1 (nN i) := by rw [ms_o (by unfold nN; omega), ms_o (ne_NR hi)]
      have eR : (ms (ms μ (nR k) m (nI s)) (nN k) 1 (nI (m + 1))).1 (nR i) = μ.1 (nR i) := by rw [ms_o (ne_RN hi), ms_o (by unfold nR; omega)]
      unfold WN; rw [e1, eR]; exact h1
theorem adR_L {μ : nMem} {k s : Nat} : FL μ (adR μ k s) := by
  unfold adR
  split
  · exact FL.rfl
  · exact (FL.ms fl_R).trans (FL.ms fl_N)
theorem gd_3 {cd : Nat → pC} {μ : nMem} (h : WF cd μ) {s : Nat} (hs : s < 12) : ∃ j, gd μ s = nI j ∧ j < 3 := by
  obtain ⟨-, h2, -⟩ := h s hs
  unfold gd
  split
  · split
    · exact h2.2
    · exact h2.1
  · exact ⟨0, by decide, by decide⟩
theorem ldn_3 {cd : Nat → pC} {μ : nMem} (h : WF cd μ) {k : Nat} (hk : k < 12) : ∀ i, i ≤ (μ.1 (nN k) 1).toNatClampNeg → ∃ j, ldn μ k i = nI j ∧ j < 3 := by
  obtain ⟨n1, n2, n3⟩ := (h k hk).1.n
  intro i
  induction i with
  | zero => intro _; exact ⟨2, (show (2 : Int32) = nI 2 by decide), by decide⟩
  | succ i ih =>
    intro hi
    unfold ldn
    split
    · exact gd_3 h (n3 i (by omega)).2
    · exact ih (by omega)
theorem lst_3 {cd : Nat → pC} {μ : nMem} (h : WF cd μ) {k : Nat} (hk : k < 12) : ∃ j, lst μ k = nI j ∧ j < 3 := ldn_3 h hk _ (Nat.le_refl _)
theorem i32_msb (y : Int32) : 0 ≤ y ↔ y.toBitVec.msb = false := by
  rw [Int32.le_iff_toInt_le, Int32.toInt_zero, BitVec.msb_eq_toInt, decide_eq_false_iff_not]
  show 0 ≤ y.toBitVec.toInt ↔ _
  omega
theorem fmI_b (x : Int32) : 0 ≤ (fmI x).toInt ∧ (fmI x).toInt < 12 := by
  have h12 : (12 : Int32).toInt = 12 := by decide
  have hr : (x - x / 12 * 12).toInt = x.toInt.tmod 12 := by rw [rem_toInt, h12]
  have b := tmod_bounds (a := x.toInt) (M := 12) (by decide)
  have hx : (0 ≤ x ^^^ 12) ↔ 0 ≤ x := by
    rw [i32_msb, i32_msb, Int32.toBitVec_xor, BitVec.msb_xor]
    have : (12 : Int32).toBitVec.msb = false := by decide
    rw [this, Bool.xor_false]
  have h0 : (0 ≤ x) ↔ 0 ≤ x.toInt := by rw [Int32.le_iff_toInt_le, Int32.toInt_zero]
  unfold fmI
  split
  · rename_i h
    have h2 := h0.mp (hx.mp h)
    have h3 := Int.tmod_nonneg (a := x.toInt) 12 h2
    rw [hr]
    omega
  · rename_i h
    have h2 : ¬ 0 ≤ x.toInt := fun z => h (hx.mpr (h0.mpr z))
    have h3 := Int.tmod_nonneg (a := -x.toInt) 12 (by omega)
    rw [Int.neg_tmod] at h3
    split
    · rename_i hz
      rw [hz]
      decide
    · rename_i hz
      have hne : ¬ x.toInt.tmod 12 = 0 := fun z => hz (Int32.toInt_inj.mp (by rw [hr, z]; rfl))
      rw [Jvm.Kit.i32_add (by rw [hr, h12]; omega) (by rw [hr, h12]; omega), hr, h12]
      omega
theorem fmI_of (x : Int32) : fmI x = nI (fm x) ∧ fm x < 12 := by
  have hb := fmI_b x
  have h0 : ¬ fmI x < 0 := by rw [Int32.lt_iff_toInt_lt, Int32.toInt_zero]; omega
  obtain ⟨j, hj, e⟩ := nI_of h0
  have hj2 : j < 12 := by
    have := hb.2
    rw [e, nI_toInt hj] at this
    omega
  unfold fm
  rw [e, nI_clamp hj]
  exact ⟨rfl, hj2⟩
section AP
variable {cd : Nat → pC} {d : Nat}
/-- what is asked of 'bring' and 'workOut' at a level -/
def PB (cd : Nat → pC) (d : Nat) (B : nMem → Nat → nMem) : Prop := ∀ μ k, WF cd μ → k < 12 → fw μ 12 ≤ d → WF cd (B μ k) ∧ FL μ (B μ k)
def FW (k : Nat) (μ μ' : nMem) : Prop := ∀ j, j < 12 → μ'.1 (nC j) 4 = μ.1 (nC j) 4 ∧ (¬ j = k → μ'.1 (nC j) 9 = μ.1 (nC j) 9) ∧ (j = k → μ'.1 (nC j) 9 = 0)
def PW (cd : Nat → pC) (d : Nat) (W : nMem → Nat → nMem) : Prop := ∀ μ k, WF cd μ → k < 12 → ¬ μ.1 (nC k) 4 = 0 → fw (ms μ (nC k) 9 1) 12 < d → WF cd (W μ k) ∧ FW k μ (W μ k)
theorem FL.of_FW {k : Nat} {μ μ' : nMem} (h : FW k μ μ') (h9 : μ.1 (nC k) 9 = 0) : FL μ μ' := fun j hj => ⟨(h j hj).1, by
  by_cases e : j = k
  · rw [(h j hj).2.2 e, e, h9]
  · exact (h j hj).2.1 e⟩
theorem uF_P {B W : nMem → Nat → nMem} (hB : PB cd d B) (hW : PW cd d W) {μ : nMem} {k : Nat} (h : WF cd μ) (hk : k < 12) (h9 : μ.1 (nC k) 9 = 0) (hf : fw μ 12 ≤ d) : WF cd (uF B W μ k).2 ∧ FL μ (uF B W μ k).2 := by
  unfold uF
  split
  · exact ⟨h, FL.rfl⟩
  · rename_i h4
    obtain ⟨b1, b2⟩ := hB μ k h hk hf
    dsimp only
    split
    · have e4 := (b2 k hk).1
      have e9 := (b2 k hk).2
      have hfw := fw_set (μ := B μ k) (k := k) (x := 1) (by decide) (by rw [e4]; exact h4) (by rw [e9]; exact h9) 12 (by omega)
      rw [if_pos hk, fw_FL b2 12 (by omega)] at hfw
      obtain ⟨c1, c2⟩ := hW (B μ k) k b1 hk (by rw [e4]; exact h4) (by omega)
      have c3 := FL.of_FW c2 (by rw [e9]; exact h9)
      exact ⟨c1.cong (mU_E hk), (b2.trans c3).trans mU_L⟩
    · exact ⟨b1.cong (mU_E hk), b2.trans mU_L⟩
theorem gF_P {B W : nMem → Nat → nMem} (hB : PB cd d B) (hW : PW cd d W) {μ : nMem} {k s : Nat} (h : WF cd μ) (hk : k < 12) (hs : s < 12) (hf : fw μ 12 ≤ d) : WF cd (gF B W μ k s).2 ∧ FL μ (gF B W μ k s).2 := by
  have a1 := adR_W h hk hs
  have a2 : FL μ (adR μ k s) := adR_L
  unfold gF
  split
  · rename_i h9
    obtain ⟨u1, u2⟩ := uF_P hB hW a1 hs h9 (by rw [fw_FL a2 12 (by omega)]; exact hf)
    exact ⟨u1, a2.trans u2⟩
  · exact ⟨a1, a2⟩
theorem evl_P {G : nMem → Nat → Int64 × nMem} {cs : pC} {k : Nat} (hk : k < 12) (hG : ∀ μ s, WF cd μ → s < 12 → fw μ 12 ≤ d → WF cd (G μ s).2 ∧ FL μ (G μ s).2) (hT : ∀ (i : Nat) (q : Nat × Nat), cs[i]? = some q → q.1 = 1 → q.2 < 12) : ∀ g μ tp at_, WF cd μ → fw μ 12 ≤ d → WF cd (evl G cs k g μ tp at_).2 ∧ FL μ (evl G cs k g μ tp at_).2 := by
  intro g
  induction g with
  | zero => intro μ tp at_ h _; exact ⟨h, FL.rfl⟩
  | succ g ih =>
    intro μ tp at_ h hf
    have step : ∀ (j : Nat) (x : Int32) (μ1 : nMem), WF cd μ1 → FL μ μ1 → ∀ tp' at', WF cd (evl G cs k g (ms μ1 (nK k) j x) tp' at').2 ∧ FL μ (evl G cs k g (ms μ1 (nK k) j x) tp' at').2 := by
      intro j x μ1 w l tp' at'
      have l2 : FL μ (ms μ1 (nK k) j x) := l.trans (FL.ms fl_K)
      obtain ⟨r1, r2⟩ := ih (ms μ1 (nK k) j x) tp' at' (w.cong (WE.ms (free_K hk))) (by rw [fw_FL l2 12 (by omega)]; exact hf)
      exact ⟨r1, l2.trans r2⟩
    unfold evl
    split
    · exact ⟨h, FL.rfl⟩
    · rename_i q hq
      split
      · exact step _ _ μ h FL.rfl _ _
      split
      · rename_i h1
        obtain ⟨g1, g2⟩ := hG μ q.2 h (hT at_ q hq h1) hf
        split
        rename_i v μ1 he
        rw [he] at g1 g2
        split
        · exact ⟨g1, g2⟩
        · exact step _ _ μ1 g1 g2 _ _
      split
      · obtain ⟨g1, g2⟩ := hG μ (fm (μ.1 (nK k) (tp - 1))) h (fmI_of _).2 hf
        split
        rename_i v μ1 he
        rw [he] at g1 g2
        split
        · exact ⟨g1, g2⟩
        · exact step _ _ μ1 g1 g2 _ _
      split
      · exact step _ _ μ h FL.rfl _ _
      split
      · exact ih μ _ _ h hf
      split
      · exact ih μ _ _ h hf
      · exact step _ _ μ h FL.rfl _ _
theorem wEnd_P {μ : nMem} {k : Nat} {v : Int64} (h : WF cd μ) (hk : k < 12) : WF cd (wEnd μ k v) ∧ FW k μ (wEnd μ k v) := by
  have w1 : WF cd (ms μ (nN k) 7 (lst μ k)) := h.d7 hk (lst_3 h hk)
  have l1 : FL μ (ms μ (nN k) 7 (lst μ k)) := FL.ms fl_N
  have w2 := ((w1.cong (kv_E (v := v) (r := μ.1 0 6) hk)).cong (mU_E hk)).cong (tly_E (j := 0) hk)
  have l2 := ((l1.trans (kv_L (k := k) (v := v) (r := μ.1 0 6))).trans (mU_L (k := k))).trans (tly_L (k := k) (j := 0))
  refine ⟨w2.cong (WE.ms (free_C hk (by decide))), fun j hj => ⟨?_, fun e => ?_, fun e => ?_⟩⟩
  · unfold wEnd
    rw [ms_r, if_neg (fun z => by omega)]
    exact (l2 j hj).1
  · unfold wEnd
    rw [ms_o (by unfold nC; omega)]
    exact (l2 j hj).2
  · subst e
    unfold wEnd
    rw [ms_s, pk_us]
theorem WT.a1 {cs : pC} (h : WT cs) : ∀ (i : Nat) (q : Nat × Nat), cs[i]? = some q → q.1 = 1 → q.2 < 12 := by
  obtain ⟨ht, -, -, -, h4⟩ := h
  intro i q hq h1
  rcases h4 i q hq with z | z | z | z | z | z <;> omega
theorem wF_P {B W : nMem → Nat → nMem} (hB : PB cd d B) (hW : PW cd d W) : PW cd (d + 1) (wF cd B W) := by
  intro μ k h hk h4 hf
  have w1 : WF cd (ms μ (nC k) 9 1) := h.cong (WE.ms (free_C hk (by decide)))
  have w2 : WF cd (ms (ms μ (nC k) 9 1) (nN k) 1 0) := w1.n0 hk
  have l2 : FL (ms μ (nC k) 9 1) (ms (ms μ (nC k) 9 1) (nN k) 1 0) := FL.ms fl_N
  have hT := ((h k hk).2.2 h4).1.a1
  obtain ⟨e1, e2⟩ := evl_P (cd := cd) (d := d) (k := k) (G := fun m s => gF B W m k s) hk (fun m s wm hs hfm => gF_P hB hW wm hk hs hfm) hT 30 (ms (ms μ (nC k) 9 1) (nN k) 1 0) 0 0 w2 (by rw [fw_FL l2 12 (by omega)]; omega)
  unfold wF
  split
  rename_i v μ1 he
  rw [he] at e1 e2
  obtain ⟨r1, r2⟩ := wEnd_P (v := v) e1 hk
  refine ⟨r1, fun j hj => ?_⟩
  have q := (l2.trans e2) j hj
  dsimp only at q
  refine ⟨?_, fun e => ?_, (r2 j hj).2.2⟩
  · rw [(r2 j hj).1, q.1, ms_r, if_neg (fun z => by omega)]
  · rw [(r2 j hj).2.1 e, q.2, ms_o (by unfold nC; omega)]
theorem ruL_P {B : nMem → Nat → nMem} (hB : PB cd d B) {k : Nat} (hk : k < 12) : ∀ g μ i, WF cd μ → fw μ 12 ≤ d → WF cd (ruL B k g μ i).2 ∧ FL μ (ruL B k g μ i).2 := by
  intro g
  induction g with
  | zero => intro μ i h _; exact ⟨h, FL.rfl⟩
  | succ g ih =>
    intro μ i h hf
    unfold ruL
    split
    · rename_i hi
      obtain ⟨b1, b2⟩ := hB μ (rN μ k i) h ((h k hk).1.n.2.2 i hi).2 hf
      obtain ⟨r1, r2⟩ := ih (B μ (rN μ k i)) (i + 1) b1 (by rw [fw_FL b2 12 (by omega)]; exact hf)
      (repeat' split) <;> first
        | exact ⟨r1, b2.trans r2⟩
        | exact ⟨b1, b2⟩
    · exact ⟨h, FL.rfl⟩
theorem ruF_P {B : nMem → Nat → nMem} (hB : PB cd d B) {μ : nMem} {k : Nat} (h : WF cd μ) (hk : k < 12) (hf : fw μ 12 ≤ d) : WF cd (ruF B μ k).2 ∧ FL μ (ruF B μ k).2 := by
  unfold ruF
  split
  · exact ⟨h, FL.rfl⟩
  split
  · exact ruL_P hB hk 13 μ 0 h hf
  · exact ⟨h, FL.rfl⟩
theorem bIn_P {B W : nMem → Nat → nMem} (hB : PB cd d B) (hW : PW cd d W) {μ : nMem} {k : Nat} (h : WF cd μ) (hk : k < 12) (h4 : ¬ μ.1 (nC k) 4 = 0) (h9 : μ.1 (nC k) 9 = 1) (hf : fw μ 12 ≤ d) : WF cd (bIn cd B W μ k) ∧ ∀ j, j < 12 → (bIn cd B W μ k).1 (nC j) 4 = μ.1 (nC j) 4 ∧ (¬ j = k → (bIn cd B W μ k).1 (nC j) 9 = μ.1 (nC j) 9) := by
  unfold bIn
  split
  · obtain ⟨r1, r2⟩ := ruF_P hB h hk hf
    split
    · rename_i μ1 he
      rw [he] at r1 r2
      have l := (r2.trans (FL.ms (fl_N (k := k)) : FL μ1 (ms μ1 (nN k) 7 (lst μ1 k)))).trans (vfy_L (k := k) (j := 1))
      exact ⟨(r1.d7 hk (lst_3 r1 hk)).cong (vfy_E hk), fun j hj => ⟨(l j hj).1, fun _ => (l j hj).2⟩⟩
    · rename_i μ1 he
      rw [he] at r1 r2
      dsimp only at r1 r2
      have e4 := (r2 k hk).1
      have e9 := (r2 k hk).2
      have efw : fw (ms μ1 (nC k) 9 1) 12 = fw μ1 12 := fw_FL (fun j hj => by
        refine ⟨by rw [ms_r, if_neg (fun z => by omega)], ?_⟩
        rw [ms_r]
        split
        · rename_i z
          rw [z.1, e9, h9]
        · rfl) 12 (by omega)
      obtain ⟨w1, w2⟩ := wF_P hB hW μ1 k r1 hk (by rw [e4]; exact h4) (by rw [efw, fw_FL r2 12 (by omega)]; omega)
      exact ⟨w1, fun j hj => ⟨by rw [(w2 j hj).1]; exact (r2 j hj).1, fun e => by rw [(w2 j hj).2.1 e]; exact (r2 j hj).2⟩⟩
  · have l : FL μ (vfy μ k 2) := vfy_L
    exact ⟨h.cong (vfy_E hk), fun j hj => ⟨(l j hj).1, fun _ => (l j hj).2⟩⟩
theorem bF_P {B W : nMem → Nat → nMem} (hB : PB cd d B) (hW : PW cd d W) : PB cd (d + 1) (bF cd B W) := by
  intro μ k h hk hf
  unfold bF
  split
  · exact ⟨h, FL.rfl⟩
  rename_i h4
  split
  · exact ⟨h, FL.rfl⟩
  rename_i h9
  have h9 : μ.1 (nC k) 9 = 0 := Classical.not_not.mp h9
  split
  · exact ⟨h, FL.rfl⟩
  have hfw := fw_set (μ := μ) (k := k) (x := 1) (by decide) h4 h9 12 (by omega)
  rw [if_pos hk] at hfw
  have e4 : (ms μ (nC k) 9 1).1 (nC k) 4 = μ.1 (nC k) 4 := by rw [ms_r, if_neg (fun z => by omega)]
  obtain ⟨r1, r2⟩ := bIn_P hB hW (h.cong (WE.ms (μ := μ) (a := nC k) (j := 9) (x := 1) (free_C hk (by decide)))) hk (by rw [e4]; exact h4) (by rw [ms_s, pk_us]) (by omega)
  refine ⟨r1.cong (WE.ms (free_C hk (by decide))), fun j hj => ⟨?_, ?_⟩⟩
  · rw [ms_r, if_neg (fun z => by omega), (r2 j hj).1, ms_r, if_neg (fun z => by omega)]
  · by_cases e : j = k
    · subst e
      rw [ms_s, pk_us, h9]
    · have hn : ¬ nC j = nC k := by unfold nC; omega
      rw [ms_o hn, (r2 j hj).2 e, ms_o hn]
theorem bw_P (cd : Nat → pC) : ∀ d, PB cd d (bw cd d).1 ∧ PW cd d (bw cd d).2 := by
  intro d
  induction d with
  | zero => exact ⟨fun μ k h _ _ => ⟨h, FL.rfl⟩, fun μ k _ _ _ h => absurd h (by omega)⟩
  | succ d ih => exact ⟨bF_P ih.1 ih.2, wF_P ih.1 ih.2⟩
end AP
end
section
/-! asking: the contracts -/
def KB (L : Nat) (xs : Nat → Int32) (cd : Nat → pC) (d : Nat) (B : nMem → Nat → nMem) (dep : Nat) : Prop := ∀ (dd : Nat) (Q : ax_Q) (μ : nMem) (k : Nat), WF cd μ → k < 12 → fw μ 12 ≤ d → Q none (ns_rep (B μ k)) → nM L xs (dd + dep) 16 [.ref 0, .ref (nC k)] (ns_rep μ) Q
def KW (L : Nat) (xs : Nat → Int32) (cd : Nat → pC) (d : Nat) (W : nMem → Nat → nMem) (dep : Nat) : Prop := ∀ (dd : Nat) (Q : ax_Q) (μ : nMem) (k : Nat), WF cd μ → k < 12 → ¬ μ.1 (nC k) 4 = 0 → fw (ms μ (nC k) 9 1) 12 < d → Q none (ns_rep (W μ k)) → nM L xs (dd + dep) 20 [.ref 0, .ref (nC k)] (ns_rep μ) Q
def KU (L : Nat) (xs : Nat → Int32) (cd : Nat → pC) (d : Nat) (B W : nMem → Nat → nMem) (dep : Nat) : Prop := ∀ (dd : Nat) (Q : ax_Q) (μ : nMem) (k : Nat), WF cd μ → k < 12 → μ.1 (nC k) 9 = 0 → fw μ 12 ≤ d → Q (some (.long (uF B W μ k).1)) (ns_rep (uF B W μ k).2) → nM L xs (dd + dep) 15 [.ref 0, .ref (nC k)] (ns_rep μ) Q
def KG (L : Nat) (xs : Nat → Int32) (cd : Nat → pC) (d : Nat) (B W : nMem → Nat → nMem) (dep : Nat) : Prop := ∀ (dd : Nat) (Q : ax_Q) (μ : nMem) (k s : Nat), WF cd μ → k < 12 → s < 12 → fw μ 12 ≤ d → Q (some (.long (gF B W μ k s).1)) (ns_rep (gF B W μ k s).2) → nM L xs (dd + dep) 24 [.ref 0, .ref (nC k), .int (nI s)] (ns_rep μ) Q
theorem c_adR {L : Nat} {xs : Nat → Int32} {d : Nat} {Q : ax_Q} {cd : Nat → pC} {μ : nMem} {k s : Nat} (h : WF cd μ) (hk : k < 12) (hq : Q none (ns_rep (adR μ k s))) : nM L xs (d + 1) 92 [.ref (nN k), .int (nI s)] (ns_rep μ) Q := by
  obtain ⟨n1, n2, n3⟩ := (h k hk).1.n
  refine c_O_addRead hk n1 n2 (fun z => ?_) (fun z hn => ?_) (fun z hn => ?_)
  · unfold adR at hq; rw [if_pos (Or.inl z)] at hq; exact hq
  · unfold adR at hq
    rw [if_neg (fun y => y.elim (fun ⟨i, hi, e⟩ => z i hi e) (fun e => by omega))] at hq
    exact hq
  · unfold adR at hq; rw [if_pos (Or.inr hn)] at hq; exact hq

theorem k_up {L : Nat} {xs : Nat → Int32} {cd : Nat → pC} {d e : Nat} {B W : nMem → Nat → nMem} (hB : KB L xs cd d B (e + 2)) (hW : KW L xs cd d W (e + 2)) (pB : PB cd d B) : KU L xs cd d B W (e + 3) := by
  intro dd Q μ k h hk h9 hf hq
  show nM L xs ((dd + e + 2) + 1) _ _ _ _
  refine nM.of ns_I_N_upToDateValue rfl (ls := [_, _]) (Nat.le_of_ble_eq_true rfl) rfl ?_
  refine aw_aload_n (pc' := 1) nd_N_upToDateValue_0 rfl rfl rfl ?_
  refine aw_get (pc' := 4) nd_N_upToDateValue_1 rfl nF_0_84 (g_C_hasFormula (by assumption)) ?_
  refine aw_if_ne (pc' := 7) (tg := 13) nd_N_upToDateValue_4 (by decide) rfl (fun hb4 => ?_) (fun hb4 => ?_)
  · skip
    refine aw_aload_n (pc' := 14) nd_N_upToDateValue_13 rfl rfl rfl ?_
    refine aw_aload_n (pc' := 15) nd_N_upToDateValue_14 rfl rfl rfl ?_
    refine aw_callV (pc' := 18) (as := [_]) (st := []) nd_N_upToDateValue_15 rfl nC_0_163 ⟨(Nat.le_of_ble_eq_true rfl), rfl, rfl⟩ ns_ioN (Nat.le_of_ble_eq_true rfl) (Nat.le_of_ble_eq_true rfl) (Nat.le_of_ble_eq_true rfl) ?_
    refine hB dd _ μ k h hk hf ?_
    obtain ⟨b1, b2⟩ := pB μ k h hk hf
    show nW _ _ _ _ _ 18 _ [] _ _ _
    refine aw_aload_n (pc' := 19) nd_N_upToDateValue_18 rfl rfl rfl ?_
    refine aw_get (pc' := 22) nd_N_upToDateValue_19 rfl nF_0_113 (g_C_note (by assumption)) ?_
    refine aw_get (pc' := 25) nd_N_upToDateValue_22 rfl nF_0_128 (g_O_hasValue (by assumption)) ?_
    refine aw_if_ne (pc' := 28) (tg := 33) nd_N_upToDateValue_25 (by decide) rfl (fun hb25 => ?_) (fun hb25 => ?_)
    · skip
      refine aw_aload_n (pc' := 34) nd_N_upToDateValue_33 rfl rfl rfl ?_
      refine aw_aload_n (pc' := 35) nd_N_upToDateValue_34 rfl rfl rfl ?_
      refine aw_callV (pc' := 38) (as := [_]) (st := []) nd_N_upToDateValue_35 rfl nC_0_169 ⟨(Nat.le_of_ble_eq_true rfl), rfl, rfl⟩ ns_ioN (Nat.le_of_ble_eq_true rfl) (Nat.le_of_ble_eq_true rfl) (Nat.le_of_ble_eq_true rfl) ?_
      refine c_N_markUsed hk ?_
      show nW _ _ _ _ _ 38 _ [] _ _ _
      refine aw_aload_n (pc' := 39) nd_N_upToDateValue_38 rfl rfl rfl ?_
      refine aw_get (pc' := 42) nd_N_upToDateValue_39 rfl nF_0_113 (g_C_note (by assumption)) ?_
      refine aw_get (pc' := 45) nd_N_upToDateValue_42 rfl nF_0_172 (g_O_value (by assumption)) ?_
      refine aw_lreturn nd_N_upToDateValue_45 rfl (Nat.le_of_ble_eq_true rfl) (Nat.le_of_ble_eq_true rfl) ?_
      unfold uF at hq
      first
        | (rw [if_pos hb4] at hq; exact hq)
        | (rw [if_neg hb4, if_pos hb25] at hq; exact hq)
        | (rw [if_neg hb4, if_neg hb25] at hq; exact hq)
    · skip
      refine aw_aload_n (pc' := 29) nd_N_upToDateValue_28 rfl rfl rfl ?_
      refine aw_aload_n (pc' := 30) nd_N_upToDateValue_29 rfl rfl rfl ?_
      refine aw_callV (pc' := 33) (as := [_]) (st := []) nd_N_upToDateValue_30 rfl nC_0_166 ⟨(Nat.le_of_ble_eq_true rfl), rfl, rfl⟩ ns_ioN (Nat.le_of_ble_eq_true rfl) (Nat.le_of_ble_eq_true rfl) (Nat.le_of_ble_eq_true rfl) ?_
      refine hW dd _ (B μ k) k b1 hk (by rw [(b2 k hk).1]; exact hb4) (by
          have hfw := fw_set (μ := B μ k) (k := k) (x := 1) (by decide) (by rw [(b2 k hk).1]; exact hb4) (by rw [(b2 k hk).2]; exact h9) 12 (by omega)
          rw [if_pos hk, fw_FL b2 12 (by omega)] at hfw
          omega) ?_
      show nW _ _ _ _ _ 33 _ [] _ _ _
      refine aw_aload_n (pc' := 34) nd_N_upToDateValue_33 rfl rfl rfl ?_
      refine aw_aload_n (pc' := 35) nd_N_upToDateValue_34 rfl rfl rfl ?_
      refine aw_callV (pc' := 38) (as := [_]) (st := []) nd_N_upToDateValue_35 rfl nC_0_169 ⟨(Nat.le_of_ble_eq_true rfl), rfl, rfl⟩ ns_ioN (Nat.le_of_ble_eq_true rfl) (Nat.le_of_ble_eq_true rfl) (Nat.le_of_ble_eq_true rfl) ?_
      refine c_N_markUsed hk ?_
      show nW _ _ _ _ _ 38 _ [] _ _ _
      refine aw_aload_n (pc' := 39) nd_N_upToDateValue_38 rfl rfl rfl ?_
      refine aw_get (pc' := 42) nd_N_upToDateValue_39 rfl nF_0_113 (g_C_note (by assumption)) ?_
      refine aw_get (pc' := 45) nd_N_upToDateValue_42 rfl nF_0_172 (g_O_value (by assumption)) ?_
      refine aw_lreturn nd_N_upToDateValue_45 rfl (Nat.le_of_ble_eq_true rfl) (Nat.le_of_ble_eq_true rfl) ?_
      unfold uF at hq
      first
        | (rw [if_pos hb4] at hq; exact hq)
        | (rw [if_neg hb4, if_pos hb25] at hq; exact hq)
        | (rw [if_neg hb4, if_neg hb25] at hq; exact hq)
  · skip
    refine aw_aload_n (pc' := 8) nd_N_upToDateValue_7 rfl rfl rfl ?_
    refine aw_get (pc' := 11) nd_N_upToDateValue_8 rfl nF_0_88 (g_C_number (by assumption)) ?_
    refine aw_i2l (pc' := 12) nd_N_upToDateValue_11 rfl ?_
    refine aw_lreturn nd_N_upToDateValue_12 rfl (Nat.le_of_ble_eq_true rfl) (Nat.le_of_ble_eq_true rfl) ?_
    unfold uF at hq
    first
      | (rw [if_pos hb4] at hq; exact hq)
      | (rw [if_neg hb4, if_pos hb25] at hq; exact hq)
      | (rw [if_neg hb4, if_neg hb25] at hq; exact hq)

theorem k_give {L : Nat} {xs : Nat → Int32} {cd : Nat → pC} {d e : Nat} {B W : nMem → Nat → nMem} (hU : KU L xs cd d B W (e + 2)) : KG L xs cd d B W (e + 3) := by
  intro dd Q μ k s h hk hs hf hq
  show nM L xs ((dd + e + 2) + 1) _ _ _ _
  refine nM.of ns_I_N_giveTo rfl (ls := [_, _, _, _]) (Nat.le_of_ble_eq_true rfl) rfl ?_
  refine aw_aload_n (pc' := 1) nd_N_giveTo_0 rfl rfl rfl ?_
  refine aw_get (pc' := 4) nd_N_giveTo_1 rfl nF_0_113 (g_C_note (by assumption)) ?_
  refine aw_iload_n (pc' := 5) nd_N_giveTo_4 rfl rfl ?_
  refine aw_callV (pc' := 8) (as := [_]) (st := []) nd_N_giveTo_5 rfl nC_0_237 ⟨(Nat.le_of_ble_eq_true rfl), rfl, rfl⟩ (ns_ioO (by assumption)) (Nat.le_of_ble_eq_true rfl) (Nat.le_of_ble_eq_true rfl) (Nat.le_of_ble_eq_true rfl) ?_
  refine c_adR h hk ?_
  show nW _ _ _ _ _ 8 _ [] _ _ _
  refine aw_aload_n (pc' := 9) nd_N_giveTo_8 rfl rfl rfl ?_
  refine aw_get (pc' := 12) nd_N_giveTo_9 rfl nF_0_24 g_N_cells ?_
  refine aw_iload_n (pc' := 13) nd_N_giveTo_12 rfl rfl ?_
  refine aw_cells (pc' := 14) nd_N_giveTo_13 rfl s rfl hs ?_
  refine aw_astore_n (pc' := 15) (ls' := [_, _, _, _]) nd_N_giveTo_14 rfl rfl (Nat.le_of_ble_eq_true rfl) rfl ?_
  refine aw_aload_n (pc' := 16) nd_N_giveTo_15 rfl rfl rfl ?_
  refine aw_get (pc' := 19) nd_N_giveTo_16 rfl nF_0_176 (g_C_atWork (by assumption)) ?_
  refine aw_if_eq (pc' := 22) (tg := 28) nd_N_giveTo_19 (by decide) rfl (fun hb19 => ?_) (fun hb19 => ?_)
  · skip
    refine aw_aload_n (pc' := 29) nd_N_giveTo_28 rfl rfl rfl ?_
    refine aw_aload_n (pc' := 30) nd_N_giveTo_29 rfl rfl rfl ?_
    refine aw_callV (pc' := 33) (as := [_]) (st := []) nd_N_giveTo_30 rfl nC_0_100 ⟨(Nat.le_of_ble_eq_true rfl), rfl, rfl⟩ ns_ioN (Nat.le_of_ble_eq_true rfl) (Nat.le_of_ble_eq_true rfl) (Nat.le_of_ble_eq_true rfl) ?_
    refine hU dd _ (adR μ k s) s (adR_W h hk hs) hs hb19 (by rw [fw_FL adR_L 12 (by omega)]; exact hf) ?_
    show nW _ _ _ _ _ 33 _ [_] _ _ _
    refine aw_lreturn nd_N_giveTo_33 rfl (Nat.le_of_ble_eq_true rfl) (Nat.le_of_ble_eq_true rfl) ?_
    unfold gF at hq
    first
      | (rw [if_pos hb19] at hq; exact hq)
      | (rw [if_neg hb19] at hq; exact hq)
  · skip
    refine aw_ldc2 (pc' := 25) nd_N_giveTo_22 rfl nK_0_231 ?_
    refine aw_goto (pc' := 33) nd_N_giveTo_25 (by decide) ?_
    refine aw_lreturn nd_N_giveTo_33 rfl (Nat.le_of_ble_eq_true rfl) (Nat.le_of_ble_eq_true rfl) ?_
    unfold gF at hq
    first
      | (rw [if_pos hb19] at hq; exact hq)
      | (rw [if_neg hb19] at hq; exact hq)

theorem l_eval {L : Nat} {xs : Nat → Int32} {cd : Nat → pC} {d e : Nat} {B W : nMem → Nat → nMem} {k : Nat} (hk : k < 12) (hG : KG L xs cd d B W (e + 2)) (pG : ∀ μ s, WF cd μ → s < 12 → fw μ 12 ≤ d → WF cd (gF B W μ k s).2 ∧ FL μ (gF B W μ k s).2) {ht : Nat → Nat} (h15 : ∀ i, i ≤ (cd k).length → ht i ≤ 15)
    (hT : ∀ (i : Nat) (q : Nat × Nat), (cd k)[i]? = some q → (q.1 = 0 ∧ ht (i + 1) = ht i + 1 ∧ q.2 < 10000) ∨ (q.1 = 1 ∧ ht (i + 1) = ht i + 1 ∧ q.2 < 12) ∨ ((q.1 = 2 ∨ q.1 = 3) ∧ 1 ≤ ht i ∧ ht (i + 1) = ht i ∧ q.2 < 10000) ∨ (q.1 = 4 ∧ 1 ≤ ht i ∧ ht (i + 1) + 1 = ht i ∧ ht q.2 + 1 = ht i ∧ i < q.2 ∧ q.2 ≤ (cd k).length) ∨ (q.1 = 5 ∧ ht q.2 = ht i ∧ i < q.2 ∧ q.2 ≤ (cd k).length) ∨ ((6 ≤ q.1 ∧ q.1 ≤ 10) ∧ 2 ≤ ht i ∧ ht (i + 1) + 1 = ht i ∧ q.2 < 10000)) :
    ∀ (g j dd : Nat) (Q : ax_Q) (μ : nMem) (tp at_ : Nat) (o7 o8 o9 o10 o11 : Option Value), g + j = 30 → WF cd μ → ¬ μ.1 (nC k) 4 = 0 → fw μ 12 ≤ d → tp = ht at_ → at_ ≤ (cd k).length → Q (some (.long (evl (fun m s => gF B W m k s) (cd k) k g μ tp at_).1)) (ns_rep (evl (fun m s => gF B W m k s) (cd k) k g μ tp at_).2) → nW L xs (dd + e + 2) ns_I_N_evaluate Q 19 [some (.ref 0), some (.ref (nC k)), some (.ref (nF k)), some (.ref (nK k)), some (.int (nI tp)), some (.int (nI at_)), some (.int (nI j)), o7, o8, o9, o10, o11] [] 0 0 (ns_rep μ) := by
  have hk13 : k < 13 := by omega
  intro g
  induction g with
  | zero =>
    intro j dd Q μ tp at_ o7 o8 o9 o10 o11 hg h h4 hf htp hat hq
    obtain rfl : j = 30 := by omega
    refine aw_iload (pc' := 21) nd_N_evaluate_19 rfl rfl ?_
    refine aw_bipush (pc' := 23) (x := 30) nd_N_evaluate_21 rfl (by decide) ?_
    refine aw_icmp_ge (pc' := 26) (tg := 243) nd_N_evaluate_23 (by decide) rfl (fun _ => ?_) (fun hx => absurd (by decide) hx)
    refine aw_aload_n (pc' := 244) nd_N_evaluate_243 rfl rfl rfl ?_
    refine aw_iconst (pc' := 245) (x := 0) nd_N_evaluate_244 rfl (by decide) ?_
    refine aw_iald (pc' := 246) nd_N_evaluate_245 rfl (ga_K hk) 0 (by decide) (by decide) ?_
    refine aw_i2l (pc' := 247) nd_N_evaluate_246 rfl ?_
    refine aw_lreturn nd_N_evaluate_247 rfl (Nat.le_of_ble_eq_true rfl) (Nat.le_of_ble_eq_true rfl) ?_
    exact hq
  | succ g ih =>
    intro j dd Q μ tp at_ o7 o8 o9 o10 o11 hg h h4 hf htp hat hq
    obtain ⟨-, hlen, hcnt, hst⟩ := (h k hk).2.2 h4
    have hh := h15 at_ hat
    by_cases hal : at_ = (cd k).length
    · subst hal
      have hnone : (cd k)[(cd k).length]? = none := List.getElem?_eq_none (Nat.le_refl _)
      rw [evl, hnone] at hq
      refine aw_iload (pc' := 21) nd_N_evaluate_19 rfl rfl ?_
      refine aw_bipush (pc' := 23) (x := 30) nd_N_evaluate_21 rfl (by decide) ?_
      refine aw_icmp_ge (pc' := 26) (tg := 243) nd_N_evaluate_23 (by decide) rfl (fun hx => absurd hx (nI_ge (b := 30) (by omega) (by decide))) (fun _ => ?_)
      refine aw_iload (pc' := 28) nd_N_evaluate_26 rfl rfl ?_
      refine aw_aload_n (pc' := 29) nd_N_evaluate_28 rfl rfl rfl ?_
      refine aw_get (pc' := 32) nd_N_evaluate_29 rfl nF_0_214 (g_F_stepCount (by assumption)) ?_
      refine aw_icmp_ge (pc' := 35) (tg := 243) nd_N_evaluate_32 (by decide) rfl (fun _ => ?_) (fun hx => absurd (by rw [hcnt]; exact nI_le (Nat.le_refl _) (by omega)) hx)
      refine aw_aload_n (pc' := 244) nd_N_evaluate_243 rfl rfl rfl ?_
      refine aw_iconst (pc' := 245) (x := 0) nd_N_evaluate_244 rfl (by decide) ?_
      refine aw_iald (pc' := 246) nd_N_evaluate_245 rfl (ga_K hk) 0 (by decide) (by decide) ?_
      refine aw_i2l (pc' := 247) nd_N_evaluate_246 rfl ?_
      refine aw_lreturn nd_N_evaluate_247 rfl (Nat.le_of_ble_eq_true rfl) (Nat.le_of_ble_eq_true rfl) ?_
      exact hq
    have hlt : at_ < (cd k).length := by omega
    rcases hcs : (cd k)[at_]? with _ | ⟨op, ar⟩
    · exact absurd (List.getElem?_eq_none_iff.mp hcs) (by omega)
    have hen := hst at_ (op, ar) hcs
    have hty := hT at_ (op, ar) hcs
    dsimp only at hty
    have hbd : op ≤ 10 ∧ ar < 10000 := by omega
    have hdv : μ.1 (nS k) at_ / 10000 = nI op := by rw [hen]; exact en_div hbd.1 hbd.2
    have hrm : μ.1 (nS k) at_ - μ.1 (nS k) at_ / 10000 * 10000 = nI ar := by rw [hen]; exact en_rem hbd.1 hbd.2
    rw [evl, hcs] at hq
    dsimp only at hq
    have keep : ∀ (i : Nat) (x : Int32) (μ1 : nMem), WF cd μ1 → FL μ μ1 → WF cd (ms μ1 (nK k) i x) ∧ ¬ (ms μ1 (nK k) i x).1 (nC k) 4 = 0 ∧ fw (ms μ1 (nK k) i x) 12 ≤ d := by
      intro i x μ1 w l
      have l2 : FL μ (ms μ1 (nK k) i x) := l.trans (FL.ms fl_K)
      exact ⟨w.cong (WE.ms (free_K hk)), by rw [(l2 k hk).1]; exact h4, by rw [fw_FL l2 12 (by omega)]; exact hf⟩
    refine aw_iload (pc' := 21) nd_N_evaluate_19 rfl rfl ?_
    refine aw_bipush (pc' := 23) (x := 30) nd_N_evaluate_21 rfl (by decide) ?_
    refine aw_icmp_ge (pc' := 26) (tg := 243) nd_N_evaluate_23 (by decide) rfl (fun hx => absurd hx (nI_ge (b := 30) (by omega) (by decide))) (fun _ => ?_)
    refine aw_iload (pc' := 28) nd_N_evaluate_26 rfl rfl ?_
    refine aw_aload_n (pc' := 29) nd_N_evaluate_28 rfl rfl rfl ?_
    refine aw_get (pc' := 32) nd_N_evaluate_29 rfl nF_0_214 (g_F_stepCount (by assumption)) ?_
    refine aw_icmp_ge (pc' := 35) (tg := 243) nd_N_evaluate_32 (by decide) rfl (fun hx => absurd hx (by rw [hcnt]; exact nI_ge hlt (by omega))) (fun _ => ?_)
    refine aw_aload_n (pc' := 36) nd_N_evaluate_35 rfl rfl rfl ?_
    refine aw_iload (pc' := 38) nd_N_evaluate_36 rfl rfl ?_
    refine aw_callV (pc' := 41) (as := [_]) (st := []) nd_N_evaluate_38 rfl nC_0_217 ⟨(Nat.le_of_ble_eq_true rfl), rfl, rfl⟩ (ns_ioF hk13) (Nat.le_of_ble_eq_true rfl) (Nat.le_of_ble_eq_true rfl) (Nat.le_of_ble_eq_true rfl) ?_
    refine c_F_operandAt hk13 (by omega) ?_
    rw [hrm]
    show nW _ _ _ _ _ 41 _ [_] _ _ _
    refine aw_istore (pc' := 43) (ls' := [_, _, _, _, _, _, _, _, _, _, _, _]) nd_N_evaluate_41 rfl (Nat.le_of_ble_eq_true rfl) rfl ?_
    refine aw_aload_n (pc' := 44) nd_N_evaluate_43 rfl rfl rfl ?_
    refine aw_iload (pc' := 46) nd_N_evaluate_44 rfl rfl ?_
    refine aw_callV (pc' := 49) (as := [_]) (st := []) nd_N_evaluate_46 rfl nC_0_221 ⟨(Nat.le_of_ble_eq_true rfl), rfl, rfl⟩ (ns_ioF hk13) (Nat.le_of_ble_eq_true rfl) (Nat.le_of_ble_eq_true rfl) (Nat.le_of_ble_eq_true rfl) ?_
    refine c_F_stepAt hk13 (by omega) ?_
    rw [hdv]
    show nW _ _ _ _ _ 49 _ [_] _ _ _
    refine aw_istore (pc' := 51) (ls' := [_, _, _, _, _, _, _, _, _, _, _, _]) nd_N_evaluate_49 rfl (Nat.le_of_ble_eq_true rfl) rfl ?_
    refine aw_iinc (pc' := 54) (ls' := [_, _, _, _, _, _, _, _, _, _, _, _]) nd_N_evaluate_51 rfl rfl (nI_1 at_) rfl ?_
    refine aw_iload (pc' := 56) nd_N_evaluate_54 rfl rfl ?_
    rcases hty with ⟨rfl, z1, z2⟩ | ⟨rfl, z1, z2⟩ | ⟨z0, z1, z2, z3⟩ | ⟨rfl, z1, z2, z3, z4, z5⟩ | ⟨rfl, z1, z2, z3⟩ | ⟨z0, z1, z2, z3⟩
    · rw [if_pos rfl] at hq
      have kw := keep tp (nI ar) μ h FL.rfl
      refine aw_tabIn (tg := 96) (off := 40) nd_N_evaluate_56 (by decide) (by decide) (by decide) ?_
      refine aw_aload_n (pc' := 97) nd_N_evaluate_96 rfl rfl rfl ?_
      refine aw_iload (pc' := 99) nd_N_evaluate_97 rfl rfl ?_
      refine aw_iinc (pc' := 102) (ls' := [_, _, _, _, _, _, _, _, _, _, _, _]) nd_N_evaluate_99 rfl rfl (nI_1 tp) rfl ?_
      refine aw_iload (pc' := 104) nd_N_evaluate_102 rfl rfl ?_
      refine aw_iast (pc' := 105) nd_N_evaluate_104 rfl rfl tp rfl (by omega) (pa_K hk) ?_
      refine aw_goto (pc' := 237) nd_N_evaluate_105 (by decide) ?_
      refine aw_iinc (pc' := 240) (ls' := [_, _, _, _, _, _, _, _, _, _, _, _]) nd_N_evaluate_237 rfl rfl (nI_1 j) rfl ?_
      refine aw_goto (pc' := 19) nd_N_evaluate_240 (by decide) ?_
      exact ih (j + 1) dd Q _ (tp + 1) (at_ + 1) _ _ _ _ _ (by omega) kw.1 kw.2.1 kw.2.2 (by omega) (by omega) hq
    · rw [if_neg (by decide), if_pos rfl] at hq
      refine aw_tabIn (tg := 108) (off := 52) nd_N_evaluate_56 (by decide) (by decide) (by decide) ?_
      refine aw_iload (pc' := 110) nd_N_evaluate_108 rfl rfl ?_
      refine aw_iconst (pc' := 111) (x := 1) nd_N_evaluate_110 rfl (by decide) ?_
      refine aw_icmp_ne (pc' := 114) (tg := 119) nd_N_evaluate_111 (by decide) rfl (fun hx => absurd rfl hx) (fun _ => ?_)
      refine aw_iload (pc' := 116) nd_N_evaluate_114 rfl rfl ?_
      refine aw_goto (pc' := 131) nd_N_evaluate_116 (by decide) ?_
      refine aw_istore (pc' := 133) (ls' := [_, _, _, _, _, _, _, _, _, _, _, _]) nd_N_evaluate_131 rfl (Nat.le_of_ble_eq_true rfl) rfl ?_
      refine aw_aload_n (pc' := 134) nd_N_evaluate_133 rfl rfl rfl ?_
      refine aw_aload_n (pc' := 135) nd_N_evaluate_134 rfl rfl rfl ?_
      refine aw_iload (pc' := 137) nd_N_evaluate_135 rfl rfl ?_
      refine aw_callV (pc' := 140) (as := [_, _]) (st := []) nd_N_evaluate_137 rfl nC_0_227 ⟨(Nat.le_of_ble_eq_true rfl), rfl, rfl⟩ ns_ioN (Nat.le_of_ble_eq_true rfl) (Nat.le_of_ble_eq_true rfl) (Nat.le_of_ble_eq_true rfl) ?_
      obtain ⟨g1, g2⟩ := pG μ ar h z2 hf
      refine hG dd _ μ k ar h hk z2 hf ?_
      rcases hg2 : gF B W μ k ar with ⟨v, μ1⟩
      rw [hg2] at hq g1 g2
      dsimp only at hq g1 g2 ⊢
      show nW _ _ _ _ _ 140 _ [_] _ _ _
      refine aw_lstore (pc' := 142) (ls' := [_, _, _, _, _, _, _, _, _, _, _, _]) nd_N_evaluate_140 rfl (Nat.le_of_ble_eq_true rfl) rfl ?_
      refine aw_lload (pc' := 144) nd_N_evaluate_142 rfl rfl ?_
      refine aw_ldc2 (pc' := 147) nd_N_evaluate_144 rfl nK_0_231 ?_
      refine aw_lcmp (pc' := 148) nd_N_evaluate_147 rfl ?_
      have hcm : lg_cmp v 1099511627776 = 0 ↔ v = BADv := lg_cmp_eq _ _
      refine aw_if_ne (pc' := 151) (tg := 155) nd_N_evaluate_148 (by decide) rfl (fun hb148 => ?_) (fun hb148 => ?_)
      · skip
        rw [if_neg (fun z => hb148 (hcm.mpr z))] at hq
        have kw := keep (tp) v.toInt32 μ1 g1 g2
        refine aw_aload_n (pc' := 156) nd_N_evaluate_155 rfl rfl rfl ?_
        refine aw_iload (pc' := 158) nd_N_evaluate_156 rfl rfl ?_
        refine aw_iinc (pc' := 161) (ls' := [_, _, _, _, _, _, _, _, _, _, _, _]) nd_N_evaluate_158 rfl rfl (nI_1 tp) rfl ?_
        refine aw_lload (pc' := 163) nd_N_evaluate_161 rfl rfl ?_
        refine aw_l2i (pc' := 164) nd_N_evaluate_163 rfl ?_
        refine aw_iast (pc' := 165) nd_N_evaluate_164 rfl rfl tp rfl (by omega) (pa_K hk) ?_
        refine aw_goto (pc' := 237) nd_N_evaluate_165 (by decide) ?_
        refine aw_iinc (pc' := 240) (ls' := [_, _, _, _, _, _, _, _, _, _, _, _]) nd_N_evaluate_237 rfl rfl (nI_1 j) rfl ?_
        refine aw_goto (pc' := 19) nd_N_evaluate_240 (by decide) ?_
        exact ih (j + 1) dd Q _ (tp + 1) (at_ + 1) _ _ _ _ _ (by omega) kw.1 kw.2.1 kw.2.2 (by omega) (by omega) hq
      · skip
        refine aw_ldc2 (pc' := 154) nd_N_evaluate_151 rfl nK_0_231 ?_
        refine aw_lreturn nd_N_evaluate_154 rfl (Nat.le_of_ble_eq_true rfl) (Nat.le_of_ble_eq_true rfl) ?_
        rw [if_pos (hcm.mp hb148)] at hq
        exact hq
    · obtain ⟨t, rfl⟩ : ∃ t, tp = t + 1 := ⟨tp - 1, by omega⟩
      rw [Nat.add_sub_cancel] at hq
      rcases z0 with rfl | rfl
      · rw [if_neg (by decide), if_neg (by decide), if_pos rfl] at hq
        refine aw_tabIn (tg := 108) (off := 52) nd_N_evaluate_56 (by decide) (by decide) (by decide) ?_
        refine aw_iload (pc' := 110) nd_N_evaluate_108 rfl rfl ?_
        refine aw_iconst (pc' := 111) (x := 1) nd_N_evaluate_110 rfl (by decide) ?_
        refine aw_icmp_ne (pc' := 114) (tg := 119) nd_N_evaluate_111 (by decide) rfl (fun _ => ?_) (fun hx => absurd hx (by decide))
        refine aw_aload_n (pc' := 120) nd_N_evaluate_119 rfl rfl rfl ?_
        refine aw_iinc (pc' := 123) (ls' := [_, _, _, _, _, _, _, _, _, _, _, _]) nd_N_evaluate_120 rfl rfl (pk_m1 t) rfl ?_
        refine aw_iload (pc' := 125) nd_N_evaluate_123 rfl rfl ?_
        refine aw_iald (pc' := 126) nd_N_evaluate_125 rfl (ga_K hk) t rfl (by omega) ?_
        refine aw_bipush (pc' := 128) (x := 12) nd_N_evaluate_126 rfl (by decide) ?_
        refine aw_callS (a := 0) (pc' := 131) (as := [_, _]) (st := []) nd_N_evaluate_128 rfl nC_0_224 ⟨(Nat.le_of_ble_eq_true rfl), rfl, rfl⟩ (Nat.le_of_ble_eq_true rfl) (Nat.le_of_ble_eq_true rfl) (Nat.le_of_ble_eq_true rfl) ?_
        refine c_floorMod (by decide) ?_
        change nW _ _ _ _ _ _ _ ((some (Value.int (fmI (μ.1 (nK k) t)))).toList ++ _) _ _ _
        rw [(fmI_of (μ.1 (nK k) t)).1]
        show nW _ _ _ _ _ 131 _ [_] _ _ _
        refine aw_istore (pc' := 133) (ls' := [_, _, _, _, _, _, _, _, _, _, _, _]) nd_N_evaluate_131 rfl (Nat.le_of_ble_eq_true rfl) rfl ?_
        refine aw_aload_n (pc' := 134) nd_N_evaluate_133 rfl rfl rfl ?_
        refine aw_aload_n (pc' := 135) nd_N_evaluate_134 rfl rfl rfl ?_
        refine aw_iload (pc' := 137) nd_N_evaluate_135 rfl rfl ?_
        refine aw_callV (pc' := 140) (as := [_, _]) (st := []) nd_N_evaluate_137 rfl nC_0_227 ⟨(Nat.le_of_ble_eq_true rfl), rfl, rfl⟩ ns_ioN (Nat.le_of_ble_eq_true rfl) (Nat.le_of_ble_eq_true rfl) (Nat.le_of_ble_eq_true rfl) ?_
        obtain ⟨g1, g2⟩ := pG μ (fm (μ.1 (nK k) t)) h (fmI_of _).2 hf
        refine hG dd _ μ k (fm (μ.1 (nK k) t)) h hk (fmI_of _).2 hf ?_
        rcases hg2 : gF B W μ k (fm (μ.1 (nK k) t)) with ⟨v, μ1⟩
        rw [hg2] at hq g1 g2
        dsimp only at hq g1 g2 ⊢
        show nW _ _ _ _ _ 140 _ [_] _ _ _
        refine aw_lstore (pc' := 142) (ls' := [_, _, _, _, _, _, _, _, _, _, _, _]) nd_N_evaluate_140 rfl (Nat.le_of_ble_eq_true rfl) rfl ?_
        refine aw_lload (pc' := 144) nd_N_evaluate_142 rfl rfl ?_
        refine aw_ldc2 (pc' := 147) nd_N_evaluate_144 rfl nK_0_231 ?_
        refine aw_lcmp (pc' := 148) nd_N_evaluate_147 rfl ?_
        have hcm : lg_cmp v 1099511627776 = 0 ↔ v = BADv := lg_cmp_eq _ _
        refine aw_if_ne (pc' := 151) (tg := 155) nd_N_evaluate_148 (by decide) rfl (fun hb148 => ?_) (fun hb148 => ?_)
        · skip
          rw [if_neg (fun z => hb148 (hcm.mpr z))] at hq
          have kw := keep (t) v.toInt32 μ1 g1 g2
          refine aw_aload_n (pc' := 156) nd_N_evaluate_155 rfl rfl rfl ?_
          refine aw_iload (pc' := 158) nd_N_evaluate_156 rfl rfl ?_
          refine aw_iinc (pc' := 161) (ls' := [_, _, _, _, _, _, _, _, _, _, _, _]) nd_N_evaluate_158 rfl rfl (nI_1 t) rfl ?_
          refine aw_lload (pc' := 163) nd_N_evaluate_161 rfl rfl ?_
          refine aw_l2i (pc' := 164) nd_N_evaluate_163 rfl ?_
          refine aw_iast (pc' := 165) nd_N_evaluate_164 rfl rfl t rfl (by omega) (pa_K hk) ?_
          refine aw_goto (pc' := 237) nd_N_evaluate_165 (by decide) ?_
          refine aw_iinc (pc' := 240) (ls' := [_, _, _, _, _, _, _, _, _, _, _, _]) nd_N_evaluate_237 rfl rfl (nI_1 j) rfl ?_
          refine aw_goto (pc' := 19) nd_N_evaluate_240 (by decide) ?_
          exact ih (j + 1) dd Q _ (t + 1) (at_ + 1) _ _ _ _ _ (by omega) kw.1 kw.2.1 kw.2.2 (by omega) (by omega) hq
        · skip
          refine aw_ldc2 (pc' := 154) nd_N_evaluate_151 rfl nK_0_231 ?_
          refine aw_lreturn nd_N_evaluate_154 rfl (Nat.le_of_ble_eq_true rfl) (Nat.le_of_ble_eq_true rfl) ?_
          rw [if_pos (hcm.mp hb148)] at hq
          exact hq
      · rw [if_neg (by decide), if_neg (by decide), if_neg (by decide), if_pos rfl] at hq
        have kw := keep t (-(μ.1 (nK k) t)) μ h FL.rfl
        refine aw_tabIn (tg := 168) (off := 112) nd_N_evaluate_56 (by decide) (by decide) (by decide) ?_
        refine aw_aload_n (pc' := 169) nd_N_evaluate_168 rfl rfl rfl ?_
        refine aw_iload (pc' := 171) nd_N_evaluate_169 rfl rfl ?_
        refine aw_iconst (pc' := 172) (x := 1) nd_N_evaluate_171 rfl (by decide) ?_
        refine aw_isub (pc' := 173) nd_N_evaluate_172 rfl ?_
        
        refine aw_aload_n (pc' := 174) nd_N_evaluate_173 rfl rfl rfl ?_
        refine aw_iload (pc' := 176) nd_N_evaluate_174 rfl rfl ?_
        refine aw_iconst (pc' := 177) (x := 1) nd_N_evaluate_176 rfl (by decide) ?_
        refine aw_isub (pc' := 178) nd_N_evaluate_177 rfl ?_
        refine aw_iald (pc' := 179) nd_N_evaluate_178 rfl (ga_K hk) t (nI_pred t) (by omega) ?_
        refine aw_ineg (pc' := 180) nd_N_evaluate_179 rfl ?_
        
        refine aw_iast (pc' := 181) nd_N_evaluate_180 rfl rfl t (nI_pred t) (by omega) (pa_K hk) ?_
        refine aw_goto (pc' := 237) nd_N_evaluate_181 (by decide) ?_
        refine aw_iinc (pc' := 240) (ls' := [_, _, _, _, _, _, _, _, _, _, _, _]) nd_N_evaluate_237 rfl rfl (nI_1 j) rfl ?_
        refine aw_goto (pc' := 19) nd_N_evaluate_240 (by decide) ?_
        exact ih (j + 1) dd Q _ (t + 1) (at_ + 1) _ _ _ _ _ (by omega) kw.1 kw.2.1 kw.2.2 (by omega) (by omega) hq
    · obtain ⟨t, rfl⟩ : ∃ t, tp = t + 1 := ⟨tp - 1, by omega⟩
      rw [Nat.add_sub_cancel] at hq
      rw [if_neg (by decide), if_neg (by decide), if_neg (by decide), if_neg (by decide), if_pos rfl] at hq
      refine aw_tabIn (tg := 184) (off := 128) nd_N_evaluate_56 (by decide) (by decide) (by decide) ?_
      refine aw_aload_n (pc' := 185) nd_N_evaluate_184 rfl rfl rfl ?_
      refine aw_iinc (pc' := 188) (ls' := [_, _, _, _, _, _, _, _, _, _, _, _]) nd_N_evaluate_185 rfl rfl (pk_m1 t) rfl ?_
      refine aw_iload (pc' := 190) nd_N_evaluate_188 rfl rfl ?_
      refine aw_iald (pc' := 191) nd_N_evaluate_190 rfl (ga_K hk) t rfl (by omega) ?_
      refine aw_if_ne (pc' := 194) (tg := 199) nd_N_evaluate_191 (by decide) rfl (fun hb191 => ?_) (fun hb191 => ?_)
      · skip
        refine aw_iload (pc' := 201) nd_N_evaluate_199 rfl rfl ?_
        refine aw_istore (pc' := 203) (ls' := [_, _, _, _, _, _, _, _, _, _, _, _]) nd_N_evaluate_201 rfl (Nat.le_of_ble_eq_true rfl) rfl ?_
        refine aw_goto (pc' := 237) nd_N_evaluate_203 (by decide) ?_
        refine aw_iinc (pc' := 240) (ls' := [_, _, _, _, _, _, _, _, _, _, _, _]) nd_N_evaluate_237 rfl rfl (nI_1 j) rfl ?_
        refine aw_goto (pc' := 19) nd_N_evaluate_240 (by decide) ?_
        first
          | (rw [if_pos hb191] at hq; exact ih (j + 1) dd Q _ t ar _ _ _ _ _ (by omega) h h4 hf (by omega) (by omega) hq)
          | (rw [if_neg hb191] at hq; exact ih (j + 1) dd Q _ t (at_ + 1) _ _ _ _ _ (by omega) h h4 hf (by omega) (by omega) hq)
      · skip
        refine aw_iload (pc' := 196) nd_N_evaluate_194 rfl rfl ?_
        refine aw_goto (pc' := 201) nd_N_evaluate_196 (by decide) ?_
        refine aw_istore (pc' := 203) (ls' := [_, _, _, _, _, _, _, _, _, _, _, _]) nd_N_evaluate_201 rfl (Nat.le_of_ble_eq_true rfl) rfl ?_
        refine aw_goto (pc' := 237) nd_N_evaluate_203 (by decide) ?_
        refine aw_iinc (pc' := 240) (ls' := [_, _, _, _, _, _, _, _, _, _, _, _]) nd_N_evaluate_237 rfl rfl (nI_1 j) rfl ?_
        refine aw_goto (pc' := 19) nd_N_evaluate_240 (by decide) ?_
        first
          | (rw [if_pos hb191] at hq; exact ih (j + 1) dd Q _ t ar _ _ _ _ _ (by omega) h h4 hf (by omega) (by omega) hq)
          | (rw [if_neg hb191] at hq; exact ih (j + 1) dd Q _ t (at_ + 1) _ _ _ _ _ (by omega) h h4 hf (by omega) (by omega) hq)
    · rw [if_neg (by decide), if_neg (by decide), if_neg (by decide), if_neg (by decide), if_neg (by decide), if_pos rfl] at hq
      refine aw_tabIn (tg := 206) (off := 150) nd_N_evaluate_56 (by decide) (by decide) (by decide) ?_
      refine aw_iload (pc' := 208) nd_N_evaluate_206 rfl rfl ?_
      refine aw_istore (pc' := 210) (ls' := [_, _, _, _, _, _, _, _, _, _, _, _]) nd_N_evaluate_208 rfl (Nat.le_of_ble_eq_true rfl) rfl ?_
      refine aw_goto (pc' := 237) nd_N_evaluate_210 (by decide) ?_
      refine aw_iinc (pc' := 240) (ls' := [_, _, _, _, _, _, _, _, _, _, _, _]) nd_N_evaluate_237 rfl rfl (nI_1 j) rfl ?_
      refine aw_goto (pc' := 19) nd_N_evaluate_240 (by decide) ?_
      exact ih (j + 1) dd Q _ tp ar _ _ _ _ _ (by omega) h h4 hf (by omega) (by omega) hq
    · obtain ⟨t, rfl⟩ : ∃ t, tp = t + 2 := ⟨tp - 2, by omega⟩
      rw [if_neg (by omega), if_neg (by omega), if_neg (by omega), if_neg (by omega), if_neg (by omega), if_neg (by omega), show t + 2 - 2 = t by omega, show t + 2 - 1 = t + 1 by omega] at hq
      have kw := keep t (cmb op (μ.1 (nK k) t) (μ.1 (nK k) (t + 1))) μ h FL.rfl
      have hop : nI op = 6 ∧ op = 6 ∨ nI op = 7 ∧ op = 7 ∨ nI op = 8 ∧ op = 8 ∨ nI op = 9 ∧ op = 9 ∨ nI op = 10 ∧ op = 10 := by
        rcases (by omega : op = 6 ∨ op = 7 ∨ op = 8 ∨ op = 9 ∨ op = 10) with rfl | rfl | rfl | rfl | rfl <;> decide
      have hcb : (if nI op = 6 then μ.1 (nK k) t + μ.1 (nK k) (t + 1) else if nI op = 7 then μ.1 (nK k) t - μ.1 (nK k) (t + 1) else if nI op = 8 then μ.1 (nK k) t * μ.1 (nK k) (t + 1) else if nI op = 9 then bi (decide (μ.1 (nK k) t < μ.1 (nK k) (t + 1))) else bi (decide (μ.1 (nK k) t = μ.1 (nK k) (t + 1)))) = cmb op (μ.1 (nK k) t) (μ.1 (nK k) (t + 1)) := by
        rcases hop with ⟨a, b⟩ | ⟨a, b⟩ | ⟨a, b⟩ | ⟨a, b⟩ | ⟨a, b⟩ <;> (rw [a]; subst b; rfl)
      have hout : (nI op).toInt < 0 ∨ 5 < (nI op).toInt := by rw [nI_toInt (by omega)]; omega
      refine aw_tabOut (tg := 213) nd_N_evaluate_56 hout (by decide) ?_
      refine aw_iinc (pc' := 216) (ls' := [_, _, _, _, _, _, _, _, _, _, _, _]) nd_N_evaluate_213 rfl rfl (pk_m1 (t + 1)) rfl ?_
      refine aw_aload_n (pc' := 217) nd_N_evaluate_216 rfl rfl rfl ?_
      refine aw_iload (pc' := 219) nd_N_evaluate_217 rfl rfl ?_
      refine aw_iconst (pc' := 220) (x := 1) nd_N_evaluate_219 rfl (by decide) ?_
      refine aw_isub (pc' := 221) nd_N_evaluate_220 rfl ?_
      refine aw_iload (pc' := 223) nd_N_evaluate_221 rfl rfl ?_
      refine aw_aload_n (pc' := 224) nd_N_evaluate_223 rfl rfl rfl ?_
      refine aw_iload (pc' := 226) nd_N_evaluate_224 rfl rfl ?_
      refine aw_iconst (pc' := 227) (x := 1) nd_N_evaluate_226 rfl (by decide) ?_
      refine aw_isub (pc' := 228) nd_N_evaluate_227 rfl ?_
      refine aw_iald (pc' := 229) nd_N_evaluate_228 rfl (ga_K hk) t (nI_pred t) (by omega) ?_
      refine aw_aload_n (pc' := 230) nd_N_evaluate_229 rfl rfl rfl ?_
      refine aw_iload (pc' := 232) nd_N_evaluate_230 rfl rfl ?_
      refine aw_iald (pc' := 233) nd_N_evaluate_232 rfl (ga_K hk) (t + 1) rfl (by omega) ?_
      refine aw_callS (a := 0) (pc' := 236) (as := [_, _, _]) (st := [_, _]) nd_N_evaluate_233 rfl nC_0_233 ⟨(Nat.le_of_ble_eq_true rfl), rfl, rfl⟩ (Nat.le_of_ble_eq_true rfl) (Nat.le_of_ble_eq_true rfl) (Nat.le_of_ble_eq_true rfl) ?_
      refine c_N_combine ?_
      rw [hcb]
      show nW _ _ _ _ _ 236 _ [_, _, _] _ _ _
      refine aw_iast (pc' := 237) nd_N_evaluate_236 rfl rfl t (nI_pred t) (by omega) (pa_K hk) ?_
      refine aw_iinc (pc' := 240) (ls' := [_, _, _, _, _, _, _, _, _, _, _, _]) nd_N_evaluate_237 rfl rfl (nI_1 j) rfl ?_
      refine aw_goto (pc' := 19) nd_N_evaluate_240 (by decide) ?_
      exact ih (j + 1) dd Q _ (t + 1) (at_ + 1) _ _ _ _ _ (by omega) kw.1 kw.2.1 kw.2.2 (by omega) (by omega) hq
end
