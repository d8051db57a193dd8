section
-- ===== PART A: goes FIRST, ahead of the names: the tables' words, and 'selects' of the private methods out of them =====
/-- a private method of a class that the tables say can be made, by its rows of tables_1 -/
def lw_okq (q : MethodName × Nat) : Prop := (q.1.cls ≠ "java/lang/invoke/MethodHandle" ∧ q.1.cls ≠ "java/lang/invoke/VarHandle") ∧ Cond.instantiable q.1.cls q.2 ∈ tables_1 ∧ Cond.privateMethod q.1 ∈ tables_1 ∧ Cond.instanceMethod q.1 ∈ tables_1
theorem lw_p0 : lw_okq (⟨"NoteSheet$Parser", "takeFormula", "(I)Z"⟩, 2) := ⟨⟨by decide +kernel, by decide +kernel⟩, List.mem_of_getElem? (i := 145) (by decide +kernel), List.mem_of_getElem? (i := 295) (by decide +kernel), List.mem_of_getElem? (i := 296) (by decide +kernel)⟩
theorem lw_p1 : lw_okq (⟨"NoteSheet$Parser", "takeSum", "(I)Z"⟩, 2) := ⟨⟨by decide +kernel, by decide +kernel⟩, List.mem_of_getElem? (i := 145) (by decide +kernel), List.mem_of_getElem? (i := 299) (by decide +kernel), List.mem_of_getElem? (i := 300) (by decide +kernel)⟩
theorem lw_p2 : lw_okq (⟨"NoteSheet$Parser", "takeProduct", "(I)Z"⟩, 2) := ⟨⟨by decide +kernel, by decide +kernel⟩, List.mem_of_getElem? (i := 145) (by decide +kernel), List.mem_of_getElem? (i := 303) (by decide +kernel), List.mem_of_getElem? (i := 304) (by decide +kernel)⟩
theorem lw_p3 : lw_okq (⟨"NoteSheet$Parser", "takeUnit", "(I)Z"⟩, 2) := ⟨⟨by decide +kernel, by decide +kernel⟩, List.mem_of_getElem? (i := 145) (by decide +kernel), List.mem_of_getElem? (i := 307) (by decide +kernel), List.mem_of_getElem? (i := 308) (by decide +kernel)⟩
theorem lw_p4 : lw_okq (⟨"NoteSheet$Parser", "next", "()C"⟩, 2) := ⟨⟨by decide +kernel, by decide +kernel⟩, List.mem_of_getElem? (i := 145) (by decide +kernel), List.mem_of_getElem? (i := 311) (by decide +kernel), List.mem_of_getElem? (i := 312) (by decide +kernel)⟩
theorem lw_p5 : lw_okq (⟨"NoteSheet$Parser", "takeNumber", "()V"⟩, 2) := ⟨⟨by decide +kernel, by decide +kernel⟩, List.mem_of_getElem? (i := 145) (by decide +kernel), List.mem_of_getElem? (i := 321) (by decide +kernel), List.mem_of_getElem? (i := 322) (by decide +kernel)⟩
theorem lw_p6 : lw_okq (⟨"NoteSheet$Parser", "take", "(C)Z"⟩, 2) := ⟨⟨by decide +kernel, by decide +kernel⟩, List.mem_of_getElem? (i := 145) (by decide +kernel), List.mem_of_getElem? (i := 325) (by decide +kernel), List.mem_of_getElem? (i := 326) (by decide +kernel)⟩
theorem lw_p7 : lw_okq (⟨"NoteSheet$Parser", "takeBranches", "(I)Z"⟩, 2) := ⟨⟨by decide +kernel, by decide +kernel⟩, List.mem_of_getElem? (i := 145) (by decide +kernel), List.mem_of_getElem? (i := 329) (by decide +kernel), List.mem_of_getElem? (i := 330) (by decide +kernel)⟩
theorem lw_p8 : lw_okq (⟨"NoteSheet", "makeFormula", "(LNoteSheet$Cell;)V"⟩, 8) := ⟨⟨by decide +kernel, by decide +kernel⟩, List.mem_of_getElem? (i := 15) (by decide +kernel), List.mem_of_getElem? (i := 345) (by decide +kernel), List.mem_of_getElem? (i := 346) (by decide +kernel)⟩
theorem lw_p9 : lw_okq (⟨"NoteSheet", "startRevision", "(I)V"⟩, 8) := ⟨⟨by decide +kernel, by decide +kernel⟩, List.mem_of_getElem? (i := 15) (by decide +kernel), List.mem_of_getElem? (i := 357) (by decide +kernel), List.mem_of_getElem? (i := 358) (by decide +kernel)⟩
theorem lw_p10 : lw_okq (⟨"NoteSheet", "makeInput", "(LNoteSheet$Cell;II)V"⟩, 8) := ⟨⟨by decide +kernel, by decide +kernel⟩, List.mem_of_getElem? (i := 15) (by decide +kernel), List.mem_of_getElem? (i := 375) (by decide +kernel), List.mem_of_getElem? (i := 376) (by decide +kernel)⟩
theorem lw_p11 : lw_okq (⟨"NoteSheet", "upToDateValue", "(LNoteSheet$Cell;)J"⟩, 8) := ⟨⟨by decide +kernel, by decide +kernel⟩, List.mem_of_getElem? (i := 15) (by decide +kernel), List.mem_of_getElem? (i := 388) (by decide +kernel), List.mem_of_getElem? (i := 389) (by decide +kernel)⟩
theorem lw_p12 : lw_okq (⟨"NoteSheet", "bringUpToDate", "(LNoteSheet$Cell;)V"⟩, 8) := ⟨⟨by decide +kernel, by decide +kernel⟩, List.mem_of_getElem? (i := 15) (by decide +kernel), List.mem_of_getElem? (i := 392) (by decide +kernel), List.mem_of_getElem? (i := 393) (by decide +kernel)⟩
theorem lw_p13 : lw_okq (⟨"NoteSheet", "passes", "(LNoteSheet$Note;)Z"⟩, 8) := ⟨⟨by decide +kernel, by decide +kernel⟩, List.mem_of_getElem? (i := 15) (by decide +kernel), List.mem_of_getElem? (i := 400) (by decide +kernel), List.mem_of_getElem? (i := 401) (by decide +kernel)⟩
theorem lw_p14 : lw_okq (⟨"NoteSheet", "verify", "(LNoteSheet$Cell;I)V"⟩, 8) := ⟨⟨by decide +kernel, by decide +kernel⟩, List.mem_of_getElem? (i := 15) (by decide +kernel), List.mem_of_getElem? (i := 404) (by decide +kernel), List.mem_of_getElem? (i := 405) (by decide +kernel)⟩
theorem lw_p15 : lw_okq (⟨"NoteSheet", "tally", "(LNoteSheet$Cell;I)V"⟩, 8) := ⟨⟨by decide +kernel, by decide +kernel⟩, List.mem_of_getElem? (i := 15) (by decide +kernel), List.mem_of_getElem? (i := 408) (by decide +kernel), List.mem_of_getElem? (i := 409) (by decide +kernel)⟩
def lw_privs_1 : List (MethodName × Nat) := [(⟨"NoteSheet$Parser", "takeFormula", "(I)Z"⟩, 2), (⟨"NoteSheet$Parser", "takeSum", "(I)Z"⟩, 2), (⟨"NoteSheet$Parser", "takeProduct", "(I)Z"⟩, 2), (⟨"NoteSheet$Parser", "takeUnit", "(I)Z"⟩, 2), (⟨"NoteSheet$Parser", "next", "()C"⟩, 2), (⟨"NoteSheet$Parser", "takeNumber", "()V"⟩, 2), (⟨"NoteSheet$Parser", "take", "(C)Z"⟩, 2), (⟨"NoteSheet$Parser", "takeBranches", "(I)Z"⟩, 2), (⟨"NoteSheet", "makeFormula", "(LNoteSheet$Cell;)V"⟩, 8), (⟨"NoteSheet", "startRevision", "(I)V"⟩, 8), (⟨"NoteSheet", "makeInput", "(LNoteSheet$Cell;II)V"⟩, 8), (⟨"NoteSheet", "upToDateValue", "(LNoteSheet$Cell;)J"⟩, 8), (⟨"NoteSheet", "bringUpToDate", "(LNoteSheet$Cell;)V"⟩, 8), (⟨"NoteSheet", "passes", "(LNoteSheet$Note;)Z"⟩, 8), (⟨"NoteSheet", "verify", "(LNoteSheet$Cell;I)V"⟩, 8), (⟨"NoteSheet", "tally", "(LNoteSheet$Cell;I)V"⟩, 8)]
theorem lw_r1 : ∀ q ∈ lw_privs_1, lw_okq q := List.forall_mem_cons.mpr ⟨lw_p0, List.forall_mem_cons.mpr ⟨lw_p1, List.forall_mem_cons.mpr ⟨lw_p2, List.forall_mem_cons.mpr ⟨lw_p3, List.forall_mem_cons.mpr ⟨lw_p4, List.forall_mem_cons.mpr ⟨lw_p5, List.forall_mem_cons.mpr ⟨lw_p6, List.forall_mem_cons.mpr ⟨lw_p7, List.forall_mem_cons.mpr ⟨lw_p8, List.forall_mem_cons.mpr ⟨lw_p9, List.forall_mem_cons.mpr ⟨lw_p10, List.forall_mem_cons.mpr ⟨lw_p11, List.forall_mem_cons.mpr ⟨lw_p12, List.forall_mem_cons.mpr ⟨lw_p13, List.forall_mem_cons.mpr ⟨lw_p14, List.forall_mem_cons.mpr ⟨lw_p15, fun _ h => absurd h List.not_mem_nil⟩⟩⟩⟩⟩⟩⟩⟩⟩⟩⟩⟩⟩⟩⟩⟩
theorem lw_p16 : lw_okq (⟨"NoteSheet", "readsAreUnchanged", "(LNoteSheet$Cell;)Z"⟩, 8) := ⟨⟨by decide +kernel, by decide +kernel⟩, List.mem_of_getElem? (i := 15) (by decide +kernel), List.mem_of_getElem? (i := 412) (by decide +kernel), List.mem_of_getElem? (i := 413) (by decide +kernel)⟩
theorem lw_p17 : lw_okq (⟨"NoteSheet", "leastDurability", "(LNoteSheet$Note;)I"⟩, 8) := ⟨⟨by decide +kernel, by decide +kernel⟩, List.mem_of_getElem? (i := 15) (by decide +kernel), List.mem_of_getElem? (i := 420) (by decide +kernel), List.mem_of_getElem? (i := 421) (by decide +kernel)⟩
theorem lw_p18 : lw_okq (⟨"NoteSheet", "workOut", "(LNoteSheet$Cell;)V"⟩, 8) := ⟨⟨by decide +kernel, by decide +kernel⟩, List.mem_of_getElem? (i := 15) (by decide +kernel), List.mem_of_getElem? (i := 428) (by decide +kernel), List.mem_of_getElem? (i := 429) (by decide +kernel)⟩
theorem lw_p19 : lw_okq (⟨"NoteSheet", "evaluate", "(LNoteSheet$Cell;)J"⟩, 8) := ⟨⟨by decide +kernel, by decide +kernel⟩, List.mem_of_getElem? (i := 15) (by decide +kernel), List.mem_of_getElem? (i := 432) (by decide +kernel), List.mem_of_getElem? (i := 433) (by decide +kernel)⟩
theorem lw_p20 : lw_okq (⟨"NoteSheet", "giveTo", "(LNoteSheet$Cell;I)J"⟩, 8) := ⟨⟨by decide +kernel, by decide +kernel⟩, List.mem_of_getElem? (i := 15) (by decide +kernel), List.mem_of_getElem? (i := 444) (by decide +kernel), List.mem_of_getElem? (i := 445) (by decide +kernel)⟩
theorem lw_p21 : lw_okq (⟨"NoteSheet", "markUsed", "(LNoteSheet$Cell;)V"⟩, 8) := ⟨⟨by decide +kernel, by decide +kernel⟩, List.mem_of_getElem? (i := 15) (by decide +kernel), List.mem_of_getElem? (i := 461) (by decide +kernel), List.mem_of_getElem? (i := 462) (by decide +kernel)⟩
theorem lw_p22 : lw_okq (⟨"NoteSheet", "dropValuesBeyondKept", "()V"⟩, 8) := ⟨⟨by decide +kernel, by decide +kernel⟩, List.mem_of_getElem? (i := 15) (by decide +kernel), List.mem_of_getElem? (i := 465) (by decide +kernel), List.mem_of_getElem? (i := 466) (by decide +kernel)⟩
theorem lw_p23 : lw_okq (⟨"NoteSheet", "valuesInNotes", "()I"⟩, 8) := ⟨⟨by decide +kernel, by decide +kernel⟩, List.mem_of_getElem? (i := 15) (by decide +kernel), List.mem_of_getElem? (i := 469) (by decide +kernel), List.mem_of_getElem? (i := 470) (by decide +kernel)⟩
theorem lw_p24 : lw_okq (⟨"NoteSheet", "dropLongestUnused", "()V"⟩, 8) := ⟨⟨by decide +kernel, by decide +kernel⟩, List.mem_of_getElem? (i := 15) (by decide +kernel), List.mem_of_getElem? (i := 473) (by decide +kernel), List.mem_of_getElem? (i := 474) (by decide +kernel)⟩
theorem lw_p25 : lw_okq (⟨"NoteSheetModel", "fault", "()I"⟩, 43) := ⟨⟨by decide +kernel, by decide +kernel⟩, List.mem_of_getElem? (i := 500) (by decide +kernel), List.mem_of_getElem? (i := 652) (by decide +kernel), List.mem_of_getElem? (i := 653) (by decide +kernel)⟩
theorem lw_p26 : lw_okq (⟨"NoteSheetModel", "begin", "(II)Z"⟩, 43) := ⟨⟨by decide +kernel, by decide +kernel⟩, List.mem_of_getElem? (i := 500) (by decide +kernel), List.mem_of_getElem? (i := 656) (by decide +kernel), List.mem_of_getElem? (i := 657) (by decide +kernel)⟩
theorem lw_p27 : lw_okq (⟨"NoteSheetModel", "make", "(II)V"⟩, 43) := ⟨⟨by decide +kernel, by decide +kernel⟩, List.mem_of_getElem? (i := 500) (by decide +kernel), List.mem_of_getElem? (i := 660) (by decide +kernel), List.mem_of_getElem? (i := 661) (by decide +kernel)⟩
theorem lw_p28 : lw_okq (⟨"NoteSheetModel", "settle", "(I)V"⟩, 43) := ⟨⟨by decide +kernel, by decide +kernel⟩, List.mem_of_getElem? (i := 500) (by decide +kernel), List.mem_of_getElem? (i := 664) (by decide +kernel), List.mem_of_getElem? (i := 665) (by decide +kernel)⟩
theorem lw_p29 : lw_okq (⟨"NoteSheetModel", "deepness", "()I"⟩, 43) := ⟨⟨by decide +kernel, by decide +kernel⟩, List.mem_of_getElem? (i := 500) (by decide +kernel), List.mem_of_getElem? (i := 671) (by decide +kernel), List.mem_of_getElem? (i := 672) (by decide +kernel)⟩
theorem lw_p30 : lw_okq (⟨"NoteSheetModel", "put", "(II)V"⟩, 43) := ⟨⟨by decide +kernel, by decide +kernel⟩, List.mem_of_getElem? (i := 500) (by decide +kernel), List.mem_of_getElem? (i := 675) (by decide +kernel), List.mem_of_getElem? (i := 676) (by decide +kernel)⟩
theorem lw_p31 : lw_okq (⟨"NoteSheetModel", "goesOn", "(I)Z"⟩, 43) := ⟨⟨by decide +kernel, by decide +kernel⟩, List.mem_of_getElem? (i := 500) (by decide +kernel), List.mem_of_getElem? (i := 679) (by decide +kernel), List.mem_of_getElem? (i := 680) (by decide +kernel)⟩
def lw_privs_2 : List (MethodName × Nat) := [(⟨"NoteSheet", "readsAreUnchanged", "(LNoteSheet$Cell;)Z"⟩, 8), (⟨"NoteSheet", "leastDurability", "(LNoteSheet$Note;)I"⟩, 8), (⟨"NoteSheet", "workOut", "(LNoteSheet$Cell;)V"⟩, 8), (⟨"NoteSheet", "evaluate", "(LNoteSheet$Cell;)J"⟩, 8), (⟨"NoteSheet", "giveTo", "(LNoteSheet$Cell;I)J"⟩, 8), (⟨"NoteSheet", "markUsed", "(LNoteSheet$Cell;)V"⟩, 8), (⟨"NoteSheet", "dropValuesBeyondKept", "()V"⟩, 8), (⟨"NoteSheet", "valuesInNotes", "()I"⟩, 8), (⟨"NoteSheet", "dropLongestUnused", "()V"⟩, 8), (⟨"NoteSheetModel", "fault", "()I"⟩, 43), (⟨"NoteSheetModel", "begin", "(II)Z"⟩, 43), (⟨"NoteSheetModel", "make", "(II)V"⟩, 43), (⟨"NoteSheetModel", "settle", "(I)V"⟩, 43), (⟨"NoteSheetModel", "deepness", "()I"⟩, 43), (⟨"NoteSheetModel", "put", "(II)V"⟩, 43), (⟨"NoteSheetModel", "goesOn", "(I)Z"⟩, 43)]
theorem lw_r2 : ∀ q ∈ lw_privs_2, lw_okq q := List.forall_mem_cons.mpr ⟨lw_p16, List.forall_mem_cons.mpr ⟨lw_p17, List.forall_mem_cons.mpr ⟨lw_p18, List.forall_mem_cons.mpr ⟨lw_p19, List.forall_mem_cons.mpr ⟨lw_p20, List.forall_mem_cons.mpr ⟨lw_p21, List.forall_mem_cons.mpr ⟨lw_p22, List.forall_mem_cons.mpr ⟨lw_p23, List.forall_mem_cons.mpr ⟨lw_p24, List.forall_mem_cons.mpr ⟨lw_p25, List.forall_mem_cons.mpr ⟨lw_p26, List.forall_mem_cons.mpr ⟨lw_p27, List.forall_mem_cons.mpr ⟨lw_p28, List.forall_mem_cons.mpr ⟨lw_p29, List.forall_mem_cons.mpr ⟨lw_p30, List.forall_mem_cons.mpr ⟨lw_p31, fun _ h => absurd h List.not_mem_nil⟩⟩⟩⟩⟩⟩⟩⟩⟩⟩⟩⟩⟩⟩⟩⟩
theorem lw_p32 : lw_okq (⟨"NoteSheetModel", "compared", "()Z"⟩, 43) := ⟨⟨by decide +kernel, by decide +kernel⟩, List.mem_of_getElem? (i := 500) (by decide +kernel), List.mem_of_getElem? (i := 683) (by decide +kernel), List.mem_of_getElem? (i := 684) (by decide +kernel)⟩
theorem lw_p33 : lw_okq (⟨"NoteSheetModel", "awaits", "()I"⟩, 43) := ⟨⟨by decide +kernel, by decide +kernel⟩, List.mem_of_getElem? (i := 500) (by decide +kernel), List.mem_of_getElem? (i := 687) (by decide +kernel), List.mem_of_getElem? (i := 688) (by decide +kernel)⟩
theorem lw_p34 : lw_okq (⟨"NoteSheetModel", "inner", "()I"⟩, 43) := ⟨⟨by decide +kernel, by decide +kernel⟩, List.mem_of_getElem? (i := 500) (by decide +kernel), List.mem_of_getElem? (i := 691) (by decide +kernel), List.mem_of_getElem? (i := 692) (by decide +kernel)⟩
theorem lw_p35 : lw_okq (⟨"NoteSheetModel", "close", "()V"⟩, 43) := ⟨⟨by decide +kernel, by decide +kernel⟩, List.mem_of_getElem? (i := 500) (by decide +kernel), List.mem_of_getElem? (i := 695) (by decide +kernel), List.mem_of_getElem? (i := 696) (by decide +kernel)⟩
theorem lw_p36 : lw_okq (⟨"NoteSheetModel", "change", "(I)V"⟩, 43) := ⟨⟨by decide +kernel, by decide +kernel⟩, List.mem_of_getElem? (i := 500) (by decide +kernel), List.mem_of_getElem? (i := 702) (by decide +kernel), List.mem_of_getElem? (i := 703) (by decide +kernel)⟩
theorem lw_p37 : lw_okq (⟨"NoteSheetModel", "settled", "(I)Z"⟩, 43) := ⟨⟨by decide +kernel, by decide +kernel⟩, List.mem_of_getElem? (i := 500) (by decide +kernel), List.mem_of_getElem? (i := 715) (by decide +kernel), List.mem_of_getElem? (i := 716) (by decide +kernel)⟩
theorem lw_p38 : lw_okq (⟨"NoteSheetModel", "start", "(II)V"⟩, 43) := ⟨⟨by decide +kernel, by decide +kernel⟩, List.mem_of_getElem? (i := 500) (by decide +kernel), List.mem_of_getElem? (i := 719) (by decide +kernel), List.mem_of_getElem? (i := 720) (by decide +kernel)⟩
theorem lw_p39 : lw_okq (⟨"NoteSheetModel", "runAll", "()V"⟩, 43) := ⟨⟨by decide +kernel, by decide +kernel⟩, List.mem_of_getElem? (i := 500) (by decide +kernel), List.mem_of_getElem? (i := 723) (by decide +kernel), List.mem_of_getElem? (i := 724) (by decide +kernel)⟩
theorem lw_p40 : lw_okq (⟨"NoteSheetModel", "enter", "(II)V"⟩, 43) := ⟨⟨by decide +kernel, by decide +kernel⟩, List.mem_of_getElem? (i := 500) (by decide +kernel), List.mem_of_getElem? (i := 727) (by decide +kernel), List.mem_of_getElem? (i := 728) (by decide +kernel)⟩
theorem lw_p41 : lw_okq (⟨"NoteSheetModel", "counts", "(II)V"⟩, 43) := ⟨⟨by decide +kernel, by decide +kernel⟩, List.mem_of_getElem? (i := 500) (by decide +kernel), List.mem_of_getElem? (i := 731) (by decide +kernel), List.mem_of_getElem? (i := 732) (by decide +kernel)⟩
theorem lw_p42 : lw_okq (⟨"NoteSheetModel", "finish", "()V"⟩, 43) := ⟨⟨by decide +kernel, by decide +kernel⟩, List.mem_of_getElem? (i := 500) (by decide +kernel), List.mem_of_getElem? (i := 735) (by decide +kernel), List.mem_of_getElem? (i := 736) (by decide +kernel)⟩
theorem lw_p43 : lw_okq (⟨"NoteSheetModel", "lookThrough", "(II)V"⟩, 43) := ⟨⟨by decide +kernel, by decide +kernel⟩, List.mem_of_getElem? (i := 500) (by decide +kernel), List.mem_of_getElem? (i := 739) (by decide +kernel), List.mem_of_getElem? (i := 740) (by decide +kernel)⟩
theorem lw_p44 : lw_okq (⟨"NoteSheetModel", "durabilityOf", "(I)I"⟩, 43) := ⟨⟨by decide +kernel, by decide +kernel⟩, List.mem_of_getElem? (i := 500) (by decide +kernel), List.mem_of_getElem? (i := 743) (by decide +kernel), List.mem_of_getElem? (i := 744) (by decide +kernel)⟩
theorem lw_p45 : lw_okq (⟨"NoteSheetModel", "sinceOf", "(I)I"⟩, 43) := ⟨⟨by decide +kernel, by decide +kernel⟩, List.mem_of_getElem? (i := 500) (by decide +kernel), List.mem_of_getElem? (i := 747) (by decide +kernel), List.mem_of_getElem? (i := 748) (by decide +kernel)⟩
theorem lw_p46 : lw_okq (⟨"NoteSheetModel", "worked", "(IIJ)V"⟩, 43) := ⟨⟨by decide +kernel, by decide +kernel⟩, List.mem_of_getElem? (i := 500) (by decide +kernel), List.mem_of_getElem? (i := 751) (by decide +kernel), List.mem_of_getElem? (i := 752) (by decide +kernel)⟩
theorem lw_p47 : lw_okq (⟨"NoteSheetModel", "use", "(I)V"⟩, 43) := ⟨⟨by decide +kernel, by decide +kernel⟩, List.mem_of_getElem? (i := 500) (by decide +kernel), List.mem_of_getElem? (i := 755) (by decide +kernel), List.mem_of_getElem? (i := 756) (by decide +kernel)⟩
def lw_privs_3 : List (MethodName × Nat) := [(⟨"NoteSheetModel", "compared", "()Z"⟩, 43), (⟨"NoteSheetModel", "awaits", "()I"⟩, 43), (⟨"NoteSheetModel", "inner", "()I"⟩, 43), (⟨"NoteSheetModel", "close", "()V"⟩, 43), (⟨"NoteSheetModel", "change", "(I)V"⟩, 43), (⟨"NoteSheetModel", "settled", "(I)Z"⟩, 43), (⟨"NoteSheetModel", "start", "(II)V"⟩, 43), (⟨"NoteSheetModel", "runAll", "()V"⟩, 43), (⟨"NoteSheetModel", "enter", "(II)V"⟩, 43), (⟨"NoteSheetModel", "counts", "(II)V"⟩, 43), (⟨"NoteSheetModel", "finish", "()V"⟩, 43), (⟨"NoteSheetModel", "lookThrough", "(II)V"⟩, 43), (⟨"NoteSheetModel", "durabilityOf", "(I)I"⟩, 43), (⟨"NoteSheetModel", "sinceOf", "(I)I"⟩, 43), (⟨"NoteSheetModel", "worked", "(IIJ)V"⟩, 43), (⟨"NoteSheetModel", "use", "(I)V"⟩, 43)]
theorem lw_r3 : ∀ q ∈ lw_privs_3, lw_okq q := List.forall_mem_cons.mpr ⟨lw_p32, List.forall_mem_cons.mpr ⟨lw_p33, List.forall_mem_cons.mpr ⟨lw_p34, List.forall_mem_cons.mpr ⟨lw_p35, List.forall_mem_cons.mpr ⟨lw_p36, List.forall_mem_cons.mpr ⟨lw_p37, List.forall_mem_cons.mpr ⟨lw_p38, List.forall_mem_cons.mpr ⟨lw_p39, List.forall_mem_cons.mpr ⟨lw_p40, List.forall_mem_cons.mpr ⟨lw_p41, List.forall_mem_cons.mpr ⟨lw_p42, List.forall_mem_cons.mpr ⟨lw_p43, List.forall_mem_cons.mpr ⟨lw_p44, List.forall_mem_cons.mpr ⟨lw_p45, List.forall_mem_cons.mpr ⟨lw_p46, List.forall_mem_cons.mpr ⟨lw_p47, fun _ h => absurd h List.not_mem_nil⟩⟩⟩⟩⟩⟩⟩⟩⟩⟩⟩⟩⟩⟩⟩⟩
theorem lw_p48 : lw_okq (⟨"NoteSheetModel", "advance", "(II)V"⟩, 43) := ⟨⟨by decide +kernel, by decide +kernel⟩, List.mem_of_getElem? (i := 500) (by decide +kernel), List.mem_of_getElem? (i := 759) (by decide +kernel), List.mem_of_getElem? (i := 760) (by decide +kernel)⟩
theorem lw_p49 : lw_okq (⟨"NoteSheetModel", "look", "(III)V"⟩, 43) := ⟨⟨by decide +kernel, by decide +kernel⟩, List.mem_of_getElem? (i := 500) (by decide +kernel), List.mem_of_getElem? (i := 763) (by decide +kernel), List.mem_of_getElem? (i := 764) (by decide +kernel)⟩
theorem lw_p50 : lw_okq (⟨"NoteSheetModel", "push", "(IJ)V"⟩, 43) := ⟨⟨by decide +kernel, by decide +kernel⟩, List.mem_of_getElem? (i := 500) (by decide +kernel), List.mem_of_getElem? (i := 768) (by decide +kernel), List.mem_of_getElem? (i := 769) (by decide +kernel)⟩
theorem lw_p51 : lw_okq (⟨"NoteSheetModel", "pop", "(I)J"⟩, 43) := ⟨⟨by decide +kernel, by decide +kernel⟩, List.mem_of_getElem? (i := 500) (by decide +kernel), List.mem_of_getElem? (i := 772) (by decide +kernel), List.mem_of_getElem? (i := 773) (by decide +kernel)⟩
theorem lw_p52 : lw_okq (⟨"NoteSheetModel", "combine", "(II)V"⟩, 43) := ⟨⟨by decide +kernel, by decide +kernel⟩, List.mem_of_getElem? (i := 500) (by decide +kernel), List.mem_of_getElem? (i := 776) (by decide +kernel), List.mem_of_getElem? (i := 777) (by decide +kernel)⟩
theorem lw_p53 : lw_okq (⟨"NoteSheetModel", "values", "()I"⟩, 43) := ⟨⟨by decide +kernel, by decide +kernel⟩, List.mem_of_getElem? (i := 500) (by decide +kernel), List.mem_of_getElem? (i := 780) (by decide +kernel), List.mem_of_getElem? (i := 781) (by decide +kernel)⟩
def lw_privs_4 : List (MethodName × Nat) := [(⟨"NoteSheetModel", "advance", "(II)V"⟩, 43), (⟨"NoteSheetModel", "look", "(III)V"⟩, 43), (⟨"NoteSheetModel", "push", "(IJ)V"⟩, 43), (⟨"NoteSheetModel", "pop", "(I)J"⟩, 43), (⟨"NoteSheetModel", "combine", "(II)V"⟩, 43), (⟨"NoteSheetModel", "values", "()I"⟩, 43)]
theorem lw_r4 : ∀ q ∈ lw_privs_4, lw_okq q := List.forall_mem_cons.mpr ⟨lw_p48, List.forall_mem_cons.mpr ⟨lw_p49, List.forall_mem_cons.mpr ⟨lw_p50, List.forall_mem_cons.mpr ⟨lw_p51, List.forall_mem_cons.mpr ⟨lw_p52, List.forall_mem_cons.mpr ⟨lw_p53, fun _ h => absurd h List.not_mem_nil⟩⟩⟩⟩⟩⟩
def lw_privs : List (MethodName × Nat) := lw_privs_1 ++ (lw_privs_2 ++ (lw_privs_3 ++ (lw_privs_4)))
def lw_tbl : List Cond := k2_sels lw_privs ++ tables_1
theorem lw_privs_ok : ∀ q ∈ lw_privs, lw_okq q := by
  show ∀ q ∈ lw_privs_1 ++ (lw_privs_2 ++ (lw_privs_3 ++ (lw_privs_4))), lw_okq q
  exact List.forall_mem_append.mpr ⟨lw_r1, List.forall_mem_append.mpr ⟨lw_r2, List.forall_mem_append.mpr ⟨lw_r3, lw_r4⟩⟩⟩
end
section
/-! The abstract machine: the same bytecode over cells by number. A value '.ref i' is cell number i; '.retAddr 0' the script, '.retAddr 1' .. constants that are never written. -/
abbrev ax_E : Type := (FieldType × vp_A) ⊕ (Nat × List Value)
abbrev ax_H : Type := Nat × (Nat → Option ax_E)
def ax_up (h : ax_H) (a : Nat) (e : ax_E) : ax_H := (h.1, fun i => if i = a then some e else h.2 i)
def ax_nw (h : ax_H) (e : ax_E) : ax_H := (h.1 + 1, fun i => if i = h.1 then some e else h.2 i)
def ax_i (st : List Value) (K : Int32 → List Value → Prop) : Prop := match st with
  | .int x :: r => K x r
  | _ => False
def ax_l (st : List Value) (K : Int64 → List Value → Prop) : Prop := match st with
  | .long x :: r => K x r
  | _ => False
def ax_r (st : List Value) (K : Nat → List Value → Prop) : Prop := match st with
  | .ref x :: r => K x r
  | _ => False
def ax_isa : Value → Bool
  | .ref _ => true
  | .null => true
  | .retAddr _ => true
  | _ => false
def ax_c1 : Value → Bool
  | .long _ => false
  | .double _ => false
  | _ => true
def ax_1 (st : List Value) (K : Value → List Value → Prop) : Prop := match st with
  | v :: r => ax_c1 v = true ∧ K v r
  | _ => False
def ax_1' (st : List Value) (K : Value → List Value → Prop) : Prop := match st with
  | v :: r => K v r
  | _ => False
def ax_ld (ls : List (Option Value)) (i : Nat) (K : Value → Prop) : Prop := match ls[i]? with
  | some (some v) => K v
  | _ => False
def ax_vi (v : Value) (K : Int32 → Prop) : Prop := match v with
  | .int x => K x
  | _ => False
def ax_vl (v : Value) (K : Int64 → Prop) : Prop := match v with
  | .long x => K x
  | _ => False
def ax_kl : Option Value → Option Value
  | some (.long _) => none
  | some (.double _) => none
  | o => o
def ax_s1 (ls : List (Option Value)) (i : Nat) (v : Value) : List (Option Value) := match i with
  | 0 => ls.set 0 (some v)
  | j + 1 => (ls.modify j ax_kl).set (j + 1) (some v)
def ax_s2 (ls : List (Option Value)) (i : Nat) (v : Value) : List (Option Value) := (ax_s1 ls i v).set (i + 1) none
def ax_t (pc : Nat) (off : Int) (K : Nat → Prop) : Prop := 0 ≤ (pc : Int) + off ∧ K ((pc : Int) + off).toNat
def ax_c (cond : Jvm.ClassFile.Cond) (x y : Int32) : Prop := match cond with
  | .eq => x = y
  | .ne => ¬ x = y
  | .lt => x < y
  | .ge => y ≤ x
  | .gt => y < x
  | .le => x ≤ y
def ax_br (c A B : Prop) : Prop := (c → A) ∧ (¬ c → B)
/-- an object's field -/
def ax_gf (h : ax_H) (a ci kf : Nat) (K : Value → Prop) : Prop := match h.2 a with
  | some (.inr (c', fs)) => c' = ci ∧ match fs[kf]? with
    | some v => K v
    | none => False
  | _ => False
def ax_pf (h : ax_H) (a ci kf : Nat) (v : Value) (K : ax_H → Prop) : Prop := match h.2 a with
  | some (.inr (c', fs)) => c' = ci ∧ kf < fs.length ∧ K (ax_up h a (.inr (c', fs.set kf v)))
  | _ => False
/-- a value that a field, or an answer, of this type may hold as it is -/
def ax_ft (ty : FieldType) (v : Value) : Prop := match ty, v with
  | .int, .int _ => True
  | .long, .long _ => True
  | .boolean, .int x => x = 0 ∨ x = 1
  | .object _, .ref _ => True
  | .object _, .null => True
  | .array _, .ref _ => True
  | .array _, .null => True
  | _, _ => False
def ax_ga (h : ax_H) (a : Nat) (ty : FieldType) (i : Int32) (K : Int32 → Prop) : Prop := match h.2 a with
  | some (.inl (t, n, .inl f)) => t = ty ∧ vp_in i n ∧ K (f i.toNatClampNeg)
  | _ => False
def ax_gl (h : ax_H) (a : Nat) (i : Int32) (K : Int64 → Prop) : Prop := match h.2 a with
  | some (.inl (t, n, .inr (.inl f))) => t = .long ∧ vp_in i n ∧ K (f i.toNatClampNeg)
  | _ => False
def ax_isO : FieldType → Bool
  | .object _ => true
  | _ => false
def ax_gq (h : ax_H) (a : Nat) (i : Int32) (K : Option Nat → Prop) : Prop := match h.2 a with
  | some (.inl (t, n, .inr (.inr (.inr (.inr f))))) => ax_isO t = true ∧ vp_in i n ∧ K (f i.toNatClampNeg)
  | _ => False
def ax_pa (h : ax_H) (a : Nat) (ty : FieldType) (i x : Int32) (K : ax_H → Prop) : Prop := match h.2 a with
  | some (.inl (t, n, .inl f)) => t = ty ∧ vp_in i n ∧ K (ax_up h a (.inl (t, n, .inl (upd f i.toNatClampNeg x))))
  | _ => False
def ax_pl (h : ax_H) (a : Nat) (i : Int32) (x : Int64) (K : ax_H → Prop) : Prop := match h.2 a with
  | some (.inl (t, n, .inr (.inl f))) => t = .long ∧ vp_in i n ∧ K (ax_up h a (.inl (t, n, .inr (.inl (vp_updL f i.toNatClampNeg x)))))
  | _ => False
/-- an object into an array of its class: cl names the classes -/
def ax_pq (cl : List vw_C) (h : ax_H) (a : Nat) (i : Int32) (v : Nat) (K : ax_H → Prop) : Prop := match h.2 a, h.2 v with
  | some (.inl (t, n, .inr (.inr (.inr (.inr f))))), some (.inr (ci, _)) => (cl[ci]?).map (fun q => FieldType.object q.1) = some t ∧ vp_in i n ∧ K (ax_up h a (.inl (t, n, .inr (.inr (.inr (.inr (va_up f i.toNatClampNeg (some v))))))))
  | _, _ => False
def ax_al (h : ax_H) (a : Nat) (K : Nat → Prop) : Prop := match h.2 a with
  | some (.inl (_, n, _)) => K n
  | _ => False
def ax_io (h : ax_H) (a ci : Nat) : Prop := match h.2 a with
  | some (.inr (c', _)) => c' = ci
  | _ => False
def ax_zero (ty : FieldType) (n : Nat) : Option vp_A := match ty with
  | .int => some (n, .inl (fun _ => 0))
  | .char => some (n, .inl (fun _ => 0))
  | .boolean => some (n, .inl (fun _ => 0))
  | .long => some (n, .inr (.inl (fun _ => 0)))
  | _ => none
def ax_w8 (st : List Value) : Prop := (st.map fun v => v.category).sum ≤ 8
/-- a field by its place in a class file's pool: (class's number, the field's number, its type, final) -/
abbrev ax_TF : Type := Nat → Nat → Option (Nat × Nat × FieldType × Bool)
/-- a call: (method or one of the JDK's, parameters, cells, slots, the class's number, kind: 0 static, 1 virtual, 2 special) -/
abbrev ax_TC : Type := Nat → Nat → Option ((Nat ⊕ Nat) × Nat × Nat × Nat × Nat × Nat)
/-- a constant -/
abbrev ax_TK : Type := Nat → Nat → Option Value
/-- a class to be made, or an array's element class: (its number, its fields at the start, its name) -/
abbrev ax_TN : Type := Nat → Nat → Option (Nat × List Value × String)
def ax_kt : FieldType → Bool
  | .int => true
  | .char => true
  | .boolean => true
  | .long => true
  | .object C => C == "NoteSheet$Cell"
  | _ => false
abbrev ax_Tb : Type := ax_TF × ax_TC × ax_TK × ax_TN
def ax_len : Instr → Nat
  | .bipush _ | .ldc _ | .iload _ | .lload _ | .aload _ | .istore _ | .lstore _ | .astore _ | .newarray _ => 2
  | .sipush _ | .ldc2_w _ | .iinc _ _ | .if_icmp _ _ | .ifCond _ _ | .ifnull _ | .ifnonnull _ | .goto _ | .getfield _ | .putfield _ | .anewarray _ | .new _ | .invokevirtual _ | .invokespecial _ | .invokestatic _ => 3
  | .tableswitch _ _ _ _ | .lookupswitch _ _ => 0
  | _ => 1
def ax_op {α : Type} (o : Option α) (K : α → Prop) : Prop := match o with
  | some a => K a
  | none => False
def ax_sl {α β : Type} (q : α ⊕ β) (K : α → Prop) : Prop := match q with
  | .inl a => K a
  | .inr _ => False
def ax_sr {α β : Type} (q : α ⊕ β) (K : β → Prop) : Prop := match q with
  | .inl _ => False
  | .inr a => K a
def ax_sm {α β : Type} (q : α ⊕ β) (K : α → Prop) (K1 : β → Prop) : Prop := match q with
  | .inl a => K a
  | .inr a => K1 a
def ax_ki : Value → Bool
  | .int _ => true
  | .retAddr 1 => true
  | _ => false
/-- the script, or a cell -/
def ax_sc (st : List Value) (K0 : List Value → Prop) (K : Nat → List Value → Prop) : Prop := match st with
  | .retAddr 0 :: r => K0 r
  | .ref a :: r => K a r
  | _ => False
def ax_nu (st : List Value) (K0 K : List Value → Prop) : Prop := match st with
  | .null :: r => K0 r
  | .ref _ :: r => K r
  | _ => False
abbrev ax_P : Type := Nat → List (Option Value) → List Value → Nat → Nat → ax_H → Prop
abbrev ax_Q : Type := Option Value → ax_H → Prop
abbrev ax_MT : Type := Nat → List Value → ax_H → ax_Q → Prop
/-- where a character stands in the constant text "?:<=+-*()@", or -1 -/
def ax_ix (c : Int32) : Int32 := if c = 63 then 0 else if c = 58 then 1 else if c = 60 then 2 else if c = 61 then 3 else if c = 43 then 4 else if c = 45 then 5 else if c = 42 then 6 else if c = 40 then 7 else if c = 41 then 8 else if c = 64 then 9 else -1
def ax_cp (h : ax_H) (st : List Value) (K : List Value → ax_H → Prop) : Prop := match st with
  | .int n :: .int dp :: .ref a :: .int sp :: .ref b :: r => match h.2 b, h.2 a with
    | some (.inl (t0, n0, .inl f)), some (.inl (t1, n1, .inl g)) => t0 = t1 ∧ refKind t1 = false ∧ ¬ sp < 0 ∧ ¬ dp < 0 ∧ ¬ n < 0 ∧ sp.toNatClampNeg + n.toNatClampNeg ≤ n0 ∧ dp.toNatClampNeg + n.toNatClampNeg ≤ n1 ∧ (∀ i, i < n.toNatClampNeg → fits t1 (.int (f (sp.toNatClampNeg + i))) = true) ∧ ax_w8 r ∧ K r (ax_up h a (.inl (t1, n1, .inl (va_cpy f g sp.toNatClampNeg dp.toNatClampNeg n.toNatClampNeg))))
    | _, _ => False
  | _ => False
/-- the JDK's own: 0 Object(), 1 max, 2 min, 4 indexOf in the constant text, 5 arraycopy -/
def ax_prim (d : Nat) (h : ax_H) (y : Nat) (st : List Value) (K : List Value → ax_H → Prop) : Prop := match y with
  | 0 => ax_r st fun _ st => ax_w8 st ∧ K st h
  | 1 => ax_i st fun b st => ax_i st fun a st => ax_w8 st ∧ K (.int (if a < b then b else a) :: st) h
  | 2 => ax_i st fun b st => ax_i st fun a st => ax_w8 st ∧ K (.int (if b < a then b else a) :: st) h
  | 4 => ax_i st fun ch st => match st with
    | .retAddr 1 :: st => 8 ≤ d ∧ ax_w8 st ∧ K (.int (ax_ix ch) :: st) h
    | _ => False
  | 5 => ax_cp h st K
  | _ => False
def ax_tk (np : Nat) (st : List Value) (K : List Value → List Value → Prop) : Prop := np ≤ st.length ∧ K (st.take np).reverse (st.drop np)
/-- one instruction: what must hold so that the machine comes to Q; P: where it goes on, PC: behind a call -/
def ax_ins (cl : List vw_C) (L : Nat) (xs : Nat → Int32) (tb : ax_Tb) (d co : Nat) (ini : Bool) (rt : Option FieldType) (mc ms : Nat) (M : ax_MT) (Q : ax_Q) (P PC : ax_P) (pc : Nat) (ls : List (Option Value)) (st : List Value) (k n : Nat) (h : ax_H) (i : Instr) : Prop := match i with
  | .iconst v => P (pc + 1) ls (.int (Int32.ofInt v) :: st) k n h
  | .bipush v => P (pc + 2) ls (.int (Int8.ofInt v).toInt32 :: st) k n h
  | .sipush v => P (pc + 3) ls (.int (Int16.ofInt v).toInt32 :: st) k n h
  | .lconst v => P (pc + 1) ls (.long (Int64.ofNat (v : Nat)) :: st) k n h
  | .aconst_null => P (pc + 1) ls (.null :: st) k n h
  | .ldc idx => ax_op (tb.2.2.1 co idx) fun v => ax_ki v = true ∧ P (pc + 2) ls (v :: st) k n h
  | .ldc2_w idx => ax_op (tb.2.2.1 co idx) fun v => ax_vl v fun x => P (pc + 3) ls (.long x :: st) k n h
  | .iload j => ax_ld ls j fun v => ax_vi v fun x => P (pc + 2) ls (.int x :: st) k n h
  | .iload_n j => ax_ld ls j fun v => ax_vi v fun x => P (pc + 1) ls (.int x :: st) k n h
  | .lload j => ax_ld ls j fun v => ax_vl v fun x => P (pc + 2) ls (.long x :: st) k n h
  | .lload_n j => ax_ld ls j fun v => ax_vl v fun x => P (pc + 1) ls (.long x :: st) k n h
  | .aload j => ax_ld ls j fun v => ax_isa v = true ∧ P (pc + 2) ls (v :: st) k n h
  | .aload_n j => ax_ld ls j fun v => ax_isa v = true ∧ P (pc + 1) ls (v :: st) k n h
  | .istore j => ax_i st fun x st => j < ls.length ∧ P (pc + 2) (ax_s1 ls j (.int x)) st k n h
  | .istore_n j => ax_i st fun x st => (j : Nat) < ls.length ∧ P (pc + 1) (ax_s1 ls j (.int x)) st k n h
  | .lstore j => ax_l st fun x st => j + 1 < ls.length ∧ P (pc + 2) (ax_s2 ls j (.long x)) st k n h
  | .lstore_n j => ax_l st fun x st => (j : Nat) + 1 < ls.length ∧ P (pc + 1) (ax_s2 ls j (.long x)) st k n h
  | .astore j => ax_1 st fun v st => ax_isa v = true ∧ j < ls.length ∧ P (pc + 2) (ax_s1 ls j v) st k n h
  | .astore_n j => ax_1 st fun v st => ax_isa v = true ∧ (j : Nat) < ls.length ∧ P (pc + 1) (ax_s1 ls j v) st k n h
  | .iinc j v => ax_ld ls j fun w => ax_vi w fun x => P (pc + 3) (ax_s1 ls j (.int (x + Int32.ofInt v))) st k n h
  | .iadd => ax_i st fun y st => ax_i st fun x st => P (pc + 1) ls (.int (x + y) :: st) k n h
  | .isub => ax_i st fun y st => ax_i st fun x st => P (pc + 1) ls (.int (x - y) :: st) k n h
  | .imul => ax_i st fun y st => ax_i st fun x st => P (pc + 1) ls (.int (x * y) :: st) k n h
  | .iand => ax_i st fun y st => ax_i st fun x st => P (pc + 1) ls (.int (x &&& y) :: st) k n h
  | .ixor => ax_i st fun y st => ax_i st fun x st => P (pc + 1) ls (.int (x ^^^ y) :: st) k n h
  | .idiv => ax_i st fun y st => ax_i st fun x st => ¬ y = 0 ∧ P (pc + 1) ls (.int (x / y) :: st) k n h
  | .irem => ax_i st fun y st => ax_i st fun x st => ¬ y = 0 ∧ P (pc + 1) ls (.int (x - x / y * y) :: st) k n h
  | .ineg => ax_i st fun x st => P (pc + 1) ls (.int (-x) :: st) k n h
  | .i2l => ax_i st fun x st => P (pc + 1) ls (.long x.toInt64 :: st) k n h
  | .l2i => ax_l st fun x st => P (pc + 1) ls (.int x.toInt32 :: st) k n h
  | .i2c => ax_i st fun x st => P (pc + 1) ls (.int (x.toUInt32 % 65536).toInt32 :: st) k n h
  | .lcmp => ax_l st fun y st => ax_l st fun x st => P (pc + 1) ls (.int (lg_cmp x y) :: st) k n h
  | .dup => ax_1 st fun v st => P (pc + 1) ls (v :: v :: st) k n h
  | .pop => ax_1 st fun _ st => P (pc + 1) ls st k n h
  | .dup_x1 => ax_1 st fun v st => ax_1 st fun w st => P (pc + 1) ls (v :: w :: v :: st) k n h
  | .dup_x2 => ax_1 st fun v st => ax_1 st fun w st => ax_1 st fun u st => P (pc + 1) ls (v :: w :: u :: v :: st) k n h
  | .dup2 => ax_1 st fun v st => ax_1 st fun w st => P (pc + 1) ls (v :: w :: v :: w :: st) k n h
  | .goto off => ax_t pc off fun t => P t ls st k n h
  | .if_icmp cd off => ax_i st fun y st => ax_i st fun x st => ax_t pc off fun t => ax_br (ax_c cd x y) (P t ls st k n h) (P (pc + 3) ls st k n h)
  | .ifCond cd off => ax_i st fun x st => ax_t pc off fun t => ax_br (ax_c cd x 0) (P t ls st k n h) (P (pc + 3) ls st k n h)
  | .ifnull off => ax_t pc off fun t => ax_nu st (fun st => P t ls st k n h) (fun st => P (pc + 3) ls st k n h)
  | .ifnonnull off => ax_t pc off fun t => ax_nu st (fun st => P (pc + 3) ls st k n h) (fun st => P t ls st k n h)
  | .tableswitch df lo hi offs => ax_i st fun x st => ax_br (x.toInt < lo ∨ hi < x.toInt) (ax_t pc df fun t => P t ls st k n h) (ax_op offs[(x.toInt - lo).toNat]? fun off => ax_t pc off fun t => P t ls st k n h)
  | .lookupswitch df ps => ax_i st fun x st => (ps.toList.zip (ps.toList.drop 1)).all (fun (a, next) => a.1 < next.1) = true ∧ ax_t pc (Op.lookupswitch.offset ps.toList df x.toInt) fun t => P t ls st k n h
  | .getfield idx => ax_op (tb.1 co idx) fun q => ax_r st fun a st => ax_gf h a q.1 q.2.1 fun v => P (pc + 3) ls (v :: st) k n h
  | .putfield idx => ax_op (tb.1 co idx) fun q => ax_1' st fun v st => ax_ft q.2.2.1 v ∧ (q.2.2.2 = true → ini = true ∧ q.1 = co) ∧ ax_r st fun a st => ax_pf h a q.1 q.2.1 v fun h => P (pc + 3) ls st k n h
  | .iaload => ax_i st fun i st => ax_sc st (fun st => vp_in i L ∧ P (pc + 1) ls (.int (xs i.toNatClampNeg) :: st) k n h) fun a st => ax_ga h a .int i fun v => P (pc + 1) ls (.int v :: st) k n h
  | .caload => ax_i st fun i st => ax_r st fun a st => ax_ga h a .char i fun v => P (pc + 1) ls (.int v :: st) k n h
  | .baload => ax_i st fun i st => ax_r st fun a st => ax_ga h a .boolean i fun v => P (pc + 1) ls (.int v :: st) k n h
  | .laload => ax_i st fun i st => ax_r st fun a st => ax_gl h a i fun v => P (pc + 1) ls (.long v :: st) k n h
  | .aaload => ax_i st fun i st => ax_r st fun a st => ax_gq h a i fun v => P (pc + 1) ls (va_rf v :: st) k n h
  | .iastore => ax_i st fun x st => ax_i st fun i st => ax_r st fun a st => ax_pa h a .int i x fun h => P (pc + 1) ls st k n h
  | .castore => ax_i st fun x st => ax_i st fun i st => ax_r st fun a st => ax_pa h a .char i (vp_nar .char x) fun h => P (pc + 1) ls st k n h
  | .bastore => ax_i st fun x st => ax_i st fun i st => ax_r st fun a st => ax_pa h a .boolean i (vp_nar .boolean x) fun h => P (pc + 1) ls st k n h
  | .lastore => ax_l st fun x st => ax_i st fun i st => ax_r st fun a st => ax_pl h a i x fun h => P (pc + 1) ls st k n h
  | .aastore => ax_r st fun v st => ax_i st fun i st => ax_r st fun a st => ax_pq cl h a i v fun h => P (pc + 1) ls st k n h
  | .arraylength => ax_sc st (fun st => P (pc + 1) ls (.int (Int32.ofNat L) :: st) k n h) fun a st => ax_al h a fun z => P (pc + 1) ls (.int (Int32.ofNat z) :: st) k n h
  | .newarray ty => ax_i st fun x st => ¬ x < 0 ∧ x.toNatClampNeg ≤ 1000 ∧ k + 1 ≤ mc ∧ n + x.toNatClampNeg ≤ ms ∧ ax_op (ax_zero (newarray.typeOf ty) x.toNatClampNeg) fun a => P (pc + 2) ls (.ref h.1 :: st) (k + 1) (n + x.toNatClampNeg) (ax_nw h (.inl (newarray.typeOf ty, a)))
  | .anewarray idx => ax_i st fun x st => ¬ x < 0 ∧ x.toNatClampNeg ≤ 1000 ∧ k + 1 ≤ mc ∧ n + x.toNatClampNeg ≤ ms ∧ ax_op (tb.2.2.2 co idx) fun q => ax_kt (.object q.2.2) = true ∧ P (pc + 3) ls (.ref h.1 :: st) (k + 1) (n + x.toNatClampNeg) (ax_nw h (.inl (.object q.2.2, x.toNatClampNeg, .inr (.inr (.inr (.inr (fun _ => none)))))))
  | .new idx => ax_op (tb.2.2.2 co idx) fun q => k + 1 ≤ mc ∧ n + q.2.1.length ≤ ms ∧ P (pc + 3) ls (.ref h.1 :: st) (k + 1) (n + q.2.1.length) (ax_nw h (.inr (q.1, q.2.1)))
  | .invokevirtual idx => ax_op (tb.2.1 co idx) fun q => ax_sm q.1 (fun y => q.2.2.2.2.2 = 1 ∧ ax_tk q.2.1 st fun as st => ax_r st fun a st => ax_io h a q.2.2.2.2.1 ∧ ax_w8 st ∧ k + q.2.2.1 ≤ mc ∧ n + q.2.2.2.1 ≤ ms ∧ M y (.ref a :: as) h fun v h => PC (pc + 3) ls (v.toList ++ st) (k + q.2.2.1) (n + q.2.2.2.1) h) fun y => q.2.2.2.2.2 = 1 ∧ ax_prim d h y st fun st h => P (pc + 3) ls st k n h
  | .invokespecial idx => ax_op (tb.2.1 co idx) fun q => ax_sm q.1 (fun y => q.2.2.2.2.2 = 2 ∧ ax_tk q.2.1 st fun as st => ax_r st fun a st => ax_w8 st ∧ k + q.2.2.1 ≤ mc ∧ n + q.2.2.2.1 ≤ ms ∧ M y (.ref a :: as) h fun v h => PC (pc + 3) ls (v.toList ++ st) (k + q.2.2.1) (n + q.2.2.2.1) h) fun y => q.2.2.2.2.2 = 2 ∧ ax_prim d h y st fun st h => P (pc + 3) ls st k n h
  | .invokestatic idx => ax_op (tb.2.1 co idx) fun q => ax_sm q.1 (fun y => q.2.2.2.2.2 = 0 ∧ ax_tk q.2.1 st fun as st => ax_w8 st ∧ k + q.2.2.1 ≤ mc ∧ n + q.2.2.2.1 ≤ ms ∧ M y as h fun v h => PC (pc + 3) ls (v.toList ++ st) (k + q.2.2.1) (n + q.2.2.2.1) h) fun y => q.2.2.2.2.2 = 0 ∧ ax_prim d h y st fun st h => P (pc + 3) ls st k n h
  | .ireturn => ax_i st fun v r => r = [] ∧ ax_op rt fun ty => narrow ty (.int v) = .int v ∧ k ≤ mc ∧ n ≤ ms ∧ Q (some (.int v)) h
  | .lreturn => ax_l st fun v r => r = [] ∧ rt = some .long ∧ k ≤ mc ∧ n ≤ ms ∧ Q (some (.long v)) h
  | .return_ => st = [] ∧ rt = none ∧ k ≤ mc ∧ n ≤ ms ∧ Q none h
  | _ => False
/-- a method: its code, its class's number, whether it is a constructor, its locals, its answer's type, the cells and slots that it makes -/
abbrev ax_MI : Type := ByteArray × Nat × Bool × Nat × Option FieldType × Nat × Nat
def ax_step (cl : List vw_C) (L : Nat) (xs : Nat → Int32) (tb : ax_Tb) (d : Nat) (I : ax_MI) (M : ax_MT) (Q : ax_Q) (P PC : ax_P) : ax_P := fun pc ls st k n h => match decode I.1 pc with
  | .ok (i, len) => (len = ax_len i ∨ ax_len i = 0) ∧ ax_ins cl L xs tb d I.2.1 I.2.2.1 I.2.2.2.2.1 I.2.2.2.2.2.1 I.2.2.2.2.2.2 M Q P PC pc ls st k n h i
  | .error _ => False
/-- the machine comes from here to Q -/
def ax_W (cl : List vw_C) (L : Nat) (xs : Nat → Int32) (tb : ax_Tb) (d : Nat) (I : ax_MI) (M : ax_MT) (Q : ax_Q) : ax_P := fun pc ls st k n h =>
  ∀ P : ax_P, (∀ pc ls st k n h, ax_step cl L xs tb d I M Q P P pc ls st k n h → P pc ls st k n h) → P pc ls st k n h
def ax_el : List Value → List (Option Value)
  | [] => []
  | v :: vs => if ax_c1 v = true then some v :: ax_el vs else some v :: none :: ax_el vs
def ax_en (ml : Nat) (args : List Value) : List (Option Value) := ax_el args ++ List.replicate (ml - (ax_el args).length) none
/-- a call at most d deep -/
def ax_M (cl : List vw_C) (L : Nat) (xs : Nat → Int32) (tb : ax_Tb) (mt : Nat → Option ax_MI) : Nat → ax_MT
  | 0 => fun _ _ _ _ => False
  | d + 1 => fun y args h Q => ax_op (mt y) fun I => (ax_el args).length ≤ I.2.2.2.1 ∧ ax_W cl L xs tb (d + 1) I (ax_M cl L xs tb mt d) Q 0 (ax_en I.2.2.2.1 args) [] 0 0 h
/-- j steps from here, no step at the places S, none behind a call -/
def ax_go (cl : List vw_C) (L : Nat) (xs : Nat → Int32) (tb : ax_Tb) (d : Nat) (I : ax_MI) (M : ax_MT) (Q : ax_Q) (S : List Nat) (P : ax_P) : Nat → ax_P
  | 0 => P
  | j + 1 => fun pc ls st k n h => if S.contains pc = true then P pc ls st k n h else ax_step cl L xs tb d I M Q (ax_go cl L xs tb d I M Q S P j) P pc ls st k n h
end
section
/-! the steps are monotone -/
theorem ax_and {a b b' : Prop} (h : b → b') : a ∧ b → a ∧ b' := fun q => ⟨q.1, h q.2⟩
theorem ax_i.mm {st : List Value} {K K' : Int32 → List Value → Prop} (h : ∀ x r, K x r → K' x r) : ax_i st K → ax_i st K' := by
  unfold ax_i
  rcases st with _ | ⟨v, r⟩
  · exact id
  · cases v <;> first | exact h _ _ | exact id
theorem ax_l.mm {st : List Value} {K K' : Int64 → List Value → Prop} (h : ∀ x r, K x r → K' x r) : ax_l st K → ax_l st K' := by
  unfold ax_l
  rcases st with _ | ⟨v, r⟩
  · exact id
  · cases v <;> first | exact h _ _ | exact id
theorem ax_r.mm {st : List Value} {K K' : Nat → List Value → Prop} (h : ∀ x r, K x r → K' x r) : ax_r st K → ax_r st K' := by
  unfold ax_r
  rcases st with _ | ⟨v, r⟩
  · exact id
  · cases v <;> first | exact h _ _ | exact id
theorem ax_1.mm {st : List Value} {K K' : Value → List Value → Prop} (h : ∀ x r, K x r → K' x r) : ax_1 st K → ax_1 st K' := by
  unfold ax_1
  rcases st with _ | ⟨v, r⟩
  · exact id
  · exact ax_and (h _ _)
theorem ax_1'.mm {st : List Value} {K K' : Value → List Value → Prop} (h : ∀ x r, K x r → K' x r) : ax_1' st K → ax_1' st K' := by
  unfold ax_1'
  rcases st with _ | ⟨v, r⟩
  · exact id
  · exact h _ _
theorem ax_ld.mm {ls : List (Option Value)} {i : Nat} {K K' : Value → Prop} (h : ∀ x, K x → K' x) : ax_ld ls i K → ax_ld ls i K' := by
  unfold ax_ld
  rcases ls[i]? with _ | ⟨_ | v⟩
  · exact id
  · exact id
  · exact h _
theorem ax_vi.mm {v : Value} {K K' : Int32 → Prop} (h : ∀ x, K x → K' x) : ax_vi v K → ax_vi v K' := by
  unfold ax_vi
  cases v <;> first | exact h _ | exact id
theorem ax_vl.mm {v : Value} {K K' : Int64 → Prop} (h : ∀ x, K x → K' x) : ax_vl v K → ax_vl v K' := by
  unfold ax_vl
  cases v <;> first | exact h _ | exact id
theorem ax_t.mm {pc : Nat} {off : Int} {K K' : Nat → Prop} (h : ∀ x, K x → K' x) : ax_t pc off K → ax_t pc off K' := ax_and (h _)
theorem ax_br.mm {c A B A' B' : Prop} (h : A → A') (h' : B → B') : ax_br c A B → ax_br c A' B' := fun q => ⟨fun z => h (q.1 z), fun z => h' (q.2 z)⟩
theorem ax_op.mm {α : Type} {o : Option α} {K K' : α → Prop} (h : ∀ x, K x → K' x) : ax_op o K → ax_op o K' := by
  unfold ax_op
  cases o with
  | none => exact id
  | some a => exact h a
theorem ax_sl.mm {α β : Type} {q : α ⊕ β} {K K' : α → Prop} (h : ∀ x, K x → K' x) : ax_sl q K → ax_sl q K' := by
  unfold ax_sl
  cases q with
  | inl a => exact h a
  | inr a => exact id
theorem ax_sr.mm {α β : Type} {q : α ⊕ β} {K K' : β → Prop} (h : ∀ x, K x → K' x) : ax_sr q K → ax_sr q K' := by
  unfold ax_sr
  cases q with
  | inl a => exact id
  | inr a => exact h a
theorem ax_sm.mm {α β : Type} {q : α ⊕ β} {K K' : α → Prop} {J J' : β → Prop} (h : ∀ x, K x → K' x) (h' : ∀ x, J x → J' x) : ax_sm q K J → ax_sm q K' J' := by
  unfold ax_sm
  cases q with
  | inl a => exact h a
  | inr a => exact h' a
theorem ax_sc.mm {st : List Value} {K K' : List Value → Prop} {J J' : Nat → List Value → Prop} (h : ∀ r, K r → K' r) (h' : ∀ x r, J x r → J' x r) : ax_sc st K J → ax_sc st K' J' := by
  unfold ax_sc
  rcases st with _ | ⟨v, r⟩
  · exact id
  · rcases v with _ | _ | _ | _ | _ | a | _ | z
    all_goals first | exact id | exact h' _ _ | exact h _ | skip
theorem ax_nu.mm {st : List Value} {K K' J J' : List Value → Prop} (h : ∀ r, K r → K' r) (h' : ∀ r, J r → J' r) : ax_nu st K J → ax_nu st K' J' := by
  unfold ax_nu
  rcases st with _ | ⟨v, r⟩
  · exact id
  · cases v <;> first | exact id | exact h _ | exact h' _
theorem ax_gf.mm {h : ax_H} {a ci kf : Nat} {K K' : Value → Prop} (hk : ∀ v, K v → K' v) : ax_gf h a ci kf K → ax_gf h a ci kf K' := by
  unfold ax_gf
  rcases h.2 a with _ | ⟨_ | ⟨c', fs⟩⟩
  · exact id
  · exact id
  · refine ax_and ?_
    cases fs[kf]? with
    | none => exact id
    | some v => exact hk v
theorem ax_pf.mm {h : ax_H} {a ci kf : Nat} {v : Value} {K K' : ax_H → Prop} (hk : ∀ v, K v → K' v) : ax_pf h a ci kf v K → ax_pf h a ci kf v K' := by
  unfold ax_pf
  rcases h.2 a with _ | ⟨_ | ⟨c', fs⟩⟩
  · exact id
  · exact id
  · exact ax_and (ax_and (hk _))
theorem ax_ga.mm {h : ax_H} {a : Nat} {ty : FieldType} {i : Int32} {K K' : Int32 → Prop} (hk : ∀ v, K v → K' v) : ax_ga h a ty i K → ax_ga h a ty i K' := by
  unfold ax_ga
  rcases h.2 a with _ | ⟨⟨t, n, (f | f)⟩ | _⟩
  · exact id
  · exact ax_and (ax_and (hk _))
  · exact id
  · exact id
theorem ax_gl.mm {h : ax_H} {a : Nat} {i : Int32} {K K' : Int64 → Prop} (hk : ∀ v, K v → K' v) : ax_gl h a i K → ax_gl h a i K' := by
  unfold ax_gl
  rcases h.2 a with _ | ⟨⟨t, n, (f | (f | f))⟩ | _⟩
  · exact id
  · exact id
  · exact ax_and (ax_and (hk _))
  · exact id
  · exact id
theorem ax_gq.mm {h : ax_H} {a : Nat} {i : Int32} {K K' : Option Nat → Prop} (hk : ∀ v, K v → K' v) : ax_gq h a i K → ax_gq h a i K' := by
  unfold ax_gq
  rcases h.2 a with _ | ⟨⟨t, n, (f | (f | (f | (f | f))))⟩ | _⟩
  · exact id
  · exact id
  · exact id
  · exact id
  · exact id
  · exact ax_and (ax_and (hk _))
  · exact id
theorem ax_pa.mm {h : ax_H} {a : Nat} {ty : FieldType} {i x : Int32} {K K' : ax_H → Prop} (hk : ∀ v, K v → K' v) : ax_pa h a ty i x K → ax_pa h a ty i x K' := by
  unfold ax_pa
  rcases h.2 a with _ | ⟨⟨t, n, (f | f)⟩ | _⟩
  · exact id
  · exact ax_and (ax_and (hk _))
  · exact id
  · exact id
theorem ax_pl.mm {h : ax_H} {a : Nat} {i : Int32} {x : Int64} {K K' : ax_H → Prop} (hk : ∀ v, K v → K' v) : ax_pl h a i x K → ax_pl h a i x K' := by
  unfold ax_pl
  rcases h.2 a with _ | ⟨⟨t, n, (f | (f | f))⟩ | _⟩
  · exact id
  · exact id
  · exact ax_and (ax_and (hk _))
  · exact id
  · exact id
theorem ax_pq.mm {cl : List vw_C} {h : ax_H} {a v : Nat} {i : Int32} {K K' : ax_H → Prop} (hk : ∀ v, K v → K' v) : ax_pq cl h a i v K → ax_pq cl h a i v K' := by
  unfold ax_pq
  rcases h.2 a with _ | ⟨⟨t, n, (f | (f | (f | (f | f))))⟩ | _⟩ <;> rcases h.2 v with _ | ⟨_ | ⟨c', fs⟩⟩
  all_goals first | exact id | exact ax_and (ax_and (hk _))
theorem ax_al.mm {h : ax_H} {a : Nat} {K K' : Nat → Prop} (hk : ∀ v, K v → K' v) : ax_al h a K → ax_al h a K' := by
  unfold ax_al
  rcases h.2 a with _ | ⟨⟨t, n, f⟩ | _⟩
  · exact id
  · exact hk _
  · exact id
theorem ax_tk.mm {np : Nat} {st : List Value} {K K' : List Value → List Value → Prop} (hk : ∀ a r, K a r → K' a r) : ax_tk np st K → ax_tk np st K' := ax_and (hk _ _)
theorem ax_cp.mm {h : ax_H} {st : List Value} {K K' : List Value → ax_H → Prop} (hk : ∀ a r, K a r → K' a r) : ax_cp h st K → ax_cp h st K' := by
  intro q
  unfold ax_cp at q ⊢
  split at q
  · split at q
    · rename_i e1 e2
      (try simp only [e1, e2])
      obtain ⟨q1, q2, q3, q4, q5, q6, q7, q8, q9, q10⟩ := q
      exact ⟨q1, q2, q3, q4, q5, q6, q7, q8, q9, hk _ _ q10⟩
    · exact q.elim
  · exact q.elim
theorem ax_prim.mm {d : Nat} {h : ax_H} {y : Nat} {st : List Value} {K K' : List Value → ax_H → Prop} (hk : ∀ a r, K a r → K' a r) : ax_prim d h y st K → ax_prim d h y st K' := by
  intro q
  unfold ax_prim at q ⊢
  split at q
  · exact ax_r.mm (fun _ _ => ax_and (hk _ _)) q
  · exact ax_i.mm (fun _ _ => ax_i.mm fun _ _ => ax_and (hk _ _)) q
  · exact ax_i.mm (fun _ _ => ax_i.mm fun _ _ => ax_and (hk _ _)) q
  · refine ax_i.mm (fun _ r => ?_) q
    intro z
    split at z
    · exact ⟨z.1, z.2.1, hk _ _ z.2.2⟩
    · exact z.elim
  · exact ax_cp.mm hk q
  · exact q.elim
section AXM
variable {cl : List vw_C} {L : Nat} {xs : Nat → Int32} {tb : ax_Tb} {d : Nat}
theorem ax_ins.mm {co : Nat} {ini : Bool} {rt : Option FieldType} {mc ms : Nat} {M : ax_MT} {Q Q' : ax_Q} {P PC P' PC' : ax_P} {pc : Nat} {ls : List (Option Value)} {st : List Value} {k n : Nat} {h : ax_H} (i : Instr)
    (hM : ∀ y a h (Q Q' : ax_Q), (∀ v h, Q v h → Q' v h) → M y a h Q → M y a h Q') (hQ : ∀ v h, Q v h → Q' v h) (hP : ∀ pc ls st k n h, P pc ls st k n h → P' pc ls st k n h) (hC : ∀ pc ls st k n h, PC pc ls st k n h → PC' pc ls st k n h) :
    ax_ins cl L xs tb d co ini rt mc ms M Q P PC pc ls st k n h i → ax_ins cl L xs tb d co ini rt mc ms M Q' P' PC' pc ls st k n h i := by
  cases i
  all_goals first
    | exact id
    | (dsimp only [ax_ins]
       repeat' (first
         | exact hP _ _ _ _ _ _
         | exact hC _ _ _ _ _ _
         | exact hQ _ _
         | refine hM _ _ _ _ _ fun _ _ => ?_
         | refine ax_i.mm fun _ _ => ?_
         | refine ax_l.mm fun _ _ => ?_
         | refine ax_r.mm fun _ _ => ?_
         | refine ax_1.mm fun _ _ => ?_
         | refine ax_1'.mm fun _ _ => ?_
         | refine ax_ld.mm fun _ => ?_
         | refine ax_vi.mm fun _ => ?_
         | refine ax_vl.mm fun _ => ?_
         | refine ax_t.mm fun _ => ?_
         | refine ax_br.mm ?_ ?_
         | refine ax_op.mm fun _ => ?_
         | refine ax_sl.mm fun _ => ?_
         | refine ax_sr.mm fun _ => ?_
         | refine ax_sm.mm (fun _ => ?_) fun _ => ?_
         | refine ax_sc.mm (fun _ => ?_) fun _ _ => ?_
         | refine ax_nu.mm (fun _ => ?_) fun _ => ?_
         | refine ax_gf.mm fun _ => ?_
         | refine ax_pf.mm fun _ => ?_
         | refine ax_ga.mm fun _ => ?_
         | refine ax_gl.mm fun _ => ?_
         | refine ax_gq.mm fun _ => ?_
         | refine ax_pa.mm fun _ => ?_
         | refine ax_pl.mm fun _ => ?_
         | refine ax_pq.mm fun _ => ?_
         | refine ax_al.mm fun _ => ?_
         | refine ax_tk.mm fun _ _ => ?_
         | refine ax_prim.mm fun _ _ => ?_
         | refine ax_and ?_))
theorem ax_step.mm {I : ax_MI} {M : ax_MT} {Q Q' : ax_Q} {P PC P' PC' : ax_P} {pc : Nat} {ls : List (Option Value)} {st : List Value} {k n : Nat} {h : ax_H}
    (hM : ∀ y a h (Q Q' : ax_Q), (∀ v h, Q v h → Q' v h) → M y a h Q → M y a h Q') (hQ : ∀ v h, Q v h → Q' v h) (hP : ∀ pc ls st k n h, P pc ls st k n h → P' pc ls st k n h) (hC : ∀ pc ls st k n h, PC pc ls st k n h → PC' pc ls st k n h) :
    ax_step cl L xs tb d I M Q P PC pc ls st k n h → ax_step cl L xs tb d I M Q' P' PC' pc ls st k n h := by
  unfold ax_step
  cases decode I.1 pc with
  | error e => exact id
  | ok q => exact ax_and (ax_ins.mm q.1 hM hQ hP hC)
theorem ax_W.mono {I : ax_MI} {M : ax_MT} {Q Q' : ax_Q} {pc : Nat} {ls : List (Option Value)} {st : List Value} {k n : Nat} {h : ax_H}
    (hM : ∀ y a h (Q Q' : ax_Q), (∀ v h, Q v h → Q' v h) → M y a h Q → M y a h Q') (hQ : ∀ v h, Q v h → Q' v h) (hw : ax_W cl L xs tb d I M Q pc ls st k n h) : ax_W cl L xs tb d I M Q' pc ls st k n h := by
  intro P hP
  exact hw P fun pc ls st k n h q => hP _ _ _ _ _ _ (ax_step.mm hM hQ (fun _ _ _ _ _ _ z => z) (fun _ _ _ _ _ _ z => z) q)
theorem ax_M.mono {mt : Nat → Option ax_MI} : ∀ (d y : Nat) (a : List Value) (h : ax_H) (Q Q' : ax_Q), (∀ v h, Q v h → Q' v h) → ax_M cl L xs tb mt d y a h Q → ax_M cl L xs tb mt d y a h Q' := by
  intro d
  induction d with
  | zero => intro y a h Q Q' _ q; exact q
  | succ d ih =>
    intro y a h Q Q' hQ q
    exact ax_op.mm (fun I => ax_and (ax_W.mono ih hQ)) q
theorem ax_W.st {mt : Nat → Option ax_MI} {d' : Nat} {I : ax_MI} {Q : ax_Q} {pc : Nat} {ls : List (Option Value)} {st : List Value} {k n : Nat} {h : ax_H}
    (hs : ax_step cl L xs tb d I (ax_M cl L xs tb mt d') Q (ax_W cl L xs tb d I (ax_M cl L xs tb mt d') Q) (ax_W cl L xs tb d I (ax_M cl L xs tb mt d') Q) pc ls st k n h) : ax_W cl L xs tb d I (ax_M cl L xs tb mt d') Q pc ls st k n h := by
  intro P hP
  exact hP _ _ _ _ _ _ (ax_step.mm (ax_M.mono d') (fun _ _ z => z) (fun _ _ _ _ _ _ z => z P hP) (fun _ _ _ _ _ _ z => z P hP) hs)
theorem ax_W.go {mt : Nat → Option ax_MI} {d' : Nat} {I : ax_MI} {Q : ax_Q} (S : List Nat) : ∀ (j : Nat) {pc : Nat} {ls : List (Option Value)} {st : List Value} {k n : Nat} {h : ax_H},
    ax_go cl L xs tb d I (ax_M cl L xs tb mt d') Q S (ax_W cl L xs tb d I (ax_M cl L xs tb mt d') Q) j pc ls st k n h → ax_W cl L xs tb d I (ax_M cl L xs tb mt d') Q pc ls st k n h := by
  intro j
  induction j with
  | zero => intro pc ls st k n h q; exact q
  | succ j ih =>
    intro pc ls st k n h q
    unfold ax_go at q
    split at q
    · exact q
    · exact ax_W.st (ax_step.mm (ax_M.mono d') (fun _ _ z => z) (fun _ _ _ _ _ _ z => ih z) (fun _ _ _ _ _ _ z => z) q)
/-- the first step is made in any case -/
theorem ax_W.run {mt : Nat → Option ax_MI} {d' : Nat} {I : ax_MI} {Q : ax_Q} (S : List Nat) (j : Nat) {pc : Nat} {ls : List (Option Value)} {st : List Value} {k n : Nat} {h : ax_H}
    (q : ax_step cl L xs tb d I (ax_M cl L xs tb mt d') Q (ax_go cl L xs tb d I (ax_M cl L xs tb mt d') Q S (ax_W cl L xs tb d I (ax_M cl L xs tb mt d') Q) j) (ax_W cl L xs tb d I (ax_M cl L xs tb mt d') Q) pc ls st k n h) : ax_W cl L xs tb d I (ax_M cl L xs tb mt d') Q pc ls st k n h :=
  ax_W.st (ax_step.mm (ax_M.mono d') (fun _ _ z => z) (fun _ _ _ _ _ _ z => ax_W.go S j z) (fun _ _ _ _ _ _ z => z) q)
end AXM
end
section
/-! cells by number and the heap's cells -/
def ax_v (ad rc : Nat → Nat) : Value → Value
  | .ref i => .ref (ad i)
  | .retAddr i => .ref (rc i)
  | v => v
def ax_e (ad rc : Nat → Nat) (cT : FieldType → ClassId) (e : ax_E) : va_E := match e with
  | .inl (t, n, .inl f) => .inl (cT t, n, .inl f)
  | .inl (t, n, .inr (.inl f)) => .inl (cT t, n, .inr (.inl f))
  | .inl (t, n, .inr (.inr (.inl f))) => .inl (cT t, n, .inr (.inr (.inl f)))
  | .inl (t, n, .inr (.inr (.inr (.inl f)))) => .inl (cT t, n, .inr (.inr (.inr (.inl f))))
  | .inl (t, n, .inr (.inr (.inr (.inr f)))) => .inl (cT t, n, .inr (.inr (.inr (.inr (fun j => (f j).map ad)))))
  | .inr (c, fs) => .inr (c, fs.map (ax_v ad rc))
def ax_w (ad rc : Nat → Nat) (cT : FieldType → ClassId) (h : ax_H) : va_W := (List.range h.1).map fun i => (ad i, ax_e ad rc cT ((h.2 i).getD (.inr (0, []))))
def ax_vw (n : Nat) (v : Value) : Prop := ∀ i, v = .ref i → i < n
def ax_ew (n : Nat) (e : ax_E) : Prop := match e with
  | .inl (_, _, .inr (.inr (.inr (.inr f)))) => ∀ k j, f k = some j → j < n
  | .inl _ => True
  | .inr (_, fs) => ∀ v ∈ fs, ax_vw n v
def ax_hw (h : ax_H) : Prop := ∀ i, (i < h.1 → ∃ e, h.2 i = some e) ∧ ∀ e, h.2 i = some e → i < h.1 ∧ ax_ew h.1 e
theorem ax_v_cat (ad rc : Nat → Nat) (v : Value) : (ax_v ad rc v).category = v.category := by cases v <;> rfl
theorem ax_v_sum (ad rc : Nat → Nat) (st : List Value) : ((st.map (ax_v ad rc)).map fun v => v.category) = st.map fun v => v.category := by
  rw [List.map_map]
  exact List.map_congr_left fun v _ => ax_v_cat ad rc v
theorem ax_c1_cat {v : Value} (h : ax_c1 v = true) : v.category = 1 := by cases v <;> first | rfl | (simp [ax_c1] at h)
theorem ax_c1_cat2 {v : Value} (h : ¬ ax_c1 v = true) : v.category = 2 := by cases v <;> first | rfl | (simp [ax_c1] at h)
theorem ax_vw_int {n : Nat} {x : Int32} : ax_vw n (.int x) := fun _ h => by cases h
theorem ax_vw_long {n : Nat} {x : Int64} : ax_vw n (.long x) := fun _ h => by cases h
theorem ax_vw_null {n : Nat} : ax_vw n .null := fun _ h => by cases h
theorem ax_vw_con {n i : Nat} : ax_vw n (.retAddr i) := fun _ h => by cases h
theorem ax_vw_ref {n i : Nat} (h : i < n) : ax_vw n (.ref i) := fun j e => by cases e; exact h
theorem ax_vw.le {n m : Nat} {v : Value} (h : ax_vw n v) (hn : n ≤ m) : ax_vw m v := fun i e => Nat.lt_of_lt_of_le (h i e) hn
theorem ax_v_ag {ad ad' rc : Nat → Nat} {n : Nat} {v : Value} (hag : ∀ i, i < n → ad' i = ad i) (hv : ax_vw n v) : ax_v ad' rc v = ax_v ad rc v := by
  cases v with
  | ref i => exact congrArg Value.ref (hag i (hv i rfl))
  | _ => rfl
theorem ax_vs_ag {ad ad' rc : Nat → Nat} {n : Nat} {st : List Value} (hag : ∀ i, i < n → ad' i = ad i) (hv : ∀ v ∈ st, ax_vw n v) : st.map (ax_v ad' rc) = st.map (ax_v ad rc) :=
  List.map_congr_left fun v h => ax_v_ag hag (hv v h)
theorem ax_e_ag {ad ad' rc : Nat → Nat} {cT : FieldType → ClassId} {n : Nat} {e : ax_E} (hag : ∀ i, i < n → ad' i = ad i) (he : ax_ew n e) : ax_e ad' rc cT e = ax_e ad rc cT e := by
  rcases e with ⟨t, m, (f | (f | (f | (f | f))))⟩ | ⟨c, fs⟩
  · rfl
  · rfl
  · rfl
  · rfl
  · have hf : (fun j => (f j).map ad') = fun j => (f j).map ad := by
      funext j
      cases hj : f j with
      | none => rfl
      | some k => exact congrArg some (hag k (he j k hj))
    show (Sum.inl (cT t, m, .inr (.inr (.inr (.inr (fun j => (f j).map ad'))))) : va_E) = _
    rw [hf]
    rfl
  · show (Sum.inr (c, fs.map (ax_v ad' rc)) : va_E) = _
    rw [ax_vs_ag hag he]
    rfl
theorem ax_ew.le {n m : Nat} {e : ax_E} (he : ax_ew n e) (hn : n ≤ m) : ax_ew m e := by
  rcases e with ⟨t, z, (f | (f | (f | (f | f))))⟩ | ⟨c, fs⟩
  · trivial
  · trivial
  · trivial
  · trivial
  · exact fun k j h => Nat.lt_of_lt_of_le (he k j h) hn
  · exact fun v h => (he v h).le hn
theorem ax_w_len (ad rc : Nat → Nat) (cT : FieldType → ClassId) (h : ax_H) : (ax_w ad rc cT h).length = h.1 := by simp [ax_w]
theorem ax_w_at {ad rc : Nat → Nat} {cT : FieldType → ClassId} {h : ax_H} {i : Nat} {e : ax_E} (hw : ax_hw h) (he : h.2 i = some e) : (ax_w ad rc cT h)[i]? = some (ad i, ax_e ad rc cT e) := by
  have hi := ((hw i).2 e he).1
  rw [ax_w, List.getElem?_map, List.getElem?_range hi]
  simp [he]
theorem ax_w_set {ad rc : Nat → Nat} {cT : FieldType → ClassId} {h : ax_H} {i : Nat} {e0 e : ax_E} (hw : ax_hw h) (he : h.2 i = some e0) : (ax_w ad rc cT h).set i (ad i, ax_e ad rc cT e) = ax_w ad rc cT (ax_up h i e) := by
  have hi := ((hw i).2 e0 he).1
  apply List.ext_getElem?
  intro j
  by_cases hj : j < h.1
  · rw [List.getElem?_set]
    by_cases e' : i = j
    · subst e'
      rw [if_pos rfl, if_pos (by rw [ax_w_len]; exact hi), ax_w, List.getElem?_map]
      show _ = ((List.range h.1)[i]?).map _
      rw [List.getElem?_range hi]
      simp [ax_up]
    · have e'' : ¬ j = i := fun z => e' z.symm
      rw [if_neg e', ax_w, ax_w, List.getElem?_map, List.getElem?_map]
      show ((List.range h.1)[j]?).map _ = ((List.range h.1)[j]?).map _
      rw [List.getElem?_range hj]
      simp [ax_up, e'']
  · rw [List.getElem?_eq_none (by rw [List.length_set, ax_w_len]; omega), List.getElem?_eq_none (by rw [ax_w_len]; show h.1 ≤ j; omega)]
theorem ax_up_hw {h : ax_H} {i : Nat} {e0 e : ax_E} (hw : ax_hw h) (he : h.2 i = some e0) (hn : ax_ew h.1 e) : ax_hw (ax_up h i e) := by
  have hi := ((hw i).2 e0 he).1
  intro j
  by_cases hj : j = i
  · subst hj
    refine ⟨fun _ => ⟨e, by simp [ax_up]⟩, fun e' h' => ?_⟩
    have : e = e' := by simpa [ax_up] using h'
    subst this
    exact ⟨hi, hn⟩
  · have q : (ax_up h i e).2 j = h.2 j := by simp [ax_up, hj]
    rw [q]
    exact hw j
theorem ax_w_nw {ad rc : Nat → Nat} {cT : FieldType → ClassId} {h : ax_H} {e : ax_E} {q : Nat} (hw : ax_hw h) : ax_w ad rc cT h ++ [(q, ax_e (fun i => if i = h.1 then q else ad i) rc cT e)] = ax_w (fun i => if i = h.1 then q else ad i) rc cT (ax_nw h e) := by
  have hr : (ax_nw h e).1 = h.1 + 1 := rfl
  unfold ax_w
  rw [hr, List.range_succ, List.map_append]
  congr 1
  · refine List.map_congr_left fun i hi => ?_
    have hi : i < h.1 := List.mem_range.mp hi
    have hne : ¬ i = h.1 := by omega
    obtain ⟨e', he'⟩ := (hw i).1 hi
    have hx := ((hw i).2 e' he').2
    have h1 : (ax_nw h e).2 i = some e' := by simp [ax_nw, hne, he']
    rw [h1, he']
    show (ad i, ax_e ad rc cT e') = ((if i = h.1 then q else ad i), ax_e _ rc cT e')
    rw [if_neg hne, ax_e_ag (ad := ad) (n := h.1) (fun j hj => if_neg (by omega)) hx]
  · simp [ax_nw]
theorem ax_nw_hw {h : ax_H} {e : ax_E} (hw : ax_hw h) (hn : ax_ew h.1 e) : ax_hw (ax_nw h e) := by
  intro j
  by_cases hj : j = h.1
  · subst hj
    refine ⟨fun _ => ⟨e, by simp [ax_nw]⟩, fun e' h' => ?_⟩
    have : e = e' := by simpa [ax_nw] using h'
    subst this
    exact ⟨Nat.lt_succ_self _, hn.le (Nat.le_succ _)⟩
  · have q : (ax_nw h e).2 j = h.2 j := by simp [ax_nw, hj]
    rw [q]
    refine ⟨fun z => (hw j).1 (by have : j < h.1 + 1 := z; omega), fun e' h' => ?_⟩
    obtain ⟨a, b⟩ := (hw j).2 e' h'
    exact ⟨Nat.lt_succ_of_lt a, b.le (Nat.le_succ _)⟩
/-! locals -/
def ax_lm (ad rc : Nat → Nat) (lsA : Array Slot) (ml : Nat) (ls : List (Option Value)) : Prop := lsA.size = ml ∧ ls.length = ml ∧ lv_wf lsA ∧ ∀ (i : Nat) (v : Value), ls[i]? = some (some v) → lsA[i]? = some (Slot.val (ax_v ad rc v))
def ax_lw (n : Nat) (ls : List (Option Value)) : Prop := ∀ (i : Nat) (v : Value), ls[i]? = some (some v) → ax_vw n v
def ax_as (ad rc : Nat → Nat) (ls : List (Option Value)) : List (Nat × Value) := (List.range ls.length).filterMap fun i => match ls[i]? with
  | some (some v) => some (i, ax_v ad rc v)
  | _ => none
theorem ax_as_in {ad rc : Nat → Nat} {ls : List (Option Value)} {i : Nat} {v : Value} (h : ls[i]? = some (some v)) : (i, ax_v ad rc v) ∈ ax_as ad rc ls := by
  refine List.mem_filterMap.mpr ⟨i, List.mem_range.mpr (List.getElem?_eq_some_iff.mp h).1, ?_⟩
  rw [h]
theorem ax_lm.has {ad rc : Nat → Nat} {lsA : Array Slot} {ml : Nat} {ls : List (Option Value)} (h : ax_lm ad rc lsA ml ls) : lv_has lsA ml (ax_as ad rc ls) := by
  refine ⟨h.1, h.2.2.1, fun q hq => ?_⟩
  obtain ⟨i, -, hi⟩ := List.mem_filterMap.mp hq
  split at hi
  · rename_i v hv
    cases hi
    exact h.2.2.2 i v hv
  · cases hi
theorem ax_s1_len (ls : List (Option Value)) (i : Nat) (v : Value) : (ax_s1 ls i v).length = ls.length := by
  cases i with
  | zero => simp [ax_s1]
  | succ j => simp [ax_s1]
theorem ax_kl_some {o : Option Value} {w : Value} (h : ax_kl o = some w) : o = some w ∧ w.category = 1 := by
  rcases o with _ | v
  · cases h
  · cases v <;> first | (cases h; exact ⟨rfl, rfl⟩) | (cases h; done)
theorem ax_s1_at {ls : List (Option Value)} {i j : Nat} {v w : Value} (h : (ax_s1 ls i v)[j]? = some (some w)) : (j = i ∧ w = v) ∨ (¬ j = i ∧ ls[j]? = some (some w) ∧ (j + 1 = i → w.category = 1)) := by
  by_cases hj : j = i
  · subst hj
    refine Or.inl ⟨rfl, ?_⟩
    cases j with
    | zero =>
      rw [ax_s1, List.getElem?_set] at h
      split at h
      · split at h
        · exact (Option.some.inj (Option.some.inj h)).symm
        · cases h
      · rename_i z; exact absurd rfl z
    | succ m =>
      rw [ax_s1, List.getElem?_set] at h
      split at h
      · split at h
        · exact (Option.some.inj (Option.some.inj h)).symm
        · cases h
      · rename_i z; exact absurd rfl z
  · refine Or.inr ⟨hj, ?_⟩
    cases i with
    | zero =>
      rw [ax_s1, List.getElem?_set, if_neg (fun z => hj z.symm)] at h
      exact ⟨h, fun z => by omega⟩
    | succ m =>
      rw [ax_s1, List.getElem?_set, if_neg (fun z => hj z.symm), List.getElem?_modify] at h
      by_cases hm : m = j
      · subst hm
        simp only [if_true] at h
        cases ho : ls[m]? with
        | none => rw [ho] at h; cases h
        | some o =>
          rw [ho] at h
          have h2 : ax_kl o = some w := Option.some.inj h
          obtain ⟨a, b⟩ := ax_kl_some h2
          exact ⟨by rw [a], fun _ => b⟩
      · have e : (ls[j]?).map (if m = j then ax_kl else id) = ls[j]? := by
          rw [if_neg hm]; simp
        first
          | (rw [if_neg hm] at h; simp at h; exact ⟨h, fun z => by omega⟩)
          | (simp [hm] at h; exact ⟨h, fun z => by omega⟩)
theorem ax_lm.st1 {ad rc : Nat → Nat} {lsA ls' : Array Slot} {ml : Nat} {ls : List (Option Value)} {i : Nat} {v : Value} (h : ax_lm ad rc lsA ml ls) (h' : lv_has ls' ml ((i, ax_v ad rc v) :: (ax_as ad rc ls).filter (fun q => !(q.1 == i) && !(q.1 + 1 == i && q.2.category == 2)))) : ax_lm ad rc ls' ml (ax_s1 ls i v) := by
  refine ⟨h'.1, by rw [ax_s1_len]; exact h.2.1, h'.2.1, fun j w hj => ?_⟩
  rcases ax_s1_at hj with ⟨rfl, rfl⟩ | ⟨h1, h2, h3⟩
  · exact h'.2.2 _ List.mem_cons_self
  · refine h'.2.2 (j, ax_v ad rc w) (List.mem_cons_of_mem _ (List.mem_filter.mpr ⟨ax_as_in h2, ?_⟩))
    by_cases hc : j + 1 = i
    · have := h3 hc
      simp [h1, ax_v_cat, this]
    · simp [h1, hc]
theorem ax_lw.st1 {n : Nat} {ls : List (Option Value)} {i : Nat} {v : Value} (h : ax_lw n ls) (hv : ax_vw n v) : ax_lw n (ax_s1 ls i v) := by
  intro j w hj
  rcases ax_s1_at hj with ⟨rfl, rfl⟩ | ⟨h1, h2, h3⟩
  · exact hv
  · exact h j w h2
theorem ax_s2_at {ls : List (Option Value)} {i j : Nat} {v w : Value} (h : (ax_s2 ls i v)[j]? = some (some w)) : (j = i ∧ w = v) ∨ (¬ j = i ∧ ¬ j = i + 1 ∧ ls[j]? = some (some w) ∧ (j + 1 = i → w.category = 1)) := by
  unfold ax_s2 at h
  rw [List.getElem?_set] at h
  split at h
  · split at h
    · cases h
    · cases h
  · rename_i hne
    rcases ax_s1_at h with h | ⟨h1, h2, h3⟩
    · exact Or.inl h
    · exact Or.inr ⟨h1, fun z => hne z.symm, h2, h3⟩
theorem ax_lm.st2 {ad rc : Nat → Nat} {lsA ls' : Array Slot} {ml : Nat} {ls : List (Option Value)} {i : Nat} {v : Value} (h : ax_lm ad rc lsA ml ls) (h' : lv_has ls' ml ((i, ax_v ad rc v) :: (ax_as ad rc ls).filter (fun q => !(q.1 == i) && (!(q.1 == i + 1) && !(q.1 + 1 == i && q.2.category == 2))))) : ax_lm ad rc ls' ml (ax_s2 ls i v) := by
  refine ⟨h'.1, by unfold ax_s2; rw [List.length_set, ax_s1_len]; exact h.2.1, h'.2.1, fun j w hj => ?_⟩
  rcases ax_s2_at hj with ⟨rfl, rfl⟩ | ⟨h1, h1', h2, h3⟩
  · exact h'.2.2 _ List.mem_cons_self
  · refine h'.2.2 (j, ax_v ad rc w) (List.mem_cons_of_mem _ (List.mem_filter.mpr ⟨ax_as_in h2, ?_⟩))
    by_cases hc : j + 1 = i
    · have := h3 hc
      simp [h1, h1', ax_v_cat, this]
    · simp [h1, h1', hc]
theorem ax_lw.st2 {n : Nat} {ls : List (Option Value)} {i : Nat} {v : Value} (h : ax_lw n ls) (hv : ax_vw n v) : ax_lw n (ax_s2 ls i v) := by
  intro j w hj
  rcases ax_s2_at hj with ⟨rfl, rfl⟩ | ⟨h1, h1', h2, h3⟩
  · exact hv
  · exact h j w h2
theorem ax_lm.ag {ad ad' rc : Nat → Nat} {lsA : Array Slot} {ml n : Nat} {ls : List (Option Value)} (h : ax_lm ad rc lsA ml ls) (hw : ax_lw n ls) (hag : ∀ i, i < n → ad' i = ad i) : ax_lm ad' rc lsA ml ls :=
  ⟨h.1, h.2.1, h.2.2.1, fun i v hv => by rw [ax_v_ag hag (hw i v hv)]; exact h.2.2.2 i v hv⟩
theorem ax_lw.le {n m : Nat} {ls : List (Option Value)} (h : ax_lw n ls) (hn : n ≤ m) : ax_lw m ls := fun i v hv => (h i v hv).le hn
/-! the locals with which a method begins -/
theorem ax_el_sl (ad rc : Nat → Nat) (args : List Value) : (lg_sl (args.map (ax_v ad rc))).length = (ax_el args).length := by
  induction args with
  | nil => rfl
  | cons v vs ih =>
    have e : lg_sl ((v :: vs).map (ax_v ad rc)) = (if (ax_v ad rc v).category = 2 then [Slot.val (ax_v ad rc v), .second] else [.val (ax_v ad rc v)]) ++ lg_sl (vs.map (ax_v ad rc)) := by simp [lg_sl]
    rw [e, List.length_append, ih, ax_v_cat]
    by_cases hc : ax_c1 v = true
    · rw [ax_c1_cat hc]
      simp [ax_el, hc]
      omega
    · rw [ax_c1_cat2 hc]
      simp [ax_el, hc]
      omega
theorem ax_el_at (ad rc : Nat → Nat) (args : List Value) : ∀ (b j : Nat) (w : Value), (ax_el args)[j]? = some (some w) → (b + j, ax_v ad rc w) ∈ lv_args b (args.map (ax_v ad rc)) ∧ w ∈ args := by
  induction args with
  | nil => intro b j w h; simp [ax_el] at h
  | cons v vs ih =>
    intro b j w h
    by_cases hc : ax_c1 v = true
    · have e : ax_el (v :: vs) = some v :: ax_el vs := by simp [ax_el, hc]
      rw [e] at h
      have e2 : lv_args b ((v :: vs).map (ax_v ad rc)) = (b, ax_v ad rc v) :: lv_args (b + 1) (vs.map (ax_v ad rc)) := by
        show (b, ax_v ad rc v) :: lv_args (if (ax_v ad rc v).category = 2 then b + 2 else b + 1) _ = _
        rw [ax_v_cat, ax_c1_cat hc]; rfl
      rw [e2]
      cases j with
      | zero =>
        have : v = w := by simpa using h
        subst this
        exact ⟨List.mem_cons_self, List.mem_cons_self⟩
      | succ j =>
        obtain ⟨a, c⟩ := ih (b + 1) j w (by simpa using h)
        exact ⟨List.mem_cons_of_mem _ (by rw [show b + (j + 1) = b + 1 + j by omega]; exact a), List.mem_cons_of_mem _ c⟩
    · have e : ax_el (v :: vs) = some v :: none :: ax_el vs := by simp [ax_el, hc]
      rw [e] at h
      have e2 : lv_args b ((v :: vs).map (ax_v ad rc)) = (b, ax_v ad rc v) :: lv_args (b + 2) (vs.map (ax_v ad rc)) := by
        show (b, ax_v ad rc v) :: lv_args (if (ax_v ad rc v).category = 2 then b + 2 else b + 1) _ = _
        rw [ax_v_cat, ax_c1_cat2 hc]; rfl
      rw [e2]
      rcases j with _ | _ | j
      · have : v = w := by simpa using h
        subst this
        exact ⟨List.mem_cons_self, List.mem_cons_self⟩
      · simp at h
      · obtain ⟨a, c⟩ := ih (b + 2) j w (by simpa using h)
        exact ⟨List.mem_cons_of_mem _ (by rw [show b + (j + 1 + 1) = b + 2 + j by omega]; exact a), List.mem_cons_of_mem _ c⟩
theorem ax_en_at {ml : Nat} {args : List Value} {j : Nat} {w : Value} (h : (ax_en ml args)[j]? = some (some w)) : (ax_el args)[j]? = some (some w) := by
  unfold ax_en at h
  by_cases hj : j < (ax_el args).length
  · rwa [List.getElem?_append_left hj] at h
  · rw [List.getElem?_append_right (by omega)] at h
    have := List.eq_of_mem_replicate (List.mem_of_getElem? h)
    cases this
theorem ax_en_lm (ad rc : Nat → Nat) {ml : Nat} {args : List Value} (h : (ax_el args).length ≤ ml) : ax_lm ad rc ((lg_sl (args.map (ax_v ad rc)) ++ List.replicate (ml - (lg_sl (args.map (ax_v ad rc))).length) Slot.unset).toArray) ml (ax_en ml args) := by
  have hl := lv_entry (args.map (ax_v ad rc)) (n := ml) (by rw [ax_el_sl]; exact h)
  refine ⟨hl.1, by simp [ax_en]; omega, hl.2.1, fun i v hv => ?_⟩
  have := (ax_el_at ad rc args 0 i v (ax_en_at hv)).1
  rw [Nat.zero_add] at this
  exact hl.2.2 _ this
theorem ax_en_lw {n ml : Nat} {args : List Value} (h : ∀ v ∈ args, ax_vw n v) : ax_lw n (ax_en ml args) := fun i v hv => h v (ax_el_at id id args 0 i v (ax_en_at hv)).2
end
section
/-! what a step's parts say -/
theorem ax_i_of {st : List Value} {K : Int32 → List Value → Prop} (h : ax_i st K) : ∃ x r, st = .int x :: r ∧ K x r := by
  unfold ax_i at h
  split at h
  · exact ⟨_, _, rfl, h⟩
  · exact h.elim
theorem ax_l_of {st : List Value} {K : Int64 → List Value → Prop} (h : ax_l st K) : ∃ x r, st = .long x :: r ∧ K x r := by
  unfold ax_l at h
  split at h
  · exact ⟨_, _, rfl, h⟩
  · exact h.elim
theorem ax_r_of {st : List Value} {K : Nat → List Value → Prop} (h : ax_r st K) : ∃ x r, st = .ref x :: r ∧ K x r := by
  unfold ax_r at h
  split at h
  · exact ⟨_, _, rfl, h⟩
  · exact h.elim
theorem ax_1_of {st : List Value} {K : Value → List Value → Prop} (h : ax_1 st K) : ∃ x r, st = x :: r ∧ ax_c1 x = true ∧ K x r := by
  unfold ax_1 at h
  split at h
  · exact ⟨_, _, rfl, h⟩
  · exact h.elim
theorem ax_1'_of {st : List Value} {K : Value → List Value → Prop} (h : ax_1' st K) : ∃ x r, st = x :: r ∧ K x r := by
  unfold ax_1' at h
  split at h
  · exact ⟨_, _, rfl, h⟩
  · exact h.elim
theorem ax_ld_of {ls : List (Option Value)} {i : Nat} {K : Value → Prop} (h : ax_ld ls i K) : ∃ v, ls[i]? = some (some v) ∧ K v := by
  unfold ax_ld at h
  split at h
  · rename_i v e; exact ⟨v, e, h⟩
  · exact h.elim
theorem ax_vi_of {v : Value} {K : Int32 → Prop} (h : ax_vi v K) : ∃ x, v = .int x ∧ K x := by
  unfold ax_vi at h
  split at h
  · exact ⟨_, rfl, h⟩
  · exact h.elim
theorem ax_vl_of {v : Value} {K : Int64 → Prop} (h : ax_vl v K) : ∃ x, v = .long x ∧ K x := by
  unfold ax_vl at h
  split at h
  · exact ⟨_, rfl, h⟩
  · exact h.elim
theorem ax_op_of {α : Type} {o : Option α} {K : α → Prop} (h : ax_op o K) : ∃ a, o = some a ∧ K a := by
  unfold ax_op at h
  split at h
  · exact ⟨_, rfl, h⟩
  · exact h.elim
theorem ax_sl_of {α β : Type} {q : α ⊕ β} {K : α → Prop} (h : ax_sl q K) : ∃ a, q = .inl a ∧ K a := by
  unfold ax_sl at h
  split at h
  · exact ⟨_, rfl, h⟩
  · exact h.elim
theorem ax_sr_of {α β : Type} {q : α ⊕ β} {K : β → Prop} (h : ax_sr q K) : ∃ a, q = .inr a ∧ K a := by
  unfold ax_sr at h
  split at h
  · exact h.elim
  · exact ⟨_, rfl, h⟩
theorem ax_sc_of {st : List Value} {K0 : List Value → Prop} {K : Nat → List Value → Prop} (h : ax_sc st K0 K) : (∃ r, st = .retAddr 0 :: r ∧ K0 r) ∨ ∃ a r, st = .ref a :: r ∧ K a r := by
  unfold ax_sc at h
  split at h
  · exact Or.inl ⟨_, rfl, h⟩
  · exact Or.inr ⟨_, _, rfl, h⟩
  · exact h.elim
theorem ax_nu_of {st : List Value} {K0 K : List Value → Prop} (h : ax_nu st K0 K) : (∃ r, st = .null :: r ∧ K0 r) ∨ ∃ a r, st = .ref a :: r ∧ K r := by
  unfold ax_nu at h
  split at h
  · exact Or.inl ⟨_, rfl, h⟩
  · exact Or.inr ⟨_, _, rfl, h⟩
  · exact h.elim
theorem ax_gf_of {h : ax_H} {a ci kf : Nat} {K : Value → Prop} (q : ax_gf h a ci kf K) : ∃ fs v, h.2 a = some (.inr (ci, fs)) ∧ fs[kf]? = some v ∧ K v := by
  unfold ax_gf at q
  split at q
  · rename_i c' fs e
    obtain ⟨rfl, q⟩ := q
    split at q
    · rename_i v e2; exact ⟨fs, v, e, e2, q⟩
    · exact q.elim
  · exact q.elim
theorem ax_pf_of {h : ax_H} {a ci kf : Nat} {v : Value} {K : ax_H → Prop} (q : ax_pf h a ci kf v K) : ∃ fs, h.2 a = some (.inr (ci, fs)) ∧ kf < fs.length ∧ K (ax_up h a (.inr (ci, fs.set kf v))) := by
  unfold ax_pf at q
  split at q
  · rename_i c' fs e
    obtain ⟨rfl, q⟩ := q
    exact ⟨fs, e, q⟩
  · exact q.elim
theorem ax_ga_of {h : ax_H} {a : Nat} {ty : FieldType} {i : Int32} {K : Int32 → Prop} (q : ax_ga h a ty i K) : ∃ n f, h.2 a = some (.inl (ty, n, .inl f)) ∧ vp_in i n ∧ K (f i.toNatClampNeg) := by
  unfold ax_ga at q
  split at q
  · rename_i t n f e
    obtain ⟨rfl, q⟩ := q
    exact ⟨n, f, e, q⟩
  · exact q.elim
theorem ax_gl_of {h : ax_H} {a : Nat} {i : Int32} {K : Int64 → Prop} (q : ax_gl h a i K) : ∃ n f, h.2 a = some (.inl (.long, n, .inr (.inl f))) ∧ vp_in i n ∧ K (f i.toNatClampNeg) := by
  unfold ax_gl at q
  split at q
  · rename_i t n f e
    obtain ⟨rfl, q⟩ := q
    exact ⟨n, f, e, q⟩
  · exact q.elim
theorem ax_gq_of {h : ax_H} {a : Nat} {i : Int32} {K : Option Nat → Prop} (q : ax_gq h a i K) : ∃ C n f, h.2 a = some (.inl (.object C, n, .inr (.inr (.inr (.inr f))))) ∧ vp_in i n ∧ K (f i.toNatClampNeg) := by
  unfold ax_gq at q
  split at q
  · rename_i t n f e
    obtain ⟨ht, q⟩ := q
    cases t with
    | object C => exact ⟨C, n, f, e, q⟩
    | _ => cases ht
  · exact q.elim
theorem ax_pa_of {h : ax_H} {a : Nat} {ty : FieldType} {i x : Int32} {K : ax_H → Prop} (q : ax_pa h a ty i x K) : ∃ n f, h.2 a = some (.inl (ty, n, .inl f)) ∧ vp_in i n ∧ K (ax_up h a (.inl (ty, n, .inl (upd f i.toNatClampNeg x)))) := by
  unfold ax_pa at q
  split at q
  · rename_i t n f e
    obtain ⟨rfl, q⟩ := q
    exact ⟨n, f, e, q⟩
  · exact q.elim
theorem ax_pl_of {h : ax_H} {a : Nat} {i : Int32} {x : Int64} {K : ax_H → Prop} (q : ax_pl h a i x K) : ∃ n f, h.2 a = some (.inl (.long, n, .inr (.inl f))) ∧ vp_in i n ∧ K (ax_up h a (.inl (.long, n, .inr (.inl (vp_updL f i.toNatClampNeg x))))) := by
  unfold ax_pl at q
  split at q
  · rename_i t n f e
    obtain ⟨rfl, q⟩ := q
    exact ⟨n, f, e, q⟩
  · exact q.elim
theorem ax_pq_of {cl : List vw_C} {h : ax_H} {a v : Nat} {i : Int32} {K : ax_H → Prop} (q : ax_pq cl h a i v K) : ∃ (r : vw_C) (n : Nat) (f : Nat → Option Nat) (ci : Nat) (vs : List Value), h.2 a = some (.inl (.object r.1, n, .inr (.inr (.inr (.inr f))))) ∧ h.2 v = some (.inr (ci, vs)) ∧ cl[ci]? = some r ∧ vp_in i n ∧ K (ax_up h a (.inl (.object r.1, n, .inr (.inr (.inr (.inr (va_up f i.toNatClampNeg (some v)))))))) := by
  unfold ax_pq at q
  split at q
  · rename_i t n f ci vs e1 e2
    obtain ⟨ht, q⟩ := q
    cases hr : cl[ci]? with
    | none => rw [hr] at ht; cases ht
    | some r =>
      rw [hr] at ht
      have ht : FieldType.object r.1 = t := Option.some.inj ht
      subst ht
      exact ⟨r, n, f, ci, vs, e1, e2, hr, q⟩
  · exact q.elim
theorem ax_al_of {h : ax_H} {a : Nat} {K : Nat → Prop} (q : ax_al h a K) : ∃ t n f, h.2 a = some (.inl (t, n, f)) ∧ K n := by
  unfold ax_al at q
  split at q
  · rename_i t n f e
    exact ⟨t, n, f, e, q⟩
  · exact q.elim
theorem ax_io_of {h : ax_H} {a ci : Nat} (q : ax_io h a ci) : ∃ fs, h.2 a = some (.inr (ci, fs)) := by
  unfold ax_io at q
  split at q
  · rename_i c' fs e
    subst q
    exact ⟨fs, e⟩
  · exact q.elim
theorem ax_cp_of {h : ax_H} {st : List Value} {K : List Value → ax_H → Prop} (q : ax_cp h st K) : ∃ (n dp : Int32) (a : Nat) (sp : Int32) (b : Nat) (r : List Value) (t1 : FieldType) (n0 : Nat) (f : Nat → Int32) (n1 : Nat) (g : Nat → Int32), st = .int n :: .int dp :: .ref a :: .int sp :: .ref b :: r ∧ h.2 b = some (.inl (t1, n0, .inl f)) ∧ h.2 a = some (.inl (t1, n1, .inl g)) ∧ refKind t1 = false ∧ ¬ sp < 0 ∧ ¬ dp < 0 ∧ ¬ n < 0 ∧ sp.toNatClampNeg + n.toNatClampNeg ≤ n0 ∧ dp.toNatClampNeg + n.toNatClampNeg ≤ n1 ∧ (∀ i, i < n.toNatClampNeg → fits t1 (.int (f (sp.toNatClampNeg + i))) = true) ∧ ax_w8 r ∧ K r (ax_up h a (.inl (t1, n1, .inl (va_cpy f g sp.toNatClampNeg dp.toNatClampNeg n.toNatClampNeg)))) := by
  unfold ax_cp at q
  split at q
  · rename_i n dp a sp b r
    split at q
    · rename_i t0 n0 f t1 n1 g e1 e2
      obtain ⟨rfl, q⟩ := q
      exact ⟨n, dp, a, sp, b, r, t0, n0, f, n1, g, rfl, e1, e2, q⟩
    · exact q.elim
  · exact q.elim
theorem ax_ft_n {ad rc : Nat → Nat} {ty : FieldType} {v : Value} (h : ax_ft ty v) : narrow ty (ax_v ad rc v) = ax_v ad rc v := by
  unfold ax_ft at h
  split at h
  all_goals first
    | rfl
    | (rcases h with rfl | rfl <;> rfl)
    | exact h.elim
theorem ax_ft_f {ad rc : Nat → Nat} {ty : FieldType} {v : Value} (h : ax_ft ty v) : fits ty (ax_v ad rc v) = true := by
  unfold ax_ft at h
  split at h
  all_goals first
    | rfl
    | (rcases h with rfl | rfl <;> rfl)
    | exact h.elim
theorem ax_e_arr (ad rc : Nat → Nat) (cT : FieldType → ClassId) (t : FieldType) (n : Nat) (f : (Nat → Int32) ⊕ (Nat → Int64) ⊕ (Nat → UInt32) ⊕ (Nat → UInt64) ⊕ (Nat → Option Nat)) : ∃ g, ax_e ad rc cT (.inl (t, n, f)) = .inl (cT t, n, g) := by
  rcases f with f | f | f | f | f
  · exact ⟨_, rfl⟩
  · exact ⟨_, rfl⟩
  · exact ⟨_, rfl⟩
  · exact ⟨_, rfl⟩
  · exact ⟨_, rfl⟩
/-! what the tables must say -/
def ax_ak (h : ax_H) : Prop := ∀ i t a, h.2 i = some (.inl (t, a)) → ax_kt t = true
def ax_nr : Value → Bool
  | .ref _ => false
  | .retAddr _ => false
  | _ => true
theorem ax_nr_v {ad rc : Nat → Nat} {v : Value} (h : ax_nr v = true) : ax_v ad rc v = v := by cases v <;> first | rfl | (simp [ax_nr] at h)
theorem ax_nr_vs {ad rc : Nat → Nat} {fs : List Value} (h : ∀ v ∈ fs, ax_nr v = true) : fs.map (ax_v ad rc) = fs := by
  have : fs.map (ax_v ad rc) = fs.map id := List.map_congr_left fun v hv => ax_nr_v (h v hv)
  rw [this, List.map_id]
theorem ax_nr_w {n : Nat} {v : Value} (h : ax_nr v = true) : ax_vw n v := fun i e => by subst e; simp [ax_nr] at h
theorem ax_ak_up {h : ax_H} {i : Nat} {e : ax_E} (hak : ax_ak h) (he : ∀ t a, e = .inl (t, a) → ax_kt t = true) : ax_ak (ax_up h i e) := by
  intro j t a hj
  by_cases q : j = i
  · subst q
    have : e = .inl (t, a) := by simpa [ax_up] using hj
    exact he t a this
  · exact hak j t a (by simpa [ax_up, q] using hj)
theorem ax_ak_nw {h : ax_H} {e : ax_E} (hak : ax_ak h) (he : ∀ t a, e = .inl (t, a) → ax_kt t = true) : ax_ak (ax_nw h e) := by
  intro j t a hj
  by_cases q : j = h.1
  · subst q
    have : e = .inl (t, a) := by simpa [ax_nw] using hj
    exact he t a this
  · exact hak j t a (by simpa [ax_nw, q] using hj)
theorem ax_zero_of {ty : FieldType} {n : Nat} {a : vp_A} (h : ax_zero ty n = some a) : ax_kt ty = true ∧ (ty = .int ∨ ty = .char ∨ ty = .boolean ∨ ty = .long) ∧ (∀ cA : ClassId, vp_cell cA a = arrV cA n (fun _ => defaultValue ty)) ∧ componentBytes ty ≤ 8 ∧ ∀ (rc : Nat → Nat) (cT : FieldType → ClassId) (ad : Nat → Nat), (.inl (cT ty, a) : va_E) = ax_e ad rc cT (.inl (ty, a)) := by
  unfold ax_zero at h
  split at h
  · cases h; exact ⟨rfl, Or.inl rfl, fun _ => rfl, by decide, fun _ _ _ => rfl⟩
  · cases h; exact ⟨rfl, Or.inr (Or.inl rfl), fun _ => rfl, by decide, fun _ _ _ => rfl⟩
  · cases h; exact ⟨rfl, Or.inr (Or.inr (Or.inl rfl)), fun _ => rfl, by decide, fun _ _ _ => rfl⟩
  · cases h; exact ⟨rfl, Or.inr (Or.inr (Or.inr rfl)), fun _ => rfl, by decide, fun _ _ _ => rfl⟩
  · cases h
theorem ax_zero_ew {ty : FieldType} {n m : Nat} {a : vp_A} (h : ax_zero ty n = some a) : ax_ew m (.inl (ty, a)) := by
  unfold ax_zero at h
  split at h
  · cases h; trivial
  · cases h; trivial
  · cases h; trivial
  · cases h; trivial
  · cases h
def ax_okF (cl : List vw_C) (Tb : List Cond) (cn : Nat → String) (tb : ax_Tb) : Prop := ∀ co idx q, tb.1 co idx = some q → ∃ (C : String) (T : u_T) (N : Nat) (t0 : Nat → FieldType), cl[q.1]? = some (C, T, N) ∧ q.2.1 < N ∧ (∀ w ∈ u_ws C T N, w ∈ Tb) ∧ (∀ k, k < N → parseFieldDescriptor (T k).2.2.1 = some (t0 k)) ∧ (∀ a, a < N → ∀ b, b < N → a ≠ b → (T a).2.1 ≠ (T b).2.1) ∧ Cond.fieldLink (cn co) idx (T q.2.1).1 (T q.2.1).2.1 (T q.2.1).2.2.1 ∈ Tb ∧ (T q.2.1).2.2.2 = q.2.2.2 ∧ t0 q.2.1 = q.2.2.1 ∧ (q.2.2.2 = true → (T q.2.1).1 = cn q.1)
def ax_okN (cl : List vw_C) (Tb : List Cond) (cn : Nat → String) (tb : ax_Tb) (G : State → Prop) : Prop := (∀ co idx ci fs C, tb.2.2.2 co idx = some (ci, fs, C) → ∃ (T : u_T) (N : Nat) (t0 : Nat → FieldType), cl[ci]? = some (C, T, N) ∧ (∀ w ∈ u_ws C T N, w ∈ Tb) ∧ (∀ k, k < N → parseFieldDescriptor (T k).2.2.1 = some (t0 k)) ∧ fs.length = N ∧ (∀ j, j < N → defaultValue (t0 j) = vp_V fs j) ∧ (∀ v ∈ fs, ax_nr v = true) ∧ Cond.classLink (cn co) idx C ∈ Tb ∧ Cond.instantiable C N ∈ Tb ∧ Cond.initialized C ∈ Tb) ∧ ∀ s, G s → va_AO "NoteSheet$Cell" s
def ax_okK (Tb : List Cond) (cn : Nat → String) (tb : ax_Tb) (rc : Nat → Nat) (G : State → Prop) : Prop := ∀ co idx, (∀ x, tb.2.2.1 co idx = some (.int x) → Cond.constant (cn co) idx x ∈ Tb) ∧ (∀ x, tb.2.2.1 co idx = some (.long x) → Cond.constantLong (cn co) idx x ∈ Tb) ∧ (tb.2.2.1 co idx = some (.retAddr 1) → ∃ tx, ∀ s, G s → vk_R (cn co) idx tx (rc 1) s)
def ax_okP (Tb : List Cond) (own : String) (idx q : Nat) : Prop := match q with
  | 0 => Cond.methodLink own idx Lib.objectInit ∈ Tb ∧ Cond.instanceMethod Lib.objectInit ∈ Tb ∧ Cond.code Lib.objectInit ⟨#[0xb1]⟩ 1 none ∈ Tb
  | 1 => Cond.methodLink own idx Lib.Math.max.name ∈ Tb ∧ Cond.static Lib.Math.max.name ∈ Tb ∧ Cond.initialized "java/lang/Math" ∈ Tb ∧ Cond.code Lib.Math.max.name Lib.Math.max.code 2 (some .int) ∈ Tb
  | 2 => Cond.methodLink own idx Lib.Math.min.name ∈ Tb ∧ Cond.static Lib.Math.min.name ∈ Tb ∧ Cond.initialized "java/lang/Math" ∈ Tb ∧ Cond.code Lib.Math.min.name Lib.Math.min.code 2 (some .int) ∈ Tb
  | 4 => True
  | 5 => Cond.methodLink own idx arraycopyName ∈ Tb ∧ Cond.native arraycopyName ∈ Tb ∧ Cond.static arraycopyName ∈ Tb ∧ Cond.initialized "java/lang/System" ∈ Tb
  | _ => False
def ax_okC (Tb : List Cond) (cn : Nat → String) (nm : Nat → MethodName) (tb : ax_Tb) (mt : Nat → Option ax_MI) : Prop := (∀ co idx y np mc ms ci kd, tb.2.1 co idx = some (.inl y, np, mc, ms, ci, kd) → ∃ I : ax_MI, mt y = some I ∧ I.2.2.2.2.2.1 = mc ∧ I.2.2.2.2.2.2 = ms ∧ I.2.1 = ci ∧ (nm y).cls = cn ci ∧ Cond.code (nm y) I.1 I.2.2.2.1 I.2.2.2.2.1 ∈ Tb ∧ Cond.initialized (nm y).cls ∈ Tb ∧ Cond.methodLink (cn co) idx (nm y) ∈ Tb ∧ ((nm y).cls ≠ "java/lang/invoke/MethodHandle" ∧ (nm y).cls ≠ "java/lang/invoke/VarHandle" ∧ (parseMethodDescriptor (nm y).desc).map (fun d => d.parameters.length) = some np) ∧ (kd = 0 → Cond.static (nm y) ∈ Tb) ∧ (kd = 1 → Cond.instanceMethod (nm y) ∈ Tb ∧ Cond.selects (cn ci) (nm y) (nm y) ∈ Tb) ∧ (kd = 2 → (nm y).name = "<init>" ∧ I.2.2.2.2.1 = none ∧ Cond.instanceMethod (nm y) ∈ Tb)) ∧
  ∀ co idx q np mc ms ci kd, tb.2.1 co idx = some (.inr q, np, mc, ms, ci, kd) → ax_okP Tb (cn co) idx q ∧ (kd = 0 → q = 1 ∨ q = 2 ∨ q = 5) ∧ (kd = 1 → q = 4) ∧ (kd = 2 → q = 0)
/-- each method's own name: plain, its class, its constructors -/
def ax_okM (cn : Nat → String) (nm : Nat → MethodName) (mt : Nat → Option ax_MI) : Prop := ∀ y I, mt y = some I → plainFor (nm y) = true ∧ (nm y).cls = cn I.2.1 ∧ (I.2.2.1 = true → (nm y).name = "<init>") ∧ I.2.2.2.1 ≤ 21
def ax_okA (Tb : List Cond) (cT : FieldType → ClassId) (tys : List (ClassId × FieldType)) : Prop := (∀ ty, ax_kt ty = true → ∃ t0 : Nat, tys[t0]? = some (cT ty, ty)) ∧ ∀ ty, ty = .int ∨ ty = .char ∨ ty = .boolean ∨ ty = .long → Cond.arrayClass ty ∈ Tb
/-- what stays true of the state: the script, constants, what lies in no table -/
def ax_okG (A : Nat → Prop) (G : State → Prop) (rc : Nat → Nat) (L : Nat) (xs : Nat → Int32) : Prop := (∀ s U : State, G s → s.WarmedH U.vm → s.heap.size ≤ U.heap.size → (∀ q, q < s.heap.size → ¬ A q → U.heap[q]? = s.heap[q]?) → G U) ∧ (∀ U V : State, G U → V.vm = U.vm → V.heap = U.heap → G V) ∧ ∀ s, G s → va_X (rc 0) L xs s s.heap ∧ rc 0 < s.heap.size ∧ ¬ A (rc 0)
theorem ax_RA {s : State} {cA cB : ClassId} {ty : FieldType} (h1 : va_RA s cA ty) (h2 : va_RA s cB ty) : cA = cB := by
  cases ty with
  | object C =>
    obtain ⟨_, _, _, _, _, a⟩ := h1
    obtain ⟨_, _, _, _, _, b⟩ := h2
    exact Option.some.inj (a.symm.trans b)
  | _ => exact Option.some.inj (Eq.trans (Eq.symm h1) h2)
def ax_rm (d mc ms : Nat) : Room := { frames := d, cells := mc, slots := ms, locals := 40 * d }
def ax_Pc (cl : List vw_C) (D : va_G) (cT : FieldType → ClassId) (tys : List (ClassId × FieldType)) (rc : Nat → Nat) (A : Nat → Prop) (G : State → Prop) (ad : Nat → Nat) (av : List Value) (h : ax_H) : Array Value → State → Prop := fun a U =>
  a = (av.map (ax_v ad rc)).toArray ∧ (∀ q, U.heap.size ≤ q → A q) ∧ va_P D cl (ax_w ad rc cT h) U.heap ∧ va_K D cl tys U ∧ va_D A (ax_w ad rc cT h) ∧ G U
def ax_Qc (cl : List vw_C) (D : va_G) (cT : FieldType → ClassId) (rc : Nat → Nat) (A : Nat → Prop) (ad : Nat → Nat) (h : ax_H) (Q : ax_Q) : Array Value → State → Outcome → State → Prop := fun _ st oc t =>
  (∃ (v : Option Value) (h' : ax_H) (ad' : Nat → Nat), oc = .returned (v.map (ax_v ad' rc)) ∧ Q v h' ∧ h.1 ≤ h'.1 ∧ (∀ i, i < h.1 → ad' i = ad i) ∧ ax_hw h' ∧ ax_ak h' ∧ (∀ x, v = some x → ax_vw h'.1 x) ∧ va_P D cl (ax_w ad' rc cT h') t.heap ∧ va_D A (ax_w ad' rc cT h')) ∧ va_F A st t
theorem ax_Pc.blind {cl : List vw_C} {D : va_G} {cT : FieldType → ClassId} {tys : List (ClassId × FieldType)} {rc : Nat → Nat} {A : Nat → Prop} {G : State → Prop} {L : Nat} {xs : Nat → Int32} {ad : Nat → Nat} {av : List Value} {h : ax_H} (hG : ax_okG A G rc L xs) : FrameBlind (ax_Pc cl D cT tys rc A G ad av h) := by
  intro a U g mk q
  obtain ⟨q1, q2, q3, q4, q5, q6⟩ := q
  exact ⟨q1, q2, q3, va_K.moved (u := U) (U := U.calling g mk a) (Vm.Alike.refl U.vm) q4, q5, hG.2.1 U _ q6 rfl rfl⟩
section AXS
variable {p : Program} {l : Launch} {e : Env} {R : Room} {s : State} {m : MethodId} {args : Array Value} {below : List Frame} {meth : Method} {c : Code} {H : Heap} {locs : List Loc} {cells slots : Nat} {Qs : State → Prop}
variable {cl : List vw_C} {D : va_G} {cT : FieldType → ClassId} {tys : List (ClassId × FieldType)} {rc : Nat → Nat} {A : Nat → Prop} {G : State → Prop} {L : Nat} {xs : Nat → Int32} {tb : ax_Tb} {Tb : List Cond} {cn : Nat → String} {nm : Nat → MethodName} {mt : Nat → Option ax_MI}
/-- a call comes back: what it answers, and the world behind it -/
theorem ax_ret {mc ms : Nat} {pc : Nat} {ls : Array Slot} {st0 rest : List Value} {ad : Nat → Nat} {h : ax_H} {Q : ax_Q} {a : Array Value}
    (hr : va_Run p l e R s m args below meth c H locs cells slots mc ms (F0 m pc ls st0) rest (ax_Qc cl D cT rc A ad h Q a) A) (hS : va_S A s.heap H locs)
    (kk : ∀ (v : Option Value) (h' : ax_H) (ad' : Nat → Nat) (H1 : Heap) (locs1 : List Loc), Q v h' → h.1 ≤ h'.1 → (∀ i, i < h.1 → ad' i = ad i) → ax_hw h' → ax_ak h' → (∀ x, v = some x → ax_vw h'.1 x) → va_P D cl (ax_w ad' rc cT h') H1 → va_D A (ax_w ad' rc cT h') → va_S A s.heap H1 locs1 → W p l e R s m args below meth c H1 locs1 (cells + mc) (slots + ms) Qs (F0 m (pc + 3) ls ((v.map (ax_v ad' rc)).toList ++ rest))) : W p l e R s m args below meth c H locs cells slots Qs (F0 m pc ls st0) := by
  intro T hT X
  obtain ⟨v, st₀, t, T', L, h0, X', hL, e1, e2, ⟨⟨w, h', ad', hv, hq, g1, g2, g3, g4, g5, g6, g7⟩, hz, hk⟩, st⟩ := hr T hT X
  have hv : v = w.map (ax_v ad' rc) := Outcome.returned.inj hv
  subst hv
  rw [h0] at hz hk
  obtain ⟨t2, a1, b1⟩ := kk w h' ad' T'.heap (locs ++ L) hq g1 g2 g3 g4 g5 (by rw [e1]; exact g6) g7
    ⟨Nat.le_trans hS.1 (by rw [e1]; exact hz), fun q h1 h2 => by rw [e1, hk q (Nat.lt_of_lt_of_le h1 hS.1) h2]; exact hS.2.1 q h1 h2, fun q hq => by
      rcases List.mem_append.mp hq with h | h
      · exact hS.2.2 q h
      · exact hL q h⟩ T' rfl X'
  exact ⟨t2, st t2 a1, b1⟩

/-- one step of the abstract machine is one of the machine -/
theorem ax_one {d : Nat} {I : ax_MI} {Q : ax_Q} {P : ax_P} {h0 : ax_H} {ad0 : Nat → Nat}
    (hcn : ∀ (ci : Nat) (r : vw_C), cl[ci]? = some r → r.1 = cn ci) (hF : ax_okF cl Tb cn tb) (hN : ax_okN cl Tb cn tb G) (hKo : ax_okK Tb cn tb rc G) (hC : ax_okC Tb cn nm tb mt) (hM : ax_okM cn nm mt) (hAr : ax_okA Tb cT tys) (hG : ax_okG A G rc L xs) (hgood : GoodIn Tb Tb)
    (hx : p.tables.exec = Jvm.exec) (hb : c.code = I.1) (hml : c.maxLocals = I.2.2.2.1) (hown : s.vm.findClass (cn I.2.1) = some m.cls) (hin0 : I.2.2.1 = true → meth.name = "<init>") (hts : ∀ w ∈ Tb, w.before args s = true) (hK : va_K D cl tys s) (hGs : G s) (hA : ∀ q, s.heap.size ≤ q → A q)
    (hRf : d + 1 ≤ R.frames) (hRl : 40 * (d + 1) ≤ R.locals) (hRc : I.2.2.2.2.2.1 ≤ R.cells) (hRs : I.2.2.2.2.2.2 ≤ R.slots)
    (hIx : ∀ (idx pc : Nat) (ls : Array Slot) (rest : List Value) (ch : Int32) (H : Heap) (locs : List Loc) (cells slots : Nat), 8 ≤ d + 1 → decode I.1 pc = .ok (.invokevirtual idx, 3) → (∃ np mc ms ci, tb.2.1 I.2.1 idx = some (.inr 4, np, mc, ms, ci, 1)) → (rest.map fun v => v.category).sum ≤ 8 → ls.size = I.2.2.2.1 → va_S A s.heap H locs → cells ≤ R.cells → slots ≤ R.slots → (∀ (H1 : Heap) (locs1 : List Loc), H1 = H → locs1 = locs → W p l e R s m args below meth c H1 locs1 cells slots Qs (F0 m (pc + 3) ls (.int (ax_ix ch) :: rest))) → W p l e R s m args below meth c H locs cells slots Qs (F0 m pc ls (.int ch :: .ref (rc 1) :: rest)))
    (IH : ∀ y I av h Q, mt y = some I → ax_M cl L xs tb mt d y av h Q → ax_hw h → ax_ak h → (∀ v ∈ av, ax_vw h.1 v) → ∀ ad, Met l (nm y) (Cond.code (nm y) I.1 I.2.2.2.1 I.2.2.2.2.1 :: Tb) (ax_rm d I.2.2.2.2.2.1 I.2.2.2.2.2.2) (ax_Pc cl D cT tys rc A G ad av h) (ax_Qc cl D cT rc A ad h Q) I.2.2.2.2.2.1 I.2.2.2.2.2.2 A)
    (hexit : ∀ (i : Instr) pc lsA ad h H locs k n v, decode I.1 pc = .ok (i, 1) → ((i = .ireturn ∧ ∃ x ty, v = some (.int x) ∧ I.2.2.2.2.1 = some ty ∧ narrow ty (.int x) = .int x) ∨ (i = .lreturn ∧ (∃ x, v = some (.long x)) ∧ I.2.2.2.2.1 = some .long) ∨ (i = .return_ ∧ v = none ∧ I.2.2.2.2.1 = none)) → Q v h → h0.1 ≤ h.1 → (∀ i, i < h0.1 → ad i = ad0 i) → ax_hw h → ax_ak h → (∀ x, v = some x → ax_vw h.1 x) → va_P D cl (ax_w ad rc cT h) H → va_D A (ax_w ad rc cT h) → va_S A s.heap H locs → k ≤ I.2.2.2.2.2.1 → n ≤ I.2.2.2.2.2.2 → W p l e R s m args below meth c H locs k n Qs (F0 m pc lsA (v.toList.map (ax_v ad rc))))
    (hWP : ∀ pc ls st k n h, (∀ ad lsA H locs, h0.1 ≤ h.1 → (∀ i, i < h0.1 → ad i = ad0 i) → k ≤ I.2.2.2.2.2.1 → n ≤ I.2.2.2.2.2.2 → ax_hw h → ax_ak h → (∀ v ∈ st, ax_vw h.1 v) → ax_lw h.1 ls → ax_lm ad rc lsA I.2.2.2.1 ls → va_P D cl (ax_w ad rc cT h) H → va_D A (ax_w ad rc cT h) → va_S A s.heap H locs → W p l e R s m args below meth c H locs k n Qs (F0 m pc lsA (st.map (ax_v ad rc)))) → P pc ls st k n h)
    (hPW : ∀ {pc ls st k n h}, P pc ls st k n h → ∀ ad lsA H locs, h0.1 ≤ h.1 → (∀ i, i < h0.1 → ad i = ad0 i) → k ≤ I.2.2.2.2.2.1 → n ≤ I.2.2.2.2.2.2 → ax_hw h → ax_ak h → (∀ v ∈ st, ax_vw h.1 v) → ax_lw h.1 ls → ax_lm ad rc lsA I.2.2.2.1 ls → va_P D cl (ax_w ad rc cT h) H → va_D A (ax_w ad rc cT h) → va_S A s.heap H locs → W p l e R s m args below meth c H locs k n Qs (F0 m pc lsA (st.map (ax_v ad rc)))) :
    ∀ pc ls st k n h, ax_step cl L xs tb (d + 1) I (ax_M cl L xs tb mt d) Q P P pc ls st k n h → P pc ls st k n h := by
  intro pc ls st k n h hs
  refine hWP _ _ _ _ _ _ ?_
  intro ad lsA H locs h1 h2 hk hn hw hak hst hls hlm hP hD hS
  have hsz : lsA.size = I.2.2.2.1 := hlm.1
  unfold ax_step at hs
  cases hd : decode I.1 pc with
  | error e => rw [hd] at hs; exact hs.elim
  | ok q =>
  obtain ⟨i, len⟩ := q
  rw [hd] at hs
  obtain ⟨hlen, hi⟩ := hs
  cases i with
  | iconst v =>
    obtain rfl : len = 1 := by simpa [ax_len] using hlen
    replace hi : P (pc + 1) ls (.int (Int32.ofInt v) :: st) k n h := hi
    exact lv_iconst hx hb hd rfl (hPW hi ad lsA H locs h1 h2 hk hn hw hak (List.forall_mem_cons.mpr ⟨ax_vw_int, hst⟩) hls hlm hP hD hS)
  | bipush v =>
    obtain rfl : len = 2 := by simpa [ax_len] using hlen
    replace hi : P (pc + 2) ls (.int (Int8.ofInt v).toInt32 :: st) k n h := hi
    exact lv_bipush hx hb hd rfl (hPW hi ad lsA H locs h1 h2 hk hn hw hak (List.forall_mem_cons.mpr ⟨ax_vw_int, hst⟩) hls hlm hP hD hS)
  | sipush v =>
    obtain rfl : len = 3 := by simpa [ax_len] using hlen
    replace hi : P (pc + 3) ls (.int (Int16.ofInt v).toInt32 :: st) k n h := hi
    exact lv_sipush hx hb hd rfl (hPW hi ad lsA H locs h1 h2 hk hn hw hak (List.forall_mem_cons.mpr ⟨ax_vw_int, hst⟩) hls hlm hP hD hS)
  | lconst v =>
    obtain rfl : len = 1 := by simpa [ax_len] using hlen
    replace hi : P (pc + 1) ls (.long (Int64.ofNat (v : Nat)) :: st) k n h := hi
    exact lv_lconst hx hb hd rfl (hPW hi ad lsA H locs h1 h2 hk hn hw hak (List.forall_mem_cons.mpr ⟨ax_vw_long, hst⟩) hls hlm hP hD hS)
  | aconst_null  =>
    obtain rfl : len = 1 := by simpa [ax_len] using hlen
    replace hi : P (pc + 1) ls (.null :: st) k n h := hi
    exact lv_null hx hb hd (hPW hi ad lsA H locs h1 h2 hk hn hw hak (List.forall_mem_cons.mpr ⟨ax_vw_null, hst⟩) hls hlm hP hD hS)
  | ldc idx =>
    obtain rfl : len = 2 := by simpa [ax_len] using hlen
    replace hi : ax_op (tb.2.2.1 I.2.1 idx) (fun v => ax_ki v = true ∧ P (pc + 2) ls (v :: st) k n h) := hi
    cases hq : tb.2.2.1 I.2.1 idx with
    | none => rw [hq] at hi; exact hi.elim
    | some v =>
    rw [hq] at hi
    obtain ⟨hv, hi⟩ := hi
    rcases v with x | x | x | x | _ | x | x
    · exact lv_ldc hx hb hown (hts _ ((hKo I.2.1 idx).1 x hq)) hd (hPW hi ad lsA H locs h1 h2 hk hn hw hak (List.forall_mem_cons.mpr ⟨ax_vw_int, hst⟩) hls hlm hP hD hS)
    · cases hv
    · cases hv
    · cases hv
    · cases hv
    · cases hv
    · obtain rfl : x = 1 := by
        rcases x with _ | _ | x
        · cases hv
        · rfl
        · cases hv
      obtain ⟨tx, htx⟩ := (hKo I.2.1 idx).2.2 hq
      exact va_ldcS hx hb hown (htx s hGs) hd (hPW hi ad lsA H locs h1 h2 hk hn hw hak (List.forall_mem_cons.mpr ⟨ax_vw_con, hst⟩) hls hlm hP hD hS)
  | ldc2_w idx =>
    obtain rfl : len = 3 := by simpa [ax_len] using hlen
    replace hi : ax_op (tb.2.2.1 I.2.1 idx) (fun v => ax_vl v fun x => P (pc + 3) ls (.long x :: st) k n h) := hi
    cases hq : tb.2.2.1 I.2.1 idx with
    | none => rw [hq] at hi; exact hi.elim
    | some v =>
    rw [hq] at hi
    rcases v with x | x | x | x | _ | x | x
    · exact hi.elim
    · replace hi : P (pc + 3) ls (.long x :: st) k n h := hi
      exact lv_ldc2 hx hb hown (hts _ ((hKo I.2.1 idx).2.1 x hq)) hd (hPW hi ad lsA H locs h1 h2 hk hn hw hak (List.forall_mem_cons.mpr ⟨ax_vw_long, hst⟩) hls hlm hP hD hS)
    · exact hi.elim
    · exact hi.elim
    · exact hi.elim
    · exact hi.elim
    · exact hi.elim
  | iload j =>
    obtain rfl : len = 2 := by simpa [ax_len] using hlen
    replace hi : ax_ld ls j (fun v => ax_vi v fun x => P (pc + 2) ls (.int x :: st) k n h) := hi
    replace hi := ax_ld_of hi
    obtain ⟨v, hv, hi⟩ := hi
    replace hi := ax_vi_of hi
    obtain ⟨x, rfl, hi⟩ := hi
    exact lv_iload hx hb hd (hlm.2.2.2 _ _ hv) (hPW hi ad lsA H locs h1 h2 hk hn hw hak (List.forall_mem_cons.mpr ⟨ax_vw_int, hst⟩) hls hlm hP hD hS)
  | iload_n j =>
    obtain rfl : len = 1 := by simpa [ax_len] using hlen
    replace hi : ax_ld ls j (fun v => ax_vi v fun x => P (pc + 1) ls (.int x :: st) k n h) := hi
    replace hi := ax_ld_of hi
    obtain ⟨v, hv, hi⟩ := hi
    replace hi := ax_vi_of hi
    obtain ⟨x, rfl, hi⟩ := hi
    exact lv_iload_n hx hb hd rfl (hlm.2.2.2 _ _ hv) (hPW hi ad lsA H locs h1 h2 hk hn hw hak (List.forall_mem_cons.mpr ⟨ax_vw_int, hst⟩) hls hlm hP hD hS)
  | lload j =>
    obtain rfl : len = 2 := by simpa [ax_len] using hlen
    replace hi : ax_ld ls j (fun v => ax_vl v fun x => P (pc + 2) ls (.long x :: st) k n h) := hi
    replace hi := ax_ld_of hi
    obtain ⟨v, hv, hi⟩ := hi
    replace hi := ax_vl_of hi
    obtain ⟨x, rfl, hi⟩ := hi
    exact lv_lload hx hb hd (hlm.2.2.2 _ _ hv) (hPW hi ad lsA H locs h1 h2 hk hn hw hak (List.forall_mem_cons.mpr ⟨ax_vw_long, hst⟩) hls hlm hP hD hS)
  | lload_n j =>
    obtain rfl : len = 1 := by simpa [ax_len] using hlen
    replace hi : ax_ld ls j (fun v => ax_vl v fun x => P (pc + 1) ls (.long x :: st) k n h) := hi
    replace hi := ax_ld_of hi
    obtain ⟨v, hv, hi⟩ := hi
    replace hi := ax_vl_of hi
    obtain ⟨x, rfl, hi⟩ := hi
    exact lv_lload_n hx hb hd rfl (hlm.2.2.2 _ _ hv) (hPW hi ad lsA H locs h1 h2 hk hn hw hak (List.forall_mem_cons.mpr ⟨ax_vw_long, hst⟩) hls hlm hP hD hS)
  | aload j =>
    obtain rfl : len = 2 := by simpa [ax_len] using hlen
    replace hi : ax_ld ls j (fun v => ax_isa v = true ∧ P (pc + 2) ls (v :: st) k n h) := hi
    replace hi := ax_ld_of hi
    obtain ⟨v, hv, hisa, hi⟩ := hi
    have hvl := hlm.2.2.2 _ _ hv
    have hvw := hls _ _ hv
    rcases v with x | x | x | x | _ | x | x
    · cases hisa
    · cases hisa
    · cases hisa
    · cases hisa
    · exact lv_aloadN hx hb hd hvl (hPW hi ad lsA H locs h1 h2 hk hn hw hak (List.forall_mem_cons.mpr ⟨hvw, hst⟩) hls hlm hP hD hS)
    · exact lv_aload hx hb hd hvl (hPW hi ad lsA H locs h1 h2 hk hn hw hak (List.forall_mem_cons.mpr ⟨hvw, hst⟩) hls hlm hP hD hS)
    · exact lv_aload hx hb hd hvl (hPW hi ad lsA H locs h1 h2 hk hn hw hak (List.forall_mem_cons.mpr ⟨hvw, hst⟩) hls hlm hP hD hS)
  | aload_n j =>
    obtain rfl : len = 1 := by simpa [ax_len] using hlen
    replace hi : ax_ld ls j (fun v => ax_isa v = true ∧ P (pc + 1) ls (v :: st) k n h) := hi
    replace hi := ax_ld_of hi
    obtain ⟨v, hv, hisa, hi⟩ := hi
    have hvl := hlm.2.2.2 _ _ hv
    have hvw := hls _ _ hv
    rcases v with x | x | x | x | _ | x | x
    · cases hisa
    · cases hisa
    · cases hisa
    · cases hisa
    · exact lv_aload_nN hx hb hd rfl hvl (hPW hi ad lsA H locs h1 h2 hk hn hw hak (List.forall_mem_cons.mpr ⟨hvw, hst⟩) hls hlm hP hD hS)
    · exact lv_aload_n hx hb hd rfl hvl (hPW hi ad lsA H locs h1 h2 hk hn hw hak (List.forall_mem_cons.mpr ⟨hvw, hst⟩) hls hlm hP hD hS)
    · exact lv_aload_n hx hb hd rfl hvl (hPW hi ad lsA H locs h1 h2 hk hn hw hak (List.forall_mem_cons.mpr ⟨hvw, hst⟩) hls hlm hP hD hS)
  | istore j =>
    obtain rfl : len = 2 := by simpa [ax_len] using hlen
    replace hi : ax_i st (fun x st => j < ls.length ∧ P (pc + 2) (ax_s1 ls j (.int x)) st k n h) := hi
    replace hi := ax_i_of hi
    obtain ⟨x, st, rfl, hj, hi⟩ := hi
    replace hst := (List.forall_mem_cons.mp hst).2
    exact lv_istore hx hb hd hlm.has (by rw [← hlm.2.1]; exact hj) rfl (fun ls1 hl1 => hPW hi ad ls1 H locs h1 h2 hk hn hw hak hst (hls.st1 ax_vw_int) (hlm.st1 (v := .int x) hl1) hP hD hS)
  | istore_n j =>
    obtain rfl : len = 1 := by simpa [ax_len] using hlen
    replace hi : ax_i st (fun x st => (j : Nat) < ls.length ∧ P (pc + 1) (ax_s1 ls j (.int x)) st k n h) := hi
    replace hi := ax_i_of hi
    obtain ⟨x, st, rfl, hj, hi⟩ := hi
    replace hst := (List.forall_mem_cons.mp hst).2
    exact lv_istore_n hx hb hd rfl hlm.has (by rw [← hlm.2.1]; exact hj) rfl (fun ls1 hl1 => hPW hi ad ls1 H locs h1 h2 hk hn hw hak hst (hls.st1 ax_vw_int) (hlm.st1 (v := .int x) hl1) hP hD hS)
  | lstore j =>
    obtain rfl : len = 2 := by simpa [ax_len] using hlen
    replace hi : ax_l st (fun x st => j + 1 < ls.length ∧ P (pc + 2) (ax_s2 ls j (.long x)) st k n h) := hi
    replace hi := ax_l_of hi
    obtain ⟨x, st, rfl, hj, hi⟩ := hi
    replace hst := (List.forall_mem_cons.mp hst).2
    exact lv_lstore hx hb hd hlm.has (by rw [← hlm.2.1]; exact hj) rfl (fun ls1 hl1 => hPW hi ad ls1 H locs h1 h2 hk hn hw hak hst (hls.st2 ax_vw_long) (hlm.st2 (v := .long x) hl1) hP hD hS)
  | lstore_n j =>
    obtain rfl : len = 1 := by simpa [ax_len] using hlen
    replace hi : ax_l st (fun x st => (j : Nat) + 1 < ls.length ∧ P (pc + 1) (ax_s2 ls j (.long x)) st k n h) := hi
    replace hi := ax_l_of hi
    obtain ⟨x, st, rfl, hj, hi⟩ := hi
    replace hst := (List.forall_mem_cons.mp hst).2
    exact lv_lstore_n hx hb hd rfl hlm.has (by rw [← hlm.2.1]; exact hj) rfl (fun ls1 hl1 => hPW hi ad ls1 H locs h1 h2 hk hn hw hak hst (hls.st2 ax_vw_long) (hlm.st2 (v := .long x) hl1) hP hD hS)
  | astore j =>
    obtain rfl : len = 2 := by simpa [ax_len] using hlen
    replace hi : ax_1 st (fun v st => ax_isa v = true ∧ j < ls.length ∧ P (pc + 2) (ax_s1 ls j v) st k n h) := hi
    replace hi := ax_1_of hi
    obtain ⟨v, st, rfl, hc1, hisa, hj, hi⟩ := hi
    have hvw := (List.forall_mem_cons.mp hst).1
    replace hst := (List.forall_mem_cons.mp hst).2
    rcases v with x | x | x | x | _ | x | x
    · cases hisa
    · cases hisa
    · cases hisa
    · cases hisa
    · exact lv_astoreN hx hb hd hlm.has (by rw [← hlm.2.1]; exact hj) rfl (fun ls1 hl1 => hPW hi ad ls1 H locs h1 h2 hk hn hw hak hst (hls.st1 hvw) (hlm.st1 (v := .null) hl1) hP hD hS)
    · exact lv_astore hx hb hd hlm.has (by rw [← hlm.2.1]; exact hj) rfl (fun ls1 hl1 => hPW hi ad ls1 H locs h1 h2 hk hn hw hak hst (hls.st1 hvw) (hlm.st1 (v := .ref x) hl1) hP hD hS)
    · exact lv_astore hx hb hd hlm.has (by rw [← hlm.2.1]; exact hj) rfl (fun ls1 hl1 => hPW hi ad ls1 H locs h1 h2 hk hn hw hak hst (hls.st1 hvw) (hlm.st1 (v := .retAddr x) hl1) hP hD hS)
  | astore_n j =>
    obtain rfl : len = 1 := by simpa [ax_len] using hlen
    replace hi : ax_1 st (fun v st => ax_isa v = true ∧ (j : Nat) < ls.length ∧ P (pc + 1) (ax_s1 ls j v) st k n h) := hi
    replace hi := ax_1_of hi
    obtain ⟨v, st, rfl, hc1, hisa, hj, hi⟩ := hi
    have hvw := (List.forall_mem_cons.mp hst).1
    replace hst := (List.forall_mem_cons.mp hst).2
    rcases v with x | x | x | x | _ | x | x
    · cases hisa
    · cases hisa
    · cases hisa
    · cases hisa
    · exact lv_astore_nN hx hb hd rfl hlm.has (by rw [← hlm.2.1]; exact hj) rfl (fun ls1 hl1 => hPW hi ad ls1 H locs h1 h2 hk hn hw hak hst (hls.st1 hvw) (hlm.st1 (v := .null) hl1) hP hD hS)
    · exact lv_astore_n hx hb hd rfl hlm.has (by rw [← hlm.2.1]; exact hj) rfl (fun ls1 hl1 => hPW hi ad ls1 H locs h1 h2 hk hn hw hak hst (hls.st1 hvw) (hlm.st1 (v := .ref x) hl1) hP hD hS)
    · exact lv_astore_n hx hb hd rfl hlm.has (by rw [← hlm.2.1]; exact hj) rfl (fun ls1 hl1 => hPW hi ad ls1 H locs h1 h2 hk hn hw hak hst (hls.st1 hvw) (hlm.st1 (v := .retAddr x) hl1) hP hD hS)
  | iinc j v =>
    obtain rfl : len = 3 := by simpa [ax_len] using hlen
    replace hi : ax_ld ls j (fun w => ax_vi w fun x => P (pc + 3) (ax_s1 ls j (.int (x + Int32.ofInt v))) st k n h) := hi
    replace hi := ax_ld_of hi
    obtain ⟨w, hv, hi⟩ := hi
    replace hi := ax_vi_of hi
    obtain ⟨x, rfl, hi⟩ := hi
    obtain ⟨kk, hkk⟩ := List.getElem?_of_mem (ax_as_in (ad := ad) (rc := rc) hv)
    have hj : j < I.2.2.2.1 := by rw [← hlm.2.1]; exact (List.getElem?_eq_some_iff.mp hv).1
    exact lv_iinc hx hb hd hlm.has hkk rfl hj rfl (fun ls1 hl1 => hPW hi ad ls1 H locs h1 h2 hk hn hw hak hst (hls.st1 ax_vw_int) (hlm.st1 (v := .int (x + Int32.ofInt v)) hl1) hP hD hS)
  | iadd  =>
    obtain rfl : len = 1 := by simpa [ax_len] using hlen
    replace hi : ax_i st (fun y st => ax_i st fun x st => P (pc + 1) ls (.int (x + y) :: st) k n h) := hi
    replace hi := ax_i_of hi
    obtain ⟨y, st, rfl, hi⟩ := hi
    replace hi := ax_i_of hi
    obtain ⟨x, st, rfl, hi⟩ := hi
    replace hst := (List.forall_mem_cons.mp (List.forall_mem_cons.mp hst).2).2
    exact lv_iadd hx hb hd (hPW hi ad lsA H locs h1 h2 hk hn hw hak (List.forall_mem_cons.mpr ⟨ax_vw_int, hst⟩) hls hlm hP hD hS)
  | isub  =>
    obtain rfl : len = 1 := by simpa [ax_len] using hlen
    replace hi : ax_i st (fun y st => ax_i st fun x st => P (pc + 1) ls (.int (x - y) :: st) k n h) := hi
    replace hi := ax_i_of hi
    obtain ⟨y, st, rfl, hi⟩ := hi
    replace hi := ax_i_of hi
    obtain ⟨x, st, rfl, hi⟩ := hi
    replace hst := (List.forall_mem_cons.mp (List.forall_mem_cons.mp hst).2).2
    exact lv_isub hx hb hd (hPW hi ad lsA H locs h1 h2 hk hn hw hak (List.forall_mem_cons.mpr ⟨ax_vw_int, hst⟩) hls hlm hP hD hS)
  | imul  =>
    obtain rfl : len = 1 := by simpa [ax_len] using hlen
    replace hi : ax_i st (fun y st => ax_i st fun x st => P (pc + 1) ls (.int (x * y) :: st) k n h) := hi
    replace hi := ax_i_of hi
    obtain ⟨y, st, rfl, hi⟩ := hi
    replace hi := ax_i_of hi
    obtain ⟨x, st, rfl, hi⟩ := hi
    replace hst := (List.forall_mem_cons.mp (List.forall_mem_cons.mp hst).2).2
    exact lv_imul hx hb hd (hPW hi ad lsA H locs h1 h2 hk hn hw hak (List.forall_mem_cons.mpr ⟨ax_vw_int, hst⟩) hls hlm hP hD hS)
  | iand  =>
    obtain rfl : len = 1 := by simpa [ax_len] using hlen
    replace hi : ax_i st (fun y st => ax_i st fun x st => P (pc + 1) ls (.int (x &&& y) :: st) k n h) := hi
    replace hi := ax_i_of hi
    obtain ⟨y, st, rfl, hi⟩ := hi
    replace hi := ax_i_of hi
    obtain ⟨x, st, rfl, hi⟩ := hi
    replace hst := (List.forall_mem_cons.mp (List.forall_mem_cons.mp hst).2).2
    exact lv_iand hx hb hd (hPW hi ad lsA H locs h1 h2 hk hn hw hak (List.forall_mem_cons.mpr ⟨ax_vw_int, hst⟩) hls hlm hP hD hS)
  | ixor  =>
    obtain rfl : len = 1 := by simpa [ax_len] using hlen
    replace hi : ax_i st (fun y st => ax_i st fun x st => P (pc + 1) ls (.int (x ^^^ y) :: st) k n h) := hi
    replace hi := ax_i_of hi
    obtain ⟨y, st, rfl, hi⟩ := hi
    replace hi := ax_i_of hi
    obtain ⟨x, st, rfl, hi⟩ := hi
    replace hst := (List.forall_mem_cons.mp (List.forall_mem_cons.mp hst).2).2
    exact lv_ixor hx hb hd (hPW hi ad lsA H locs h1 h2 hk hn hw hak (List.forall_mem_cons.mpr ⟨ax_vw_int, hst⟩) hls hlm hP hD hS)
  | idiv  =>
    obtain rfl : len = 1 := by simpa [ax_len] using hlen
    replace hi : ax_i st (fun y st => ax_i st fun x st => ¬ y = 0 ∧ P (pc + 1) ls (.int (x / y) :: st) k n h) := hi
    replace hi := ax_i_of hi
    obtain ⟨y, st, rfl, hi⟩ := hi
    replace hi := ax_i_of hi
    obtain ⟨x, st, rfl, hy, hi⟩ := hi
    replace hst := (List.forall_mem_cons.mp (List.forall_mem_cons.mp hst).2).2
    exact lv_idiv hx hb hd hy (hPW hi ad lsA H locs h1 h2 hk hn hw hak (List.forall_mem_cons.mpr ⟨ax_vw_int, hst⟩) hls hlm hP hD hS)
  | irem  =>
    obtain rfl : len = 1 := by simpa [ax_len] using hlen
    replace hi : ax_i st (fun y st => ax_i st fun x st => ¬ y = 0 ∧ P (pc + 1) ls (.int (x - x / y * y) :: st) k n h) := hi
    replace hi := ax_i_of hi
    obtain ⟨y, st, rfl, hi⟩ := hi
    replace hi := ax_i_of hi
    obtain ⟨x, st, rfl, hy, hi⟩ := hi
    replace hst := (List.forall_mem_cons.mp (List.forall_mem_cons.mp hst).2).2
    exact lv_irem hx hb hd hy (hPW hi ad lsA H locs h1 h2 hk hn hw hak (List.forall_mem_cons.mpr ⟨ax_vw_int, hst⟩) hls hlm hP hD hS)
  | ineg  =>
    obtain rfl : len = 1 := by simpa [ax_len] using hlen
    replace hi : ax_i st (fun x st => P (pc + 1) ls (.int (-x) :: st) k n h) := hi
    obtain ⟨x, st, rfl, hi⟩ := ax_i_of hi
    replace hst := (List.forall_mem_cons.mp hst).2
    exact lv_ineg hx hb hd (hPW hi ad lsA H locs h1 h2 hk hn hw hak (List.forall_mem_cons.mpr ⟨ax_vw_int, hst⟩) hls hlm hP hD hS)
  | i2l  =>
    obtain rfl : len = 1 := by simpa [ax_len] using hlen
    replace hi : ax_i st (fun x st => P (pc + 1) ls (.long x.toInt64 :: st) k n h) := hi
    obtain ⟨x, st, rfl, hi⟩ := ax_i_of hi
    replace hst := (List.forall_mem_cons.mp hst).2
    exact lv_i2l hx hb hd rfl (hPW hi ad lsA H locs h1 h2 hk hn hw hak (List.forall_mem_cons.mpr ⟨ax_vw_long, hst⟩) hls hlm hP hD hS)
  | l2i  =>
    obtain rfl : len = 1 := by simpa [ax_len] using hlen
    replace hi : ax_l st (fun x st => P (pc + 1) ls (.int x.toInt32 :: st) k n h) := hi
    obtain ⟨x, st, rfl, hi⟩ := ax_l_of hi
    replace hst := (List.forall_mem_cons.mp hst).2
    exact lv_l2i hx hb hd rfl (hPW hi ad lsA H locs h1 h2 hk hn hw hak (List.forall_mem_cons.mpr ⟨ax_vw_int, hst⟩) hls hlm hP hD hS)
  | i2c  =>
    obtain rfl : len = 1 := by simpa [ax_len] using hlen
    replace hi : ax_i st (fun x st => P (pc + 1) ls (.int (x.toUInt32 % 65536).toInt32 :: st) k n h) := hi
    obtain ⟨x, st, rfl, hi⟩ := ax_i_of hi
    replace hst := (List.forall_mem_cons.mp hst).2
    exact lv_i2c hx hb hd rfl (hPW hi ad lsA H locs h1 h2 hk hn hw hak (List.forall_mem_cons.mpr ⟨ax_vw_int, hst⟩) hls hlm hP hD hS)
  | lcmp  =>
    obtain rfl : len = 1 := by simpa [ax_len] using hlen
    replace hi : ax_l st (fun y st => ax_l st fun x st => P (pc + 1) ls (.int (lg_cmp x y) :: st) k n h) := hi
    replace hi := ax_l_of hi
    obtain ⟨y, st, rfl, hi⟩ := hi
    replace hi := ax_l_of hi
    obtain ⟨x, st, rfl, hi⟩ := hi
    replace hst := (List.forall_mem_cons.mp (List.forall_mem_cons.mp hst).2).2
    exact W.lcmp hx hb hd (hPW hi ad lsA H locs h1 h2 hk hn hw hak (List.forall_mem_cons.mpr ⟨ax_vw_int, hst⟩) hls hlm hP hD hS)
  | dup  =>
    obtain rfl : len = 1 := by simpa [ax_len] using hlen
    replace hi : ax_1 st (fun v st => P (pc + 1) ls (v :: v :: st) k n h) := hi
    replace hi := ax_1_of hi
    obtain ⟨v, st, rfl, hc1, hi⟩ := hi
    obtain ⟨hv, hst⟩ := List.forall_mem_cons.mp hst
    exact lv_dup hx hb hd (by rw [ax_v_cat]; exact ax_c1_cat hc1) (hPW hi ad lsA H locs h1 h2 hk hn hw hak (List.forall_mem_cons.mpr ⟨hv, List.forall_mem_cons.mpr ⟨hv, hst⟩⟩) hls hlm hP hD hS)
  | pop  =>
    obtain rfl : len = 1 := by simpa [ax_len] using hlen
    replace hi : ax_1 st (fun v st => P (pc + 1) ls st k n h) := hi
    replace hi := ax_1_of hi
    obtain ⟨v, st, rfl, hc1, hi⟩ := hi
    obtain ⟨hv, hst⟩ := List.forall_mem_cons.mp hst
    exact lv_pop hx hb hd (by rw [ax_v_cat]; exact ax_c1_cat hc1) (hPW hi ad lsA H locs h1 h2 hk hn hw hak hst hls hlm hP hD hS)
  | dup_x1  =>
    obtain rfl : len = 1 := by simpa [ax_len] using hlen
    replace hi : ax_1 st (fun v st => ax_1 st fun w st => P (pc + 1) ls (v :: w :: v :: st) k n h) := hi
    replace hi := ax_1_of hi
    obtain ⟨v, st, rfl, hc1, hi⟩ := hi
    replace hi := ax_1_of hi
    obtain ⟨w, st, rfl, hc2, hi⟩ := hi
    obtain ⟨hv, hst⟩ := List.forall_mem_cons.mp hst
    obtain ⟨hw2, hst⟩ := List.forall_mem_cons.mp hst
    exact lv_dup_x1 hx hb hd (by rw [ax_v_cat]; exact ax_c1_cat hc1) (by rw [ax_v_cat]; exact ax_c1_cat hc2) (hPW hi ad lsA H locs h1 h2 hk hn hw hak (List.forall_mem_cons.mpr ⟨hv, List.forall_mem_cons.mpr ⟨hw2, List.forall_mem_cons.mpr ⟨hv, hst⟩⟩⟩) hls hlm hP hD hS)
  | dup_x2  =>
    obtain rfl : len = 1 := by simpa [ax_len] using hlen
    replace hi : ax_1 st (fun v st => ax_1 st fun w st => ax_1 st fun u st => P (pc + 1) ls (v :: w :: u :: v :: st) k n h) := hi
    replace hi := ax_1_of hi
    obtain ⟨v, st, rfl, hc1, hi⟩ := hi
    replace hi := ax_1_of hi
    obtain ⟨w, st, rfl, hc2, hi⟩ := hi
    replace hi := ax_1_of hi
    obtain ⟨u, st, rfl, hc3, hi⟩ := hi
    obtain ⟨hv, hst⟩ := List.forall_mem_cons.mp hst
    obtain ⟨hw2, hst⟩ := List.forall_mem_cons.mp hst
    obtain ⟨hu, hst⟩ := List.forall_mem_cons.mp hst
    exact lv_dup_x2 hx hb hd (by rw [ax_v_cat]; exact ax_c1_cat hc1) (by rw [ax_v_cat]; exact ax_c1_cat hc2) (by rw [ax_v_cat]; exact ax_c1_cat hc3) (hPW hi ad lsA H locs h1 h2 hk hn hw hak (List.forall_mem_cons.mpr ⟨hv, List.forall_mem_cons.mpr ⟨hw2, List.forall_mem_cons.mpr ⟨hu, List.forall_mem_cons.mpr ⟨hv, hst⟩⟩⟩⟩) hls hlm hP hD hS)
  | dup2  =>
    obtain rfl : len = 1 := by simpa [ax_len] using hlen
    replace hi : ax_1 st (fun v st => ax_1 st fun w st => P (pc + 1) ls (v :: w :: v :: w :: st) k n h) := hi
    replace hi := ax_1_of hi
    obtain ⟨v, st, rfl, hc1, hi⟩ := hi
    replace hi := ax_1_of hi
    obtain ⟨w, st, rfl, hc2, hi⟩ := hi
    obtain ⟨hv, hst⟩ := List.forall_mem_cons.mp hst
    obtain ⟨hw2, hst⟩ := List.forall_mem_cons.mp hst
    exact lv_dup2_11 hx hb hd (by rw [ax_v_cat]; exact ax_c1_cat hc1) (by rw [ax_v_cat]; exact ax_c1_cat hc2) (hPW hi ad lsA H locs h1 h2 hk hn hw hak (List.forall_mem_cons.mpr ⟨hv, List.forall_mem_cons.mpr ⟨hw2, List.forall_mem_cons.mpr ⟨hv, List.forall_mem_cons.mpr ⟨hw2, hst⟩⟩⟩⟩) hls hlm hP hD hS)
  | goto off =>
    obtain rfl : len = 3 := by simpa [ax_len] using hlen
    replace hi : ax_t pc off (fun t => P t ls st k n h) := hi
    obtain ⟨ht, hi⟩ := hi
    exact lv_goto hx hb hd (by rw [Int.toNat_of_nonneg ht]) (hPW hi ad lsA H locs h1 h2 hk hn hw hak hst hls hlm hP hD hS)
  | if_icmp cd off =>
    obtain rfl : len = 3 := by simpa [ax_len] using hlen
    replace hi : ax_i st (fun y st => ax_i st fun x st => ax_t pc off fun t => ax_br (ax_c cd x y) (P t ls st k n h) (P (pc + 3) ls st k n h)) := hi
    replace hi := ax_i_of hi
    obtain ⟨y, st, rfl, hi⟩ := hi
    replace hi := ax_i_of hi
    obtain ⟨x, st, rfl, ht, hi⟩ := hi
    replace hst := (List.forall_mem_cons.mp (List.forall_mem_cons.mp hst).2).2
    cases cd with
    | eq => exact lv_icmp_eq hx hb hd (by rw [Int.toNat_of_nonneg ht]) (fun z => (hPW (hi.1 z) ad lsA H locs h1 h2 hk hn hw hak hst hls hlm hP hD hS)) (fun z => (hPW (hi.2 z) ad lsA H locs h1 h2 hk hn hw hak hst hls hlm hP hD hS))
    | ne => exact lv_icmp_ne hx hb hd (by rw [Int.toNat_of_nonneg ht]) (fun z => (hPW (hi.1 z) ad lsA H locs h1 h2 hk hn hw hak hst hls hlm hP hD hS)) (fun z => (hPW (hi.2 (fun q => q z)) ad lsA H locs h1 h2 hk hn hw hak hst hls hlm hP hD hS))
    | lt => exact lv_icmp_lt hx hb hd (by rw [Int.toNat_of_nonneg ht]) (fun z => (hPW (hi.1 z) ad lsA H locs h1 h2 hk hn hw hak hst hls hlm hP hD hS)) (fun z => (hPW (hi.2 z) ad lsA H locs h1 h2 hk hn hw hak hst hls hlm hP hD hS))
    | ge => exact lv_icmp_ge hx hb hd (by rw [Int.toNat_of_nonneg ht]) (fun z => (hPW (hi.1 z) ad lsA H locs h1 h2 hk hn hw hak hst hls hlm hP hD hS)) (fun z => (hPW (hi.2 z) ad lsA H locs h1 h2 hk hn hw hak hst hls hlm hP hD hS))
    | gt => exact lv_icmp_gt hx hb hd (by rw [Int.toNat_of_nonneg ht]) (fun z => (hPW (hi.1 z) ad lsA H locs h1 h2 hk hn hw hak hst hls hlm hP hD hS)) (fun z => (hPW (hi.2 z) ad lsA H locs h1 h2 hk hn hw hak hst hls hlm hP hD hS))
    | le => exact lv_icmp_le hx hb hd (by rw [Int.toNat_of_nonneg ht]) (fun z => (hPW (hi.1 z) ad lsA H locs h1 h2 hk hn hw hak hst hls hlm hP hD hS)) (fun z => (hPW (hi.2 z) ad lsA H locs h1 h2 hk hn hw hak hst hls hlm hP hD hS))
  | ifCond cd off =>
    obtain rfl : len = 3 := by simpa [ax_len] using hlen
    replace hi : ax_i st (fun x st => ax_t pc off fun t => ax_br (ax_c cd x 0) (P t ls st k n h) (P (pc + 3) ls st k n h)) := hi
    replace hi := ax_i_of hi
    obtain ⟨x, st, rfl, ht, hi⟩ := hi
    replace hst := (List.forall_mem_cons.mp hst).2
    cases cd with
    | eq => exact lv_if_eq hx hb hd (by rw [Int.toNat_of_nonneg ht]) (fun z => (hPW (hi.1 z) ad lsA H locs h1 h2 hk hn hw hak hst hls hlm hP hD hS)) (fun z => (hPW (hi.2 z) ad lsA H locs h1 h2 hk hn hw hak hst hls hlm hP hD hS))
    | ne => exact lv_if_ne hx hb hd (by rw [Int.toNat_of_nonneg ht]) (fun z => (hPW (hi.1 z) ad lsA H locs h1 h2 hk hn hw hak hst hls hlm hP hD hS)) (fun z => (hPW (hi.2 (fun q => q z)) ad lsA H locs h1 h2 hk hn hw hak hst hls hlm hP hD hS))
    | lt => exact lv_if_lt hx hb hd (by rw [Int.toNat_of_nonneg ht]) (fun z => (hPW (hi.1 z) ad lsA H locs h1 h2 hk hn hw hak hst hls hlm hP hD hS)) (fun z => (hPW (hi.2 z) ad lsA H locs h1 h2 hk hn hw hak hst hls hlm hP hD hS))
    | ge => exact lv_if_ge hx hb hd (by rw [Int.toNat_of_nonneg ht]) (fun z => (hPW (hi.1 z) ad lsA H locs h1 h2 hk hn hw hak hst hls hlm hP hD hS)) (fun z => (hPW (hi.2 z) ad lsA H locs h1 h2 hk hn hw hak hst hls hlm hP hD hS))
    | gt => exact lv_if_gt hx hb hd (by rw [Int.toNat_of_nonneg ht]) (fun z => (hPW (hi.1 z) ad lsA H locs h1 h2 hk hn hw hak hst hls hlm hP hD hS)) (fun z => (hPW (hi.2 z) ad lsA H locs h1 h2 hk hn hw hak hst hls hlm hP hD hS))
    | le => exact lv_if_le hx hb hd (by rw [Int.toNat_of_nonneg ht]) (fun z => (hPW (hi.1 z) ad lsA H locs h1 h2 hk hn hw hak hst hls hlm hP hD hS)) (fun z => (hPW (hi.2 z) ad lsA H locs h1 h2 hk hn hw hak hst hls hlm hP hD hS))
  | ifnull off =>
    obtain rfl : len = 3 := by simpa [ax_len] using hlen
    replace hi : ax_t pc off (fun t => ax_nu st (fun st => P t ls st k n h) (fun st => P (pc + 3) ls st k n h)) := hi
    obtain ⟨ht, hi⟩ := hi
    replace hi := ax_nu_of hi
    rcases hi with ⟨r, rfl, hi⟩ | ⟨x, r, rfl, hi⟩
    · replace hst := (List.forall_mem_cons.mp hst).2
      exact lv_ifnullN hx hb hd (by rw [Int.toNat_of_nonneg ht]) (hPW hi ad lsA H locs h1 h2 hk hn hw hak hst hls hlm hP hD hS)
    · replace hst := (List.forall_mem_cons.mp hst).2
      exact lv_ifnull hx hb hd (hPW hi ad lsA H locs h1 h2 hk hn hw hak hst hls hlm hP hD hS)
  | ifnonnull off =>
    obtain rfl : len = 3 := by simpa [ax_len] using hlen
    replace hi : ax_t pc off (fun t => ax_nu st (fun st => P (pc + 3) ls st k n h) (fun st => P t ls st k n h)) := hi
    obtain ⟨ht, hi⟩ := hi
    replace hi := ax_nu_of hi
    rcases hi with ⟨r, rfl, hi⟩ | ⟨x, r, rfl, hi⟩
    · replace hst := (List.forall_mem_cons.mp hst).2
      exact lv_ifnonnullN hx hb hd (hPW hi ad lsA H locs h1 h2 hk hn hw hak hst hls hlm hP hD hS)
    · replace hst := (List.forall_mem_cons.mp hst).2
      exact lv_ifnonnull hx hb hd (by rw [Int.toNat_of_nonneg ht]) (hPW hi ad lsA H locs h1 h2 hk hn hw hak hst hls hlm hP hD hS)
  | tableswitch df lo hi2 offs =>
    replace hi : ax_i st (fun x st => ax_br (x.toInt < lo ∨ hi2 < x.toInt) (ax_t pc df fun t => P t ls st k n h) (ax_op offs[(x.toInt - lo).toNat]? fun off => ax_t pc off fun t => P t ls st k n h)) := hi
    replace hi := ax_i_of hi
    obtain ⟨x, st, rfl, hi⟩ := hi
    replace hst := (List.forall_mem_cons.mp hst).2
    by_cases hb2 : x.toInt < lo ∨ hi2 < x.toInt
    · obtain ⟨ht, hi⟩ := hi.1 hb2
      exact lv_tableOut hx hb hd hb2 (by rw [Int.toNat_of_nonneg ht]) (hPW hi ad lsA H locs h1 h2 hk hn hw hak hst hls hlm hP hD hS)
    · obtain ⟨off, ho, ht, hi⟩ := ax_op_of (hi.2 hb2)
      exact lv_tableIn hx hb hd (fun q => hb2 (Or.inl q)) (fun q => hb2 (Or.inr q)) ho (by rw [Int.toNat_of_nonneg ht]) (hPW hi ad lsA H locs h1 h2 hk hn hw hak hst hls hlm hP hD hS)
  | lookupswitch df ps =>
    replace hi : ax_i st (fun x st => (ps.toList.zip (ps.toList.drop 1)).all (fun (a, next) => a.1 < next.1) = true ∧ ax_t pc (Op.lookupswitch.offset ps.toList df x.toInt) fun t => P t ls st k n h) := hi
    replace hi := ax_i_of hi
    obtain ⟨x, st, rfl, hp, ht, hi⟩ := hi
    replace hst := (List.forall_mem_cons.mp hst).2
    exact lv_lookup hx hb hd hp rfl (by rw [Int.toNat_of_nonneg ht]) (hPW hi ad lsA H locs h1 h2 hk hn hw hak hst hls hlm hP hD hS)
  | getfield idx =>
    obtain rfl : len = 3 := by simpa [ax_len] using hlen
    replace hi : ax_op (tb.1 I.2.1 idx) (fun q => ax_r st fun a st => ax_gf h a q.1 q.2.1 fun v => P (pc + 3) ls (v :: st) k n h) := hi
    replace hi := ax_op_of hi
    obtain ⟨q, hq, hi⟩ := hi
    replace hi := ax_r_of hi
    obtain ⟨a, st, rfl, hi⟩ := hi
    replace hi := ax_gf_of hi
    obtain ⟨fs, v, ho, hv, hi⟩ := hi
    replace hst := (List.forall_mem_cons.mp hst).2
    obtain ⟨C, T, N, t0, g1, g2, g3, g4, g5, g6, g7, g8, g9⟩ := hF _ _ _ hq
    exact va_get hx hb hts g3 hown hK hP a (ax_w_at hw ho) g1 q.2.1 g2 (hts _ g6) (fun _ z => z) (by rw [List.getElem?_map, hv]; rfl) hd (hPW hi ad lsA H locs h1 h2 hk hn hw hak (List.forall_mem_cons.mpr ⟨(((hw a).2 _ ho).2 v (List.mem_of_getElem? hv)), hst⟩) hls hlm hP hD hS)
  | putfield idx =>
    obtain rfl : len = 3 := by simpa [ax_len] using hlen
    replace hi : ax_op (tb.1 I.2.1 idx) (fun q => ax_1' st fun v st => ax_ft q.2.2.1 v ∧ (q.2.2.2 = true → I.2.2.1 = true ∧ q.1 = I.2.1) ∧ ax_r st fun a st => ax_pf h a q.1 q.2.1 v fun h => P (pc + 3) ls st k n h) := hi
    replace hi := ax_op_of hi
    obtain ⟨q, hq, hi⟩ := hi
    replace hi := ax_1'_of hi
    obtain ⟨v, st, rfl, hft, hfin, hi⟩ := hi
    replace hi := ax_r_of hi
    obtain ⟨a, st, rfl, hi⟩ := hi
    replace hi := ax_pf_of hi
    obtain ⟨fs, ho, hlt, hi⟩ := hi
    have hvw := (List.forall_mem_cons.mp hst).1
    replace hst := (List.forall_mem_cons.mp (List.forall_mem_cons.mp hst).2).2
    obtain ⟨C, T, N, t0, g1, g2, g3, g4, g5, g6, g7, g8, g9⟩ := hF _ _ _ hq
    have hty : parseFieldDescriptor (T q.2.1).2.2.1 = some q.2.2.1 := by rw [g4 _ g2, g8]
    have hnar : narrow q.2.2.1 (ax_v ad rc v) = ax_v ad rc v := ax_ft_n hft
    have hfit : fits q.2.2.1 (ax_v ad rc v) = true := ax_ft_f hft
    have hset : ∀ x, (fs.map (ax_v ad rc)).set q.2.1 (ax_v ad rc x) = (fs.set q.2.1 x).map (ax_v ad rc) := fun x => by rw [List.map_set]
    have hew : ax_ew h.1 (.inr (q.1, fs.set q.2.1 v)) := fun z hz => by
      rcases List.mem_or_eq_of_mem_set hz with hz | rfl
      · exact ((hw a).2 _ ho).2 z hz
      · exact hvw
    have kk : ∀ (H1 : Heap) (locs1 : List Loc), va_P D cl ((ax_w ad rc cT h).set a (ad a, .inr (q.1, (fs.map (ax_v ad rc)).set q.2.1 (ax_v ad rc v)))) H1 → va_D A ((ax_w ad rc cT h).set a (ad a, .inr (q.1, (fs.map (ax_v ad rc)).set q.2.1 (ax_v ad rc v)))) → va_S A s.heap H1 locs1 → W p l e R s m args below meth c H1 locs1 k n Qs (F0 m (pc + 3) lsA (st.map (ax_v ad rc))) := by
      intro H1 locs1 hP1 hD1 hS1
      rw [hset] at hP1 hD1
      have e1 : (ax_w ad rc cT h).set a (ad a, .inr (q.1, (fs.set q.2.1 v).map (ax_v ad rc))) = ax_w ad rc cT (ax_up h a (.inr (q.1, fs.set q.2.1 v))) := ax_w_set (e := .inr (q.1, fs.set q.2.1 v)) hw ho
      rw [e1] at hP1 hD1
      exact hPW hi ad lsA H1 locs1 h1 h2 hk hn (ax_up_hw hw ho hew) (ax_ak_up hak (fun t a2 z => by cases z)) hst hls hlm hP1 hD1 hS1
    cases hf : q.2.2.2 with
    | false => exact va_put hx hb hts g3 t0 g4 g5 hown hK hP hD hS a (ax_w_at hw ho) g1 q.2.1 g2 (hts _ g6) (fun _ z => z) (by rw [g7]; exact hf) hty hnar hfit (by rw [List.length_map]; exact hlt) hd kk
    | true => exact va_putF hx hb hts g3 t0 g4 g5 hown hK hP hD hS a (ax_w_at hw ho) g1 q.2.1 g2 (hts _ g6) (fun _ z => z) (by rw [g7]; exact hf) (hin0 (hfin hf).1) (by rw [g9 hf, (hfin hf).2]) hty hnar hfit (by rw [List.length_map]; exact hlt) hd kk
  | iaload  =>
    obtain rfl : len = 1 := by simpa [ax_len] using hlen
    replace hi : ax_i st (fun i st => ax_sc st (fun st => vp_in i L ∧ P (pc + 1) ls (.int (xs i.toNatClampNeg) :: st) k n h) fun a st => ax_ga h a .int i fun v => P (pc + 1) ls (.int v :: st) k n h) := hi
    replace hi := ax_i_of hi
    obtain ⟨i, st, rfl, hi⟩ := hi
    replace hi := ax_sc_of hi
    rcases hi with ⟨r, rfl, hin, hi⟩ | ⟨a, r, rfl, hi⟩
    · replace hst := (List.forall_mem_cons.mp (List.forall_mem_cons.mp hst).2).2
      obtain ⟨x1, x2, x3⟩ := hG.2.2 s hGs
      exact va_sld hx hb x1 x2 x3 hS hin hd (hPW hi ad lsA H locs h1 h2 hk hn hw hak (List.forall_mem_cons.mpr ⟨ax_vw_int, hst⟩) hls hlm hP hD hS)
    · replace hst := (List.forall_mem_cons.mp (List.forall_mem_cons.mp hst).2).2
      replace hi := ax_ga_of hi
      obtain ⟨z, f, ho, hin, hi⟩ := hi
      obtain ⟨t0, ht0⟩ := hAr.1 _ (hak _ _ _ ho)
      exact va_iald hx hb hK hP a t0 (ax_w_at hw ho) ht0 hin hd (hPW hi ad lsA H locs h1 h2 hk hn hw hak (List.forall_mem_cons.mpr ⟨ax_vw_int, hst⟩) hls hlm hP hD hS)
  | caload  =>
    obtain rfl : len = 1 := by simpa [ax_len] using hlen
    replace hi : ax_i st (fun i st => ax_r st fun a st => ax_ga h a .char i fun v => P (pc + 1) ls (.int v :: st) k n h) := hi
    replace hi := ax_i_of hi
    obtain ⟨i, st, rfl, hi⟩ := hi
    replace hi := ax_r_of hi
    obtain ⟨a, st, rfl, hi⟩ := hi
    replace hst := (List.forall_mem_cons.mp (List.forall_mem_cons.mp hst).2).2
    replace hi := ax_ga_of hi
    obtain ⟨z, f, ho, hin, hi⟩ := hi
    obtain ⟨t0, ht0⟩ := hAr.1 _ (hak _ _ _ ho)
    exact va_cald hx hb hK hP a t0 (ax_w_at hw ho) ht0 hin hd (hPW hi ad lsA H locs h1 h2 hk hn hw hak (List.forall_mem_cons.mpr ⟨ax_vw_int, hst⟩) hls hlm hP hD hS)
  | baload  =>
    obtain rfl : len = 1 := by simpa [ax_len] using hlen
    replace hi : ax_i st (fun i st => ax_r st fun a st => ax_ga h a .boolean i fun v => P (pc + 1) ls (.int v :: st) k n h) := hi
    replace hi := ax_i_of hi
    obtain ⟨i, st, rfl, hi⟩ := hi
    replace hi := ax_r_of hi
    obtain ⟨a, st, rfl, hi⟩ := hi
    replace hst := (List.forall_mem_cons.mp (List.forall_mem_cons.mp hst).2).2
    replace hi := ax_ga_of hi
    obtain ⟨z, f, ho, hin, hi⟩ := hi
    obtain ⟨t0, ht0⟩ := hAr.1 _ (hak _ _ _ ho)
    exact va_zald hx hb hK hP a t0 (ax_w_at hw ho) ht0 hin hd (hPW hi ad lsA H locs h1 h2 hk hn hw hak (List.forall_mem_cons.mpr ⟨ax_vw_int, hst⟩) hls hlm hP hD hS)
  | laload  =>
    obtain rfl : len = 1 := by simpa [ax_len] using hlen
    replace hi : ax_i st (fun i st => ax_r st fun a st => ax_gl h a i fun v => P (pc + 1) ls (.long v :: st) k n h) := hi
    replace hi := ax_i_of hi
    obtain ⟨i, st, rfl, hi⟩ := hi
    replace hi := ax_r_of hi
    obtain ⟨a, st, rfl, hi⟩ := hi
    replace hst := (List.forall_mem_cons.mp (List.forall_mem_cons.mp hst).2).2
    replace hi := ax_gl_of hi
    obtain ⟨z, f, ho, hin, hi⟩ := hi
    obtain ⟨t0, ht0⟩ := hAr.1 _ (hak _ _ _ ho)
    exact va_lald hx hb hK hP a t0 (ax_w_at hw ho) ht0 hin hd (hPW hi ad lsA H locs h1 h2 hk hn hw hak (List.forall_mem_cons.mpr ⟨ax_vw_long, hst⟩) hls hlm hP hD hS)
  | aaload  =>
    obtain rfl : len = 1 := by simpa [ax_len] using hlen
    replace hi : ax_i st (fun i st => ax_r st fun a st => ax_gq h a i fun v => P (pc + 1) ls (va_rf v :: st) k n h) := hi
    replace hi := ax_i_of hi
    obtain ⟨i, st, rfl, hi⟩ := hi
    replace hi := ax_r_of hi
    obtain ⟨a, st, rfl, hi⟩ := hi
    replace hst := (List.forall_mem_cons.mp (List.forall_mem_cons.mp hst).2).2
    replace hi := ax_gq_of hi
    obtain ⟨C, z, f, ho, hin, hi⟩ := hi
    obtain ⟨t0, ht0⟩ := hAr.1 _ (hak _ _ _ ho)
    refine va_aldq hx hb hK hP a t0 (ax_w_at hw ho) ht0 hin hd ?_
    have hew := ((hw a).2 _ ho).2
    have hvw : ax_vw h.1 (va_rf (f i.toNatClampNeg)) := fun j e => hew _ j (by cases hf : f i.toNatClampNeg with | none => rw [hf] at e; cases e | some z => rw [hf] at e; cases e; rfl)
    have hv : va_rf ((f i.toNatClampNeg).map ad) = ax_v ad rc (va_rf (f i.toNatClampNeg)) := by cases f i.toNatClampNeg <;> rfl
    have kk := (hPW hi ad lsA H locs h1 h2 hk hn hw hak (List.forall_mem_cons.mpr ⟨hvw, hst⟩) hls hlm hP hD hS)
    rw [List.map_cons, ← hv] at kk
    exact kk
  | iastore  =>
    obtain rfl : len = 1 := by simpa [ax_len] using hlen
    replace hi : ax_i st (fun x st => ax_i st fun i st => ax_r st fun a st => ax_pa h a .int i x fun h => P (pc + 1) ls st k n h) := hi
    replace hi := ax_i_of hi
    obtain ⟨x, st, rfl, hi⟩ := hi
    replace hi := ax_i_of hi
    obtain ⟨i, st, rfl, hi⟩ := hi
    replace hi := ax_r_of hi
    obtain ⟨a, st, rfl, hi⟩ := hi
    replace hst := (List.forall_mem_cons.mp (List.forall_mem_cons.mp hst).2).2
    replace hst := (List.forall_mem_cons.mp hst).2
    replace hi := ax_pa_of hi
    obtain ⟨z, f, ho, hin, hi⟩ := hi
    obtain ⟨t0, ht0⟩ := hAr.1 _ (hak _ _ _ ho)
    refine va_iast hx hb hK hP hD hS a t0 (ax_w_at hw ho) ht0 hin hd ?_
    intro H1 locs1 hP1 hD1 hS1
    have e1 : (ax_w ad rc cT h).set a (ad a, .inl (cT .int, z, .inl (upd f i.toNatClampNeg x))) = ax_w ad rc cT (ax_up h a (.inl (.int, z, .inl (upd f i.toNatClampNeg x)))) := ax_w_set (e := .inl (.int, z, .inl (upd f i.toNatClampNeg x))) hw ho
    rw [e1] at hP1 hD1
    exact hPW hi ad lsA H1 locs1 h1 h2 hk hn (ax_up_hw hw ho trivial) (ax_ak_up hak (fun t a2 z => by cases z; rfl)) hst hls hlm hP1 hD1 hS1
  | castore  =>
    obtain rfl : len = 1 := by simpa [ax_len] using hlen
    replace hi : ax_i st (fun x st => ax_i st fun i st => ax_r st fun a st => ax_pa h a .char i (vp_nar .char x) fun h => P (pc + 1) ls st k n h) := hi
    replace hi := ax_i_of hi
    obtain ⟨x, st, rfl, hi⟩ := hi
    replace hi := ax_i_of hi
    obtain ⟨i, st, rfl, hi⟩ := hi
    replace hi := ax_r_of hi
    obtain ⟨a, st, rfl, hi⟩ := hi
    replace hst := (List.forall_mem_cons.mp (List.forall_mem_cons.mp hst).2).2
    replace hst := (List.forall_mem_cons.mp hst).2
    replace hi := ax_pa_of hi
    obtain ⟨z, f, ho, hin, hi⟩ := hi
    obtain ⟨t0, ht0⟩ := hAr.1 _ (hak _ _ _ ho)
    refine va_cast hx hb hK hP hD hS a t0 (ax_w_at hw ho) ht0 hin hd ?_
    intro H1 locs1 hP1 hD1 hS1
    have e1 : (ax_w ad rc cT h).set a (ad a, .inl (cT .char, z, .inl (upd f i.toNatClampNeg (vp_nar .char x)))) = ax_w ad rc cT (ax_up h a (.inl (.char, z, .inl (upd f i.toNatClampNeg (vp_nar .char x))))) := ax_w_set (e := .inl (.char, z, .inl (upd f i.toNatClampNeg (vp_nar .char x)))) hw ho
    rw [e1] at hP1 hD1
    exact hPW hi ad lsA H1 locs1 h1 h2 hk hn (ax_up_hw hw ho trivial) (ax_ak_up hak (fun t a2 z => by cases z; rfl)) hst hls hlm hP1 hD1 hS1
  | bastore  =>
    obtain rfl : len = 1 := by simpa [ax_len] using hlen
    replace hi : ax_i st (fun x st => ax_i st fun i st => ax_r st fun a st => ax_pa h a .boolean i (vp_nar .boolean x) fun h => P (pc + 1) ls st k n h) := hi
    replace hi := ax_i_of hi
    obtain ⟨x, st, rfl, hi⟩ := hi
    replace hi := ax_i_of hi
    obtain ⟨i, st, rfl, hi⟩ := hi
    replace hi := ax_r_of hi
    obtain ⟨a, st, rfl, hi⟩ := hi
    replace hst := (List.forall_mem_cons.mp (List.forall_mem_cons.mp hst).2).2
    replace hst := (List.forall_mem_cons.mp hst).2
    replace hi := ax_pa_of hi
    obtain ⟨z, f, ho, hin, hi⟩ := hi
    obtain ⟨t0, ht0⟩ := hAr.1 _ (hak _ _ _ ho)
    refine va_zast hx hb hK hP hD hS a t0 (ax_w_at hw ho) ht0 hin hd ?_
    intro H1 locs1 hP1 hD1 hS1
    have e1 : (ax_w ad rc cT h).set a (ad a, .inl (cT .boolean, z, .inl (upd f i.toNatClampNeg (vp_nar .boolean x)))) = ax_w ad rc cT (ax_up h a (.inl (.boolean, z, .inl (upd f i.toNatClampNeg (vp_nar .boolean x))))) := ax_w_set (e := .inl (.boolean, z, .inl (upd f i.toNatClampNeg (vp_nar .boolean x)))) hw ho
    rw [e1] at hP1 hD1
    exact hPW hi ad lsA H1 locs1 h1 h2 hk hn (ax_up_hw hw ho trivial) (ax_ak_up hak (fun t a2 z => by cases z; rfl)) hst hls hlm hP1 hD1 hS1
  | lastore  =>
    obtain rfl : len = 1 := by simpa [ax_len] using hlen
    replace hi : ax_l st (fun x st => ax_i st fun i st => ax_r st fun a st => ax_pl h a i x fun h => P (pc + 1) ls st k n h) := hi
    replace hi := ax_l_of hi
    obtain ⟨x, st, rfl, hi⟩ := hi
    replace hi := ax_i_of hi
    obtain ⟨i, st, rfl, hi⟩ := hi
    replace hi := ax_r_of hi
    obtain ⟨a, st, rfl, hi⟩ := hi
    replace hst := (List.forall_mem_cons.mp (List.forall_mem_cons.mp hst).2).2
    replace hst := (List.forall_mem_cons.mp hst).2
    replace hi := ax_pl_of hi
    obtain ⟨z, f, ho, hin, hi⟩ := hi
    obtain ⟨t0, ht0⟩ := hAr.1 _ (hak _ _ _ ho)
    refine va_last hx hb hK hP hD hS a t0 (ax_w_at hw ho) ht0 hin hd ?_
    intro H1 locs1 hP1 hD1 hS1
    have e1 : (ax_w ad rc cT h).set a (ad a, .inl (cT .long, z, .inr (.inl (vp_updL f i.toNatClampNeg x)))) = ax_w ad rc cT (ax_up h a (.inl (.long, z, .inr (.inl (vp_updL f i.toNatClampNeg x))))) := ax_w_set (e := .inl (.long, z, .inr (.inl (vp_updL f i.toNatClampNeg x)))) hw ho
    rw [e1] at hP1 hD1
    exact hPW hi ad lsA H1 locs1 h1 h2 hk hn (ax_up_hw hw ho trivial) (ax_ak_up hak (fun t a2 z => by cases z; rfl)) hst hls hlm hP1 hD1 hS1
  | aastore  =>
    obtain rfl : len = 1 := by simpa [ax_len] using hlen
    replace hi : ax_r st (fun v st => ax_i st fun i st => ax_r st fun a st => ax_pq cl h a i v fun h => P (pc + 1) ls st k n h) := hi
    replace hi := ax_r_of hi
    obtain ⟨v, st, rfl, hi⟩ := hi
    replace hi := ax_i_of hi
    obtain ⟨i, st, rfl, hi⟩ := hi
    replace hi := ax_r_of hi
    obtain ⟨a, st, rfl, hi⟩ := hi
    replace hst := (List.forall_mem_cons.mp (List.forall_mem_cons.mp hst).2).2
    replace hst := (List.forall_mem_cons.mp hst).2
    replace hi := ax_pq_of hi
    obtain ⟨q, z, f, ci, vs, ho, hv, hcl, hin, hi⟩ := hi
    obtain ⟨t0, ht0⟩ := hAr.1 _ (hak _ _ _ ho)
    refine va_astq (r := q) hx hb hK hP hD hS a t0 v ci (ax_w_at hw ho) ht0 (ax_w_at hw hv) hcl hin hd ?_
    intro H1 locs1 hP1 hD1 hS1
    have hf : va_up (fun j => (f j).map ad) i.toNatClampNeg (some (ad v)) = fun j => (va_up f i.toNatClampNeg (some v) j).map ad := by
      funext j
      unfold va_up
      split <;> rfl
    rw [hf] at hP1 hD1
    have e1 : (ax_w ad rc cT h).set a (ad a, .inl (cT (.object q.1), z, .inr (.inr (.inr (.inr (fun j => (va_up f i.toNatClampNeg (some v) j).map ad)))))) = ax_w ad rc cT (ax_up h a (.inl (.object q.1, z, .inr (.inr (.inr (.inr (va_up f i.toNatClampNeg (some v)))))))) := ax_w_set (e := .inl (.object q.1, z, .inr (.inr (.inr (.inr (va_up f i.toNatClampNeg (some v))))))) hw ho
    rw [e1] at hP1 hD1
    have hew : ax_ew h.1 (.inl (.object q.1, z, .inr (.inr (.inr (.inr (va_up f i.toNatClampNeg (some v))))))) := by
      intro k2 j hj
      unfold va_up at hj
      split at hj
      · cases hj
        exact ((hw v).2 _ hv).1
      · exact ((hw a).2 _ ho).2 k2 j hj
    exact hPW hi ad lsA H1 locs1 h1 h2 hk hn (ax_up_hw hw ho hew) (ax_ak_up hak (fun t a2 z => by cases z; exact hak _ _ _ ho)) hst hls hlm hP1 hD1 hS1
  | arraylength  =>
    obtain rfl : len = 1 := by simpa [ax_len] using hlen
    replace hi : ax_sc st (fun st => P (pc + 1) ls (.int (Int32.ofNat L) :: st) k n h) (fun a st => ax_al h a fun z => P (pc + 1) ls (.int (Int32.ofNat z) :: st) k n h) := hi
    replace hi := ax_sc_of hi
    rcases hi with ⟨r, rfl, hi⟩ | ⟨a, r, rfl, hi⟩
    · replace hst := (List.forall_mem_cons.mp hst).2
      obtain ⟨x1, x2, x3⟩ := hG.2.2 s hGs
      exact va_slen hx hb x1 x2 x3 hS hd (hPW hi ad lsA H locs h1 h2 hk hn hw hak (List.forall_mem_cons.mpr ⟨ax_vw_int, hst⟩) hls hlm hP hD hS)
    · replace hst := (List.forall_mem_cons.mp hst).2
      replace hi := ax_al_of hi
      obtain ⟨t, z, f, ho, hi⟩ := hi
      obtain ⟨t0, ht0⟩ := hAr.1 _ (hak _ _ _ ho)
      obtain ⟨g, hg⟩ := ax_e_arr ad rc cT t z f
      have hat := ax_w_at (ad := ad) (rc := rc) (cT := cT) hw ho
      rw [hg] at hat
      exact va_alen hx hb hK hP a t0 hat ht0 rfl hd (hPW hi ad lsA H locs h1 h2 hk hn hw hak (List.forall_mem_cons.mpr ⟨ax_vw_int, hst⟩) hls hlm hP hD hS)
  | newarray ty =>
    obtain rfl : len = 2 := by simpa [ax_len] using hlen
    replace hi : ax_i st (fun x st => ¬ x < 0 ∧ x.toNatClampNeg ≤ 1000 ∧ k + 1 ≤ I.2.2.2.2.2.1 ∧ n + x.toNatClampNeg ≤ I.2.2.2.2.2.2 ∧ ax_op (ax_zero (newarray.typeOf ty) x.toNatClampNeg) fun a => P (pc + 2) ls (.ref h.1 :: st) (k + 1) (n + x.toNatClampNeg) (ax_nw h (.inl (newarray.typeOf ty, a)))) := hi
    replace hi := ax_i_of hi
    obtain ⟨x, st, rfl, hx0, hx1, hk1, hn1, hi⟩ := hi
    replace hst := (List.forall_mem_cons.mp hst).2
    replace hi := ax_op_of hi
    obtain ⟨a0, ha0, hi⟩ := hi
    obtain ⟨z1, z2, z3, z4, z5⟩ := ax_zero_of ha0
    obtain ⟨t0, ht0⟩ := hAr.1 _ z1
    refine va_newa hx hb (hts _ (hAr.2 _ z2)) rfl hK hP hD hS hA (a0 := a0) z3 hx0 rfl (Nat.le_trans (Nat.mul_le_mul hx1 z4) (by decide)) (Nat.le_trans hk1 hRc) (Nat.le_trans hn1 hRs) hd ?_
    intro q cA H1 hK1 hP1 hD1 hS1
    have ecA : cA = cT (newarray.typeOf ty) := ax_RA (hK1.2 tys.length (cA, newarray.typeOf ty) (by simp)).2 (hK.2 t0 _ ht0).2
    subst ecA
    have e0 : ∀ ad2, (.inl (cT (newarray.typeOf ty), a0) : va_E) = ax_e ad2 rc cT (.inl (newarray.typeOf ty, a0)) := z5 rc cT
    rw [e0 (fun i => if i = h.1 then q else ad i), ax_w_nw hw] at hP1 hD1
    have hst2 : (Value.ref q :: st.map (ax_v ad rc)) = (Value.ref h.1 :: st).map (ax_v (fun i => if i = h.1 then q else ad i) rc) := by
      rw [List.map_cons, ax_vs_ag (ad := ad) (n := h.1) (fun j hj => if_neg (by omega)) hst]
      simp [ax_v]
    have kk := hPW hi (fun i => if i = h.1 then q else ad i) lsA H1 locs (Nat.le_succ_of_le h1) (fun i hi => by rw [← h2 i hi]; exact if_neg (by omega)) hk1 hn1 (ax_nw_hw hw (ax_zero_ew ha0)) (ax_ak_nw hak (fun t a2 z => by cases z; exact z1)) (List.forall_mem_cons.mpr ⟨ax_vw_ref (Nat.lt_succ_self _), fun v hv => (hst v hv).le (Nat.le_succ _)⟩) (hls.le (Nat.le_succ _)) (hlm.ag hls (fun j hj => if_neg (by omega))) hP1 hD1 hS1
    rw [← hst2] at kk
    exact kk
  | anewarray idx =>
    obtain rfl : len = 3 := by simpa [ax_len] using hlen
    replace hi : ax_i st (fun x st => ¬ x < 0 ∧ x.toNatClampNeg ≤ 1000 ∧ k + 1 ≤ I.2.2.2.2.2.1 ∧ n + x.toNatClampNeg ≤ I.2.2.2.2.2.2 ∧ ax_op (tb.2.2.2 I.2.1 idx) fun q => ax_kt (.object q.2.2) = true ∧ P (pc + 3) ls (.ref h.1 :: st) (k + 1) (n + x.toNatClampNeg) (ax_nw h (.inl (.object q.2.2, x.toNatClampNeg, .inr (.inr (.inr (.inr (fun _ => none)))))))) := hi
    replace hi := ax_i_of hi
    obtain ⟨x, st, rfl, hx0, hx1, hk1, hn1, hi⟩ := hi
    replace hst := (List.forall_mem_cons.mp hst).2
    replace hi := ax_op_of hi
    obtain ⟨⟨ci, fs, C⟩, hq0, g2, hi⟩ := hi
    have g2 : ax_kt (.object C) = true := g2
    obtain ⟨T, N, ty0, -, -, -, -, -, -, g1, -, -⟩ := hN.1 _ _ _ _ _ hq0
    have g3 : ∀ s, G s → va_AO C s := by
      have : C = "NoteSheet$Cell" := by simpa [ax_kt] using g2
      rw [this]
      exact hN.2
    obtain ⟨t0, ht0⟩ := hAr.1 _ g2
    refine va_newq hx hb hown (hts _ g1) (g3 s hGs) hK hP hD hS hA hx0 rfl (Nat.le_trans (Nat.mul_le_mul hx1 (Nat.le_refl 4)) (by decide)) (Nat.le_trans hk1 hRc) (Nat.le_trans hn1 hRs) hd ?_
    intro q cA H1 hK1 hP1 hD1 hS1
    have ecA : cA = cT (.object C) := ax_RA (hK1.2 tys.length (cA, .object C) (by simp)).2 (hK.2 t0 _ ht0).2
    subst ecA
    have e0 : ∀ ad2, (.inl (cT (.object C), x.toNatClampNeg, .inr (.inr (.inr (.inr (fun _ => none))))) : va_E) = ax_e ad2 rc cT (.inl (.object C, x.toNatClampNeg, .inr (.inr (.inr (.inr (fun _ => none)))))) := fun _ => rfl
    rw [e0 (fun i => if i = h.1 then q else ad i), ax_w_nw hw] at hP1 hD1
    have hst2 : (Value.ref q :: st.map (ax_v ad rc)) = (Value.ref h.1 :: st).map (ax_v (fun i => if i = h.1 then q else ad i) rc) := by
      rw [List.map_cons, ax_vs_ag (ad := ad) (n := h.1) (fun j hj => if_neg (by omega)) hst]
      simp [ax_v]
    have kk := hPW hi (fun i => if i = h.1 then q else ad i) lsA H1 locs (Nat.le_succ_of_le h1) (fun i hi => by rw [← h2 i hi]; exact if_neg (by omega)) hk1 hn1 (ax_nw_hw hw (fun k2 j z => by cases z)) (ax_ak_nw hak (fun t a2 z => by cases z; exact g2)) (List.forall_mem_cons.mpr ⟨ax_vw_ref (Nat.lt_succ_self _), fun v hv => (hst v hv).le (Nat.le_succ _)⟩) (hls.le (Nat.le_succ _)) (hlm.ag hls (fun j hj => if_neg (by omega))) hP1 hD1 hS1
    rw [← hst2] at kk
    exact kk
  | new idx =>
    obtain rfl : len = 3 := by simpa [ax_len] using hlen
    replace hi : ax_op (tb.2.2.2 I.2.1 idx) (fun q => k + 1 ≤ I.2.2.2.2.2.1 ∧ n + q.2.1.length ≤ I.2.2.2.2.2.2 ∧ P (pc + 3) ls (.ref h.1 :: st) (k + 1) (n + q.2.1.length) (ax_nw h (.inr (q.1, q.2.1)))) := hi
    replace hi := ax_op_of hi
    obtain ⟨⟨ci, fs, C⟩, hq0, hk1, hn1, hi⟩ := hi
    obtain ⟨T, N, ty0, g1, g2, g3, g4, g5, g6, g7, g8, g9⟩ := hN.1 _ _ _ _ _ hq0
    have g4 : fs.length = N := g4
    subst g4
    refine va_new hx hb hts g2 ty0 g3 hown (hts _ g7) (hts _ g8) (hts _ g9) hK hP hD hS hA g1 g5 (Nat.le_trans hk1 hRc) (Nat.le_trans hn1 hRs) hd ?_
    intro q H1 hP1 hD1 hS1
    have e0 : ∀ ad2, (.inr (ci, fs) : va_E) = ax_e ad2 rc cT (.inr (ci, fs)) := fun ad2 => by
      show _ = (.inr (ci, fs.map (ax_v ad2 rc)) : va_E)
      rw [ax_nr_vs g6]
    rw [e0 (fun i => if i = h.1 then q else ad i), ax_w_nw hw] at hP1 hD1
    have hst2 : (Value.ref q :: st.map (ax_v ad rc)) = (Value.ref h.1 :: st).map (ax_v (fun i => if i = h.1 then q else ad i) rc) := by
      rw [List.map_cons, ax_vs_ag (ad := ad) (n := h.1) (fun j hj => if_neg (by omega)) hst]
      simp [ax_v]
    have kk := hPW hi (fun i => if i = h.1 then q else ad i) lsA H1 locs (Nat.le_succ_of_le h1) (fun i hi => by rw [← h2 i hi]; exact if_neg (by omega)) hk1 hn1 (ax_nw_hw hw (fun v hv => ax_nr_w (g6 v hv))) (ax_ak_nw hak (fun t a2 z => by cases z)) (List.forall_mem_cons.mpr ⟨ax_vw_ref (Nat.lt_succ_self _), fun v hv => (hst v hv).le (Nat.le_succ _)⟩) (hls.le (Nat.le_succ _)) (hlm.ag hls (fun j hj => if_neg (by omega))) hP1 hD1 hS1
    rw [← hst2] at kk
    exact kk
  | invokevirtual idx =>
    obtain rfl : len = 3 := by simpa [ax_len] using hlen
    replace hi : ax_op (tb.2.1 I.2.1 idx) (fun q => ax_sm q.1 (fun y => q.2.2.2.2.2 = 1 ∧ ax_tk q.2.1 st fun as st => ax_r st fun a st => ax_io h a q.2.2.2.2.1 ∧ ax_w8 st ∧ k + q.2.2.1 ≤ I.2.2.2.2.2.1 ∧ n + q.2.2.2.1 ≤ I.2.2.2.2.2.2 ∧ ax_M cl L xs tb mt d y (.ref a :: as) h fun v h => P (pc + 3) ls (v.toList ++ st) (k + q.2.2.1) (n + q.2.2.2.1) h) fun y => q.2.2.2.2.2 = 1 ∧ ax_prim (d + 1) h y st fun st h => P (pc + 3) ls st k n h) := hi
    replace hi := ax_op_of hi
    obtain ⟨⟨tg, np, mc', ms', ci, kd⟩, hq0, hi⟩ := hi
    rcases tg with y | y
    · obtain ⟨hkd, hi⟩ := hi
      have hkd : kd = 1 := hkd
      subst hkd
      obtain ⟨hnp, hi⟩ := hi
      obtain ⟨J, c1, c2, c3, c4, c5, c6, c7, c8, c9, c10, c11, c12⟩ := hC.1 _ _ _ _ _ _ _ _ hq0
      subst c2; subst c3; subst c4
      have hnp : np ≤ st.length := hnp
      have hsp : st = (st.take np).reverse.reverse ++ st.drop np := by rw [List.reverse_reverse, List.take_append_drop]
      have hal : ((st.take np).reverse).length = np := by rw [List.length_reverse, List.length_take]; omega
      dsimp only at hi
      generalize (st.take np).reverse = as at hi hsp hal
      generalize st.drop np = st1 at hi hsp
      subst hsp
      replace hi := ax_r_of hi
      obtain ⟨a, st, rfl, hio, hw8, hk1, hn1, hi⟩ := hi
      have has : ∀ v ∈ as, ax_vw h.1 v := fun v hv => hst v (List.mem_append_left _ (List.mem_reverse.mpr hv))
      replace hst := fun v hv => hst v (List.mem_append_right _ hv)
      have ha := (List.forall_mem_cons.mp hst).1
      replace hst := (List.forall_mem_cons.mp hst).2
      obtain ⟨fs, ho⟩ := ax_io_of hio
      have hgd : GoodIn Tb (Cond.code (nm y) J.1 J.2.2.2.1 J.2.2.2.2.1 :: Tb) := fun w hw2 => by
        rcases List.mem_cons.mp hw2 with rfl | hw2
        · exact hgood _ c6
        · exact hgood w hw2
      have hR2 : (ax_rm d J.2.2.2.2.2.1 J.2.2.2.2.2.2).frames + 1 ≤ R.frames ∧ 8 + (J.2.2.2.1 + 11) + (ax_rm d J.2.2.2.2.2.1 J.2.2.2.2.2.2).locals ≤ R.locals := ⟨hRf, by have := (hM y J c1).2.2.2; show 8 + (J.2.2.2.1 + 11) + 40 * d ≤ R.locals; omega⟩
      have hcb := callB_of (R := R) np hts hgd rfl rfl rfl (hts _ c7) (hts _ c8) c9 hR2
      obtain ⟨c11a, c11b⟩ := c11 rfl
      obtain ⟨cq, hcq⟩ : ∃ r : vw_C, cl[J.2.1]? = some r := by
        obtain ⟨r, hr, -⟩ := hP a _ (ax_w_at hw ho)
        exact ⟨r, hr⟩
      have hrec : ∃ cellB : Cell, H[ad a]? = some cellB ∧ cellB.vm.isStatics = false ∧ s.vm.findClass (cn J.2.1) = some cellB.cls := by
        obtain ⟨cell, r1, r2, r3⟩ := va_recv hK hP hcq (ax_w_at hw ho)
        exact ⟨cell, r1, r2, by rw [← hcn _ _ hcq]; exact r3⟩
      have hmet := IH y J (.ref a :: as) h _ c1 hi hw hak (List.forall_mem_cons.mpr ⟨ha, has⟩) ad
      have hrun := va_runV (R := R) (H := H) (locs := locs) (cells := k) (slots := n) (meth := meth) (below := below) (e := e) (C := cn J.2.1) (b := ad a) (As := as.map (ax_v ad rc)) (rest := st.map (ax_v ad rc)) (g := F0 m pc lsA ((as.reverse ++ .ref a :: st).map (ax_v ad rc))) ⟨hx, hb, hml, hown, hts⟩ hmet ⟨hcb, hts _ c11a, hts _ c11b⟩ ⟨ax_Pc.blind hG, hrec, fun U hU hW => ⟨rfl, fun q hq2 => hA q (Nat.le_trans hS.1 (by rw [← hU]; exact hq2)), by rw [hU]; exact hP, va_K.moved hW.alike hK, hD, hG.1 s U hGs hW (by rw [hU]; exact hS.1) (fun q h3 h4 => by rw [hU]; exact hS.2.1 q h3 h4)⟩⟩ rfl (by rw [List.length_map]; exact hal) hsz (by simp [ax_v]) (lv_room (by rw [ax_v_sum]; exact hw8)) hd ⟨Nat.le_trans hk1 hRc, Nat.le_trans hn1 hRs⟩
      refine ax_ret hrun hS ?_
      intro v h' ad' H1 locs1 hq b1 b2 b3 b4 b5 hP1 hD1 hS1
      have hst2 : (v.map (ax_v ad' rc)).toList ++ st.map (ax_v ad rc) = (v.toList ++ st).map (ax_v ad' rc) := by
        rw [List.map_append, ax_vs_ag b2 hst]
        cases v <;> rfl
      rw [hst2]
      exact hPW hq ad' lsA H1 locs1 (Nat.le_trans h1 b1) (fun i hi => by rw [b2 i (Nat.lt_of_lt_of_le hi h1), h2 i hi]) hk1 hn1 b3 b4 (fun z hz => by
        rcases List.mem_append.mp hz with hz | hz
        · cases v with
          | none => cases hz
          | some v => rw [List.mem_singleton.mp hz]; exact b5 v rfl
        · exact (hst z hz).le b1) (hls.le b1) (hlm.ag hls b2) hP1 hD1 hS1
    · obtain ⟨hkd, hi⟩ := hi
      have hkd : kd = 1 := hkd
      subst hkd
      obtain ⟨c1, c2, c3, c4⟩ := hC.2 _ _ _ _ _ _ _ _ hq0
      obtain rfl : y = 4 := c3 rfl
      replace hi : ax_i st (fun ch st => match st with
        | .retAddr 1 :: st => 8 ≤ d + 1 ∧ ax_w8 st ∧ P (pc + 3) ls (.int (ax_ix ch) :: st) k n h
        | _ => False) := hi
      replace hi := ax_i_of hi
      obtain ⟨ch, st, rfl, hi⟩ := hi
      split at hi
      · rename_i st
        obtain ⟨h8, hw8, hi⟩ := hi
        replace hst := (List.forall_mem_cons.mp (List.forall_mem_cons.mp hst).2).2
        exact hIx idx pc lsA (st.map (ax_v ad rc)) ch H locs k n h8 hd ⟨np, mc', ms', ci, hq0⟩ (by rw [ax_v_sum]; exact hw8) hsz hS (Nat.le_trans hk hRc) (Nat.le_trans hn hRs) (fun H1 locs1 e1 e2 => by rw [e1, e2]; exact (hPW hi ad lsA H locs h1 h2 hk hn hw hak (List.forall_mem_cons.mpr ⟨ax_vw_int, hst⟩) hls hlm hP hD hS))
      · exact hi.elim
  | invokespecial idx =>
    obtain rfl : len = 3 := by simpa [ax_len] using hlen
    replace hi : ax_op (tb.2.1 I.2.1 idx) (fun q => ax_sm q.1 (fun y => q.2.2.2.2.2 = 2 ∧ ax_tk q.2.1 st fun as st => ax_r st fun a st => ax_w8 st ∧ k + q.2.2.1 ≤ I.2.2.2.2.2.1 ∧ n + q.2.2.2.1 ≤ I.2.2.2.2.2.2 ∧ ax_M cl L xs tb mt d y (.ref a :: as) h fun v h => P (pc + 3) ls (v.toList ++ st) (k + q.2.2.1) (n + q.2.2.2.1) h) fun y => q.2.2.2.2.2 = 2 ∧ ax_prim (d + 1) h y st fun st h => P (pc + 3) ls st k n h) := hi
    replace hi := ax_op_of hi
    obtain ⟨⟨tg, np, mc', ms', ci, kd⟩, hq0, hi⟩ := hi
    rcases tg with y | y
    · obtain ⟨hkd, hi⟩ := hi
      have hkd : kd = 2 := hkd
      subst hkd
      obtain ⟨hnp, hi⟩ := hi
      obtain ⟨J, c1, c2, c3, c4, c5, c6, c7, c8, c9, c10, c11, c12⟩ := hC.1 _ _ _ _ _ _ _ _ hq0
      subst c2; subst c3; subst c4
      have hnp : np ≤ st.length := hnp
      have hsp : st = (st.take np).reverse.reverse ++ st.drop np := by rw [List.reverse_reverse, List.take_append_drop]
      have hal : ((st.take np).reverse).length = np := by rw [List.length_reverse, List.length_take]; omega
      dsimp only at hi
      generalize (st.take np).reverse = as at hi hsp hal
      generalize st.drop np = st1 at hi hsp
      subst hsp
      replace hi := ax_r_of hi
      obtain ⟨a, st, rfl, hw8, hk1, hn1, hi⟩ := hi
      have has : ∀ v ∈ as, ax_vw h.1 v := fun v hv => hst v (List.mem_append_left _ (List.mem_reverse.mpr hv))
      replace hst := fun v hv => hst v (List.mem_append_right _ hv)
      have ha := (List.forall_mem_cons.mp hst).1
      replace hst := (List.forall_mem_cons.mp hst).2
      have hgd : GoodIn Tb (Cond.code (nm y) J.1 J.2.2.2.1 J.2.2.2.2.1 :: Tb) := fun w hw2 => by
        rcases List.mem_cons.mp hw2 with rfl | hw2
        · exact hgood _ c6
        · exact hgood w hw2
      have hR2 : (ax_rm d J.2.2.2.2.2.1 J.2.2.2.2.2.2).frames + 1 ≤ R.frames ∧ 8 + (J.2.2.2.1 + 11) + (ax_rm d J.2.2.2.2.2.1 J.2.2.2.2.2.2).locals ≤ R.locals := ⟨hRf, by have := (hM y J c1).2.2.2; show 8 + (J.2.2.2.1 + 11) + 40 * d ≤ R.locals; omega⟩
      have hcb := callB_of (R := R) np hts hgd rfl rfl rfl (hts _ c7) (hts _ c8) c9 hR2
      obtain ⟨c12a, c12b, c12c⟩ := c12 rfl
      have hmet := IH y J (.ref a :: as) h _ c1 hi hw hak (List.forall_mem_cons.mpr ⟨ha, has⟩) ad
      rw [c12b] at hmet hcb
      have hrun := va_runI (R := R) (H := H) (locs := locs) (cells := k) (slots := n) (meth := meth) (below := below) (e := e) (b := ad a) (As := as.map (ax_v ad rc)) (rest := st.map (ax_v ad rc)) (g := F0 m pc lsA ((as.reverse ++ .ref a :: st).map (ax_v ad rc))) ⟨hx, hb, hml, hown, hts⟩ hmet ⟨hcb, c12a, hts _ c12c⟩ ⟨ax_Pc.blind hG, fun U hU hW => ⟨rfl, fun q hq2 => hA q (Nat.le_trans hS.1 (by rw [← hU]; exact hq2)), by rw [hU]; exact hP, va_K.moved hW.alike hK, hD, hG.1 s U hGs hW (by rw [hU]; exact hS.1) (fun q h3 h4 => by rw [hU]; exact hS.2.1 q h3 h4)⟩⟩ rfl (by rw [List.length_map]; exact hal) hsz (by simp [ax_v]) (lv_room (by rw [ax_v_sum]; exact hw8)) hd ⟨Nat.le_trans hk1 hRc, Nat.le_trans hn1 hRs⟩
      refine ax_ret hrun hS ?_
      intro v h' ad' H1 locs1 hq b1 b2 b3 b4 b5 hP1 hD1 hS1
      have hst2 : (v.map (ax_v ad' rc)).toList ++ st.map (ax_v ad rc) = (v.toList ++ st).map (ax_v ad' rc) := by
        rw [List.map_append, ax_vs_ag b2 hst]
        cases v <;> rfl
      rw [hst2]
      exact hPW hq ad' lsA H1 locs1 (Nat.le_trans h1 b1) (fun i hi => by rw [b2 i (Nat.lt_of_lt_of_le hi h1), h2 i hi]) hk1 hn1 b3 b4 (fun z hz => by
        rcases List.mem_append.mp hz with hz | hz
        · cases v with
          | none => cases hz
          | some v => rw [List.mem_singleton.mp hz]; exact b5 v rfl
        · exact (hst z hz).le b1) (hls.le b1) (hlm.ag hls b2) hP1 hD1 hS1
    · obtain ⟨hkd, hi⟩ := hi
      have hkd : kd = 2 := hkd
      subst hkd
      obtain ⟨c1, c2, c3, c4⟩ := hC.2 _ _ _ _ _ _ _ _ hq0
      obtain rfl : y = 0 := c4 rfl
      obtain ⟨w1, w2, w3⟩ := c1
      replace hi : ax_r st (fun _ st => ax_w8 st ∧ P (pc + 3) ls st k n h) := hi
      replace hi := ax_r_of hi
      obtain ⟨a, st, rfl, hw8, hi⟩ := hi
      replace hst := (List.forall_mem_cons.mp hst).2
      exact W.objInit hx hb hown (hts _ w1) (hts _ w2) (hts _ w3) rfl (by rw [hml]; exact hsz) rfl hd (by omega) (by show 2 * 0 + _ + 12 ≤ _; rw [ax_v_sum]; have : (st.map fun v => v.category).sum ≤ 8 := hw8; omega) (hPW hi ad lsA H locs h1 h2 hk hn hw hak hst hls hlm hP hD hS)
  | invokestatic idx =>
    obtain rfl : len = 3 := by simpa [ax_len] using hlen
    replace hi : ax_op (tb.2.1 I.2.1 idx) (fun q => ax_sm q.1 (fun y => q.2.2.2.2.2 = 0 ∧ ax_tk q.2.1 st fun as st => ax_w8 st ∧ k + q.2.2.1 ≤ I.2.2.2.2.2.1 ∧ n + q.2.2.2.1 ≤ I.2.2.2.2.2.2 ∧ ax_M cl L xs tb mt d y as h fun v h => P (pc + 3) ls (v.toList ++ st) (k + q.2.2.1) (n + q.2.2.2.1) h) fun y => q.2.2.2.2.2 = 0 ∧ ax_prim (d + 1) h y st fun st h => P (pc + 3) ls st k n h) := hi
    replace hi := ax_op_of hi
    obtain ⟨⟨tg, np, mc', ms', ci, kd⟩, hq0, hi⟩ := hi
    rcases tg with y | y
    · obtain ⟨hkd, hi⟩ := hi
      have hkd : kd = 0 := hkd
      subst hkd
      obtain ⟨hnp, hi⟩ := hi
      obtain ⟨J, c1, c2, c3, c4, c5, c6, c7, c8, c9, c10, c11, c12⟩ := hC.1 _ _ _ _ _ _ _ _ hq0
      subst c2; subst c3; subst c4
      have hnp : np ≤ st.length := hnp
      have hsp : st = (st.take np).reverse.reverse ++ st.drop np := by rw [List.reverse_reverse, List.take_append_drop]
      have hal : ((st.take np).reverse).length = np := by rw [List.length_reverse, List.length_take]; omega
      dsimp only at hi
      generalize (st.take np).reverse = as at hi hsp hal
      generalize st.drop np = st1 at hi hsp
      subst hsp
      have hst0 := hst
      obtain ⟨hw8, hk1, hn1, hi⟩ := hi
      have has : ∀ v ∈ as, ax_vw h.1 v := fun v hv => hst v (List.mem_append_left _ (List.mem_reverse.mpr hv))
      replace hst := fun v hv => hst0 v (List.mem_append_right _ hv)
      have hgd : GoodIn Tb (Cond.code (nm y) J.1 J.2.2.2.1 J.2.2.2.2.1 :: Tb) := fun w hw2 => by
        rcases List.mem_cons.mp hw2 with rfl | hw2
        · exact hgood _ c6
        · exact hgood w hw2
      have hR2 : (ax_rm d J.2.2.2.2.2.1 J.2.2.2.2.2.2).frames + 1 ≤ R.frames ∧ 8 + (J.2.2.2.1 + 11) + (ax_rm d J.2.2.2.2.2.1 J.2.2.2.2.2.2).locals ≤ R.locals := ⟨hRf, by have := (hM y J c1).2.2.2; show 8 + (J.2.2.2.1 + 11) + 40 * d ≤ R.locals; omega⟩
      have hcb := callB_of (R := R) np hts hgd rfl rfl rfl (hts _ c7) (hts _ c8) c9 hR2
      have hmet := IH y J as h _ c1 hi hw hak has ad
      have hrun := va_runS (R := R) (H := H) (locs := locs) (cells := k) (slots := n) (meth := meth) (below := below) (e := e) (As := as.map (ax_v ad rc)) (rest := st1.map (ax_v ad rc)) (g := F0 m pc lsA ((as.reverse ++ st1).map (ax_v ad rc))) ⟨hx, hb, hml, hown, hts⟩ hmet ⟨hcb, hts _ (c10 rfl)⟩ ⟨ax_Pc.blind hG, fun U hU hW => ⟨rfl, fun q hq2 => hA q (Nat.le_trans hS.1 (by rw [← hU]; exact hq2)), by rw [hU]; exact hP, va_K.moved hW.alike hK, hD, hG.1 s U hGs hW (by rw [hU]; exact hS.1) (fun q h3 h4 => by rw [hU]; exact hS.2.1 q h3 h4)⟩⟩ rfl (by rw [List.length_map]; exact hal) hsz (by simp) (lv_room (by rw [ax_v_sum]; exact hw8)) hd ⟨Nat.le_trans hk1 hRc, Nat.le_trans hn1 hRs⟩
      refine ax_ret hrun hS ?_
      intro v h' ad' H1 locs1 hq b1 b2 b3 b4 b5 hP1 hD1 hS1
      have hst2 : (v.map (ax_v ad' rc)).toList ++ st1.map (ax_v ad rc) = (v.toList ++ st1).map (ax_v ad' rc) := by
        rw [List.map_append, ax_vs_ag b2 hst]
        cases v <;> rfl
      rw [hst2]
      exact hPW hq ad' lsA H1 locs1 (Nat.le_trans h1 b1) (fun i hi => by rw [b2 i (Nat.lt_of_lt_of_le hi h1), h2 i hi]) hk1 hn1 b3 b4 (fun z hz => by
        rcases List.mem_append.mp hz with hz | hz
        · cases v with
          | none => cases hz
          | some v => rw [List.mem_singleton.mp hz]; exact b5 v rfl
        · exact (hst z hz).le b1) (hls.le b1) (hlm.ag hls b2) hP1 hD1 hS1
    · obtain ⟨hkd, hi⟩ := hi
      have hkd : kd = 0 := hkd
      subst hkd
      obtain ⟨c1, c2, c3, c4⟩ := hC.2 _ _ _ _ _ _ _ _ hq0
      rcases c2 rfl with rfl | rfl | rfl
      · obtain ⟨w1, w2, w3, w4⟩ := c1
        replace hi : ax_i st (fun b st => ax_i st fun a st => ax_w8 st ∧ P (pc + 3) ls (.int (if a < b then b else a) :: st) k n h) := hi
        replace hi := ax_i_of hi
        obtain ⟨y2, st, rfl, hi⟩ := hi
        replace hi := ax_i_of hi
        obtain ⟨x2, st, rfl, hw8, hi⟩ := hi
        replace hst := (List.forall_mem_cons.mp (List.forall_mem_cons.mp hst).2).2
        exact va_mmax hx hb (by rw [hml]; exact hsz.symm) hown (hts _ w1) (hts _ w2) (hts _ w3) (hts _ w4) (by omega) (by rw [ax_v_sum]; have : (st.map fun v => v.category).sum ≤ 8 := hw8; omega) (Nat.le_trans hk hRc) (Nat.le_trans hn hRs) hd (hPW hi ad lsA H locs h1 h2 hk hn hw hak (List.forall_mem_cons.mpr ⟨ax_vw_int, hst⟩) hls hlm hP hD hS)
      · obtain ⟨w1, w2, w3, w4⟩ := c1
        replace hi : ax_i st (fun b st => ax_i st fun a st => ax_w8 st ∧ P (pc + 3) ls (.int (if b < a then b else a) :: st) k n h) := hi
        replace hi := ax_i_of hi
        obtain ⟨y2, st, rfl, hi⟩ := hi
        replace hi := ax_i_of hi
        obtain ⟨x2, st, rfl, hw8, hi⟩ := hi
        replace hst := (List.forall_mem_cons.mp (List.forall_mem_cons.mp hst).2).2
        exact va_mmin hx hb (by rw [hml]; exact hsz.symm) hown (hts _ w1) (hts _ w2) (hts _ w3) (hts _ w4) (by omega) (by rw [ax_v_sum]; have : (st.map fun v => v.category).sum ≤ 8 := hw8; omega) (Nat.le_trans hk hRc) (Nat.le_trans hn hRs) hd (hPW hi ad lsA H locs h1 h2 hk hn hw hak (List.forall_mem_cons.mpr ⟨ax_vw_int, hst⟩) hls hlm hP hD hS)
      · obtain ⟨w1, w2, w3, w4⟩ := c1
        replace hi : ax_cp h st (fun st h => P (pc + 3) ls st k n h) := hi
        replace hi := ax_cp_of hi
        obtain ⟨n2, dp, a, sp, b, r, t1, n0, f, n1, g, rfl, ho0, ho1, p2, p3, p4, p5, p6, p7, p8, p9, hi⟩ := hi
        replace hst := (List.forall_mem_cons.mp (List.forall_mem_cons.mp (List.forall_mem_cons.mp (List.forall_mem_cons.mp (List.forall_mem_cons.mp hst).2).2).2).2).2
        obtain ⟨t0, ht0⟩ := hAr.1 _ (hak _ _ _ ho0)
        refine va_copyi hx hb (by rw [hml]; exact hsz.symm) hown (hts _ w1) (hts _ w2) (hts _ w3) (hts _ w4) hK hP hD hS b a t0 t0 (ax_w_at hw ho0) (ax_w_at hw ho1) ht0 ht0 p2 p3 p4 p5 p6 p7 p8 (by omega) (by rw [ax_v_sum]; have : (r.map fun v => v.category).sum ≤ 8 := p9; have e7 : nativeFrameWords "java/lang/System" "arraycopy" 5 = 7 := (by decide +kernel); rw [e7]; omega) hd ?_
        intro H1 locs1 hP1 hD1 hS1
        have e1 : (ax_w ad rc cT h).set a (ad a, .inl (cT t1, n1, .inl (va_cpy f g sp.toNatClampNeg dp.toNatClampNeg n2.toNatClampNeg))) = ax_w ad rc cT (ax_up h a (.inl (t1, n1, .inl (va_cpy f g sp.toNatClampNeg dp.toNatClampNeg n2.toNatClampNeg)))) := ax_w_set (e := .inl (t1, n1, .inl (va_cpy f g sp.toNatClampNeg dp.toNatClampNeg n2.toNatClampNeg))) hw ho1
        rw [e1] at hP1 hD1
        exact hPW hi ad lsA H1 locs1 h1 h2 hk hn (ax_up_hw hw ho1 trivial) (ax_ak_up hak (fun t a2 z => by cases z; exact hak _ _ _ ho0)) hst hls hlm hP1 hD1 hS1
  | ireturn  =>
    obtain rfl : len = 1 := by simpa [ax_len] using hlen
    replace hi : ax_i st (fun v r => r = [] ∧ ax_op I.2.2.2.2.1 fun ty => narrow ty (.int v) = .int v ∧ k ≤ I.2.2.2.2.2.1 ∧ n ≤ I.2.2.2.2.2.2 ∧ Q (some (.int v)) h) := hi
    replace hi := ax_i_of hi
    obtain ⟨v, st, rfl, rfl, hi⟩ := hi
    replace hi := ax_op_of hi
    obtain ⟨ty, hty, hnar, -, -, hq⟩ := hi
    exact hexit .ireturn pc lsA ad h H locs k n (some (.int v)) hd (Or.inl ⟨rfl, v, ty, rfl, hty, hnar⟩) hq h1 h2 hw hak (fun x hx2 => by cases hx2; exact ax_vw_int) hP hD hS hk hn
  | lreturn  =>
    obtain rfl : len = 1 := by simpa [ax_len] using hlen
    replace hi : ax_l st (fun v r => r = [] ∧ I.2.2.2.2.1 = some .long ∧ k ≤ I.2.2.2.2.2.1 ∧ n ≤ I.2.2.2.2.2.2 ∧ Q (some (.long v)) h) := hi
    replace hi := ax_l_of hi
    obtain ⟨v, st, rfl, rfl, hty, -, -, hq⟩ := hi
    exact hexit .lreturn pc lsA ad h H locs k n (some (.long v)) hd (Or.inr (Or.inl ⟨rfl, ⟨v, rfl⟩, hty⟩)) hq h1 h2 hw hak (fun x hx2 => by cases hx2; exact ax_vw_long) hP hD hS hk hn
  | return_  =>
    obtain rfl : len = 1 := by simpa [ax_len] using hlen
    replace hi : st = [] ∧ I.2.2.2.2.1 = none ∧ k ≤ I.2.2.2.2.2.1 ∧ n ≤ I.2.2.2.2.2.2 ∧ Q none h := hi
    obtain ⟨rfl, hty, -, -, hq⟩ := hi
    exact hexit .return_ pc lsA ad h H locs k n none hd (Or.inr (Or.inr ⟨rfl, rfl, hty⟩)) hq h1 h2 hw hak (fun x hx2 => by cases hx2) hP hD hS hk hn
  | _ => exact hi.elim
end AXS
end
section
/-- a contract out of a walk, for a method that no row of the natives stands for -/
theorem ax_ofW {l : Launch} {y : MethodName} {ws ws' : List Cond} {rm : Room} {Pc : Array Value → State → Prop} {Qc : Array Value → State → Outcome → State → Prop} {mc ms : Nat} {free : Addr → Prop} {cc : ByteArray} {maxL : Nat} {ret : Option FieldType}
    (hy : plainFor y = true) (hw : ws = Cond.code y cc maxL ret :: ws')
    (body : ∀ p e s m args below meth c s₁, BodyLoose p l y (headSpec ws rm) cc maxL ret e s m args below meth c s₁ → c.maxLocals = maxL → Pc args s →
      W p l e (headSpec ws rm).room s m args below meth c s.heap [] 0 0 (MQ below Qc args s mc ms free) (entryFrame m args maxL)) : Met l y ws rm Pc Qc mc ms free := by
  refine MetFree.of_bodySF (code := cc) (maxLocals := maxL) (ret := ret) hy ?_ ?_
  · intro args s m h hn
    obtain ⟨meth, c, h1, h2, h3, h4, h5, h6, -, -⟩ := Cond.code_spec hn (atoms_spec (ws := ws) h _ (by rw [hw]; exact List.mem_cons_self))
    exact ⟨meth, c, h1, h2, h3, h4, h5, h6⟩
  · intro p e s m args below meth c s₁ B hml hP _
    have hh0 : s₁.heap = s.heap := by rw [B.state]; rfl
    obtain ⟨t, a1, o, b1, b2, b3⟩ := body p e s m args below meth c s₁ B hml hP s₁ hh0 (Stand.of_body B)
    exact ⟨t, o, a1, b1, b2, ⟨b3.1, b3.2⟩⟩
section AXT
variable {l : Launch} {cl : List vw_C} {D : va_G} {cT : FieldType → ClassId} {tys : List (ClassId × FieldType)} {rc : Nat → Nat} {A : Nat → Prop} {G : State → Prop} {L : Nat} {xs : Nat → Int32} {tb : ax_Tb} {Tb : List Cond} {cn : Nat → String} {nm : Nat → MethodName} {mt : Nat → Option ax_MI}
/-- the JDK's indexOf in the constant text, wherever it is called -/
def ax_IxOK (l : Launch) (rc : Nat → Nat) (A : Nat → Prop) (G : State → Prop) (tb : ax_Tb) (Tb : List Cond) (cn : Nat → String) : Prop := ∀ (p : Program) (e : Env) (R : Room) (s : State) (m : MethodId) (args : Array Value) (below : List Frame) (meth : Method) (c : Code) (Qs : State → Prop) (I : ax_MI) (d : Nat), p.tables.exec = Jvm.exec → c.code = I.1 → c.maxLocals = I.2.2.2.1 → s.vm.findClass (cn I.2.1) = some m.cls → (∀ w ∈ Tb, w.before args s = true) → G s → (∀ q, s.heap.size ≤ q → A q) → d + 1 ≤ R.frames → 40 * (d + 1) ≤ R.locals →
  ∀ (idx pc : Nat) (ls : Array Slot) (rest : List Value) (ch : Int32) (H : Heap) (locs : List Loc) (cells slots : Nat), 8 ≤ d + 1 → decode I.1 pc = .ok (.invokevirtual idx, 3) → (∃ np mc ms ci, tb.2.1 I.2.1 idx = some (.inr 4, np, mc, ms, ci, 1)) → (rest.map fun v => v.category).sum ≤ 8 → ls.size = I.2.2.2.1 → va_S A s.heap H locs → cells ≤ R.cells → slots ≤ R.slots → (∀ (H1 : Heap) (locs1 : List Loc), H1 = H → locs1 = locs → W p l e R s m args below meth c H1 locs1 cells slots Qs (F0 m (pc + 3) ls (.int (ax_ix ch) :: rest))) → W p l e R s m args below meth c H locs cells slots Qs (F0 m pc ls (.int ch :: .ref (rc 1) :: rest))
/-- what the abstract machine says of a call, the machine does -/
theorem ax_met (hcn : ∀ (ci : Nat) (r : vw_C), cl[ci]? = some r → r.1 = cn ci) (hF : ax_okF cl Tb cn tb) (hN : ax_okN cl Tb cn tb G) (hKo : ax_okK Tb cn tb rc G) (hC : ax_okC Tb cn nm tb mt) (hM : ax_okM cn nm mt) (hAr : ax_okA Tb cT tys) (hG : ax_okG A G rc L xs) (hgood : GoodIn Tb Tb) (hIx : ax_IxOK l rc A G tb Tb cn) :
    ∀ (d y : Nat) (I : ax_MI) (av : List Value) (h : ax_H) (Q : ax_Q), mt y = some I → ax_M cl L xs tb mt d y av h Q → ax_hw h → ax_ak h → (∀ v ∈ av, ax_vw h.1 v) → ∀ ad, Met l (nm y) (Cond.code (nm y) I.1 I.2.2.2.1 I.2.2.2.2.1 :: Tb) (ax_rm d I.2.2.2.2.2.1 I.2.2.2.2.2.2) (ax_Pc cl D cT tys rc A G ad av h) (ax_Qc cl D cT rc A ad h Q) I.2.2.2.2.2.1 I.2.2.2.2.2.2 A := by
  intro d
  induction d with
  | zero => intro y I av h Q _ hm; exact hm.elim
  | succ d ih =>
    intro y I av h Q hy hm hw hak hav ad
    obtain ⟨I', hI', hlen, hwp⟩ := ax_op_of hm
    obtain rfl : I' = I := Option.some.inj (hI'.symm.trans hy)
    refine ax_ofW (cc := I'.1) (maxL := I'.2.2.2.1) (ret := I'.2.2.2.2.1) (hM y I' hy).1 rfl ?_
    intro p e s m args below meth c s₁ B hml hv
    obtain ⟨rfl, hA, hP, hK, hD, hGs⟩ := hv
    have hx := B.exec
    have hb := B.bytes
    have hr := B.returns
    have hts0 := atoms_spec (ws := Cond.code (nm y) I'.1 I'.2.2.2.1 I'.2.2.2.2.1 :: Tb) B.pre
    have hts := fun w hw2 => hts0 w (List.mem_cons_of_mem _ hw2)
    have hown : s.vm.findClass (cn I'.2.1) = some m.cls := by
      rw [← (hM y I' hy).2.1]
      exact findClass_of_methodNamed B.named
    have hlocks := B.notSynchronized
    have hin0 : I'.2.2.1 = true → meth.name = "<init>" := fun z => (name_of_methodNamed B.named B.method).1.trans ((hM y I' hy).2.2.1 z)
    rw [lg_entry_eq]
    have key := hwp (fun pc ls st k n h' => ∀ ad' lsA H locs, h.1 ≤ h'.1 → (∀ i, i < h.1 → ad' i = ad i) → k ≤ I'.2.2.2.2.2.1 → n ≤ I'.2.2.2.2.2.2 → ax_hw h' → ax_ak h' → (∀ v ∈ st, ax_vw h'.1 v) → ax_lw h'.1 ls → ax_lm ad' rc lsA I'.2.2.2.1 ls → va_P D cl (ax_w ad' rc cT h') H → va_D A (ax_w ad' rc cT h') → va_S A s.heap H locs → W p l e (headSpec (Cond.code (nm y) I'.1 I'.2.2.2.1 I'.2.2.2.2.1 :: Tb) (ax_rm (d + 1) I'.2.2.2.2.2.1 I'.2.2.2.2.2.2)).room s m (av.map (ax_v ad rc)).toArray below meth c H locs k n (MQ below (ax_Qc cl D cT rc A ad h Q) (av.map (ax_v ad rc)).toArray s I'.2.2.2.2.2.1 I'.2.2.2.2.2.2 A) (F0 m pc lsA (st.map (ax_v ad' rc))))
      (ax_one (d := d) (I := I') (Q := Q) (h0 := h) (ad0 := ad) (D := D) (cT := cT) (tys := tys) (rc := rc) (A := A) (G := G) (Tb := Tb) (cn := cn) (nm := nm) hcn hF hN hKo hC hM hAr hG hgood hx hb hml hown hin0 hts hK hGs hA (Nat.le_refl _) (Nat.le_refl _) (Nat.le_refl _) (Nat.le_refl _) (hIx p e _ s m _ below meth c _ I' d hx hb hml hown hts hGs hA (Nat.le_refl _) (Nat.le_refl _)) ih ?_ (fun _ _ _ _ _ _ z => z) (fun z => z))
    · exact key ad _ s.heap [] (Nat.le_refl _) (fun _ _ => rfl) (Nat.zero_le _) (Nat.zero_le _) hw hak (fun v hv => by cases hv) (ax_en_lw hav) (ax_en_lm ad rc hlen) hP hD va_S.rf
    · intro i pc lsA ad' h' H locs k n v hd hi hq b1 b2 b3 b4 b5 hP1 hD1 hS1 hk hn
      have fin : ∀ t : State, t.heap = H → ax_Qc cl D cT rc A ad h Q (av.map (ax_v ad rc)).toArray s (.returned (v.map (ax_v ad' rc))) t := fun t ht => ⟨⟨v, h', ad', rfl, hq, b1, b2, b3, b4, b5, by rw [ht]; exact hP1, hD1⟩, hS1.F ht⟩
      refine W.widen hk hn ?_
      rcases hi with ⟨rfl, x, ty, rfl, hty, hnar⟩ | ⟨rfl, ⟨x, rfl⟩, hty⟩ | ⟨rfl, rfl, hty⟩
      · exact W.zret hx hb (hr.trans hty) hnar (fun t ht _ => fin t ht) hS1.2.2 hd
      · exact W.lret hx hb (hr.trans hty) (fun t ht _ => fin t ht) hS1.2.2 hd
      · exact W.vret hx hb (hr.trans hty) (fun t ht _ => fin t ht) hS1.2.2 hd
end AXT
end
section
/-! names: printed by wip/gen/names.py out of the listing -/
def ns_T0 : u_T := fun k => match k with
  | 0 => ("NoteSheet", "cells", "[LNoteSheet$Cell;", true)
  | 1 => ("NoteSheet", "lastChanges", "[I", true)
  | 2 => ("NoteSheet", "latestTally", "[I", true)
  | 3 => ("NoteSheet", "pad", "LNoteSheet$Formula;", true)
  | 4 => ("NoteSheet", "parser", "LNoteSheet$Parser;", true)
  | 5 => ("NoteSheet", "kept", "I", true)
  | 6 => ("NoteSheet", "now", "I", false)
  | _ => ("NoteSheet", "uses", "I", false)
def ns_t0 : Nat → FieldType := fun k => match k with
  | 0 => .array (.object "NoteSheet$Cell")
  | 1 => .array .int
  | 2 => .array .int
  | 3 => .object "NoteSheet$Formula"
  | 4 => .object "NoteSheet$Parser"
  | 5 => .int
  | 6 => .int
  | _ => .int
theorem ns_n0 : ∀ a, a < 8 → ∀ b, b < 8 → a ≠ b → (ns_T0 a).2.1 ≠ (ns_T0 b).2.1 := by decide +kernel
theorem ns_t0_ok : ∀ k, k < 8 → parseFieldDescriptor (ns_T0 k).2.2.1 = some (ns_t0 k) := by decide +kernel
def ns_T1 : u_T := fun k => match k with
  | 0 => ("NoteSheet$Cell", "formula", "LNoteSheet$Formula;", true)
  | 1 => ("NoteSheet$Cell", "note", "LNoteSheet$Note;", true)
  | 2 => ("NoteSheet$Cell", "tally", "[I", true)
  | 3 => ("NoteSheet$Cell", "stack", "[I", true)
  | 4 => ("NoteSheet$Cell", "hasFormula", "Z", false)
  | 5 => ("NoteSheet$Cell", "formulaChanged", "I", false)
  | 6 => ("NoteSheet$Cell", "number", "I", false)
  | 7 => ("NoteSheet$Cell", "durability", "I", false)
  | 8 => ("NoteSheet$Cell", "inputSince", "I", false)
  | 9 => ("NoteSheet$Cell", "atWork", "Z", false)
  | _ => ("NoteSheet$Cell", "lastUse", "I", false)
def ns_t1 : Nat → FieldType := fun k => match k with
  | 0 => .object "NoteSheet$Formula"
  | 1 => .object "NoteSheet$Note"
  | 2 => .array .int
  | 3 => .array .int
  | 4 => .boolean
  | 5 => .int
  | 6 => .int
  | 7 => .int
  | 8 => .int
  | 9 => .boolean
  | _ => .int
theorem ns_n1 : ∀ a, a < 11 → ∀ b, b < 11 → a ≠ b → (ns_T1 a).2.1 ≠ (ns_T1 b).2.1 := by decide +kernel
theorem ns_t1_ok : ∀ k, k < 11 → parseFieldDescriptor (ns_T1 k).2.2.1 = some (ns_t1 k) := by decide +kernel
def ns_T2 : u_T := fun k => match k with
  | 0 => ("NoteSheet$Formula", "text", "[C", true)
  | 1 => ("NoteSheet$Formula", "steps", "[I", true)
  | 2 => ("NoteSheet$Formula", "length", "I", false)
  | _ => ("NoteSheet$Formula", "stepCount", "I", false)
def ns_t2 : Nat → FieldType := fun k => match k with
  | 0 => .array .char
  | 1 => .array .int
  | 2 => .int
  | _ => .int
theorem ns_n2 : ∀ a, a < 4 → ∀ b, b < 4 → a ≠ b → (ns_T2 a).2.1 ≠ (ns_T2 b).2.1 := by decide +kernel
theorem ns_t2_ok : ∀ k, k < 4 → parseFieldDescriptor (ns_T2 k).2.2.1 = some (ns_t2 k) := by decide +kernel
def ns_T3 : u_T := fun k => match k with
  | 0 => ("NoteSheet$Note", "reads", "[I", true)
  | 1 => ("NoteSheet$Note", "readCount", "I", false)
  | 2 => ("NoteSheet$Note", "exists", "Z", false)
  | 3 => ("NoteSheet$Note", "hasValue", "Z", false)
  | 4 => ("NoteSheet$Note", "value", "J", false)
  | 5 => ("NoteSheet$Note", "verified", "I", false)
  | 6 => ("NoteSheet$Note", "since", "I", false)
  | _ => ("NoteSheet$Note", "durability", "I", false)
def ns_t3 : Nat → FieldType := fun k => match k with
  | 0 => .array .int
  | 1 => .int
  | 2 => .boolean
  | 3 => .boolean
  | 4 => .long
  | 5 => .int
  | 6 => .int
  | _ => .int
theorem ns_n3 : ∀ a, a < 8 → ∀ b, b < 8 → a ≠ b → (ns_T3 a).2.1 ≠ (ns_T3 b).2.1 := by decide +kernel
theorem ns_t3_ok : ∀ k, k < 8 → parseFieldDescriptor (ns_T3 k).2.2.1 = some (ns_t3 k) := by decide +kernel
def ns_T4 : u_T := fun k => match k with
  | 0 => ("NoteSheet$Parser", "formula", "LNoteSheet$Formula;", true)
  | _ => ("NoteSheet$Parser", "at", "I", false)
def ns_t4 : Nat → FieldType := fun k => match k with
  | 0 => .object "NoteSheet$Formula"
  | _ => .int
theorem ns_n4 : ∀ a, a < 2 → ∀ b, b < 2 → a ≠ b → (ns_T4 a).2.1 ≠ (ns_T4 b).2.1 := by decide +kernel
theorem ns_t4_ok : ∀ k, k < 2 → parseFieldDescriptor (ns_T4 k).2.2.1 = some (ns_t4 k) := by decide +kernel
def ns_T5 : u_T := fun k => match k with
  | 0 => ("NoteSheetModel", "most", "I", true)
  | 1 => ("NoteSheetModel", "pad", "[I", true)
  | 2 => ("NoteSheetModel", "length", "I", false)
  | 3 => ("NoteSheetModel", "revision", "I", false)
  | 4 => ("NoteSheetModel", "changes", "[I", true)
  | 5 => ("NoteSheetModel", "formula", "[Z", true)
  | 6 => ("NoteSheetModel", "text", "[I", true)
  | 7 => ("NoteSheetModel", "size", "[I", true)
  | 8 => ("NoteSheetModel", "steps", "[I", true)
  | 9 => ("NoteSheetModel", "step", "[I", true)
  | 10 => ("NoteSheetModel", "with", "[I", true)
  | 11 => ("NoteSheetModel", "altered", "[I", true)
  | 12 => ("NoteSheetModel", "number", "[I", true)
  | 13 => ("NoteSheetModel", "durable", "[I", true)
  | 14 => ("NoteSheetModel", "born", "[I", true)
  | 15 => ("NoteSheetModel", "noted", "[Z", true)
  | 16 => ("NoteSheetModel", "valued", "[Z", true)
  | 17 => ("NoteSheetModel", "value", "[J", true)
  | 18 => ("NoteSheetModel", "verified", "[I", true)
  | 19 => ("NoteSheetModel", "since", "[I", true)
  | 20 => ("NoteSheetModel", "noteDurable", "[I", true)
  | 21 => ("NoteSheetModel", "reads", "[I", true)
  | 22 => ("NoteSheetModel", "readCell", "[I", true)
  | 23 => ("NoteSheetModel", "used", "[I", true)
  | 24 => ("NoteSheetModel", "clock", "I", false)
  | 25 => ("NoteSheetModel", "often", "[I", true)
  | 26 => ("NoteSheetModel", "lately", "[I", true)
  | 27 => ("NoteSheetModel", "opened", "I", false)
  | 28 => ("NoteSheetModel", "open", "[I", true)
  | 29 => ("NoteSheetModel", "mode", "[I", true)
  | 30 => ("NoteSheetModel", "at", "[I", true)
  | 31 => ("NoteSheetModel", "depth", "[I", true)
  | 32 => ("NoteSheetModel", "stack", "[J", true)
  | 33 => ("NoteSheetModel", "found", "[I", true)
  | 34 => ("NoteSheetModel", "foundCell", "[I", true)
  | 35 => ("NoteSheetModel", "atWork", "[Z", true)
  | 36 => ("NoteSheetModel", "ring", "[Z", true)
  | 37 => ("NoteSheetModel", "signs", "I", false)
  | 38 => ("NoteSheetModel", "sign", "[I", true)
  | 39 => ("NoteSheetModel", "mend", "[I", true)
  | 40 => ("NoteSheetModel", "made", "I", false)
  | 41 => ("NoteSheetModel", "newStep", "[I", true)
  | _ => ("NoteSheetModel", "newWith", "[I", true)
def ns_t5 : Nat → FieldType := fun k => match k with
  | 0 => .int
  | 1 => .array .int
  | 2 => .int
  | 3 => .int
  | 4 => .array .int
  | 5 => .array .boolean
  | 6 => .array .int
  | 7 => .array .int
  | 8 => .array .int
  | 9 => .array .int
  | 10 => .array .int
  | 11 => .array .int
  | 12 => .array .int
  | 13 => .array .int
  | 14 => .array .int
  | 15 => .array .boolean
  | 16 => .array .boolean
  | 17 => .array .long
  | 18 => .array .int
  | 19 => .array .int
  | 20 => .array .int
  | 21 => .array .int
  | 22 => .array .int
  | 23 => .array .int
  | 24 => .int
  | 25 => .array .int
  | 26 => .array .int
  | 27 => .int
  | 28 => .array .int
  | 29 => .array .int
  | 30 => .array .int
  | 31 => .array .int
  | 32 => .array .long
  | 33 => .array .int
  | 34 => .array .int
  | 35 => .array .boolean
  | 36 => .array .boolean
  | 37 => .int
  | 38 => .array .int
  | 39 => .array .int
  | 40 => .int
  | 41 => .array .int
  | _ => .array .int
theorem ns_n5 : ∀ a, a < 43 → ∀ b, b < 43 → a ≠ b → (ns_T5 a).2.1 ≠ (ns_T5 b).2.1 := by decide +kernel
theorem ns_t5_ok : ∀ k, k < 43 → parseFieldDescriptor (ns_T5 k).2.2.1 = some (ns_t5 k) := by decide +kernel
def ns_cn : Nat → String
  | 0 => "NoteSheet"
  | 1 => "NoteSheet$Cell"
  | 2 => "NoteSheet$Formula"
  | 3 => "NoteSheet$Note"
  | 4 => "NoteSheet$Parser"
  | 5 => "NoteSheetModel"
  | 6 => "NoteSheetLaw"
  | _ => "java/lang/Math"
def ns_cl : List vw_C := [("NoteSheet", ns_T0, 8), ("NoteSheet$Cell", ns_T1, 11), ("NoteSheet$Formula", ns_T2, 4), ("NoteSheet$Note", ns_T3, 8), ("NoteSheet$Parser", ns_T4, 2), ("NoteSheetModel", ns_T5, 43)]
def ns_nm : Nat → MethodName
  | 0 => ⟨"NoteSheet", "<init>", "(I)V"⟩
  | 1 => ⟨"NoteSheet", "type", "(C)Z"⟩
  | 2 => ⟨"NoteSheet", "define", "(I)I"⟩
  | 3 => ⟨"NoteSheet", "set", "(III)Z"⟩
  | 4 => ⟨"NoteSheet", "ask", "(I)J"⟩
  | 5 => ⟨"NoteSheet", "revision", "()I"⟩
  | 6 => ⟨"NoteSheet", "changed", "(I)I"⟩
  | 7 => ⟨"NoteSheet", "note", "(II)I"⟩
  | 8 => ⟨"NoteSheet", "read", "(II)I"⟩
  | 9 => ⟨"NoteSheet", "count", "(I)I"⟩
  | 10 => ⟨"NoteSheet", "isCell", "(I)Z"⟩
  | 11 => ⟨"NoteSheet", "isDurability", "(I)Z"⟩
  | 12 => ⟨"NoteSheet", "makeFormula", "(LNoteSheet$Cell;)V"⟩
  | 13 => ⟨"NoteSheet", "makeInput", "(LNoteSheet$Cell;II)V"⟩
  | 14 => ⟨"NoteSheet", "startRevision", "(I)V"⟩
  | 15 => ⟨"NoteSheet", "upToDateValue", "(LNoteSheet$Cell;)J"⟩
  | 16 => ⟨"NoteSheet", "bringUpToDate", "(LNoteSheet$Cell;)V"⟩
  | 17 => ⟨"NoteSheet", "passes", "(LNoteSheet$Note;)Z"⟩
  | 18 => ⟨"NoteSheet", "readsAreUnchanged", "(LNoteSheet$Cell;)Z"⟩
  | 19 => ⟨"NoteSheet", "verify", "(LNoteSheet$Cell;I)V"⟩
  | 20 => ⟨"NoteSheet", "workOut", "(LNoteSheet$Cell;)V"⟩
  | 21 => ⟨"NoteSheet", "leastDurability", "(LNoteSheet$Note;)I"⟩
  | 22 => ⟨"NoteSheet", "evaluate", "(LNoteSheet$Cell;)J"⟩
  | 23 => ⟨"NoteSheet", "combine", "(III)I"⟩
  | 24 => ⟨"NoteSheet", "giveTo", "(LNoteSheet$Cell;I)J"⟩
  | 25 => ⟨"NoteSheet", "markUsed", "(LNoteSheet$Cell;)V"⟩
  | 26 => ⟨"NoteSheet", "tally", "(LNoteSheet$Cell;I)V"⟩
  | 27 => ⟨"NoteSheet", "valuesInNotes", "()I"⟩
  | 28 => ⟨"NoteSheet", "dropValuesBeyondKept", "()V"⟩
  | 29 => ⟨"NoteSheet", "dropLongestUnused", "()V"⟩
  | 30 => ⟨"NoteSheetModel", "<init>", "(I)V"⟩
  | 31 => ⟨"NoteSheetModel", "isCell", "(I)Z"⟩
  | 32 => ⟨"NoteSheetModel", "isLetter", "(I)Z"⟩
  | 33 => ⟨"NoteSheetModel", "isDigit", "(I)Z"⟩
  | 34 => ⟨"NoteSheetModel", "type", "(C)Z"⟩
  | 35 => ⟨"NoteSheetModel", "make", "(II)V"⟩
  | 36 => ⟨"NoteSheetModel", "put", "(II)V"⟩
  | 37 => ⟨"NoteSheetModel", "rank", "(I)I"⟩
  | 38 => ⟨"NoteSheetModel", "settle", "(I)V"⟩
  | 39 => ⟨"NoteSheetModel", "deepness", "()I"⟩
  | 40 => ⟨"NoteSheetModel", "begin", "(II)Z"⟩
  | 41 => ⟨"NoteSheetModel", "compared", "()Z"⟩
  | 42 => ⟨"NoteSheetModel", "inner", "()I"⟩
  | 43 => ⟨"NoteSheetModel", "close", "()V"⟩
  | 44 => ⟨"NoteSheetModel", "awaits", "()I"⟩
  | 45 => ⟨"NoteSheetModel", "goesOn", "(I)Z"⟩
  | 46 => ⟨"NoteSheetModel", "fault", "()I"⟩
  | 47 => ⟨"NoteSheetModel", "define", "(I)I"⟩
  | 48 => ⟨"NoteSheetModel", "change", "(I)V"⟩
  | 49 => ⟨"NoteSheetModel", "set", "(III)Z"⟩
  | 50 => ⟨"NoteSheetModel", "settled", "(I)Z"⟩
  | 51 => ⟨"NoteSheetModel", "durabilityOf", "(I)I"⟩
  | 52 => ⟨"NoteSheetModel", "sinceOf", "(I)I"⟩
  | 53 => ⟨"NoteSheetModel", "start", "(II)V"⟩
  | 54 => ⟨"NoteSheetModel", "counts", "(II)V"⟩
  | 55 => ⟨"NoteSheetModel", "finish", "()V"⟩
  | 56 => ⟨"NoteSheetModel", "use", "(I)V"⟩
  | 57 => ⟨"NoteSheetModel", "runAll", "()V"⟩
  | 58 => ⟨"NoteSheetModel", "enter", "(II)V"⟩
  | 59 => ⟨"NoteSheetModel", "lookThrough", "(II)V"⟩
  | 60 => ⟨"NoteSheetModel", "worked", "(IIJ)V"⟩
  | 61 => ⟨"NoteSheetModel", "push", "(IJ)V"⟩
  | 62 => ⟨"NoteSheetModel", "pop", "(I)J"⟩
  | 63 => ⟨"NoteSheetModel", "advance", "(II)V"⟩
  | 64 => ⟨"NoteSheetModel", "combine", "(II)V"⟩
  | 65 => ⟨"NoteSheetModel", "look", "(III)V"⟩
  | 66 => ⟨"NoteSheetModel", "values", "()I"⟩
  | 67 => ⟨"NoteSheetModel", "ask", "(I)J"⟩
  | 68 => ⟨"NoteSheetModel", "revision", "()I"⟩
  | 69 => ⟨"NoteSheetModel", "changed", "(I)I"⟩
  | 70 => ⟨"NoteSheetModel", "note", "(II)I"⟩
  | 71 => ⟨"NoteSheetModel", "read", "(II)I"⟩
  | 72 => ⟨"NoteSheetModel", "count", "(I)I"⟩
  | 73 => ⟨"NoteSheet$Cell", "<init>", "()V"⟩
  | 74 => ⟨"NoteSheet$Cell", "ownDurability", "()I"⟩
  | 75 => ⟨"NoteSheet$Cell", "givenDurability", "()I"⟩
  | 76 => ⟨"NoteSheet$Cell", "unchangedSince", "()I"⟩
  | 77 => ⟨"NoteSheet$Formula", "<init>", "()V"⟩
  | 78 => ⟨"NoteSheet$Formula", "isLetter", "(C)Z"⟩
  | 79 => ⟨"NoteSheet$Formula", "isDigit", "(C)Z"⟩
  | 80 => ⟨"NoteSheet$Formula", "mayHold", "(C)Z"⟩
  | 81 => ⟨"NoteSheet$Formula", "append", "(C)Z"⟩
  | 82 => ⟨"NoteSheet$Formula", "addStep", "(II)I"⟩
  | 83 => ⟨"NoteSheet$Formula", "jumpToEnd", "(I)V"⟩
  | 84 => ⟨"NoteSheet$Formula", "stepAt", "(I)I"⟩
  | 85 => ⟨"NoteSheet$Formula", "operandAt", "(I)I"⟩
  | 86 => ⟨"NoteSheet$Formula", "hasTextOf", "(LNoteSheet$Formula;)Z"⟩
  | 87 => ⟨"NoteSheet$Formula", "copyFrom", "(LNoteSheet$Formula;)V"⟩
  | 88 => ⟨"NoteSheet$Note", "<init>", "()V"⟩
  | 89 => ⟨"NoteSheet$Note", "clear", "()V"⟩
  | 90 => ⟨"NoteSheet$Note", "isVerifiedIn", "(I)Z"⟩
  | 91 => ⟨"NoteSheet$Note", "keepValue", "(JI)V"⟩
  | 92 => ⟨"NoteSheet$Note", "addRead", "(I)V"⟩
  | 93 => ⟨"NoteSheet$Parser", "<init>", "(LNoteSheet$Formula;)V"⟩
  | 94 => ⟨"NoteSheet$Parser", "accepts", "()Z"⟩
  | 95 => ⟨"NoteSheet$Parser", "fault", "()I"⟩
  | 96 => ⟨"NoteSheet$Parser", "next", "()C"⟩
  | 97 => ⟨"NoteSheet$Parser", "take", "(C)Z"⟩
  | 98 => ⟨"NoteSheet$Parser", "takeFormula", "(I)Z"⟩
  | 99 => ⟨"NoteSheet$Parser", "takeBranches", "(I)Z"⟩
  | 100 => ⟨"NoteSheet$Parser", "takeSum", "(I)Z"⟩
  | 101 => ⟨"NoteSheet$Parser", "takeProduct", "(I)Z"⟩
  | 102 => ⟨"NoteSheet$Parser", "takeUnit", "(I)Z"⟩
  | 103 => ⟨"NoteSheet$Parser", "takeNumber", "()V"⟩
  | 104 => ⟨"NoteSheetLaw", "cell", "([II)I"⟩
  | 105 => ⟨"NoteSheetLaw", "law", "([I)Z"⟩
  | 106 => ⟨"java/lang/Math", "floorMod", "(II)I"⟩
  | _ => ⟨"", "", ""⟩
def ns_I_N_init : ax_MI := (prog_1_method_1_code, 0, true, 3, none, 103, 1620)
def ns_I_N_type : ax_MI := (prog_1_method_2_code, 0, false, 2, some .boolean, 0, 0)
def ns_I_N_define : ax_MI := (prog_1_method_3_code, 0, false, 3, some .int, 0, 0)
def ns_I_N_set : ax_MI := (prog_1_method_4_code, 0, false, 5, some .boolean, 0, 0)
def ns_I_N_ask : ax_MI := (prog_1_method_5_code, 0, false, 4, some .long, 0, 0)
def ns_I_N_revision : ax_MI := (prog_1_method_6_code, 0, false, 1, some .int, 0, 0)
def ns_I_N_changed : ax_MI := (prog_1_method_7_code, 0, false, 2, some .int, 0, 0)
def ns_I_N_note : ax_MI := (prog_1_method_8_code, 0, false, 4, some .int, 0, 0)
def ns_I_N_read : ax_MI := (prog_1_method_9_code, 0, false, 3, some .int, 0, 0)
def ns_I_N_count : ax_MI := (prog_1_method_10_code, 0, false, 2, some .int, 0, 0)
def ns_I_N_isCell : ax_MI := (prog_1_method_11_code, 0, false, 1, some .boolean, 0, 0)
def ns_I_N_isDurability : ax_MI := (prog_1_method_12_code, 0, false, 1, some .boolean, 0, 0)
def ns_I_N_makeFormula : ax_MI := (prog_1_method_13_code, 0, false, 2, none, 0, 0)
def ns_I_N_makeInput : ax_MI := (prog_1_method_14_code, 0, false, 4, none, 0, 0)
def ns_I_N_startRevision : ax_MI := (prog_1_method_15_code, 0, false, 3, none, 0, 0)
def ns_I_N_upToDateValue : ax_MI := (prog_1_method_16_code, 0, false, 2, some .long, 0, 0)
def ns_I_N_bringUpToDate : ax_MI := (prog_1_method_17_code, 0, false, 2, none, 0, 0)
def ns_I_N_passes : ax_MI := (prog_1_method_18_code, 0, false, 2, some .boolean, 0, 0)
def ns_I_N_readsAreUnchanged : ax_MI := (prog_1_method_19_code, 0, false, 5, some .boolean, 0, 0)
def ns_I_N_verify : ax_MI := (prog_1_method_20_code, 0, false, 3, none, 0, 0)
def ns_I_N_workOut : ax_MI := (prog_1_method_21_code, 0, false, 4, none, 0, 0)
def ns_I_N_leastDurability : ax_MI := (prog_1_method_22_code, 0, false, 5, some .int, 0, 0)
def ns_I_N_evaluate : ax_MI := (prog_1_method_23_code, 0, false, 12, some .long, 0, 0)
def ns_I_N_combine : ax_MI := (prog_1_method_24_code, 0, false, 3, some .int, 0, 0)
def ns_I_N_giveTo : ax_MI := (prog_1_method_25_code, 0, false, 4, some .long, 0, 0)
def ns_I_N_markUsed : ax_MI := (prog_1_method_26_code, 0, false, 2, none, 0, 0)
def ns_I_N_tally : ax_MI := (prog_1_method_27_code, 0, false, 3, none, 0, 0)
def ns_I_N_valuesInNotes : ax_MI := (prog_1_method_28_code, 0, false, 3, some .int, 0, 0)
def ns_I_N_dropValuesBeyondKept : ax_MI := (prog_1_method_29_code, 0, false, 2, none, 0, 0)
def ns_I_N_dropLongestUnused : ax_MI := (prog_1_method_30_code, 0, false, 4, none, 0, 0)
def ns_I_M_init : ax_MI := (prog_7_method_1_code, 5, true, 2, none, 36, 2344)
def ns_I_M_isCell : ax_MI := (prog_7_method_2_code, 5, false, 1, some .boolean, 0, 0)
def ns_I_M_isLetter : ax_MI := (prog_7_method_3_code, 5, false, 1, some .boolean, 0, 0)
def ns_I_M_isDigit : ax_MI := (prog_7_method_4_code, 5, false, 1, some .boolean, 0, 0)
def ns_I_M_type : ax_MI := (prog_7_method_5_code, 5, false, 3, some .boolean, 0, 0)
def ns_I_M_make : ax_MI := (prog_7_method_6_code, 5, false, 3, none, 0, 0)
def ns_I_M_put : ax_MI := (prog_7_method_7_code, 5, false, 3, none, 0, 0)
def ns_I_M_rank : ax_MI := (prog_7_method_8_code, 5, false, 1, some .int, 0, 0)
def ns_I_M_settle : ax_MI := (prog_7_method_9_code, 5, false, 3, none, 0, 0)
def ns_I_M_deepness : ax_MI := (prog_7_method_10_code, 5, false, 3, some .int, 0, 0)
def ns_I_M_begin : ax_MI := (prog_7_method_11_code, 5, false, 5, some .boolean, 0, 0)
def ns_I_M_compared : ax_MI := (prog_7_method_12_code, 5, false, 3, some .boolean, 0, 0)
def ns_I_M_inner : ax_MI := (prog_7_method_13_code, 5, false, 2, some .int, 0, 0)
def ns_I_M_close : ax_MI := (prog_7_method_14_code, 5, false, 1, none, 0, 0)
def ns_I_M_awaits : ax_MI := (prog_7_method_15_code, 5, false, 2, some .int, 0, 0)
def ns_I_M_goesOn : ax_MI := (prog_7_method_16_code, 5, false, 2, some .boolean, 0, 0)
def ns_I_M_fault : ax_MI := (prog_7_method_17_code, 5, false, 6, some .int, 0, 0)
def ns_I_M_define : ax_MI := (prog_7_method_18_code, 5, false, 6, some .int, 0, 0)
def ns_I_M_change : ax_MI := (prog_7_method_19_code, 5, false, 3, none, 0, 0)
def ns_I_M_set : ax_MI := (prog_7_method_20_code, 5, false, 5, some .boolean, 0, 0)
def ns_I_M_settled : ax_MI := (prog_7_method_21_code, 5, false, 2, some .boolean, 0, 0)
def ns_I_M_durabilityOf : ax_MI := (prog_7_method_22_code, 5, false, 2, some .int, 0, 0)
def ns_I_M_sinceOf : ax_MI := (prog_7_method_23_code, 5, false, 2, some .int, 0, 0)
def ns_I_M_start : ax_MI := (prog_7_method_24_code, 5, false, 3, none, 0, 0)
def ns_I_M_counts : ax_MI := (prog_7_method_25_code, 5, false, 3, none, 0, 0)
def ns_I_M_finish : ax_MI := (prog_7_method_26_code, 5, false, 1, none, 0, 0)
def ns_I_M_use : ax_MI := (prog_7_method_27_code, 5, false, 2, none, 0, 0)
def ns_I_M_runAll : ax_MI := (prog_7_method_28_code, 5, false, 2, none, 0, 0)
def ns_I_M_enter : ax_MI := (prog_7_method_29_code, 5, false, 3, none, 0, 0)
def ns_I_M_lookThrough : ax_MI := (prog_7_method_30_code, 5, false, 5, none, 0, 0)
def ns_I_M_worked : ax_MI := (prog_7_method_31_code, 5, false, 8, none, 0, 0)
def ns_I_M_push : ax_MI := (prog_7_method_32_code, 5, false, 4, none, 0, 0)
def ns_I_M_pop : ax_MI := (prog_7_method_33_code, 5, false, 2, some .long, 0, 0)
def ns_I_M_advance : ax_MI := (prog_7_method_34_code, 5, false, 6, none, 0, 0)
def ns_I_M_combine : ax_MI := (prog_7_method_35_code, 5, false, 5, none, 0, 0)
def ns_I_M_look : ax_MI := (prog_7_method_36_code, 5, false, 7, none, 0, 0)
def ns_I_M_values : ax_MI := (prog_7_method_37_code, 5, false, 3, some .int, 0, 0)
def ns_I_M_ask : ax_MI := (prog_7_method_38_code, 5, false, 6, some .long, 0, 0)
def ns_I_M_revision : ax_MI := (prog_7_method_39_code, 5, false, 1, some .int, 0, 0)
def ns_I_M_changed : ax_MI := (prog_7_method_40_code, 5, false, 2, some .int, 0, 0)
def ns_I_M_note : ax_MI := (prog_7_method_41_code, 5, false, 4, some .int, 0, 0)
def ns_I_M_read : ax_MI := (prog_7_method_42_code, 5, false, 3, some .int, 0, 0)
def ns_I_M_count : ax_MI := (prog_7_method_43_code, 5, false, 2, some .int, 0, 0)
def ns_I_C_init : ax_MI := (prog_2_method_1_code, 1, true, 1, none, 7, 117)
def ns_I_C_ownDurability : ax_MI := (prog_2_method_2_code, 1, false, 1, some .int, 0, 0)
def ns_I_C_givenDurability : ax_MI := (prog_2_method_3_code, 1, false, 1, some .int, 0, 0)
def ns_I_C_unchangedSince : ax_MI := (prog_2_method_4_code, 1, false, 1, some .int, 0, 0)
def ns_I_F_init : ax_MI := (prog_3_method_1_code, 2, true, 1, none, 2, 60)
def ns_I_F_isLetter : ax_MI := (prog_3_method_2_code, 2, false, 1, some .boolean, 0, 0)
def ns_I_F_isDigit : ax_MI := (prog_3_method_3_code, 2, false, 1, some .boolean, 0, 0)
def ns_I_F_mayHold : ax_MI := (prog_3_method_4_code, 2, false, 1, some .boolean, 0, 0)
def ns_I_F_append : ax_MI := (prog_3_method_5_code, 2, false, 2, some .boolean, 0, 0)
def ns_I_F_addStep : ax_MI := (prog_3_method_6_code, 2, false, 3, some .int, 0, 0)
def ns_I_F_jumpToEnd : ax_MI := (prog_3_method_7_code, 2, false, 2, none, 0, 0)
def ns_I_F_stepAt : ax_MI := (prog_3_method_8_code, 2, false, 2, some .int, 0, 0)
def ns_I_F_operandAt : ax_MI := (prog_3_method_9_code, 2, false, 2, some .int, 0, 0)
def ns_I_F_hasTextOf : ax_MI := (prog_3_method_10_code, 2, false, 3, some .boolean, 0, 0)
def ns_I_F_copyFrom : ax_MI := (prog_3_method_11_code, 2, false, 2, none, 0, 0)
def ns_I_O_init : ax_MI := (prog_4_method_1_code, 3, true, 1, none, 1, 12)
def ns_I_O_clear : ax_MI := (prog_4_method_2_code, 3, false, 1, none, 0, 0)
def ns_I_O_isVerifiedIn : ax_MI := (prog_4_method_3_code, 3, false, 2, some .boolean, 0, 0)
def ns_I_O_keepValue : ax_MI := (prog_4_method_4_code, 3, false, 5, none, 0, 0)
def ns_I_O_addRead : ax_MI := (prog_4_method_5_code, 3, false, 3, none, 0, 0)
def ns_I_P_init : ax_MI := (prog_5_method_1_code, 4, true, 2, none, 0, 0)
def ns_I_P_accepts : ax_MI := (prog_5_method_2_code, 4, false, 1, some .boolean, 0, 0)
def ns_I_P_fault : ax_MI := (prog_5_method_3_code, 4, false, 1, some .int, 0, 0)
def ns_I_P_next : ax_MI := (prog_5_method_4_code, 4, false, 1, some .char, 0, 0)
def ns_I_P_take : ax_MI := (prog_5_method_5_code, 4, false, 2, some .boolean, 0, 0)
def ns_I_P_takeFormula : ax_MI := (prog_5_method_6_code, 4, false, 3, some .boolean, 0, 0)
def ns_I_P_takeBranches : ax_MI := (prog_5_method_7_code, 4, false, 4, some .boolean, 0, 0)
def ns_I_P_takeSum : ax_MI := (prog_5_method_8_code, 4, false, 4, some .boolean, 0, 0)
def ns_I_P_takeProduct : ax_MI := (prog_5_method_9_code, 4, false, 3, some .boolean, 0, 0)
def ns_I_P_takeUnit : ax_MI := (prog_5_method_10_code, 4, false, 3, some .boolean, 0, 0)
def ns_I_P_takeNumber : ax_MI := (prog_5_method_11_code, 4, false, 3, none, 0, 0)
def ns_I_L_cell : ax_MI := (method_2_code, 6, false, 2, some .int, 0, 0)
def ns_I_L_law : ax_MI := (code, 6, false, 4, some .boolean, 600000, 7302250)
def ns_I_J_floorMod : ax_MI := (prog_9_method_50_code, 7, false, 3, some .int, 0, 0)
def ns_mt : Nat → Option ax_MI
  | 0 => some ns_I_N_init
  | 1 => some ns_I_N_type
  | 2 => some ns_I_N_define
  | 3 => some ns_I_N_set
  | 4 => some ns_I_N_ask
  | 5 => some ns_I_N_revision
  | 6 => some ns_I_N_changed
  | 7 => some ns_I_N_note
  | 8 => some ns_I_N_read
  | 9 => some ns_I_N_count
  | 10 => some ns_I_N_isCell
  | 11 => some ns_I_N_isDurability
  | 12 => some ns_I_N_makeFormula
  | 13 => some ns_I_N_makeInput
  | 14 => some ns_I_N_startRevision
  | 15 => some ns_I_N_upToDateValue
  | 16 => some ns_I_N_bringUpToDate
  | 17 => some ns_I_N_passes
  | 18 => some ns_I_N_readsAreUnchanged
  | 19 => some ns_I_N_verify
  | 20 => some ns_I_N_workOut
  | 21 => some ns_I_N_leastDurability
  | 22 => some ns_I_N_evaluate
  | 23 => some ns_I_N_combine
  | 24 => some ns_I_N_giveTo
  | 25 => some ns_I_N_markUsed
  | 26 => some ns_I_N_tally
  | 27 => some ns_I_N_valuesInNotes
  | 28 => some ns_I_N_dropValuesBeyondKept
  | 29 => some ns_I_N_dropLongestUnused
  | 30 => some ns_I_M_init
  | 31 => some ns_I_M_isCell
  | 32 => some ns_I_M_isLetter
  | 33 => some ns_I_M_isDigit
  | 34 => some ns_I_M_type
  | 35 => some ns_I_M_make
  | 36 => some ns_I_M_put
  | 37 => some ns_I_M_rank
  | 38 => some ns_I_M_settle
  | 39 => some ns_I_M_deepness
  | 40 => some ns_I_M_begin
  | 41 => some ns_I_M_compared
  | 42 => some ns_I_M_inner
  | 43 => some ns_I_M_close
  | 44 => some ns_I_M_awaits
  | 45 => some ns_I_M_goesOn
  | 46 => some ns_I_M_fault
  | 47 => some ns_I_M_define
  | 48 => some ns_I_M_change
  | 49 => some ns_I_M_set
  | 50 => some ns_I_M_settled
  | 51 => some ns_I_M_durabilityOf
  | 52 => some ns_I_M_sinceOf
  | 53 => some ns_I_M_start
  | 54 => some ns_I_M_counts
  | 55 => some ns_I_M_finish
  | 56 => some ns_I_M_use
  | 57 => some ns_I_M_runAll
  | 58 => some ns_I_M_enter
  | 59 => some ns_I_M_lookThrough
  | 60 => some ns_I_M_worked
  | 61 => some ns_I_M_push
  | 62 => some ns_I_M_pop
  | 63 => some ns_I_M_advance
  | 64 => some ns_I_M_combine
  | 65 => some ns_I_M_look
  | 66 => some ns_I_M_values
  | 67 => some ns_I_M_ask
  | 68 => some ns_I_M_revision
  | 69 => some ns_I_M_changed
  | 70 => some ns_I_M_note
  | 71 => some ns_I_M_read
  | 72 => some ns_I_M_count
  | 73 => some ns_I_C_init
  | 74 => some ns_I_C_ownDurability
  | 75 => some ns_I_C_givenDurability
  | 76 => some ns_I_C_unchangedSince
  | 77 => some ns_I_F_init
  | 78 => some ns_I_F_isLetter
  | 79 => some ns_I_F_isDigit
  | 80 => some ns_I_F_mayHold
  | 81 => some ns_I_F_append
  | 82 => some ns_I_F_addStep
  | 83 => some ns_I_F_jumpToEnd
  | 84 => some ns_I_F_stepAt
  | 85 => some ns_I_F_operandAt
  | 86 => some ns_I_F_hasTextOf
  | 87 => some ns_I_F_copyFrom
  | 88 => some ns_I_O_init
  | 89 => some ns_I_O_clear
  | 90 => some ns_I_O_isVerifiedIn
  | 91 => some ns_I_O_keepValue
  | 92 => some ns_I_O_addRead
  | 93 => some ns_I_P_init
  | 94 => some ns_I_P_accepts
  | 95 => some ns_I_P_fault
  | 96 => some ns_I_P_next
  | 97 => some ns_I_P_take
  | 98 => some ns_I_P_takeFormula
  | 99 => some ns_I_P_takeBranches
  | 100 => some ns_I_P_takeSum
  | 101 => some ns_I_P_takeProduct
  | 102 => some ns_I_P_takeUnit
  | 103 => some ns_I_P_takeNumber
  | 104 => some ns_I_L_cell
  | 105 => some ns_I_L_law
  | 106 => some ns_I_J_floorMod
  | _ => none
def ns_lF : List ((Nat × Nat) × (Nat × Nat × FieldType × Bool)) := [((0, 18), (0, 5, .int, true)), ((0, 24), (0, 0, .array (.object "NoteSheet$Cell"), true)), ((0, 29), (0, 1, .array .int, true)), ((0, 33), (0, 2, .array .int, true)), ((0, 39), (0, 3, .object "NoteSheet$Formula", true)), ((0, 48), (0, 4, .object "NoteSheet$Parser", true)), ((0, 52), (0, 6, .int, false)), ((0, 78), (2, 2, .int, false)), ((0, 84), (1, 4, .boolean, false)), ((0, 88), (1, 6, .int, false)), ((0, 91), (1, 7, .int, false)), ((0, 107), (1, 2, .array .int, true)), ((0, 113), (1, 1, .object "NoteSheet$Note", true)), ((0, 117), (3, 5, .int, false)), ((0, 125), (3, 1, .int, false)), ((0, 128), (3, 3, .boolean, false)), ((0, 131), (3, 0, .array .int, true)), ((0, 137), (1, 0, .object "NoteSheet$Formula", true)), ((0, 154), (1, 5, .int, false)), ((0, 157), (1, 8, .int, false)), ((0, 172), (3, 4, .long, false)), ((0, 176), (1, 9, .boolean, false)), ((0, 198), (3, 7, .int, false)), ((0, 199), (3, 2, .boolean, false)), ((0, 211), (1, 3, .array .int, true)), ((0, 214), (2, 3, .int, false)), ((0, 240), (0, 7, .int, false)), ((0, 243), (1, 10, .int, false)), ((1, 12), (1, 0, .object "NoteSheet$Formula", true)), ((1, 21), (1, 1, .object "NoteSheet$Note", true)), ((1, 25), (1, 2, .array .int, true)), ((1, 29), (1, 3, .array .int, true)), ((1, 32), (1, 4, .boolean, false)), ((1, 36), (1, 7, .int, false)), ((1, 40), (3, 7, .int, false)), ((1, 41), (3, 6, .int, false)), ((1, 44), (1, 8, .int, false)), ((2, 9), (2, 0, .array .char, true)), ((2, 15), (2, 1, .array .int, true)), ((2, 34), (2, 2, .int, false)), ((2, 38), (2, 3, .int, false)), ((3, 9), (3, 0, .array .int, true)), ((3, 15), (3, 1, .int, false)), ((3, 19), (3, 2, .boolean, false)), ((3, 23), (3, 3, .boolean, false)), ((3, 26), (3, 5, .int, false)), ((3, 29), (3, 6, .int, false)), ((3, 32), (3, 7, .int, false)), ((3, 35), (3, 4, .long, false)), ((4, 9), (4, 0, .object "NoteSheet$Formula", true)), ((4, 15), (4, 1, .int, false)), ((4, 19), (2, 3, .int, false)), ((4, 28), (2, 2, .int, false)), ((4, 31), (2, 0, .array .char, true)), ((5, 7), (5, 1, .array .int, true)), ((5, 13), (5, 3, .int, false)), ((5, 17), (5, 4, .array .int, true)), ((5, 20), (5, 5, .array .boolean, true)), ((5, 24), (5, 6, .array .int, true)), ((5, 27), (5, 7, .array .int, true)), ((5, 30), (5, 8, .array .int, true)), ((5, 33), (5, 9, .array .int, true)), ((5, 36), (5, 10, .array .int, true)), ((5, 39), (5, 11, .array .int, true)), ((5, 42), (5, 12, .array .int, true)), ((5, 45), (5, 13, .array .int, true)), ((5, 48), (5, 14, .array .int, true)), ((5, 51), (5, 15, .array .boolean, true)), ((5, 54), (5, 16, .array .boolean, true)), ((5, 57), (5, 17, .array .long, true)), ((5, 61), (5, 18, .array .int, true)), ((5, 64), (5, 19, .array .int, true)), ((5, 67), (5, 20, .array .int, true)), ((5, 70), (5, 21, .array .int, true)), ((5, 73), (5, 22, .array .int, true)), ((5, 76), (5, 23, .array .int, true)), ((5, 79), (5, 25, .array .int, true)), ((5, 82), (5, 26, .array .int, true)), ((5, 85), (5, 28, .array .int, true)), ((5, 88), (5, 29, .array .int, true)), ((5, 91), (5, 30, .array .int, true)), ((5, 94), (5, 31, .array .int, true)), ((5, 97), (5, 32, .array .long, true)), ((5, 100), (5, 33, .array .int, true)), ((5, 103), (5, 34, .array .int, true)), ((5, 106), (5, 35, .array .boolean, true)), ((5, 109), (5, 36, .array .boolean, true)), ((5, 112), (5, 38, .array .int, true)), ((5, 115), (5, 39, .array .int, true)), ((5, 118), (5, 41, .array .int, true)), ((5, 121), (5, 42, .array .int, true)), ((5, 124), (5, 0, .int, true)), ((5, 134), (5, 2, .int, false)), ((5, 137), (5, 40, .int, false)), ((5, 140), (5, 37, .int, false)), ((5, 191), (5, 27, .int, false)), ((5, 194), (5, 24, .int, false))]
def ns_tF : ax_TF := fun c n => (ns_lF.find? (fun q => q.1.1 == c && q.1.2 == n)).map (fun q => q.2)
def ns_lC : List ((Nat × Nat) × ((Nat ⊕ Nat) × Nat × Nat × Nat × Nat × Nat)) := [((0, 1), (.inr 0, 0, 0, 0, 0, 2)), ((0, 9), (.inr 2, 0, 0, 0, 0, 0)), ((0, 15), (.inr 1, 0, 0, 0, 0, 0)), ((0, 28), (.inl 73, 0, 7, 117, 1, 2)), ((0, 38), (.inl 77, 0, 2, 60, 2, 2)), ((0, 45), (.inl 93, 1, 0, 0, 4, 2)), ((0, 55), (.inl 80, 1, 0, 0, 2, 0)), ((0, 59), (.inl 81, 1, 0, 0, 2, 1)), ((0, 62), (.inl 10, 1, 0, 0, 0, 0)), ((0, 66), (.inl 94, 0, 0, 0, 4, 1)), ((0, 70), (.inl 95, 0, 0, 0, 4, 1)), ((0, 74), (.inl 12, 1, 0, 0, 0, 1)), ((0, 81), (.inl 11, 1, 0, 0, 0, 0)), ((0, 94), (.inl 13, 3, 0, 0, 0, 1)), ((0, 100), (.inl 15, 1, 0, 0, 0, 1)), ((0, 104), (.inl 28, 0, 0, 0, 0, 1)), ((0, 110), (.inl 76, 0, 0, 0, 1, 1)), ((0, 122), (.inl 75, 0, 0, 0, 1, 1)), ((0, 134), (.inl 27, 0, 0, 0, 0, 1)), ((0, 140), (.inl 86, 1, 0, 0, 2, 1)), ((0, 144), (.inl 74, 0, 0, 0, 1, 1)), ((0, 147), (.inl 14, 1, 0, 0, 0, 1)), ((0, 151), (.inl 87, 1, 0, 0, 2, 1)), ((0, 160), (.inl 89, 0, 0, 0, 3, 1)), ((0, 163), (.inl 16, 1, 0, 0, 0, 1)), ((0, 166), (.inl 20, 1, 0, 0, 0, 1)), ((0, 169), (.inl 25, 1, 0, 0, 0, 1)), ((0, 179), (.inl 90, 1, 0, 0, 3, 1)), ((0, 182), (.inl 17, 1, 0, 0, 0, 1)), ((0, 186), (.inl 19, 2, 0, 0, 0, 1)), ((0, 190), (.inl 18, 1, 0, 0, 0, 1)), ((0, 194), (.inl 21, 1, 0, 0, 0, 1)), ((0, 202), (.inl 26, 2, 0, 0, 0, 1)), ((0, 204), (.inl 22, 1, 0, 0, 0, 1)), ((0, 207), (.inl 91, 2, 0, 0, 3, 1)), ((0, 217), (.inl 85, 1, 0, 0, 2, 1)), ((0, 221), (.inl 84, 1, 0, 0, 2, 1)), ((0, 224), (.inl 106, 2, 0, 0, 7, 0)), ((0, 227), (.inl 24, 2, 0, 0, 0, 1)), ((0, 233), (.inl 23, 3, 0, 0, 0, 0)), ((0, 237), (.inl 92, 1, 0, 0, 3, 1)), ((0, 246), (.inl 29, 0, 0, 0, 0, 1)), ((1, 3), (.inr 0, 0, 0, 0, 0, 2)), ((1, 11), (.inl 77, 0, 2, 60, 2, 2)), ((1, 20), (.inl 88, 0, 1, 12, 3, 2)), ((2, 3), (.inr 0, 0, 0, 0, 0, 2)), ((2, 19), (.inl 78, 1, 0, 0, 2, 0)), ((2, 23), (.inl 79, 1, 0, 0, 2, 0)), ((2, 28), (.inr 4, 0, 0, 0, 0, 1)), ((2, 41), (.inl 84, 1, 0, 0, 2, 1)), ((2, 44), (.inr 5, 0, 0, 0, 0, 0)), ((3, 3), (.inr 0, 0, 0, 0, 0, 2)), ((3, 39), (.inl 90, 1, 0, 0, 3, 1)), ((4, 3), (.inr 0, 0, 0, 0, 0, 2)), ((4, 24), (.inl 98, 1, 0, 0, 4, 1)), ((4, 35), (.inl 96, 0, 0, 0, 4, 1)), ((4, 39), (.inl 100, 1, 0, 0, 4, 1)), ((4, 42), (.inl 82, 2, 0, 0, 2, 1)), ((4, 46), (.inl 97, 1, 0, 0, 4, 1)), ((4, 50), (.inl 99, 1, 0, 0, 4, 1)), ((4, 53), (.inl 83, 1, 0, 0, 2, 1)), ((4, 57), (.inl 101, 1, 0, 0, 4, 1)), ((4, 60), (.inl 102, 1, 0, 0, 4, 1)), ((4, 63), (.inl 78, 1, 0, 0, 2, 0)), ((4, 66), (.inl 79, 1, 0, 0, 2, 0)), ((4, 69), (.inl 103, 0, 0, 0, 4, 1)), ((5, 1), (.inr 0, 0, 0, 0, 0, 2)), ((5, 127), (.inl 32, 1, 0, 0, 5, 0)), ((5, 131), (.inl 33, 1, 0, 0, 5, 0)), ((5, 143), (.inl 37, 1, 0, 0, 5, 0)), ((5, 147), (.inl 35, 2, 0, 0, 5, 1)), ((5, 151), (.inl 38, 1, 0, 0, 5, 1)), ((5, 155), (.inl 39, 0, 0, 0, 5, 1)), ((5, 159), (.inl 36, 2, 0, 0, 5, 1)), ((5, 162), (.inl 42, 0, 0, 0, 5, 1)), ((5, 165), (.inl 41, 0, 0, 0, 5, 1)), ((5, 169), (.inl 44, 0, 0, 0, 5, 1)), ((5, 172), (.inl 43, 0, 0, 0, 5, 1)), ((5, 175), (.inl 40, 2, 0, 0, 5, 1)), ((5, 179), (.inl 45, 1, 0, 0, 5, 1)), ((5, 182), (.inl 46, 0, 0, 0, 5, 1)), ((5, 185), (.inl 31, 1, 0, 0, 5, 0)), ((5, 188), (.inl 48, 1, 0, 0, 5, 1)), ((5, 197), (.inl 58, 2, 0, 0, 5, 1)), ((5, 200), (.inl 59, 2, 0, 0, 5, 1)), ((5, 203), (.inl 60, 3, 0, 0, 5, 1)), ((5, 207), (.inl 63, 2, 0, 0, 5, 1)), ((5, 210), (.inl 54, 2, 0, 0, 5, 1)), ((5, 213), (.inl 55, 0, 0, 0, 5, 1)), ((5, 216), (.inl 51, 1, 0, 0, 5, 1)), ((5, 219), (.inl 50, 1, 0, 0, 5, 1)), ((5, 222), (.inl 53, 2, 0, 0, 5, 1)), ((5, 225), (.inl 52, 1, 0, 0, 5, 1)), ((5, 228), (.inl 56, 1, 0, 0, 5, 1)), ((5, 231), (.inl 65, 3, 0, 0, 5, 1)), ((5, 235), (.inl 61, 2, 0, 0, 5, 1)), ((5, 239), (.inl 62, 1, 0, 0, 5, 1)), ((5, 243), (.inl 64, 2, 0, 0, 5, 1)), ((5, 250), (.inl 57, 0, 0, 0, 5, 1)), ((5, 253), (.inl 66, 0, 0, 0, 5, 1)), ((6, 9), (.inl 104, 2, 0, 0, 6, 0)), ((6, 15), (.inl 0, 1, 103, 1620, 0, 2)), ((6, 20), (.inl 30, 1, 36, 2344, 5, 2)), ((6, 21), (.inl 1, 1, 0, 0, 0, 1)), ((6, 25), (.inl 34, 1, 0, 0, 5, 1)), ((6, 26), (.inl 2, 1, 0, 0, 0, 1)), ((6, 30), (.inl 47, 1, 0, 0, 5, 1)), ((6, 31), (.inl 3, 3, 0, 0, 0, 1)), ((6, 35), (.inl 49, 3, 0, 0, 5, 1)), ((6, 36), (.inl 4, 1, 0, 0, 0, 1)), ((6, 40), (.inl 67, 1, 0, 0, 5, 1)), ((6, 41), (.inl 5, 0, 0, 0, 0, 1)), ((6, 45), (.inl 68, 0, 0, 0, 5, 1)), ((6, 46), (.inl 6, 1, 0, 0, 0, 1)), ((6, 49), (.inl 69, 1, 0, 0, 5, 1)), ((6, 50), (.inl 7, 2, 0, 0, 0, 1)), ((6, 54), (.inl 70, 2, 0, 0, 5, 1)), ((6, 55), (.inl 8, 2, 0, 0, 0, 1)), ((6, 58), (.inl 71, 2, 0, 0, 5, 1)), ((6, 59), (.inl 9, 1, 0, 0, 0, 1)), ((6, 62), (.inl 72, 1, 0, 0, 5, 1))]
def ns_tC : ax_TC := fun c n => (ns_lC.find? (fun q => q.1.1 == c && q.1.2 == n)).map (fun q => q.2)
def ns_lK : List ((Nat × Nat) × (Value)) := [((0, 98), (.long (-1))), ((0, 231), (.long 1099511627776)), ((2, 26), (.retAddr 1)), ((5, 246), (.long 1099511627776)), ((5, 248), (.long (-1)))]
def ns_tK : ax_TK := fun c n => (ns_lK.find? (fun q => q.1.1 == c && q.1.2 == n)).map (fun q => q.2)
def ns_lN : List ((Nat × Nat) × (Nat × List Value × String)) := [((0, 22), (1, [.null, .null, .null, .null, .int 0, .int 0, .int 0, .int 0, .int 0, .int 0, .int 0], "NoteSheet$Cell")), ((0, 36), (2, [.null, .null, .int 0, .int 0], "NoteSheet$Formula")), ((0, 43), (4, [.null, .int 0], "NoteSheet$Parser")), ((1, 9), (2, [.null, .null, .int 0, .int 0], "NoteSheet$Formula")), ((1, 18), (3, [.null, .int 0, .int 0, .int 0, .long 0, .int 0, .int 0, .int 0], "NoteSheet$Note")), ((6, 7), (0, [.null, .null, .null, .null, .null, .int 0, .int 0, .int 0], "NoteSheet")), ((6, 18), (5, [.int 0, .null, .int 0, .int 0, .null, .null, .null, .null, .null, .null, .null, .null, .null, .null, .null, .null, .null, .null, .null, .null, .null, .null, .null, .null, .int 0, .null, .null, .int 0, .null, .null, .null, .null, .null, .null, .null, .null, .null, .int 0, .null, .null, .int 0, .null, .null], "NoteSheetModel"))]
def ns_tN : ax_TN := fun c n => (ns_lN.find? (fun q => q.1.1 == c && q.1.2 == n)).map (fun q => q.2)
def ns_tb : ax_Tb := (ns_tF, ns_tC, ns_tK, ns_tN)
def ns_Tb : List Cond := lw_tbl.filter goodWord
theorem nF_0_18 : ns_tF 0 18 = some (0, 5, .int, true) := by decide +kernel
theorem nF_0_24 : ns_tF 0 24 = some (0, 0, .array (.object "NoteSheet$Cell"), true) := by decide +kernel
theorem nF_0_29 : ns_tF 0 29 = some (0, 1, .array .int, true) := by decide +kernel
theorem nF_0_33 : ns_tF 0 33 = some (0, 2, .array .int, true) := by decide +kernel
theorem nF_0_39 : ns_tF 0 39 = some (0, 3, .object "NoteSheet$Formula", true) := by decide +kernel
theorem nF_0_48 : ns_tF 0 48 = some (0, 4, .object "NoteSheet$Parser", true) := by decide +kernel
theorem nF_0_52 : ns_tF 0 52 = some (0, 6, .int, false) := by decide +kernel
theorem nF_0_78 : ns_tF 0 78 = some (2, 2, .int, false) := by decide +kernel
theorem nF_0_84 : ns_tF 0 84 = some (1, 4, .boolean, false) := by decide +kernel
theorem nF_0_88 : ns_tF 0 88 = some (1, 6, .int, false) := by decide +kernel
theorem nF_0_91 : ns_tF 0 91 = some (1, 7, .int, false) := by decide +kernel
theorem nF_0_107 : ns_tF 0 107 = some (1, 2, .array .int, true) := by decide +kernel
theorem nF_0_113 : ns_tF 0 113 = some (1, 1, .object "NoteSheet$Note", true) := by decide +kernel
theorem nF_0_117 : ns_tF 0 117 = some (3, 5, .int, false) := by decide +kernel
theorem nF_0_125 : ns_tF 0 125 = some (3, 1, .int, false) := by decide +kernel
theorem nF_0_128 : ns_tF 0 128 = some (3, 3, .boolean, false) := by decide +kernel
theorem nF_0_131 : ns_tF 0 131 = some (3, 0, .array .int, true) := by decide +kernel
theorem nF_0_137 : ns_tF 0 137 = some (1, 0, .object "NoteSheet$Formula", true) := by decide +kernel
theorem nF_0_154 : ns_tF 0 154 = some (1, 5, .int, false) := by decide +kernel
theorem nF_0_157 : ns_tF 0 157 = some (1, 8, .int, false) := by decide +kernel
theorem nF_0_172 : ns_tF 0 172 = some (3, 4, .long, false) := by decide +kernel
theorem nF_0_176 : ns_tF 0 176 = some (1, 9, .boolean, false) := by decide +kernel
theorem nF_0_198 : ns_tF 0 198 = some (3, 7, .int, false) := by decide +kernel
theorem nF_0_199 : ns_tF 0 199 = some (3, 2, .boolean, false) := by decide +kernel
theorem nF_0_211 : ns_tF 0 211 = some (1, 3, .array .int, true) := by decide +kernel
theorem nF_0_214 : ns_tF 0 214 = some (2, 3, .int, false) := by decide +kernel
theorem nF_0_240 : ns_tF 0 240 = some (0, 7, .int, false) := by decide +kernel
theorem nF_0_243 : ns_tF 0 243 = some (1, 10, .int, false) := by decide +kernel
theorem nF_1_12 : ns_tF 1 12 = some (1, 0, .object "NoteSheet$Formula", true) := by decide +kernel
theorem nF_1_21 : ns_tF 1 21 = some (1, 1, .object "NoteSheet$Note", true) := by decide +kernel
theorem nF_1_25 : ns_tF 1 25 = some (1, 2, .array .int, true) := by decide +kernel
theorem nF_1_29 : ns_tF 1 29 = some (1, 3, .array .int, true) := by decide +kernel
theorem nF_1_32 : ns_tF 1 32 = some (1, 4, .boolean, false) := by decide +kernel
theorem nF_1_36 : ns_tF 1 36 = some (1, 7, .int, false) := by decide +kernel
theorem nF_1_40 : ns_tF 1 40 = some (3, 7, .int, false) := by decide +kernel
theorem nF_1_41 : ns_tF 1 41 = some (3, 6, .int, false) := by decide +kernel
theorem nF_1_44 : ns_tF 1 44 = some (1, 8, .int, false) := by decide +kernel
theorem nF_2_9 : ns_tF 2 9 = some (2, 0, .array .char, true) := by decide +kernel
theorem nF_2_15 : ns_tF 2 15 = some (2, 1, .array .int, true) := by decide +kernel
theorem nF_2_34 : ns_tF 2 34 = some (2, 2, .int, false) := by decide +kernel
theorem nF_2_38 : ns_tF 2 38 = some (2, 3, .int, false) := by decide +kernel
theorem nF_3_9 : ns_tF 3 9 = some (3, 0, .array .int, true) := by decide +kernel
theorem nF_3_15 : ns_tF 3 15 = some (3, 1, .int, false) := by decide +kernel
theorem nF_3_19 : ns_tF 3 19 = some (3, 2, .boolean, false) := by decide +kernel
theorem nF_3_23 : ns_tF 3 23 = some (3, 3, .boolean, false) := by decide +kernel
theorem nF_3_26 : ns_tF 3 26 = some (3, 5, .int, false) := by decide +kernel
theorem nF_3_29 : ns_tF 3 29 = some (3, 6, .int, false) := by decide +kernel
theorem nF_3_32 : ns_tF 3 32 = some (3, 7, .int, false) := by decide +kernel
theorem nF_3_35 : ns_tF 3 35 = some (3, 4, .long, false) := by decide +kernel
theorem nF_4_9 : ns_tF 4 9 = some (4, 0, .object "NoteSheet$Formula", true) := by decide +kernel
theorem nF_4_15 : ns_tF 4 15 = some (4, 1, .int, false) := by decide +kernel
theorem nF_4_19 : ns_tF 4 19 = some (2, 3, .int, false) := by decide +kernel
theorem nF_4_28 : ns_tF 4 28 = some (2, 2, .int, false) := by decide +kernel
theorem nF_4_31 : ns_tF 4 31 = some (2, 0, .array .char, true) := by decide +kernel
theorem nF_5_7 : ns_tF 5 7 = some (5, 1, .array .int, true) := by decide +kernel
theorem nF_5_13 : ns_tF 5 13 = some (5, 3, .int, false) := by decide +kernel
theorem nF_5_17 : ns_tF 5 17 = some (5, 4, .array .int, true) := by decide +kernel
theorem nF_5_20 : ns_tF 5 20 = some (5, 5, .array .boolean, true) := by decide +kernel
theorem nF_5_24 : ns_tF 5 24 = some (5, 6, .array .int, true) := by decide +kernel
theorem nF_5_27 : ns_tF 5 27 = some (5, 7, .array .int, true) := by decide +kernel
theorem nF_5_30 : ns_tF 5 30 = some (5, 8, .array .int, true) := by decide +kernel
theorem nF_5_33 : ns_tF 5 33 = some (5, 9, .array .int, true) := by decide +kernel
theorem nF_5_36 : ns_tF 5 36 = some (5, 10, .array .int, true) := by decide +kernel
theorem nF_5_39 : ns_tF 5 39 = some (5, 11, .array .int, true) := by decide +kernel
theorem nF_5_42 : ns_tF 5 42 = some (5, 12, .array .int, true) := by decide +kernel
theorem nF_5_45 : ns_tF 5 45 = some (5, 13, .array .int, true) := by decide +kernel
theorem nF_5_48 : ns_tF 5 48 = some (5, 14, .array .int, true) := by decide +kernel
theorem nF_5_51 : ns_tF 5 51 = some (5, 15, .array .boolean, true) := by decide +kernel
theorem nF_5_54 : ns_tF 5 54 = some (5, 16, .array .boolean, true) := by decide +kernel
theorem nF_5_57 : ns_tF 5 57 = some (5, 17, .array .long, true) := by decide +kernel
theorem nF_5_61 : ns_tF 5 61 = some (5, 18, .array .int, true) := by decide +kernel
theorem nF_5_64 : ns_tF 5 64 = some (5, 19, .array .int, true) := by decide +kernel
theorem nF_5_67 : ns_tF 5 67 = some (5, 20, .array .int, true) := by decide +kernel
theorem nF_5_70 : ns_tF 5 70 = some (5, 21, .array .int, true) := by decide +kernel
theorem nF_5_73 : ns_tF 5 73 = some (5, 22, .array .int, true) := by decide +kernel
theorem nF_5_76 : ns_tF 5 76 = some (5, 23, .array .int, true) := by decide +kernel
theorem nF_5_79 : ns_tF 5 79 = some (5, 25, .array .int, true) := by decide +kernel
theorem nF_5_82 : ns_tF 5 82 = some (5, 26, .array .int, true) := by decide +kernel
theorem nF_5_85 : ns_tF 5 85 = some (5, 28, .array .int, true) := by decide +kernel
theorem nF_5_88 : ns_tF 5 88 = some (5, 29, .array .int, true) := by decide +kernel
theorem nF_5_91 : ns_tF 5 91 = some (5, 30, .array .int, true) := by decide +kernel
theorem nF_5_94 : ns_tF 5 94 = some (5, 31, .array .int, true) := by decide +kernel
theorem nF_5_97 : ns_tF 5 97 = some (5, 32, .array .long, true) := by decide +kernel
theorem nF_5_100 : ns_tF 5 100 = some (5, 33, .array .int, true) := by decide +kernel
theorem nF_5_103 : ns_tF 5 103 = some (5, 34, .array .int, true) := by decide +kernel
theorem nF_5_106 : ns_tF 5 106 = some (5, 35, .array .boolean, true) := by decide +kernel
theorem nF_5_109 : ns_tF 5 109 = some (5, 36, .array .boolean, true) := by decide +kernel
theorem nF_5_112 : ns_tF 5 112 = some (5, 38, .array .int, true) := by decide +kernel
theorem nF_5_115 : ns_tF 5 115 = some (5, 39, .array .int, true) := by decide +kernel
theorem nF_5_118 : ns_tF 5 118 = some (5, 41, .array .int, true) := by decide +kernel
theorem nF_5_121 : ns_tF 5 121 = some (5, 42, .array .int, true) := by decide +kernel
theorem nF_5_124 : ns_tF 5 124 = some (5, 0, .int, true) := by decide +kernel
theorem nF_5_134 : ns_tF 5 134 = some (5, 2, .int, false) := by decide +kernel
theorem nF_5_137 : ns_tF 5 137 = some (5, 40, .int, false) := by decide +kernel
theorem nF_5_140 : ns_tF 5 140 = some (5, 37, .int, false) := by decide +kernel
theorem nF_5_191 : ns_tF 5 191 = some (5, 27, .int, false) := by decide +kernel
theorem nF_5_194 : ns_tF 5 194 = some (5, 24, .int, false) := by decide +kernel
theorem nC_0_1 : ns_tC 0 1 = some (.inr 0, 0, 0, 0, 0, 2) := by decide +kernel
theorem nC_0_9 : ns_tC 0 9 = some (.inr 2, 0, 0, 0, 0, 0) := by decide +kernel
theorem nC_0_15 : ns_tC 0 15 = some (.inr 1, 0, 0, 0, 0, 0) := by decide +kernel
theorem nC_0_28 : ns_tC 0 28 = some (.inl 73, 0, 7, 117, 1, 2) := by decide +kernel
theorem nC_0_38 : ns_tC 0 38 = some (.inl 77, 0, 2, 60, 2, 2) := by decide +kernel
theorem nC_0_45 : ns_tC 0 45 = some (.inl 93, 1, 0, 0, 4, 2) := by decide +kernel
theorem nC_0_55 : ns_tC 0 55 = some (.inl 80, 1, 0, 0, 2, 0) := by decide +kernel
theorem nC_0_59 : ns_tC 0 59 = some (.inl 81, 1, 0, 0, 2, 1) := by decide +kernel
theorem nC_0_62 : ns_tC 0 62 = some (.inl 10, 1, 0, 0, 0, 0) := by decide +kernel
theorem nC_0_66 : ns_tC 0 66 = some (.inl 94, 0, 0, 0, 4, 1) := by decide +kernel
theorem nC_0_70 : ns_tC 0 70 = some (.inl 95, 0, 0, 0, 4, 1) := by decide +kernel
theorem nC_0_74 : ns_tC 0 74 = some (.inl 12, 1, 0, 0, 0, 1) := by decide +kernel
theorem nC_0_81 : ns_tC 0 81 = some (.inl 11, 1, 0, 0, 0, 0) := by decide +kernel
theorem nC_0_94 : ns_tC 0 94 = some (.inl 13, 3, 0, 0, 0, 1) := by decide +kernel
theorem nC_0_100 : ns_tC 0 100 = some (.inl 15, 1, 0, 0, 0, 1) := by decide +kernel
theorem nC_0_104 : ns_tC 0 104 = some (.inl 28, 0, 0, 0, 0, 1) := by decide +kernel
theorem nC_0_110 : ns_tC 0 110 = some (.inl 76, 0, 0, 0, 1, 1) := by decide +kernel
theorem nC_0_122 : ns_tC 0 122 = some (.inl 75, 0, 0, 0, 1, 1) := by decide +kernel
theorem nC_0_134 : ns_tC 0 134 = some (.inl 27, 0, 0, 0, 0, 1) := by decide +kernel
theorem nC_0_140 : ns_tC 0 140 = some (.inl 86, 1, 0, 0, 2, 1) := by decide +kernel
theorem nC_0_144 : ns_tC 0 144 = some (.inl 74, 0, 0, 0, 1, 1) := by decide +kernel
theorem nC_0_147 : ns_tC 0 147 = some (.inl 14, 1, 0, 0, 0, 1) := by decide +kernel
theorem nC_0_151 : ns_tC 0 151 = some (.inl 87, 1, 0, 0, 2, 1) := by decide +kernel
theorem nC_0_160 : ns_tC 0 160 = some (.inl 89, 0, 0, 0, 3, 1) := by decide +kernel
theorem nC_0_163 : ns_tC 0 163 = some (.inl 16, 1, 0, 0, 0, 1) := by decide +kernel
theorem nC_0_166 : ns_tC 0 166 = some (.inl 20, 1, 0, 0, 0, 1) := by decide +kernel
theorem nC_0_169 : ns_tC 0 169 = some (.inl 25, 1, 0, 0, 0, 1) := by decide +kernel
theorem nC_0_179 : ns_tC 0 179 = some (.inl 90, 1, 0, 0, 3, 1) := by decide +kernel
theorem nC_0_182 : ns_tC 0 182 = some (.inl 17, 1, 0, 0, 0, 1) := by decide +kernel
theorem nC_0_186 : ns_tC 0 186 = some (.inl 19, 2, 0, 0, 0, 1) := by decide +kernel
theorem nC_0_190 : ns_tC 0 190 = some (.inl 18, 1, 0, 0, 0, 1) := by decide +kernel
theorem nC_0_194 : ns_tC 0 194 = some (.inl 21, 1, 0, 0, 0, 1) := by decide +kernel
theorem nC_0_202 : ns_tC 0 202 = some (.inl 26, 2, 0, 0, 0, 1) := by decide +kernel
theorem nC_0_204 : ns_tC 0 204 = some (.inl 22, 1, 0, 0, 0, 1) := by decide +kernel
theorem nC_0_207 : ns_tC 0 207 = some (.inl 91, 2, 0, 0, 3, 1) := by decide +kernel
theorem nC_0_217 : ns_tC 0 217 = some (.inl 85, 1, 0, 0, 2, 1) := by decide +kernel
theorem nC_0_221 : ns_tC 0 221 = some (.inl 84, 1, 0, 0, 2, 1) := by decide +kernel
theorem nC_0_224 : ns_tC 0 224 = some (.inl 106, 2, 0, 0, 7, 0) := by decide +kernel
theorem nC_0_227 : ns_tC 0 227 = some (.inl 24, 2, 0, 0, 0, 1) := by decide +kernel
theorem nC_0_233 : ns_tC 0 233 = some (.inl 23, 3, 0, 0, 0, 0) := by decide +kernel
theorem nC_0_237 : ns_tC 0 237 = some (.inl 92, 1, 0, 0, 3, 1) := by decide +kernel
theorem nC_0_246 : ns_tC 0 246 = some (.inl 29, 0, 0, 0, 0, 1) := by decide +kernel
theorem nC_1_3 : ns_tC 1 3 = some (.inr 0, 0, 0, 0, 0, 2) := by decide +kernel
theorem nC_1_11 : ns_tC 1 11 = some (.inl 77, 0, 2, 60, 2, 2) := by decide +kernel
theorem nC_1_20 : ns_tC 1 20 = some (.inl 88, 0, 1, 12, 3, 2) := by decide +kernel
theorem nC_2_3 : ns_tC 2 3 = some (.inr 0, 0, 0, 0, 0, 2) := by decide +kernel
theorem nC_2_19 : ns_tC 2 19 = some (.inl 78, 1, 0, 0, 2, 0) := by decide +kernel
theorem nC_2_23 : ns_tC 2 23 = some (.inl 79, 1, 0, 0, 2, 0) := by decide +kernel
theorem nC_2_28 : ns_tC 2 28 = some (.inr 4, 0, 0, 0, 0, 1) := by decide +kernel
theorem nC_2_41 : ns_tC 2 41 = some (.inl 84, 1, 0, 0, 2, 1) := by decide +kernel
theorem nC_2_44 : ns_tC 2 44 = some (.inr 5, 0, 0, 0, 0, 0) := by decide +kernel
theorem nC_3_3 : ns_tC 3 3 = some (.inr 0, 0, 0, 0, 0, 2) := by decide +kernel
theorem nC_3_39 : ns_tC 3 39 = some (.inl 90, 1, 0, 0, 3, 1) := by decide +kernel
theorem nC_4_3 : ns_tC 4 3 = some (.inr 0, 0, 0, 0, 0, 2) := by decide +kernel
theorem nC_4_24 : ns_tC 4 24 = some (.inl 98, 1, 0, 0, 4, 1) := by decide +kernel
theorem nC_4_35 : ns_tC 4 35 = some (.inl 96, 0, 0, 0, 4, 1) := by decide +kernel
theorem nC_4_39 : ns_tC 4 39 = some (.inl 100, 1, 0, 0, 4, 1) := by decide +kernel
theorem nC_4_42 : ns_tC 4 42 = some (.inl 82, 2, 0, 0, 2, 1) := by decide +kernel
theorem nC_4_46 : ns_tC 4 46 = some (.inl 97, 1, 0, 0, 4, 1) := by decide +kernel
theorem nC_4_50 : ns_tC 4 50 = some (.inl 99, 1, 0, 0, 4, 1) := by decide +kernel
theorem nC_4_53 : ns_tC 4 53 = some (.inl 83, 1, 0, 0, 2, 1) := by decide +kernel
theorem nC_4_57 : ns_tC 4 57 = some (.inl 101, 1, 0, 0, 4, 1) := by decide +kernel
theorem nC_4_60 : ns_tC 4 60 = some (.inl 102, 1, 0, 0, 4, 1) := by decide +kernel
theorem nC_4_63 : ns_tC 4 63 = some (.inl 78, 1, 0, 0, 2, 0) := by decide +kernel
theorem nC_4_66 : ns_tC 4 66 = some (.inl 79, 1, 0, 0, 2, 0) := by decide +kernel
theorem nC_4_69 : ns_tC 4 69 = some (.inl 103, 0, 0, 0, 4, 1) := by decide +kernel
theorem nC_5_1 : ns_tC 5 1 = some (.inr 0, 0, 0, 0, 0, 2) := by decide +kernel
theorem nC_5_127 : ns_tC 5 127 = some (.inl 32, 1, 0, 0, 5, 0) := by decide +kernel
theorem nC_5_131 : ns_tC 5 131 = some (.inl 33, 1, 0, 0, 5, 0) := by decide +kernel
theorem nC_5_143 : ns_tC 5 143 = some (.inl 37, 1, 0, 0, 5, 0) := by decide +kernel
theorem nC_5_147 : ns_tC 5 147 = some (.inl 35, 2, 0, 0, 5, 1) := by decide +kernel
theorem nC_5_151 : ns_tC 5 151 = some (.inl 38, 1, 0, 0, 5, 1) := by decide +kernel
theorem nC_5_155 : ns_tC 5 155 = some (.inl 39, 0, 0, 0, 5, 1) := by decide +kernel
theorem nC_5_159 : ns_tC 5 159 = some (.inl 36, 2, 0, 0, 5, 1) := by decide +kernel
theorem nC_5_162 : ns_tC 5 162 = some (.inl 42, 0, 0, 0, 5, 1) := by decide +kernel
theorem nC_5_165 : ns_tC 5 165 = some (.inl 41, 0, 0, 0, 5, 1) := by decide +kernel
theorem nC_5_169 : ns_tC 5 169 = some (.inl 44, 0, 0, 0, 5, 1) := by decide +kernel
theorem nC_5_172 : ns_tC 5 172 = some (.inl 43, 0, 0, 0, 5, 1) := by decide +kernel
theorem nC_5_175 : ns_tC 5 175 = some (.inl 40, 2, 0, 0, 5, 1) := by decide +kernel
theorem nC_5_179 : ns_tC 5 179 = some (.inl 45, 1, 0, 0, 5, 1) := by decide +kernel
theorem nC_5_182 : ns_tC 5 182 = some (.inl 46, 0, 0, 0, 5, 1) := by decide +kernel
theorem nC_5_185 : ns_tC 5 185 = some (.inl 31, 1, 0, 0, 5, 0) := by decide +kernel
theorem nC_5_188 : ns_tC 5 188 = some (.inl 48, 1, 0, 0, 5, 1) := by decide +kernel
theorem nC_5_197 : ns_tC 5 197 = some (.inl 58, 2, 0, 0, 5, 1) := by decide +kernel
theorem nC_5_200 : ns_tC 5 200 = some (.inl 59, 2, 0, 0, 5, 1) := by decide +kernel
theorem nC_5_203 : ns_tC 5 203 = some (.inl 60, 3, 0, 0, 5, 1) := by decide +kernel
theorem nC_5_207 : ns_tC 5 207 = some (.inl 63, 2, 0, 0, 5, 1) := by decide +kernel
theorem nC_5_210 : ns_tC 5 210 = some (.inl 54, 2, 0, 0, 5, 1) := by decide +kernel
theorem nC_5_213 : ns_tC 5 213 = some (.inl 55, 0, 0, 0, 5, 1) := by decide +kernel
theorem nC_5_216 : ns_tC 5 216 = some (.inl 51, 1, 0, 0, 5, 1) := by decide +kernel
theorem nC_5_219 : ns_tC 5 219 = some (.inl 50, 1, 0, 0, 5, 1) := by decide +kernel
theorem nC_5_222 : ns_tC 5 222 = some (.inl 53, 2, 0, 0, 5, 1) := by decide +kernel
theorem nC_5_225 : ns_tC 5 225 = some (.inl 52, 1, 0, 0, 5, 1) := by decide +kernel
theorem nC_5_228 : ns_tC 5 228 = some (.inl 56, 1, 0, 0, 5, 1) := by decide +kernel
theorem nC_5_231 : ns_tC 5 231 = some (.inl 65, 3, 0, 0, 5, 1) := by decide +kernel
theorem nC_5_235 : ns_tC 5 235 = some (.inl 61, 2, 0, 0, 5, 1) := by decide +kernel
theorem nC_5_239 : ns_tC 5 239 = some (.inl 62, 1, 0, 0, 5, 1) := by decide +kernel
theorem nC_5_243 : ns_tC 5 243 = some (.inl 64, 2, 0, 0, 5, 1) := by decide +kernel
theorem nC_5_250 : ns_tC 5 250 = some (.inl 57, 0, 0, 0, 5, 1) := by decide +kernel
theorem nC_5_253 : ns_tC 5 253 = some (.inl 66, 0, 0, 0, 5, 1) := by decide +kernel
theorem nC_6_9 : ns_tC 6 9 = some (.inl 104, 2, 0, 0, 6, 0) := by decide +kernel
theorem nC_6_15 : ns_tC 6 15 = some (.inl 0, 1, 103, 1620, 0, 2) := by decide +kernel
theorem nC_6_20 : ns_tC 6 20 = some (.inl 30, 1, 36, 2344, 5, 2) := by decide +kernel
theorem nC_6_21 : ns_tC 6 21 = some (.inl 1, 1, 0, 0, 0, 1) := by decide +kernel
theorem nC_6_25 : ns_tC 6 25 = some (.inl 34, 1, 0, 0, 5, 1) := by decide +kernel
theorem nC_6_26 : ns_tC 6 26 = some (.inl 2, 1, 0, 0, 0, 1) := by decide +kernel
theorem nC_6_30 : ns_tC 6 30 = some (.inl 47, 1, 0, 0, 5, 1) := by decide +kernel
theorem nC_6_31 : ns_tC 6 31 = some (.inl 3, 3, 0, 0, 0, 1) := by decide +kernel
theorem nC_6_35 : ns_tC 6 35 = some (.inl 49, 3, 0, 0, 5, 1) := by decide +kernel
theorem nC_6_36 : ns_tC 6 36 = some (.inl 4, 1, 0, 0, 0, 1) := by decide +kernel
theorem nC_6_40 : ns_tC 6 40 = some (.inl 67, 1, 0, 0, 5, 1) := by decide +kernel
theorem nC_6_41 : ns_tC 6 41 = some (.inl 5, 0, 0, 0, 0, 1) := by decide +kernel
theorem nC_6_45 : ns_tC 6 45 = some (.inl 68, 0, 0, 0, 5, 1) := by decide +kernel
theorem nC_6_46 : ns_tC 6 46 = some (.inl 6, 1, 0, 0, 0, 1) := by decide +kernel
theorem nC_6_49 : ns_tC 6 49 = some (.inl 69, 1, 0, 0, 5, 1) := by decide +kernel
theorem nC_6_50 : ns_tC 6 50 = some (.inl 7, 2, 0, 0, 0, 1) := by decide +kernel
theorem nC_6_54 : ns_tC 6 54 = some (.inl 70, 2, 0, 0, 5, 1) := by decide +kernel
theorem nC_6_55 : ns_tC 6 55 = some (.inl 8, 2, 0, 0, 0, 1) := by decide +kernel
theorem nC_6_58 : ns_tC 6 58 = some (.inl 71, 2, 0, 0, 5, 1) := by decide +kernel
theorem nC_6_59 : ns_tC 6 59 = some (.inl 9, 1, 0, 0, 0, 1) := by decide +kernel
theorem nC_6_62 : ns_tC 6 62 = some (.inl 72, 1, 0, 0, 5, 1) := by decide +kernel
theorem nK_0_98 : ns_tK 0 98 = some (.long (-1)) := by decide +kernel
theorem nK_0_231 : ns_tK 0 231 = some (.long 1099511627776) := by decide +kernel
theorem nK_2_26 : ns_tK 2 26 = some (.retAddr 1) := by decide +kernel
theorem nK_5_246 : ns_tK 5 246 = some (.long 1099511627776) := by decide +kernel
theorem nK_5_248 : ns_tK 5 248 = some (.long (-1)) := by decide +kernel
theorem nN_0_22 : ns_tN 0 22 = some (1, [.null, .null, .null, .null, .int 0, .int 0, .int 0, .int 0, .int 0, .int 0, .int 0], "NoteSheet$Cell") := by decide +kernel
theorem nN_0_36 : ns_tN 0 36 = some (2, [.null, .null, .int 0, .int 0], "NoteSheet$Formula") := by decide +kernel
theorem nN_0_43 : ns_tN 0 43 = some (4, [.null, .int 0], "NoteSheet$Parser") := by decide +kernel
theorem nN_1_9 : ns_tN 1 9 = some (2, [.null, .null, .int 0, .int 0], "NoteSheet$Formula") := by decide +kernel
theorem nN_1_18 : ns_tN 1 18 = some (3, [.null, .int 0, .int 0, .int 0, .long 0, .int 0, .int 0, .int 0], "NoteSheet$Note") := by decide +kernel
theorem nN_6_7 : ns_tN 6 7 = some (0, [.null, .null, .null, .null, .null, .int 0, .int 0, .int 0], "NoteSheet") := by decide +kernel
theorem nN_6_18 : ns_tN 6 18 = some (5, [.int 0, .null, .int 0, .int 0, .null, .null, .null, .null, .null, .null, .null, .null, .null, .null, .null, .null, .null, .null, .null, .null, .null, .null, .null, .null, .int 0, .null, .null, .int 0, .null, .null, .null, .null, .null, .null, .null, .null, .null, .int 0, .null, .null, .int 0, .null, .null], "NoteSheetModel") := by decide +kernel
end
