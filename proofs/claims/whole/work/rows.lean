section
-- ===== PART A: goes FIRST, ahead of the names: the tables' words, and 'selects' of the private methods out of them =====
/-- a private method of a class that the tables say can be made, by its rows of tables_1 -/
def lw_okq (q : MethodName × Nat) : Prop := (q.1.cls ≠ "java/lang/invoke/MethodHandle" ∧ q.1.cls ≠ "java/lang/invoke/VarHandle") ∧ Cond.instantiable q.1.cls q.2 ∈ tables_1 ∧ Cond.privateMethod q.1 ∈ tables_1 ∧ Cond.instanceMethod q.1 ∈ tables_1
theorem lw_p0 : lw_okq (⟨"NoteSheet$Parser", "takeFormula", "(I)Z"⟩, 2) := ⟨⟨by decide +kernel, by decide +kernel⟩, List.mem_of_getElem? (i := 145) (by decide +kernel), List.mem_of_getElem? (i := 295) (by decide +kernel), List.mem_of_getElem? (i := 296) (by decide +kernel)⟩
theorem lw_p1 : lw_okq (⟨"NoteSheet$Parser", "takeSum", "(I)Z"⟩, 2) := ⟨⟨by decide +kernel, by decide +kernel⟩, List.mem_of_getElem? (i := 145) (by decide +kernel), List.mem_of_getElem? (i := 299) (by decide +kernel), List.mem_of_getElem? (i := 300) (by decide +kernel)⟩
theorem lw_p2 : lw_okq (⟨"NoteSheet$Parser", "takeProduct", "(I)Z"⟩, 2) := ⟨⟨by decide +kernel, by decide +kernel⟩, List.mem_of_getElem? (i := 145) (by decide +kernel), List.mem_of_getElem? (i := 303) (by decide +kernel), List.mem_of_getElem? (i := 304) (by decide +kernel)⟩
theorem lw_p3 : lw_okq (⟨"NoteSheet$Parser", "takeUnit", "(I)Z"⟩, 2) := ⟨⟨by decide +kernel, by decide +kernel⟩, List.mem_of_getElem? (i := 145) (by decide +kernel), List.mem_of_getElem? (i := 307) (by decide +kernel), List.mem_of_getElem? (i := 308) (by decide +kernel)⟩
theorem lw_p4 : lw_okq (⟨"NoteSheet$Parser", "next", "()C"⟩, 2) := ⟨⟨by decide +kernel, by decide +kernel⟩, List.mem_of_getElem? (i := 145) (by decide +kernel), List.mem_of_getElem? (i := 311) (by decide +kernel), List.mem_of_getElem? (i := 312) (by decide +kernel)⟩
theorem lw_p5 : lw_okq (⟨"NoteSheet$Parser", "takeNumber", "()V"⟩, 2) := ⟨⟨by decide +kernel, by decide +kernel⟩, List.mem_of_getElem? (i := 145) (by decide +kernel), List.mem_of_getElem? (i := 321) (by decide +kernel), List.mem_of_getElem? (i := 322) (by decide +kernel)⟩
theorem lw_p6 : lw_okq (⟨"NoteSheet$Parser", "take", "(C)Z"⟩, 2) := ⟨⟨by decide +kernel, by decide +kernel⟩, List.mem_of_getElem? (i := 145) (by decide +kernel), List.mem_of_getElem? (i := 325) (by decide +kernel), List.mem_of_getElem? (i := 326) (by decide +kernel)⟩
theorem lw_p7 : lw_okq (⟨"NoteSheet$Parser", "takeBranches", "(I)Z"⟩, 2) := ⟨⟨by decide +kernel, by decide +kernel⟩, List.mem_of_getElem? (i := 145) (by decide +kernel), List.mem_of_getElem? (i := 329) (by decide +kernel), List.mem_of_getElem? (i := 330) (by decide +kernel)⟩
theorem lw_p8 : lw_okq (⟨"NoteSheet", "makeFormula", "(LNoteSheet$Cell;)V"⟩, 8) := ⟨⟨by decide +kernel, by decide +kernel⟩, List.mem_of_getElem? (i := 15) (by decide +kernel), List.mem_of_getElem? (i := 345) (by decide +kernel), List.mem_of_getElem? (i := 346) (by decide +kernel)⟩
theorem lw_p9 : lw_okq (⟨"NoteSheet", "startRevision", "(I)V"⟩, 8) := ⟨⟨by decide +kernel, by decide +kernel⟩, List.mem_of_getElem? (i := 15) (by decide +kernel), List.mem_of_getElem? (i := 357) (by decide +kernel), List.mem_of_getElem? (i := 358) (by decide +kernel)⟩
theorem lw_p10 : lw_okq (⟨"NoteSheet", "makeInput", "(LNoteSheet$Cell;II)V"⟩, 8) := ⟨⟨by decide +kernel, by decide +kernel⟩, List.mem_of_getElem? (i := 15) (by decide +kernel), List.mem_of_getElem? (i := 375) (by decide +kernel), List.mem_of_getElem? (i := 376) (by decide +kernel)⟩
theorem lw_p11 : lw_okq (⟨"NoteSheet", "upToDateValue", "(LNoteSheet$Cell;)J"⟩, 8) := ⟨⟨by decide +kernel, by decide +kernel⟩, List.mem_of_getElem? (i := 15) (by decide +kernel), List.mem_of_getElem? (i := 388) (by decide +kernel), List.mem_of_getElem? (i := 389) (by decide +kernel)⟩
theorem lw_p12 : lw_okq (⟨"NoteSheet", "bringUpToDate", "(LNoteSheet$Cell;)V"⟩, 8) := ⟨⟨by decide +kernel, by decide +kernel⟩, List.mem_of_getElem? (i := 15) (by decide +kernel), List.mem_of_getElem? (i := 392) (by decide +kernel), List.mem_of_getElem? (i := 393) (by decide +kernel)⟩
theorem lw_p13 : lw_okq (⟨"NoteSheet", "passes", "(LNoteSheet$Note;)Z"⟩, 8) := ⟨⟨by decide +kernel, by decide +kernel⟩, List.mem_of_getElem? (i := 15) (by decide +kernel), List.mem_of_getElem? (i := 400) (by decide +kernel), List.mem_of_getElem? (i := 401) (by decide +kernel)⟩
theorem lw_p14 : lw_okq (⟨"NoteSheet", "verify", "(LNoteSheet$Cell;I)V"⟩, 8) := ⟨⟨by decide +kernel, by decide +kernel⟩, List.mem_of_getElem? (i := 15) (by decide +kernel), List.mem_of_getElem? (i := 404) (by decide +kernel), List.mem_of_getElem? (i := 405) (by decide +kernel)⟩
theorem lw_p15 : lw_okq (⟨"NoteSheet", "tally", "(LNoteSheet$Cell;I)V"⟩, 8) := ⟨⟨by decide +kernel, by decide +kernel⟩, List.mem_of_getElem? (i := 15) (by decide +kernel), List.mem_of_getElem? (i := 408) (by decide +kernel), List.mem_of_getElem? (i := 409) (by decide +kernel)⟩
def lw_privs_1 : List (MethodName × Nat) := [(⟨"NoteSheet$Parser", "takeFormula", "(I)Z"⟩, 2), (⟨"NoteSheet$Parser", "takeSum", "(I)Z"⟩, 2), (⟨"NoteSheet$Parser", "takeProduct", "(I)Z"⟩, 2), (⟨"NoteSheet$Parser", "takeUnit", "(I)Z"⟩, 2), (⟨"NoteSheet$Parser", "next", "()C"⟩, 2), (⟨"NoteSheet$Parser", "takeNumber", "()V"⟩, 2), (⟨"NoteSheet$Parser", "take", "(C)Z"⟩, 2), (⟨"NoteSheet$Parser", "takeBranches", "(I)Z"⟩, 2), (⟨"NoteSheet", "makeFormula", "(LNoteSheet$Cell;)V"⟩, 8), (⟨"NoteSheet", "startRevision", "(I)V"⟩, 8), (⟨"NoteSheet", "makeInput", "(LNoteSheet$Cell;II)V"⟩, 8), (⟨"NoteSheet", "upToDateValue", "(LNoteSheet$Cell;)J"⟩, 8), (⟨"NoteSheet", "bringUpToDate", "(LNoteSheet$Cell;)V"⟩, 8), (⟨"NoteSheet", "passes", "(LNoteSheet$Note;)Z"⟩, 8), (⟨"NoteSheet", "verify", "(LNoteSheet$Cell;I)V"⟩, 8), (⟨"NoteSheet", "tally", "(LNoteSheet$Cell;I)V"⟩, 8)]
theorem lw_r1 : ∀ q ∈ lw_privs_1, lw_okq q := List.forall_mem_cons.mpr ⟨lw_p0, List.forall_mem_cons.mpr ⟨lw_p1, List.forall_mem_cons.mpr ⟨lw_p2, List.forall_mem_cons.mpr ⟨lw_p3, List.forall_mem_cons.mpr ⟨lw_p4, List.forall_mem_cons.mpr ⟨lw_p5, List.forall_mem_cons.mpr ⟨lw_p6, List.forall_mem_cons.mpr ⟨lw_p7, List.forall_mem_cons.mpr ⟨lw_p8, List.forall_mem_cons.mpr ⟨lw_p9, List.forall_mem_cons.mpr ⟨lw_p10, List.forall_mem_cons.mpr ⟨lw_p11, List.forall_mem_cons.mpr ⟨lw_p12, List.forall_mem_cons.mpr ⟨lw_p13, List.forall_mem_cons.mpr ⟨lw_p14, List.forall_mem_cons.mpr ⟨lw_p15, fun _ h => absurd h List.not_mem_nil⟩⟩⟩⟩⟩⟩⟩⟩⟩⟩⟩⟩⟩⟩⟩⟩
theorem lw_p16 : lw_okq (⟨"NoteSheet", "readsAreUnchanged", "(LNoteSheet$Cell;)Z"⟩, 8) := ⟨⟨by decide +kernel, by decide +kernel⟩, List.mem_of_getElem? (i := 15) (by decide +kernel), List.mem_of_getElem? (i := 412) (by decide +kernel), List.mem_of_getElem? (i := 413) (by decide +kernel)⟩
theorem lw_p17 : lw_okq (⟨"NoteSheet", "leastDurability", "(LNoteSheet$Note;)I"⟩, 8) := ⟨⟨by decide +kernel, by decide +kernel⟩, List.mem_of_getElem? (i := 15) (by decide +kernel), List.mem_of_getElem? (i := 420) (by decide +kernel), List.mem_of_getElem? (i := 421) (by decide +kernel)⟩
theorem lw_p18 : lw_okq (⟨"NoteSheet", "workOut", "(LNoteSheet$Cell;)V"⟩, 8) := ⟨⟨by decide +kernel, by decide +kernel⟩, List.mem_of_getElem? (i := 15) (by decide +kernel), List.mem_of_getElem? (i := 428) (by decide +kernel), List.mem_of_getElem? (i := 429) (by decide +kernel)⟩
theorem lw_p19 : lw_okq (⟨"NoteSheet", "evaluate", "(LNoteSheet$Cell;)J"⟩, 8) := ⟨⟨by decide +kernel, by decide +kernel⟩, List.mem_of_getElem? (i := 15) (by decide +kernel), List.mem_of_getElem? (i := 432) (by decide +kernel), List.mem_of_getElem? (i := 433) (by decide +kernel)⟩
theorem lw_p20 : lw_okq (⟨"NoteSheet", "giveTo", "(LNoteSheet$Cell;I)J"⟩, 8) := ⟨⟨by decide +kernel, by decide +kernel⟩, List.mem_of_getElem? (i := 15) (by decide +kernel), List.mem_of_getElem? (i := 444) (by decide +kernel), List.mem_of_getElem? (i := 445) (by decide +kernel)⟩
theorem lw_p21 : lw_okq (⟨"NoteSheet", "markUsed", "(LNoteSheet$Cell;)V"⟩, 8) := ⟨⟨by decide +kernel, by decide +kernel⟩, List.mem_of_getElem? (i := 15) (by decide +kernel), List.mem_of_getElem? (i := 461) (by decide +kernel), List.mem_of_getElem? (i := 462) (by decide +kernel)⟩
theorem lw_p22 : lw_okq (⟨"NoteSheet", "dropValuesBeyondKept", "()V"⟩, 8) := ⟨⟨by decide +kernel, by decide +kernel⟩, List.mem_of_getElem? (i := 15) (by decide +kernel), List.mem_of_getElem? (i := 465) (by decide +kernel), List.mem_of_getElem? (i := 466) (by decide +kernel)⟩
theorem lw_p23 : lw_okq (⟨"NoteSheet", "valuesInNotes", "()I"⟩, 8) := ⟨⟨by decide +kernel, by decide +kernel⟩, List.mem_of_getElem? (i := 15) (by decide +kernel), List.mem_of_getElem? (i := 469) (by decide +kernel), List.mem_of_getElem? (i := 470) (by decide +kernel)⟩
theorem lw_p24 : lw_okq (⟨"NoteSheet", "dropLongestUnused", "()V"⟩, 8) := ⟨⟨by decide +kernel, by decide +kernel⟩, List.mem_of_getElem? (i := 15) (by decide +kernel), List.mem_of_getElem? (i := 473) (by decide +kernel), List.mem_of_getElem? (i := 474) (by decide +kernel)⟩
theorem lw_p25 : lw_okq (⟨"NoteSheetModel", "fault", "()I"⟩, 43) := ⟨⟨by decide +kernel, by decide +kernel⟩, List.mem_of_getElem? (i := 500) (by decide +kernel), List.mem_of_getElem? (i := 652) (by decide +kernel), List.mem_of_getElem? (i := 653) (by decide +kernel)⟩
theorem lw_p26 : lw_okq (⟨"NoteSheetModel", "begin", "(II)Z"⟩, 43) := ⟨⟨by decide +kernel, by decide +kernel⟩, List.mem_of_getElem? (i := 500) (by decide +kernel), List.mem_of_getElem? (i := 656) (by decide +kernel), List.mem_of_getElem? (i := 657) (by decide +kernel)⟩
theorem lw_p27 : lw_okq (⟨"NoteSheetModel", "make", "(II)V"⟩, 43) := ⟨⟨by decide +kernel, by decide +kernel⟩, List.mem_of_getElem? (i := 500) (by decide +kernel), List.mem_of_getElem? (i := 660) (by decide +kernel), List.mem_of_getElem? (i := 661) (by decide +kernel)⟩
theorem lw_p28 : lw_okq (⟨"NoteSheetModel", "settle", "(I)V"⟩, 43) := ⟨⟨by decide +kernel, by decide +kernel⟩, List.mem_of_getElem? (i := 500) (by decide +kernel), List.mem_of_getElem? (i := 664) (by decide +kernel), List.mem_of_getElem? (i := 665) (by decide +kernel)⟩
theorem lw_p29 : lw_okq (⟨"NoteSheetModel", "deepness", "()I"⟩, 43) := ⟨⟨by decide +kernel, by decide +kernel⟩, List.mem_of_getElem? (i := 500) (by decide +kernel), List.mem_of_getElem? (i := 671) (by decide +kernel), List.mem_of_getElem? (i := 672) (by decide +kernel)⟩
theorem lw_p30 : lw_okq (⟨"NoteSheetModel", "put", "(II)V"⟩, 43) := ⟨⟨by decide +kernel, by decide +kernel⟩, List.mem_of_getElem? (i := 500) (by decide +kernel), List.mem_of_getElem? (i := 675) (by decide +kernel), List.mem_of_getElem? (i := 676) (by decide +kernel)⟩
theorem lw_p31 : lw_okq (⟨"NoteSheetModel", "goesOn", "(I)Z"⟩, 43) := ⟨⟨by decide +kernel, by decide +kernel⟩, List.mem_of_getElem? (i := 500) (by decide +kernel), List.mem_of_getElem? (i := 679) (by decide +kernel), List.mem_of_getElem? (i := 680) (by decide +kernel)⟩
def lw_privs_2 : List (MethodName × Nat) := [(⟨"NoteSheet", "readsAreUnchanged", "(LNoteSheet$Cell;)Z"⟩, 8), (⟨"NoteSheet", "leastDurability", "(LNoteSheet$Note;)I"⟩, 8), (⟨"NoteSheet", "workOut", "(LNoteSheet$Cell;)V"⟩, 8), (⟨"NoteSheet", "evaluate", "(LNoteSheet$Cell;)J"⟩, 8), (⟨"NoteSheet", "giveTo", "(LNoteSheet$Cell;I)J"⟩, 8), (⟨"NoteSheet", "markUsed", "(LNoteSheet$Cell;)V"⟩, 8), (⟨"NoteSheet", "dropValuesBeyondKept", "()V"⟩, 8), (⟨"NoteSheet", "valuesInNotes", "()I"⟩, 8), (⟨"NoteSheet", "dropLongestUnused", "()V"⟩, 8), (⟨"NoteSheetModel", "fault", "()I"⟩, 43), (⟨"NoteSheetModel", "begin", "(II)Z"⟩, 43), (⟨"NoteSheetModel", "make", "(II)V"⟩, 43), (⟨"NoteSheetModel", "settle", "(I)V"⟩, 43), (⟨"NoteSheetModel", "deepness", "()I"⟩, 43), (⟨"NoteSheetModel", "put", "(II)V"⟩, 43), (⟨"NoteSheetModel", "goesOn", "(I)Z"⟩, 43)]
theorem lw_r2 : ∀ q ∈ lw_privs_2, lw_okq q := List.forall_mem_cons.mpr ⟨lw_p16, List.forall_mem_cons.mpr ⟨lw_p17, List.forall_mem_cons.mpr ⟨lw_p18, List.forall_mem_cons.mpr ⟨lw_p19, List.forall_mem_cons.mpr ⟨lw_p20, List.forall_mem_cons.mpr ⟨lw_p21, List.forall_mem_cons.mpr ⟨lw_p22, List.forall_mem_cons.mpr ⟨lw_p23, List.forall_mem_cons.mpr ⟨lw_p24, List.forall_mem_cons.mpr ⟨lw_p25, List.forall_mem_cons.mpr ⟨lw_p26, List.forall_mem_cons.mpr ⟨lw_p27, List.forall_mem_cons.mpr ⟨lw_p28, List.forall_mem_cons.mpr ⟨lw_p29, List.forall_mem_cons.mpr ⟨lw_p30, List.forall_mem_cons.mpr ⟨lw_p31, fun _ h => absurd h List.not_mem_nil⟩⟩⟩⟩⟩⟩⟩⟩⟩⟩⟩⟩⟩⟩⟩⟩
theorem lw_p32 : lw_okq (⟨"NoteSheetModel", "compared", "()Z"⟩, 43) := ⟨⟨by decide +kernel, by decide +kernel⟩, List.mem_of_getElem? (i := 500) (by decide +kernel), List.mem_of_getElem? (i := 683) (by decide +kernel), List.mem_of_getElem? (i := 684) (by decide +kernel)⟩
theorem lw_p33 : lw_okq (⟨"NoteSheetModel", "awaits", "()I"⟩, 43) := ⟨⟨by decide +kernel, by decide +kernel⟩, List.mem_of_getElem? (i := 500) (by decide +kernel), List.mem_of_getElem? (i := 687) (by decide +kernel), List.mem_of_getElem? (i := 688) (by decide +kernel)⟩
theorem lw_p34 : lw_okq (⟨"NoteSheetModel", "inner", "()I"⟩, 43) := ⟨⟨by decide +kernel, by decide +kernel⟩, List.mem_of_getElem? (i := 500) (by decide +kernel), List.mem_of_getElem? (i := 691) (by decide +kernel), List.mem_of_getElem? (i := 692) (by decide +kernel)⟩
theorem lw_p35 : lw_okq (⟨"NoteSheetModel", "close", "()V"⟩, 43) := ⟨⟨by decide +kernel, by decide +kernel⟩, List.mem_of_getElem? (i := 500) (by decide +kernel), List.mem_of_getElem? (i := 695) (by decide +kernel), List.mem_of_getElem? (i := 696) (by decide +kernel)⟩
theorem lw_p36 : lw_okq (⟨"NoteSheetModel", "change", "(I)V"⟩, 43) := ⟨⟨by decide +kernel, by decide +kernel⟩, List.mem_of_getElem? (i := 500) (by decide +kernel), List.mem_of_getElem? (i := 702) (by decide +kernel), List.mem_of_getElem? (i := 703) (by decide +kernel)⟩
theorem lw_p37 : lw_okq (⟨"NoteSheetModel", "settled", "(I)Z"⟩, 43) := ⟨⟨by decide +kernel, by decide +kernel⟩, List.mem_of_getElem? (i := 500) (by decide +kernel), List.mem_of_getElem? (i := 715) (by decide +kernel), List.mem_of_getElem? (i := 716) (by decide +kernel)⟩
theorem lw_p38 : lw_okq (⟨"NoteSheetModel", "start", "(II)V"⟩, 43) := ⟨⟨by decide +kernel, by decide +kernel⟩, List.mem_of_getElem? (i := 500) (by decide +kernel), List.mem_of_getElem? (i := 719) (by decide +kernel), List.mem_of_getElem? (i := 720) (by decide +kernel)⟩
theorem lw_p39 : lw_okq (⟨"NoteSheetModel", "runAll", "()V"⟩, 43) := ⟨⟨by decide +kernel, by decide +kernel⟩, List.mem_of_getElem? (i := 500) (by decide +kernel), List.mem_of_getElem? (i := 723) (by decide +kernel), List.mem_of_getElem? (i := 724) (by decide +kernel)⟩
theorem lw_p40 : lw_okq (⟨"NoteSheetModel", "enter", "(II)V"⟩, 43) := ⟨⟨by decide +kernel, by decide +kernel⟩, List.mem_of_getElem? (i := 500) (by decide +kernel), List.mem_of_getElem? (i := 727) (by decide +kernel), List.mem_of_getElem? (i := 728) (by decide +kernel)⟩
theorem lw_p41 : lw_okq (⟨"NoteSheetModel", "counts", "(II)V"⟩, 43) := ⟨⟨by decide +kernel, by decide +kernel⟩, List.mem_of_getElem? (i := 500) (by decide +kernel), List.mem_of_getElem? (i := 731) (by decide +kernel), List.mem_of_getElem? (i := 732) (by decide +kernel)⟩
theorem lw_p42 : lw_okq (⟨"NoteSheetModel", "finish", "()V"⟩, 43) := ⟨⟨by decide +kernel, by decide +kernel⟩, List.mem_of_getElem? (i := 500) (by decide +kernel), List.mem_of_getElem? (i := 735) (by decide +kernel), List.mem_of_getElem? (i := 736) (by decide +kernel)⟩
theorem lw_p43 : lw_okq (⟨"NoteSheetModel", "lookThrough", "(II)V"⟩, 43) := ⟨⟨by decide +kernel, by decide +kernel⟩, List.mem_of_getElem? (i := 500) (by decide +kernel), List.mem_of_getElem? (i := 739) (by decide +kernel), List.mem_of_getElem? (i := 740) (by decide +kernel)⟩
theorem lw_p44 : lw_okq (⟨"NoteSheetModel", "durabilityOf", "(I)I"⟩, 43) := ⟨⟨by decide +kernel, by decide +kernel⟩, List.mem_of_getElem? (i := 500) (by decide +kernel), List.mem_of_getElem? (i := 743) (by decide +kernel), List.mem_of_getElem? (i := 744) (by decide +kernel)⟩
theorem lw_p45 : lw_okq (⟨"NoteSheetModel", "sinceOf", "(I)I"⟩, 43) := ⟨⟨by decide +kernel, by decide +kernel⟩, List.mem_of_getElem? (i := 500) (by decide +kernel), List.mem_of_getElem? (i := 747) (by decide +kernel), List.mem_of_getElem? (i := 748) (by decide +kernel)⟩
theorem lw_p46 : lw_okq (⟨"NoteSheetModel", "worked", "(IIJ)V"⟩, 43) := ⟨⟨by decide +kernel, by decide +kernel⟩, List.mem_of_getElem? (i := 500) (by decide +kernel), List.mem_of_getElem? (i := 751) (by decide +kernel), List.mem_of_getElem? (i := 752) (by decide +kernel)⟩
theorem lw_p47 : lw_okq (⟨"NoteSheetModel", "use", "(I)V"⟩, 43) := ⟨⟨by decide +kernel, by decide +kernel⟩, List.mem_of_getElem? (i := 500) (by decide +kernel), List.mem_of_getElem? (i := 755) (by decide +kernel), List.mem_of_getElem? (i := 756) (by decide +kernel)⟩
def lw_privs_3 : List (MethodName × Nat) := [(⟨"NoteSheetModel", "compared", "()Z"⟩, 43), (⟨"NoteSheetModel", "awaits", "()I"⟩, 43), (⟨"NoteSheetModel", "inner", "()I"⟩, 43), (⟨"NoteSheetModel", "close", "()V"⟩, 43), (⟨"NoteSheetModel", "change", "(I)V"⟩, 43), (⟨"NoteSheetModel", "settled", "(I)Z"⟩, 43), (⟨"NoteSheetModel", "start", "(II)V"⟩, 43), (⟨"NoteSheetModel", "runAll", "()V"⟩, 43), (⟨"NoteSheetModel", "enter", "(II)V"⟩, 43), (⟨"NoteSheetModel", "counts", "(II)V"⟩, 43), (⟨"NoteSheetModel", "finish", "()V"⟩, 43), (⟨"NoteSheetModel", "lookThrough", "(II)V"⟩, 43), (⟨"NoteSheetModel", "durabilityOf", "(I)I"⟩, 43), (⟨"NoteSheetModel", "sinceOf", "(I)I"⟩, 43), (⟨"NoteSheetModel", "worked", "(IIJ)V"⟩, 43), (⟨"NoteSheetModel", "use", "(I)V"⟩, 43)]
theorem lw_r3 : ∀ q ∈ lw_privs_3, lw_okq q := List.forall_mem_cons.mpr ⟨lw_p32, List.forall_mem_cons.mpr ⟨lw_p33, List.forall_mem_cons.mpr ⟨lw_p34, List.forall_mem_cons.mpr ⟨lw_p35, List.forall_mem_cons.mpr ⟨lw_p36, List.forall_mem_cons.mpr ⟨lw_p37, List.forall_mem_cons.mpr ⟨lw_p38, List.forall_mem_cons.mpr ⟨lw_p39, List.forall_mem_cons.mpr ⟨lw_p40, List.forall_mem_cons.mpr ⟨lw_p41, List.forall_mem_cons.mpr ⟨lw_p42, List.forall_mem_cons.mpr ⟨lw_p43, List.forall_mem_cons.mpr ⟨lw_p44, List.forall_mem_cons.mpr ⟨lw_p45, List.forall_mem_cons.mpr ⟨lw_p46, List.forall_mem_cons.mpr ⟨lw_p47, fun _ h => absurd h List.not_mem_nil⟩⟩⟩⟩⟩⟩⟩⟩⟩⟩⟩⟩⟩⟩⟩⟩
theorem lw_p48 : lw_okq (⟨"NoteSheetModel", "advance", "(II)V"⟩, 43) := ⟨⟨by decide +kernel, by decide +kernel⟩, List.mem_of_getElem? (i := 500) (by decide +kernel), List.mem_of_getElem? (i := 759) (by decide +kernel), List.mem_of_getElem? (i := 760) (by decide +kernel)⟩
theorem lw_p49 : lw_okq (⟨"NoteSheetModel", "look", "(III)V"⟩, 43) := ⟨⟨by decide +kernel, by decide +kernel⟩, List.mem_of_getElem? (i := 500) (by decide +kernel), List.mem_of_getElem? (i := 763) (by decide +kernel), List.mem_of_getElem? (i := 764) (by decide +kernel)⟩
theorem lw_p50 : lw_okq (⟨"NoteSheetModel", "push", "(IJ)V"⟩, 43) := ⟨⟨by decide +kernel, by decide +kernel⟩, List.mem_of_getElem? (i := 500) (by decide +kernel), List.mem_of_getElem? (i := 768) (by decide +kernel), List.mem_of_getElem? (i := 769) (by decide +kernel)⟩
theorem lw_p51 : lw_okq (⟨"NoteSheetModel", "pop", "(I)J"⟩, 43) := ⟨⟨by decide +kernel, by decide +kernel⟩, List.mem_of_getElem? (i := 500) (by decide +kernel), List.mem_of_getElem? (i := 772) (by decide +kernel), List.mem_of_getElem? (i := 773) (by decide +kernel)⟩
theorem lw_p52 : lw_okq (⟨"NoteSheetModel", "combine", "(II)V"⟩, 43) := ⟨⟨by decide +kernel, by decide +kernel⟩, List.mem_of_getElem? (i := 500) (by decide +kernel), List.mem_of_getElem? (i := 776) (by decide +kernel), List.mem_of_getElem? (i := 777) (by decide +kernel)⟩
theorem lw_p53 : lw_okq (⟨"NoteSheetModel", "values", "()I"⟩, 43) := ⟨⟨by decide +kernel, by decide +kernel⟩, List.mem_of_getElem? (i := 500) (by decide +kernel), List.mem_of_getElem? (i := 780) (by decide +kernel), List.mem_of_getElem? (i := 781) (by decide +kernel)⟩
def lw_privs_4 : List (MethodName × Nat) := [(⟨"NoteSheetModel", "advance", "(II)V"⟩, 43), (⟨"NoteSheetModel", "look", "(III)V"⟩, 43), (⟨"NoteSheetModel", "push", "(IJ)V"⟩, 43), (⟨"NoteSheetModel", "pop", "(I)J"⟩, 43), (⟨"NoteSheetModel", "combine", "(II)V"⟩, 43), (⟨"NoteSheetModel", "values", "()I"⟩, 43)]
theorem lw_r4 : ∀ q ∈ lw_privs_4, lw_okq q := List.forall_mem_cons.mpr ⟨lw_p48, List.forall_mem_cons.mpr ⟨lw_p49, List.forall_mem_cons.mpr ⟨lw_p50, List.forall_mem_cons.mpr ⟨lw_p51, List.forall_mem_cons.mpr ⟨lw_p52, List.forall_mem_cons.mpr ⟨lw_p53, fun _ h => absurd h List.not_mem_nil⟩⟩⟩⟩⟩⟩
def lw_privs : List (MethodName × Nat) := lw_privs_1 ++ (lw_privs_2 ++ (lw_privs_3 ++ (lw_privs_4)))
def lw_tbl : List Cond := k2_sels lw_privs ++ tables_1
theorem lw_privs_ok : ∀ q ∈ lw_privs, lw_okq q := by
  show ∀ q ∈ lw_privs_1 ++ (lw_privs_2 ++ (lw_privs_3 ++ (lw_privs_4))), lw_okq q
  exact List.forall_mem_append.mpr ⟨lw_r1, List.forall_mem_append.mpr ⟨lw_r2, List.forall_mem_append.mpr ⟨lw_r3, lw_r4⟩⟩⟩
end
section
/-! The abstract machine: the same bytecode over cells by number. A value '.ref i' is cell number i; '.retAddr 0' the script, '.retAddr 1' .. constants that are never written. -/
abbrev ax_E : Type := (FieldType × vp_A) ⊕ (Nat × List Value)
abbrev ax_H : Type := Nat × (Nat → Option ax_E)
def ax_up (h : ax_H) (a : Nat) (e : ax_E) : ax_H := (h.1, fun i => if i = a then some e else h.2 i)
def ax_nw (h : ax_H) (e : ax_E) : ax_H := (h.1 + 1, fun i => if i = h.1 then some e else h.2 i)
def ax_i (st : List Value) (K : Int32 → List Value → Prop) : Prop := match st with
  | .int x :: r => K x r
  | _ => False
def ax_l (st : List Value) (K : Int64 → List Value → Prop) : Prop := match st with
  | .long x :: r => K x r
  | _ => False
def ax_r (st : List Value) (K : Nat → List Value → Prop) : Prop := match st with
  | .ref x :: r => K x r
  | _ => False
def ax_isa : Value → Bool
  | .ref _ => true
  | .null => true
  | .retAddr _ => true
  | _ => false
def ax_c1 : Value → Bool
  | .long _ => false
  | .double _ => false
  | _ => true
def ax_1 (st : List Value) (K : Value → List Value → Prop) : Prop := match st with
  | v :: r => ax_c1 v = true ∧ K v r
  | _ => False
def ax_1' (st : List Value) (K : Value → List Value → Prop) : Prop := match st with
  | v :: r => K v r
  | _ => False
def ax_ld (ls : List (Option Value)) (i : Nat) (K : Value → Prop) : Prop := match ls[i]? with
  | some (some v) => K v
  | _ => False
def ax_vi (v : Value) (K : Int32 → Prop) : Prop := match v with
  | .int x => K x
  | _ => False
def ax_vl (v : Value) (K : Int64 → Prop) : Prop := match v with
  | .long x => K x
  | _ => False
def ax_kl : Option Value → Option Value
  | some (.long _) => none
  | some (.double _) => none
  | o => o
def ax_s1 (ls : List (Option Value)) (i : Nat) (v : Value) : List (Option Value) := match i with
  | 0 => ls.set 0 (some v)
  | j + 1 => (ls.modify j ax_kl).set (j + 1) (some v)
def ax_s2 (ls : List (Option Value)) (i : Nat) (v : Value) : List (Option Value) := (ax_s1 ls i v).set (i + 1) none
def ax_t (pc : Nat) (off : Int) (K : Nat → Prop) : Prop := 0 ≤ (pc : Int) + off ∧ K ((pc : Int) + off).toNat
def ax_c (cond : Jvm.ClassFile.Cond) (x y : Int32) : Prop := match cond with
  | .eq => x = y
  | .ne => ¬ x = y
  | .lt => x < y
  | .ge => y ≤ x
  | .gt => y < x
  | .le => x ≤ y
def ax_br (c A B : Prop) : Prop := (c → A) ∧ (¬ c → B)
/-- an object's field -/
def ax_gf (h : ax_H) (a ci kf : Nat) (K : Value → Prop) : Prop := match h.2 a with
  | some (.inr (c', fs)) => c' = ci ∧ match fs[kf]? with
    | some v => K v
    | none => False
  | _ => False
def ax_pf (h : ax_H) (a ci kf : Nat) (v : Value) (K : ax_H → Prop) : Prop := match h.2 a with
  | some (.inr (c', fs)) => c' = ci ∧ kf < fs.length ∧ K (ax_up h a (.inr (c', fs.set kf v)))
  | _ => False
/-- a value that a field, or an answer, of this type may hold as it is -/
def ax_ft (ty : FieldType) (v : Value) : Prop := match ty, v with
  | .int, .int _ => True
  | .long, .long _ => True
  | .boolean, .int x => x = 0 ∨ x = 1
  | .object _, .ref _ => True
  | .object _, .null => True
  | .array _, .ref _ => True
  | .array _, .null => True
  | _, _ => False
def ax_ga (h : ax_H) (a : Nat) (ty : FieldType) (i : Int32) (K : Int32 → Prop) : Prop := match h.2 a with
  | some (.inl (t, n, .inl f)) => t = ty ∧ vp_in i n ∧ K (f i.toNatClampNeg)
  | _ => False
def ax_gl (h : ax_H) (a : Nat) (i : Int32) (K : Int64 → Prop) : Prop := match h.2 a with
  | some (.inl (t, n, .inr (.inl f))) => t = .long ∧ vp_in i n ∧ K (f i.toNatClampNeg)
  | _ => False
def ax_isO : FieldType → Bool
  | .object _ => true
  | _ => false
def ax_gq (h : ax_H) (a : Nat) (i : Int32) (K : Option Nat → Prop) : Prop := match h.2 a with
  | some (.inl (t, n, .inr (.inr (.inr (.inr f))))) => ax_isO t = true ∧ vp_in i n ∧ K (f i.toNatClampNeg)
  | _ => False
def ax_pa (h : ax_H) (a : Nat) (ty : FieldType) (i x : Int32) (K : ax_H → Prop) : Prop := match h.2 a with
  | some (.inl (t, n, .inl f)) => t = ty ∧ vp_in i n ∧ K (ax_up h a (.inl (t, n, .inl (upd f i.toNatClampNeg x))))
  | _ => False
def ax_pl (h : ax_H) (a : Nat) (i : Int32) (x : Int64) (K : ax_H → Prop) : Prop := match h.2 a with
  | some (.inl (t, n, .inr (.inl f))) => t = .long ∧ vp_in i n ∧ K (ax_up h a (.inl (t, n, .inr (.inl (vp_updL f i.toNatClampNeg x)))))
  | _ => False
/-- an object into an array of its class: cl names the classes -/
def ax_pq (cl : List vw_C) (h : ax_H) (a : Nat) (i : Int32) (v : Nat) (K : ax_H → Prop) : Prop := match h.2 a, h.2 v with
  | some (.inl (t, n, .inr (.inr (.inr (.inr f))))), some (.inr (ci, _)) => (cl[ci]?).map (fun q => FieldType.object q.1) = some t ∧ vp_in i n ∧ K (ax_up h a (.inl (t, n, .inr (.inr (.inr (.inr (va_up f i.toNatClampNeg (some v))))))))
  | _, _ => False
def ax_al (h : ax_H) (a : Nat) (K : Nat → Prop) : Prop := match h.2 a with
  | some (.inl (_, n, _)) => K n
  | _ => False
def ax_io (h : ax_H) (a ci : Nat) : Prop := match h.2 a with
  | some (.inr (c', _)) => c' = ci
  | _ => False
def ax_zero (ty : FieldType) (n : Nat) : Option vp_A := match ty with
  | .int => some (n, .inl (fun _ => 0))
  | .char => some (n, .inl (fun _ => 0))
  | .boolean => some (n, .inl (fun _ => 0))
  | .long => some (n, .inr (.inl (fun _ => 0)))
  | _ => none
def ax_w8 (st : List Value) : Prop := (st.map fun v => v.category).sum ≤ 8
/-- a field by its place in a class file's pool: (class's number, the field's number, its type, final) -/
abbrev ax_TF : Type := Nat → Nat → Option (Nat × Nat × FieldType × Bool)
/-- a call: (method or one of the JDK's, parameters, cells, slots, the class's number, kind: 0 static, 1 virtual, 2 special) -/
abbrev ax_TC : Type := Nat → Nat → Option ((Nat ⊕ Nat) × Nat × Nat × Nat × Nat × Nat)
/-- a constant -/
abbrev ax_TK : Type := Nat → Nat → Option Value
/-- a class to be made, or an array's element class: (its number, its fields at the start, its name) -/
abbrev ax_TN : Type := Nat → Nat → Option (Nat × List Value × String)
def ax_kt : FieldType → Bool
  | .int => true
  | .char => true
  | .boolean => true
  | .long => true
  | .object C => C == "NoteSheet$Cell"
  | _ => false
abbrev ax_Tb : Type := ax_TF × ax_TC × ax_TK × ax_TN
def ax_len : Instr → Nat
  | .bipush _ | .ldc _ | .iload _ | .lload _ | .aload _ | .istore _ | .lstore _ | .astore _ | .newarray _ => 2
  | .sipush _ | .ldc2_w _ | .iinc _ _ | .if_icmp _ _ | .ifCond _ _ | .ifnull _ | .ifnonnull _ | .goto _ | .getfield _ | .putfield _ | .anewarray _ | .new _ | .invokevirtual _ | .invokespecial _ | .invokestatic _ => 3
  | .tableswitch _ _ _ _ | .lookupswitch _ _ => 0
  | _ => 1
def ax_op {α : Type} (o : Option α) (K : α → Prop) : Prop := match o with
  | some a => K a
  | none => False
def ax_sl {α β : Type} (q : α ⊕ β) (K : α → Prop) : Prop := match q with
  | .inl a => K a
  | .inr _ => False
def ax_sr {α β : Type} (q : α ⊕ β) (K : β → Prop) : Prop := match q with
  | .inl _ => False
  | .inr a => K a
def ax_sm {α β : Type} (q : α ⊕ β) (K : α → Prop) (K1 : β → Prop) : Prop := match q with
  | .inl a => K a
  | .inr a => K1 a
def ax_ki : Value → Bool
  | .int _ => true
  | .retAddr 1 => true
  | _ => false
/-- the script, or a cell -/
def ax_sc (st : List Value) (K0 : List Value → Prop) (K : Nat → List Value → Prop) : Prop := match st with
  | .retAddr 0 :: r => K0 r
  | .ref a :: r => K a r
  | _ => False
def ax_nu (st : List Value) (K0 K : List Value → Prop) : Prop := match st with
  | .null :: r => K0 r
  | .ref _ :: r => K r
  | _ => False
abbrev ax_P : Type := Nat → List (Option Value) → List Value → Nat → Nat → ax_H → Prop
abbrev ax_Q : Type := Option Value → ax_H → Prop
abbrev ax_MT : Type := Nat → List Value → ax_H → ax_Q → Prop
/-- where a character stands in the constant text "?:<=+-*()@", or -1 -/
def ax_ix (c : Int32) : Int32 := if c = 63 then 0 else if c = 58 then 1 else if c = 60 then 2 else if c = 61 then 3 else if c = 43 then 4 else if c = 45 then 5 else if c = 42 then 6 else if c = 40 then 7 else if c = 41 then 8 else if c = 64 then 9 else -1
def ax_cp (h : ax_H) (st : List Value) (K : List Value → ax_H → Prop) : Prop := match st with
  | .int n :: .int dp :: .ref a :: .int sp :: .ref b :: r => match h.2 b, h.2 a with
    | some (.inl (t0, n0, .inl f)), some (.inl (t1, n1, .inl g)) => t0 = t1 ∧ refKind t1 = false ∧ ¬ sp < 0 ∧ ¬ dp < 0 ∧ ¬ n < 0 ∧ sp.toNatClampNeg + n.toNatClampNeg ≤ n0 ∧ dp.toNatClampNeg + n.toNatClampNeg ≤ n1 ∧ (∀ i, i < n.toNatClampNeg → fits t1 (.int (f (sp.toNatClampNeg + i))) = true) ∧ ax_w8 r ∧ K r (ax_up h a (.inl (t1, n1, .inl (va_cpy f g sp.toNatClampNeg dp.toNatClampNeg n.toNatClampNeg))))
    | _, _ => False
  | _ => False
/-- the JDK's own: 0 Object(), 1 max, 2 min, 3 floorMod, 4 indexOf in the constant text, 5 arraycopy -/
def ax_prim (d : Nat) (h : ax_H) (y : Nat) (st : List Value) (K : List Value → ax_H → Prop) : Prop := match y with
  | 0 => ax_r st fun _ st => ax_w8 st ∧ K st h
  | 1 => ax_i st fun b st => ax_i st fun a st => ax_w8 st ∧ K (.int (if a < b then b else a) :: st) h
  | 2 => ax_i st fun b st => ax_i st fun a st => ax_w8 st ∧ K (.int (if b < a then b else a) :: st) h
  | 3 => ax_i st fun b st => ax_i st fun a st => ax_w8 st ∧ ¬ b = 0 ∧ K (.int (fmv a b) :: st) h
  | 4 => ax_i st fun ch st => match st with
    | .retAddr 1 :: st => 8 ≤ d ∧ ax_w8 st ∧ K (.int (ax_ix ch) :: st) h
    | _ => False
  | 5 => ax_cp h st K
  | _ => False
def ax_tk (np : Nat) (st : List Value) (K : List Value → List Value → Prop) : Prop := np ≤ st.length ∧ K (st.take np).reverse (st.drop np)
/-- one instruction: what must hold so that the machine comes to Q; P: where it goes on, PC: behind a call -/
def ax_ins (cl : List vw_C) (L : Nat) (xs : Nat → Int32) (tb : ax_Tb) (d co : Nat) (ini : Bool) (rt : Option FieldType) (mc ms : Nat) (M : ax_MT) (Q : ax_Q) (P PC : ax_P) (pc : Nat) (ls : List (Option Value)) (st : List Value) (k n : Nat) (h : ax_H) (i : Instr) : Prop := match i with
  | .iconst v => P (pc + 1) ls (.int (Int32.ofInt v) :: st) k n h
  | .bipush v => P (pc + 2) ls (.int (Int8.ofInt v).toInt32 :: st) k n h
  | .sipush v => P (pc + 3) ls (.int (Int16.ofInt v).toInt32 :: st) k n h
  | .lconst v => P (pc + 1) ls (.long (Int64.ofNat (v : Nat)) :: st) k n h
  | .aconst_null => P (pc + 1) ls (.null :: st) k n h
  | .ldc idx => ax_op (tb.2.2.1 co idx) fun v => ax_ki v = true ∧ P (pc + 2) ls (v :: st) k n h
  | .ldc2_w idx => ax_op (tb.2.2.1 co idx) fun v => ax_vl v fun x => P (pc + 3) ls (.long x :: st) k n h
  | .iload j => ax_ld ls j fun v => ax_vi v fun x => P (pc + 2) ls (.int x :: st) k n h
  | .iload_n j => ax_ld ls j fun v => ax_vi v fun x => P (pc + 1) ls (.int x :: st) k n h
  | .lload j => ax_ld ls j fun v => ax_vl v fun x => P (pc + 2) ls (.long x :: st) k n h
  | .lload_n j => ax_ld ls j fun v => ax_vl v fun x => P (pc + 1) ls (.long x :: st) k n h
  | .aload j => ax_ld ls j fun v => ax_isa v = true ∧ P (pc + 2) ls (v :: st) k n h
  | .aload_n j => ax_ld ls j fun v => ax_isa v = true ∧ P (pc + 1) ls (v :: st) k n h
  | .istore j => ax_i st fun x st => j < ls.length ∧ P (pc + 2) (ax_s1 ls j (.int x)) st k n h
  | .istore_n j => ax_i st fun x st => (j : Nat) < ls.length ∧ P (pc + 1) (ax_s1 ls j (.int x)) st k n h
  | .lstore j => ax_l st fun x st => j + 1 < ls.length ∧ P (pc + 2) (ax_s2 ls j (.long x)) st k n h
  | .lstore_n j => ax_l st fun x st => (j : Nat) + 1 < ls.length ∧ P (pc + 1) (ax_s2 ls j (.long x)) st k n h
  | .astore j => ax_1 st fun v st => ax_isa v = true ∧ j < ls.length ∧ P (pc + 2) (ax_s1 ls j v) st k n h
  | .astore_n j => ax_1 st fun v st => ax_isa v = true ∧ (j : Nat) < ls.length ∧ P (pc + 1) (ax_s1 ls j v) st k n h
  | .iinc j v => ax_ld ls j fun w => ax_vi w fun x => P (pc + 3) (ax_s1 ls j (.int (x + Int32.ofInt v))) st k n h
  | .iadd => ax_i st fun y st => ax_i st fun x st => P (pc + 1) ls (.int (x + y) :: st) k n h
  | .isub => ax_i st fun y st => ax_i st fun x st => P (pc + 1) ls (.int (x - y) :: st) k n h
  | .imul => ax_i st fun y st => ax_i st fun x st => P (pc + 1) ls (.int (x * y) :: st) k n h
  | .iand => ax_i st fun y st => ax_i st fun x st => P (pc + 1) ls (.int (x &&& y) :: st) k n h
  | .idiv => ax_i st fun y st => ax_i st fun x st => ¬ y = 0 ∧ P (pc + 1) ls (.int (x / y) :: st) k n h
  | .irem => ax_i st fun y st => ax_i st fun x st => ¬ y = 0 ∧ P (pc + 1) ls (.int (x - x / y * y) :: st) k n h
  | .ineg => ax_i st fun x st => P (pc + 1) ls (.int (-x) :: st) k n h
  | .i2l => ax_i st fun x st => P (pc + 1) ls (.long x.toInt64 :: st) k n h
  | .l2i => ax_l st fun x st => P (pc + 1) ls (.int x.toInt32 :: st) k n h
  | .i2c => ax_i st fun x st => P (pc + 1) ls (.int (x.toUInt32 % 65536).toInt32 :: st) k n h
  | .lcmp => ax_l st fun y st => ax_l st fun x st => P (pc + 1) ls (.int (lg_cmp x y) :: st) k n h
  | .dup => ax_1 st fun v st => P (pc + 1) ls (v :: v :: st) k n h
  | .pop => ax_1 st fun _ st => P (pc + 1) ls st k n h
  | .dup_x1 => ax_1 st fun v st => ax_1 st fun w st => P (pc + 1) ls (v :: w :: v :: st) k n h
  | .dup_x2 => ax_1 st fun v st => ax_1 st fun w st => ax_1 st fun u st => P (pc + 1) ls (v :: w :: u :: v :: st) k n h
  | .dup2 => ax_1 st fun v st => ax_1 st fun w st => P (pc + 1) ls (v :: w :: v :: w :: st) k n h
  | .goto off => ax_t pc off fun t => P t ls st k n h
  | .if_icmp cd off => ax_i st fun y st => ax_i st fun x st => ax_t pc off fun t => ax_br (ax_c cd x y) (P t ls st k n h) (P (pc + 3) ls st k n h)
  | .ifCond cd off => ax_i st fun x st => ax_t pc off fun t => ax_br (ax_c cd x 0) (P t ls st k n h) (P (pc + 3) ls st k n h)
  | .ifnull off => ax_t pc off fun t => ax_nu st (fun st => P t ls st k n h) (fun st => P (pc + 3) ls st k n h)
  | .ifnonnull off => ax_t pc off fun t => ax_nu st (fun st => P (pc + 3) ls st k n h) (fun st => P t ls st k n h)
  | .tableswitch df lo hi offs => ax_i st fun x st => ax_br (x.toInt < lo ∨ hi < x.toInt) (ax_t pc df fun t => P t ls st k n h) (ax_op offs[(x.toInt - lo).toNat]? fun off => ax_t pc off fun t => P t ls st k n h)
  | .lookupswitch df ps => ax_i st fun x st => (ps.toList.zip (ps.toList.drop 1)).all (fun (a, next) => a.1 < next.1) = true ∧ ax_t pc (Op.lookupswitch.offset ps.toList df x.toInt) fun t => P t ls st k n h
  | .getfield idx => ax_op (tb.1 co idx) fun q => ax_r st fun a st => ax_gf h a q.1 q.2.1 fun v => P (pc + 3) ls (v :: st) k n h
  | .putfield idx => ax_op (tb.1 co idx) fun q => ax_1' st fun v st => ax_ft q.2.2.1 v ∧ (q.2.2.2 = true → ini = true ∧ q.1 = co) ∧ ax_r st fun a st => ax_pf h a q.1 q.2.1 v fun h => P (pc + 3) ls st k n h
  | .iaload => ax_i st fun i st => ax_sc st (fun st => vp_in i L ∧ P (pc + 1) ls (.int (xs i.toNatClampNeg) :: st) k n h) fun a st => ax_ga h a .int i fun v => P (pc + 1) ls (.int v :: st) k n h
  | .caload => ax_i st fun i st => ax_r st fun a st => ax_ga h a .char i fun v => P (pc + 1) ls (.int v :: st) k n h
  | .baload => ax_i st fun i st => ax_r st fun a st => ax_ga h a .boolean i fun v => P (pc + 1) ls (.int v :: st) k n h
  | .laload => ax_i st fun i st => ax_r st fun a st => ax_gl h a i fun v => P (pc + 1) ls (.long v :: st) k n h
  | .aaload => ax_i st fun i st => ax_r st fun a st => ax_gq h a i fun v => P (pc + 1) ls (va_rf v :: st) k n h
  | .iastore => ax_i st fun x st => ax_i st fun i st => ax_r st fun a st => ax_pa h a .int i x fun h => P (pc + 1) ls st k n h
  | .castore => ax_i st fun x st => ax_i st fun i st => ax_r st fun a st => ax_pa h a .char i (vp_nar .char x) fun h => P (pc + 1) ls st k n h
  | .bastore => ax_i st fun x st => ax_i st fun i st => ax_r st fun a st => ax_pa h a .boolean i (vp_nar .boolean x) fun h => P (pc + 1) ls st k n h
  | .lastore => ax_l st fun x st => ax_i st fun i st => ax_r st fun a st => ax_pl h a i x fun h => P (pc + 1) ls st k n h
  | .aastore => ax_r st fun v st => ax_i st fun i st => ax_r st fun a st => ax_pq cl h a i v fun h => P (pc + 1) ls st k n h
  | .arraylength => ax_sc st (fun st => P (pc + 1) ls (.int (Int32.ofNat L) :: st) k n h) fun a st => ax_al h a fun z => P (pc + 1) ls (.int (Int32.ofNat z) :: st) k n h
  | .newarray ty => ax_i st fun x st => ¬ x < 0 ∧ x.toNatClampNeg ≤ 1000 ∧ k + 1 ≤ mc ∧ n + x.toNatClampNeg ≤ ms ∧ ax_op (ax_zero (newarray.typeOf ty) x.toNatClampNeg) fun a => P (pc + 2) ls (.ref h.1 :: st) (k + 1) (n + x.toNatClampNeg) (ax_nw h (.inl (newarray.typeOf ty, a)))
  | .anewarray idx => ax_i st fun x st => ¬ x < 0 ∧ x.toNatClampNeg ≤ 1000 ∧ k + 1 ≤ mc ∧ n + x.toNatClampNeg ≤ ms ∧ ax_op (tb.2.2.2 co idx) fun q => ax_kt (.object q.2.2) = true ∧ P (pc + 3) ls (.ref h.1 :: st) (k + 1) (n + x.toNatClampNeg) (ax_nw h (.inl (.object q.2.2, x.toNatClampNeg, .inr (.inr (.inr (.inr (fun _ => none)))))))
  | .new idx => ax_op (tb.2.2.2 co idx) fun q => k + 1 ≤ mc ∧ n + q.2.1.length ≤ ms ∧ P (pc + 3) ls (.ref h.1 :: st) (k + 1) (n + q.2.1.length) (ax_nw h (.inr (q.1, q.2.1)))
  | .invokevirtual idx => ax_op (tb.2.1 co idx) fun q => ax_sm q.1 (fun y => q.2.2.2.2.2 = 1 ∧ ax_tk q.2.1 st fun as st => ax_r st fun a st => ax_io h a q.2.2.2.2.1 ∧ ax_w8 st ∧ k + q.2.2.1 ≤ mc ∧ n + q.2.2.2.1 ≤ ms ∧ M y (.ref a :: as) h fun v h => PC (pc + 3) ls (v.toList ++ st) (k + q.2.2.1) (n + q.2.2.2.1) h) fun y => q.2.2.2.2.2 = 1 ∧ ax_prim d h y st fun st h => P (pc + 3) ls st k n h
  | .invokespecial idx => ax_op (tb.2.1 co idx) fun q => ax_sm q.1 (fun y => q.2.2.2.2.2 = 2 ∧ ax_tk q.2.1 st fun as st => ax_r st fun a st => ax_w8 st ∧ k + q.2.2.1 ≤ mc ∧ n + q.2.2.2.1 ≤ ms ∧ M y (.ref a :: as) h fun v h => PC (pc + 3) ls (v.toList ++ st) (k + q.2.2.1) (n + q.2.2.2.1) h) fun y => q.2.2.2.2.2 = 2 ∧ ax_prim d h y st fun st h => P (pc + 3) ls st k n h
  | .invokestatic idx => ax_op (tb.2.1 co idx) fun q => ax_sm q.1 (fun y => q.2.2.2.2.2 = 0 ∧ ax_tk q.2.1 st fun as st => ax_w8 st ∧ k + q.2.2.1 ≤ mc ∧ n + q.2.2.2.1 ≤ ms ∧ M y as h fun v h => PC (pc + 3) ls (v.toList ++ st) (k + q.2.2.1) (n + q.2.2.2.1) h) fun y => q.2.2.2.2.2 = 0 ∧ ax_prim d h y st fun st h => P (pc + 3) ls st k n h
  | .ireturn => ax_i st fun v r => r = [] ∧ ax_op rt fun ty => narrow ty (.int v) = .int v ∧ k ≤ mc ∧ n ≤ ms ∧ Q (some (.int v)) h
  | .lreturn => ax_l st fun v r => r = [] ∧ rt = some .long ∧ k ≤ mc ∧ n ≤ ms ∧ Q (some (.long v)) h
  | .return_ => st = [] ∧ rt = none ∧ k ≤ mc ∧ n ≤ ms ∧ Q none h
  | _ => False
/-- a method: its code, its class's number, whether it is a constructor, its locals, its answer's type, the cells and slots that it makes -/
abbrev ax_MI : Type := ByteArray × Nat × Bool × Nat × Option FieldType × Nat × Nat
def ax_step (cl : List vw_C) (L : Nat) (xs : Nat → Int32) (tb : ax_Tb) (d : Nat) (I : ax_MI) (M : ax_MT) (Q : ax_Q) (P PC : ax_P) : ax_P := fun pc ls st k n h => match decode I.1 pc with
  | .ok (i, len) => (len = ax_len i ∨ ax_len i = 0) ∧ ax_ins cl L xs tb d I.2.1 I.2.2.1 I.2.2.2.2.1 I.2.2.2.2.2.1 I.2.2.2.2.2.2 M Q P PC pc ls st k n h i
  | .error _ => False
/-- the machine comes from here to Q -/
def ax_W (cl : List vw_C) (L : Nat) (xs : Nat → Int32) (tb : ax_Tb) (d : Nat) (I : ax_MI) (M : ax_MT) (Q : ax_Q) : ax_P := fun pc ls st k n h =>
  ∀ P : ax_P, (∀ pc ls st k n h, ax_step cl L xs tb d I M Q P P pc ls st k n h → P pc ls st k n h) → P pc ls st k n h
def ax_el : List Value → List (Option Value)
  | [] => []
  | v :: vs => if ax_c1 v = true then some v :: ax_el vs else some v :: none :: ax_el vs
def ax_en (ml : Nat) (args : List Value) : List (Option Value) := ax_el args ++ List.replicate (ml - (ax_el args).length) none
/-- a call at most d deep -/
def ax_M (cl : List vw_C) (L : Nat) (xs : Nat → Int32) (tb : ax_Tb) (mt : Nat → Option ax_MI) : Nat → ax_MT
  | 0 => fun _ _ _ _ => False
  | d + 1 => fun y args h Q => ax_op (mt y) fun I => (ax_el args).length ≤ I.2.2.2.1 ∧ ax_W cl L xs tb (d + 1) I (ax_M cl L xs tb mt d) Q 0 (ax_en I.2.2.2.1 args) [] 0 0 h
/-- j steps from here, no step at the places S, none behind a call -/
def ax_go (cl : List vw_C) (L : Nat) (xs : Nat → Int32) (tb : ax_Tb) (d : Nat) (I : ax_MI) (M : ax_MT) (Q : ax_Q) (S : List Nat) (P : ax_P) : Nat → ax_P
  | 0 => P
  | j + 1 => fun pc ls st k n h => if S.contains pc = true then P pc ls st k n h else ax_step cl L xs tb d I M Q (ax_go cl L xs tb d I M Q S P j) P pc ls st k n h
end
section
/-! the steps are monotone -/
theorem ax_and {a b b' : Prop} (h : b → b') : a ∧ b → a ∧ b' := fun q => ⟨q.1, h q.2⟩
theorem ax_i.mm {st : List Value} {K K' : Int32 → List Value → Prop} (h : ∀ x r, K x r → K' x r) : ax_i st K → ax_i st K' := by
  unfold ax_i
  rcases st with _ | ⟨v, r⟩
  · exact id
  · cases v <;> first | exact h _ _ | exact id
theorem ax_l.mm {st : List Value} {K K' : Int64 → List Value → Prop} (h : ∀ x r, K x r → K' x r) : ax_l st K → ax_l st K' := by
  unfold ax_l
  rcases st with _ | ⟨v, r⟩
  · exact id
  · cases v <;> first | exact h _ _ | exact id
theorem ax_r.mm {st : List Value} {K K' : Nat → List Value → Prop} (h : ∀ x r, K x r → K' x r) : ax_r st K → ax_r st K' := by
  unfold ax_r
  rcases st with _ | ⟨v, r⟩
  · exact id
  · cases v <;> first | exact h _ _ | exact id
theorem ax_1.mm {st : List Value} {K K' : Value → List Value → Prop} (h : ∀ x r, K x r → K' x r) : ax_1 st K → ax_1 st K' := by
  unfold ax_1
  rcases st with _ | ⟨v, r⟩
  · exact id
  · exact ax_and (h _ _)
theorem ax_1'.mm {st : List Value} {K K' : Value → List Value → Prop} (h : ∀ x r, K x r → K' x r) : ax_1' st K → ax_1' st K' := by
  unfold ax_1'
  rcases st with _ | ⟨v, r⟩
  · exact id
  · exact h _ _
theorem ax_ld.mm {ls : List (Option Value)} {i : Nat} {K K' : Value → Prop} (h : ∀ x, K x → K' x) : ax_ld ls i K → ax_ld ls i K' := by
  unfold ax_ld
  rcases ls[i]? with _ | ⟨_ | v⟩
  · exact id
  · exact id
  · exact h _
theorem ax_vi.mm {v : Value} {K K' : Int32 → Prop} (h : ∀ x, K x → K' x) : ax_vi v K → ax_vi v K' := by
  unfold ax_vi
  cases v <;> first | exact h _ | exact id
theorem ax_vl.mm {v : Value} {K K' : Int64 → Prop} (h : ∀ x, K x → K' x) : ax_vl v K → ax_vl v K' := by
  unfold ax_vl
  cases v <;> first | exact h _ | exact id
theorem ax_t.mm {pc : Nat} {off : Int} {K K' : Nat → Prop} (h : ∀ x, K x → K' x) : ax_t pc off K → ax_t pc off K' := ax_and (h _)
theorem ax_br.mm {c A B A' B' : Prop} (h : A → A') (h' : B → B') : ax_br c A B → ax_br c A' B' := fun q => ⟨fun z => h (q.1 z), fun z => h' (q.2 z)⟩
theorem ax_op.mm {α : Type} {o : Option α} {K K' : α → Prop} (h : ∀ x, K x → K' x) : ax_op o K → ax_op o K' := by
  unfold ax_op
  cases o with
  | none => exact id
  | some a => exact h a
theorem ax_sl.mm {α β : Type} {q : α ⊕ β} {K K' : α → Prop} (h : ∀ x, K x → K' x) : ax_sl q K → ax_sl q K' := by
  unfold ax_sl
  cases q with
  | inl a => exact h a
  | inr a => exact id
theorem ax_sr.mm {α β : Type} {q : α ⊕ β} {K K' : β → Prop} (h : ∀ x, K x → K' x) : ax_sr q K → ax_sr q K' := by
  unfold ax_sr
  cases q with
  | inl a => exact id
  | inr a => exact h a
theorem ax_sm.mm {α β : Type} {q : α ⊕ β} {K K' : α → Prop} {J J' : β → Prop} (h : ∀ x, K x → K' x) (h' : ∀ x, J x → J' x) : ax_sm q K J → ax_sm q K' J' := by
  unfold ax_sm
  cases q with
  | inl a => exact h a
  | inr a => exact h' a
theorem ax_sc.mm {st : List Value} {K K' : List Value → Prop} {J J' : Nat → List Value → Prop} (h : ∀ r, K r → K' r) (h' : ∀ x r, J x r → J' x r) : ax_sc st K J → ax_sc st K' J' := by
  unfold ax_sc
  rcases st with _ | ⟨v, r⟩
  · exact id
  · rcases v with _ | _ | _ | _ | _ | a | _ | z
    all_goals first | exact id | exact h' _ _ | exact h _ | skip
theorem ax_nu.mm {st : List Value} {K K' J J' : List Value → Prop} (h : ∀ r, K r → K' r) (h' : ∀ r, J r → J' r) : ax_nu st K J → ax_nu st K' J' := by
  unfold ax_nu
  rcases st with _ | ⟨v, r⟩
  · exact id
  · cases v <;> first | exact id | exact h _ | exact h' _
theorem ax_gf.mm {h : ax_H} {a ci kf : Nat} {K K' : Value → Prop} (hk : ∀ v, K v → K' v) : ax_gf h a ci kf K → ax_gf h a ci kf K' := by
  unfold ax_gf
  rcases h.2 a with _ | ⟨_ | ⟨c', fs⟩⟩
  · exact id
  · exact id
  · refine ax_and ?_
    cases fs[kf]? with
    | none => exact id
    | some v => exact hk v
theorem ax_pf.mm {h : ax_H} {a ci kf : Nat} {v : Value} {K K' : ax_H → Prop} (hk : ∀ v, K v → K' v) : ax_pf h a ci kf v K → ax_pf h a ci kf v K' := by
  unfold ax_pf
  rcases h.2 a with _ | ⟨_ | ⟨c', fs⟩⟩
  · exact id
  · exact id
  · exact ax_and (ax_and (hk _))
theorem ax_ga.mm {h : ax_H} {a : Nat} {ty : FieldType} {i : Int32} {K K' : Int32 → Prop} (hk : ∀ v, K v → K' v) : ax_ga h a ty i K → ax_ga h a ty i K' := by
  unfold ax_ga
  rcases h.2 a with _ | ⟨⟨t, n, (f | f)⟩ | _⟩
  · exact id
  · exact ax_and (ax_and (hk _))
  · exact id
  · exact id
theorem ax_gl.mm {h : ax_H} {a : Nat} {i : Int32} {K K' : Int64 → Prop} (hk : ∀ v, K v → K' v) : ax_gl h a i K → ax_gl h a i K' := by
  unfold ax_gl
  rcases h.2 a with _ | ⟨⟨t, n, (f | (f | f))⟩ | _⟩
  · exact id
  · exact id
  · exact ax_and (ax_and (hk _))
  · exact id
  · exact id
theorem ax_gq.mm {h : ax_H} {a : Nat} {i : Int32} {K K' : Option Nat → Prop} (hk : ∀ v, K v → K' v) : ax_gq h a i K → ax_gq h a i K' := by
  unfold ax_gq
  rcases h.2 a with _ | ⟨⟨t, n, (f | (f | (f | (f | f))))⟩ | _⟩
  · exact id
  · exact id
  · exact id
  · exact id
  · exact id
  · exact ax_and (ax_and (hk _))
  · exact id
theorem ax_pa.mm {h : ax_H} {a : Nat} {ty : FieldType} {i x : Int32} {K K' : ax_H → Prop} (hk : ∀ v, K v → K' v) : ax_pa h a ty i x K → ax_pa h a ty i x K' := by
  unfold ax_pa
  rcases h.2 a with _ | ⟨⟨t, n, (f | f)⟩ | _⟩
  · exact id
  · exact ax_and (ax_and (hk _))
  · exact id
  · exact id
theorem ax_pl.mm {h : ax_H} {a : Nat} {i : Int32} {x : Int64} {K K' : ax_H → Prop} (hk : ∀ v, K v → K' v) : ax_pl h a i x K → ax_pl h a i x K' := by
  unfold ax_pl
  rcases h.2 a with _ | ⟨⟨t, n, (f | (f | f))⟩ | _⟩
  · exact id
  · exact id
  · exact ax_and (ax_and (hk _))
  · exact id
  · exact id
theorem ax_pq.mm {cl : List vw_C} {h : ax_H} {a v : Nat} {i : Int32} {K K' : ax_H → Prop} (hk : ∀ v, K v → K' v) : ax_pq cl h a i v K → ax_pq cl h a i v K' := by
  unfold ax_pq
  rcases h.2 a with _ | ⟨⟨t, n, (f | (f | (f | (f | f))))⟩ | _⟩ <;> rcases h.2 v with _ | ⟨_ | ⟨c', fs⟩⟩
  all_goals first | exact id | exact ax_and (ax_and (hk _))
theorem ax_al.mm {h : ax_H} {a : Nat} {K K' : Nat → Prop} (hk : ∀ v, K v → K' v) : ax_al h a K → ax_al h a K' := by
  unfold ax_al
  rcases h.2 a with _ | ⟨⟨t, n, f⟩ | _⟩
  · exact id
  · exact hk _
  · exact id
theorem ax_tk.mm {np : Nat} {st : List Value} {K K' : List Value → List Value → Prop} (hk : ∀ a r, K a r → K' a r) : ax_tk np st K → ax_tk np st K' := ax_and (hk _ _)
theorem ax_cp.mm {h : ax_H} {st : List Value} {K K' : List Value → ax_H → Prop} (hk : ∀ a r, K a r → K' a r) : ax_cp h st K → ax_cp h st K' := by
  intro q
  unfold ax_cp at q ⊢
  split at q
  · split at q
    · rename_i e1 e2
      (try simp only [e1, e2])
      obtain ⟨q1, q2, q3, q4, q5, q6, q7, q8, q9, q10⟩ := q
      exact ⟨q1, q2, q3, q4, q5, q6, q7, q8, q9, hk _ _ q10⟩
    · exact q.elim
  · exact q.elim
theorem ax_prim.mm {d : Nat} {h : ax_H} {y : Nat} {st : List Value} {K K' : List Value → ax_H → Prop} (hk : ∀ a r, K a r → K' a r) : ax_prim d h y st K → ax_prim d h y st K' := by
  intro q
  unfold ax_prim at q ⊢
  split at q
  · exact ax_r.mm (fun _ _ => ax_and (hk _ _)) q
  · exact ax_i.mm (fun _ _ => ax_i.mm fun _ _ => ax_and (hk _ _)) q
  · exact ax_i.mm (fun _ _ => ax_i.mm fun _ _ => ax_and (hk _ _)) q
  · exact ax_i.mm (fun _ _ => ax_i.mm fun _ _ => ax_and (ax_and (hk _ _))) q
  · refine ax_i.mm (fun _ r => ?_) q
    intro z
    split at z
    · exact ⟨z.1, z.2.1, hk _ _ z.2.2⟩
    · exact z.elim
  · exact ax_cp.mm hk q
  · exact q.elim
section AXM
variable {cl : List vw_C} {L : Nat} {xs : Nat → Int32} {tb : ax_Tb} {d : Nat}
theorem ax_ins.mm {co : Nat} {ini : Bool} {rt : Option FieldType} {mc ms : Nat} {M : ax_MT} {Q Q' : ax_Q} {P PC P' PC' : ax_P} {pc : Nat} {ls : List (Option Value)} {st : List Value} {k n : Nat} {h : ax_H} (i : Instr)
    (hM : ∀ y a h (Q Q' : ax_Q), (∀ v h, Q v h → Q' v h) → M y a h Q → M y a h Q') (hQ : ∀ v h, Q v h → Q' v h) (hP : ∀ pc ls st k n h, P pc ls st k n h → P' pc ls st k n h) (hC : ∀ pc ls st k n h, PC pc ls st k n h → PC' pc ls st k n h) :
    ax_ins cl L xs tb d co ini rt mc ms M Q P PC pc ls st k n h i → ax_ins cl L xs tb d co ini rt mc ms M Q' P' PC' pc ls st k n h i := by
  cases i
  all_goals first
    | exact id
    | (dsimp only [ax_ins]
       repeat' (first
         | exact hP _ _ _ _ _ _
         | exact hC _ _ _ _ _ _
         | exact hQ _ _
         | refine hM _ _ _ _ _ fun _ _ => ?_
         | refine ax_i.mm fun _ _ => ?_
         | refine ax_l.mm fun _ _ => ?_
         | refine ax_r.mm fun _ _ => ?_
         | refine ax_1.mm fun _ _ => ?_
         | refine ax_1'.mm fun _ _ => ?_
         | refine ax_ld.mm fun _ => ?_
         | refine ax_vi.mm fun _ => ?_
         | refine ax_vl.mm fun _ => ?_
         | refine ax_t.mm fun _ => ?_
         | refine ax_br.mm ?_ ?_
         | refine ax_op.mm fun _ => ?_
         | refine ax_sl.mm fun _ => ?_
         | refine ax_sr.mm fun _ => ?_
         | refine ax_sm.mm (fun _ => ?_) fun _ => ?_
         | refine ax_sc.mm (fun _ => ?_) fun _ _ => ?_
         | refine ax_nu.mm (fun _ => ?_) fun _ => ?_
         | refine ax_gf.mm fun _ => ?_
         | refine ax_pf.mm fun _ => ?_
         | refine ax_ga.mm fun _ => ?_
         | refine ax_gl.mm fun _ => ?_
         | refine ax_gq.mm fun _ => ?_
         | refine ax_pa.mm fun _ => ?_
         | refine ax_pl.mm fun _ => ?_
         | refine ax_pq.mm fun _ => ?_
         | refine ax_al.mm fun _ => ?_
         | refine ax_tk.mm fun _ _ => ?_
         | refine ax_prim.mm fun _ _ => ?_
         | refine ax_and ?_))
theorem ax_step.mm {I : ax_MI} {M : ax_MT} {Q Q' : ax_Q} {P PC P' PC' : ax_P} {pc : Nat} {ls : List (Option Value)} {st : List Value} {k n : Nat} {h : ax_H}
    (hM : ∀ y a h (Q Q' : ax_Q), (∀ v h, Q v h → Q' v h) → M y a h Q → M y a h Q') (hQ : ∀ v h, Q v h → Q' v h) (hP : ∀ pc ls st k n h, P pc ls st k n h → P' pc ls st k n h) (hC : ∀ pc ls st k n h, PC pc ls st k n h → PC' pc ls st k n h) :
    ax_step cl L xs tb d I M Q P PC pc ls st k n h → ax_step cl L xs tb d I M Q' P' PC' pc ls st k n h := by
  unfold ax_step
  cases decode I.1 pc with
  | error e => exact id
  | ok q => exact ax_and (ax_ins.mm q.1 hM hQ hP hC)
theorem ax_W.mono {I : ax_MI} {M : ax_MT} {Q Q' : ax_Q} {pc : Nat} {ls : List (Option Value)} {st : List Value} {k n : Nat} {h : ax_H}
    (hM : ∀ y a h (Q Q' : ax_Q), (∀ v h, Q v h → Q' v h) → M y a h Q → M y a h Q') (hQ : ∀ v h, Q v h → Q' v h) (hw : ax_W cl L xs tb d I M Q pc ls st k n h) : ax_W cl L xs tb d I M Q' pc ls st k n h := by
  intro P hP
  exact hw P fun pc ls st k n h q => hP _ _ _ _ _ _ (ax_step.mm hM hQ (fun _ _ _ _ _ _ z => z) (fun _ _ _ _ _ _ z => z) q)
theorem ax_M.mono {mt : Nat → Option ax_MI} : ∀ (d y : Nat) (a : List Value) (h : ax_H) (Q Q' : ax_Q), (∀ v h, Q v h → Q' v h) → ax_M cl L xs tb mt d y a h Q → ax_M cl L xs tb mt d y a h Q' := by
  intro d
  induction d with
  | zero => intro y a h Q Q' _ q; exact q
  | succ d ih =>
    intro y a h Q Q' hQ q
    exact ax_op.mm (fun I => ax_and (ax_W.mono ih hQ)) q
theorem ax_W.st {mt : Nat → Option ax_MI} {d' : Nat} {I : ax_MI} {Q : ax_Q} {pc : Nat} {ls : List (Option Value)} {st : List Value} {k n : Nat} {h : ax_H}
    (hs : ax_step cl L xs tb d I (ax_M cl L xs tb mt d') Q (ax_W cl L xs tb d I (ax_M cl L xs tb mt d') Q) (ax_W cl L xs tb d I (ax_M cl L xs tb mt d') Q) pc ls st k n h) : ax_W cl L xs tb d I (ax_M cl L xs tb mt d') Q pc ls st k n h := by
  intro P hP
  exact hP _ _ _ _ _ _ (ax_step.mm (ax_M.mono d') (fun _ _ z => z) (fun _ _ _ _ _ _ z => z P hP) (fun _ _ _ _ _ _ z => z P hP) hs)
theorem ax_W.go {mt : Nat → Option ax_MI} {d' : Nat} {I : ax_MI} {Q : ax_Q} (S : List Nat) : ∀ (j : Nat) {pc : Nat} {ls : List (Option Value)} {st : List Value} {k n : Nat} {h : ax_H},
    ax_go cl L xs tb d I (ax_M cl L xs tb mt d') Q S (ax_W cl L xs tb d I (ax_M cl L xs tb mt d') Q) j pc ls st k n h → ax_W cl L xs tb d I (ax_M cl L xs tb mt d') Q pc ls st k n h := by
  intro j
  induction j with
  | zero => intro pc ls st k n h q; exact q
  | succ j ih =>
    intro pc ls st k n h q
    unfold ax_go at q
    split at q
    · exact q
    · exact ax_W.st (ax_step.mm (ax_M.mono d') (fun _ _ z => z) (fun _ _ _ _ _ _ z => ih z) (fun _ _ _ _ _ _ z => z) q)
/-- the first step is made in any case -/
theorem ax_W.run {mt : Nat → Option ax_MI} {d' : Nat} {I : ax_MI} {Q : ax_Q} (S : List Nat) (j : Nat) {pc : Nat} {ls : List (Option Value)} {st : List Value} {k n : Nat} {h : ax_H}
    (q : ax_step cl L xs tb d I (ax_M cl L xs tb mt d') Q (ax_go cl L xs tb d I (ax_M cl L xs tb mt d') Q S (ax_W cl L xs tb d I (ax_M cl L xs tb mt d') Q) j) (ax_W cl L xs tb d I (ax_M cl L xs tb mt d') Q) pc ls st k n h) : ax_W cl L xs tb d I (ax_M cl L xs tb mt d') Q pc ls st k n h :=
  ax_W.st (ax_step.mm (ax_M.mono d') (fun _ _ z => z) (fun _ _ _ _ _ _ z => ax_W.go S j z) (fun _ _ _ _ _ _ z => z) q)
end AXM
end
section
/-! cells by number and the heap's cells -/
def ax_v (ad rc : Nat → Nat) : Value → Value
  | .ref i => .ref (ad i)
  | .retAddr i => .ref (rc i)
  | v => v
def ax_e (ad rc : Nat → Nat) (cT : FieldType → ClassId) (e : ax_E) : va_E := match e with
  | .inl (t, n, .inl f) => .inl (cT t, n, .inl f)
  | .inl (t, n, .inr (.inl f)) => .inl (cT t, n, .inr (.inl f))
  | .inl (t, n, .inr (.inr (.inl f))) => .inl (cT t, n, .inr (.inr (.inl f)))
  | .inl (t, n, .inr (.inr (.inr (.inl f)))) => .inl (cT t, n, .inr (.inr (.inr (.inl f))))
  | .inl (t, n, .inr (.inr (.inr (.inr f)))) => .inl (cT t, n, .inr (.inr (.inr (.inr (fun j => (f j).map ad)))))
  | .inr (c, fs) => .inr (c, fs.map (ax_v ad rc))
def ax_w (ad rc : Nat → Nat) (cT : FieldType → ClassId) (h : ax_H) : va_W := (List.range h.1).map fun i => (ad i, ax_e ad rc cT ((h.2 i).getD (.inr (0, []))))
def ax_vw (n : Nat) (v : Value) : Prop := ∀ i, v = .ref i → i < n
def ax_ew (n : Nat) (e : ax_E) : Prop := match e with
  | .inl (_, _, .inr (.inr (.inr (.inr f)))) => ∀ k j, f k = some j → j < n
  | .inl _ => True
  | .inr (_, fs) => ∀ v ∈ fs, ax_vw n v
def ax_hw (h : ax_H) : Prop := ∀ i, (i < h.1 → ∃ e, h.2 i = some e) ∧ ∀ e, h.2 i = some e → i < h.1 ∧ ax_ew h.1 e
theorem ax_v_cat (ad rc : Nat → Nat) (v : Value) : (ax_v ad rc v).category = v.category := by cases v <;> rfl
theorem ax_v_sum (ad rc : Nat → Nat) (st : List Value) : ((st.map (ax_v ad rc)).map fun v => v.category) = st.map fun v => v.category := by
  rw [List.map_map]
  exact List.map_congr_left fun v _ => ax_v_cat ad rc v
theorem ax_c1_cat {v : Value} (h : ax_c1 v = true) : v.category = 1 := by cases v <;> first | rfl | (simp [ax_c1] at h)
theorem ax_c1_cat2 {v : Value} (h : ¬ ax_c1 v = true) : v.category = 2 := by cases v <;> first | rfl | (simp [ax_c1] at h)
theorem ax_vw_int {n : Nat} {x : Int32} : ax_vw n (.int x) := fun _ h => by cases h
theorem ax_vw_long {n : Nat} {x : Int64} : ax_vw n (.long x) := fun _ h => by cases h
theorem ax_vw_null {n : Nat} : ax_vw n .null := fun _ h => by cases h
theorem ax_vw_con {n i : Nat} : ax_vw n (.retAddr i) := fun _ h => by cases h
theorem ax_vw_ref {n i : Nat} (h : i < n) : ax_vw n (.ref i) := fun j e => by cases e; exact h
theorem ax_vw.le {n m : Nat} {v : Value} (h : ax_vw n v) (hn : n ≤ m) : ax_vw m v := fun i e => Nat.lt_of_lt_of_le (h i e) hn
theorem ax_v_ag {ad ad' rc : Nat → Nat} {n : Nat} {v : Value} (hag : ∀ i, i < n → ad' i = ad i) (hv : ax_vw n v) : ax_v ad' rc v = ax_v ad rc v := by
  cases v with
  | ref i => exact congrArg Value.ref (hag i (hv i rfl))
  | _ => rfl
theorem ax_vs_ag {ad ad' rc : Nat → Nat} {n : Nat} {st : List Value} (hag : ∀ i, i < n → ad' i = ad i) (hv : ∀ v ∈ st, ax_vw n v) : st.map (ax_v ad' rc) = st.map (ax_v ad rc) :=
  List.map_congr_left fun v h => ax_v_ag hag (hv v h)
theorem ax_e_ag {ad ad' rc : Nat → Nat} {cT : FieldType → ClassId} {n : Nat} {e : ax_E} (hag : ∀ i, i < n → ad' i = ad i) (he : ax_ew n e) : ax_e ad' rc cT e = ax_e ad rc cT e := by
  rcases e with ⟨t, m, (f | (f | (f | (f | f))))⟩ | ⟨c, fs⟩
  · rfl
  · rfl
  · rfl
  · rfl
  · have hf : (fun j => (f j).map ad') = fun j => (f j).map ad := by
      funext j
      cases hj : f j with
      | none => rfl
      | some k => exact congrArg some (hag k (he j k hj))
    show (Sum.inl (cT t, m, .inr (.inr (.inr (.inr (fun j => (f j).map ad'))))) : va_E) = _
    rw [hf]
    rfl
  · show (Sum.inr (c, fs.map (ax_v ad' rc)) : va_E) = _
    rw [ax_vs_ag hag he]
    rfl
theorem ax_ew.le {n m : Nat} {e : ax_E} (he : ax_ew n e) (hn : n ≤ m) : ax_ew m e := by
  rcases e with ⟨t, z, (f | (f | (f | (f | f))))⟩ | ⟨c, fs⟩
  · trivial
  · trivial
  · trivial
  · trivial
  · exact fun k j h => Nat.lt_of_lt_of_le (he k j h) hn
  · exact fun v h => (he v h).le hn
theorem ax_w_len (ad rc : Nat → Nat) (cT : FieldType → ClassId) (h : ax_H) : (ax_w ad rc cT h).length = h.1 := by simp [ax_w]
theorem ax_w_at {ad rc : Nat → Nat} {cT : FieldType → ClassId} {h : ax_H} {i : Nat} {e : ax_E} (hw : ax_hw h) (he : h.2 i = some e) : (ax_w ad rc cT h)[i]? = some (ad i, ax_e ad rc cT e) := by
  have hi := ((hw i).2 e he).1
  rw [ax_w, List.getElem?_map, List.getElem?_range hi]
  simp [he]
theorem ax_w_set {ad rc : Nat → Nat} {cT : FieldType → ClassId} {h : ax_H} {i : Nat} {e0 e : ax_E} (hw : ax_hw h) (he : h.2 i = some e0) : (ax_w ad rc cT h).set i (ad i, ax_e ad rc cT e) = ax_w ad rc cT (ax_up h i e) := by
  have hi := ((hw i).2 e0 he).1
  apply List.ext_getElem?
  intro j
  by_cases hj : j < h.1
  · rw [List.getElem?_set]
    by_cases e' : i = j
    · subst e'
      rw [if_pos rfl, if_pos (by rw [ax_w_len]; exact hi), ax_w, List.getElem?_map]
      show _ = ((List.range h.1)[i]?).map _
      rw [List.getElem?_range hi]
      simp [ax_up]
    · have e'' : ¬ j = i := fun z => e' z.symm
      rw [if_neg e', ax_w, ax_w, List.getElem?_map, List.getElem?_map]
      show ((List.range h.1)[j]?).map _ = ((List.range h.1)[j]?).map _
      rw [List.getElem?_range hj]
      simp [ax_up, e'']
  · rw [List.getElem?_eq_none (by rw [List.length_set, ax_w_len]; omega), List.getElem?_eq_none (by rw [ax_w_len]; show h.1 ≤ j; omega)]
theorem ax_up_hw {h : ax_H} {i : Nat} {e0 e : ax_E} (hw : ax_hw h) (he : h.2 i = some e0) (hn : ax_ew h.1 e) : ax_hw (ax_up h i e) := by
  have hi := ((hw i).2 e0 he).1
  intro j
  by_cases hj : j = i
  · subst hj
    refine ⟨fun _ => ⟨e, by simp [ax_up]⟩, fun e' h' => ?_⟩
    have : e = e' := by simpa [ax_up] using h'
    subst this
    exact ⟨hi, hn⟩
  · have q : (ax_up h i e).2 j = h.2 j := by simp [ax_up, hj]
    rw [q]
    exact hw j
theorem ax_w_nw {ad rc : Nat → Nat} {cT : FieldType → ClassId} {h : ax_H} {e : ax_E} {q : Nat} (hw : ax_hw h) : ax_w ad rc cT h ++ [(q, ax_e (fun i => if i = h.1 then q else ad i) rc cT e)] = ax_w (fun i => if i = h.1 then q else ad i) rc cT (ax_nw h e) := by
  have hr : (ax_nw h e).1 = h.1 + 1 := rfl
  unfold ax_w
  rw [hr, List.range_succ, List.map_append]
  congr 1
  · refine List.map_congr_left fun i hi => ?_
    have hi : i < h.1 := List.mem_range.mp hi
    have hne : ¬ i = h.1 := by omega
    obtain ⟨e', he'⟩ := (hw i).1 hi
    have hx := ((hw i).2 e' he').2
    have h1 : (ax_nw h e).2 i = some e' := by simp [ax_nw, hne, he']
    rw [h1, he']
    show (ad i, ax_e ad rc cT e') = ((if i = h.1 then q else ad i), ax_e _ rc cT e')
    rw [if_neg hne, ax_e_ag (ad := ad) (n := h.1) (fun j hj => if_neg (by omega)) hx]
  · simp [ax_nw]
theorem ax_nw_hw {h : ax_H} {e : ax_E} (hw : ax_hw h) (hn : ax_ew h.1 e) : ax_hw (ax_nw h e) := by
  intro j
  by_cases hj : j = h.1
  · subst hj
    refine ⟨fun _ => ⟨e, by simp [ax_nw]⟩, fun e' h' => ?_⟩
    have : e = e' := by simpa [ax_nw] using h'
    subst this
    exact ⟨Nat.lt_succ_self _, hn.le (Nat.le_succ _)⟩
  · have q : (ax_nw h e).2 j = h.2 j := by simp [ax_nw, hj]
    rw [q]
    refine ⟨fun z => (hw j).1 (by have : j < h.1 + 1 := z; omega), fun e' h' => ?_⟩
    obtain ⟨a, b⟩ := (hw j).2 e' h'
    exact ⟨Nat.lt_succ_of_lt a, b.le (Nat.le_succ _)⟩
/-! locals -/
def ax_lm (ad rc : Nat → Nat) (lsA : Array Slot) (ml : Nat) (ls : List (Option Value)) : Prop := lsA.size = ml ∧ ls.length = ml ∧ lv_wf lsA ∧ ∀ (i : Nat) (v : Value), ls[i]? = some (some v) → lsA[i]? = some (Slot.val (ax_v ad rc v))
def ax_lw (n : Nat) (ls : List (Option Value)) : Prop := ∀ (i : Nat) (v : Value), ls[i]? = some (some v) → ax_vw n v
def ax_as (ad rc : Nat → Nat) (ls : List (Option Value)) : List (Nat × Value) := (List.range ls.length).filterMap fun i => match ls[i]? with
  | some (some v) => some (i, ax_v ad rc v)
  | _ => none
theorem ax_as_in {ad rc : Nat → Nat} {ls : List (Option Value)} {i : Nat} {v : Value} (h : ls[i]? = some (some v)) : (i, ax_v ad rc v) ∈ ax_as ad rc ls := by
  refine List.mem_filterMap.mpr ⟨i, List.mem_range.mpr (List.getElem?_eq_some_iff.mp h).1, ?_⟩
  rw [h]
theorem ax_lm.has {ad rc : Nat → Nat} {lsA : Array Slot} {ml : Nat} {ls : List (Option Value)} (h : ax_lm ad rc lsA ml ls) : lv_has lsA ml (ax_as ad rc ls) := by
  refine ⟨h.1, h.2.2.1, fun q hq => ?_⟩
  obtain ⟨i, -, hi⟩ := List.mem_filterMap.mp hq
  split at hi
  · rename_i v hv
    cases hi
    exact h.2.2.2 i v hv
  · cases hi
theorem ax_s1_len (ls : List (Option Value)) (i : Nat) (v : Value) : (ax_s1 ls i v).length = ls.length := by
  cases i with
  | zero => simp [ax_s1]
  | succ j => simp [ax_s1]
theorem ax_kl_some {o : Option Value} {w : Value} (h : ax_kl o = some w) : o = some w ∧ w.category = 1 := by
  rcases o with _ | v
  · cases h
  · cases v <;> first | (cases h; exact ⟨rfl, rfl⟩) | (cases h; done)
theorem ax_s1_at {ls : List (Option Value)} {i j : Nat} {v w : Value} (h : (ax_s1 ls i v)[j]? = some (some w)) : (j = i ∧ w = v) ∨ (¬ j = i ∧ ls[j]? = some (some w) ∧ (j + 1 = i → w.category = 1)) := by
  by_cases hj : j = i
  · subst hj
    refine Or.inl ⟨rfl, ?_⟩
    cases j with
    | zero =>
      rw [ax_s1, List.getElem?_set] at h
      split at h
      · split at h
        · exact (Option.some.inj (Option.some.inj h)).symm
        · cases h
      · rename_i z; exact absurd rfl z
    | succ m =>
      rw [ax_s1, List.getElem?_set] at h
      split at h
      · split at h
        · exact (Option.some.inj (Option.some.inj h)).symm
        · cases h
      · rename_i z; exact absurd rfl z
  · refine Or.inr ⟨hj, ?_⟩
    cases i with
    | zero =>
      rw [ax_s1, List.getElem?_set, if_neg (fun z => hj z.symm)] at h
      exact ⟨h, fun z => by omega⟩
    | succ m =>
      rw [ax_s1, List.getElem?_set, if_neg (fun z => hj z.symm), List.getElem?_modify] at h
      by_cases hm : m = j
      · subst hm
        simp only [if_true] at h
        cases ho : ls[m]? with
        | none => rw [ho] at h; cases h
        | some o =>
          rw [ho] at h
          have h2 : ax_kl o = some w := Option.some.inj h
          obtain ⟨a, b⟩ := ax_kl_some h2
          exact ⟨by rw [a], fun _ => b⟩
      · have e : (ls[j]?).map (if m = j then ax_kl else id) = ls[j]? := by
          rw [if_neg hm]; simp
        first
          | (rw [if_neg hm] at h; simp at h; exact ⟨h, fun z => by omega⟩)
          | (simp [hm] at h; exact ⟨h, fun z => by omega⟩)
theorem ax_lm.st1 {ad rc : Nat → Nat} {lsA ls' : Array Slot} {ml : Nat} {ls : List (Option Value)} {i : Nat} {v : Value} (h : ax_lm ad rc lsA ml ls) (h' : lv_has ls' ml ((i, ax_v ad rc v) :: (ax_as ad rc ls).filter (fun q => !(q.1 == i) && !(q.1 + 1 == i && q.2.category == 2)))) : ax_lm ad rc ls' ml (ax_s1 ls i v) := by
  refine ⟨h'.1, by rw [ax_s1_len]; exact h.2.1, h'.2.1, fun j w hj => ?_⟩
  rcases ax_s1_at hj with ⟨rfl, rfl⟩ | ⟨h1, h2, h3⟩
  · exact h'.2.2 _ List.mem_cons_self
  · refine h'.2.2 (j, ax_v ad rc w) (List.mem_cons_of_mem _ (List.mem_filter.mpr ⟨ax_as_in h2, ?_⟩))
    by_cases hc : j + 1 = i
    · have := h3 hc
      simp [h1, ax_v_cat, this]
    · simp [h1, hc]
theorem ax_lw.st1 {n : Nat} {ls : List (Option Value)} {i : Nat} {v : Value} (h : ax_lw n ls) (hv : ax_vw n v) : ax_lw n (ax_s1 ls i v) := by
  intro j w hj
  rcases ax_s1_at hj with ⟨rfl, rfl⟩ | ⟨h1, h2, h3⟩
  · exact hv
  · exact h j w h2
theorem ax_s2_at {ls : List (Option Value)} {i j : Nat} {v w : Value} (h : (ax_s2 ls i v)[j]? = some (some w)) : (j = i ∧ w = v) ∨ (¬ j = i ∧ ¬ j = i + 1 ∧ ls[j]? = some (some w) ∧ (j + 1 = i → w.category = 1)) := by
  unfold ax_s2 at h
  rw [List.getElem?_set] at h
  split at h
  · split at h
    · cases h
    · cases h
  · rename_i hne
    rcases ax_s1_at h with h | ⟨h1, h2, h3⟩
    · exact Or.inl h
    · exact Or.inr ⟨h1, fun z => hne z.symm, h2, h3⟩
theorem ax_lm.st2 {ad rc : Nat → Nat} {lsA ls' : Array Slot} {ml : Nat} {ls : List (Option Value)} {i : Nat} {v : Value} (h : ax_lm ad rc lsA ml ls) (h' : lv_has ls' ml ((i, ax_v ad rc v) :: (ax_as ad rc ls).filter (fun q => !(q.1 == i) && (!(q.1 == i + 1) && !(q.1 + 1 == i && q.2.category == 2))))) : ax_lm ad rc ls' ml (ax_s2 ls i v) := by
  refine ⟨h'.1, by unfold ax_s2; rw [List.length_set, ax_s1_len]; exact h.2.1, h'.2.1, fun j w hj => ?_⟩
  rcases ax_s2_at hj with ⟨rfl, rfl⟩ | ⟨h1, h1', h2, h3⟩
  · exact h'.2.2 _ List.mem_cons_self
  · refine h'.2.2 (j, ax_v ad rc w) (List.mem_cons_of_mem _ (List.mem_filter.mpr ⟨ax_as_in h2, ?_⟩))
    by_cases hc : j + 1 = i
    · have := h3 hc
      simp [h1, h1', ax_v_cat, this]
    · simp [h1, h1', hc]
theorem ax_lw.st2 {n : Nat} {ls : List (Option Value)} {i : Nat} {v : Value} (h : ax_lw n ls) (hv : ax_vw n v) : ax_lw n (ax_s2 ls i v) := by
  intro j w hj
  rcases ax_s2_at hj with ⟨rfl, rfl⟩ | ⟨h1, h1', h2, h3⟩
  · exact hv
  · exact h j w h2
theorem ax_lm.ag {ad ad' rc : Nat → Nat} {lsA : Array Slot} {ml n : Nat} {ls : List (Option Value)} (h : ax_lm ad rc lsA ml ls) (hw : ax_lw n ls) (hag : ∀ i, i < n → ad' i = ad i) : ax_lm ad' rc lsA ml ls :=
  ⟨h.1, h.2.1, h.2.2.1, fun i v hv => by rw [ax_v_ag hag (hw i v hv)]; exact h.2.2.2 i v hv⟩
theorem ax_lw.le {n m : Nat} {ls : List (Option Value)} (h : ax_lw n ls) (hn : n ≤ m) : ax_lw m ls := fun i v hv => (h i v hv).le hn
/-! the locals with which a method begins -/
theorem ax_el_sl (ad rc : Nat → Nat) (args : List Value) : (lg_sl (args.map (ax_v ad rc))).length = (ax_el args).length := by
  induction args with
  | nil => rfl
  | cons v vs ih =>
    have e : lg_sl ((v :: vs).map (ax_v ad rc)) = (if (ax_v ad rc v).category = 2 then [Slot.val (ax_v ad rc v), .second] else [.val (ax_v ad rc v)]) ++ lg_sl (vs.map (ax_v ad rc)) := by simp [lg_sl]
    rw [e, List.length_append, ih, ax_v_cat]
    by_cases hc : ax_c1 v = true
    · rw [ax_c1_cat hc]
      simp [ax_el, hc]
      omega
    · rw [ax_c1_cat2 hc]
      simp [ax_el, hc]
      omega
theorem ax_el_at (ad rc : Nat → Nat) (args : List Value) : ∀ (b j : Nat) (w : Value), (ax_el args)[j]? = some (some w) → (b + j, ax_v ad rc w) ∈ lv_args b (args.map (ax_v ad rc)) ∧ w ∈ args := by
  induction args with
  | nil => intro b j w h; simp [ax_el] at h
  | cons v vs ih =>
    intro b j w h
    by_cases hc : ax_c1 v = true
    · have e : ax_el (v :: vs) = some v :: ax_el vs := by simp [ax_el, hc]
      rw [e] at h
      have e2 : lv_args b ((v :: vs).map (ax_v ad rc)) = (b, ax_v ad rc v) :: lv_args (b + 1) (vs.map (ax_v ad rc)) := by
        show (b, ax_v ad rc v) :: lv_args (if (ax_v ad rc v).category = 2 then b + 2 else b + 1) _ = _
        rw [ax_v_cat, ax_c1_cat hc]; rfl
      rw [e2]
      cases j with
      | zero =>
        have : v = w := by simpa using h
        subst this
        exact ⟨List.mem_cons_self, List.mem_cons_self⟩
      | succ j =>
        obtain ⟨a, c⟩ := ih (b + 1) j w (by simpa using h)
        exact ⟨List.mem_cons_of_mem _ (by rw [show b + (j + 1) = b + 1 + j by omega]; exact a), List.mem_cons_of_mem _ c⟩
    · have e : ax_el (v :: vs) = some v :: none :: ax_el vs := by simp [ax_el, hc]
      rw [e] at h
      have e2 : lv_args b ((v :: vs).map (ax_v ad rc)) = (b, ax_v ad rc v) :: lv_args (b + 2) (vs.map (ax_v ad rc)) := by
        show (b, ax_v ad rc v) :: lv_args (if (ax_v ad rc v).category = 2 then b + 2 else b + 1) _ = _
        rw [ax_v_cat, ax_c1_cat2 hc]; rfl
      rw [e2]
      rcases j with _ | _ | j
      · have : v = w := by simpa using h
        subst this
        exact ⟨List.mem_cons_self, List.mem_cons_self⟩
      · simp at h
      · obtain ⟨a, c⟩ := ih (b + 2) j w (by simpa using h)
        exact ⟨List.mem_cons_of_mem _ (by rw [show b + (j + 1 + 1) = b + 2 + j by omega]; exact a), List.mem_cons_of_mem _ c⟩
theorem ax_en_at {ml : Nat} {args : List Value} {j : Nat} {w : Value} (h : (ax_en ml args)[j]? = some (some w)) : (ax_el args)[j]? = some (some w) := by
  unfold ax_en at h
  by_cases hj : j < (ax_el args).length
  · rwa [List.getElem?_append_left hj] at h
  · rw [List.getElem?_append_right (by omega)] at h
    have := List.eq_of_mem_replicate (List.mem_of_getElem? h)
    cases this
theorem ax_en_lm (ad rc : Nat → Nat) {ml : Nat} {args : List Value} (h : (ax_el args).length ≤ ml) : ax_lm ad rc ((lg_sl (args.map (ax_v ad rc)) ++ List.replicate (ml - (lg_sl (args.map (ax_v ad rc))).length) Slot.unset).toArray) ml (ax_en ml args) := by
  have hl := lv_entry (args.map (ax_v ad rc)) (n := ml) (by rw [ax_el_sl]; exact h)
  refine ⟨hl.1, by simp [ax_en]; omega, hl.2.1, fun i v hv => ?_⟩
  have := (ax_el_at ad rc args 0 i v (ax_en_at hv)).1
  rw [Nat.zero_add] at this
  exact hl.2.2 _ this
theorem ax_en_lw {n ml : Nat} {args : List Value} (h : ∀ v ∈ args, ax_vw n v) : ax_lw n (ax_en ml args) := fun i v hv => h v (ax_el_at id id args 0 i v (ax_en_at hv)).2
end
