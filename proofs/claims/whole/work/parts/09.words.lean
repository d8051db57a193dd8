theorem ns_in {w : Cond} (i : Nat) (h : tables_1[i]? = some w) (g : goodWord w = true) : w ∈ ns_Tb := List.mem_filter.mpr ⟨List.mem_append_right _ (List.mem_of_getElem? h), g⟩
theorem ns_inS {y : MethodName} {n : Nat} (i : Nat) (h : lw_privs[i]? = some (y, n)) (g : goodWord (Cond.selects y.cls y y) = true) : Cond.selects y.cls y y ∈ ns_Tb := List.mem_filter.mpr ⟨List.mem_append_left _ (List.mem_map.mpr ⟨(y, n), List.mem_of_getElem? h, rfl⟩), g⟩
theorem ns_good : GoodIn ns_Tb ns_Tb := fun w h => ⟨h, good_of_word (List.mem_filter.mp h).2⟩
theorem nw_165 : Cond.laysFinal "NoteSheet" "NoteSheet" "cells" "[LNoteSheet$Cell;" ∈ ns_Tb := ns_in 165 (by decide +kernel) (by decide +kernel)
theorem nw_167 : Cond.laysFinal "NoteSheet" "NoteSheet" "lastChanges" "[I" ∈ ns_Tb := ns_in 167 (by decide +kernel) (by decide +kernel)
theorem nw_169 : Cond.laysFinal "NoteSheet" "NoteSheet" "latestTally" "[I" ∈ ns_Tb := ns_in 169 (by decide +kernel) (by decide +kernel)
theorem nw_171 : Cond.laysFinal "NoteSheet" "NoteSheet" "pad" "LNoteSheet$Formula;" ∈ ns_Tb := ns_in 171 (by decide +kernel) (by decide +kernel)
theorem nw_173 : Cond.laysFinal "NoteSheet" "NoteSheet" "parser" "LNoteSheet$Parser;" ∈ ns_Tb := ns_in 173 (by decide +kernel) (by decide +kernel)
theorem nw_175 : Cond.laysFinal "NoteSheet" "NoteSheet" "kept" "I" ∈ ns_Tb := ns_in 175 (by decide +kernel) (by decide +kernel)
theorem nw_177 : Cond.lays "NoteSheet" "NoteSheet" "now" "I" ∈ ns_Tb := ns_in 177 (by decide +kernel) (by decide +kernel)
theorem nw_179 : Cond.lays "NoteSheet" "NoteSheet" "uses" "I" ∈ ns_Tb := ns_in 179 (by decide +kernel) (by decide +kernel)
theorem ns_w0 : ∀ w ∈ u_ws "NoteSheet" ns_T0 8, w ∈ ns_Tb := List.forall_mem_cons.mpr ⟨nw_165, List.forall_mem_cons.mpr ⟨nw_167, List.forall_mem_cons.mpr ⟨nw_169, List.forall_mem_cons.mpr ⟨nw_171, List.forall_mem_cons.mpr ⟨nw_173, List.forall_mem_cons.mpr ⟨nw_175, List.forall_mem_cons.mpr ⟨nw_177, List.forall_mem_cons.mpr ⟨nw_179, fun _ h => absurd h List.not_mem_nil⟩⟩⟩⟩⟩⟩⟩⟩
theorem nw_119 : Cond.laysFinal "NoteSheet$Cell" "NoteSheet$Cell" "formula" "LNoteSheet$Formula;" ∈ ns_Tb := ns_in 119 (by decide +kernel) (by decide +kernel)
theorem nw_121 : Cond.laysFinal "NoteSheet$Cell" "NoteSheet$Cell" "note" "LNoteSheet$Note;" ∈ ns_Tb := ns_in 121 (by decide +kernel) (by decide +kernel)
theorem nw_123 : Cond.laysFinal "NoteSheet$Cell" "NoteSheet$Cell" "tally" "[I" ∈ ns_Tb := ns_in 123 (by decide +kernel) (by decide +kernel)
theorem nw_125 : Cond.laysFinal "NoteSheet$Cell" "NoteSheet$Cell" "stack" "[I" ∈ ns_Tb := ns_in 125 (by decide +kernel) (by decide +kernel)
theorem nw_127 : Cond.lays "NoteSheet$Cell" "NoteSheet$Cell" "hasFormula" "Z" ∈ ns_Tb := ns_in 127 (by decide +kernel) (by decide +kernel)
theorem nw_129 : Cond.lays "NoteSheet$Cell" "NoteSheet$Cell" "formulaChanged" "I" ∈ ns_Tb := ns_in 129 (by decide +kernel) (by decide +kernel)
theorem nw_131 : Cond.lays "NoteSheet$Cell" "NoteSheet$Cell" "number" "I" ∈ ns_Tb := ns_in 131 (by decide +kernel) (by decide +kernel)
theorem nw_133 : Cond.lays "NoteSheet$Cell" "NoteSheet$Cell" "durability" "I" ∈ ns_Tb := ns_in 133 (by decide +kernel) (by decide +kernel)
theorem nw_135 : Cond.lays "NoteSheet$Cell" "NoteSheet$Cell" "inputSince" "I" ∈ ns_Tb := ns_in 135 (by decide +kernel) (by decide +kernel)
theorem nw_137 : Cond.lays "NoteSheet$Cell" "NoteSheet$Cell" "atWork" "Z" ∈ ns_Tb := ns_in 137 (by decide +kernel) (by decide +kernel)
theorem nw_139 : Cond.lays "NoteSheet$Cell" "NoteSheet$Cell" "lastUse" "I" ∈ ns_Tb := ns_in 139 (by decide +kernel) (by decide +kernel)
theorem ns_w1 : ∀ w ∈ u_ws "NoteSheet$Cell" ns_T1 11, w ∈ ns_Tb := List.forall_mem_cons.mpr ⟨nw_119, List.forall_mem_cons.mpr ⟨nw_121, List.forall_mem_cons.mpr ⟨nw_123, List.forall_mem_cons.mpr ⟨nw_125, List.forall_mem_cons.mpr ⟨nw_127, List.forall_mem_cons.mpr ⟨nw_129, List.forall_mem_cons.mpr ⟨nw_131, List.forall_mem_cons.mpr ⟨nw_133, List.forall_mem_cons.mpr ⟨nw_135, List.forall_mem_cons.mpr ⟨nw_137, List.forall_mem_cons.mpr ⟨nw_139, fun _ h => absurd h List.not_mem_nil⟩⟩⟩⟩⟩⟩⟩⟩⟩⟩⟩
theorem nw_50 : Cond.laysFinal "NoteSheet$Formula" "NoteSheet$Formula" "text" "[C" ∈ ns_Tb := ns_in 50 (by decide +kernel) (by decide +kernel)
theorem nw_52 : Cond.laysFinal "NoteSheet$Formula" "NoteSheet$Formula" "steps" "[I" ∈ ns_Tb := ns_in 52 (by decide +kernel) (by decide +kernel)
theorem nw_54 : Cond.lays "NoteSheet$Formula" "NoteSheet$Formula" "length" "I" ∈ ns_Tb := ns_in 54 (by decide +kernel) (by decide +kernel)
theorem nw_56 : Cond.lays "NoteSheet$Formula" "NoteSheet$Formula" "stepCount" "I" ∈ ns_Tb := ns_in 56 (by decide +kernel) (by decide +kernel)
theorem ns_w2 : ∀ w ∈ u_ws "NoteSheet$Formula" ns_T2 4, w ∈ ns_Tb := List.forall_mem_cons.mpr ⟨nw_50, List.forall_mem_cons.mpr ⟨nw_52, List.forall_mem_cons.mpr ⟨nw_54, List.forall_mem_cons.mpr ⟨nw_56, fun _ h => absurd h List.not_mem_nil⟩⟩⟩⟩
theorem nw_84 : Cond.laysFinal "NoteSheet$Note" "NoteSheet$Note" "reads" "[I" ∈ ns_Tb := ns_in 84 (by decide +kernel) (by decide +kernel)
theorem nw_86 : Cond.lays "NoteSheet$Note" "NoteSheet$Note" "readCount" "I" ∈ ns_Tb := ns_in 86 (by decide +kernel) (by decide +kernel)
theorem nw_88 : Cond.lays "NoteSheet$Note" "NoteSheet$Note" "exists" "Z" ∈ ns_Tb := ns_in 88 (by decide +kernel) (by decide +kernel)
theorem nw_90 : Cond.lays "NoteSheet$Note" "NoteSheet$Note" "hasValue" "Z" ∈ ns_Tb := ns_in 90 (by decide +kernel) (by decide +kernel)
theorem nw_92 : Cond.lays "NoteSheet$Note" "NoteSheet$Note" "value" "J" ∈ ns_Tb := ns_in 92 (by decide +kernel) (by decide +kernel)
theorem nw_94 : Cond.lays "NoteSheet$Note" "NoteSheet$Note" "verified" "I" ∈ ns_Tb := ns_in 94 (by decide +kernel) (by decide +kernel)
theorem nw_96 : Cond.lays "NoteSheet$Note" "NoteSheet$Note" "since" "I" ∈ ns_Tb := ns_in 96 (by decide +kernel) (by decide +kernel)
theorem nw_98 : Cond.lays "NoteSheet$Note" "NoteSheet$Note" "durability" "I" ∈ ns_Tb := ns_in 98 (by decide +kernel) (by decide +kernel)
theorem ns_w3 : ∀ w ∈ u_ws "NoteSheet$Note" ns_T3 8, w ∈ ns_Tb := List.forall_mem_cons.mpr ⟨nw_84, List.forall_mem_cons.mpr ⟨nw_86, List.forall_mem_cons.mpr ⟨nw_88, List.forall_mem_cons.mpr ⟨nw_90, List.forall_mem_cons.mpr ⟨nw_92, List.forall_mem_cons.mpr ⟨nw_94, List.forall_mem_cons.mpr ⟨nw_96, List.forall_mem_cons.mpr ⟨nw_98, fun _ h => absurd h List.not_mem_nil⟩⟩⟩⟩⟩⟩⟩⟩
theorem nw_152 : Cond.laysFinal "NoteSheet$Parser" "NoteSheet$Parser" "formula" "LNoteSheet$Formula;" ∈ ns_Tb := ns_in 152 (by decide +kernel) (by decide +kernel)
theorem nw_154 : Cond.lays "NoteSheet$Parser" "NoteSheet$Parser" "at" "I" ∈ ns_Tb := ns_in 154 (by decide +kernel) (by decide +kernel)
theorem ns_w4 : ∀ w ∈ u_ws "NoteSheet$Parser" ns_T4 2, w ∈ ns_Tb := List.forall_mem_cons.mpr ⟨nw_152, List.forall_mem_cons.mpr ⟨nw_154, fun _ h => absurd h List.not_mem_nil⟩⟩
theorem nw_548 : Cond.laysFinal "NoteSheetModel" "NoteSheetModel" "most" "I" ∈ ns_Tb := ns_in 548 (by decide +kernel) (by decide +kernel)
theorem nw_550 : Cond.laysFinal "NoteSheetModel" "NoteSheetModel" "pad" "[I" ∈ ns_Tb := ns_in 550 (by decide +kernel) (by decide +kernel)
theorem nw_552 : Cond.lays "NoteSheetModel" "NoteSheetModel" "length" "I" ∈ ns_Tb := ns_in 552 (by decide +kernel) (by decide +kernel)
theorem nw_554 : Cond.lays "NoteSheetModel" "NoteSheetModel" "revision" "I" ∈ ns_Tb := ns_in 554 (by decide +kernel) (by decide +kernel)
theorem nw_556 : Cond.laysFinal "NoteSheetModel" "NoteSheetModel" "changes" "[I" ∈ ns_Tb := ns_in 556 (by decide +kernel) (by decide +kernel)
theorem nw_558 : Cond.laysFinal "NoteSheetModel" "NoteSheetModel" "formula" "[Z" ∈ ns_Tb := ns_in 558 (by decide +kernel) (by decide +kernel)
theorem nw_560 : Cond.laysFinal "NoteSheetModel" "NoteSheetModel" "text" "[I" ∈ ns_Tb := ns_in 560 (by decide +kernel) (by decide +kernel)
theorem nw_562 : Cond.laysFinal "NoteSheetModel" "NoteSheetModel" "size" "[I" ∈ ns_Tb := ns_in 562 (by decide +kernel) (by decide +kernel)
theorem nw_564 : Cond.laysFinal "NoteSheetModel" "NoteSheetModel" "steps" "[I" ∈ ns_Tb := ns_in 564 (by decide +kernel) (by decide +kernel)
theorem nw_566 : Cond.laysFinal "NoteSheetModel" "NoteSheetModel" "step" "[I" ∈ ns_Tb := ns_in 566 (by decide +kernel) (by decide +kernel)
theorem nw_568 : Cond.laysFinal "NoteSheetModel" "NoteSheetModel" "with" "[I" ∈ ns_Tb := ns_in 568 (by decide +kernel) (by decide +kernel)
theorem nw_570 : Cond.laysFinal "NoteSheetModel" "NoteSheetModel" "altered" "[I" ∈ ns_Tb := ns_in 570 (by decide +kernel) (by decide +kernel)
theorem nw_572 : Cond.laysFinal "NoteSheetModel" "NoteSheetModel" "number" "[I" ∈ ns_Tb := ns_in 572 (by decide +kernel) (by decide +kernel)
theorem nw_574 : Cond.laysFinal "NoteSheetModel" "NoteSheetModel" "durable" "[I" ∈ ns_Tb := ns_in 574 (by decide +kernel) (by decide +kernel)
theorem nw_576 : Cond.laysFinal "NoteSheetModel" "NoteSheetModel" "born" "[I" ∈ ns_Tb := ns_in 576 (by decide +kernel) (by decide +kernel)
theorem nw_578 : Cond.laysFinal "NoteSheetModel" "NoteSheetModel" "noted" "[Z" ∈ ns_Tb := ns_in 578 (by decide +kernel) (by decide +kernel)
theorem nw_580 : Cond.laysFinal "NoteSheetModel" "NoteSheetModel" "valued" "[Z" ∈ ns_Tb := ns_in 580 (by decide +kernel) (by decide +kernel)
theorem nw_582 : Cond.laysFinal "NoteSheetModel" "NoteSheetModel" "value" "[J" ∈ ns_Tb := ns_in 582 (by decide +kernel) (by decide +kernel)
theorem nw_584 : Cond.laysFinal "NoteSheetModel" "NoteSheetModel" "verified" "[I" ∈ ns_Tb := ns_in 584 (by decide +kernel) (by decide +kernel)
theorem nw_586 : Cond.laysFinal "NoteSheetModel" "NoteSheetModel" "since" "[I" ∈ ns_Tb := ns_in 586 (by decide +kernel) (by decide +kernel)
theorem nw_588 : Cond.laysFinal "NoteSheetModel" "NoteSheetModel" "noteDurable" "[I" ∈ ns_Tb := ns_in 588 (by decide +kernel) (by decide +kernel)
theorem nw_590 : Cond.laysFinal "NoteSheetModel" "NoteSheetModel" "reads" "[I" ∈ ns_Tb := ns_in 590 (by decide +kernel) (by decide +kernel)
theorem nw_592 : Cond.laysFinal "NoteSheetModel" "NoteSheetModel" "readCell" "[I" ∈ ns_Tb := ns_in 592 (by decide +kernel) (by decide +kernel)
theorem nw_594 : Cond.laysFinal "NoteSheetModel" "NoteSheetModel" "used" "[I" ∈ ns_Tb := ns_in 594 (by decide +kernel) (by decide +kernel)
theorem nw_596 : Cond.lays "NoteSheetModel" "NoteSheetModel" "clock" "I" ∈ ns_Tb := ns_in 596 (by decide +kernel) (by decide +kernel)
theorem nw_598 : Cond.laysFinal "NoteSheetModel" "NoteSheetModel" "often" "[I" ∈ ns_Tb := ns_in 598 (by decide +kernel) (by decide +kernel)
theorem nw_600 : Cond.laysFinal "NoteSheetModel" "NoteSheetModel" "lately" "[I" ∈ ns_Tb := ns_in 600 (by decide +kernel) (by decide +kernel)
theorem nw_602 : Cond.lays "NoteSheetModel" "NoteSheetModel" "opened" "I" ∈ ns_Tb := ns_in 602 (by decide +kernel) (by decide +kernel)
theorem nw_604 : Cond.laysFinal "NoteSheetModel" "NoteSheetModel" "open" "[I" ∈ ns_Tb := ns_in 604 (by decide +kernel) (by decide +kernel)
theorem nw_606 : Cond.laysFinal "NoteSheetModel" "NoteSheetModel" "mode" "[I" ∈ ns_Tb := ns_in 606 (by decide +kernel) (by decide +kernel)
theorem nw_608 : Cond.laysFinal "NoteSheetModel" "NoteSheetModel" "at" "[I" ∈ ns_Tb := ns_in 608 (by decide +kernel) (by decide +kernel)
theorem nw_610 : Cond.laysFinal "NoteSheetModel" "NoteSheetModel" "depth" "[I" ∈ ns_Tb := ns_in 610 (by decide +kernel) (by decide +kernel)
theorem nw_612 : Cond.laysFinal "NoteSheetModel" "NoteSheetModel" "stack" "[J" ∈ ns_Tb := ns_in 612 (by decide +kernel) (by decide +kernel)
theorem nw_614 : Cond.laysFinal "NoteSheetModel" "NoteSheetModel" "found" "[I" ∈ ns_Tb := ns_in 614 (by decide +kernel) (by decide +kernel)
theorem nw_616 : Cond.laysFinal "NoteSheetModel" "NoteSheetModel" "foundCell" "[I" ∈ ns_Tb := ns_in 616 (by decide +kernel) (by decide +kernel)
theorem nw_618 : Cond.laysFinal "NoteSheetModel" "NoteSheetModel" "atWork" "[Z" ∈ ns_Tb := ns_in 618 (by decide +kernel) (by decide +kernel)
theorem nw_620 : Cond.laysFinal "NoteSheetModel" "NoteSheetModel" "ring" "[Z" ∈ ns_Tb := ns_in 620 (by decide +kernel) (by decide +kernel)
theorem nw_622 : Cond.lays "NoteSheetModel" "NoteSheetModel" "signs" "I" ∈ ns_Tb := ns_in 622 (by decide +kernel) (by decide +kernel)
theorem nw_624 : Cond.laysFinal "NoteSheetModel" "NoteSheetModel" "sign" "[I" ∈ ns_Tb := ns_in 624 (by decide +kernel) (by decide +kernel)
theorem nw_626 : Cond.laysFinal "NoteSheetModel" "NoteSheetModel" "mend" "[I" ∈ ns_Tb := ns_in 626 (by decide +kernel) (by decide +kernel)
theorem nw_628 : Cond.lays "NoteSheetModel" "NoteSheetModel" "made" "I" ∈ ns_Tb := ns_in 628 (by decide +kernel) (by decide +kernel)
theorem nw_630 : Cond.laysFinal "NoteSheetModel" "NoteSheetModel" "newStep" "[I" ∈ ns_Tb := ns_in 630 (by decide +kernel) (by decide +kernel)
theorem nw_632 : Cond.laysFinal "NoteSheetModel" "NoteSheetModel" "newWith" "[I" ∈ ns_Tb := ns_in 632 (by decide +kernel) (by decide +kernel)
theorem ns_w5 : ∀ w ∈ u_ws "NoteSheetModel" ns_T5 43, w ∈ ns_Tb := List.forall_mem_cons.mpr ⟨nw_548, List.forall_mem_cons.mpr ⟨nw_550, List.forall_mem_cons.mpr ⟨nw_552, List.forall_mem_cons.mpr ⟨nw_554, List.forall_mem_cons.mpr ⟨nw_556, List.forall_mem_cons.mpr ⟨nw_558, List.forall_mem_cons.mpr ⟨nw_560, List.forall_mem_cons.mpr ⟨nw_562, List.forall_mem_cons.mpr ⟨nw_564, List.forall_mem_cons.mpr ⟨nw_566, List.forall_mem_cons.mpr ⟨nw_568, List.forall_mem_cons.mpr ⟨nw_570, List.forall_mem_cons.mpr ⟨nw_572, List.forall_mem_cons.mpr ⟨nw_574, List.forall_mem_cons.mpr ⟨nw_576, List.forall_mem_cons.mpr ⟨nw_578, List.forall_mem_cons.mpr ⟨nw_580, List.forall_mem_cons.mpr ⟨nw_582, List.forall_mem_cons.mpr ⟨nw_584, List.forall_mem_cons.mpr ⟨nw_586, List.forall_mem_cons.mpr ⟨nw_588, List.forall_mem_cons.mpr ⟨nw_590, List.forall_mem_cons.mpr ⟨nw_592, List.forall_mem_cons.mpr ⟨nw_594, List.forall_mem_cons.mpr ⟨nw_596, List.forall_mem_cons.mpr ⟨nw_598, List.forall_mem_cons.mpr ⟨nw_600, List.forall_mem_cons.mpr ⟨nw_602, List.forall_mem_cons.mpr ⟨nw_604, List.forall_mem_cons.mpr ⟨nw_606, List.forall_mem_cons.mpr ⟨nw_608, List.forall_mem_cons.mpr ⟨nw_610, List.forall_mem_cons.mpr ⟨nw_612, List.forall_mem_cons.mpr ⟨nw_614, List.forall_mem_cons.mpr ⟨nw_616, List.forall_mem_cons.mpr ⟨nw_618, List.forall_mem_cons.mpr ⟨nw_620, List.forall_mem_cons.mpr ⟨nw_622, List.forall_mem_cons.mpr ⟨nw_624, List.forall_mem_cons.mpr ⟨nw_626, List.forall_mem_cons.mpr ⟨nw_628, List.forall_mem_cons.mpr ⟨nw_630, List.forall_mem_cons.mpr ⟨nw_632, fun _ h => absurd h List.not_mem_nil⟩⟩⟩⟩⟩⟩⟩⟩⟩⟩⟩⟩⟩⟩⟩⟩⟩⟩⟩⟩⟩⟩⟩⟩⟩⟩⟩⟩⟩⟩⟩⟩⟩⟩⟩⟩⟩⟩⟩⟩⟩⟩⟩
theorem nw_162 : Cond.fieldLink "NoteSheet" 18 "NoteSheet" "kept" "I" ∈ ns_Tb := ns_in 162 (by decide +kernel) (by decide +kernel)
theorem nw_157 : Cond.fieldLink "NoteSheet" 24 "NoteSheet" "cells" "[LNoteSheet$Cell;" ∈ ns_Tb := ns_in 157 (by decide +kernel) (by decide +kernel)
theorem nw_158 : Cond.fieldLink "NoteSheet" 29 "NoteSheet" "lastChanges" "[I" ∈ ns_Tb := ns_in 158 (by decide +kernel) (by decide +kernel)
theorem nw_159 : Cond.fieldLink "NoteSheet" 33 "NoteSheet" "latestTally" "[I" ∈ ns_Tb := ns_in 159 (by decide +kernel) (by decide +kernel)
theorem nw_160 : Cond.fieldLink "NoteSheet" 39 "NoteSheet" "pad" "LNoteSheet$Formula;" ∈ ns_Tb := ns_in 160 (by decide +kernel) (by decide +kernel)
theorem nw_161 : Cond.fieldLink "NoteSheet" 48 "NoteSheet" "parser" "LNoteSheet$Parser;" ∈ ns_Tb := ns_in 161 (by decide +kernel) (by decide +kernel)
theorem nw_163 : Cond.fieldLink "NoteSheet" 52 "NoteSheet" "now" "I" ∈ ns_Tb := ns_in 163 (by decide +kernel) (by decide +kernel)
theorem nw_45 : Cond.fieldLink "NoteSheet" 78 "NoteSheet$Formula" "length" "I" ∈ ns_Tb := ns_in 45 (by decide +kernel) (by decide +kernel)
theorem nw_110 : Cond.fieldLink "NoteSheet" 84 "NoteSheet$Cell" "hasFormula" "Z" ∈ ns_Tb := ns_in 110 (by decide +kernel) (by decide +kernel)
theorem nw_112 : Cond.fieldLink "NoteSheet" 88 "NoteSheet$Cell" "number" "I" ∈ ns_Tb := ns_in 112 (by decide +kernel) (by decide +kernel)
theorem nw_114 : Cond.fieldLink "NoteSheet" 91 "NoteSheet$Cell" "durability" "I" ∈ ns_Tb := ns_in 114 (by decide +kernel) (by decide +kernel)
theorem nw_106 : Cond.fieldLink "NoteSheet" 107 "NoteSheet$Cell" "tally" "[I" ∈ ns_Tb := ns_in 106 (by decide +kernel) (by decide +kernel)
theorem nw_104 : Cond.fieldLink "NoteSheet" 113 "NoteSheet$Cell" "note" "LNoteSheet$Note;" ∈ ns_Tb := ns_in 104 (by decide +kernel) (by decide +kernel)
theorem nw_78 : Cond.fieldLink "NoteSheet" 117 "NoteSheet$Note" "verified" "I" ∈ ns_Tb := ns_in 78 (by decide +kernel) (by decide +kernel)
theorem nw_70 : Cond.fieldLink "NoteSheet" 125 "NoteSheet$Note" "readCount" "I" ∈ ns_Tb := ns_in 70 (by decide +kernel) (by decide +kernel)
theorem nw_74 : Cond.fieldLink "NoteSheet" 128 "NoteSheet$Note" "hasValue" "Z" ∈ ns_Tb := ns_in 74 (by decide +kernel) (by decide +kernel)
theorem nw_68 : Cond.fieldLink "NoteSheet" 131 "NoteSheet$Note" "reads" "[I" ∈ ns_Tb := ns_in 68 (by decide +kernel) (by decide +kernel)
theorem nw_102 : Cond.fieldLink "NoteSheet" 137 "NoteSheet$Cell" "formula" "LNoteSheet$Formula;" ∈ ns_Tb := ns_in 102 (by decide +kernel) (by decide +kernel)
theorem nw_111 : Cond.fieldLink "NoteSheet" 154 "NoteSheet$Cell" "formulaChanged" "I" ∈ ns_Tb := ns_in 111 (by decide +kernel) (by decide +kernel)
theorem nw_116 : Cond.fieldLink "NoteSheet" 157 "NoteSheet$Cell" "inputSince" "I" ∈ ns_Tb := ns_in 116 (by decide +kernel) (by decide +kernel)
theorem nw_76 : Cond.fieldLink "NoteSheet" 172 "NoteSheet$Note" "value" "J" ∈ ns_Tb := ns_in 76 (by decide +kernel) (by decide +kernel)
theorem nw_117 : Cond.fieldLink "NoteSheet" 176 "NoteSheet$Cell" "atWork" "Z" ∈ ns_Tb := ns_in 117 (by decide +kernel) (by decide +kernel)
theorem nw_83 : Cond.fieldLink "NoteSheet" 198 "NoteSheet$Note" "durability" "I" ∈ ns_Tb := ns_in 83 (by decide +kernel) (by decide +kernel)
theorem nw_72 : Cond.fieldLink "NoteSheet" 199 "NoteSheet$Note" "exists" "Z" ∈ ns_Tb := ns_in 72 (by decide +kernel) (by decide +kernel)
theorem nw_108 : Cond.fieldLink "NoteSheet" 211 "NoteSheet$Cell" "stack" "[I" ∈ ns_Tb := ns_in 108 (by decide +kernel) (by decide +kernel)
theorem nw_49 : Cond.fieldLink "NoteSheet" 214 "NoteSheet$Formula" "stepCount" "I" ∈ ns_Tb := ns_in 49 (by decide +kernel) (by decide +kernel)
theorem nw_164 : Cond.fieldLink "NoteSheet" 240 "NoteSheet" "uses" "I" ∈ ns_Tb := ns_in 164 (by decide +kernel) (by decide +kernel)
theorem nw_118 : Cond.fieldLink "NoteSheet" 243 "NoteSheet$Cell" "lastUse" "I" ∈ ns_Tb := ns_in 118 (by decide +kernel) (by decide +kernel)
theorem nw_101 : Cond.fieldLink "NoteSheet$Cell" 12 "NoteSheet$Cell" "formula" "LNoteSheet$Formula;" ∈ ns_Tb := ns_in 101 (by decide +kernel) (by decide +kernel)
theorem nw_103 : Cond.fieldLink "NoteSheet$Cell" 21 "NoteSheet$Cell" "note" "LNoteSheet$Note;" ∈ ns_Tb := ns_in 103 (by decide +kernel) (by decide +kernel)
theorem nw_105 : Cond.fieldLink "NoteSheet$Cell" 25 "NoteSheet$Cell" "tally" "[I" ∈ ns_Tb := ns_in 105 (by decide +kernel) (by decide +kernel)
theorem nw_107 : Cond.fieldLink "NoteSheet$Cell" 29 "NoteSheet$Cell" "stack" "[I" ∈ ns_Tb := ns_in 107 (by decide +kernel) (by decide +kernel)
theorem nw_109 : Cond.fieldLink "NoteSheet$Cell" 32 "NoteSheet$Cell" "hasFormula" "Z" ∈ ns_Tb := ns_in 109 (by decide +kernel) (by decide +kernel)
theorem nw_113 : Cond.fieldLink "NoteSheet$Cell" 36 "NoteSheet$Cell" "durability" "I" ∈ ns_Tb := ns_in 113 (by decide +kernel) (by decide +kernel)
theorem nw_82 : Cond.fieldLink "NoteSheet$Cell" 40 "NoteSheet$Note" "durability" "I" ∈ ns_Tb := ns_in 82 (by decide +kernel) (by decide +kernel)
theorem nw_80 : Cond.fieldLink "NoteSheet$Cell" 41 "NoteSheet$Note" "since" "I" ∈ ns_Tb := ns_in 80 (by decide +kernel) (by decide +kernel)
theorem nw_115 : Cond.fieldLink "NoteSheet$Cell" 44 "NoteSheet$Cell" "inputSince" "I" ∈ ns_Tb := ns_in 115 (by decide +kernel) (by decide +kernel)
theorem nw_41 : Cond.fieldLink "NoteSheet$Formula" 9 "NoteSheet$Formula" "text" "[C" ∈ ns_Tb := ns_in 41 (by decide +kernel) (by decide +kernel)
theorem nw_43 : Cond.fieldLink "NoteSheet$Formula" 15 "NoteSheet$Formula" "steps" "[I" ∈ ns_Tb := ns_in 43 (by decide +kernel) (by decide +kernel)
theorem nw_46 : Cond.fieldLink "NoteSheet$Formula" 34 "NoteSheet$Formula" "length" "I" ∈ ns_Tb := ns_in 46 (by decide +kernel) (by decide +kernel)
theorem nw_48 : Cond.fieldLink "NoteSheet$Formula" 38 "NoteSheet$Formula" "stepCount" "I" ∈ ns_Tb := ns_in 48 (by decide +kernel) (by decide +kernel)
theorem nw_67 : Cond.fieldLink "NoteSheet$Note" 9 "NoteSheet$Note" "reads" "[I" ∈ ns_Tb := ns_in 67 (by decide +kernel) (by decide +kernel)
theorem nw_69 : Cond.fieldLink "NoteSheet$Note" 15 "NoteSheet$Note" "readCount" "I" ∈ ns_Tb := ns_in 69 (by decide +kernel) (by decide +kernel)
theorem nw_71 : Cond.fieldLink "NoteSheet$Note" 19 "NoteSheet$Note" "exists" "Z" ∈ ns_Tb := ns_in 71 (by decide +kernel) (by decide +kernel)
theorem nw_73 : Cond.fieldLink "NoteSheet$Note" 23 "NoteSheet$Note" "hasValue" "Z" ∈ ns_Tb := ns_in 73 (by decide +kernel) (by decide +kernel)
theorem nw_77 : Cond.fieldLink "NoteSheet$Note" 26 "NoteSheet$Note" "verified" "I" ∈ ns_Tb := ns_in 77 (by decide +kernel) (by decide +kernel)
theorem nw_79 : Cond.fieldLink "NoteSheet$Note" 29 "NoteSheet$Note" "since" "I" ∈ ns_Tb := ns_in 79 (by decide +kernel) (by decide +kernel)
theorem nw_81 : Cond.fieldLink "NoteSheet$Note" 32 "NoteSheet$Note" "durability" "I" ∈ ns_Tb := ns_in 81 (by decide +kernel) (by decide +kernel)
theorem nw_75 : Cond.fieldLink "NoteSheet$Note" 35 "NoteSheet$Note" "value" "J" ∈ ns_Tb := ns_in 75 (by decide +kernel) (by decide +kernel)
theorem nw_150 : Cond.fieldLink "NoteSheet$Parser" 9 "NoteSheet$Parser" "formula" "LNoteSheet$Formula;" ∈ ns_Tb := ns_in 150 (by decide +kernel) (by decide +kernel)
theorem nw_151 : Cond.fieldLink "NoteSheet$Parser" 15 "NoteSheet$Parser" "at" "I" ∈ ns_Tb := ns_in 151 (by decide +kernel) (by decide +kernel)
theorem nw_47 : Cond.fieldLink "NoteSheet$Parser" 19 "NoteSheet$Formula" "stepCount" "I" ∈ ns_Tb := ns_in 47 (by decide +kernel) (by decide +kernel)
theorem nw_44 : Cond.fieldLink "NoteSheet$Parser" 28 "NoteSheet$Formula" "length" "I" ∈ ns_Tb := ns_in 44 (by decide +kernel) (by decide +kernel)
theorem nw_42 : Cond.fieldLink "NoteSheet$Parser" 31 "NoteSheet$Formula" "text" "[C" ∈ ns_Tb := ns_in 42 (by decide +kernel) (by decide +kernel)
theorem nw_506 : Cond.fieldLink "NoteSheetModel" 7 "NoteSheetModel" "pad" "[I" ∈ ns_Tb := ns_in 506 (by decide +kernel) (by decide +kernel)
theorem nw_508 : Cond.fieldLink "NoteSheetModel" 13 "NoteSheetModel" "revision" "I" ∈ ns_Tb := ns_in 508 (by decide +kernel) (by decide +kernel)
theorem nw_509 : Cond.fieldLink "NoteSheetModel" 17 "NoteSheetModel" "changes" "[I" ∈ ns_Tb := ns_in 509 (by decide +kernel) (by decide +kernel)
theorem nw_510 : Cond.fieldLink "NoteSheetModel" 20 "NoteSheetModel" "formula" "[Z" ∈ ns_Tb := ns_in 510 (by decide +kernel) (by decide +kernel)
theorem nw_511 : Cond.fieldLink "NoteSheetModel" 24 "NoteSheetModel" "text" "[I" ∈ ns_Tb := ns_in 511 (by decide +kernel) (by decide +kernel)
theorem nw_512 : Cond.fieldLink "NoteSheetModel" 27 "NoteSheetModel" "size" "[I" ∈ ns_Tb := ns_in 512 (by decide +kernel) (by decide +kernel)
theorem nw_513 : Cond.fieldLink "NoteSheetModel" 30 "NoteSheetModel" "steps" "[I" ∈ ns_Tb := ns_in 513 (by decide +kernel) (by decide +kernel)
theorem nw_514 : Cond.fieldLink "NoteSheetModel" 33 "NoteSheetModel" "step" "[I" ∈ ns_Tb := ns_in 514 (by decide +kernel) (by decide +kernel)
theorem nw_515 : Cond.fieldLink "NoteSheetModel" 36 "NoteSheetModel" "with" "[I" ∈ ns_Tb := ns_in 515 (by decide +kernel) (by decide +kernel)
theorem nw_516 : Cond.fieldLink "NoteSheetModel" 39 "NoteSheetModel" "altered" "[I" ∈ ns_Tb := ns_in 516 (by decide +kernel) (by decide +kernel)
theorem nw_517 : Cond.fieldLink "NoteSheetModel" 42 "NoteSheetModel" "number" "[I" ∈ ns_Tb := ns_in 517 (by decide +kernel) (by decide +kernel)
theorem nw_518 : Cond.fieldLink "NoteSheetModel" 45 "NoteSheetModel" "durable" "[I" ∈ ns_Tb := ns_in 518 (by decide +kernel) (by decide +kernel)
theorem nw_519 : Cond.fieldLink "NoteSheetModel" 48 "NoteSheetModel" "born" "[I" ∈ ns_Tb := ns_in 519 (by decide +kernel) (by decide +kernel)
theorem nw_520 : Cond.fieldLink "NoteSheetModel" 51 "NoteSheetModel" "noted" "[Z" ∈ ns_Tb := ns_in 520 (by decide +kernel) (by decide +kernel)
theorem nw_521 : Cond.fieldLink "NoteSheetModel" 54 "NoteSheetModel" "valued" "[Z" ∈ ns_Tb := ns_in 521 (by decide +kernel) (by decide +kernel)
theorem nw_522 : Cond.fieldLink "NoteSheetModel" 57 "NoteSheetModel" "value" "[J" ∈ ns_Tb := ns_in 522 (by decide +kernel) (by decide +kernel)
theorem nw_523 : Cond.fieldLink "NoteSheetModel" 61 "NoteSheetModel" "verified" "[I" ∈ ns_Tb := ns_in 523 (by decide +kernel) (by decide +kernel)
theorem nw_524 : Cond.fieldLink "NoteSheetModel" 64 "NoteSheetModel" "since" "[I" ∈ ns_Tb := ns_in 524 (by decide +kernel) (by decide +kernel)
theorem nw_525 : Cond.fieldLink "NoteSheetModel" 67 "NoteSheetModel" "noteDurable" "[I" ∈ ns_Tb := ns_in 525 (by decide +kernel) (by decide +kernel)
theorem nw_526 : Cond.fieldLink "NoteSheetModel" 70 "NoteSheetModel" "reads" "[I" ∈ ns_Tb := ns_in 526 (by decide +kernel) (by decide +kernel)
theorem nw_527 : Cond.fieldLink "NoteSheetModel" 73 "NoteSheetModel" "readCell" "[I" ∈ ns_Tb := ns_in 527 (by decide +kernel) (by decide +kernel)
theorem nw_528 : Cond.fieldLink "NoteSheetModel" 76 "NoteSheetModel" "used" "[I" ∈ ns_Tb := ns_in 528 (by decide +kernel) (by decide +kernel)
theorem nw_530 : Cond.fieldLink "NoteSheetModel" 79 "NoteSheetModel" "often" "[I" ∈ ns_Tb := ns_in 530 (by decide +kernel) (by decide +kernel)
theorem nw_531 : Cond.fieldLink "NoteSheetModel" 82 "NoteSheetModel" "lately" "[I" ∈ ns_Tb := ns_in 531 (by decide +kernel) (by decide +kernel)
theorem nw_533 : Cond.fieldLink "NoteSheetModel" 85 "NoteSheetModel" "open" "[I" ∈ ns_Tb := ns_in 533 (by decide +kernel) (by decide +kernel)
theorem nw_534 : Cond.fieldLink "NoteSheetModel" 88 "NoteSheetModel" "mode" "[I" ∈ ns_Tb := ns_in 534 (by decide +kernel) (by decide +kernel)
theorem nw_535 : Cond.fieldLink "NoteSheetModel" 91 "NoteSheetModel" "at" "[I" ∈ ns_Tb := ns_in 535 (by decide +kernel) (by decide +kernel)
theorem nw_536 : Cond.fieldLink "NoteSheetModel" 94 "NoteSheetModel" "depth" "[I" ∈ ns_Tb := ns_in 536 (by decide +kernel) (by decide +kernel)
theorem nw_537 : Cond.fieldLink "NoteSheetModel" 97 "NoteSheetModel" "stack" "[J" ∈ ns_Tb := ns_in 537 (by decide +kernel) (by decide +kernel)
theorem nw_538 : Cond.fieldLink "NoteSheetModel" 100 "NoteSheetModel" "found" "[I" ∈ ns_Tb := ns_in 538 (by decide +kernel) (by decide +kernel)
theorem nw_539 : Cond.fieldLink "NoteSheetModel" 103 "NoteSheetModel" "foundCell" "[I" ∈ ns_Tb := ns_in 539 (by decide +kernel) (by decide +kernel)
theorem nw_540 : Cond.fieldLink "NoteSheetModel" 106 "NoteSheetModel" "atWork" "[Z" ∈ ns_Tb := ns_in 540 (by decide +kernel) (by decide +kernel)
theorem nw_541 : Cond.fieldLink "NoteSheetModel" 109 "NoteSheetModel" "ring" "[Z" ∈ ns_Tb := ns_in 541 (by decide +kernel) (by decide +kernel)
theorem nw_543 : Cond.fieldLink "NoteSheetModel" 112 "NoteSheetModel" "sign" "[I" ∈ ns_Tb := ns_in 543 (by decide +kernel) (by decide +kernel)
theorem nw_544 : Cond.fieldLink "NoteSheetModel" 115 "NoteSheetModel" "mend" "[I" ∈ ns_Tb := ns_in 544 (by decide +kernel) (by decide +kernel)
theorem nw_546 : Cond.fieldLink "NoteSheetModel" 118 "NoteSheetModel" "newStep" "[I" ∈ ns_Tb := ns_in 546 (by decide +kernel) (by decide +kernel)
theorem nw_547 : Cond.fieldLink "NoteSheetModel" 121 "NoteSheetModel" "newWith" "[I" ∈ ns_Tb := ns_in 547 (by decide +kernel) (by decide +kernel)
theorem nw_505 : Cond.fieldLink "NoteSheetModel" 124 "NoteSheetModel" "most" "I" ∈ ns_Tb := ns_in 505 (by decide +kernel) (by decide +kernel)
theorem nw_507 : Cond.fieldLink "NoteSheetModel" 134 "NoteSheetModel" "length" "I" ∈ ns_Tb := ns_in 507 (by decide +kernel) (by decide +kernel)
theorem nw_545 : Cond.fieldLink "NoteSheetModel" 137 "NoteSheetModel" "made" "I" ∈ ns_Tb := ns_in 545 (by decide +kernel) (by decide +kernel)
theorem nw_542 : Cond.fieldLink "NoteSheetModel" 140 "NoteSheetModel" "signs" "I" ∈ ns_Tb := ns_in 542 (by decide +kernel) (by decide +kernel)
theorem nw_532 : Cond.fieldLink "NoteSheetModel" 191 "NoteSheetModel" "opened" "I" ∈ ns_Tb := ns_in 532 (by decide +kernel) (by decide +kernel)
theorem nw_529 : Cond.fieldLink "NoteSheetModel" 194 "NoteSheetModel" "clock" "I" ∈ ns_Tb := ns_in 529 (by decide +kernel) (by decide +kernel)
def ns_pF (q : (Nat × Nat) × (Nat × Nat × FieldType × Bool)) : Prop := ∃ (C : String) (T : u_T) (N : Nat) (t0 : Nat → FieldType), ns_cl[q.2.1]? = some (C, T, N) ∧ q.2.2.1 < N ∧ (∀ w ∈ u_ws C T N, w ∈ ns_Tb) ∧ (∀ k, k < N → parseFieldDescriptor (T k).2.2.1 = some (t0 k)) ∧ (∀ a, a < N → ∀ b, b < N → a ≠ b → (T a).2.1 ≠ (T b).2.1) ∧ Cond.fieldLink (ns_cn q.1.1) q.1.2 (T q.2.2.1).1 (T q.2.2.1).2.1 (T q.2.2.1).2.2.1 ∈ ns_Tb ∧ (T q.2.2.1).2.2.2 = q.2.2.2.2 ∧ t0 q.2.2.1 = q.2.2.2.1 ∧ (q.2.2.2.2 = true → (T q.2.2.1).1 = ns_cn q.2.1)
theorem ns_eF0 : ns_pF ((0, 18), (0, 5, .int, true)) := ⟨"NoteSheet", ns_T0, 8, ns_t0, rfl, by decide, ns_w0, ns_t0_ok, ns_n0, nw_162, rfl, rfl, fun _ => rfl⟩
theorem ns_eF1 : ns_pF ((0, 24), (0, 0, .array (.object "NoteSheet$Cell"), true)) := ⟨"NoteSheet", ns_T0, 8, ns_t0, rfl, by decide, ns_w0, ns_t0_ok, ns_n0, nw_157, rfl, rfl, fun _ => rfl⟩
theorem ns_eF2 : ns_pF ((0, 29), (0, 1, .array .int, true)) := ⟨"NoteSheet", ns_T0, 8, ns_t0, rfl, by decide, ns_w0, ns_t0_ok, ns_n0, nw_158, rfl, rfl, fun _ => rfl⟩
theorem ns_eF3 : ns_pF ((0, 33), (0, 2, .array .int, true)) := ⟨"NoteSheet", ns_T0, 8, ns_t0, rfl, by decide, ns_w0, ns_t0_ok, ns_n0, nw_159, rfl, rfl, fun _ => rfl⟩
theorem ns_eF4 : ns_pF ((0, 39), (0, 3, .object "NoteSheet$Formula", true)) := ⟨"NoteSheet", ns_T0, 8, ns_t0, rfl, by decide, ns_w0, ns_t0_ok, ns_n0, nw_160, rfl, rfl, fun _ => rfl⟩
theorem ns_eF5 : ns_pF ((0, 48), (0, 4, .object "NoteSheet$Parser", true)) := ⟨"NoteSheet", ns_T0, 8, ns_t0, rfl, by decide, ns_w0, ns_t0_ok, ns_n0, nw_161, rfl, rfl, fun _ => rfl⟩
theorem ns_eF6 : ns_pF ((0, 52), (0, 6, .int, false)) := ⟨"NoteSheet", ns_T0, 8, ns_t0, rfl, by decide, ns_w0, ns_t0_ok, ns_n0, nw_163, rfl, rfl, fun _ => rfl⟩
theorem ns_eF7 : ns_pF ((0, 78), (2, 2, .int, false)) := ⟨"NoteSheet$Formula", ns_T2, 4, ns_t2, rfl, by decide, ns_w2, ns_t2_ok, ns_n2, nw_45, rfl, rfl, fun _ => rfl⟩
theorem ns_eF8 : ns_pF ((0, 84), (1, 4, .boolean, false)) := ⟨"NoteSheet$Cell", ns_T1, 11, ns_t1, rfl, by decide, ns_w1, ns_t1_ok, ns_n1, nw_110, rfl, rfl, fun _ => rfl⟩
theorem ns_eF9 : ns_pF ((0, 88), (1, 6, .int, false)) := ⟨"NoteSheet$Cell", ns_T1, 11, ns_t1, rfl, by decide, ns_w1, ns_t1_ok, ns_n1, nw_112, rfl, rfl, fun _ => rfl⟩
theorem ns_eF10 : ns_pF ((0, 91), (1, 7, .int, false)) := ⟨"NoteSheet$Cell", ns_T1, 11, ns_t1, rfl, by decide, ns_w1, ns_t1_ok, ns_n1, nw_114, rfl, rfl, fun _ => rfl⟩
theorem ns_eF11 : ns_pF ((0, 107), (1, 2, .array .int, true)) := ⟨"NoteSheet$Cell", ns_T1, 11, ns_t1, rfl, by decide, ns_w1, ns_t1_ok, ns_n1, nw_106, rfl, rfl, fun _ => rfl⟩
theorem ns_eF12 : ns_pF ((0, 113), (1, 1, .object "NoteSheet$Note", true)) := ⟨"NoteSheet$Cell", ns_T1, 11, ns_t1, rfl, by decide, ns_w1, ns_t1_ok, ns_n1, nw_104, rfl, rfl, fun _ => rfl⟩
theorem ns_eF13 : ns_pF ((0, 117), (3, 5, .int, false)) := ⟨"NoteSheet$Note", ns_T3, 8, ns_t3, rfl, by decide, ns_w3, ns_t3_ok, ns_n3, nw_78, rfl, rfl, fun _ => rfl⟩
theorem ns_eF14 : ns_pF ((0, 125), (3, 1, .int, false)) := ⟨"NoteSheet$Note", ns_T3, 8, ns_t3, rfl, by decide, ns_w3, ns_t3_ok, ns_n3, nw_70, rfl, rfl, fun _ => rfl⟩
theorem ns_eF15 : ns_pF ((0, 128), (3, 3, .boolean, false)) := ⟨"NoteSheet$Note", ns_T3, 8, ns_t3, rfl, by decide, ns_w3, ns_t3_ok, ns_n3, nw_74, rfl, rfl, fun _ => rfl⟩
theorem ns_eF16 : ns_pF ((0, 131), (3, 0, .array .int, true)) := ⟨"NoteSheet$Note", ns_T3, 8, ns_t3, rfl, by decide, ns_w3, ns_t3_ok, ns_n3, nw_68, rfl, rfl, fun _ => rfl⟩
theorem ns_eF17 : ns_pF ((0, 137), (1, 0, .object "NoteSheet$Formula", true)) := ⟨"NoteSheet$Cell", ns_T1, 11, ns_t1, rfl, by decide, ns_w1, ns_t1_ok, ns_n1, nw_102, rfl, rfl, fun _ => rfl⟩
theorem ns_eF18 : ns_pF ((0, 154), (1, 5, .int, false)) := ⟨"NoteSheet$Cell", ns_T1, 11, ns_t1, rfl, by decide, ns_w1, ns_t1_ok, ns_n1, nw_111, rfl, rfl, fun _ => rfl⟩
theorem ns_eF19 : ns_pF ((0, 157), (1, 8, .int, false)) := ⟨"NoteSheet$Cell", ns_T1, 11, ns_t1, rfl, by decide, ns_w1, ns_t1_ok, ns_n1, nw_116, rfl, rfl, fun _ => rfl⟩
theorem ns_eF20 : ns_pF ((0, 172), (3, 4, .long, false)) := ⟨"NoteSheet$Note", ns_T3, 8, ns_t3, rfl, by decide, ns_w3, ns_t3_ok, ns_n3, nw_76, rfl, rfl, fun _ => rfl⟩
theorem ns_eF21 : ns_pF ((0, 176), (1, 9, .boolean, false)) := ⟨"NoteSheet$Cell", ns_T1, 11, ns_t1, rfl, by decide, ns_w1, ns_t1_ok, ns_n1, nw_117, rfl, rfl, fun _ => rfl⟩
theorem ns_eF22 : ns_pF ((0, 198), (3, 7, .int, false)) := ⟨"NoteSheet$Note", ns_T3, 8, ns_t3, rfl, by decide, ns_w3, ns_t3_ok, ns_n3, nw_83, rfl, rfl, fun _ => rfl⟩
theorem ns_eF23 : ns_pF ((0, 199), (3, 2, .boolean, false)) := ⟨"NoteSheet$Note", ns_T3, 8, ns_t3, rfl, by decide, ns_w3, ns_t3_ok, ns_n3, nw_72, rfl, rfl, fun _ => rfl⟩
theorem ns_eF24 : ns_pF ((0, 211), (1, 3, .array .int, true)) := ⟨"NoteSheet$Cell", ns_T1, 11, ns_t1, rfl, by decide, ns_w1, ns_t1_ok, ns_n1, nw_108, rfl, rfl, fun _ => rfl⟩
theorem ns_eF25 : ns_pF ((0, 214), (2, 3, .int, false)) := ⟨"NoteSheet$Formula", ns_T2, 4, ns_t2, rfl, by decide, ns_w2, ns_t2_ok, ns_n2, nw_49, rfl, rfl, fun _ => rfl⟩
theorem ns_eF26 : ns_pF ((0, 240), (0, 7, .int, false)) := ⟨"NoteSheet", ns_T0, 8, ns_t0, rfl, by decide, ns_w0, ns_t0_ok, ns_n0, nw_164, rfl, rfl, fun _ => rfl⟩
theorem ns_eF27 : ns_pF ((0, 243), (1, 10, .int, false)) := ⟨"NoteSheet$Cell", ns_T1, 11, ns_t1, rfl, by decide, ns_w1, ns_t1_ok, ns_n1, nw_118, rfl, rfl, fun _ => rfl⟩
theorem ns_eF28 : ns_pF ((1, 12), (1, 0, .object "NoteSheet$Formula", true)) := ⟨"NoteSheet$Cell", ns_T1, 11, ns_t1, rfl, by decide, ns_w1, ns_t1_ok, ns_n1, nw_101, rfl, rfl, fun _ => rfl⟩
theorem ns_eF29 : ns_pF ((1, 21), (1, 1, .object "NoteSheet$Note", true)) := ⟨"NoteSheet$Cell", ns_T1, 11, ns_t1, rfl, by decide, ns_w1, ns_t1_ok, ns_n1, nw_103, rfl, rfl, fun _ => rfl⟩
theorem ns_eF30 : ns_pF ((1, 25), (1, 2, .array .int, true)) := ⟨"NoteSheet$Cell", ns_T1, 11, ns_t1, rfl, by decide, ns_w1, ns_t1_ok, ns_n1, nw_105, rfl, rfl, fun _ => rfl⟩
theorem ns_eF31 : ns_pF ((1, 29), (1, 3, .array .int, true)) := ⟨"NoteSheet$Cell", ns_T1, 11, ns_t1, rfl, by decide, ns_w1, ns_t1_ok, ns_n1, nw_107, rfl, rfl, fun _ => rfl⟩
theorem ns_eF32 : ns_pF ((1, 32), (1, 4, .boolean, false)) := ⟨"NoteSheet$Cell", ns_T1, 11, ns_t1, rfl, by decide, ns_w1, ns_t1_ok, ns_n1, nw_109, rfl, rfl, fun _ => rfl⟩
theorem ns_eF33 : ns_pF ((1, 36), (1, 7, .int, false)) := ⟨"NoteSheet$Cell", ns_T1, 11, ns_t1, rfl, by decide, ns_w1, ns_t1_ok, ns_n1, nw_113, rfl, rfl, fun _ => rfl⟩
theorem ns_eF34 : ns_pF ((1, 40), (3, 7, .int, false)) := ⟨"NoteSheet$Note", ns_T3, 8, ns_t3, rfl, by decide, ns_w3, ns_t3_ok, ns_n3, nw_82, rfl, rfl, fun _ => rfl⟩
theorem ns_eF35 : ns_pF ((1, 41), (3, 6, .int, false)) := ⟨"NoteSheet$Note", ns_T3, 8, ns_t3, rfl, by decide, ns_w3, ns_t3_ok, ns_n3, nw_80, rfl, rfl, fun _ => rfl⟩
theorem ns_eF36 : ns_pF ((1, 44), (1, 8, .int, false)) := ⟨"NoteSheet$Cell", ns_T1, 11, ns_t1, rfl, by decide, ns_w1, ns_t1_ok, ns_n1, nw_115, rfl, rfl, fun _ => rfl⟩
theorem ns_eF37 : ns_pF ((2, 9), (2, 0, .array .char, true)) := ⟨"NoteSheet$Formula", ns_T2, 4, ns_t2, rfl, by decide, ns_w2, ns_t2_ok, ns_n2, nw_41, rfl, rfl, fun _ => rfl⟩
theorem ns_eF38 : ns_pF ((2, 15), (2, 1, .array .int, true)) := ⟨"NoteSheet$Formula", ns_T2, 4, ns_t2, rfl, by decide, ns_w2, ns_t2_ok, ns_n2, nw_43, rfl, rfl, fun _ => rfl⟩
theorem ns_eF39 : ns_pF ((2, 34), (2, 2, .int, false)) := ⟨"NoteSheet$Formula", ns_T2, 4, ns_t2, rfl, by decide, ns_w2, ns_t2_ok, ns_n2, nw_46, rfl, rfl, fun _ => rfl⟩
theorem ns_eF40 : ns_pF ((2, 38), (2, 3, .int, false)) := ⟨"NoteSheet$Formula", ns_T2, 4, ns_t2, rfl, by decide, ns_w2, ns_t2_ok, ns_n2, nw_48, rfl, rfl, fun _ => rfl⟩
theorem ns_eF41 : ns_pF ((3, 9), (3, 0, .array .int, true)) := ⟨"NoteSheet$Note", ns_T3, 8, ns_t3, rfl, by decide, ns_w3, ns_t3_ok, ns_n3, nw_67, rfl, rfl, fun _ => rfl⟩
theorem ns_eF42 : ns_pF ((3, 15), (3, 1, .int, false)) := ⟨"NoteSheet$Note", ns_T3, 8, ns_t3, rfl, by decide, ns_w3, ns_t3_ok, ns_n3, nw_69, rfl, rfl, fun _ => rfl⟩
theorem ns_eF43 : ns_pF ((3, 19), (3, 2, .boolean, false)) := ⟨"NoteSheet$Note", ns_T3, 8, ns_t3, rfl, by decide, ns_w3, ns_t3_ok, ns_n3, nw_71, rfl, rfl, fun _ => rfl⟩
theorem ns_eF44 : ns_pF ((3, 23), (3, 3, .boolean, false)) := ⟨"NoteSheet$Note", ns_T3, 8, ns_t3, rfl, by decide, ns_w3, ns_t3_ok, ns_n3, nw_73, rfl, rfl, fun _ => rfl⟩
theorem ns_eF45 : ns_pF ((3, 26), (3, 5, .int, false)) := ⟨"NoteSheet$Note", ns_T3, 8, ns_t3, rfl, by decide, ns_w3, ns_t3_ok, ns_n3, nw_77, rfl, rfl, fun _ => rfl⟩
theorem ns_eF46 : ns_pF ((3, 29), (3, 6, .int, false)) := ⟨"NoteSheet$Note", ns_T3, 8, ns_t3, rfl, by decide, ns_w3, ns_t3_ok, ns_n3, nw_79, rfl, rfl, fun _ => rfl⟩
theorem ns_eF47 : ns_pF ((3, 32), (3, 7, .int, false)) := ⟨"NoteSheet$Note", ns_T3, 8, ns_t3, rfl, by decide, ns_w3, ns_t3_ok, ns_n3, nw_81, rfl, rfl, fun _ => rfl⟩
theorem ns_eF48 : ns_pF ((3, 35), (3, 4, .long, false)) := ⟨"NoteSheet$Note", ns_T3, 8, ns_t3, rfl, by decide, ns_w3, ns_t3_ok, ns_n3, nw_75, rfl, rfl, fun _ => rfl⟩
theorem ns_eF49 : ns_pF ((4, 9), (4, 0, .object "NoteSheet$Formula", true)) := ⟨"NoteSheet$Parser", ns_T4, 2, ns_t4, rfl, by decide, ns_w4, ns_t4_ok, ns_n4, nw_150, rfl, rfl, fun _ => rfl⟩
theorem ns_eF50 : ns_pF ((4, 15), (4, 1, .int, false)) := ⟨"NoteSheet$Parser", ns_T4, 2, ns_t4, rfl, by decide, ns_w4, ns_t4_ok, ns_n4, nw_151, rfl, rfl, fun _ => rfl⟩
theorem ns_eF51 : ns_pF ((4, 19), (2, 3, .int, false)) := ⟨"NoteSheet$Formula", ns_T2, 4, ns_t2, rfl, by decide, ns_w2, ns_t2_ok, ns_n2, nw_47, rfl, rfl, fun _ => rfl⟩
theorem ns_eF52 : ns_pF ((4, 28), (2, 2, .int, false)) := ⟨"NoteSheet$Formula", ns_T2, 4, ns_t2, rfl, by decide, ns_w2, ns_t2_ok, ns_n2, nw_44, rfl, rfl, fun _ => rfl⟩
theorem ns_eF53 : ns_pF ((4, 31), (2, 0, .array .char, true)) := ⟨"NoteSheet$Formula", ns_T2, 4, ns_t2, rfl, by decide, ns_w2, ns_t2_ok, ns_n2, nw_42, rfl, rfl, fun _ => rfl⟩
theorem ns_eF54 : ns_pF ((5, 7), (5, 1, .array .int, true)) := ⟨"NoteSheetModel", ns_T5, 43, ns_t5, rfl, by decide, ns_w5, ns_t5_ok, ns_n5, nw_506, rfl, rfl, fun _ => rfl⟩
theorem ns_eF55 : ns_pF ((5, 13), (5, 3, .int, false)) := ⟨"NoteSheetModel", ns_T5, 43, ns_t5, rfl, by decide, ns_w5, ns_t5_ok, ns_n5, nw_508, rfl, rfl, fun _ => rfl⟩
theorem ns_eF56 : ns_pF ((5, 17), (5, 4, .array .int, true)) := ⟨"NoteSheetModel", ns_T5, 43, ns_t5, rfl, by decide, ns_w5, ns_t5_ok, ns_n5, nw_509, rfl, rfl, fun _ => rfl⟩
theorem ns_eF57 : ns_pF ((5, 20), (5, 5, .array .boolean, true)) := ⟨"NoteSheetModel", ns_T5, 43, ns_t5, rfl, by decide, ns_w5, ns_t5_ok, ns_n5, nw_510, rfl, rfl, fun _ => rfl⟩
theorem ns_eF58 : ns_pF ((5, 24), (5, 6, .array .int, true)) := ⟨"NoteSheetModel", ns_T5, 43, ns_t5, rfl, by decide, ns_w5, ns_t5_ok, ns_n5, nw_511, rfl, rfl, fun _ => rfl⟩
theorem ns_eF59 : ns_pF ((5, 27), (5, 7, .array .int, true)) := ⟨"NoteSheetModel", ns_T5, 43, ns_t5, rfl, by decide, ns_w5, ns_t5_ok, ns_n5, nw_512, rfl, rfl, fun _ => rfl⟩
theorem ns_eF60 : ns_pF ((5, 30), (5, 8, .array .int, true)) := ⟨"NoteSheetModel", ns_T5, 43, ns_t5, rfl, by decide, ns_w5, ns_t5_ok, ns_n5, nw_513, rfl, rfl, fun _ => rfl⟩
theorem ns_eF61 : ns_pF ((5, 33), (5, 9, .array .int, true)) := ⟨"NoteSheetModel", ns_T5, 43, ns_t5, rfl, by decide, ns_w5, ns_t5_ok, ns_n5, nw_514, rfl, rfl, fun _ => rfl⟩
theorem ns_eF62 : ns_pF ((5, 36), (5, 10, .array .int, true)) := ⟨"NoteSheetModel", ns_T5, 43, ns_t5, rfl, by decide, ns_w5, ns_t5_ok, ns_n5, nw_515, rfl, rfl, fun _ => rfl⟩
theorem ns_eF63 : ns_pF ((5, 39), (5, 11, .array .int, true)) := ⟨"NoteSheetModel", ns_T5, 43, ns_t5, rfl, by decide, ns_w5, ns_t5_ok, ns_n5, nw_516, rfl, rfl, fun _ => rfl⟩
theorem ns_eF64 : ns_pF ((5, 42), (5, 12, .array .int, true)) := ⟨"NoteSheetModel", ns_T5, 43, ns_t5, rfl, by decide, ns_w5, ns_t5_ok, ns_n5, nw_517, rfl, rfl, fun _ => rfl⟩
theorem ns_eF65 : ns_pF ((5, 45), (5, 13, .array .int, true)) := ⟨"NoteSheetModel", ns_T5, 43, ns_t5, rfl, by decide, ns_w5, ns_t5_ok, ns_n5, nw_518, rfl, rfl, fun _ => rfl⟩
theorem ns_eF66 : ns_pF ((5, 48), (5, 14, .array .int, true)) := ⟨"NoteSheetModel", ns_T5, 43, ns_t5, rfl, by decide, ns_w5, ns_t5_ok, ns_n5, nw_519, rfl, rfl, fun _ => rfl⟩
theorem ns_eF67 : ns_pF ((5, 51), (5, 15, .array .boolean, true)) := ⟨"NoteSheetModel", ns_T5, 43, ns_t5, rfl, by decide, ns_w5, ns_t5_ok, ns_n5, nw_520, rfl, rfl, fun _ => rfl⟩
theorem ns_eF68 : ns_pF ((5, 54), (5, 16, .array .boolean, true)) := ⟨"NoteSheetModel", ns_T5, 43, ns_t5, rfl, by decide, ns_w5, ns_t5_ok, ns_n5, nw_521, rfl, rfl, fun _ => rfl⟩
theorem ns_eF69 : ns_pF ((5, 57), (5, 17, .array .long, true)) := ⟨"NoteSheetModel", ns_T5, 43, ns_t5, rfl, by decide, ns_w5, ns_t5_ok, ns_n5, nw_522, rfl, rfl, fun _ => rfl⟩
theorem ns_eF70 : ns_pF ((5, 61), (5, 18, .array .int, true)) := ⟨"NoteSheetModel", ns_T5, 43, ns_t5, rfl, by decide, ns_w5, ns_t5_ok, ns_n5, nw_523, rfl, rfl, fun _ => rfl⟩
theorem ns_eF71 : ns_pF ((5, 64), (5, 19, .array .int, true)) := ⟨"NoteSheetModel", ns_T5, 43, ns_t5, rfl, by decide, ns_w5, ns_t5_ok, ns_n5, nw_524, rfl, rfl, fun _ => rfl⟩
theorem ns_eF72 : ns_pF ((5, 67), (5, 20, .array .int, true)) := ⟨"NoteSheetModel", ns_T5, 43, ns_t5, rfl, by decide, ns_w5, ns_t5_ok, ns_n5, nw_525, rfl, rfl, fun _ => rfl⟩
theorem ns_eF73 : ns_pF ((5, 70), (5, 21, .array .int, true)) := ⟨"NoteSheetModel", ns_T5, 43, ns_t5, rfl, by decide, ns_w5, ns_t5_ok, ns_n5, nw_526, rfl, rfl, fun _ => rfl⟩
theorem ns_eF74 : ns_pF ((5, 73), (5, 22, .array .int, true)) := ⟨"NoteSheetModel", ns_T5, 43, ns_t5, rfl, by decide, ns_w5, ns_t5_ok, ns_n5, nw_527, rfl, rfl, fun _ => rfl⟩
theorem ns_eF75 : ns_pF ((5, 76), (5, 23, .array .int, true)) := ⟨"NoteSheetModel", ns_T5, 43, ns_t5, rfl, by decide, ns_w5, ns_t5_ok, ns_n5, nw_528, rfl, rfl, fun _ => rfl⟩
theorem ns_eF76 : ns_pF ((5, 79), (5, 25, .array .int, true)) := ⟨"NoteSheetModel", ns_T5, 43, ns_t5, rfl, by decide, ns_w5, ns_t5_ok, ns_n5, nw_530, rfl, rfl, fun _ => rfl⟩
theorem ns_eF77 : ns_pF ((5, 82), (5, 26, .array .int, true)) := ⟨"NoteSheetModel", ns_T5, 43, ns_t5, rfl, by decide, ns_w5, ns_t5_ok, ns_n5, nw_531, rfl, rfl, fun _ => rfl⟩
theorem ns_eF78 : ns_pF ((5, 85), (5, 28, .array .int, true)) := ⟨"NoteSheetModel", ns_T5, 43, ns_t5, rfl, by decide, ns_w5, ns_t5_ok, ns_n5, nw_533, rfl, rfl, fun _ => rfl⟩
theorem ns_eF79 : ns_pF ((5, 88), (5, 29, .array .int, true)) := ⟨"NoteSheetModel", ns_T5, 43, ns_t5, rfl, by decide, ns_w5, ns_t5_ok, ns_n5, nw_534, rfl, rfl, fun _ => rfl⟩
theorem ns_eF80 : ns_pF ((5, 91), (5, 30, .array .int, true)) := ⟨"NoteSheetModel", ns_T5, 43, ns_t5, rfl, by decide, ns_w5, ns_t5_ok, ns_n5, nw_535, rfl, rfl, fun _ => rfl⟩
theorem ns_eF81 : ns_pF ((5, 94), (5, 31, .array .int, true)) := ⟨"NoteSheetModel", ns_T5, 43, ns_t5, rfl, by decide, ns_w5, ns_t5_ok, ns_n5, nw_536, rfl, rfl, fun _ => rfl⟩
theorem ns_eF82 : ns_pF ((5, 97), (5, 32, .array .long, true)) := ⟨"NoteSheetModel", ns_T5, 43, ns_t5, rfl, by decide, ns_w5, ns_t5_ok, ns_n5, nw_537, rfl, rfl, fun _ => rfl⟩
theorem ns_eF83 : ns_pF ((5, 100), (5, 33, .array .int, true)) := ⟨"NoteSheetModel", ns_T5, 43, ns_t5, rfl, by decide, ns_w5, ns_t5_ok, ns_n5, nw_538, rfl, rfl, fun _ => rfl⟩
theorem ns_eF84 : ns_pF ((5, 103), (5, 34, .array .int, true)) := ⟨"NoteSheetModel", ns_T5, 43, ns_t5, rfl, by decide, ns_w5, ns_t5_ok, ns_n5, nw_539, rfl, rfl, fun _ => rfl⟩
theorem ns_eF85 : ns_pF ((5, 106), (5, 35, .array .boolean, true)) := ⟨"NoteSheetModel", ns_T5, 43, ns_t5, rfl, by decide, ns_w5, ns_t5_ok, ns_n5, nw_540, rfl, rfl, fun _ => rfl⟩
theorem ns_eF86 : ns_pF ((5, 109), (5, 36, .array .boolean, true)) := ⟨"NoteSheetModel", ns_T5, 43, ns_t5, rfl, by decide, ns_w5, ns_t5_ok, ns_n5, nw_541, rfl, rfl, fun _ => rfl⟩
theorem ns_eF87 : ns_pF ((5, 112), (5, 38, .array .int, true)) := ⟨"NoteSheetModel", ns_T5, 43, ns_t5, rfl, by decide, ns_w5, ns_t5_ok, ns_n5, nw_543, rfl, rfl, fun _ => rfl⟩
theorem ns_eF88 : ns_pF ((5, 115), (5, 39, .array .int, true)) := ⟨"NoteSheetModel", ns_T5, 43, ns_t5, rfl, by decide, ns_w5, ns_t5_ok, ns_n5, nw_544, rfl, rfl, fun _ => rfl⟩
theorem ns_eF89 : ns_pF ((5, 118), (5, 41, .array .int, true)) := ⟨"NoteSheetModel", ns_T5, 43, ns_t5, rfl, by decide, ns_w5, ns_t5_ok, ns_n5, nw_546, rfl, rfl, fun _ => rfl⟩
theorem ns_eF90 : ns_pF ((5, 121), (5, 42, .array .int, true)) := ⟨"NoteSheetModel", ns_T5, 43, ns_t5, rfl, by decide, ns_w5, ns_t5_ok, ns_n5, nw_547, rfl, rfl, fun _ => rfl⟩
theorem ns_eF91 : ns_pF ((5, 124), (5, 0, .int, true)) := ⟨"NoteSheetModel", ns_T5, 43, ns_t5, rfl, by decide, ns_w5, ns_t5_ok, ns_n5, nw_505, rfl, rfl, fun _ => rfl⟩
theorem ns_eF92 : ns_pF ((5, 134), (5, 2, .int, false)) := ⟨"NoteSheetModel", ns_T5, 43, ns_t5, rfl, by decide, ns_w5, ns_t5_ok, ns_n5, nw_507, rfl, rfl, fun _ => rfl⟩
theorem ns_eF93 : ns_pF ((5, 137), (5, 40, .int, false)) := ⟨"NoteSheetModel", ns_T5, 43, ns_t5, rfl, by decide, ns_w5, ns_t5_ok, ns_n5, nw_545, rfl, rfl, fun _ => rfl⟩
theorem ns_eF94 : ns_pF ((5, 140), (5, 37, .int, false)) := ⟨"NoteSheetModel", ns_T5, 43, ns_t5, rfl, by decide, ns_w5, ns_t5_ok, ns_n5, nw_542, rfl, rfl, fun _ => rfl⟩
theorem ns_eF95 : ns_pF ((5, 191), (5, 27, .int, false)) := ⟨"NoteSheetModel", ns_T5, 43, ns_t5, rfl, by decide, ns_w5, ns_t5_ok, ns_n5, nw_532, rfl, rfl, fun _ => rfl⟩
theorem ns_eF96 : ns_pF ((5, 194), (5, 24, .int, false)) := ⟨"NoteSheetModel", ns_T5, 43, ns_t5, rfl, by decide, ns_w5, ns_t5_ok, ns_n5, nw_529, rfl, rfl, fun _ => rfl⟩
set_option maxRecDepth 20000 in
theorem ns_aF : ∀ q ∈ ns_lF, ns_pF q := List.forall_mem_cons.mpr ⟨ns_eF0, List.forall_mem_cons.mpr ⟨ns_eF1, List.forall_mem_cons.mpr ⟨ns_eF2, List.forall_mem_cons.mpr ⟨ns_eF3, List.forall_mem_cons.mpr ⟨ns_eF4, List.forall_mem_cons.mpr ⟨ns_eF5, List.forall_mem_cons.mpr ⟨ns_eF6, List.forall_mem_cons.mpr ⟨ns_eF7, List.forall_mem_cons.mpr ⟨ns_eF8, List.forall_mem_cons.mpr ⟨ns_eF9, List.forall_mem_cons.mpr ⟨ns_eF10, List.forall_mem_cons.mpr ⟨ns_eF11, List.forall_mem_cons.mpr ⟨ns_eF12, List.forall_mem_cons.mpr ⟨ns_eF13, List.forall_mem_cons.mpr ⟨ns_eF14, List.forall_mem_cons.mpr ⟨ns_eF15, List.forall_mem_cons.mpr ⟨ns_eF16, List.forall_mem_cons.mpr ⟨ns_eF17, List.forall_mem_cons.mpr ⟨ns_eF18, List.forall_mem_cons.mpr ⟨ns_eF19, List.forall_mem_cons.mpr ⟨ns_eF20, List.forall_mem_cons.mpr ⟨ns_eF21, List.forall_mem_cons.mpr ⟨ns_eF22, List.forall_mem_cons.mpr ⟨ns_eF23, List.forall_mem_cons.mpr ⟨ns_eF24, List.forall_mem_cons.mpr ⟨ns_eF25, List.forall_mem_cons.mpr ⟨ns_eF26, List.forall_mem_cons.mpr ⟨ns_eF27, List.forall_mem_cons.mpr ⟨ns_eF28, List.forall_mem_cons.mpr ⟨ns_eF29, List.forall_mem_cons.mpr ⟨ns_eF30, List.forall_mem_cons.mpr ⟨ns_eF31, List.forall_mem_cons.mpr ⟨ns_eF32, List.forall_mem_cons.mpr ⟨ns_eF33, List.forall_mem_cons.mpr ⟨ns_eF34, List.forall_mem_cons.mpr ⟨ns_eF35, List.forall_mem_cons.mpr ⟨ns_eF36, List.forall_mem_cons.mpr ⟨ns_eF37, List.forall_mem_cons.mpr ⟨ns_eF38, List.forall_mem_cons.mpr ⟨ns_eF39, List.forall_mem_cons.mpr ⟨ns_eF40, List.forall_mem_cons.mpr ⟨ns_eF41, List.forall_mem_cons.mpr ⟨ns_eF42, List.forall_mem_cons.mpr ⟨ns_eF43, List.forall_mem_cons.mpr ⟨ns_eF44, List.forall_mem_cons.mpr ⟨ns_eF45, List.forall_mem_cons.mpr ⟨ns_eF46, List.forall_mem_cons.mpr ⟨ns_eF47, List.forall_mem_cons.mpr ⟨ns_eF48, List.forall_mem_cons.mpr ⟨ns_eF49, List.forall_mem_cons.mpr ⟨ns_eF50, List.forall_mem_cons.mpr ⟨ns_eF51, List.forall_mem_cons.mpr ⟨ns_eF52, List.forall_mem_cons.mpr ⟨ns_eF53, List.forall_mem_cons.mpr ⟨ns_eF54, List.forall_mem_cons.mpr ⟨ns_eF55, List.forall_mem_cons.mpr ⟨ns_eF56, List.forall_mem_cons.mpr ⟨ns_eF57, List.forall_mem_cons.mpr ⟨ns_eF58, List.forall_mem_cons.mpr ⟨ns_eF59, List.forall_mem_cons.mpr ⟨ns_eF60, List.forall_mem_cons.mpr ⟨ns_eF61, List.forall_mem_cons.mpr ⟨ns_eF62, List.forall_mem_cons.mpr ⟨ns_eF63, List.forall_mem_cons.mpr ⟨ns_eF64, List.forall_mem_cons.mpr ⟨ns_eF65, List.forall_mem_cons.mpr ⟨ns_eF66, List.forall_mem_cons.mpr ⟨ns_eF67, List.forall_mem_cons.mpr ⟨ns_eF68, List.forall_mem_cons.mpr ⟨ns_eF69, List.forall_mem_cons.mpr ⟨ns_eF70, List.forall_mem_cons.mpr ⟨ns_eF71, List.forall_mem_cons.mpr ⟨ns_eF72, List.forall_mem_cons.mpr ⟨ns_eF73, List.forall_mem_cons.mpr ⟨ns_eF74, List.forall_mem_cons.mpr ⟨ns_eF75, List.forall_mem_cons.mpr ⟨ns_eF76, List.forall_mem_cons.mpr ⟨ns_eF77, List.forall_mem_cons.mpr ⟨ns_eF78, List.forall_mem_cons.mpr ⟨ns_eF79, List.forall_mem_cons.mpr ⟨ns_eF80, List.forall_mem_cons.mpr ⟨ns_eF81, List.forall_mem_cons.mpr ⟨ns_eF82, List.forall_mem_cons.mpr ⟨ns_eF83, List.forall_mem_cons.mpr ⟨ns_eF84, List.forall_mem_cons.mpr ⟨ns_eF85, List.forall_mem_cons.mpr ⟨ns_eF86, List.forall_mem_cons.mpr ⟨ns_eF87, List.forall_mem_cons.mpr ⟨ns_eF88, List.forall_mem_cons.mpr ⟨ns_eF89, List.forall_mem_cons.mpr ⟨ns_eF90, List.forall_mem_cons.mpr ⟨ns_eF91, List.forall_mem_cons.mpr ⟨ns_eF92, List.forall_mem_cons.mpr ⟨ns_eF93, List.forall_mem_cons.mpr ⟨ns_eF94, List.forall_mem_cons.mpr ⟨ns_eF95, List.forall_mem_cons.mpr ⟨ns_eF96, fun _ h => absurd h List.not_mem_nil⟩⟩⟩⟩⟩⟩⟩⟩⟩⟩⟩⟩⟩⟩⟩⟩⟩⟩⟩⟩⟩⟩⟩⟩⟩⟩⟩⟩⟩⟩⟩⟩⟩⟩⟩⟩⟩⟩⟩⟩⟩⟩⟩⟩⟩⟩⟩⟩⟩⟩⟩⟩⟩⟩⟩⟩⟩⟩⟩⟩⟩⟩⟩⟩⟩⟩⟩⟩⟩⟩⟩⟩⟩⟩⟩⟩⟩⟩⟩⟩⟩⟩⟩⟩⟩⟩⟩⟩⟩⟩⟩⟩⟩⟩⟩⟩⟩
theorem ns_find {α : Type} {l : List ((Nat × Nat) × α)} {c n : Nat} {a : α} (h : (l.find? (fun q => q.1.1 == c && q.1.2 == n)).map (fun q => q.2) = some a) : ((c, n), a) ∈ l := by
  cases hq : l.find? (fun q => q.1.1 == c && q.1.2 == n) with
  | none => rw [hq] at h; cases h
  | some q =>
    rw [hq] at h
    have h1 := List.find?_some hq
    have h2 := List.mem_of_find?_eq_some hq
    obtain ⟨⟨x, y⟩, z⟩ := q
    simp only [Bool.and_eq_true, beq_iff_eq] at h1
    obtain ⟨rfl, rfl⟩ := h1
    have h3 : z = a := Option.some.inj h
    rw [← h3]
    exact h2
theorem ns_okF : ax_okF ns_cl ns_Tb ns_cn ns_tb := fun co idx q h => ns_aF ((co, idx), q) (ns_find h)
def ns_pC (q : (Nat × Nat) × ((Nat ⊕ Nat) × Nat × Nat × Nat × Nat × Nat)) : Prop := (∀ y, q.2.1 = .inl y → ∃ I : ax_MI, ns_mt y = some I ∧ I.2.2.2.2.2.1 = q.2.2.2.1 ∧ I.2.2.2.2.2.2 = q.2.2.2.2.1 ∧ I.2.1 = q.2.2.2.2.2.1 ∧ (ns_nm y).cls = ns_cn q.2.2.2.2.2.1 ∧ Cond.code (ns_nm y) I.1 I.2.2.2.1 I.2.2.2.2.1 ∈ ns_Tb ∧ Cond.initialized (ns_nm y).cls ∈ ns_Tb ∧ Cond.methodLink (ns_cn q.1.1) q.1.2 (ns_nm y) ∈ ns_Tb ∧ ((ns_nm y).cls ≠ "java/lang/invoke/MethodHandle" ∧ (ns_nm y).cls ≠ "java/lang/invoke/VarHandle" ∧ (parseMethodDescriptor (ns_nm y).desc).map (fun d => d.parameters.length) = some q.2.2.1) ∧ (q.2.2.2.2.2.2 = 0 → Cond.static (ns_nm y) ∈ ns_Tb) ∧ (q.2.2.2.2.2.2 = 1 → Cond.instanceMethod (ns_nm y) ∈ ns_Tb ∧ Cond.selects (ns_cn q.2.2.2.2.2.1) (ns_nm y) (ns_nm y) ∈ ns_Tb) ∧ (q.2.2.2.2.2.2 = 2 → (ns_nm y).name = "<init>" ∧ I.2.2.2.2.1 = none ∧ Cond.instanceMethod (ns_nm y) ∈ ns_Tb)) ∧ ∀ z, q.2.1 = .inr z → ax_okP ns_Tb (ns_cn q.1.1) q.1.2 z ∧ (q.2.2.2.2.2.2 = 0 → z = 1 ∨ z = 2 ∨ z = 5) ∧ (q.2.2.2.2.2.2 = 1 → z = 4) ∧ (q.2.2.2.2.2.2 = 2 → z = 0)
theorem nw_19 : Cond.methodLink "NoteSheet" 1 Lib.objectInit ∈ ns_Tb := ns_in 19 (by decide +kernel) (by decide +kernel)
theorem nw_20 : Cond.instanceMethod Lib.objectInit ∈ ns_Tb := ns_in 20 (by decide +kernel) (by decide +kernel)
theorem nw_21 : Cond.code Lib.objectInit ⟨#[0xb1]⟩ 1 none ∈ ns_Tb := ns_in 21 (by decide +kernel) (by decide +kernel)
theorem ns_eC0 : ns_pC ((0, 1), (.inr 0, 0, 0, 0, 0, 2)) := ⟨fun y hy => by (cases hy), fun z hz => by cases hz; exact ⟨⟨nw_19, nw_20, nw_21⟩, by decide, by decide, by decide⟩⟩
theorem nw_22 : Cond.methodLink "NoteSheet" 9 Lib.Math.min.name ∈ ns_Tb := ns_in 22 (by decide +kernel) (by decide +kernel)
theorem nw_23 : Cond.static Lib.Math.min.name ∈ ns_Tb := ns_in 23 (by decide +kernel) (by decide +kernel)
theorem nw_2 : Cond.initialized "java/lang/Math" ∈ ns_Tb := ns_in 2 (by decide +kernel) (by decide +kernel)
theorem nw_24 : Cond.code Lib.Math.min.name Lib.Math.min.code 2 (some .int) ∈ ns_Tb := ns_in 24 (by decide +kernel) (by decide +kernel)
theorem ns_eC1 : ns_pC ((0, 9), (.inr 2, 0, 0, 0, 0, 0)) := ⟨fun y hy => by (cases hy), fun z hz => by cases hz; exact ⟨⟨nw_22, nw_23, nw_2, nw_24⟩, by decide, by decide, by decide⟩⟩
theorem nw_25 : Cond.methodLink "NoteSheet" 15 Lib.Math.max.name ∈ ns_Tb := ns_in 25 (by decide +kernel) (by decide +kernel)
theorem nw_26 : Cond.static Lib.Math.max.name ∈ ns_Tb := ns_in 26 (by decide +kernel) (by decide +kernel)
theorem nw_27 : Cond.code Lib.Math.max.name Lib.Math.max.code 2 (some .int) ∈ ns_Tb := ns_in 27 (by decide +kernel) (by decide +kernel)
theorem ns_eC2 : ns_pC ((0, 15), (.inr 1, 0, 0, 0, 0, 0)) := ⟨fun y hy => by (cases hy), fun z hz => by cases hz; exact ⟨⟨nw_25, nw_26, nw_2, nw_27⟩, by decide, by decide, by decide⟩⟩
theorem nw_33 : Cond.code ⟨"NoteSheet$Cell", "<init>", "()V"⟩ prog_2_method_1_code 1 (none) ∈ ns_Tb := ns_in 33 (by decide +kernel) (by decide +kernel)
theorem nw_3 : Cond.initialized "NoteSheet$Cell" ∈ ns_Tb := ns_in 3 (by decide +kernel) (by decide +kernel)
theorem nw_32 : Cond.instanceMethod ⟨"NoteSheet$Cell", "<init>", "()V"⟩ ∈ ns_Tb := ns_in 32 (by decide +kernel) (by decide +kernel)
theorem nwd_73 : (ns_nm 73).cls ≠ "java/lang/invoke/MethodHandle" ∧ (ns_nm 73).cls ≠ "java/lang/invoke/VarHandle" ∧ (parseMethodDescriptor (ns_nm 73).desc).map (fun d => d.parameters.length) = some 0 := ⟨by decide +kernel, by decide +kernel, by decide +kernel⟩
theorem nw_31 : Cond.methodLink "NoteSheet" 28 ⟨"NoteSheet$Cell", "<init>", "()V"⟩ ∈ ns_Tb := ns_in 31 (by decide +kernel) (by decide +kernel)
theorem ns_eC3 : ns_pC ((0, 28), (.inl 73, 0, 7, 117, 1, 2)) := ⟨fun y hy => by cases hy; exact ⟨ns_I_C_init, rfl, rfl, rfl, rfl, rfl, nw_33, nw_3, nw_31, nwd_73, fun h => absurd h (by decide), fun h => absurd h (by decide), fun _ => ⟨rfl, rfl, nw_32⟩⟩, fun z hz => by cases hz⟩
theorem nw_39 : Cond.code ⟨"NoteSheet$Formula", "<init>", "()V"⟩ prog_3_method_1_code 1 (none) ∈ ns_Tb := ns_in 39 (by decide +kernel) (by decide +kernel)
theorem nw_4 : Cond.initialized "NoteSheet$Formula" ∈ ns_Tb := ns_in 4 (by decide +kernel) (by decide +kernel)
theorem nw_38 : Cond.instanceMethod ⟨"NoteSheet$Formula", "<init>", "()V"⟩ ∈ ns_Tb := ns_in 38 (by decide +kernel) (by decide +kernel)
theorem nwd_77 : (ns_nm 77).cls ≠ "java/lang/invoke/MethodHandle" ∧ (ns_nm 77).cls ≠ "java/lang/invoke/VarHandle" ∧ (parseMethodDescriptor (ns_nm 77).desc).map (fun d => d.parameters.length) = some 0 := ⟨by decide +kernel, by decide +kernel, by decide +kernel⟩
theorem nw_143 : Cond.methodLink "NoteSheet" 38 ⟨"NoteSheet$Formula", "<init>", "()V"⟩ ∈ ns_Tb := ns_in 143 (by decide +kernel) (by decide +kernel)
theorem ns_eC4 : ns_pC ((0, 38), (.inl 77, 0, 2, 60, 2, 2)) := ⟨fun y hy => by cases hy; exact ⟨ns_I_F_init, rfl, rfl, rfl, rfl, rfl, nw_39, nw_4, nw_143, nwd_77, fun h => absurd h (by decide), fun h => absurd h (by decide), fun _ => ⟨rfl, rfl, nw_38⟩⟩, fun z hz => by cases hz⟩
theorem nw_148 : Cond.code ⟨"NoteSheet$Parser", "<init>", "(LNoteSheet$Formula;)V"⟩ prog_5_method_1_code 2 (none) ∈ ns_Tb := ns_in 148 (by decide +kernel) (by decide +kernel)
theorem nw_6 : Cond.initialized "NoteSheet$Parser" ∈ ns_Tb := ns_in 6 (by decide +kernel) (by decide +kernel)
theorem nw_147 : Cond.instanceMethod ⟨"NoteSheet$Parser", "<init>", "(LNoteSheet$Formula;)V"⟩ ∈ ns_Tb := ns_in 147 (by decide +kernel) (by decide +kernel)
theorem nwd_93 : (ns_nm 93).cls ≠ "java/lang/invoke/MethodHandle" ∧ (ns_nm 93).cls ≠ "java/lang/invoke/VarHandle" ∧ (parseMethodDescriptor (ns_nm 93).desc).map (fun d => d.parameters.length) = some 1 := ⟨by decide +kernel, by decide +kernel, by decide +kernel⟩
theorem nw_146 : Cond.methodLink "NoteSheet" 45 ⟨"NoteSheet$Parser", "<init>", "(LNoteSheet$Formula;)V"⟩ ∈ ns_Tb := ns_in 146 (by decide +kernel) (by decide +kernel)
theorem ns_eC5 : ns_pC ((0, 45), (.inl 93, 1, 0, 0, 4, 2)) := ⟨fun y hy => by cases hy; exact ⟨ns_I_P_init, rfl, rfl, rfl, rfl, rfl, nw_148, nw_6, nw_146, nwd_93, fun h => absurd h (by decide), fun h => absurd h (by decide), fun _ => ⟨rfl, rfl, nw_147⟩⟩, fun z hz => by cases hz⟩
theorem nw_188 : Cond.code ⟨"NoteSheet$Formula", "mayHold", "(C)Z"⟩ prog_3_method_4_code 1 (some .boolean) ∈ ns_Tb := ns_in 188 (by decide +kernel) (by decide +kernel)
theorem nw_187 : Cond.static ⟨"NoteSheet$Formula", "mayHold", "(C)Z"⟩ ∈ ns_Tb := ns_in 187 (by decide +kernel) (by decide +kernel)
theorem nwd_80 : (ns_nm 80).cls ≠ "java/lang/invoke/MethodHandle" ∧ (ns_nm 80).cls ≠ "java/lang/invoke/VarHandle" ∧ (parseMethodDescriptor (ns_nm 80).desc).map (fun d => d.parameters.length) = some 1 := ⟨by decide +kernel, by decide +kernel, by decide +kernel⟩
theorem nw_186 : Cond.methodLink "NoteSheet" 55 ⟨"NoteSheet$Formula", "mayHold", "(C)Z"⟩ ∈ ns_Tb := ns_in 186 (by decide +kernel) (by decide +kernel)
theorem ns_eC6 : ns_pC ((0, 55), (.inl 80, 1, 0, 0, 2, 0)) := ⟨fun y hy => by cases hy; exact ⟨ns_I_F_mayHold, rfl, rfl, rfl, rfl, rfl, nw_188, nw_4, nw_186, nwd_80, fun _ => nw_187, fun h => absurd h (by decide), fun h => absurd h (by decide)⟩, fun z hz => by cases hz⟩
theorem nw_281 : Cond.code ⟨"NoteSheet$Formula", "append", "(C)Z"⟩ prog_3_method_5_code 2 (some .boolean) ∈ ns_Tb := ns_in 281 (by decide +kernel) (by decide +kernel)
theorem nw_279 : Cond.instanceMethod ⟨"NoteSheet$Formula", "append", "(C)Z"⟩ ∈ ns_Tb := ns_in 279 (by decide +kernel) (by decide +kernel)
theorem nw_280 : Cond.selects "NoteSheet$Formula" ⟨"NoteSheet$Formula", "append", "(C)Z"⟩ ⟨"NoteSheet$Formula", "append", "(C)Z"⟩ ∈ ns_Tb := ns_in 280 (by decide +kernel) (by decide +kernel)
theorem nwd_81 : (ns_nm 81).cls ≠ "java/lang/invoke/MethodHandle" ∧ (ns_nm 81).cls ≠ "java/lang/invoke/VarHandle" ∧ (parseMethodDescriptor (ns_nm 81).desc).map (fun d => d.parameters.length) = some 1 := ⟨by decide +kernel, by decide +kernel, by decide +kernel⟩
theorem nw_278 : Cond.methodLink "NoteSheet" 59 ⟨"NoteSheet$Formula", "append", "(C)Z"⟩ ∈ ns_Tb := ns_in 278 (by decide +kernel) (by decide +kernel)
theorem ns_eC7 : ns_pC ((0, 59), (.inl 81, 1, 0, 0, 2, 1)) := ⟨fun y hy => by cases hy; exact ⟨ns_I_F_append, rfl, rfl, rfl, rfl, rfl, nw_281, nw_4, nw_278, nwd_81, fun h => absurd h (by decide), fun _ => ⟨nw_279, nw_280⟩, fun h => absurd h (by decide)⟩, fun z hz => by cases hz⟩
theorem nw_289 : Cond.code ⟨"NoteSheet", "isCell", "(I)Z"⟩ prog_1_method_11_code 1 (some .boolean) ∈ ns_Tb := ns_in 289 (by decide +kernel) (by decide +kernel)
theorem nw_1 : Cond.initialized "NoteSheet" ∈ ns_Tb := ns_in 1 (by decide +kernel) (by decide +kernel)
theorem nw_288 : Cond.static ⟨"NoteSheet", "isCell", "(I)Z"⟩ ∈ ns_Tb := ns_in 288 (by decide +kernel) (by decide +kernel)
theorem nwd_10 : (ns_nm 10).cls ≠ "java/lang/invoke/MethodHandle" ∧ (ns_nm 10).cls ≠ "java/lang/invoke/VarHandle" ∧ (parseMethodDescriptor (ns_nm 10).desc).map (fun d => d.parameters.length) = some 1 := ⟨by decide +kernel, by decide +kernel, by decide +kernel⟩
theorem nw_287 : Cond.methodLink "NoteSheet" 62 ⟨"NoteSheet", "isCell", "(I)Z"⟩ ∈ ns_Tb := ns_in 287 (by decide +kernel) (by decide +kernel)
theorem ns_eC8 : ns_pC ((0, 62), (.inl 10, 1, 0, 0, 0, 0)) := ⟨fun y hy => by cases hy; exact ⟨ns_I_N_isCell, rfl, rfl, rfl, rfl, rfl, nw_289, nw_1, nw_287, nwd_10, fun _ => nw_288, fun h => absurd h (by decide), fun h => absurd h (by decide)⟩, fun z hz => by cases hz⟩
theorem nw_293 : Cond.code ⟨"NoteSheet$Parser", "accepts", "()Z"⟩ prog_5_method_2_code 1 (some .boolean) ∈ ns_Tb := ns_in 293 (by decide +kernel) (by decide +kernel)
theorem nw_291 : Cond.instanceMethod ⟨"NoteSheet$Parser", "accepts", "()Z"⟩ ∈ ns_Tb := ns_in 291 (by decide +kernel) (by decide +kernel)
theorem nw_292 : Cond.selects "NoteSheet$Parser" ⟨"NoteSheet$Parser", "accepts", "()Z"⟩ ⟨"NoteSheet$Parser", "accepts", "()Z"⟩ ∈ ns_Tb := ns_in 292 (by decide +kernel) (by decide +kernel)
theorem nwd_94 : (ns_nm 94).cls ≠ "java/lang/invoke/MethodHandle" ∧ (ns_nm 94).cls ≠ "java/lang/invoke/VarHandle" ∧ (parseMethodDescriptor (ns_nm 94).desc).map (fun d => d.parameters.length) = some 0 := ⟨by decide +kernel, by decide +kernel, by decide +kernel⟩
theorem nw_290 : Cond.methodLink "NoteSheet" 66 ⟨"NoteSheet$Parser", "accepts", "()Z"⟩ ∈ ns_Tb := ns_in 290 (by decide +kernel) (by decide +kernel)
theorem ns_eC9 : ns_pC ((0, 66), (.inl 94, 0, 0, 0, 4, 1)) := ⟨fun y hy => by cases hy; exact ⟨ns_I_P_accepts, rfl, rfl, rfl, rfl, rfl, nw_293, nw_6, nw_290, nwd_94, fun h => absurd h (by decide), fun _ => ⟨nw_291, nw_292⟩, fun h => absurd h (by decide)⟩, fun z hz => by cases hz⟩
theorem nw_343 : Cond.code ⟨"NoteSheet$Parser", "fault", "()I"⟩ prog_5_method_3_code 1 (some .int) ∈ ns_Tb := ns_in 343 (by decide +kernel) (by decide +kernel)
theorem nw_341 : Cond.instanceMethod ⟨"NoteSheet$Parser", "fault", "()I"⟩ ∈ ns_Tb := ns_in 341 (by decide +kernel) (by decide +kernel)
theorem nw_342 : Cond.selects "NoteSheet$Parser" ⟨"NoteSheet$Parser", "fault", "()I"⟩ ⟨"NoteSheet$Parser", "fault", "()I"⟩ ∈ ns_Tb := ns_in 342 (by decide +kernel) (by decide +kernel)
theorem nwd_95 : (ns_nm 95).cls ≠ "java/lang/invoke/MethodHandle" ∧ (ns_nm 95).cls ≠ "java/lang/invoke/VarHandle" ∧ (parseMethodDescriptor (ns_nm 95).desc).map (fun d => d.parameters.length) = some 0 := ⟨by decide +kernel, by decide +kernel, by decide +kernel⟩
theorem nw_340 : Cond.methodLink "NoteSheet" 70 ⟨"NoteSheet$Parser", "fault", "()I"⟩ ∈ ns_Tb := ns_in 340 (by decide +kernel) (by decide +kernel)
theorem ns_eC10 : ns_pC ((0, 70), (.inl 95, 0, 0, 0, 4, 1)) := ⟨fun y hy => by cases hy; exact ⟨ns_I_P_fault, rfl, rfl, rfl, rfl, rfl, nw_343, nw_6, nw_340, nwd_95, fun h => absurd h (by decide), fun _ => ⟨nw_341, nw_342⟩, fun h => absurd h (by decide)⟩, fun z hz => by cases hz⟩
theorem nw_347 : Cond.code ⟨"NoteSheet", "makeFormula", "(LNoteSheet$Cell;)V"⟩ prog_1_method_13_code 2 (none) ∈ ns_Tb := ns_in 347 (by decide +kernel) (by decide +kernel)
theorem nw_346 : Cond.instanceMethod ⟨"NoteSheet", "makeFormula", "(LNoteSheet$Cell;)V"⟩ ∈ ns_Tb := ns_in 346 (by decide +kernel) (by decide +kernel)
theorem nws_12 : Cond.selects "NoteSheet" ⟨"NoteSheet", "makeFormula", "(LNoteSheet$Cell;)V"⟩ ⟨"NoteSheet", "makeFormula", "(LNoteSheet$Cell;)V"⟩ ∈ ns_Tb := ns_inS (y := ⟨"NoteSheet", "makeFormula", "(LNoteSheet$Cell;)V"⟩) (n := 8) 8 (by decide +kernel) (by decide +kernel)
theorem nwd_12 : (ns_nm 12).cls ≠ "java/lang/invoke/MethodHandle" ∧ (ns_nm 12).cls ≠ "java/lang/invoke/VarHandle" ∧ (parseMethodDescriptor (ns_nm 12).desc).map (fun d => d.parameters.length) = some 1 := ⟨by decide +kernel, by decide +kernel, by decide +kernel⟩
theorem nw_344 : Cond.methodLink "NoteSheet" 74 ⟨"NoteSheet", "makeFormula", "(LNoteSheet$Cell;)V"⟩ ∈ ns_Tb := ns_in 344 (by decide +kernel) (by decide +kernel)
theorem ns_eC11 : ns_pC ((0, 74), (.inl 12, 1, 0, 0, 0, 1)) := ⟨fun y hy => by cases hy; exact ⟨ns_I_N_makeFormula, rfl, rfl, rfl, rfl, rfl, nw_347, nw_1, nw_344, nwd_12, fun h => absurd h (by decide), fun _ => ⟨nw_346, nws_12⟩, fun h => absurd h (by decide)⟩, fun z hz => by cases hz⟩
theorem nw_373 : Cond.code ⟨"NoteSheet", "isDurability", "(I)Z"⟩ prog_1_method_12_code 1 (some .boolean) ∈ ns_Tb := ns_in 373 (by decide +kernel) (by decide +kernel)
theorem nw_372 : Cond.static ⟨"NoteSheet", "isDurability", "(I)Z"⟩ ∈ ns_Tb := ns_in 372 (by decide +kernel) (by decide +kernel)
theorem nwd_11 : (ns_nm 11).cls ≠ "java/lang/invoke/MethodHandle" ∧ (ns_nm 11).cls ≠ "java/lang/invoke/VarHandle" ∧ (parseMethodDescriptor (ns_nm 11).desc).map (fun d => d.parameters.length) = some 1 := ⟨by decide +kernel, by decide +kernel, by decide +kernel⟩
theorem nw_371 : Cond.methodLink "NoteSheet" 81 ⟨"NoteSheet", "isDurability", "(I)Z"⟩ ∈ ns_Tb := ns_in 371 (by decide +kernel) (by decide +kernel)
theorem ns_eC12 : ns_pC ((0, 81), (.inl 11, 1, 0, 0, 0, 0)) := ⟨fun y hy => by cases hy; exact ⟨ns_I_N_isDurability, rfl, rfl, rfl, rfl, rfl, nw_373, nw_1, nw_371, nwd_11, fun _ => nw_372, fun h => absurd h (by decide), fun h => absurd h (by decide)⟩, fun z hz => by cases hz⟩
theorem nw_377 : Cond.code ⟨"NoteSheet", "makeInput", "(LNoteSheet$Cell;II)V"⟩ prog_1_method_14_code 4 (none) ∈ ns_Tb := ns_in 377 (by decide +kernel) (by decide +kernel)
theorem nw_376 : Cond.instanceMethod ⟨"NoteSheet", "makeInput", "(LNoteSheet$Cell;II)V"⟩ ∈ ns_Tb := ns_in 376 (by decide +kernel) (by decide +kernel)
theorem nws_13 : Cond.selects "NoteSheet" ⟨"NoteSheet", "makeInput", "(LNoteSheet$Cell;II)V"⟩ ⟨"NoteSheet", "makeInput", "(LNoteSheet$Cell;II)V"⟩ ∈ ns_Tb := ns_inS (y := ⟨"NoteSheet", "makeInput", "(LNoteSheet$Cell;II)V"⟩) (n := 8) 10 (by decide +kernel) (by decide +kernel)
theorem nwd_13 : (ns_nm 13).cls ≠ "java/lang/invoke/MethodHandle" ∧ (ns_nm 13).cls ≠ "java/lang/invoke/VarHandle" ∧ (parseMethodDescriptor (ns_nm 13).desc).map (fun d => d.parameters.length) = some 3 := ⟨by decide +kernel, by decide +kernel, by decide +kernel⟩
theorem nw_374 : Cond.methodLink "NoteSheet" 94 ⟨"NoteSheet", "makeInput", "(LNoteSheet$Cell;II)V"⟩ ∈ ns_Tb := ns_in 374 (by decide +kernel) (by decide +kernel)
theorem ns_eC13 : ns_pC ((0, 94), (.inl 13, 3, 0, 0, 0, 1)) := ⟨fun y hy => by cases hy; exact ⟨ns_I_N_makeInput, rfl, rfl, rfl, rfl, rfl, nw_377, nw_1, nw_374, nwd_13, fun h => absurd h (by decide), fun _ => ⟨nw_376, nws_13⟩, fun h => absurd h (by decide)⟩, fun z hz => by cases hz⟩
theorem nw_390 : Cond.code ⟨"NoteSheet", "upToDateValue", "(LNoteSheet$Cell;)J"⟩ prog_1_method_16_code 2 (some .long) ∈ ns_Tb := ns_in 390 (by decide +kernel) (by decide +kernel)
theorem nw_389 : Cond.instanceMethod ⟨"NoteSheet", "upToDateValue", "(LNoteSheet$Cell;)J"⟩ ∈ ns_Tb := ns_in 389 (by decide +kernel) (by decide +kernel)
theorem nws_15 : Cond.selects "NoteSheet" ⟨"NoteSheet", "upToDateValue", "(LNoteSheet$Cell;)J"⟩ ⟨"NoteSheet", "upToDateValue", "(LNoteSheet$Cell;)J"⟩ ∈ ns_Tb := ns_inS (y := ⟨"NoteSheet", "upToDateValue", "(LNoteSheet$Cell;)J"⟩) (n := 8) 11 (by decide +kernel) (by decide +kernel)
theorem nwd_15 : (ns_nm 15).cls ≠ "java/lang/invoke/MethodHandle" ∧ (ns_nm 15).cls ≠ "java/lang/invoke/VarHandle" ∧ (parseMethodDescriptor (ns_nm 15).desc).map (fun d => d.parameters.length) = some 1 := ⟨by decide +kernel, by decide +kernel, by decide +kernel⟩
theorem nw_387 : Cond.methodLink "NoteSheet" 100 ⟨"NoteSheet", "upToDateValue", "(LNoteSheet$Cell;)J"⟩ ∈ ns_Tb := ns_in 387 (by decide +kernel) (by decide +kernel)
theorem ns_eC14 : ns_pC ((0, 100), (.inl 15, 1, 0, 0, 0, 1)) := ⟨fun y hy => by cases hy; exact ⟨ns_I_N_upToDateValue, rfl, rfl, rfl, rfl, rfl, nw_390, nw_1, nw_387, nwd_15, fun h => absurd h (by decide), fun _ => ⟨nw_389, nws_15⟩, fun h => absurd h (by decide)⟩, fun z hz => by cases hz⟩
theorem nw_467 : Cond.code ⟨"NoteSheet", "dropValuesBeyondKept", "()V"⟩ prog_1_method_29_code 2 (none) ∈ ns_Tb := ns_in 467 (by decide +kernel) (by decide +kernel)
theorem nw_466 : Cond.instanceMethod ⟨"NoteSheet", "dropValuesBeyondKept", "()V"⟩ ∈ ns_Tb := ns_in 466 (by decide +kernel) (by decide +kernel)
theorem nws_28 : Cond.selects "NoteSheet" ⟨"NoteSheet", "dropValuesBeyondKept", "()V"⟩ ⟨"NoteSheet", "dropValuesBeyondKept", "()V"⟩ ∈ ns_Tb := ns_inS (y := ⟨"NoteSheet", "dropValuesBeyondKept", "()V"⟩) (n := 8) 22 (by decide +kernel) (by decide +kernel)
theorem nwd_28 : (ns_nm 28).cls ≠ "java/lang/invoke/MethodHandle" ∧ (ns_nm 28).cls ≠ "java/lang/invoke/VarHandle" ∧ (parseMethodDescriptor (ns_nm 28).desc).map (fun d => d.parameters.length) = some 0 := ⟨by decide +kernel, by decide +kernel, by decide +kernel⟩
theorem nw_464 : Cond.methodLink "NoteSheet" 104 ⟨"NoteSheet", "dropValuesBeyondKept", "()V"⟩ ∈ ns_Tb := ns_in 464 (by decide +kernel) (by decide +kernel)
theorem ns_eC15 : ns_pC ((0, 104), (.inl 28, 0, 0, 0, 0, 1)) := ⟨fun y hy => by cases hy; exact ⟨ns_I_N_dropValuesBeyondKept, rfl, rfl, rfl, rfl, rfl, nw_467, nw_1, nw_464, nwd_28, fun h => absurd h (by decide), fun _ => ⟨nw_466, nws_28⟩, fun h => absurd h (by decide)⟩, fun z hz => by cases hz⟩
theorem nw_418 : Cond.code ⟨"NoteSheet$Cell", "unchangedSince", "()I"⟩ prog_2_method_4_code 1 (some .int) ∈ ns_Tb := ns_in 418 (by decide +kernel) (by decide +kernel)
theorem nw_416 : Cond.instanceMethod ⟨"NoteSheet$Cell", "unchangedSince", "()I"⟩ ∈ ns_Tb := ns_in 416 (by decide +kernel) (by decide +kernel)
theorem nw_417 : Cond.selects "NoteSheet$Cell" ⟨"NoteSheet$Cell", "unchangedSince", "()I"⟩ ⟨"NoteSheet$Cell", "unchangedSince", "()I"⟩ ∈ ns_Tb := ns_in 417 (by decide +kernel) (by decide +kernel)
theorem nwd_76 : (ns_nm 76).cls ≠ "java/lang/invoke/MethodHandle" ∧ (ns_nm 76).cls ≠ "java/lang/invoke/VarHandle" ∧ (parseMethodDescriptor (ns_nm 76).desc).map (fun d => d.parameters.length) = some 0 := ⟨by decide +kernel, by decide +kernel, by decide +kernel⟩
theorem nw_415 : Cond.methodLink "NoteSheet" 110 ⟨"NoteSheet$Cell", "unchangedSince", "()I"⟩ ∈ ns_Tb := ns_in 415 (by decide +kernel) (by decide +kernel)
theorem ns_eC16 : ns_pC ((0, 110), (.inl 76, 0, 0, 0, 1, 1)) := ⟨fun y hy => by cases hy; exact ⟨ns_I_C_unchangedSince, rfl, rfl, rfl, rfl, rfl, nw_418, nw_3, nw_415, nwd_76, fun h => absurd h (by decide), fun _ => ⟨nw_416, nw_417⟩, fun h => absurd h (by decide)⟩, fun z hz => by cases hz⟩
theorem nw_426 : Cond.code ⟨"NoteSheet$Cell", "givenDurability", "()I"⟩ prog_2_method_3_code 1 (some .int) ∈ ns_Tb := ns_in 426 (by decide +kernel) (by decide +kernel)
theorem nw_424 : Cond.instanceMethod ⟨"NoteSheet$Cell", "givenDurability", "()I"⟩ ∈ ns_Tb := ns_in 424 (by decide +kernel) (by decide +kernel)
theorem nw_425 : Cond.selects "NoteSheet$Cell" ⟨"NoteSheet$Cell", "givenDurability", "()I"⟩ ⟨"NoteSheet$Cell", "givenDurability", "()I"⟩ ∈ ns_Tb := ns_in 425 (by decide +kernel) (by decide +kernel)
theorem nwd_75 : (ns_nm 75).cls ≠ "java/lang/invoke/MethodHandle" ∧ (ns_nm 75).cls ≠ "java/lang/invoke/VarHandle" ∧ (parseMethodDescriptor (ns_nm 75).desc).map (fun d => d.parameters.length) = some 0 := ⟨by decide +kernel, by decide +kernel, by decide +kernel⟩
theorem nw_423 : Cond.methodLink "NoteSheet" 122 ⟨"NoteSheet$Cell", "givenDurability", "()I"⟩ ∈ ns_Tb := ns_in 423 (by decide +kernel) (by decide +kernel)
theorem ns_eC17 : ns_pC ((0, 122), (.inl 75, 0, 0, 0, 1, 1)) := ⟨fun y hy => by cases hy; exact ⟨ns_I_C_givenDurability, rfl, rfl, rfl, rfl, rfl, nw_426, nw_3, nw_423, nwd_75, fun h => absurd h (by decide), fun _ => ⟨nw_424, nw_425⟩, fun h => absurd h (by decide)⟩, fun z hz => by cases hz⟩
theorem nw_471 : Cond.code ⟨"NoteSheet", "valuesInNotes", "()I"⟩ prog_1_method_28_code 3 (some .int) ∈ ns_Tb := ns_in 471 (by decide +kernel) (by decide +kernel)
theorem nw_470 : Cond.instanceMethod ⟨"NoteSheet", "valuesInNotes", "()I"⟩ ∈ ns_Tb := ns_in 470 (by decide +kernel) (by decide +kernel)
theorem nws_27 : Cond.selects "NoteSheet" ⟨"NoteSheet", "valuesInNotes", "()I"⟩ ⟨"NoteSheet", "valuesInNotes", "()I"⟩ ∈ ns_Tb := ns_inS (y := ⟨"NoteSheet", "valuesInNotes", "()I"⟩) (n := 8) 23 (by decide +kernel) (by decide +kernel)
theorem nwd_27 : (ns_nm 27).cls ≠ "java/lang/invoke/MethodHandle" ∧ (ns_nm 27).cls ≠ "java/lang/invoke/VarHandle" ∧ (parseMethodDescriptor (ns_nm 27).desc).map (fun d => d.parameters.length) = some 0 := ⟨by decide +kernel, by decide +kernel, by decide +kernel⟩
theorem nw_468 : Cond.methodLink "NoteSheet" 134 ⟨"NoteSheet", "valuesInNotes", "()I"⟩ ∈ ns_Tb := ns_in 468 (by decide +kernel) (by decide +kernel)
theorem ns_eC18 : ns_pC ((0, 134), (.inl 27, 0, 0, 0, 0, 1)) := ⟨fun y hy => by cases hy; exact ⟨ns_I_N_valuesInNotes, rfl, rfl, rfl, rfl, rfl, nw_471, nw_1, nw_468, nwd_27, fun h => absurd h (by decide), fun _ => ⟨nw_470, nws_27⟩, fun h => absurd h (by decide)⟩, fun z hz => by cases hz⟩
theorem nw_351 : Cond.code ⟨"NoteSheet$Formula", "hasTextOf", "(LNoteSheet$Formula;)Z"⟩ prog_3_method_10_code 3 (some .boolean) ∈ ns_Tb := ns_in 351 (by decide +kernel) (by decide +kernel)
theorem nw_349 : Cond.instanceMethod ⟨"NoteSheet$Formula", "hasTextOf", "(LNoteSheet$Formula;)Z"⟩ ∈ ns_Tb := ns_in 349 (by decide +kernel) (by decide +kernel)
theorem nw_350 : Cond.selects "NoteSheet$Formula" ⟨"NoteSheet$Formula", "hasTextOf", "(LNoteSheet$Formula;)Z"⟩ ⟨"NoteSheet$Formula", "hasTextOf", "(LNoteSheet$Formula;)Z"⟩ ∈ ns_Tb := ns_in 350 (by decide +kernel) (by decide +kernel)
theorem nwd_86 : (ns_nm 86).cls ≠ "java/lang/invoke/MethodHandle" ∧ (ns_nm 86).cls ≠ "java/lang/invoke/VarHandle" ∧ (parseMethodDescriptor (ns_nm 86).desc).map (fun d => d.parameters.length) = some 1 := ⟨by decide +kernel, by decide +kernel, by decide +kernel⟩
theorem nw_348 : Cond.methodLink "NoteSheet" 140 ⟨"NoteSheet$Formula", "hasTextOf", "(LNoteSheet$Formula;)Z"⟩ ∈ ns_Tb := ns_in 348 (by decide +kernel) (by decide +kernel)
theorem ns_eC19 : ns_pC ((0, 140), (.inl 86, 1, 0, 0, 2, 1)) := ⟨fun y hy => by cases hy; exact ⟨ns_I_F_hasTextOf, rfl, rfl, rfl, rfl, rfl, nw_351, nw_4, nw_348, nwd_86, fun h => absurd h (by decide), fun _ => ⟨nw_349, nw_350⟩, fun h => absurd h (by decide)⟩, fun z hz => by cases hz⟩
theorem nw_355 : Cond.code ⟨"NoteSheet$Cell", "ownDurability", "()I"⟩ prog_2_method_2_code 1 (some .int) ∈ ns_Tb := ns_in 355 (by decide +kernel) (by decide +kernel)
theorem nw_353 : Cond.instanceMethod ⟨"NoteSheet$Cell", "ownDurability", "()I"⟩ ∈ ns_Tb := ns_in 353 (by decide +kernel) (by decide +kernel)
theorem nw_354 : Cond.selects "NoteSheet$Cell" ⟨"NoteSheet$Cell", "ownDurability", "()I"⟩ ⟨"NoteSheet$Cell", "ownDurability", "()I"⟩ ∈ ns_Tb := ns_in 354 (by decide +kernel) (by decide +kernel)
theorem nwd_74 : (ns_nm 74).cls ≠ "java/lang/invoke/MethodHandle" ∧ (ns_nm 74).cls ≠ "java/lang/invoke/VarHandle" ∧ (parseMethodDescriptor (ns_nm 74).desc).map (fun d => d.parameters.length) = some 0 := ⟨by decide +kernel, by decide +kernel, by decide +kernel⟩
theorem nw_352 : Cond.methodLink "NoteSheet" 144 ⟨"NoteSheet$Cell", "ownDurability", "()I"⟩ ∈ ns_Tb := ns_in 352 (by decide +kernel) (by decide +kernel)
theorem ns_eC20 : ns_pC ((0, 144), (.inl 74, 0, 0, 0, 1, 1)) := ⟨fun y hy => by cases hy; exact ⟨ns_I_C_ownDurability, rfl, rfl, rfl, rfl, rfl, nw_355, nw_3, nw_352, nwd_74, fun h => absurd h (by decide), fun _ => ⟨nw_353, nw_354⟩, fun h => absurd h (by decide)⟩, fun z hz => by cases hz⟩
theorem nw_359 : Cond.code ⟨"NoteSheet", "startRevision", "(I)V"⟩ prog_1_method_15_code 3 (none) ∈ ns_Tb := ns_in 359 (by decide +kernel) (by decide +kernel)
theorem nw_358 : Cond.instanceMethod ⟨"NoteSheet", "startRevision", "(I)V"⟩ ∈ ns_Tb := ns_in 358 (by decide +kernel) (by decide +kernel)
theorem nws_14 : Cond.selects "NoteSheet" ⟨"NoteSheet", "startRevision", "(I)V"⟩ ⟨"NoteSheet", "startRevision", "(I)V"⟩ ∈ ns_Tb := ns_inS (y := ⟨"NoteSheet", "startRevision", "(I)V"⟩) (n := 8) 9 (by decide +kernel) (by decide +kernel)
theorem nwd_14 : (ns_nm 14).cls ≠ "java/lang/invoke/MethodHandle" ∧ (ns_nm 14).cls ≠ "java/lang/invoke/VarHandle" ∧ (parseMethodDescriptor (ns_nm 14).desc).map (fun d => d.parameters.length) = some 1 := ⟨by decide +kernel, by decide +kernel, by decide +kernel⟩
theorem nw_356 : Cond.methodLink "NoteSheet" 147 ⟨"NoteSheet", "startRevision", "(I)V"⟩ ∈ ns_Tb := ns_in 356 (by decide +kernel) (by decide +kernel)
theorem ns_eC21 : ns_pC ((0, 147), (.inl 14, 1, 0, 0, 0, 1)) := ⟨fun y hy => by cases hy; exact ⟨ns_I_N_startRevision, rfl, rfl, rfl, rfl, rfl, nw_359, nw_1, nw_356, nwd_14, fun h => absurd h (by decide), fun _ => ⟨nw_358, nws_14⟩, fun h => absurd h (by decide)⟩, fun z hz => by cases hz⟩
theorem nw_363 : Cond.code ⟨"NoteSheet$Formula", "copyFrom", "(LNoteSheet$Formula;)V"⟩ prog_3_method_11_code 2 (none) ∈ ns_Tb := ns_in 363 (by decide +kernel) (by decide +kernel)
theorem nw_361 : Cond.instanceMethod ⟨"NoteSheet$Formula", "copyFrom", "(LNoteSheet$Formula;)V"⟩ ∈ ns_Tb := ns_in 361 (by decide +kernel) (by decide +kernel)
theorem nw_362 : Cond.selects "NoteSheet$Formula" ⟨"NoteSheet$Formula", "copyFrom", "(LNoteSheet$Formula;)V"⟩ ⟨"NoteSheet$Formula", "copyFrom", "(LNoteSheet$Formula;)V"⟩ ∈ ns_Tb := ns_in 362 (by decide +kernel) (by decide +kernel)
theorem nwd_87 : (ns_nm 87).cls ≠ "java/lang/invoke/MethodHandle" ∧ (ns_nm 87).cls ≠ "java/lang/invoke/VarHandle" ∧ (parseMethodDescriptor (ns_nm 87).desc).map (fun d => d.parameters.length) = some 1 := ⟨by decide +kernel, by decide +kernel, by decide +kernel⟩
theorem nw_360 : Cond.methodLink "NoteSheet" 151 ⟨"NoteSheet$Formula", "copyFrom", "(LNoteSheet$Formula;)V"⟩ ∈ ns_Tb := ns_in 360 (by decide +kernel) (by decide +kernel)
theorem ns_eC22 : ns_pC ((0, 151), (.inl 87, 1, 0, 0, 2, 1)) := ⟨fun y hy => by cases hy; exact ⟨ns_I_F_copyFrom, rfl, rfl, rfl, rfl, rfl, nw_363, nw_4, nw_360, nwd_87, fun h => absurd h (by decide), fun _ => ⟨nw_361, nw_362⟩, fun h => absurd h (by decide)⟩, fun z hz => by cases hz⟩
theorem nw_381 : Cond.code ⟨"NoteSheet$Note", "clear", "()V"⟩ prog_4_method_2_code 1 (none) ∈ ns_Tb := ns_in 381 (by decide +kernel) (by decide +kernel)
theorem nw_5 : Cond.initialized "NoteSheet$Note" ∈ ns_Tb := ns_in 5 (by decide +kernel) (by decide +kernel)
theorem nw_379 : Cond.instanceMethod ⟨"NoteSheet$Note", "clear", "()V"⟩ ∈ ns_Tb := ns_in 379 (by decide +kernel) (by decide +kernel)
theorem nw_380 : Cond.selects "NoteSheet$Note" ⟨"NoteSheet$Note", "clear", "()V"⟩ ⟨"NoteSheet$Note", "clear", "()V"⟩ ∈ ns_Tb := ns_in 380 (by decide +kernel) (by decide +kernel)
theorem nwd_89 : (ns_nm 89).cls ≠ "java/lang/invoke/MethodHandle" ∧ (ns_nm 89).cls ≠ "java/lang/invoke/VarHandle" ∧ (parseMethodDescriptor (ns_nm 89).desc).map (fun d => d.parameters.length) = some 0 := ⟨by decide +kernel, by decide +kernel, by decide +kernel⟩
theorem nw_378 : Cond.methodLink "NoteSheet" 160 ⟨"NoteSheet$Note", "clear", "()V"⟩ ∈ ns_Tb := ns_in 378 (by decide +kernel) (by decide +kernel)
theorem ns_eC23 : ns_pC ((0, 160), (.inl 89, 0, 0, 0, 3, 1)) := ⟨fun y hy => by cases hy; exact ⟨ns_I_O_clear, rfl, rfl, rfl, rfl, rfl, nw_381, nw_5, nw_378, nwd_89, fun h => absurd h (by decide), fun _ => ⟨nw_379, nw_380⟩, fun h => absurd h (by decide)⟩, fun z hz => by cases hz⟩
theorem nw_394 : Cond.code ⟨"NoteSheet", "bringUpToDate", "(LNoteSheet$Cell;)V"⟩ prog_1_method_17_code 2 (none) ∈ ns_Tb := ns_in 394 (by decide +kernel) (by decide +kernel)
theorem nw_393 : Cond.instanceMethod ⟨"NoteSheet", "bringUpToDate", "(LNoteSheet$Cell;)V"⟩ ∈ ns_Tb := ns_in 393 (by decide +kernel) (by decide +kernel)
theorem nws_16 : Cond.selects "NoteSheet" ⟨"NoteSheet", "bringUpToDate", "(LNoteSheet$Cell;)V"⟩ ⟨"NoteSheet", "bringUpToDate", "(LNoteSheet$Cell;)V"⟩ ∈ ns_Tb := ns_inS (y := ⟨"NoteSheet", "bringUpToDate", "(LNoteSheet$Cell;)V"⟩) (n := 8) 12 (by decide +kernel) (by decide +kernel)
theorem nwd_16 : (ns_nm 16).cls ≠ "java/lang/invoke/MethodHandle" ∧ (ns_nm 16).cls ≠ "java/lang/invoke/VarHandle" ∧ (parseMethodDescriptor (ns_nm 16).desc).map (fun d => d.parameters.length) = some 1 := ⟨by decide +kernel, by decide +kernel, by decide +kernel⟩
theorem nw_391 : Cond.methodLink "NoteSheet" 163 ⟨"NoteSheet", "bringUpToDate", "(LNoteSheet$Cell;)V"⟩ ∈ ns_Tb := ns_in 391 (by decide +kernel) (by decide +kernel)
theorem ns_eC24 : ns_pC ((0, 163), (.inl 16, 1, 0, 0, 0, 1)) := ⟨fun y hy => by cases hy; exact ⟨ns_I_N_bringUpToDate, rfl, rfl, rfl, rfl, rfl, nw_394, nw_1, nw_391, nwd_16, fun h => absurd h (by decide), fun _ => ⟨nw_393, nws_16⟩, fun h => absurd h (by decide)⟩, fun z hz => by cases hz⟩
theorem nw_430 : Cond.code ⟨"NoteSheet", "workOut", "(LNoteSheet$Cell;)V"⟩ prog_1_method_21_code 4 (none) ∈ ns_Tb := ns_in 430 (by decide +kernel) (by decide +kernel)
theorem nw_429 : Cond.instanceMethod ⟨"NoteSheet", "workOut", "(LNoteSheet$Cell;)V"⟩ ∈ ns_Tb := ns_in 429 (by decide +kernel) (by decide +kernel)
theorem nws_20 : Cond.selects "NoteSheet" ⟨"NoteSheet", "workOut", "(LNoteSheet$Cell;)V"⟩ ⟨"NoteSheet", "workOut", "(LNoteSheet$Cell;)V"⟩ ∈ ns_Tb := ns_inS (y := ⟨"NoteSheet", "workOut", "(LNoteSheet$Cell;)V"⟩) (n := 8) 18 (by decide +kernel) (by decide +kernel)
theorem nwd_20 : (ns_nm 20).cls ≠ "java/lang/invoke/MethodHandle" ∧ (ns_nm 20).cls ≠ "java/lang/invoke/VarHandle" ∧ (parseMethodDescriptor (ns_nm 20).desc).map (fun d => d.parameters.length) = some 1 := ⟨by decide +kernel, by decide +kernel, by decide +kernel⟩
theorem nw_427 : Cond.methodLink "NoteSheet" 166 ⟨"NoteSheet", "workOut", "(LNoteSheet$Cell;)V"⟩ ∈ ns_Tb := ns_in 427 (by decide +kernel) (by decide +kernel)
theorem ns_eC25 : ns_pC ((0, 166), (.inl 20, 1, 0, 0, 0, 1)) := ⟨fun y hy => by cases hy; exact ⟨ns_I_N_workOut, rfl, rfl, rfl, rfl, rfl, nw_430, nw_1, nw_427, nwd_20, fun h => absurd h (by decide), fun _ => ⟨nw_429, nws_20⟩, fun h => absurd h (by decide)⟩, fun z hz => by cases hz⟩
theorem nw_463 : Cond.code ⟨"NoteSheet", "markUsed", "(LNoteSheet$Cell;)V"⟩ prog_1_method_26_code 2 (none) ∈ ns_Tb := ns_in 463 (by decide +kernel) (by decide +kernel)
theorem nw_462 : Cond.instanceMethod ⟨"NoteSheet", "markUsed", "(LNoteSheet$Cell;)V"⟩ ∈ ns_Tb := ns_in 462 (by decide +kernel) (by decide +kernel)
theorem nws_25 : Cond.selects "NoteSheet" ⟨"NoteSheet", "markUsed", "(LNoteSheet$Cell;)V"⟩ ⟨"NoteSheet", "markUsed", "(LNoteSheet$Cell;)V"⟩ ∈ ns_Tb := ns_inS (y := ⟨"NoteSheet", "markUsed", "(LNoteSheet$Cell;)V"⟩) (n := 8) 21 (by decide +kernel) (by decide +kernel)
theorem nwd_25 : (ns_nm 25).cls ≠ "java/lang/invoke/MethodHandle" ∧ (ns_nm 25).cls ≠ "java/lang/invoke/VarHandle" ∧ (parseMethodDescriptor (ns_nm 25).desc).map (fun d => d.parameters.length) = some 1 := ⟨by decide +kernel, by decide +kernel, by decide +kernel⟩
theorem nw_460 : Cond.methodLink "NoteSheet" 169 ⟨"NoteSheet", "markUsed", "(LNoteSheet$Cell;)V"⟩ ∈ ns_Tb := ns_in 460 (by decide +kernel) (by decide +kernel)
theorem ns_eC26 : ns_pC ((0, 169), (.inl 25, 1, 0, 0, 0, 1)) := ⟨fun y hy => by cases hy; exact ⟨ns_I_N_markUsed, rfl, rfl, rfl, rfl, rfl, nw_463, nw_1, nw_460, nwd_25, fun h => absurd h (by decide), fun _ => ⟨nw_462, nws_25⟩, fun h => absurd h (by decide)⟩, fun z hz => by cases hz⟩
theorem nw_398 : Cond.code ⟨"NoteSheet$Note", "isVerifiedIn", "(I)Z"⟩ prog_4_method_3_code 2 (some .boolean) ∈ ns_Tb := ns_in 398 (by decide +kernel) (by decide +kernel)
theorem nw_396 : Cond.instanceMethod ⟨"NoteSheet$Note", "isVerifiedIn", "(I)Z"⟩ ∈ ns_Tb := ns_in 396 (by decide +kernel) (by decide +kernel)
theorem nw_397 : Cond.selects "NoteSheet$Note" ⟨"NoteSheet$Note", "isVerifiedIn", "(I)Z"⟩ ⟨"NoteSheet$Note", "isVerifiedIn", "(I)Z"⟩ ∈ ns_Tb := ns_in 397 (by decide +kernel) (by decide +kernel)
theorem nwd_90 : (ns_nm 90).cls ≠ "java/lang/invoke/MethodHandle" ∧ (ns_nm 90).cls ≠ "java/lang/invoke/VarHandle" ∧ (parseMethodDescriptor (ns_nm 90).desc).map (fun d => d.parameters.length) = some 1 := ⟨by decide +kernel, by decide +kernel, by decide +kernel⟩
theorem nw_395 : Cond.methodLink "NoteSheet" 179 ⟨"NoteSheet$Note", "isVerifiedIn", "(I)Z"⟩ ∈ ns_Tb := ns_in 395 (by decide +kernel) (by decide +kernel)
theorem ns_eC27 : ns_pC ((0, 179), (.inl 90, 1, 0, 0, 3, 1)) := ⟨fun y hy => by cases hy; exact ⟨ns_I_O_isVerifiedIn, rfl, rfl, rfl, rfl, rfl, nw_398, nw_5, nw_395, nwd_90, fun h => absurd h (by decide), fun _ => ⟨nw_396, nw_397⟩, fun h => absurd h (by decide)⟩, fun z hz => by cases hz⟩
theorem nw_402 : Cond.code ⟨"NoteSheet", "passes", "(LNoteSheet$Note;)Z"⟩ prog_1_method_18_code 2 (some .boolean) ∈ ns_Tb := ns_in 402 (by decide +kernel) (by decide +kernel)
theorem nw_401 : Cond.instanceMethod ⟨"NoteSheet", "passes", "(LNoteSheet$Note;)Z"⟩ ∈ ns_Tb := ns_in 401 (by decide +kernel) (by decide +kernel)
theorem nws_17 : Cond.selects "NoteSheet" ⟨"NoteSheet", "passes", "(LNoteSheet$Note;)Z"⟩ ⟨"NoteSheet", "passes", "(LNoteSheet$Note;)Z"⟩ ∈ ns_Tb := ns_inS (y := ⟨"NoteSheet", "passes", "(LNoteSheet$Note;)Z"⟩) (n := 8) 13 (by decide +kernel) (by decide +kernel)
theorem nwd_17 : (ns_nm 17).cls ≠ "java/lang/invoke/MethodHandle" ∧ (ns_nm 17).cls ≠ "java/lang/invoke/VarHandle" ∧ (parseMethodDescriptor (ns_nm 17).desc).map (fun d => d.parameters.length) = some 1 := ⟨by decide +kernel, by decide +kernel, by decide +kernel⟩
theorem nw_399 : Cond.methodLink "NoteSheet" 182 ⟨"NoteSheet", "passes", "(LNoteSheet$Note;)Z"⟩ ∈ ns_Tb := ns_in 399 (by decide +kernel) (by decide +kernel)
theorem ns_eC28 : ns_pC ((0, 182), (.inl 17, 1, 0, 0, 0, 1)) := ⟨fun y hy => by cases hy; exact ⟨ns_I_N_passes, rfl, rfl, rfl, rfl, rfl, nw_402, nw_1, nw_399, nwd_17, fun h => absurd h (by decide), fun _ => ⟨nw_401, nws_17⟩, fun h => absurd h (by decide)⟩, fun z hz => by cases hz⟩
theorem nw_406 : Cond.code ⟨"NoteSheet", "verify", "(LNoteSheet$Cell;I)V"⟩ prog_1_method_20_code 3 (none) ∈ ns_Tb := ns_in 406 (by decide +kernel) (by decide +kernel)
theorem nw_405 : Cond.instanceMethod ⟨"NoteSheet", "verify", "(LNoteSheet$Cell;I)V"⟩ ∈ ns_Tb := ns_in 405 (by decide +kernel) (by decide +kernel)
theorem nws_19 : Cond.selects "NoteSheet" ⟨"NoteSheet", "verify", "(LNoteSheet$Cell;I)V"⟩ ⟨"NoteSheet", "verify", "(LNoteSheet$Cell;I)V"⟩ ∈ ns_Tb := ns_inS (y := ⟨"NoteSheet", "verify", "(LNoteSheet$Cell;I)V"⟩) (n := 8) 14 (by decide +kernel) (by decide +kernel)
theorem nwd_19 : (ns_nm 19).cls ≠ "java/lang/invoke/MethodHandle" ∧ (ns_nm 19).cls ≠ "java/lang/invoke/VarHandle" ∧ (parseMethodDescriptor (ns_nm 19).desc).map (fun d => d.parameters.length) = some 2 := ⟨by decide +kernel, by decide +kernel, by decide +kernel⟩
theorem nw_403 : Cond.methodLink "NoteSheet" 186 ⟨"NoteSheet", "verify", "(LNoteSheet$Cell;I)V"⟩ ∈ ns_Tb := ns_in 403 (by decide +kernel) (by decide +kernel)
theorem ns_eC29 : ns_pC ((0, 186), (.inl 19, 2, 0, 0, 0, 1)) := ⟨fun y hy => by cases hy; exact ⟨ns_I_N_verify, rfl, rfl, rfl, rfl, rfl, nw_406, nw_1, nw_403, nwd_19, fun h => absurd h (by decide), fun _ => ⟨nw_405, nws_19⟩, fun h => absurd h (by decide)⟩, fun z hz => by cases hz⟩
theorem nw_414 : Cond.code ⟨"NoteSheet", "readsAreUnchanged", "(LNoteSheet$Cell;)Z"⟩ prog_1_method_19_code 5 (some .boolean) ∈ ns_Tb := ns_in 414 (by decide +kernel) (by decide +kernel)
theorem nw_413 : Cond.instanceMethod ⟨"NoteSheet", "readsAreUnchanged", "(LNoteSheet$Cell;)Z"⟩ ∈ ns_Tb := ns_in 413 (by decide +kernel) (by decide +kernel)
theorem nws_18 : Cond.selects "NoteSheet" ⟨"NoteSheet", "readsAreUnchanged", "(LNoteSheet$Cell;)Z"⟩ ⟨"NoteSheet", "readsAreUnchanged", "(LNoteSheet$Cell;)Z"⟩ ∈ ns_Tb := ns_inS (y := ⟨"NoteSheet", "readsAreUnchanged", "(LNoteSheet$Cell;)Z"⟩) (n := 8) 16 (by decide +kernel) (by decide +kernel)
theorem nwd_18 : (ns_nm 18).cls ≠ "java/lang/invoke/MethodHandle" ∧ (ns_nm 18).cls ≠ "java/lang/invoke/VarHandle" ∧ (parseMethodDescriptor (ns_nm 18).desc).map (fun d => d.parameters.length) = some 1 := ⟨by decide +kernel, by decide +kernel, by decide +kernel⟩
theorem nw_411 : Cond.methodLink "NoteSheet" 190 ⟨"NoteSheet", "readsAreUnchanged", "(LNoteSheet$Cell;)Z"⟩ ∈ ns_Tb := ns_in 411 (by decide +kernel) (by decide +kernel)
theorem ns_eC30 : ns_pC ((0, 190), (.inl 18, 1, 0, 0, 0, 1)) := ⟨fun y hy => by cases hy; exact ⟨ns_I_N_readsAreUnchanged, rfl, rfl, rfl, rfl, rfl, nw_414, nw_1, nw_411, nwd_18, fun h => absurd h (by decide), fun _ => ⟨nw_413, nws_18⟩, fun h => absurd h (by decide)⟩, fun z hz => by cases hz⟩
theorem nw_422 : Cond.code ⟨"NoteSheet", "leastDurability", "(LNoteSheet$Note;)I"⟩ prog_1_method_22_code 5 (some .int) ∈ ns_Tb := ns_in 422 (by decide +kernel) (by decide +kernel)
theorem nw_421 : Cond.instanceMethod ⟨"NoteSheet", "leastDurability", "(LNoteSheet$Note;)I"⟩ ∈ ns_Tb := ns_in 421 (by decide +kernel) (by decide +kernel)
theorem nws_21 : Cond.selects "NoteSheet" ⟨"NoteSheet", "leastDurability", "(LNoteSheet$Note;)I"⟩ ⟨"NoteSheet", "leastDurability", "(LNoteSheet$Note;)I"⟩ ∈ ns_Tb := ns_inS (y := ⟨"NoteSheet", "leastDurability", "(LNoteSheet$Note;)I"⟩) (n := 8) 17 (by decide +kernel) (by decide +kernel)
theorem nwd_21 : (ns_nm 21).cls ≠ "java/lang/invoke/MethodHandle" ∧ (ns_nm 21).cls ≠ "java/lang/invoke/VarHandle" ∧ (parseMethodDescriptor (ns_nm 21).desc).map (fun d => d.parameters.length) = some 1 := ⟨by decide +kernel, by decide +kernel, by decide +kernel⟩
theorem nw_419 : Cond.methodLink "NoteSheet" 194 ⟨"NoteSheet", "leastDurability", "(LNoteSheet$Note;)I"⟩ ∈ ns_Tb := ns_in 419 (by decide +kernel) (by decide +kernel)
theorem ns_eC31 : ns_pC ((0, 194), (.inl 21, 1, 0, 0, 0, 1)) := ⟨fun y hy => by cases hy; exact ⟨ns_I_N_leastDurability, rfl, rfl, rfl, rfl, rfl, nw_422, nw_1, nw_419, nwd_21, fun h => absurd h (by decide), fun _ => ⟨nw_421, nws_21⟩, fun h => absurd h (by decide)⟩, fun z hz => by cases hz⟩
theorem nw_410 : Cond.code ⟨"NoteSheet", "tally", "(LNoteSheet$Cell;I)V"⟩ prog_1_method_27_code 3 (none) ∈ ns_Tb := ns_in 410 (by decide +kernel) (by decide +kernel)
theorem nw_409 : Cond.instanceMethod ⟨"NoteSheet", "tally", "(LNoteSheet$Cell;I)V"⟩ ∈ ns_Tb := ns_in 409 (by decide +kernel) (by decide +kernel)
theorem nws_26 : Cond.selects "NoteSheet" ⟨"NoteSheet", "tally", "(LNoteSheet$Cell;I)V"⟩ ⟨"NoteSheet", "tally", "(LNoteSheet$Cell;I)V"⟩ ∈ ns_Tb := ns_inS (y := ⟨"NoteSheet", "tally", "(LNoteSheet$Cell;I)V"⟩) (n := 8) 15 (by decide +kernel) (by decide +kernel)
theorem nwd_26 : (ns_nm 26).cls ≠ "java/lang/invoke/MethodHandle" ∧ (ns_nm 26).cls ≠ "java/lang/invoke/VarHandle" ∧ (parseMethodDescriptor (ns_nm 26).desc).map (fun d => d.parameters.length) = some 2 := ⟨by decide +kernel, by decide +kernel, by decide +kernel⟩
theorem nw_407 : Cond.methodLink "NoteSheet" 202 ⟨"NoteSheet", "tally", "(LNoteSheet$Cell;I)V"⟩ ∈ ns_Tb := ns_in 407 (by decide +kernel) (by decide +kernel)
theorem ns_eC32 : ns_pC ((0, 202), (.inl 26, 2, 0, 0, 0, 1)) := ⟨fun y hy => by cases hy; exact ⟨ns_I_N_tally, rfl, rfl, rfl, rfl, rfl, nw_410, nw_1, nw_407, nwd_26, fun h => absurd h (by decide), fun _ => ⟨nw_409, nws_26⟩, fun h => absurd h (by decide)⟩, fun z hz => by cases hz⟩
theorem nw_434 : Cond.code ⟨"NoteSheet", "evaluate", "(LNoteSheet$Cell;)J"⟩ prog_1_method_23_code 12 (some .long) ∈ ns_Tb := ns_in 434 (by decide +kernel) (by decide +kernel)
theorem nw_433 : Cond.instanceMethod ⟨"NoteSheet", "evaluate", "(LNoteSheet$Cell;)J"⟩ ∈ ns_Tb := ns_in 433 (by decide +kernel) (by decide +kernel)
theorem nws_22 : Cond.selects "NoteSheet" ⟨"NoteSheet", "evaluate", "(LNoteSheet$Cell;)J"⟩ ⟨"NoteSheet", "evaluate", "(LNoteSheet$Cell;)J"⟩ ∈ ns_Tb := ns_inS (y := ⟨"NoteSheet", "evaluate", "(LNoteSheet$Cell;)J"⟩) (n := 8) 19 (by decide +kernel) (by decide +kernel)
theorem nwd_22 : (ns_nm 22).cls ≠ "java/lang/invoke/MethodHandle" ∧ (ns_nm 22).cls ≠ "java/lang/invoke/VarHandle" ∧ (parseMethodDescriptor (ns_nm 22).desc).map (fun d => d.parameters.length) = some 1 := ⟨by decide +kernel, by decide +kernel, by decide +kernel⟩
theorem nw_431 : Cond.methodLink "NoteSheet" 204 ⟨"NoteSheet", "evaluate", "(LNoteSheet$Cell;)J"⟩ ∈ ns_Tb := ns_in 431 (by decide +kernel) (by decide +kernel)
theorem ns_eC33 : ns_pC ((0, 204), (.inl 22, 1, 0, 0, 0, 1)) := ⟨fun y hy => by cases hy; exact ⟨ns_I_N_evaluate, rfl, rfl, rfl, rfl, rfl, nw_434, nw_1, nw_431, nwd_22, fun h => absurd h (by decide), fun _ => ⟨nw_433, nws_22⟩, fun h => absurd h (by decide)⟩, fun z hz => by cases hz⟩
theorem nw_458 : Cond.code ⟨"NoteSheet$Note", "keepValue", "(JI)V"⟩ prog_4_method_4_code 5 (none) ∈ ns_Tb := ns_in 458 (by decide +kernel) (by decide +kernel)
theorem nw_456 : Cond.instanceMethod ⟨"NoteSheet$Note", "keepValue", "(JI)V"⟩ ∈ ns_Tb := ns_in 456 (by decide +kernel) (by decide +kernel)
theorem nw_457 : Cond.selects "NoteSheet$Note" ⟨"NoteSheet$Note", "keepValue", "(JI)V"⟩ ⟨"NoteSheet$Note", "keepValue", "(JI)V"⟩ ∈ ns_Tb := ns_in 457 (by decide +kernel) (by decide +kernel)
theorem nwd_91 : (ns_nm 91).cls ≠ "java/lang/invoke/MethodHandle" ∧ (ns_nm 91).cls ≠ "java/lang/invoke/VarHandle" ∧ (parseMethodDescriptor (ns_nm 91).desc).map (fun d => d.parameters.length) = some 2 := ⟨by decide +kernel, by decide +kernel, by decide +kernel⟩
theorem nw_455 : Cond.methodLink "NoteSheet" 207 ⟨"NoteSheet$Note", "keepValue", "(JI)V"⟩ ∈ ns_Tb := ns_in 455 (by decide +kernel) (by decide +kernel)
theorem ns_eC34 : ns_pC ((0, 207), (.inl 91, 2, 0, 0, 3, 1)) := ⟨fun y hy => by cases hy; exact ⟨ns_I_O_keepValue, rfl, rfl, rfl, rfl, rfl, nw_458, nw_5, nw_455, nwd_91, fun h => absurd h (by decide), fun _ => ⟨nw_456, nw_457⟩, fun h => absurd h (by decide)⟩, fun z hz => by cases hz⟩
theorem nw_438 : Cond.code ⟨"NoteSheet$Formula", "operandAt", "(I)I"⟩ prog_3_method_9_code 2 (some .int) ∈ ns_Tb := ns_in 438 (by decide +kernel) (by decide +kernel)
theorem nw_436 : Cond.instanceMethod ⟨"NoteSheet$Formula", "operandAt", "(I)I"⟩ ∈ ns_Tb := ns_in 436 (by decide +kernel) (by decide +kernel)
theorem nw_437 : Cond.selects "NoteSheet$Formula" ⟨"NoteSheet$Formula", "operandAt", "(I)I"⟩ ⟨"NoteSheet$Formula", "operandAt", "(I)I"⟩ ∈ ns_Tb := ns_in 437 (by decide +kernel) (by decide +kernel)
theorem nwd_85 : (ns_nm 85).cls ≠ "java/lang/invoke/MethodHandle" ∧ (ns_nm 85).cls ≠ "java/lang/invoke/VarHandle" ∧ (parseMethodDescriptor (ns_nm 85).desc).map (fun d => d.parameters.length) = some 1 := ⟨by decide +kernel, by decide +kernel, by decide +kernel⟩
theorem nw_435 : Cond.methodLink "NoteSheet" 217 ⟨"NoteSheet$Formula", "operandAt", "(I)I"⟩ ∈ ns_Tb := ns_in 435 (by decide +kernel) (by decide +kernel)
theorem ns_eC35 : ns_pC ((0, 217), (.inl 85, 1, 0, 0, 2, 1)) := ⟨fun y hy => by cases hy; exact ⟨ns_I_F_operandAt, rfl, rfl, rfl, rfl, rfl, nw_438, nw_4, nw_435, nwd_85, fun h => absurd h (by decide), fun _ => ⟨nw_436, nw_437⟩, fun h => absurd h (by decide)⟩, fun z hz => by cases hz⟩
theorem nw_339 : Cond.code ⟨"NoteSheet$Formula", "stepAt", "(I)I"⟩ prog_3_method_8_code 2 (some .int) ∈ ns_Tb := ns_in 339 (by decide +kernel) (by decide +kernel)
theorem nw_337 : Cond.instanceMethod ⟨"NoteSheet$Formula", "stepAt", "(I)I"⟩ ∈ ns_Tb := ns_in 337 (by decide +kernel) (by decide +kernel)
theorem nw_338 : Cond.selects "NoteSheet$Formula" ⟨"NoteSheet$Formula", "stepAt", "(I)I"⟩ ⟨"NoteSheet$Formula", "stepAt", "(I)I"⟩ ∈ ns_Tb := ns_in 338 (by decide +kernel) (by decide +kernel)
theorem nwd_84 : (ns_nm 84).cls ≠ "java/lang/invoke/MethodHandle" ∧ (ns_nm 84).cls ≠ "java/lang/invoke/VarHandle" ∧ (parseMethodDescriptor (ns_nm 84).desc).map (fun d => d.parameters.length) = some 1 := ⟨by decide +kernel, by decide +kernel, by decide +kernel⟩
theorem nw_439 : Cond.methodLink "NoteSheet" 221 ⟨"NoteSheet$Formula", "stepAt", "(I)I"⟩ ∈ ns_Tb := ns_in 439 (by decide +kernel) (by decide +kernel)
theorem ns_eC36 : ns_pC ((0, 221), (.inl 84, 1, 0, 0, 2, 1)) := ⟨fun y hy => by cases hy; exact ⟨ns_I_F_stepAt, rfl, rfl, rfl, rfl, rfl, nw_339, nw_4, nw_439, nwd_84, fun h => absurd h (by decide), fun _ => ⟨nw_337, nw_338⟩, fun h => absurd h (by decide)⟩, fun z hz => by cases hz⟩
theorem nw_442 : Cond.code ⟨"java/lang/Math", "floorMod", "(II)I"⟩ prog_9_method_50_code 3 (some .int) ∈ ns_Tb := ns_in 442 (by decide +kernel) (by decide +kernel)
theorem nw_441 : Cond.static ⟨"java/lang/Math", "floorMod", "(II)I"⟩ ∈ ns_Tb := ns_in 441 (by decide +kernel) (by decide +kernel)
theorem nwd_106 : (ns_nm 106).cls ≠ "java/lang/invoke/MethodHandle" ∧ (ns_nm 106).cls ≠ "java/lang/invoke/VarHandle" ∧ (parseMethodDescriptor (ns_nm 106).desc).map (fun d => d.parameters.length) = some 2 := ⟨by decide +kernel, by decide +kernel, by decide +kernel⟩
theorem nw_440 : Cond.methodLink "NoteSheet" 224 ⟨"java/lang/Math", "floorMod", "(II)I"⟩ ∈ ns_Tb := ns_in 440 (by decide +kernel) (by decide +kernel)
theorem ns_eC37 : ns_pC ((0, 224), (.inl 106, 2, 0, 0, 7, 0)) := ⟨fun y hy => by cases hy; exact ⟨ns_I_J_floorMod, rfl, rfl, rfl, rfl, rfl, nw_442, nw_2, nw_440, nwd_106, fun _ => nw_441, fun h => absurd h (by decide), fun h => absurd h (by decide)⟩, fun z hz => by cases hz⟩
theorem nw_446 : Cond.code ⟨"NoteSheet", "giveTo", "(LNoteSheet$Cell;I)J"⟩ prog_1_method_25_code 4 (some .long) ∈ ns_Tb := ns_in 446 (by decide +kernel) (by decide +kernel)
theorem nw_445 : Cond.instanceMethod ⟨"NoteSheet", "giveTo", "(LNoteSheet$Cell;I)J"⟩ ∈ ns_Tb := ns_in 445 (by decide +kernel) (by decide +kernel)
theorem nws_24 : Cond.selects "NoteSheet" ⟨"NoteSheet", "giveTo", "(LNoteSheet$Cell;I)J"⟩ ⟨"NoteSheet", "giveTo", "(LNoteSheet$Cell;I)J"⟩ ∈ ns_Tb := ns_inS (y := ⟨"NoteSheet", "giveTo", "(LNoteSheet$Cell;I)J"⟩) (n := 8) 20 (by decide +kernel) (by decide +kernel)
theorem nwd_24 : (ns_nm 24).cls ≠ "java/lang/invoke/MethodHandle" ∧ (ns_nm 24).cls ≠ "java/lang/invoke/VarHandle" ∧ (parseMethodDescriptor (ns_nm 24).desc).map (fun d => d.parameters.length) = some 2 := ⟨by decide +kernel, by decide +kernel, by decide +kernel⟩
theorem nw_443 : Cond.methodLink "NoteSheet" 227 ⟨"NoteSheet", "giveTo", "(LNoteSheet$Cell;I)J"⟩ ∈ ns_Tb := ns_in 443 (by decide +kernel) (by decide +kernel)
theorem ns_eC38 : ns_pC ((0, 227), (.inl 24, 2, 0, 0, 0, 1)) := ⟨fun y hy => by cases hy; exact ⟨ns_I_N_giveTo, rfl, rfl, rfl, rfl, rfl, nw_446, nw_1, nw_443, nwd_24, fun h => absurd h (by decide), fun _ => ⟨nw_445, nws_24⟩, fun h => absurd h (by decide)⟩, fun z hz => by cases hz⟩
theorem nw_454 : Cond.code ⟨"NoteSheet", "combine", "(III)I"⟩ prog_1_method_24_code 3 (some .int) ∈ ns_Tb := ns_in 454 (by decide +kernel) (by decide +kernel)
theorem nw_453 : Cond.static ⟨"NoteSheet", "combine", "(III)I"⟩ ∈ ns_Tb := ns_in 453 (by decide +kernel) (by decide +kernel)
theorem nwd_23 : (ns_nm 23).cls ≠ "java/lang/invoke/MethodHandle" ∧ (ns_nm 23).cls ≠ "java/lang/invoke/VarHandle" ∧ (parseMethodDescriptor (ns_nm 23).desc).map (fun d => d.parameters.length) = some 3 := ⟨by decide +kernel, by decide +kernel, by decide +kernel⟩
theorem nw_452 : Cond.methodLink "NoteSheet" 233 ⟨"NoteSheet", "combine", "(III)I"⟩ ∈ ns_Tb := ns_in 452 (by decide +kernel) (by decide +kernel)
theorem ns_eC39 : ns_pC ((0, 233), (.inl 23, 3, 0, 0, 0, 0)) := ⟨fun y hy => by cases hy; exact ⟨ns_I_N_combine, rfl, rfl, rfl, rfl, rfl, nw_454, nw_1, nw_452, nwd_23, fun _ => nw_453, fun h => absurd h (by decide), fun h => absurd h (by decide)⟩, fun z hz => by cases hz⟩
theorem nw_450 : Cond.code ⟨"NoteSheet$Note", "addRead", "(I)V"⟩ prog_4_method_5_code 3 (none) ∈ ns_Tb := ns_in 450 (by decide +kernel) (by decide +kernel)
theorem nw_448 : Cond.instanceMethod ⟨"NoteSheet$Note", "addRead", "(I)V"⟩ ∈ ns_Tb := ns_in 448 (by decide +kernel) (by decide +kernel)
theorem nw_449 : Cond.selects "NoteSheet$Note" ⟨"NoteSheet$Note", "addRead", "(I)V"⟩ ⟨"NoteSheet$Note", "addRead", "(I)V"⟩ ∈ ns_Tb := ns_in 449 (by decide +kernel) (by decide +kernel)
theorem nwd_92 : (ns_nm 92).cls ≠ "java/lang/invoke/MethodHandle" ∧ (ns_nm 92).cls ≠ "java/lang/invoke/VarHandle" ∧ (parseMethodDescriptor (ns_nm 92).desc).map (fun d => d.parameters.length) = some 1 := ⟨by decide +kernel, by decide +kernel, by decide +kernel⟩
theorem nw_447 : Cond.methodLink "NoteSheet" 237 ⟨"NoteSheet$Note", "addRead", "(I)V"⟩ ∈ ns_Tb := ns_in 447 (by decide +kernel) (by decide +kernel)
theorem ns_eC40 : ns_pC ((0, 237), (.inl 92, 1, 0, 0, 3, 1)) := ⟨fun y hy => by cases hy; exact ⟨ns_I_O_addRead, rfl, rfl, rfl, rfl, rfl, nw_450, nw_5, nw_447, nwd_92, fun h => absurd h (by decide), fun _ => ⟨nw_448, nw_449⟩, fun h => absurd h (by decide)⟩, fun z hz => by cases hz⟩
theorem nw_475 : Cond.code ⟨"NoteSheet", "dropLongestUnused", "()V"⟩ prog_1_method_30_code 4 (none) ∈ ns_Tb := ns_in 475 (by decide +kernel) (by decide +kernel)
theorem nw_474 : Cond.instanceMethod ⟨"NoteSheet", "dropLongestUnused", "()V"⟩ ∈ ns_Tb := ns_in 474 (by decide +kernel) (by decide +kernel)
theorem nws_29 : Cond.selects "NoteSheet" ⟨"NoteSheet", "dropLongestUnused", "()V"⟩ ⟨"NoteSheet", "dropLongestUnused", "()V"⟩ ∈ ns_Tb := ns_inS (y := ⟨"NoteSheet", "dropLongestUnused", "()V"⟩) (n := 8) 24 (by decide +kernel) (by decide +kernel)
theorem nwd_29 : (ns_nm 29).cls ≠ "java/lang/invoke/MethodHandle" ∧ (ns_nm 29).cls ≠ "java/lang/invoke/VarHandle" ∧ (parseMethodDescriptor (ns_nm 29).desc).map (fun d => d.parameters.length) = some 0 := ⟨by decide +kernel, by decide +kernel, by decide +kernel⟩
theorem nw_472 : Cond.methodLink "NoteSheet" 246 ⟨"NoteSheet", "dropLongestUnused", "()V"⟩ ∈ ns_Tb := ns_in 472 (by decide +kernel) (by decide +kernel)
theorem ns_eC41 : ns_pC ((0, 246), (.inl 29, 0, 0, 0, 0, 1)) := ⟨fun y hy => by cases hy; exact ⟨ns_I_N_dropLongestUnused, rfl, rfl, rfl, rfl, rfl, nw_475, nw_1, nw_472, nwd_29, fun h => absurd h (by decide), fun _ => ⟨nw_474, nws_29⟩, fun h => absurd h (by decide)⟩, fun z hz => by cases hz⟩
theorem nw_34 : Cond.methodLink "NoteSheet$Cell" 3 Lib.objectInit ∈ ns_Tb := ns_in 34 (by decide +kernel) (by decide +kernel)
theorem ns_eC42 : ns_pC ((1, 3), (.inr 0, 0, 0, 0, 0, 2)) := ⟨fun y hy => by (cases hy), fun z hz => by cases hz; exact ⟨⟨nw_34, nw_20, nw_21⟩, by decide, by decide, by decide⟩⟩
theorem nw_37 : Cond.methodLink "NoteSheet$Cell" 11 ⟨"NoteSheet$Formula", "<init>", "()V"⟩ ∈ ns_Tb := ns_in 37 (by decide +kernel) (by decide +kernel)
theorem ns_eC43 : ns_pC ((1, 11), (.inl 77, 0, 2, 60, 2, 2)) := ⟨fun y hy => by cases hy; exact ⟨ns_I_F_init, rfl, rfl, rfl, rfl, rfl, nw_39, nw_4, nw_37, nwd_77, fun h => absurd h (by decide), fun h => absurd h (by decide), fun _ => ⟨rfl, rfl, nw_38⟩⟩, fun z hz => by cases hz⟩
theorem nw_65 : Cond.code ⟨"NoteSheet$Note", "<init>", "()V"⟩ prog_4_method_1_code 1 (none) ∈ ns_Tb := ns_in 65 (by decide +kernel) (by decide +kernel)
theorem nw_64 : Cond.instanceMethod ⟨"NoteSheet$Note", "<init>", "()V"⟩ ∈ ns_Tb := ns_in 64 (by decide +kernel) (by decide +kernel)
theorem nwd_88 : (ns_nm 88).cls ≠ "java/lang/invoke/MethodHandle" ∧ (ns_nm 88).cls ≠ "java/lang/invoke/VarHandle" ∧ (parseMethodDescriptor (ns_nm 88).desc).map (fun d => d.parameters.length) = some 0 := ⟨by decide +kernel, by decide +kernel, by decide +kernel⟩
theorem nw_63 : Cond.methodLink "NoteSheet$Cell" 20 ⟨"NoteSheet$Note", "<init>", "()V"⟩ ∈ ns_Tb := ns_in 63 (by decide +kernel) (by decide +kernel)
theorem ns_eC44 : ns_pC ((1, 20), (.inl 88, 0, 1, 12, 3, 2)) := ⟨fun y hy => by cases hy; exact ⟨ns_I_O_init, rfl, rfl, rfl, rfl, rfl, nw_65, nw_5, nw_63, nwd_88, fun h => absurd h (by decide), fun h => absurd h (by decide), fun _ => ⟨rfl, rfl, nw_64⟩⟩, fun z hz => by cases hz⟩
theorem nw_40 : Cond.methodLink "NoteSheet$Formula" 3 Lib.objectInit ∈ ns_Tb := ns_in 40 (by decide +kernel) (by decide +kernel)
theorem ns_eC45 : ns_pC ((2, 3), (.inr 0, 0, 0, 0, 0, 2)) := ⟨fun y hy => by (cases hy), fun z hz => by cases hz; exact ⟨⟨nw_40, nw_20, nw_21⟩, by decide, by decide, by decide⟩⟩
theorem nw_191 : Cond.code ⟨"NoteSheet$Formula", "isLetter", "(C)Z"⟩ prog_3_method_2_code 1 (some .boolean) ∈ ns_Tb := ns_in 191 (by decide +kernel) (by decide +kernel)
theorem nw_190 : Cond.static ⟨"NoteSheet$Formula", "isLetter", "(C)Z"⟩ ∈ ns_Tb := ns_in 190 (by decide +kernel) (by decide +kernel)
theorem nwd_78 : (ns_nm 78).cls ≠ "java/lang/invoke/MethodHandle" ∧ (ns_nm 78).cls ≠ "java/lang/invoke/VarHandle" ∧ (parseMethodDescriptor (ns_nm 78).desc).map (fun d => d.parameters.length) = some 1 := ⟨by decide +kernel, by decide +kernel, by decide +kernel⟩
theorem nw_189 : Cond.methodLink "NoteSheet$Formula" 19 ⟨"NoteSheet$Formula", "isLetter", "(C)Z"⟩ ∈ ns_Tb := ns_in 189 (by decide +kernel) (by decide +kernel)
theorem ns_eC46 : ns_pC ((2, 19), (.inl 78, 1, 0, 0, 2, 0)) := ⟨fun y hy => by cases hy; exact ⟨ns_I_F_isLetter, rfl, rfl, rfl, rfl, rfl, nw_191, nw_4, nw_189, nwd_78, fun _ => nw_190, fun h => absurd h (by decide), fun h => absurd h (by decide)⟩, fun z hz => by cases hz⟩
theorem nw_194 : Cond.code ⟨"NoteSheet$Formula", "isDigit", "(C)Z"⟩ prog_3_method_3_code 1 (some .boolean) ∈ ns_Tb := ns_in 194 (by decide +kernel) (by decide +kernel)
theorem nw_193 : Cond.static ⟨"NoteSheet$Formula", "isDigit", "(C)Z"⟩ ∈ ns_Tb := ns_in 193 (by decide +kernel) (by decide +kernel)
theorem nwd_79 : (ns_nm 79).cls ≠ "java/lang/invoke/MethodHandle" ∧ (ns_nm 79).cls ≠ "java/lang/invoke/VarHandle" ∧ (parseMethodDescriptor (ns_nm 79).desc).map (fun d => d.parameters.length) = some 1 := ⟨by decide +kernel, by decide +kernel, by decide +kernel⟩
theorem nw_192 : Cond.methodLink "NoteSheet$Formula" 23 ⟨"NoteSheet$Formula", "isDigit", "(C)Z"⟩ ∈ ns_Tb := ns_in 192 (by decide +kernel) (by decide +kernel)
theorem ns_eC47 : ns_pC ((2, 23), (.inl 79, 1, 0, 0, 2, 0)) := ⟨fun y hy => by cases hy; exact ⟨ns_I_F_isDigit, rfl, rfl, rfl, rfl, rfl, nw_194, nw_4, nw_192, nwd_79, fun _ => nw_193, fun h => absurd h (by decide), fun h => absurd h (by decide)⟩, fun z hz => by cases hz⟩
theorem ns_eC48 : ns_pC ((2, 28), (.inr 4, 0, 0, 0, 0, 1)) := ⟨fun y hy => by (cases hy), fun z hz => by cases hz; exact ⟨trivial, by decide, by decide, by decide⟩⟩
theorem nw_336 : Cond.methodLink "NoteSheet$Formula" 41 ⟨"NoteSheet$Formula", "stepAt", "(I)I"⟩ ∈ ns_Tb := ns_in 336 (by decide +kernel) (by decide +kernel)
theorem ns_eC49 : ns_pC ((2, 41), (.inl 84, 1, 0, 0, 2, 1)) := ⟨fun y hy => by cases hy; exact ⟨ns_I_F_stepAt, rfl, rfl, rfl, rfl, rfl, nw_339, nw_4, nw_336, nwd_84, fun h => absurd h (by decide), fun _ => ⟨nw_337, nw_338⟩, fun h => absurd h (by decide)⟩, fun z hz => by cases hz⟩
theorem nw_364 : Cond.methodLink "NoteSheet$Formula" 44 arraycopyName ∈ ns_Tb := ns_in 364 (by decide +kernel) (by decide +kernel)
theorem nw_366 : Cond.native arraycopyName ∈ ns_Tb := ns_in 366 (by decide +kernel) (by decide +kernel)
theorem nw_365 : Cond.static arraycopyName ∈ ns_Tb := ns_in 365 (by decide +kernel) (by decide +kernel)
theorem nw_13 : Cond.initialized "java/lang/System" ∈ ns_Tb := ns_in 13 (by decide +kernel) (by decide +kernel)
theorem ns_eC50 : ns_pC ((2, 44), (.inr 5, 0, 0, 0, 0, 0)) := ⟨fun y hy => by (cases hy), fun z hz => by cases hz; exact ⟨⟨nw_364, nw_366, nw_365, nw_13⟩, by decide, by decide, by decide⟩⟩
theorem nw_66 : Cond.methodLink "NoteSheet$Note" 3 Lib.objectInit ∈ ns_Tb := ns_in 66 (by decide +kernel) (by decide +kernel)
theorem ns_eC51 : ns_pC ((3, 3), (.inr 0, 0, 0, 0, 0, 2)) := ⟨fun y hy => by (cases hy), fun z hz => by cases hz; exact ⟨⟨nw_66, nw_20, nw_21⟩, by decide, by decide, by decide⟩⟩
theorem nw_459 : Cond.methodLink "NoteSheet$Note" 39 ⟨"NoteSheet$Note", "isVerifiedIn", "(I)Z"⟩ ∈ ns_Tb := ns_in 459 (by decide +kernel) (by decide +kernel)
theorem ns_eC52 : ns_pC ((3, 39), (.inl 90, 1, 0, 0, 3, 1)) := ⟨fun y hy => by cases hy; exact ⟨ns_I_O_isVerifiedIn, rfl, rfl, rfl, rfl, rfl, nw_398, nw_5, nw_459, nwd_90, fun h => absurd h (by decide), fun _ => ⟨nw_396, nw_397⟩, fun h => absurd h (by decide)⟩, fun z hz => by cases hz⟩
theorem nw_149 : Cond.methodLink "NoteSheet$Parser" 3 Lib.objectInit ∈ ns_Tb := ns_in 149 (by decide +kernel) (by decide +kernel)
theorem ns_eC53 : ns_pC ((4, 3), (.inr 0, 0, 0, 0, 0, 2)) := ⟨fun y hy => by (cases hy), fun z hz => by cases hz; exact ⟨⟨nw_149, nw_20, nw_21⟩, by decide, by decide, by decide⟩⟩
theorem nw_297 : Cond.code ⟨"NoteSheet$Parser", "takeFormula", "(I)Z"⟩ prog_5_method_6_code 3 (some .boolean) ∈ ns_Tb := ns_in 297 (by decide +kernel) (by decide +kernel)
theorem nw_296 : Cond.instanceMethod ⟨"NoteSheet$Parser", "takeFormula", "(I)Z"⟩ ∈ ns_Tb := ns_in 296 (by decide +kernel) (by decide +kernel)
theorem nws_98 : Cond.selects "NoteSheet$Parser" ⟨"NoteSheet$Parser", "takeFormula", "(I)Z"⟩ ⟨"NoteSheet$Parser", "takeFormula", "(I)Z"⟩ ∈ ns_Tb := ns_inS (y := ⟨"NoteSheet$Parser", "takeFormula", "(I)Z"⟩) (n := 2) 0 (by decide +kernel) (by decide +kernel)
theorem nwd_98 : (ns_nm 98).cls ≠ "java/lang/invoke/MethodHandle" ∧ (ns_nm 98).cls ≠ "java/lang/invoke/VarHandle" ∧ (parseMethodDescriptor (ns_nm 98).desc).map (fun d => d.parameters.length) = some 1 := ⟨by decide +kernel, by decide +kernel, by decide +kernel⟩
theorem nw_294 : Cond.methodLink "NoteSheet$Parser" 24 ⟨"NoteSheet$Parser", "takeFormula", "(I)Z"⟩ ∈ ns_Tb := ns_in 294 (by decide +kernel) (by decide +kernel)
theorem ns_eC54 : ns_pC ((4, 24), (.inl 98, 1, 0, 0, 4, 1)) := ⟨fun y hy => by cases hy; exact ⟨ns_I_P_takeFormula, rfl, rfl, rfl, rfl, rfl, nw_297, nw_6, nw_294, nwd_98, fun h => absurd h (by decide), fun _ => ⟨nw_296, nws_98⟩, fun h => absurd h (by decide)⟩, fun z hz => by cases hz⟩
theorem nw_313 : Cond.code ⟨"NoteSheet$Parser", "next", "()C"⟩ prog_5_method_4_code 1 (some .char) ∈ ns_Tb := ns_in 313 (by decide +kernel) (by decide +kernel)
theorem nw_312 : Cond.instanceMethod ⟨"NoteSheet$Parser", "next", "()C"⟩ ∈ ns_Tb := ns_in 312 (by decide +kernel) (by decide +kernel)
theorem nws_96 : Cond.selects "NoteSheet$Parser" ⟨"NoteSheet$Parser", "next", "()C"⟩ ⟨"NoteSheet$Parser", "next", "()C"⟩ ∈ ns_Tb := ns_inS (y := ⟨"NoteSheet$Parser", "next", "()C"⟩) (n := 2) 4 (by decide +kernel) (by decide +kernel)
theorem nwd_96 : (ns_nm 96).cls ≠ "java/lang/invoke/MethodHandle" ∧ (ns_nm 96).cls ≠ "java/lang/invoke/VarHandle" ∧ (parseMethodDescriptor (ns_nm 96).desc).map (fun d => d.parameters.length) = some 0 := ⟨by decide +kernel, by decide +kernel, by decide +kernel⟩
theorem nw_310 : Cond.methodLink "NoteSheet$Parser" 35 ⟨"NoteSheet$Parser", "next", "()C"⟩ ∈ ns_Tb := ns_in 310 (by decide +kernel) (by decide +kernel)
theorem ns_eC55 : ns_pC ((4, 35), (.inl 96, 0, 0, 0, 4, 1)) := ⟨fun y hy => by cases hy; exact ⟨ns_I_P_next, rfl, rfl, rfl, rfl, rfl, nw_313, nw_6, nw_310, nwd_96, fun h => absurd h (by decide), fun _ => ⟨nw_312, nws_96⟩, fun h => absurd h (by decide)⟩, fun z hz => by cases hz⟩
theorem nw_301 : Cond.code ⟨"NoteSheet$Parser", "takeSum", "(I)Z"⟩ prog_5_method_8_code 4 (some .boolean) ∈ ns_Tb := ns_in 301 (by decide +kernel) (by decide +kernel)
theorem nw_300 : Cond.instanceMethod ⟨"NoteSheet$Parser", "takeSum", "(I)Z"⟩ ∈ ns_Tb := ns_in 300 (by decide +kernel) (by decide +kernel)
theorem nws_100 : Cond.selects "NoteSheet$Parser" ⟨"NoteSheet$Parser", "takeSum", "(I)Z"⟩ ⟨"NoteSheet$Parser", "takeSum", "(I)Z"⟩ ∈ ns_Tb := ns_inS (y := ⟨"NoteSheet$Parser", "takeSum", "(I)Z"⟩) (n := 2) 1 (by decide +kernel) (by decide +kernel)
theorem nwd_100 : (ns_nm 100).cls ≠ "java/lang/invoke/MethodHandle" ∧ (ns_nm 100).cls ≠ "java/lang/invoke/VarHandle" ∧ (parseMethodDescriptor (ns_nm 100).desc).map (fun d => d.parameters.length) = some 1 := ⟨by decide +kernel, by decide +kernel, by decide +kernel⟩
theorem nw_298 : Cond.methodLink "NoteSheet$Parser" 39 ⟨"NoteSheet$Parser", "takeSum", "(I)Z"⟩ ∈ ns_Tb := ns_in 298 (by decide +kernel) (by decide +kernel)
theorem ns_eC56 : ns_pC ((4, 39), (.inl 100, 1, 0, 0, 4, 1)) := ⟨fun y hy => by cases hy; exact ⟨ns_I_P_takeSum, rfl, rfl, rfl, rfl, rfl, nw_301, nw_6, nw_298, nwd_100, fun h => absurd h (by decide), fun _ => ⟨nw_300, nws_100⟩, fun h => absurd h (by decide)⟩, fun z hz => by cases hz⟩
theorem nw_318 : Cond.code ⟨"NoteSheet$Formula", "addStep", "(II)I"⟩ prog_3_method_6_code 3 (some .int) ∈ ns_Tb := ns_in 318 (by decide +kernel) (by decide +kernel)
theorem nw_316 : Cond.instanceMethod ⟨"NoteSheet$Formula", "addStep", "(II)I"⟩ ∈ ns_Tb := ns_in 316 (by decide +kernel) (by decide +kernel)
theorem nw_317 : Cond.selects "NoteSheet$Formula" ⟨"NoteSheet$Formula", "addStep", "(II)I"⟩ ⟨"NoteSheet$Formula", "addStep", "(II)I"⟩ ∈ ns_Tb := ns_in 317 (by decide +kernel) (by decide +kernel)
theorem nwd_82 : (ns_nm 82).cls ≠ "java/lang/invoke/MethodHandle" ∧ (ns_nm 82).cls ≠ "java/lang/invoke/VarHandle" ∧ (parseMethodDescriptor (ns_nm 82).desc).map (fun d => d.parameters.length) = some 2 := ⟨by decide +kernel, by decide +kernel, by decide +kernel⟩
theorem nw_315 : Cond.methodLink "NoteSheet$Parser" 42 ⟨"NoteSheet$Formula", "addStep", "(II)I"⟩ ∈ ns_Tb := ns_in 315 (by decide +kernel) (by decide +kernel)
theorem ns_eC57 : ns_pC ((4, 42), (.inl 82, 2, 0, 0, 2, 1)) := ⟨fun y hy => by cases hy; exact ⟨ns_I_F_addStep, rfl, rfl, rfl, rfl, rfl, nw_318, nw_4, nw_315, nwd_82, fun h => absurd h (by decide), fun _ => ⟨nw_316, nw_317⟩, fun h => absurd h (by decide)⟩, fun z hz => by cases hz⟩
theorem nw_327 : Cond.code ⟨"NoteSheet$Parser", "take", "(C)Z"⟩ prog_5_method_5_code 2 (some .boolean) ∈ ns_Tb := ns_in 327 (by decide +kernel) (by decide +kernel)
theorem nw_326 : Cond.instanceMethod ⟨"NoteSheet$Parser", "take", "(C)Z"⟩ ∈ ns_Tb := ns_in 326 (by decide +kernel) (by decide +kernel)
theorem nws_97 : Cond.selects "NoteSheet$Parser" ⟨"NoteSheet$Parser", "take", "(C)Z"⟩ ⟨"NoteSheet$Parser", "take", "(C)Z"⟩ ∈ ns_Tb := ns_inS (y := ⟨"NoteSheet$Parser", "take", "(C)Z"⟩) (n := 2) 6 (by decide +kernel) (by decide +kernel)
theorem nwd_97 : (ns_nm 97).cls ≠ "java/lang/invoke/MethodHandle" ∧ (ns_nm 97).cls ≠ "java/lang/invoke/VarHandle" ∧ (parseMethodDescriptor (ns_nm 97).desc).map (fun d => d.parameters.length) = some 1 := ⟨by decide +kernel, by decide +kernel, by decide +kernel⟩
theorem nw_324 : Cond.methodLink "NoteSheet$Parser" 46 ⟨"NoteSheet$Parser", "take", "(C)Z"⟩ ∈ ns_Tb := ns_in 324 (by decide +kernel) (by decide +kernel)
theorem ns_eC58 : ns_pC ((4, 46), (.inl 97, 1, 0, 0, 4, 1)) := ⟨fun y hy => by cases hy; exact ⟨ns_I_P_take, rfl, rfl, rfl, rfl, rfl, nw_327, nw_6, nw_324, nwd_97, fun h => absurd h (by decide), fun _ => ⟨nw_326, nws_97⟩, fun h => absurd h (by decide)⟩, fun z hz => by cases hz⟩
theorem nw_331 : Cond.code ⟨"NoteSheet$Parser", "takeBranches", "(I)Z"⟩ prog_5_method_7_code 4 (some .boolean) ∈ ns_Tb := ns_in 331 (by decide +kernel) (by decide +kernel)
theorem nw_330 : Cond.instanceMethod ⟨"NoteSheet$Parser", "takeBranches", "(I)Z"⟩ ∈ ns_Tb := ns_in 330 (by decide +kernel) (by decide +kernel)
theorem nws_99 : Cond.selects "NoteSheet$Parser" ⟨"NoteSheet$Parser", "takeBranches", "(I)Z"⟩ ⟨"NoteSheet$Parser", "takeBranches", "(I)Z"⟩ ∈ ns_Tb := ns_inS (y := ⟨"NoteSheet$Parser", "takeBranches", "(I)Z"⟩) (n := 2) 7 (by decide +kernel) (by decide +kernel)
theorem nwd_99 : (ns_nm 99).cls ≠ "java/lang/invoke/MethodHandle" ∧ (ns_nm 99).cls ≠ "java/lang/invoke/VarHandle" ∧ (parseMethodDescriptor (ns_nm 99).desc).map (fun d => d.parameters.length) = some 1 := ⟨by decide +kernel, by decide +kernel, by decide +kernel⟩
theorem nw_328 : Cond.methodLink "NoteSheet$Parser" 50 ⟨"NoteSheet$Parser", "takeBranches", "(I)Z"⟩ ∈ ns_Tb := ns_in 328 (by decide +kernel) (by decide +kernel)
theorem ns_eC59 : ns_pC ((4, 50), (.inl 99, 1, 0, 0, 4, 1)) := ⟨fun y hy => by cases hy; exact ⟨ns_I_P_takeBranches, rfl, rfl, rfl, rfl, rfl, nw_331, nw_6, nw_328, nwd_99, fun h => absurd h (by decide), fun _ => ⟨nw_330, nws_99⟩, fun h => absurd h (by decide)⟩, fun z hz => by cases hz⟩
theorem nw_335 : Cond.code ⟨"NoteSheet$Formula", "jumpToEnd", "(I)V"⟩ prog_3_method_7_code 2 (none) ∈ ns_Tb := ns_in 335 (by decide +kernel) (by decide +kernel)
theorem nw_333 : Cond.instanceMethod ⟨"NoteSheet$Formula", "jumpToEnd", "(I)V"⟩ ∈ ns_Tb := ns_in 333 (by decide +kernel) (by decide +kernel)
theorem nw_334 : Cond.selects "NoteSheet$Formula" ⟨"NoteSheet$Formula", "jumpToEnd", "(I)V"⟩ ⟨"NoteSheet$Formula", "jumpToEnd", "(I)V"⟩ ∈ ns_Tb := ns_in 334 (by decide +kernel) (by decide +kernel)
theorem nwd_83 : (ns_nm 83).cls ≠ "java/lang/invoke/MethodHandle" ∧ (ns_nm 83).cls ≠ "java/lang/invoke/VarHandle" ∧ (parseMethodDescriptor (ns_nm 83).desc).map (fun d => d.parameters.length) = some 1 := ⟨by decide +kernel, by decide +kernel, by decide +kernel⟩
theorem nw_332 : Cond.methodLink "NoteSheet$Parser" 53 ⟨"NoteSheet$Formula", "jumpToEnd", "(I)V"⟩ ∈ ns_Tb := ns_in 332 (by decide +kernel) (by decide +kernel)
theorem ns_eC60 : ns_pC ((4, 53), (.inl 83, 1, 0, 0, 2, 1)) := ⟨fun y hy => by cases hy; exact ⟨ns_I_F_jumpToEnd, rfl, rfl, rfl, rfl, rfl, nw_335, nw_4, nw_332, nwd_83, fun h => absurd h (by decide), fun _ => ⟨nw_333, nw_334⟩, fun h => absurd h (by decide)⟩, fun z hz => by cases hz⟩
theorem nw_305 : Cond.code ⟨"NoteSheet$Parser", "takeProduct", "(I)Z"⟩ prog_5_method_9_code 3 (some .boolean) ∈ ns_Tb := ns_in 305 (by decide +kernel) (by decide +kernel)
theorem nw_304 : Cond.instanceMethod ⟨"NoteSheet$Parser", "takeProduct", "(I)Z"⟩ ∈ ns_Tb := ns_in 304 (by decide +kernel) (by decide +kernel)
theorem nws_101 : Cond.selects "NoteSheet$Parser" ⟨"NoteSheet$Parser", "takeProduct", "(I)Z"⟩ ⟨"NoteSheet$Parser", "takeProduct", "(I)Z"⟩ ∈ ns_Tb := ns_inS (y := ⟨"NoteSheet$Parser", "takeProduct", "(I)Z"⟩) (n := 2) 2 (by decide +kernel) (by decide +kernel)
theorem nwd_101 : (ns_nm 101).cls ≠ "java/lang/invoke/MethodHandle" ∧ (ns_nm 101).cls ≠ "java/lang/invoke/VarHandle" ∧ (parseMethodDescriptor (ns_nm 101).desc).map (fun d => d.parameters.length) = some 1 := ⟨by decide +kernel, by decide +kernel, by decide +kernel⟩
theorem nw_302 : Cond.methodLink "NoteSheet$Parser" 57 ⟨"NoteSheet$Parser", "takeProduct", "(I)Z"⟩ ∈ ns_Tb := ns_in 302 (by decide +kernel) (by decide +kernel)
theorem ns_eC61 : ns_pC ((4, 57), (.inl 101, 1, 0, 0, 4, 1)) := ⟨fun y hy => by cases hy; exact ⟨ns_I_P_takeProduct, rfl, rfl, rfl, rfl, rfl, nw_305, nw_6, nw_302, nwd_101, fun h => absurd h (by decide), fun _ => ⟨nw_304, nws_101⟩, fun h => absurd h (by decide)⟩, fun z hz => by cases hz⟩
theorem nw_309 : Cond.code ⟨"NoteSheet$Parser", "takeUnit", "(I)Z"⟩ prog_5_method_10_code 3 (some .boolean) ∈ ns_Tb := ns_in 309 (by decide +kernel) (by decide +kernel)
theorem nw_308 : Cond.instanceMethod ⟨"NoteSheet$Parser", "takeUnit", "(I)Z"⟩ ∈ ns_Tb := ns_in 308 (by decide +kernel) (by decide +kernel)
theorem nws_102 : Cond.selects "NoteSheet$Parser" ⟨"NoteSheet$Parser", "takeUnit", "(I)Z"⟩ ⟨"NoteSheet$Parser", "takeUnit", "(I)Z"⟩ ∈ ns_Tb := ns_inS (y := ⟨"NoteSheet$Parser", "takeUnit", "(I)Z"⟩) (n := 2) 3 (by decide +kernel) (by decide +kernel)
theorem nwd_102 : (ns_nm 102).cls ≠ "java/lang/invoke/MethodHandle" ∧ (ns_nm 102).cls ≠ "java/lang/invoke/VarHandle" ∧ (parseMethodDescriptor (ns_nm 102).desc).map (fun d => d.parameters.length) = some 1 := ⟨by decide +kernel, by decide +kernel, by decide +kernel⟩
theorem nw_306 : Cond.methodLink "NoteSheet$Parser" 60 ⟨"NoteSheet$Parser", "takeUnit", "(I)Z"⟩ ∈ ns_Tb := ns_in 306 (by decide +kernel) (by decide +kernel)
theorem ns_eC62 : ns_pC ((4, 60), (.inl 102, 1, 0, 0, 4, 1)) := ⟨fun y hy => by cases hy; exact ⟨ns_I_P_takeUnit, rfl, rfl, rfl, rfl, rfl, nw_309, nw_6, nw_306, nwd_102, fun h => absurd h (by decide), fun _ => ⟨nw_308, nws_102⟩, fun h => absurd h (by decide)⟩, fun z hz => by cases hz⟩
theorem nw_314 : Cond.methodLink "NoteSheet$Parser" 63 ⟨"NoteSheet$Formula", "isLetter", "(C)Z"⟩ ∈ ns_Tb := ns_in 314 (by decide +kernel) (by decide +kernel)
theorem ns_eC63 : ns_pC ((4, 63), (.inl 78, 1, 0, 0, 2, 0)) := ⟨fun y hy => by cases hy; exact ⟨ns_I_F_isLetter, rfl, rfl, rfl, rfl, rfl, nw_191, nw_4, nw_314, nwd_78, fun _ => nw_190, fun h => absurd h (by decide), fun h => absurd h (by decide)⟩, fun z hz => by cases hz⟩
theorem nw_319 : Cond.methodLink "NoteSheet$Parser" 66 ⟨"NoteSheet$Formula", "isDigit", "(C)Z"⟩ ∈ ns_Tb := ns_in 319 (by decide +kernel) (by decide +kernel)
theorem ns_eC64 : ns_pC ((4, 66), (.inl 79, 1, 0, 0, 2, 0)) := ⟨fun y hy => by cases hy; exact ⟨ns_I_F_isDigit, rfl, rfl, rfl, rfl, rfl, nw_194, nw_4, nw_319, nwd_79, fun _ => nw_193, fun h => absurd h (by decide), fun h => absurd h (by decide)⟩, fun z hz => by cases hz⟩
theorem nw_323 : Cond.code ⟨"NoteSheet$Parser", "takeNumber", "()V"⟩ prog_5_method_11_code 3 (none) ∈ ns_Tb := ns_in 323 (by decide +kernel) (by decide +kernel)
theorem nw_322 : Cond.instanceMethod ⟨"NoteSheet$Parser", "takeNumber", "()V"⟩ ∈ ns_Tb := ns_in 322 (by decide +kernel) (by decide +kernel)
theorem nws_103 : Cond.selects "NoteSheet$Parser" ⟨"NoteSheet$Parser", "takeNumber", "()V"⟩ ⟨"NoteSheet$Parser", "takeNumber", "()V"⟩ ∈ ns_Tb := ns_inS (y := ⟨"NoteSheet$Parser", "takeNumber", "()V"⟩) (n := 2) 5 (by decide +kernel) (by decide +kernel)
theorem nwd_103 : (ns_nm 103).cls ≠ "java/lang/invoke/MethodHandle" ∧ (ns_nm 103).cls ≠ "java/lang/invoke/VarHandle" ∧ (parseMethodDescriptor (ns_nm 103).desc).map (fun d => d.parameters.length) = some 0 := ⟨by decide +kernel, by decide +kernel, by decide +kernel⟩
theorem nw_320 : Cond.methodLink "NoteSheet$Parser" 69 ⟨"NoteSheet$Parser", "takeNumber", "()V"⟩ ∈ ns_Tb := ns_in 320 (by decide +kernel) (by decide +kernel)
theorem ns_eC65 : ns_pC ((4, 69), (.inl 103, 0, 0, 0, 4, 1)) := ⟨fun y hy => by cases hy; exact ⟨ns_I_P_takeNumber, rfl, rfl, rfl, rfl, rfl, nw_323, nw_6, nw_320, nwd_103, fun h => absurd h (by decide), fun _ => ⟨nw_322, nws_103⟩, fun h => absurd h (by decide)⟩, fun z hz => by cases hz⟩
theorem nw_504 : Cond.methodLink "NoteSheetModel" 1 Lib.objectInit ∈ ns_Tb := ns_in 504 (by decide +kernel) (by decide +kernel)
theorem ns_eC66 : ns_pC ((5, 1), (.inr 0, 0, 0, 0, 0, 2)) := ⟨fun y hy => by (cases hy), fun z hz => by cases hz; exact ⟨⟨nw_504, nw_20, nw_21⟩, by decide, by decide, by decide⟩⟩
theorem nw_643 : Cond.code ⟨"NoteSheetModel", "isLetter", "(I)Z"⟩ prog_7_method_3_code 1 (some .boolean) ∈ ns_Tb := ns_in 643 (by decide +kernel) (by decide +kernel)
theorem nw_7 : Cond.initialized "NoteSheetModel" ∈ ns_Tb := ns_in 7 (by decide +kernel) (by decide +kernel)
theorem nw_642 : Cond.static ⟨"NoteSheetModel", "isLetter", "(I)Z"⟩ ∈ ns_Tb := ns_in 642 (by decide +kernel) (by decide +kernel)
theorem nwd_32 : (ns_nm 32).cls ≠ "java/lang/invoke/MethodHandle" ∧ (ns_nm 32).cls ≠ "java/lang/invoke/VarHandle" ∧ (parseMethodDescriptor (ns_nm 32).desc).map (fun d => d.parameters.length) = some 1 := ⟨by decide +kernel, by decide +kernel, by decide +kernel⟩
theorem nw_641 : Cond.methodLink "NoteSheetModel" 127 ⟨"NoteSheetModel", "isLetter", "(I)Z"⟩ ∈ ns_Tb := ns_in 641 (by decide +kernel) (by decide +kernel)
theorem ns_eC67 : ns_pC ((5, 127), (.inl 32, 1, 0, 0, 5, 0)) := ⟨fun y hy => by cases hy; exact ⟨ns_I_M_isLetter, rfl, rfl, rfl, rfl, rfl, nw_643, nw_7, nw_641, nwd_32, fun _ => nw_642, fun h => absurd h (by decide), fun h => absurd h (by decide)⟩, fun z hz => by cases hz⟩
theorem nw_646 : Cond.code ⟨"NoteSheetModel", "isDigit", "(I)Z"⟩ prog_7_method_4_code 1 (some .boolean) ∈ ns_Tb := ns_in 646 (by decide +kernel) (by decide +kernel)
theorem nw_645 : Cond.static ⟨"NoteSheetModel", "isDigit", "(I)Z"⟩ ∈ ns_Tb := ns_in 645 (by decide +kernel) (by decide +kernel)
theorem nwd_33 : (ns_nm 33).cls ≠ "java/lang/invoke/MethodHandle" ∧ (ns_nm 33).cls ≠ "java/lang/invoke/VarHandle" ∧ (parseMethodDescriptor (ns_nm 33).desc).map (fun d => d.parameters.length) = some 1 := ⟨by decide +kernel, by decide +kernel, by decide +kernel⟩
theorem nw_644 : Cond.methodLink "NoteSheetModel" 131 ⟨"NoteSheetModel", "isDigit", "(I)Z"⟩ ∈ ns_Tb := ns_in 644 (by decide +kernel) (by decide +kernel)
theorem ns_eC68 : ns_pC ((5, 131), (.inl 33, 1, 0, 0, 5, 0)) := ⟨fun y hy => by cases hy; exact ⟨ns_I_M_isDigit, rfl, rfl, rfl, rfl, rfl, nw_646, nw_7, nw_644, nwd_33, fun _ => nw_645, fun h => absurd h (by decide), fun h => absurd h (by decide)⟩, fun z hz => by cases hz⟩
theorem nw_669 : Cond.code ⟨"NoteSheetModel", "rank", "(I)I"⟩ prog_7_method_8_code 1 (some .int) ∈ ns_Tb := ns_in 669 (by decide +kernel) (by decide +kernel)
theorem nw_668 : Cond.static ⟨"NoteSheetModel", "rank", "(I)I"⟩ ∈ ns_Tb := ns_in 668 (by decide +kernel) (by decide +kernel)
theorem nwd_37 : (ns_nm 37).cls ≠ "java/lang/invoke/MethodHandle" ∧ (ns_nm 37).cls ≠ "java/lang/invoke/VarHandle" ∧ (parseMethodDescriptor (ns_nm 37).desc).map (fun d => d.parameters.length) = some 1 := ⟨by decide +kernel, by decide +kernel, by decide +kernel⟩
theorem nw_667 : Cond.methodLink "NoteSheetModel" 143 ⟨"NoteSheetModel", "rank", "(I)I"⟩ ∈ ns_Tb := ns_in 667 (by decide +kernel) (by decide +kernel)
theorem ns_eC69 : ns_pC ((5, 143), (.inl 37, 1, 0, 0, 5, 0)) := ⟨fun y hy => by cases hy; exact ⟨ns_I_M_rank, rfl, rfl, rfl, rfl, rfl, nw_669, nw_7, nw_667, nwd_37, fun _ => nw_668, fun h => absurd h (by decide), fun h => absurd h (by decide)⟩, fun z hz => by cases hz⟩
theorem nw_662 : Cond.code ⟨"NoteSheetModel", "make", "(II)V"⟩ prog_7_method_6_code 3 (none) ∈ ns_Tb := ns_in 662 (by decide +kernel) (by decide +kernel)
theorem nw_661 : Cond.instanceMethod ⟨"NoteSheetModel", "make", "(II)V"⟩ ∈ ns_Tb := ns_in 661 (by decide +kernel) (by decide +kernel)
theorem nws_35 : Cond.selects "NoteSheetModel" ⟨"NoteSheetModel", "make", "(II)V"⟩ ⟨"NoteSheetModel", "make", "(II)V"⟩ ∈ ns_Tb := ns_inS (y := ⟨"NoteSheetModel", "make", "(II)V"⟩) (n := 43) 27 (by decide +kernel) (by decide +kernel)
theorem nwd_35 : (ns_nm 35).cls ≠ "java/lang/invoke/MethodHandle" ∧ (ns_nm 35).cls ≠ "java/lang/invoke/VarHandle" ∧ (parseMethodDescriptor (ns_nm 35).desc).map (fun d => d.parameters.length) = some 2 := ⟨by decide +kernel, by decide +kernel, by decide +kernel⟩
theorem nw_659 : Cond.methodLink "NoteSheetModel" 147 ⟨"NoteSheetModel", "make", "(II)V"⟩ ∈ ns_Tb := ns_in 659 (by decide +kernel) (by decide +kernel)
theorem ns_eC70 : ns_pC ((5, 147), (.inl 35, 2, 0, 0, 5, 1)) := ⟨fun y hy => by cases hy; exact ⟨ns_I_M_make, rfl, rfl, rfl, rfl, rfl, nw_662, nw_7, nw_659, nwd_35, fun h => absurd h (by decide), fun _ => ⟨nw_661, nws_35⟩, fun h => absurd h (by decide)⟩, fun z hz => by cases hz⟩
theorem nw_666 : Cond.code ⟨"NoteSheetModel", "settle", "(I)V"⟩ prog_7_method_9_code 3 (none) ∈ ns_Tb := ns_in 666 (by decide +kernel) (by decide +kernel)
theorem nw_665 : Cond.instanceMethod ⟨"NoteSheetModel", "settle", "(I)V"⟩ ∈ ns_Tb := ns_in 665 (by decide +kernel) (by decide +kernel)
theorem nws_38 : Cond.selects "NoteSheetModel" ⟨"NoteSheetModel", "settle", "(I)V"⟩ ⟨"NoteSheetModel", "settle", "(I)V"⟩ ∈ ns_Tb := ns_inS (y := ⟨"NoteSheetModel", "settle", "(I)V"⟩) (n := 43) 28 (by decide +kernel) (by decide +kernel)
theorem nwd_38 : (ns_nm 38).cls ≠ "java/lang/invoke/MethodHandle" ∧ (ns_nm 38).cls ≠ "java/lang/invoke/VarHandle" ∧ (parseMethodDescriptor (ns_nm 38).desc).map (fun d => d.parameters.length) = some 1 := ⟨by decide +kernel, by decide +kernel, by decide +kernel⟩
theorem nw_663 : Cond.methodLink "NoteSheetModel" 151 ⟨"NoteSheetModel", "settle", "(I)V"⟩ ∈ ns_Tb := ns_in 663 (by decide +kernel) (by decide +kernel)
theorem ns_eC71 : ns_pC ((5, 151), (.inl 38, 1, 0, 0, 5, 1)) := ⟨fun y hy => by cases hy; exact ⟨ns_I_M_settle, rfl, rfl, rfl, rfl, rfl, nw_666, nw_7, nw_663, nwd_38, fun h => absurd h (by decide), fun _ => ⟨nw_665, nws_38⟩, fun h => absurd h (by decide)⟩, fun z hz => by cases hz⟩
theorem nw_673 : Cond.code ⟨"NoteSheetModel", "deepness", "()I"⟩ prog_7_method_10_code 3 (some .int) ∈ ns_Tb := ns_in 673 (by decide +kernel) (by decide +kernel)
theorem nw_672 : Cond.instanceMethod ⟨"NoteSheetModel", "deepness", "()I"⟩ ∈ ns_Tb := ns_in 672 (by decide +kernel) (by decide +kernel)
theorem nws_39 : Cond.selects "NoteSheetModel" ⟨"NoteSheetModel", "deepness", "()I"⟩ ⟨"NoteSheetModel", "deepness", "()I"⟩ ∈ ns_Tb := ns_inS (y := ⟨"NoteSheetModel", "deepness", "()I"⟩) (n := 43) 29 (by decide +kernel) (by decide +kernel)
theorem nwd_39 : (ns_nm 39).cls ≠ "java/lang/invoke/MethodHandle" ∧ (ns_nm 39).cls ≠ "java/lang/invoke/VarHandle" ∧ (parseMethodDescriptor (ns_nm 39).desc).map (fun d => d.parameters.length) = some 0 := ⟨by decide +kernel, by decide +kernel, by decide +kernel⟩
theorem nw_670 : Cond.methodLink "NoteSheetModel" 155 ⟨"NoteSheetModel", "deepness", "()I"⟩ ∈ ns_Tb := ns_in 670 (by decide +kernel) (by decide +kernel)
theorem ns_eC72 : ns_pC ((5, 155), (.inl 39, 0, 0, 0, 5, 1)) := ⟨fun y hy => by cases hy; exact ⟨ns_I_M_deepness, rfl, rfl, rfl, rfl, rfl, nw_673, nw_7, nw_670, nwd_39, fun h => absurd h (by decide), fun _ => ⟨nw_672, nws_39⟩, fun h => absurd h (by decide)⟩, fun z hz => by cases hz⟩
theorem nw_677 : Cond.code ⟨"NoteSheetModel", "put", "(II)V"⟩ prog_7_method_7_code 3 (none) ∈ ns_Tb := ns_in 677 (by decide +kernel) (by decide +kernel)
theorem nw_676 : Cond.instanceMethod ⟨"NoteSheetModel", "put", "(II)V"⟩ ∈ ns_Tb := ns_in 676 (by decide +kernel) (by decide +kernel)
theorem nws_36 : Cond.selects "NoteSheetModel" ⟨"NoteSheetModel", "put", "(II)V"⟩ ⟨"NoteSheetModel", "put", "(II)V"⟩ ∈ ns_Tb := ns_inS (y := ⟨"NoteSheetModel", "put", "(II)V"⟩) (n := 43) 30 (by decide +kernel) (by decide +kernel)
theorem nwd_36 : (ns_nm 36).cls ≠ "java/lang/invoke/MethodHandle" ∧ (ns_nm 36).cls ≠ "java/lang/invoke/VarHandle" ∧ (parseMethodDescriptor (ns_nm 36).desc).map (fun d => d.parameters.length) = some 2 := ⟨by decide +kernel, by decide +kernel, by decide +kernel⟩
theorem nw_674 : Cond.methodLink "NoteSheetModel" 159 ⟨"NoteSheetModel", "put", "(II)V"⟩ ∈ ns_Tb := ns_in 674 (by decide +kernel) (by decide +kernel)
theorem ns_eC73 : ns_pC ((5, 159), (.inl 36, 2, 0, 0, 5, 1)) := ⟨fun y hy => by cases hy; exact ⟨ns_I_M_put, rfl, rfl, rfl, rfl, rfl, nw_677, nw_7, nw_674, nwd_36, fun h => absurd h (by decide), fun _ => ⟨nw_676, nws_36⟩, fun h => absurd h (by decide)⟩, fun z hz => by cases hz⟩
theorem nw_693 : Cond.code ⟨"NoteSheetModel", "inner", "()I"⟩ prog_7_method_13_code 2 (some .int) ∈ ns_Tb := ns_in 693 (by decide +kernel) (by decide +kernel)
theorem nw_692 : Cond.instanceMethod ⟨"NoteSheetModel", "inner", "()I"⟩ ∈ ns_Tb := ns_in 692 (by decide +kernel) (by decide +kernel)
theorem nws_42 : Cond.selects "NoteSheetModel" ⟨"NoteSheetModel", "inner", "()I"⟩ ⟨"NoteSheetModel", "inner", "()I"⟩ ∈ ns_Tb := ns_inS (y := ⟨"NoteSheetModel", "inner", "()I"⟩) (n := 43) 34 (by decide +kernel) (by decide +kernel)
theorem nwd_42 : (ns_nm 42).cls ≠ "java/lang/invoke/MethodHandle" ∧ (ns_nm 42).cls ≠ "java/lang/invoke/VarHandle" ∧ (parseMethodDescriptor (ns_nm 42).desc).map (fun d => d.parameters.length) = some 0 := ⟨by decide +kernel, by decide +kernel, by decide +kernel⟩
theorem nw_690 : Cond.methodLink "NoteSheetModel" 162 ⟨"NoteSheetModel", "inner", "()I"⟩ ∈ ns_Tb := ns_in 690 (by decide +kernel) (by decide +kernel)
theorem ns_eC74 : ns_pC ((5, 162), (.inl 42, 0, 0, 0, 5, 1)) := ⟨fun y hy => by cases hy; exact ⟨ns_I_M_inner, rfl, rfl, rfl, rfl, rfl, nw_693, nw_7, nw_690, nwd_42, fun h => absurd h (by decide), fun _ => ⟨nw_692, nws_42⟩, fun h => absurd h (by decide)⟩, fun z hz => by cases hz⟩
theorem nw_685 : Cond.code ⟨"NoteSheetModel", "compared", "()Z"⟩ prog_7_method_12_code 3 (some .boolean) ∈ ns_Tb := ns_in 685 (by decide +kernel) (by decide +kernel)
theorem nw_684 : Cond.instanceMethod ⟨"NoteSheetModel", "compared", "()Z"⟩ ∈ ns_Tb := ns_in 684 (by decide +kernel) (by decide +kernel)
theorem nws_41 : Cond.selects "NoteSheetModel" ⟨"NoteSheetModel", "compared", "()Z"⟩ ⟨"NoteSheetModel", "compared", "()Z"⟩ ∈ ns_Tb := ns_inS (y := ⟨"NoteSheetModel", "compared", "()Z"⟩) (n := 43) 32 (by decide +kernel) (by decide +kernel)
theorem nwd_41 : (ns_nm 41).cls ≠ "java/lang/invoke/MethodHandle" ∧ (ns_nm 41).cls ≠ "java/lang/invoke/VarHandle" ∧ (parseMethodDescriptor (ns_nm 41).desc).map (fun d => d.parameters.length) = some 0 := ⟨by decide +kernel, by decide +kernel, by decide +kernel⟩
theorem nw_682 : Cond.methodLink "NoteSheetModel" 165 ⟨"NoteSheetModel", "compared", "()Z"⟩ ∈ ns_Tb := ns_in 682 (by decide +kernel) (by decide +kernel)
theorem ns_eC75 : ns_pC ((5, 165), (.inl 41, 0, 0, 0, 5, 1)) := ⟨fun y hy => by cases hy; exact ⟨ns_I_M_compared, rfl, rfl, rfl, rfl, rfl, nw_685, nw_7, nw_682, nwd_41, fun h => absurd h (by decide), fun _ => ⟨nw_684, nws_41⟩, fun h => absurd h (by decide)⟩, fun z hz => by cases hz⟩
theorem nw_689 : Cond.code ⟨"NoteSheetModel", "awaits", "()I"⟩ prog_7_method_15_code 2 (some .int) ∈ ns_Tb := ns_in 689 (by decide +kernel) (by decide +kernel)
theorem nw_688 : Cond.instanceMethod ⟨"NoteSheetModel", "awaits", "()I"⟩ ∈ ns_Tb := ns_in 688 (by decide +kernel) (by decide +kernel)
theorem nws_44 : Cond.selects "NoteSheetModel" ⟨"NoteSheetModel", "awaits", "()I"⟩ ⟨"NoteSheetModel", "awaits", "()I"⟩ ∈ ns_Tb := ns_inS (y := ⟨"NoteSheetModel", "awaits", "()I"⟩) (n := 43) 33 (by decide +kernel) (by decide +kernel)
theorem nwd_44 : (ns_nm 44).cls ≠ "java/lang/invoke/MethodHandle" ∧ (ns_nm 44).cls ≠ "java/lang/invoke/VarHandle" ∧ (parseMethodDescriptor (ns_nm 44).desc).map (fun d => d.parameters.length) = some 0 := ⟨by decide +kernel, by decide +kernel, by decide +kernel⟩
theorem nw_686 : Cond.methodLink "NoteSheetModel" 169 ⟨"NoteSheetModel", "awaits", "()I"⟩ ∈ ns_Tb := ns_in 686 (by decide +kernel) (by decide +kernel)
theorem ns_eC76 : ns_pC ((5, 169), (.inl 44, 0, 0, 0, 5, 1)) := ⟨fun y hy => by cases hy; exact ⟨ns_I_M_awaits, rfl, rfl, rfl, rfl, rfl, nw_689, nw_7, nw_686, nwd_44, fun h => absurd h (by decide), fun _ => ⟨nw_688, nws_44⟩, fun h => absurd h (by decide)⟩, fun z hz => by cases hz⟩
theorem nw_697 : Cond.code ⟨"NoteSheetModel", "close", "()V"⟩ prog_7_method_14_code 1 (none) ∈ ns_Tb := ns_in 697 (by decide +kernel) (by decide +kernel)
theorem nw_696 : Cond.instanceMethod ⟨"NoteSheetModel", "close", "()V"⟩ ∈ ns_Tb := ns_in 696 (by decide +kernel) (by decide +kernel)
theorem nws_43 : Cond.selects "NoteSheetModel" ⟨"NoteSheetModel", "close", "()V"⟩ ⟨"NoteSheetModel", "close", "()V"⟩ ∈ ns_Tb := ns_inS (y := ⟨"NoteSheetModel", "close", "()V"⟩) (n := 43) 35 (by decide +kernel) (by decide +kernel)
theorem nwd_43 : (ns_nm 43).cls ≠ "java/lang/invoke/MethodHandle" ∧ (ns_nm 43).cls ≠ "java/lang/invoke/VarHandle" ∧ (parseMethodDescriptor (ns_nm 43).desc).map (fun d => d.parameters.length) = some 0 := ⟨by decide +kernel, by decide +kernel, by decide +kernel⟩
theorem nw_694 : Cond.methodLink "NoteSheetModel" 172 ⟨"NoteSheetModel", "close", "()V"⟩ ∈ ns_Tb := ns_in 694 (by decide +kernel) (by decide +kernel)
theorem ns_eC77 : ns_pC ((5, 172), (.inl 43, 0, 0, 0, 5, 1)) := ⟨fun y hy => by cases hy; exact ⟨ns_I_M_close, rfl, rfl, rfl, rfl, rfl, nw_697, nw_7, nw_694, nwd_43, fun h => absurd h (by decide), fun _ => ⟨nw_696, nws_43⟩, fun h => absurd h (by decide)⟩, fun z hz => by cases hz⟩
theorem nw_658 : Cond.code ⟨"NoteSheetModel", "begin", "(II)Z"⟩ prog_7_method_11_code 5 (some .boolean) ∈ ns_Tb := ns_in 658 (by decide +kernel) (by decide +kernel)
theorem nw_657 : Cond.instanceMethod ⟨"NoteSheetModel", "begin", "(II)Z"⟩ ∈ ns_Tb := ns_in 657 (by decide +kernel) (by decide +kernel)
theorem nws_40 : Cond.selects "NoteSheetModel" ⟨"NoteSheetModel", "begin", "(II)Z"⟩ ⟨"NoteSheetModel", "begin", "(II)Z"⟩ ∈ ns_Tb := ns_inS (y := ⟨"NoteSheetModel", "begin", "(II)Z"⟩) (n := 43) 26 (by decide +kernel) (by decide +kernel)
theorem nwd_40 : (ns_nm 40).cls ≠ "java/lang/invoke/MethodHandle" ∧ (ns_nm 40).cls ≠ "java/lang/invoke/VarHandle" ∧ (parseMethodDescriptor (ns_nm 40).desc).map (fun d => d.parameters.length) = some 2 := ⟨by decide +kernel, by decide +kernel, by decide +kernel⟩
theorem nw_655 : Cond.methodLink "NoteSheetModel" 175 ⟨"NoteSheetModel", "begin", "(II)Z"⟩ ∈ ns_Tb := ns_in 655 (by decide +kernel) (by decide +kernel)
theorem ns_eC78 : ns_pC ((5, 175), (.inl 40, 2, 0, 0, 5, 1)) := ⟨fun y hy => by cases hy; exact ⟨ns_I_M_begin, rfl, rfl, rfl, rfl, rfl, nw_658, nw_7, nw_655, nwd_40, fun h => absurd h (by decide), fun _ => ⟨nw_657, nws_40⟩, fun h => absurd h (by decide)⟩, fun z hz => by cases hz⟩
theorem nw_681 : Cond.code ⟨"NoteSheetModel", "goesOn", "(I)Z"⟩ prog_7_method_16_code 2 (some .boolean) ∈ ns_Tb := ns_in 681 (by decide +kernel) (by decide +kernel)
theorem nw_680 : Cond.instanceMethod ⟨"NoteSheetModel", "goesOn", "(I)Z"⟩ ∈ ns_Tb := ns_in 680 (by decide +kernel) (by decide +kernel)
theorem nws_45 : Cond.selects "NoteSheetModel" ⟨"NoteSheetModel", "goesOn", "(I)Z"⟩ ⟨"NoteSheetModel", "goesOn", "(I)Z"⟩ ∈ ns_Tb := ns_inS (y := ⟨"NoteSheetModel", "goesOn", "(I)Z"⟩) (n := 43) 31 (by decide +kernel) (by decide +kernel)
theorem nwd_45 : (ns_nm 45).cls ≠ "java/lang/invoke/MethodHandle" ∧ (ns_nm 45).cls ≠ "java/lang/invoke/VarHandle" ∧ (parseMethodDescriptor (ns_nm 45).desc).map (fun d => d.parameters.length) = some 1 := ⟨by decide +kernel, by decide +kernel, by decide +kernel⟩
theorem nw_678 : Cond.methodLink "NoteSheetModel" 179 ⟨"NoteSheetModel", "goesOn", "(I)Z"⟩ ∈ ns_Tb := ns_in 678 (by decide +kernel) (by decide +kernel)
theorem ns_eC79 : ns_pC ((5, 179), (.inl 45, 1, 0, 0, 5, 1)) := ⟨fun y hy => by cases hy; exact ⟨ns_I_M_goesOn, rfl, rfl, rfl, rfl, rfl, nw_681, nw_7, nw_678, nwd_45, fun h => absurd h (by decide), fun _ => ⟨nw_680, nws_45⟩, fun h => absurd h (by decide)⟩, fun z hz => by cases hz⟩
theorem nw_654 : Cond.code ⟨"NoteSheetModel", "fault", "()I"⟩ prog_7_method_17_code 6 (some .int) ∈ ns_Tb := ns_in 654 (by decide +kernel) (by decide +kernel)
theorem nw_653 : Cond.instanceMethod ⟨"NoteSheetModel", "fault", "()I"⟩ ∈ ns_Tb := ns_in 653 (by decide +kernel) (by decide +kernel)
theorem nws_46 : Cond.selects "NoteSheetModel" ⟨"NoteSheetModel", "fault", "()I"⟩ ⟨"NoteSheetModel", "fault", "()I"⟩ ∈ ns_Tb := ns_inS (y := ⟨"NoteSheetModel", "fault", "()I"⟩) (n := 43) 25 (by decide +kernel) (by decide +kernel)
theorem nwd_46 : (ns_nm 46).cls ≠ "java/lang/invoke/MethodHandle" ∧ (ns_nm 46).cls ≠ "java/lang/invoke/VarHandle" ∧ (parseMethodDescriptor (ns_nm 46).desc).map (fun d => d.parameters.length) = some 0 := ⟨by decide +kernel, by decide +kernel, by decide +kernel⟩
theorem nw_651 : Cond.methodLink "NoteSheetModel" 182 ⟨"NoteSheetModel", "fault", "()I"⟩ ∈ ns_Tb := ns_in 651 (by decide +kernel) (by decide +kernel)
theorem ns_eC80 : ns_pC ((5, 182), (.inl 46, 0, 0, 0, 5, 1)) := ⟨fun y hy => by cases hy; exact ⟨ns_I_M_fault, rfl, rfl, rfl, rfl, rfl, nw_654, nw_7, nw_651, nwd_46, fun h => absurd h (by decide), fun _ => ⟨nw_653, nws_46⟩, fun h => absurd h (by decide)⟩, fun z hz => by cases hz⟩
theorem nw_700 : Cond.code ⟨"NoteSheetModel", "isCell", "(I)Z"⟩ prog_7_method_2_code 1 (some .boolean) ∈ ns_Tb := ns_in 700 (by decide +kernel) (by decide +kernel)
theorem nw_699 : Cond.static ⟨"NoteSheetModel", "isCell", "(I)Z"⟩ ∈ ns_Tb := ns_in 699 (by decide +kernel) (by decide +kernel)
theorem nwd_31 : (ns_nm 31).cls ≠ "java/lang/invoke/MethodHandle" ∧ (ns_nm 31).cls ≠ "java/lang/invoke/VarHandle" ∧ (parseMethodDescriptor (ns_nm 31).desc).map (fun d => d.parameters.length) = some 1 := ⟨by decide +kernel, by decide +kernel, by decide +kernel⟩
theorem nw_698 : Cond.methodLink "NoteSheetModel" 185 ⟨"NoteSheetModel", "isCell", "(I)Z"⟩ ∈ ns_Tb := ns_in 698 (by decide +kernel) (by decide +kernel)
theorem ns_eC81 : ns_pC ((5, 185), (.inl 31, 1, 0, 0, 5, 0)) := ⟨fun y hy => by cases hy; exact ⟨ns_I_M_isCell, rfl, rfl, rfl, rfl, rfl, nw_700, nw_7, nw_698, nwd_31, fun _ => nw_699, fun h => absurd h (by decide), fun h => absurd h (by decide)⟩, fun z hz => by cases hz⟩
theorem nw_704 : Cond.code ⟨"NoteSheetModel", "change", "(I)V"⟩ prog_7_method_19_code 3 (none) ∈ ns_Tb := ns_in 704 (by decide +kernel) (by decide +kernel)
theorem nw_703 : Cond.instanceMethod ⟨"NoteSheetModel", "change", "(I)V"⟩ ∈ ns_Tb := ns_in 703 (by decide +kernel) (by decide +kernel)
theorem nws_48 : Cond.selects "NoteSheetModel" ⟨"NoteSheetModel", "change", "(I)V"⟩ ⟨"NoteSheetModel", "change", "(I)V"⟩ ∈ ns_Tb := ns_inS (y := ⟨"NoteSheetModel", "change", "(I)V"⟩) (n := 43) 36 (by decide +kernel) (by decide +kernel)
theorem nwd_48 : (ns_nm 48).cls ≠ "java/lang/invoke/MethodHandle" ∧ (ns_nm 48).cls ≠ "java/lang/invoke/VarHandle" ∧ (parseMethodDescriptor (ns_nm 48).desc).map (fun d => d.parameters.length) = some 1 := ⟨by decide +kernel, by decide +kernel, by decide +kernel⟩
theorem nw_701 : Cond.methodLink "NoteSheetModel" 188 ⟨"NoteSheetModel", "change", "(I)V"⟩ ∈ ns_Tb := ns_in 701 (by decide +kernel) (by decide +kernel)
theorem ns_eC82 : ns_pC ((5, 188), (.inl 48, 1, 0, 0, 5, 1)) := ⟨fun y hy => by cases hy; exact ⟨ns_I_M_change, rfl, rfl, rfl, rfl, rfl, nw_704, nw_7, nw_701, nwd_48, fun h => absurd h (by decide), fun _ => ⟨nw_703, nws_48⟩, fun h => absurd h (by decide)⟩, fun z hz => by cases hz⟩
theorem nw_729 : Cond.code ⟨"NoteSheetModel", "enter", "(II)V"⟩ prog_7_method_29_code 3 (none) ∈ ns_Tb := ns_in 729 (by decide +kernel) (by decide +kernel)
theorem nw_728 : Cond.instanceMethod ⟨"NoteSheetModel", "enter", "(II)V"⟩ ∈ ns_Tb := ns_in 728 (by decide +kernel) (by decide +kernel)
theorem nws_58 : Cond.selects "NoteSheetModel" ⟨"NoteSheetModel", "enter", "(II)V"⟩ ⟨"NoteSheetModel", "enter", "(II)V"⟩ ∈ ns_Tb := ns_inS (y := ⟨"NoteSheetModel", "enter", "(II)V"⟩) (n := 43) 40 (by decide +kernel) (by decide +kernel)
theorem nwd_58 : (ns_nm 58).cls ≠ "java/lang/invoke/MethodHandle" ∧ (ns_nm 58).cls ≠ "java/lang/invoke/VarHandle" ∧ (parseMethodDescriptor (ns_nm 58).desc).map (fun d => d.parameters.length) = some 2 := ⟨by decide +kernel, by decide +kernel, by decide +kernel⟩
theorem nw_726 : Cond.methodLink "NoteSheetModel" 197 ⟨"NoteSheetModel", "enter", "(II)V"⟩ ∈ ns_Tb := ns_in 726 (by decide +kernel) (by decide +kernel)
theorem ns_eC83 : ns_pC ((5, 197), (.inl 58, 2, 0, 0, 5, 1)) := ⟨fun y hy => by cases hy; exact ⟨ns_I_M_enter, rfl, rfl, rfl, rfl, rfl, nw_729, nw_7, nw_726, nwd_58, fun h => absurd h (by decide), fun _ => ⟨nw_728, nws_58⟩, fun h => absurd h (by decide)⟩, fun z hz => by cases hz⟩
theorem nw_741 : Cond.code ⟨"NoteSheetModel", "lookThrough", "(II)V"⟩ prog_7_method_30_code 5 (none) ∈ ns_Tb := ns_in 741 (by decide +kernel) (by decide +kernel)
theorem nw_740 : Cond.instanceMethod ⟨"NoteSheetModel", "lookThrough", "(II)V"⟩ ∈ ns_Tb := ns_in 740 (by decide +kernel) (by decide +kernel)
theorem nws_59 : Cond.selects "NoteSheetModel" ⟨"NoteSheetModel", "lookThrough", "(II)V"⟩ ⟨"NoteSheetModel", "lookThrough", "(II)V"⟩ ∈ ns_Tb := ns_inS (y := ⟨"NoteSheetModel", "lookThrough", "(II)V"⟩) (n := 43) 43 (by decide +kernel) (by decide +kernel)
theorem nwd_59 : (ns_nm 59).cls ≠ "java/lang/invoke/MethodHandle" ∧ (ns_nm 59).cls ≠ "java/lang/invoke/VarHandle" ∧ (parseMethodDescriptor (ns_nm 59).desc).map (fun d => d.parameters.length) = some 2 := ⟨by decide +kernel, by decide +kernel, by decide +kernel⟩
theorem nw_738 : Cond.methodLink "NoteSheetModel" 200 ⟨"NoteSheetModel", "lookThrough", "(II)V"⟩ ∈ ns_Tb := ns_in 738 (by decide +kernel) (by decide +kernel)
theorem ns_eC84 : ns_pC ((5, 200), (.inl 59, 2, 0, 0, 5, 1)) := ⟨fun y hy => by cases hy; exact ⟨ns_I_M_lookThrough, rfl, rfl, rfl, rfl, rfl, nw_741, nw_7, nw_738, nwd_59, fun h => absurd h (by decide), fun _ => ⟨nw_740, nws_59⟩, fun h => absurd h (by decide)⟩, fun z hz => by cases hz⟩
theorem nw_753 : Cond.code ⟨"NoteSheetModel", "worked", "(IIJ)V"⟩ prog_7_method_31_code 8 (none) ∈ ns_Tb := ns_in 753 (by decide +kernel) (by decide +kernel)
theorem nw_752 : Cond.instanceMethod ⟨"NoteSheetModel", "worked", "(IIJ)V"⟩ ∈ ns_Tb := ns_in 752 (by decide +kernel) (by decide +kernel)
theorem nws_60 : Cond.selects "NoteSheetModel" ⟨"NoteSheetModel", "worked", "(IIJ)V"⟩ ⟨"NoteSheetModel", "worked", "(IIJ)V"⟩ ∈ ns_Tb := ns_inS (y := ⟨"NoteSheetModel", "worked", "(IIJ)V"⟩) (n := 43) 46 (by decide +kernel) (by decide +kernel)
theorem nwd_60 : (ns_nm 60).cls ≠ "java/lang/invoke/MethodHandle" ∧ (ns_nm 60).cls ≠ "java/lang/invoke/VarHandle" ∧ (parseMethodDescriptor (ns_nm 60).desc).map (fun d => d.parameters.length) = some 3 := ⟨by decide +kernel, by decide +kernel, by decide +kernel⟩
theorem nw_750 : Cond.methodLink "NoteSheetModel" 203 ⟨"NoteSheetModel", "worked", "(IIJ)V"⟩ ∈ ns_Tb := ns_in 750 (by decide +kernel) (by decide +kernel)
theorem ns_eC85 : ns_pC ((5, 203), (.inl 60, 3, 0, 0, 5, 1)) := ⟨fun y hy => by cases hy; exact ⟨ns_I_M_worked, rfl, rfl, rfl, rfl, rfl, nw_753, nw_7, nw_750, nwd_60, fun h => absurd h (by decide), fun _ => ⟨nw_752, nws_60⟩, fun h => absurd h (by decide)⟩, fun z hz => by cases hz⟩
theorem nw_761 : Cond.code ⟨"NoteSheetModel", "advance", "(II)V"⟩ prog_7_method_34_code 6 (none) ∈ ns_Tb := ns_in 761 (by decide +kernel) (by decide +kernel)
theorem nw_760 : Cond.instanceMethod ⟨"NoteSheetModel", "advance", "(II)V"⟩ ∈ ns_Tb := ns_in 760 (by decide +kernel) (by decide +kernel)
theorem nws_63 : Cond.selects "NoteSheetModel" ⟨"NoteSheetModel", "advance", "(II)V"⟩ ⟨"NoteSheetModel", "advance", "(II)V"⟩ ∈ ns_Tb := ns_inS (y := ⟨"NoteSheetModel", "advance", "(II)V"⟩) (n := 43) 48 (by decide +kernel) (by decide +kernel)
theorem nwd_63 : (ns_nm 63).cls ≠ "java/lang/invoke/MethodHandle" ∧ (ns_nm 63).cls ≠ "java/lang/invoke/VarHandle" ∧ (parseMethodDescriptor (ns_nm 63).desc).map (fun d => d.parameters.length) = some 2 := ⟨by decide +kernel, by decide +kernel, by decide +kernel⟩
theorem nw_758 : Cond.methodLink "NoteSheetModel" 207 ⟨"NoteSheetModel", "advance", "(II)V"⟩ ∈ ns_Tb := ns_in 758 (by decide +kernel) (by decide +kernel)
theorem ns_eC86 : ns_pC ((5, 207), (.inl 63, 2, 0, 0, 5, 1)) := ⟨fun y hy => by cases hy; exact ⟨ns_I_M_advance, rfl, rfl, rfl, rfl, rfl, nw_761, nw_7, nw_758, nwd_63, fun h => absurd h (by decide), fun _ => ⟨nw_760, nws_63⟩, fun h => absurd h (by decide)⟩, fun z hz => by cases hz⟩
theorem nw_733 : Cond.code ⟨"NoteSheetModel", "counts", "(II)V"⟩ prog_7_method_25_code 3 (none) ∈ ns_Tb := ns_in 733 (by decide +kernel) (by decide +kernel)
theorem nw_732 : Cond.instanceMethod ⟨"NoteSheetModel", "counts", "(II)V"⟩ ∈ ns_Tb := ns_in 732 (by decide +kernel) (by decide +kernel)
theorem nws_54 : Cond.selects "NoteSheetModel" ⟨"NoteSheetModel", "counts", "(II)V"⟩ ⟨"NoteSheetModel", "counts", "(II)V"⟩ ∈ ns_Tb := ns_inS (y := ⟨"NoteSheetModel", "counts", "(II)V"⟩) (n := 43) 41 (by decide +kernel) (by decide +kernel)
theorem nwd_54 : (ns_nm 54).cls ≠ "java/lang/invoke/MethodHandle" ∧ (ns_nm 54).cls ≠ "java/lang/invoke/VarHandle" ∧ (parseMethodDescriptor (ns_nm 54).desc).map (fun d => d.parameters.length) = some 2 := ⟨by decide +kernel, by decide +kernel, by decide +kernel⟩
theorem nw_730 : Cond.methodLink "NoteSheetModel" 210 ⟨"NoteSheetModel", "counts", "(II)V"⟩ ∈ ns_Tb := ns_in 730 (by decide +kernel) (by decide +kernel)
theorem ns_eC87 : ns_pC ((5, 210), (.inl 54, 2, 0, 0, 5, 1)) := ⟨fun y hy => by cases hy; exact ⟨ns_I_M_counts, rfl, rfl, rfl, rfl, rfl, nw_733, nw_7, nw_730, nwd_54, fun h => absurd h (by decide), fun _ => ⟨nw_732, nws_54⟩, fun h => absurd h (by decide)⟩, fun z hz => by cases hz⟩
theorem nw_737 : Cond.code ⟨"NoteSheetModel", "finish", "()V"⟩ prog_7_method_26_code 1 (none) ∈ ns_Tb := ns_in 737 (by decide +kernel) (by decide +kernel)
theorem nw_736 : Cond.instanceMethod ⟨"NoteSheetModel", "finish", "()V"⟩ ∈ ns_Tb := ns_in 736 (by decide +kernel) (by decide +kernel)
theorem nws_55 : Cond.selects "NoteSheetModel" ⟨"NoteSheetModel", "finish", "()V"⟩ ⟨"NoteSheetModel", "finish", "()V"⟩ ∈ ns_Tb := ns_inS (y := ⟨"NoteSheetModel", "finish", "()V"⟩) (n := 43) 42 (by decide +kernel) (by decide +kernel)
theorem nwd_55 : (ns_nm 55).cls ≠ "java/lang/invoke/MethodHandle" ∧ (ns_nm 55).cls ≠ "java/lang/invoke/VarHandle" ∧ (parseMethodDescriptor (ns_nm 55).desc).map (fun d => d.parameters.length) = some 0 := ⟨by decide +kernel, by decide +kernel, by decide +kernel⟩
theorem nw_734 : Cond.methodLink "NoteSheetModel" 213 ⟨"NoteSheetModel", "finish", "()V"⟩ ∈ ns_Tb := ns_in 734 (by decide +kernel) (by decide +kernel)
theorem ns_eC88 : ns_pC ((5, 213), (.inl 55, 0, 0, 0, 5, 1)) := ⟨fun y hy => by cases hy; exact ⟨ns_I_M_finish, rfl, rfl, rfl, rfl, rfl, nw_737, nw_7, nw_734, nwd_55, fun h => absurd h (by decide), fun _ => ⟨nw_736, nws_55⟩, fun h => absurd h (by decide)⟩, fun z hz => by cases hz⟩
theorem nw_745 : Cond.code ⟨"NoteSheetModel", "durabilityOf", "(I)I"⟩ prog_7_method_22_code 2 (some .int) ∈ ns_Tb := ns_in 745 (by decide +kernel) (by decide +kernel)
theorem nw_744 : Cond.instanceMethod ⟨"NoteSheetModel", "durabilityOf", "(I)I"⟩ ∈ ns_Tb := ns_in 744 (by decide +kernel) (by decide +kernel)
theorem nws_51 : Cond.selects "NoteSheetModel" ⟨"NoteSheetModel", "durabilityOf", "(I)I"⟩ ⟨"NoteSheetModel", "durabilityOf", "(I)I"⟩ ∈ ns_Tb := ns_inS (y := ⟨"NoteSheetModel", "durabilityOf", "(I)I"⟩) (n := 43) 44 (by decide +kernel) (by decide +kernel)
theorem nwd_51 : (ns_nm 51).cls ≠ "java/lang/invoke/MethodHandle" ∧ (ns_nm 51).cls ≠ "java/lang/invoke/VarHandle" ∧ (parseMethodDescriptor (ns_nm 51).desc).map (fun d => d.parameters.length) = some 1 := ⟨by decide +kernel, by decide +kernel, by decide +kernel⟩
theorem nw_742 : Cond.methodLink "NoteSheetModel" 216 ⟨"NoteSheetModel", "durabilityOf", "(I)I"⟩ ∈ ns_Tb := ns_in 742 (by decide +kernel) (by decide +kernel)
theorem ns_eC89 : ns_pC ((5, 216), (.inl 51, 1, 0, 0, 5, 1)) := ⟨fun y hy => by cases hy; exact ⟨ns_I_M_durabilityOf, rfl, rfl, rfl, rfl, rfl, nw_745, nw_7, nw_742, nwd_51, fun h => absurd h (by decide), fun _ => ⟨nw_744, nws_51⟩, fun h => absurd h (by decide)⟩, fun z hz => by cases hz⟩
theorem nw_717 : Cond.code ⟨"NoteSheetModel", "settled", "(I)Z"⟩ prog_7_method_21_code 2 (some .boolean) ∈ ns_Tb := ns_in 717 (by decide +kernel) (by decide +kernel)
theorem nw_716 : Cond.instanceMethod ⟨"NoteSheetModel", "settled", "(I)Z"⟩ ∈ ns_Tb := ns_in 716 (by decide +kernel) (by decide +kernel)
theorem nws_50 : Cond.selects "NoteSheetModel" ⟨"NoteSheetModel", "settled", "(I)Z"⟩ ⟨"NoteSheetModel", "settled", "(I)Z"⟩ ∈ ns_Tb := ns_inS (y := ⟨"NoteSheetModel", "settled", "(I)Z"⟩) (n := 43) 37 (by decide +kernel) (by decide +kernel)
theorem nwd_50 : (ns_nm 50).cls ≠ "java/lang/invoke/MethodHandle" ∧ (ns_nm 50).cls ≠ "java/lang/invoke/VarHandle" ∧ (parseMethodDescriptor (ns_nm 50).desc).map (fun d => d.parameters.length) = some 1 := ⟨by decide +kernel, by decide +kernel, by decide +kernel⟩
theorem nw_714 : Cond.methodLink "NoteSheetModel" 219 ⟨"NoteSheetModel", "settled", "(I)Z"⟩ ∈ ns_Tb := ns_in 714 (by decide +kernel) (by decide +kernel)
theorem ns_eC90 : ns_pC ((5, 219), (.inl 50, 1, 0, 0, 5, 1)) := ⟨fun y hy => by cases hy; exact ⟨ns_I_M_settled, rfl, rfl, rfl, rfl, rfl, nw_717, nw_7, nw_714, nwd_50, fun h => absurd h (by decide), fun _ => ⟨nw_716, nws_50⟩, fun h => absurd h (by decide)⟩, fun z hz => by cases hz⟩
theorem nw_721 : Cond.code ⟨"NoteSheetModel", "start", "(II)V"⟩ prog_7_method_24_code 3 (none) ∈ ns_Tb := ns_in 721 (by decide +kernel) (by decide +kernel)
theorem nw_720 : Cond.instanceMethod ⟨"NoteSheetModel", "start", "(II)V"⟩ ∈ ns_Tb := ns_in 720 (by decide +kernel) (by decide +kernel)
theorem nws_53 : Cond.selects "NoteSheetModel" ⟨"NoteSheetModel", "start", "(II)V"⟩ ⟨"NoteSheetModel", "start", "(II)V"⟩ ∈ ns_Tb := ns_inS (y := ⟨"NoteSheetModel", "start", "(II)V"⟩) (n := 43) 38 (by decide +kernel) (by decide +kernel)
theorem nwd_53 : (ns_nm 53).cls ≠ "java/lang/invoke/MethodHandle" ∧ (ns_nm 53).cls ≠ "java/lang/invoke/VarHandle" ∧ (parseMethodDescriptor (ns_nm 53).desc).map (fun d => d.parameters.length) = some 2 := ⟨by decide +kernel, by decide +kernel, by decide +kernel⟩
theorem nw_718 : Cond.methodLink "NoteSheetModel" 222 ⟨"NoteSheetModel", "start", "(II)V"⟩ ∈ ns_Tb := ns_in 718 (by decide +kernel) (by decide +kernel)
theorem ns_eC91 : ns_pC ((5, 222), (.inl 53, 2, 0, 0, 5, 1)) := ⟨fun y hy => by cases hy; exact ⟨ns_I_M_start, rfl, rfl, rfl, rfl, rfl, nw_721, nw_7, nw_718, nwd_53, fun h => absurd h (by decide), fun _ => ⟨nw_720, nws_53⟩, fun h => absurd h (by decide)⟩, fun z hz => by cases hz⟩
theorem nw_749 : Cond.code ⟨"NoteSheetModel", "sinceOf", "(I)I"⟩ prog_7_method_23_code 2 (some .int) ∈ ns_Tb := ns_in 749 (by decide +kernel) (by decide +kernel)
theorem nw_748 : Cond.instanceMethod ⟨"NoteSheetModel", "sinceOf", "(I)I"⟩ ∈ ns_Tb := ns_in 748 (by decide +kernel) (by decide +kernel)
theorem nws_52 : Cond.selects "NoteSheetModel" ⟨"NoteSheetModel", "sinceOf", "(I)I"⟩ ⟨"NoteSheetModel", "sinceOf", "(I)I"⟩ ∈ ns_Tb := ns_inS (y := ⟨"NoteSheetModel", "sinceOf", "(I)I"⟩) (n := 43) 45 (by decide +kernel) (by decide +kernel)
theorem nwd_52 : (ns_nm 52).cls ≠ "java/lang/invoke/MethodHandle" ∧ (ns_nm 52).cls ≠ "java/lang/invoke/VarHandle" ∧ (parseMethodDescriptor (ns_nm 52).desc).map (fun d => d.parameters.length) = some 1 := ⟨by decide +kernel, by decide +kernel, by decide +kernel⟩
theorem nw_746 : Cond.methodLink "NoteSheetModel" 225 ⟨"NoteSheetModel", "sinceOf", "(I)I"⟩ ∈ ns_Tb := ns_in 746 (by decide +kernel) (by decide +kernel)
theorem ns_eC92 : ns_pC ((5, 225), (.inl 52, 1, 0, 0, 5, 1)) := ⟨fun y hy => by cases hy; exact ⟨ns_I_M_sinceOf, rfl, rfl, rfl, rfl, rfl, nw_749, nw_7, nw_746, nwd_52, fun h => absurd h (by decide), fun _ => ⟨nw_748, nws_52⟩, fun h => absurd h (by decide)⟩, fun z hz => by cases hz⟩
theorem nw_757 : Cond.code ⟨"NoteSheetModel", "use", "(I)V"⟩ prog_7_method_27_code 2 (none) ∈ ns_Tb := ns_in 757 (by decide +kernel) (by decide +kernel)
theorem nw_756 : Cond.instanceMethod ⟨"NoteSheetModel", "use", "(I)V"⟩ ∈ ns_Tb := ns_in 756 (by decide +kernel) (by decide +kernel)
theorem nws_56 : Cond.selects "NoteSheetModel" ⟨"NoteSheetModel", "use", "(I)V"⟩ ⟨"NoteSheetModel", "use", "(I)V"⟩ ∈ ns_Tb := ns_inS (y := ⟨"NoteSheetModel", "use", "(I)V"⟩) (n := 43) 47 (by decide +kernel) (by decide +kernel)
theorem nwd_56 : (ns_nm 56).cls ≠ "java/lang/invoke/MethodHandle" ∧ (ns_nm 56).cls ≠ "java/lang/invoke/VarHandle" ∧ (parseMethodDescriptor (ns_nm 56).desc).map (fun d => d.parameters.length) = some 1 := ⟨by decide +kernel, by decide +kernel, by decide +kernel⟩
theorem nw_754 : Cond.methodLink "NoteSheetModel" 228 ⟨"NoteSheetModel", "use", "(I)V"⟩ ∈ ns_Tb := ns_in 754 (by decide +kernel) (by decide +kernel)
theorem ns_eC93 : ns_pC ((5, 228), (.inl 56, 1, 0, 0, 5, 1)) := ⟨fun y hy => by cases hy; exact ⟨ns_I_M_use, rfl, rfl, rfl, rfl, rfl, nw_757, nw_7, nw_754, nwd_56, fun h => absurd h (by decide), fun _ => ⟨nw_756, nws_56⟩, fun h => absurd h (by decide)⟩, fun z hz => by cases hz⟩
theorem nw_765 : Cond.code ⟨"NoteSheetModel", "look", "(III)V"⟩ prog_7_method_36_code 7 (none) ∈ ns_Tb := ns_in 765 (by decide +kernel) (by decide +kernel)
theorem nw_764 : Cond.instanceMethod ⟨"NoteSheetModel", "look", "(III)V"⟩ ∈ ns_Tb := ns_in 764 (by decide +kernel) (by decide +kernel)
theorem nws_65 : Cond.selects "NoteSheetModel" ⟨"NoteSheetModel", "look", "(III)V"⟩ ⟨"NoteSheetModel", "look", "(III)V"⟩ ∈ ns_Tb := ns_inS (y := ⟨"NoteSheetModel", "look", "(III)V"⟩) (n := 43) 49 (by decide +kernel) (by decide +kernel)
theorem nwd_65 : (ns_nm 65).cls ≠ "java/lang/invoke/MethodHandle" ∧ (ns_nm 65).cls ≠ "java/lang/invoke/VarHandle" ∧ (parseMethodDescriptor (ns_nm 65).desc).map (fun d => d.parameters.length) = some 3 := ⟨by decide +kernel, by decide +kernel, by decide +kernel⟩
theorem nw_762 : Cond.methodLink "NoteSheetModel" 231 ⟨"NoteSheetModel", "look", "(III)V"⟩ ∈ ns_Tb := ns_in 762 (by decide +kernel) (by decide +kernel)
theorem ns_eC94 : ns_pC ((5, 231), (.inl 65, 3, 0, 0, 5, 1)) := ⟨fun y hy => by cases hy; exact ⟨ns_I_M_look, rfl, rfl, rfl, rfl, rfl, nw_765, nw_7, nw_762, nwd_65, fun h => absurd h (by decide), fun _ => ⟨nw_764, nws_65⟩, fun h => absurd h (by decide)⟩, fun z hz => by cases hz⟩
theorem nw_770 : Cond.code ⟨"NoteSheetModel", "push", "(IJ)V"⟩ prog_7_method_32_code 4 (none) ∈ ns_Tb := ns_in 770 (by decide +kernel) (by decide +kernel)
theorem nw_769 : Cond.instanceMethod ⟨"NoteSheetModel", "push", "(IJ)V"⟩ ∈ ns_Tb := ns_in 769 (by decide +kernel) (by decide +kernel)
theorem nws_61 : Cond.selects "NoteSheetModel" ⟨"NoteSheetModel", "push", "(IJ)V"⟩ ⟨"NoteSheetModel", "push", "(IJ)V"⟩ ∈ ns_Tb := ns_inS (y := ⟨"NoteSheetModel", "push", "(IJ)V"⟩) (n := 43) 50 (by decide +kernel) (by decide +kernel)
theorem nwd_61 : (ns_nm 61).cls ≠ "java/lang/invoke/MethodHandle" ∧ (ns_nm 61).cls ≠ "java/lang/invoke/VarHandle" ∧ (parseMethodDescriptor (ns_nm 61).desc).map (fun d => d.parameters.length) = some 2 := ⟨by decide +kernel, by decide +kernel, by decide +kernel⟩
theorem nw_767 : Cond.methodLink "NoteSheetModel" 235 ⟨"NoteSheetModel", "push", "(IJ)V"⟩ ∈ ns_Tb := ns_in 767 (by decide +kernel) (by decide +kernel)
theorem ns_eC95 : ns_pC ((5, 235), (.inl 61, 2, 0, 0, 5, 1)) := ⟨fun y hy => by cases hy; exact ⟨ns_I_M_push, rfl, rfl, rfl, rfl, rfl, nw_770, nw_7, nw_767, nwd_61, fun h => absurd h (by decide), fun _ => ⟨nw_769, nws_61⟩, fun h => absurd h (by decide)⟩, fun z hz => by cases hz⟩
theorem nw_774 : Cond.code ⟨"NoteSheetModel", "pop", "(I)J"⟩ prog_7_method_33_code 2 (some .long) ∈ ns_Tb := ns_in 774 (by decide +kernel) (by decide +kernel)
theorem nw_773 : Cond.instanceMethod ⟨"NoteSheetModel", "pop", "(I)J"⟩ ∈ ns_Tb := ns_in 773 (by decide +kernel) (by decide +kernel)
theorem nws_62 : Cond.selects "NoteSheetModel" ⟨"NoteSheetModel", "pop", "(I)J"⟩ ⟨"NoteSheetModel", "pop", "(I)J"⟩ ∈ ns_Tb := ns_inS (y := ⟨"NoteSheetModel", "pop", "(I)J"⟩) (n := 43) 51 (by decide +kernel) (by decide +kernel)
theorem nwd_62 : (ns_nm 62).cls ≠ "java/lang/invoke/MethodHandle" ∧ (ns_nm 62).cls ≠ "java/lang/invoke/VarHandle" ∧ (parseMethodDescriptor (ns_nm 62).desc).map (fun d => d.parameters.length) = some 1 := ⟨by decide +kernel, by decide +kernel, by decide +kernel⟩
theorem nw_771 : Cond.methodLink "NoteSheetModel" 239 ⟨"NoteSheetModel", "pop", "(I)J"⟩ ∈ ns_Tb := ns_in 771 (by decide +kernel) (by decide +kernel)
theorem ns_eC96 : ns_pC ((5, 239), (.inl 62, 1, 0, 0, 5, 1)) := ⟨fun y hy => by cases hy; exact ⟨ns_I_M_pop, rfl, rfl, rfl, rfl, rfl, nw_774, nw_7, nw_771, nwd_62, fun h => absurd h (by decide), fun _ => ⟨nw_773, nws_62⟩, fun h => absurd h (by decide)⟩, fun z hz => by cases hz⟩
theorem nw_778 : Cond.code ⟨"NoteSheetModel", "combine", "(II)V"⟩ prog_7_method_35_code 5 (none) ∈ ns_Tb := ns_in 778 (by decide +kernel) (by decide +kernel)
theorem nw_777 : Cond.instanceMethod ⟨"NoteSheetModel", "combine", "(II)V"⟩ ∈ ns_Tb := ns_in 777 (by decide +kernel) (by decide +kernel)
theorem nws_64 : Cond.selects "NoteSheetModel" ⟨"NoteSheetModel", "combine", "(II)V"⟩ ⟨"NoteSheetModel", "combine", "(II)V"⟩ ∈ ns_Tb := ns_inS (y := ⟨"NoteSheetModel", "combine", "(II)V"⟩) (n := 43) 52 (by decide +kernel) (by decide +kernel)
theorem nwd_64 : (ns_nm 64).cls ≠ "java/lang/invoke/MethodHandle" ∧ (ns_nm 64).cls ≠ "java/lang/invoke/VarHandle" ∧ (parseMethodDescriptor (ns_nm 64).desc).map (fun d => d.parameters.length) = some 2 := ⟨by decide +kernel, by decide +kernel, by decide +kernel⟩
theorem nw_775 : Cond.methodLink "NoteSheetModel" 243 ⟨"NoteSheetModel", "combine", "(II)V"⟩ ∈ ns_Tb := ns_in 775 (by decide +kernel) (by decide +kernel)
theorem ns_eC97 : ns_pC ((5, 243), (.inl 64, 2, 0, 0, 5, 1)) := ⟨fun y hy => by cases hy; exact ⟨ns_I_M_combine, rfl, rfl, rfl, rfl, rfl, nw_778, nw_7, nw_775, nwd_64, fun h => absurd h (by decide), fun _ => ⟨nw_777, nws_64⟩, fun h => absurd h (by decide)⟩, fun z hz => by cases hz⟩
theorem nw_725 : Cond.code ⟨"NoteSheetModel", "runAll", "()V"⟩ prog_7_method_28_code 2 (none) ∈ ns_Tb := ns_in 725 (by decide +kernel) (by decide +kernel)
theorem nw_724 : Cond.instanceMethod ⟨"NoteSheetModel", "runAll", "()V"⟩ ∈ ns_Tb := ns_in 724 (by decide +kernel) (by decide +kernel)
theorem nws_57 : Cond.selects "NoteSheetModel" ⟨"NoteSheetModel", "runAll", "()V"⟩ ⟨"NoteSheetModel", "runAll", "()V"⟩ ∈ ns_Tb := ns_inS (y := ⟨"NoteSheetModel", "runAll", "()V"⟩) (n := 43) 39 (by decide +kernel) (by decide +kernel)
theorem nwd_57 : (ns_nm 57).cls ≠ "java/lang/invoke/MethodHandle" ∧ (ns_nm 57).cls ≠ "java/lang/invoke/VarHandle" ∧ (parseMethodDescriptor (ns_nm 57).desc).map (fun d => d.parameters.length) = some 0 := ⟨by decide +kernel, by decide +kernel, by decide +kernel⟩
theorem nw_722 : Cond.methodLink "NoteSheetModel" 250 ⟨"NoteSheetModel", "runAll", "()V"⟩ ∈ ns_Tb := ns_in 722 (by decide +kernel) (by decide +kernel)
theorem ns_eC98 : ns_pC ((5, 250), (.inl 57, 0, 0, 0, 5, 1)) := ⟨fun y hy => by cases hy; exact ⟨ns_I_M_runAll, rfl, rfl, rfl, rfl, rfl, nw_725, nw_7, nw_722, nwd_57, fun h => absurd h (by decide), fun _ => ⟨nw_724, nws_57⟩, fun h => absurd h (by decide)⟩, fun z hz => by cases hz⟩
theorem nw_782 : Cond.code ⟨"NoteSheetModel", "values", "()I"⟩ prog_7_method_37_code 3 (some .int) ∈ ns_Tb := ns_in 782 (by decide +kernel) (by decide +kernel)
theorem nw_781 : Cond.instanceMethod ⟨"NoteSheetModel", "values", "()I"⟩ ∈ ns_Tb := ns_in 781 (by decide +kernel) (by decide +kernel)
theorem nws_66 : Cond.selects "NoteSheetModel" ⟨"NoteSheetModel", "values", "()I"⟩ ⟨"NoteSheetModel", "values", "()I"⟩ ∈ ns_Tb := ns_inS (y := ⟨"NoteSheetModel", "values", "()I"⟩) (n := 43) 53 (by decide +kernel) (by decide +kernel)
theorem nwd_66 : (ns_nm 66).cls ≠ "java/lang/invoke/MethodHandle" ∧ (ns_nm 66).cls ≠ "java/lang/invoke/VarHandle" ∧ (parseMethodDescriptor (ns_nm 66).desc).map (fun d => d.parameters.length) = some 0 := ⟨by decide +kernel, by decide +kernel, by decide +kernel⟩
theorem nw_779 : Cond.methodLink "NoteSheetModel" 253 ⟨"NoteSheetModel", "values", "()I"⟩ ∈ ns_Tb := ns_in 779 (by decide +kernel) (by decide +kernel)
theorem ns_eC99 : ns_pC ((5, 253), (.inl 66, 0, 0, 0, 5, 1)) := ⟨fun y hy => by cases hy; exact ⟨ns_I_M_values, rfl, rfl, rfl, rfl, rfl, nw_782, nw_7, nw_779, nwd_66, fun h => absurd h (by decide), fun _ => ⟨nw_781, nws_66⟩, fun h => absurd h (by decide)⟩, fun z hz => by cases hz⟩
theorem nw_498 : Cond.code ⟨"NoteSheetLaw", "cell", "([II)I"⟩ method_2_code 2 (some .int) ∈ ns_Tb := ns_in 498 (by decide +kernel) (by decide +kernel)
theorem nw_0 : Cond.initialized "NoteSheetLaw" ∈ ns_Tb := ns_in 0 (by decide +kernel) (by decide +kernel)
theorem nw_497 : Cond.static ⟨"NoteSheetLaw", "cell", "([II)I"⟩ ∈ ns_Tb := ns_in 497 (by decide +kernel) (by decide +kernel)
theorem nwd_104 : (ns_nm 104).cls ≠ "java/lang/invoke/MethodHandle" ∧ (ns_nm 104).cls ≠ "java/lang/invoke/VarHandle" ∧ (parseMethodDescriptor (ns_nm 104).desc).map (fun d => d.parameters.length) = some 2 := ⟨by decide +kernel, by decide +kernel, by decide +kernel⟩
theorem nw_496 : Cond.methodLink "NoteSheetLaw" 9 ⟨"NoteSheetLaw", "cell", "([II)I"⟩ ∈ ns_Tb := ns_in 496 (by decide +kernel) (by decide +kernel)
theorem ns_eC100 : ns_pC ((6, 9), (.inl 104, 2, 0, 0, 6, 0)) := ⟨fun y hy => by cases hy; exact ⟨ns_I_L_cell, rfl, rfl, rfl, rfl, rfl, nw_498, nw_0, nw_496, nwd_104, fun _ => nw_497, fun h => absurd h (by decide), fun h => absurd h (by decide)⟩, fun z hz => by cases hz⟩
theorem nw_18 : Cond.code ⟨"NoteSheet", "<init>", "(I)V"⟩ prog_1_method_1_code 3 (none) ∈ ns_Tb := ns_in 18 (by decide +kernel) (by decide +kernel)
theorem nw_17 : Cond.instanceMethod ⟨"NoteSheet", "<init>", "(I)V"⟩ ∈ ns_Tb := ns_in 17 (by decide +kernel) (by decide +kernel)
theorem nwd_0 : (ns_nm 0).cls ≠ "java/lang/invoke/MethodHandle" ∧ (ns_nm 0).cls ≠ "java/lang/invoke/VarHandle" ∧ (parseMethodDescriptor (ns_nm 0).desc).map (fun d => d.parameters.length) = some 1 := ⟨by decide +kernel, by decide +kernel, by decide +kernel⟩
theorem nw_16 : Cond.methodLink "NoteSheetLaw" 15 ⟨"NoteSheet", "<init>", "(I)V"⟩ ∈ ns_Tb := ns_in 16 (by decide +kernel) (by decide +kernel)
theorem ns_eC101 : ns_pC ((6, 15), (.inl 0, 1, 103, 1620, 0, 2)) := ⟨fun y hy => by cases hy; exact ⟨ns_I_N_init, rfl, rfl, rfl, rfl, rfl, nw_18, nw_1, nw_16, nwd_0, fun h => absurd h (by decide), fun h => absurd h (by decide), fun _ => ⟨rfl, rfl, nw_17⟩⟩, fun z hz => by cases hz⟩
theorem nw_503 : Cond.code ⟨"NoteSheetModel", "<init>", "(I)V"⟩ prog_7_method_1_code 2 (none) ∈ ns_Tb := ns_in 503 (by decide +kernel) (by decide +kernel)
theorem nw_502 : Cond.instanceMethod ⟨"NoteSheetModel", "<init>", "(I)V"⟩ ∈ ns_Tb := ns_in 502 (by decide +kernel) (by decide +kernel)
theorem nwd_30 : (ns_nm 30).cls ≠ "java/lang/invoke/MethodHandle" ∧ (ns_nm 30).cls ≠ "java/lang/invoke/VarHandle" ∧ (parseMethodDescriptor (ns_nm 30).desc).map (fun d => d.parameters.length) = some 1 := ⟨by decide +kernel, by decide +kernel, by decide +kernel⟩
theorem nw_501 : Cond.methodLink "NoteSheetLaw" 20 ⟨"NoteSheetModel", "<init>", "(I)V"⟩ ∈ ns_Tb := ns_in 501 (by decide +kernel) (by decide +kernel)
theorem ns_eC102 : ns_pC ((6, 20), (.inl 30, 1, 36, 2344, 5, 2)) := ⟨fun y hy => by cases hy; exact ⟨ns_I_M_init, rfl, rfl, rfl, rfl, rfl, nw_503, nw_7, nw_501, nwd_30, fun h => absurd h (by decide), fun h => absurd h (by decide), fun _ => ⟨rfl, rfl, nw_502⟩⟩, fun z hz => by cases hz⟩
theorem nw_185 : Cond.code ⟨"NoteSheet", "type", "(C)Z"⟩ prog_1_method_2_code 2 (some .boolean) ∈ ns_Tb := ns_in 185 (by decide +kernel) (by decide +kernel)
theorem nw_183 : Cond.instanceMethod ⟨"NoteSheet", "type", "(C)Z"⟩ ∈ ns_Tb := ns_in 183 (by decide +kernel) (by decide +kernel)
theorem nw_184 : Cond.selects "NoteSheet" ⟨"NoteSheet", "type", "(C)Z"⟩ ⟨"NoteSheet", "type", "(C)Z"⟩ ∈ ns_Tb := ns_in 184 (by decide +kernel) (by decide +kernel)
theorem nwd_1 : (ns_nm 1).cls ≠ "java/lang/invoke/MethodHandle" ∧ (ns_nm 1).cls ≠ "java/lang/invoke/VarHandle" ∧ (parseMethodDescriptor (ns_nm 1).desc).map (fun d => d.parameters.length) = some 1 := ⟨by decide +kernel, by decide +kernel, by decide +kernel⟩
theorem nw_182 : Cond.methodLink "NoteSheetLaw" 21 ⟨"NoteSheet", "type", "(C)Z"⟩ ∈ ns_Tb := ns_in 182 (by decide +kernel) (by decide +kernel)
theorem ns_eC103 : ns_pC ((6, 21), (.inl 1, 1, 0, 0, 0, 1)) := ⟨fun y hy => by cases hy; exact ⟨ns_I_N_type, rfl, rfl, rfl, rfl, rfl, nw_185, nw_1, nw_182, nwd_1, fun h => absurd h (by decide), fun _ => ⟨nw_183, nw_184⟩, fun h => absurd h (by decide)⟩, fun z hz => by cases hz⟩
theorem nw_640 : Cond.code ⟨"NoteSheetModel", "type", "(C)Z"⟩ prog_7_method_5_code 3 (some .boolean) ∈ ns_Tb := ns_in 640 (by decide +kernel) (by decide +kernel)
theorem nw_638 : Cond.instanceMethod ⟨"NoteSheetModel", "type", "(C)Z"⟩ ∈ ns_Tb := ns_in 638 (by decide +kernel) (by decide +kernel)
theorem nw_639 : Cond.selects "NoteSheetModel" ⟨"NoteSheetModel", "type", "(C)Z"⟩ ⟨"NoteSheetModel", "type", "(C)Z"⟩ ∈ ns_Tb := ns_in 639 (by decide +kernel) (by decide +kernel)
theorem nwd_34 : (ns_nm 34).cls ≠ "java/lang/invoke/MethodHandle" ∧ (ns_nm 34).cls ≠ "java/lang/invoke/VarHandle" ∧ (parseMethodDescriptor (ns_nm 34).desc).map (fun d => d.parameters.length) = some 1 := ⟨by decide +kernel, by decide +kernel, by decide +kernel⟩
theorem nw_637 : Cond.methodLink "NoteSheetLaw" 25 ⟨"NoteSheetModel", "type", "(C)Z"⟩ ∈ ns_Tb := ns_in 637 (by decide +kernel) (by decide +kernel)
theorem ns_eC104 : ns_pC ((6, 25), (.inl 34, 1, 0, 0, 5, 1)) := ⟨fun y hy => by cases hy; exact ⟨ns_I_M_type, rfl, rfl, rfl, rfl, rfl, nw_640, nw_7, nw_637, nwd_34, fun h => absurd h (by decide), fun _ => ⟨nw_638, nw_639⟩, fun h => absurd h (by decide)⟩, fun z hz => by cases hz⟩
theorem nw_286 : Cond.code ⟨"NoteSheet", "define", "(I)I"⟩ prog_1_method_3_code 3 (some .int) ∈ ns_Tb := ns_in 286 (by decide +kernel) (by decide +kernel)
theorem nw_284 : Cond.instanceMethod ⟨"NoteSheet", "define", "(I)I"⟩ ∈ ns_Tb := ns_in 284 (by decide +kernel) (by decide +kernel)
theorem nw_285 : Cond.selects "NoteSheet" ⟨"NoteSheet", "define", "(I)I"⟩ ⟨"NoteSheet", "define", "(I)I"⟩ ∈ ns_Tb := ns_in 285 (by decide +kernel) (by decide +kernel)
theorem nwd_2 : (ns_nm 2).cls ≠ "java/lang/invoke/MethodHandle" ∧ (ns_nm 2).cls ≠ "java/lang/invoke/VarHandle" ∧ (parseMethodDescriptor (ns_nm 2).desc).map (fun d => d.parameters.length) = some 1 := ⟨by decide +kernel, by decide +kernel, by decide +kernel⟩
theorem nw_283 : Cond.methodLink "NoteSheetLaw" 26 ⟨"NoteSheet", "define", "(I)I"⟩ ∈ ns_Tb := ns_in 283 (by decide +kernel) (by decide +kernel)
theorem ns_eC105 : ns_pC ((6, 26), (.inl 2, 1, 0, 0, 0, 1)) := ⟨fun y hy => by cases hy; exact ⟨ns_I_N_define, rfl, rfl, rfl, rfl, rfl, nw_286, nw_1, nw_283, nwd_2, fun h => absurd h (by decide), fun _ => ⟨nw_284, nw_285⟩, fun h => absurd h (by decide)⟩, fun z hz => by cases hz⟩
theorem nw_650 : Cond.code ⟨"NoteSheetModel", "define", "(I)I"⟩ prog_7_method_18_code 6 (some .int) ∈ ns_Tb := ns_in 650 (by decide +kernel) (by decide +kernel)
theorem nw_648 : Cond.instanceMethod ⟨"NoteSheetModel", "define", "(I)I"⟩ ∈ ns_Tb := ns_in 648 (by decide +kernel) (by decide +kernel)
theorem nw_649 : Cond.selects "NoteSheetModel" ⟨"NoteSheetModel", "define", "(I)I"⟩ ⟨"NoteSheetModel", "define", "(I)I"⟩ ∈ ns_Tb := ns_in 649 (by decide +kernel) (by decide +kernel)
theorem nwd_47 : (ns_nm 47).cls ≠ "java/lang/invoke/MethodHandle" ∧ (ns_nm 47).cls ≠ "java/lang/invoke/VarHandle" ∧ (parseMethodDescriptor (ns_nm 47).desc).map (fun d => d.parameters.length) = some 1 := ⟨by decide +kernel, by decide +kernel, by decide +kernel⟩
theorem nw_647 : Cond.methodLink "NoteSheetLaw" 30 ⟨"NoteSheetModel", "define", "(I)I"⟩ ∈ ns_Tb := ns_in 647 (by decide +kernel) (by decide +kernel)
theorem ns_eC106 : ns_pC ((6, 30), (.inl 47, 1, 0, 0, 5, 1)) := ⟨fun y hy => by cases hy; exact ⟨ns_I_M_define, rfl, rfl, rfl, rfl, rfl, nw_650, nw_7, nw_647, nwd_47, fun h => absurd h (by decide), fun _ => ⟨nw_648, nw_649⟩, fun h => absurd h (by decide)⟩, fun z hz => by cases hz⟩
theorem nw_370 : Cond.code ⟨"NoteSheet", "set", "(III)Z"⟩ prog_1_method_4_code 5 (some .boolean) ∈ ns_Tb := ns_in 370 (by decide +kernel) (by decide +kernel)
theorem nw_368 : Cond.instanceMethod ⟨"NoteSheet", "set", "(III)Z"⟩ ∈ ns_Tb := ns_in 368 (by decide +kernel) (by decide +kernel)
theorem nw_369 : Cond.selects "NoteSheet" ⟨"NoteSheet", "set", "(III)Z"⟩ ⟨"NoteSheet", "set", "(III)Z"⟩ ∈ ns_Tb := ns_in 369 (by decide +kernel) (by decide +kernel)
theorem nwd_3 : (ns_nm 3).cls ≠ "java/lang/invoke/MethodHandle" ∧ (ns_nm 3).cls ≠ "java/lang/invoke/VarHandle" ∧ (parseMethodDescriptor (ns_nm 3).desc).map (fun d => d.parameters.length) = some 3 := ⟨by decide +kernel, by decide +kernel, by decide +kernel⟩
theorem nw_367 : Cond.methodLink "NoteSheetLaw" 31 ⟨"NoteSheet", "set", "(III)Z"⟩ ∈ ns_Tb := ns_in 367 (by decide +kernel) (by decide +kernel)
theorem ns_eC107 : ns_pC ((6, 31), (.inl 3, 3, 0, 0, 0, 1)) := ⟨fun y hy => by cases hy; exact ⟨ns_I_N_set, rfl, rfl, rfl, rfl, rfl, nw_370, nw_1, nw_367, nwd_3, fun h => absurd h (by decide), fun _ => ⟨nw_368, nw_369⟩, fun h => absurd h (by decide)⟩, fun z hz => by cases hz⟩
theorem nw_708 : Cond.code ⟨"NoteSheetModel", "set", "(III)Z"⟩ prog_7_method_20_code 5 (some .boolean) ∈ ns_Tb := ns_in 708 (by decide +kernel) (by decide +kernel)
theorem nw_706 : Cond.instanceMethod ⟨"NoteSheetModel", "set", "(III)Z"⟩ ∈ ns_Tb := ns_in 706 (by decide +kernel) (by decide +kernel)
theorem nw_707 : Cond.selects "NoteSheetModel" ⟨"NoteSheetModel", "set", "(III)Z"⟩ ⟨"NoteSheetModel", "set", "(III)Z"⟩ ∈ ns_Tb := ns_in 707 (by decide +kernel) (by decide +kernel)
theorem nwd_49 : (ns_nm 49).cls ≠ "java/lang/invoke/MethodHandle" ∧ (ns_nm 49).cls ≠ "java/lang/invoke/VarHandle" ∧ (parseMethodDescriptor (ns_nm 49).desc).map (fun d => d.parameters.length) = some 3 := ⟨by decide +kernel, by decide +kernel, by decide +kernel⟩
theorem nw_705 : Cond.methodLink "NoteSheetLaw" 35 ⟨"NoteSheetModel", "set", "(III)Z"⟩ ∈ ns_Tb := ns_in 705 (by decide +kernel) (by decide +kernel)
theorem ns_eC108 : ns_pC ((6, 35), (.inl 49, 3, 0, 0, 5, 1)) := ⟨fun y hy => by cases hy; exact ⟨ns_I_M_set, rfl, rfl, rfl, rfl, rfl, nw_708, nw_7, nw_705, nwd_49, fun h => absurd h (by decide), fun _ => ⟨nw_706, nw_707⟩, fun h => absurd h (by decide)⟩, fun z hz => by cases hz⟩
theorem nw_385 : Cond.code ⟨"NoteSheet", "ask", "(I)J"⟩ prog_1_method_5_code 4 (some .long) ∈ ns_Tb := ns_in 385 (by decide +kernel) (by decide +kernel)
theorem nw_383 : Cond.instanceMethod ⟨"NoteSheet", "ask", "(I)J"⟩ ∈ ns_Tb := ns_in 383 (by decide +kernel) (by decide +kernel)
theorem nw_384 : Cond.selects "NoteSheet" ⟨"NoteSheet", "ask", "(I)J"⟩ ⟨"NoteSheet", "ask", "(I)J"⟩ ∈ ns_Tb := ns_in 384 (by decide +kernel) (by decide +kernel)
theorem nwd_4 : (ns_nm 4).cls ≠ "java/lang/invoke/MethodHandle" ∧ (ns_nm 4).cls ≠ "java/lang/invoke/VarHandle" ∧ (parseMethodDescriptor (ns_nm 4).desc).map (fun d => d.parameters.length) = some 1 := ⟨by decide +kernel, by decide +kernel, by decide +kernel⟩
theorem nw_382 : Cond.methodLink "NoteSheetLaw" 36 ⟨"NoteSheet", "ask", "(I)J"⟩ ∈ ns_Tb := ns_in 382 (by decide +kernel) (by decide +kernel)
theorem ns_eC109 : ns_pC ((6, 36), (.inl 4, 1, 0, 0, 0, 1)) := ⟨fun y hy => by cases hy; exact ⟨ns_I_N_ask, rfl, rfl, rfl, rfl, rfl, nw_385, nw_1, nw_382, nwd_4, fun h => absurd h (by decide), fun _ => ⟨nw_383, nw_384⟩, fun h => absurd h (by decide)⟩, fun z hz => by cases hz⟩
theorem nw_712 : Cond.code ⟨"NoteSheetModel", "ask", "(I)J"⟩ prog_7_method_38_code 6 (some .long) ∈ ns_Tb := ns_in 712 (by decide +kernel) (by decide +kernel)
theorem nw_710 : Cond.instanceMethod ⟨"NoteSheetModel", "ask", "(I)J"⟩ ∈ ns_Tb := ns_in 710 (by decide +kernel) (by decide +kernel)
theorem nw_711 : Cond.selects "NoteSheetModel" ⟨"NoteSheetModel", "ask", "(I)J"⟩ ⟨"NoteSheetModel", "ask", "(I)J"⟩ ∈ ns_Tb := ns_in 711 (by decide +kernel) (by decide +kernel)
theorem nwd_67 : (ns_nm 67).cls ≠ "java/lang/invoke/MethodHandle" ∧ (ns_nm 67).cls ≠ "java/lang/invoke/VarHandle" ∧ (parseMethodDescriptor (ns_nm 67).desc).map (fun d => d.parameters.length) = some 1 := ⟨by decide +kernel, by decide +kernel, by decide +kernel⟩
theorem nw_709 : Cond.methodLink "NoteSheetLaw" 40 ⟨"NoteSheetModel", "ask", "(I)J"⟩ ∈ ns_Tb := ns_in 709 (by decide +kernel) (by decide +kernel)
theorem ns_eC110 : ns_pC ((6, 40), (.inl 67, 1, 0, 0, 5, 1)) := ⟨fun y hy => by cases hy; exact ⟨ns_I_M_ask, rfl, rfl, rfl, rfl, rfl, nw_712, nw_7, nw_709, nwd_67, fun h => absurd h (by decide), fun _ => ⟨nw_710, nw_711⟩, fun h => absurd h (by decide)⟩, fun z hz => by cases hz⟩
theorem nw_479 : Cond.code ⟨"NoteSheet", "revision", "()I"⟩ prog_1_method_6_code 1 (some .int) ∈ ns_Tb := ns_in 479 (by decide +kernel) (by decide +kernel)
theorem nw_477 : Cond.instanceMethod ⟨"NoteSheet", "revision", "()I"⟩ ∈ ns_Tb := ns_in 477 (by decide +kernel) (by decide +kernel)
theorem nw_478 : Cond.selects "NoteSheet" ⟨"NoteSheet", "revision", "()I"⟩ ⟨"NoteSheet", "revision", "()I"⟩ ∈ ns_Tb := ns_in 478 (by decide +kernel) (by decide +kernel)
theorem nwd_5 : (ns_nm 5).cls ≠ "java/lang/invoke/MethodHandle" ∧ (ns_nm 5).cls ≠ "java/lang/invoke/VarHandle" ∧ (parseMethodDescriptor (ns_nm 5).desc).map (fun d => d.parameters.length) = some 0 := ⟨by decide +kernel, by decide +kernel, by decide +kernel⟩
theorem nw_476 : Cond.methodLink "NoteSheetLaw" 41 ⟨"NoteSheet", "revision", "()I"⟩ ∈ ns_Tb := ns_in 476 (by decide +kernel) (by decide +kernel)
theorem ns_eC111 : ns_pC ((6, 41), (.inl 5, 0, 0, 0, 0, 1)) := ⟨fun y hy => by cases hy; exact ⟨ns_I_N_revision, rfl, rfl, rfl, rfl, rfl, nw_479, nw_1, nw_476, nwd_5, fun h => absurd h (by decide), fun _ => ⟨nw_477, nw_478⟩, fun h => absurd h (by decide)⟩, fun z hz => by cases hz⟩
theorem nw_786 : Cond.code ⟨"NoteSheetModel", "revision", "()I"⟩ prog_7_method_39_code 1 (some .int) ∈ ns_Tb := ns_in 786 (by decide +kernel) (by decide +kernel)
theorem nw_784 : Cond.instanceMethod ⟨"NoteSheetModel", "revision", "()I"⟩ ∈ ns_Tb := ns_in 784 (by decide +kernel) (by decide +kernel)
theorem nw_785 : Cond.selects "NoteSheetModel" ⟨"NoteSheetModel", "revision", "()I"⟩ ⟨"NoteSheetModel", "revision", "()I"⟩ ∈ ns_Tb := ns_in 785 (by decide +kernel) (by decide +kernel)
theorem nwd_68 : (ns_nm 68).cls ≠ "java/lang/invoke/MethodHandle" ∧ (ns_nm 68).cls ≠ "java/lang/invoke/VarHandle" ∧ (parseMethodDescriptor (ns_nm 68).desc).map (fun d => d.parameters.length) = some 0 := ⟨by decide +kernel, by decide +kernel, by decide +kernel⟩
theorem nw_783 : Cond.methodLink "NoteSheetLaw" 45 ⟨"NoteSheetModel", "revision", "()I"⟩ ∈ ns_Tb := ns_in 783 (by decide +kernel) (by decide +kernel)
theorem ns_eC112 : ns_pC ((6, 45), (.inl 68, 0, 0, 0, 5, 1)) := ⟨fun y hy => by cases hy; exact ⟨ns_I_M_revision, rfl, rfl, rfl, rfl, rfl, nw_786, nw_7, nw_783, nwd_68, fun h => absurd h (by decide), fun _ => ⟨nw_784, nw_785⟩, fun h => absurd h (by decide)⟩, fun z hz => by cases hz⟩
theorem nw_483 : Cond.code ⟨"NoteSheet", "changed", "(I)I"⟩ prog_1_method_7_code 2 (some .int) ∈ ns_Tb := ns_in 483 (by decide +kernel) (by decide +kernel)
theorem nw_481 : Cond.instanceMethod ⟨"NoteSheet", "changed", "(I)I"⟩ ∈ ns_Tb := ns_in 481 (by decide +kernel) (by decide +kernel)
theorem nw_482 : Cond.selects "NoteSheet" ⟨"NoteSheet", "changed", "(I)I"⟩ ⟨"NoteSheet", "changed", "(I)I"⟩ ∈ ns_Tb := ns_in 482 (by decide +kernel) (by decide +kernel)
theorem nwd_6 : (ns_nm 6).cls ≠ "java/lang/invoke/MethodHandle" ∧ (ns_nm 6).cls ≠ "java/lang/invoke/VarHandle" ∧ (parseMethodDescriptor (ns_nm 6).desc).map (fun d => d.parameters.length) = some 1 := ⟨by decide +kernel, by decide +kernel, by decide +kernel⟩
theorem nw_480 : Cond.methodLink "NoteSheetLaw" 46 ⟨"NoteSheet", "changed", "(I)I"⟩ ∈ ns_Tb := ns_in 480 (by decide +kernel) (by decide +kernel)
theorem ns_eC113 : ns_pC ((6, 46), (.inl 6, 1, 0, 0, 0, 1)) := ⟨fun y hy => by cases hy; exact ⟨ns_I_N_changed, rfl, rfl, rfl, rfl, rfl, nw_483, nw_1, nw_480, nwd_6, fun h => absurd h (by decide), fun _ => ⟨nw_481, nw_482⟩, fun h => absurd h (by decide)⟩, fun z hz => by cases hz⟩
theorem nw_790 : Cond.code ⟨"NoteSheetModel", "changed", "(I)I"⟩ prog_7_method_40_code 2 (some .int) ∈ ns_Tb := ns_in 790 (by decide +kernel) (by decide +kernel)
theorem nw_788 : Cond.instanceMethod ⟨"NoteSheetModel", "changed", "(I)I"⟩ ∈ ns_Tb := ns_in 788 (by decide +kernel) (by decide +kernel)
theorem nw_789 : Cond.selects "NoteSheetModel" ⟨"NoteSheetModel", "changed", "(I)I"⟩ ⟨"NoteSheetModel", "changed", "(I)I"⟩ ∈ ns_Tb := ns_in 789 (by decide +kernel) (by decide +kernel)
theorem nwd_69 : (ns_nm 69).cls ≠ "java/lang/invoke/MethodHandle" ∧ (ns_nm 69).cls ≠ "java/lang/invoke/VarHandle" ∧ (parseMethodDescriptor (ns_nm 69).desc).map (fun d => d.parameters.length) = some 1 := ⟨by decide +kernel, by decide +kernel, by decide +kernel⟩
theorem nw_787 : Cond.methodLink "NoteSheetLaw" 49 ⟨"NoteSheetModel", "changed", "(I)I"⟩ ∈ ns_Tb := ns_in 787 (by decide +kernel) (by decide +kernel)
theorem ns_eC114 : ns_pC ((6, 49), (.inl 69, 1, 0, 0, 5, 1)) := ⟨fun y hy => by cases hy; exact ⟨ns_I_M_changed, rfl, rfl, rfl, rfl, rfl, nw_790, nw_7, nw_787, nwd_69, fun h => absurd h (by decide), fun _ => ⟨nw_788, nw_789⟩, fun h => absurd h (by decide)⟩, fun z hz => by cases hz⟩
theorem nw_487 : Cond.code ⟨"NoteSheet", "note", "(II)I"⟩ prog_1_method_8_code 4 (some .int) ∈ ns_Tb := ns_in 487 (by decide +kernel) (by decide +kernel)
theorem nw_485 : Cond.instanceMethod ⟨"NoteSheet", "note", "(II)I"⟩ ∈ ns_Tb := ns_in 485 (by decide +kernel) (by decide +kernel)
theorem nw_486 : Cond.selects "NoteSheet" ⟨"NoteSheet", "note", "(II)I"⟩ ⟨"NoteSheet", "note", "(II)I"⟩ ∈ ns_Tb := ns_in 486 (by decide +kernel) (by decide +kernel)
theorem nwd_7 : (ns_nm 7).cls ≠ "java/lang/invoke/MethodHandle" ∧ (ns_nm 7).cls ≠ "java/lang/invoke/VarHandle" ∧ (parseMethodDescriptor (ns_nm 7).desc).map (fun d => d.parameters.length) = some 2 := ⟨by decide +kernel, by decide +kernel, by decide +kernel⟩
theorem nw_484 : Cond.methodLink "NoteSheetLaw" 50 ⟨"NoteSheet", "note", "(II)I"⟩ ∈ ns_Tb := ns_in 484 (by decide +kernel) (by decide +kernel)
theorem ns_eC115 : ns_pC ((6, 50), (.inl 7, 2, 0, 0, 0, 1)) := ⟨fun y hy => by cases hy; exact ⟨ns_I_N_note, rfl, rfl, rfl, rfl, rfl, nw_487, nw_1, nw_484, nwd_7, fun h => absurd h (by decide), fun _ => ⟨nw_485, nw_486⟩, fun h => absurd h (by decide)⟩, fun z hz => by cases hz⟩
theorem nw_794 : Cond.code ⟨"NoteSheetModel", "note", "(II)I"⟩ prog_7_method_41_code 4 (some .int) ∈ ns_Tb := ns_in 794 (by decide +kernel) (by decide +kernel)
theorem nw_792 : Cond.instanceMethod ⟨"NoteSheetModel", "note", "(II)I"⟩ ∈ ns_Tb := ns_in 792 (by decide +kernel) (by decide +kernel)
theorem nw_793 : Cond.selects "NoteSheetModel" ⟨"NoteSheetModel", "note", "(II)I"⟩ ⟨"NoteSheetModel", "note", "(II)I"⟩ ∈ ns_Tb := ns_in 793 (by decide +kernel) (by decide +kernel)
theorem nwd_70 : (ns_nm 70).cls ≠ "java/lang/invoke/MethodHandle" ∧ (ns_nm 70).cls ≠ "java/lang/invoke/VarHandle" ∧ (parseMethodDescriptor (ns_nm 70).desc).map (fun d => d.parameters.length) = some 2 := ⟨by decide +kernel, by decide +kernel, by decide +kernel⟩
theorem nw_791 : Cond.methodLink "NoteSheetLaw" 54 ⟨"NoteSheetModel", "note", "(II)I"⟩ ∈ ns_Tb := ns_in 791 (by decide +kernel) (by decide +kernel)
theorem ns_eC116 : ns_pC ((6, 54), (.inl 70, 2, 0, 0, 5, 1)) := ⟨fun y hy => by cases hy; exact ⟨ns_I_M_note, rfl, rfl, rfl, rfl, rfl, nw_794, nw_7, nw_791, nwd_70, fun h => absurd h (by decide), fun _ => ⟨nw_792, nw_793⟩, fun h => absurd h (by decide)⟩, fun z hz => by cases hz⟩
theorem nw_491 : Cond.code ⟨"NoteSheet", "read", "(II)I"⟩ prog_1_method_9_code 3 (some .int) ∈ ns_Tb := ns_in 491 (by decide +kernel) (by decide +kernel)
theorem nw_489 : Cond.instanceMethod ⟨"NoteSheet", "read", "(II)I"⟩ ∈ ns_Tb := ns_in 489 (by decide +kernel) (by decide +kernel)
theorem nw_490 : Cond.selects "NoteSheet" ⟨"NoteSheet", "read", "(II)I"⟩ ⟨"NoteSheet", "read", "(II)I"⟩ ∈ ns_Tb := ns_in 490 (by decide +kernel) (by decide +kernel)
theorem nwd_8 : (ns_nm 8).cls ≠ "java/lang/invoke/MethodHandle" ∧ (ns_nm 8).cls ≠ "java/lang/invoke/VarHandle" ∧ (parseMethodDescriptor (ns_nm 8).desc).map (fun d => d.parameters.length) = some 2 := ⟨by decide +kernel, by decide +kernel, by decide +kernel⟩
theorem nw_488 : Cond.methodLink "NoteSheetLaw" 55 ⟨"NoteSheet", "read", "(II)I"⟩ ∈ ns_Tb := ns_in 488 (by decide +kernel) (by decide +kernel)
theorem ns_eC117 : ns_pC ((6, 55), (.inl 8, 2, 0, 0, 0, 1)) := ⟨fun y hy => by cases hy; exact ⟨ns_I_N_read, rfl, rfl, rfl, rfl, rfl, nw_491, nw_1, nw_488, nwd_8, fun h => absurd h (by decide), fun _ => ⟨nw_489, nw_490⟩, fun h => absurd h (by decide)⟩, fun z hz => by cases hz⟩
theorem nw_798 : Cond.code ⟨"NoteSheetModel", "read", "(II)I"⟩ prog_7_method_42_code 3 (some .int) ∈ ns_Tb := ns_in 798 (by decide +kernel) (by decide +kernel)
theorem nw_796 : Cond.instanceMethod ⟨"NoteSheetModel", "read", "(II)I"⟩ ∈ ns_Tb := ns_in 796 (by decide +kernel) (by decide +kernel)
theorem nw_797 : Cond.selects "NoteSheetModel" ⟨"NoteSheetModel", "read", "(II)I"⟩ ⟨"NoteSheetModel", "read", "(II)I"⟩ ∈ ns_Tb := ns_in 797 (by decide +kernel) (by decide +kernel)
theorem nwd_71 : (ns_nm 71).cls ≠ "java/lang/invoke/MethodHandle" ∧ (ns_nm 71).cls ≠ "java/lang/invoke/VarHandle" ∧ (parseMethodDescriptor (ns_nm 71).desc).map (fun d => d.parameters.length) = some 2 := ⟨by decide +kernel, by decide +kernel, by decide +kernel⟩
theorem nw_795 : Cond.methodLink "NoteSheetLaw" 58 ⟨"NoteSheetModel", "read", "(II)I"⟩ ∈ ns_Tb := ns_in 795 (by decide +kernel) (by decide +kernel)
theorem ns_eC118 : ns_pC ((6, 58), (.inl 71, 2, 0, 0, 5, 1)) := ⟨fun y hy => by cases hy; exact ⟨ns_I_M_read, rfl, rfl, rfl, rfl, rfl, nw_798, nw_7, nw_795, nwd_71, fun h => absurd h (by decide), fun _ => ⟨nw_796, nw_797⟩, fun h => absurd h (by decide)⟩, fun z hz => by cases hz⟩
theorem nw_495 : Cond.code ⟨"NoteSheet", "count", "(I)I"⟩ prog_1_method_10_code 2 (some .int) ∈ ns_Tb := ns_in 495 (by decide +kernel) (by decide +kernel)
theorem nw_493 : Cond.instanceMethod ⟨"NoteSheet", "count", "(I)I"⟩ ∈ ns_Tb := ns_in 493 (by decide +kernel) (by decide +kernel)
theorem nw_494 : Cond.selects "NoteSheet" ⟨"NoteSheet", "count", "(I)I"⟩ ⟨"NoteSheet", "count", "(I)I"⟩ ∈ ns_Tb := ns_in 494 (by decide +kernel) (by decide +kernel)
theorem nwd_9 : (ns_nm 9).cls ≠ "java/lang/invoke/MethodHandle" ∧ (ns_nm 9).cls ≠ "java/lang/invoke/VarHandle" ∧ (parseMethodDescriptor (ns_nm 9).desc).map (fun d => d.parameters.length) = some 1 := ⟨by decide +kernel, by decide +kernel, by decide +kernel⟩
theorem nw_492 : Cond.methodLink "NoteSheetLaw" 59 ⟨"NoteSheet", "count", "(I)I"⟩ ∈ ns_Tb := ns_in 492 (by decide +kernel) (by decide +kernel)
theorem ns_eC119 : ns_pC ((6, 59), (.inl 9, 1, 0, 0, 0, 1)) := ⟨fun y hy => by cases hy; exact ⟨ns_I_N_count, rfl, rfl, rfl, rfl, rfl, nw_495, nw_1, nw_492, nwd_9, fun h => absurd h (by decide), fun _ => ⟨nw_493, nw_494⟩, fun h => absurd h (by decide)⟩, fun z hz => by cases hz⟩
theorem nw_802 : Cond.code ⟨"NoteSheetModel", "count", "(I)I"⟩ prog_7_method_43_code 2 (some .int) ∈ ns_Tb := ns_in 802 (by decide +kernel) (by decide +kernel)
theorem nw_800 : Cond.instanceMethod ⟨"NoteSheetModel", "count", "(I)I"⟩ ∈ ns_Tb := ns_in 800 (by decide +kernel) (by decide +kernel)
theorem nw_801 : Cond.selects "NoteSheetModel" ⟨"NoteSheetModel", "count", "(I)I"⟩ ⟨"NoteSheetModel", "count", "(I)I"⟩ ∈ ns_Tb := ns_in 801 (by decide +kernel) (by decide +kernel)
theorem nwd_72 : (ns_nm 72).cls ≠ "java/lang/invoke/MethodHandle" ∧ (ns_nm 72).cls ≠ "java/lang/invoke/VarHandle" ∧ (parseMethodDescriptor (ns_nm 72).desc).map (fun d => d.parameters.length) = some 1 := ⟨by decide +kernel, by decide +kernel, by decide +kernel⟩
theorem nw_799 : Cond.methodLink "NoteSheetLaw" 62 ⟨"NoteSheetModel", "count", "(I)I"⟩ ∈ ns_Tb := ns_in 799 (by decide +kernel) (by decide +kernel)
theorem ns_eC120 : ns_pC ((6, 62), (.inl 72, 1, 0, 0, 5, 1)) := ⟨fun y hy => by cases hy; exact ⟨ns_I_M_count, rfl, rfl, rfl, rfl, rfl, nw_802, nw_7, nw_799, nwd_72, fun h => absurd h (by decide), fun _ => ⟨nw_800, nw_801⟩, fun h => absurd h (by decide)⟩, fun z hz => by cases hz⟩
set_option maxRecDepth 20000 in
theorem ns_aC : ∀ q ∈ ns_lC, ns_pC q := List.forall_mem_cons.mpr ⟨ns_eC0, List.forall_mem_cons.mpr ⟨ns_eC1, List.forall_mem_cons.mpr ⟨ns_eC2, List.forall_mem_cons.mpr ⟨ns_eC3, List.forall_mem_cons.mpr ⟨ns_eC4, List.forall_mem_cons.mpr ⟨ns_eC5, List.forall_mem_cons.mpr ⟨ns_eC6, List.forall_mem_cons.mpr ⟨ns_eC7, List.forall_mem_cons.mpr ⟨ns_eC8, List.forall_mem_cons.mpr ⟨ns_eC9, List.forall_mem_cons.mpr ⟨ns_eC10, List.forall_mem_cons.mpr ⟨ns_eC11, List.forall_mem_cons.mpr ⟨ns_eC12, List.forall_mem_cons.mpr ⟨ns_eC13, List.forall_mem_cons.mpr ⟨ns_eC14, List.forall_mem_cons.mpr ⟨ns_eC15, List.forall_mem_cons.mpr ⟨ns_eC16, List.forall_mem_cons.mpr ⟨ns_eC17, List.forall_mem_cons.mpr ⟨ns_eC18, List.forall_mem_cons.mpr ⟨ns_eC19, List.forall_mem_cons.mpr ⟨ns_eC20, List.forall_mem_cons.mpr ⟨ns_eC21, List.forall_mem_cons.mpr ⟨ns_eC22, List.forall_mem_cons.mpr ⟨ns_eC23, List.forall_mem_cons.mpr ⟨ns_eC24, List.forall_mem_cons.mpr ⟨ns_eC25, List.forall_mem_cons.mpr ⟨ns_eC26, List.forall_mem_cons.mpr ⟨ns_eC27, List.forall_mem_cons.mpr ⟨ns_eC28, List.forall_mem_cons.mpr ⟨ns_eC29, List.forall_mem_cons.mpr ⟨ns_eC30, List.forall_mem_cons.mpr ⟨ns_eC31, List.forall_mem_cons.mpr ⟨ns_eC32, List.forall_mem_cons.mpr ⟨ns_eC33, List.forall_mem_cons.mpr ⟨ns_eC34, List.forall_mem_cons.mpr ⟨ns_eC35, List.forall_mem_cons.mpr ⟨ns_eC36, List.forall_mem_cons.mpr ⟨ns_eC37, List.forall_mem_cons.mpr ⟨ns_eC38, List.forall_mem_cons.mpr ⟨ns_eC39, List.forall_mem_cons.mpr ⟨ns_eC40, List.forall_mem_cons.mpr ⟨ns_eC41, List.forall_mem_cons.mpr ⟨ns_eC42, List.forall_mem_cons.mpr ⟨ns_eC43, List.forall_mem_cons.mpr ⟨ns_eC44, List.forall_mem_cons.mpr ⟨ns_eC45, List.forall_mem_cons.mpr ⟨ns_eC46, List.forall_mem_cons.mpr ⟨ns_eC47, List.forall_mem_cons.mpr ⟨ns_eC48, List.forall_mem_cons.mpr ⟨ns_eC49, List.forall_mem_cons.mpr ⟨ns_eC50, List.forall_mem_cons.mpr ⟨ns_eC51, List.forall_mem_cons.mpr ⟨ns_eC52, List.forall_mem_cons.mpr ⟨ns_eC53, List.forall_mem_cons.mpr ⟨ns_eC54, List.forall_mem_cons.mpr ⟨ns_eC55, List.forall_mem_cons.mpr ⟨ns_eC56, List.forall_mem_cons.mpr ⟨ns_eC57, List.forall_mem_cons.mpr ⟨ns_eC58, List.forall_mem_cons.mpr ⟨ns_eC59, List.forall_mem_cons.mpr ⟨ns_eC60, List.forall_mem_cons.mpr ⟨ns_eC61, List.forall_mem_cons.mpr ⟨ns_eC62, List.forall_mem_cons.mpr ⟨ns_eC63, List.forall_mem_cons.mpr ⟨ns_eC64, List.forall_mem_cons.mpr ⟨ns_eC65, List.forall_mem_cons.mpr ⟨ns_eC66, List.forall_mem_cons.mpr ⟨ns_eC67, List.forall_mem_cons.mpr ⟨ns_eC68, List.forall_mem_cons.mpr ⟨ns_eC69, List.forall_mem_cons.mpr ⟨ns_eC70, List.forall_mem_cons.mpr ⟨ns_eC71, List.forall_mem_cons.mpr ⟨ns_eC72, List.forall_mem_cons.mpr ⟨ns_eC73, List.forall_mem_cons.mpr ⟨ns_eC74, List.forall_mem_cons.mpr ⟨ns_eC75, List.forall_mem_cons.mpr ⟨ns_eC76, List.forall_mem_cons.mpr ⟨ns_eC77, List.forall_mem_cons.mpr ⟨ns_eC78, List.forall_mem_cons.mpr ⟨ns_eC79, List.forall_mem_cons.mpr ⟨ns_eC80, List.forall_mem_cons.mpr ⟨ns_eC81, List.forall_mem_cons.mpr ⟨ns_eC82, List.forall_mem_cons.mpr ⟨ns_eC83, List.forall_mem_cons.mpr ⟨ns_eC84, List.forall_mem_cons.mpr ⟨ns_eC85, List.forall_mem_cons.mpr ⟨ns_eC86, List.forall_mem_cons.mpr ⟨ns_eC87, List.forall_mem_cons.mpr ⟨ns_eC88, List.forall_mem_cons.mpr ⟨ns_eC89, List.forall_mem_cons.mpr ⟨ns_eC90, List.forall_mem_cons.mpr ⟨ns_eC91, List.forall_mem_cons.mpr ⟨ns_eC92, List.forall_mem_cons.mpr ⟨ns_eC93, List.forall_mem_cons.mpr ⟨ns_eC94, List.forall_mem_cons.mpr ⟨ns_eC95, List.forall_mem_cons.mpr ⟨ns_eC96, List.forall_mem_cons.mpr ⟨ns_eC97, List.forall_mem_cons.mpr ⟨ns_eC98, List.forall_mem_cons.mpr ⟨ns_eC99, List.forall_mem_cons.mpr ⟨ns_eC100, List.forall_mem_cons.mpr ⟨ns_eC101, List.forall_mem_cons.mpr ⟨ns_eC102, List.forall_mem_cons.mpr ⟨ns_eC103, List.forall_mem_cons.mpr ⟨ns_eC104, List.forall_mem_cons.mpr ⟨ns_eC105, List.forall_mem_cons.mpr ⟨ns_eC106, List.forall_mem_cons.mpr ⟨ns_eC107, List.forall_mem_cons.mpr ⟨ns_eC108, List.forall_mem_cons.mpr ⟨ns_eC109, List.forall_mem_cons.mpr ⟨ns_eC110, List.forall_mem_cons.mpr ⟨ns_eC111, List.forall_mem_cons.mpr ⟨ns_eC112, List.forall_mem_cons.mpr ⟨ns_eC113, List.forall_mem_cons.mpr ⟨ns_eC114, List.forall_mem_cons.mpr ⟨ns_eC115, List.forall_mem_cons.mpr ⟨ns_eC116, List.forall_mem_cons.mpr ⟨ns_eC117, List.forall_mem_cons.mpr ⟨ns_eC118, List.forall_mem_cons.mpr ⟨ns_eC119, List.forall_mem_cons.mpr ⟨ns_eC120, fun _ h => absurd h List.not_mem_nil⟩⟩⟩⟩⟩⟩⟩⟩⟩⟩⟩⟩⟩⟩⟩⟩⟩⟩⟩⟩⟩⟩⟩⟩⟩⟩⟩⟩⟩⟩⟩⟩⟩⟩⟩⟩⟩⟩⟩⟩⟩⟩⟩⟩⟩⟩⟩⟩⟩⟩⟩⟩⟩⟩⟩⟩⟩⟩⟩⟩⟩⟩⟩⟩⟩⟩⟩⟩⟩⟩⟩⟩⟩⟩⟩⟩⟩⟩⟩⟩⟩⟩⟩⟩⟩⟩⟩⟩⟩⟩⟩⟩⟩⟩⟩⟩⟩⟩⟩⟩⟩⟩⟩⟩⟩⟩⟩⟩⟩⟩⟩⟩⟩⟩⟩⟩⟩⟩⟩⟩⟩
theorem ns_okC : ax_okC ns_Tb ns_cn ns_nm ns_tb ns_mt := ⟨fun co idx y np mc ms ci kd h => (ns_aC ((co, idx), (.inl y, np, mc, ms, ci, kd)) (ns_find h)).1 y rfl, fun co idx q np mc ms ci kd h => (ns_aC ((co, idx), (.inr q, np, mc, ms, ci, kd)) (ns_find h)).2 q rfl⟩
theorem ns_okM : ax_okM ns_cn ns_nm ns_mt := by
  intro y I h
  unfold ns_mt at h
  split at h
  · cases h; exact ⟨by decide +kernel, rfl, fun _ => rfl, by decide⟩
  · cases h; exact ⟨by decide +kernel, rfl, fun h => absurd h (by decide), by decide⟩
  · cases h; exact ⟨by decide +kernel, rfl, fun h => absurd h (by decide), by decide⟩
  · cases h; exact ⟨by decide +kernel, rfl, fun h => absurd h (by decide), by decide⟩
  · cases h; exact ⟨by decide +kernel, rfl, fun h => absurd h (by decide), by decide⟩
  · cases h; exact ⟨by decide +kernel, rfl, fun h => absurd h (by decide), by decide⟩
  · cases h; exact ⟨by decide +kernel, rfl, fun h => absurd h (by decide), by decide⟩
  · cases h; exact ⟨by decide +kernel, rfl, fun h => absurd h (by decide), by decide⟩
  · cases h; exact ⟨by decide +kernel, rfl, fun h => absurd h (by decide), by decide⟩
  · cases h; exact ⟨by decide +kernel, rfl, fun h => absurd h (by decide), by decide⟩
  · cases h; exact ⟨by decide +kernel, rfl, fun h => absurd h (by decide), by decide⟩
  · cases h; exact ⟨by decide +kernel, rfl, fun h => absurd h (by decide), by decide⟩
  · cases h; exact ⟨by decide +kernel, rfl, fun h => absurd h (by decide), by decide⟩
  · cases h; exact ⟨by decide +kernel, rfl, fun h => absurd h (by decide), by decide⟩
  · cases h; exact ⟨by decide +kernel, rfl, fun h => absurd h (by decide), by decide⟩
  · cases h; exact ⟨by decide +kernel, rfl, fun h => absurd h (by decide), by decide⟩
  · cases h; exact ⟨by decide +kernel, rfl, fun h => absurd h (by decide), by decide⟩
  · cases h; exact ⟨by decide +kernel, rfl, fun h => absurd h (by decide), by decide⟩
  · cases h; exact ⟨by decide +kernel, rfl, fun h => absurd h (by decide), by decide⟩
  · cases h; exact ⟨by decide +kernel, rfl, fun h => absurd h (by decide), by decide⟩
  · cases h; exact ⟨by decide +kernel, rfl, fun h => absurd h (by decide), by decide⟩
  · cases h; exact ⟨by decide +kernel, rfl, fun h => absurd h (by decide), by decide⟩
  · cases h; exact ⟨by decide +kernel, rfl, fun h => absurd h (by decide), by decide⟩
  · cases h; exact ⟨by decide +kernel, rfl, fun h => absurd h (by decide), by decide⟩
  · cases h; exact ⟨by decide +kernel, rfl, fun h => absurd h (by decide), by decide⟩
  · cases h; exact ⟨by decide +kernel, rfl, fun h => absurd h (by decide), by decide⟩
  · cases h; exact ⟨by decide +kernel, rfl, fun h => absurd h (by decide), by decide⟩
  · cases h; exact ⟨by decide +kernel, rfl, fun h => absurd h (by decide), by decide⟩
  · cases h; exact ⟨by decide +kernel, rfl, fun h => absurd h (by decide), by decide⟩
  · cases h; exact ⟨by decide +kernel, rfl, fun h => absurd h (by decide), by decide⟩
  · cases h; exact ⟨by decide +kernel, rfl, fun _ => rfl, by decide⟩
  · cases h; exact ⟨by decide +kernel, rfl, fun h => absurd h (by decide), by decide⟩
  · cases h; exact ⟨by decide +kernel, rfl, fun h => absurd h (by decide), by decide⟩
  · cases h; exact ⟨by decide +kernel, rfl, fun h => absurd h (by decide), by decide⟩
  · cases h; exact ⟨by decide +kernel, rfl, fun h => absurd h (by decide), by decide⟩
  · cases h; exact ⟨by decide +kernel, rfl, fun h => absurd h (by decide), by decide⟩
  · cases h; exact ⟨by decide +kernel, rfl, fun h => absurd h (by decide), by decide⟩
  · cases h; exact ⟨by decide +kernel, rfl, fun h => absurd h (by decide), by decide⟩
  · cases h; exact ⟨by decide +kernel, rfl, fun h => absurd h (by decide), by decide⟩
  · cases h; exact ⟨by decide +kernel, rfl, fun h => absurd h (by decide), by decide⟩
  · cases h; exact ⟨by decide +kernel, rfl, fun h => absurd h (by decide), by decide⟩
  · cases h; exact ⟨by decide +kernel, rfl, fun h => absurd h (by decide), by decide⟩
  · cases h; exact ⟨by decide +kernel, rfl, fun h => absurd h (by decide), by decide⟩
  · cases h; exact ⟨by decide +kernel, rfl, fun h => absurd h (by decide), by decide⟩
  · cases h; exact ⟨by decide +kernel, rfl, fun h => absurd h (by decide), by decide⟩
  · cases h; exact ⟨by decide +kernel, rfl, fun h => absurd h (by decide), by decide⟩
  · cases h; exact ⟨by decide +kernel, rfl, fun h => absurd h (by decide), by decide⟩
  · cases h; exact ⟨by decide +kernel, rfl, fun h => absurd h (by decide), by decide⟩
  · cases h; exact ⟨by decide +kernel, rfl, fun h => absurd h (by decide), by decide⟩
  · cases h; exact ⟨by decide +kernel, rfl, fun h => absurd h (by decide), by decide⟩
  · cases h; exact ⟨by decide +kernel, rfl, fun h => absurd h (by decide), by decide⟩
  · cases h; exact ⟨by decide +kernel, rfl, fun h => absurd h (by decide), by decide⟩
  · cases h; exact ⟨by decide +kernel, rfl, fun h => absurd h (by decide), by decide⟩
  · cases h; exact ⟨by decide +kernel, rfl, fun h => absurd h (by decide), by decide⟩
  · cases h; exact ⟨by decide +kernel, rfl, fun h => absurd h (by decide), by decide⟩
  · cases h; exact ⟨by decide +kernel, rfl, fun h => absurd h (by decide), by decide⟩
  · cases h; exact ⟨by decide +kernel, rfl, fun h => absurd h (by decide), by decide⟩
  · cases h; exact ⟨by decide +kernel, rfl, fun h => absurd h (by decide), by decide⟩
  · cases h; exact ⟨by decide +kernel, rfl, fun h => absurd h (by decide), by decide⟩
  · cases h; exact ⟨by decide +kernel, rfl, fun h => absurd h (by decide), by decide⟩
  · cases h; exact ⟨by decide +kernel, rfl, fun h => absurd h (by decide), by decide⟩
  · cases h; exact ⟨by decide +kernel, rfl, fun h => absurd h (by decide), by decide⟩
  · cases h; exact ⟨by decide +kernel, rfl, fun h => absurd h (by decide), by decide⟩
  · cases h; exact ⟨by decide +kernel, rfl, fun h => absurd h (by decide), by decide⟩
  · cases h; exact ⟨by decide +kernel, rfl, fun h => absurd h (by decide), by decide⟩
  · cases h; exact ⟨by decide +kernel, rfl, fun h => absurd h (by decide), by decide⟩
  · cases h; exact ⟨by decide +kernel, rfl, fun h => absurd h (by decide), by decide⟩
  · cases h; exact ⟨by decide +kernel, rfl, fun h => absurd h (by decide), by decide⟩
  · cases h; exact ⟨by decide +kernel, rfl, fun h => absurd h (by decide), by decide⟩
  · cases h; exact ⟨by decide +kernel, rfl, fun h => absurd h (by decide), by decide⟩
  · cases h; exact ⟨by decide +kernel, rfl, fun h => absurd h (by decide), by decide⟩
  · cases h; exact ⟨by decide +kernel, rfl, fun h => absurd h (by decide), by decide⟩
  · cases h; exact ⟨by decide +kernel, rfl, fun h => absurd h (by decide), by decide⟩
  · cases h; exact ⟨by decide +kernel, rfl, fun _ => rfl, by decide⟩
  · cases h; exact ⟨by decide +kernel, rfl, fun h => absurd h (by decide), by decide⟩
  · cases h; exact ⟨by decide +kernel, rfl, fun h => absurd h (by decide), by decide⟩
  · cases h; exact ⟨by decide +kernel, rfl, fun h => absurd h (by decide), by decide⟩
  · cases h; exact ⟨by decide +kernel, rfl, fun _ => rfl, by decide⟩
  · cases h; exact ⟨by decide +kernel, rfl, fun h => absurd h (by decide), by decide⟩
  · cases h; exact ⟨by decide +kernel, rfl, fun h => absurd h (by decide), by decide⟩
  · cases h; exact ⟨by decide +kernel, rfl, fun h => absurd h (by decide), by decide⟩
  · cases h; exact ⟨by decide +kernel, rfl, fun h => absurd h (by decide), by decide⟩
  · cases h; exact ⟨by decide +kernel, rfl, fun h => absurd h (by decide), by decide⟩
  · cases h; exact ⟨by decide +kernel, rfl, fun h => absurd h (by decide), by decide⟩
  · cases h; exact ⟨by decide +kernel, rfl, fun h => absurd h (by decide), by decide⟩
  · cases h; exact ⟨by decide +kernel, rfl, fun h => absurd h (by decide), by decide⟩
  · cases h; exact ⟨by decide +kernel, rfl, fun h => absurd h (by decide), by decide⟩
  · cases h; exact ⟨by decide +kernel, rfl, fun h => absurd h (by decide), by decide⟩
  · cases h; exact ⟨by decide +kernel, rfl, fun _ => rfl, by decide⟩
  · cases h; exact ⟨by decide +kernel, rfl, fun h => absurd h (by decide), by decide⟩
  · cases h; exact ⟨by decide +kernel, rfl, fun h => absurd h (by decide), by decide⟩
  · cases h; exact ⟨by decide +kernel, rfl, fun h => absurd h (by decide), by decide⟩
  · cases h; exact ⟨by decide +kernel, rfl, fun h => absurd h (by decide), by decide⟩
  · cases h; exact ⟨by decide +kernel, rfl, fun _ => rfl, by decide⟩
  · cases h; exact ⟨by decide +kernel, rfl, fun h => absurd h (by decide), by decide⟩
  · cases h; exact ⟨by decide +kernel, rfl, fun h => absurd h (by decide), by decide⟩
  · cases h; exact ⟨by decide +kernel, rfl, fun h => absurd h (by decide), by decide⟩
  · cases h; exact ⟨by decide +kernel, rfl, fun h => absurd h (by decide), by decide⟩
  · cases h; exact ⟨by decide +kernel, rfl, fun h => absurd h (by decide), by decide⟩
  · cases h; exact ⟨by decide +kernel, rfl, fun h => absurd h (by decide), by decide⟩
  · cases h; exact ⟨by decide +kernel, rfl, fun h => absurd h (by decide), by decide⟩
  · cases h; exact ⟨by decide +kernel, rfl, fun h => absurd h (by decide), by decide⟩
  · cases h; exact ⟨by decide +kernel, rfl, fun h => absurd h (by decide), by decide⟩
  · cases h; exact ⟨by decide +kernel, rfl, fun h => absurd h (by decide), by decide⟩
  · cases h; exact ⟨by decide +kernel, rfl, fun h => absurd h (by decide), by decide⟩
  · cases h; exact ⟨by decide +kernel, rfl, fun h => absurd h (by decide), by decide⟩
  · cases h; exact ⟨by decide +kernel, rfl, fun h => absurd h (by decide), by decide⟩
  · cases h
def ns_pN (q : (Nat × Nat) × (Nat × List Value × String)) : Prop := ∃ (T : u_T) (N : Nat) (t0 : Nat → FieldType), ns_cl[q.2.1]? = some (q.2.2.2, T, N) ∧ (∀ w ∈ u_ws q.2.2.2 T N, w ∈ ns_Tb) ∧ (∀ k, k < N → parseFieldDescriptor (T k).2.2.1 = some (t0 k)) ∧ q.2.2.1.length = N ∧ (∀ j, j < N → defaultValue (t0 j) = vp_V q.2.2.1 j) ∧ (∀ v ∈ q.2.2.1, ax_nr v = true) ∧ Cond.classLink (ns_cn q.1.1) q.1.2 q.2.2.2 ∈ ns_Tb ∧ Cond.instantiable q.2.2.2 N ∈ ns_Tb ∧ Cond.initialized q.2.2.2 ∈ ns_Tb
theorem nw_28 : Cond.classLink "NoteSheet" 22 "NoteSheet$Cell" ∈ ns_Tb := ns_in 28 (by decide +kernel) (by decide +kernel)
theorem nw_30 : Cond.instantiable "NoteSheet$Cell" 11 ∈ ns_Tb := ns_in 30 (by decide +kernel) (by decide +kernel)
theorem ns_eN0 : ns_pN ((0, 22), (1, [.null, .null, .null, .null, .int 0, .int 0, .int 0, .int 0, .int 0, .int 0, .int 0], "NoteSheet$Cell")) := ⟨ns_T1, 11, ns_t1, rfl, ns_w1, ns_t1_ok, rfl, by decide +kernel, by decide +kernel, nw_28, nw_30, nw_3⟩
theorem nw_142 : Cond.classLink "NoteSheet" 36 "NoteSheet$Formula" ∈ ns_Tb := ns_in 142 (by decide +kernel) (by decide +kernel)
theorem nw_36 : Cond.instantiable "NoteSheet$Formula" 4 ∈ ns_Tb := ns_in 36 (by decide +kernel) (by decide +kernel)
theorem ns_eN1 : ns_pN ((0, 36), (2, [.null, .null, .int 0, .int 0], "NoteSheet$Formula")) := ⟨ns_T2, 4, ns_t2, rfl, ns_w2, ns_t2_ok, rfl, by decide +kernel, by decide +kernel, nw_142, nw_36, nw_4⟩
theorem nw_144 : Cond.classLink "NoteSheet" 43 "NoteSheet$Parser" ∈ ns_Tb := ns_in 144 (by decide +kernel) (by decide +kernel)
theorem nw_145 : Cond.instantiable "NoteSheet$Parser" 2 ∈ ns_Tb := ns_in 145 (by decide +kernel) (by decide +kernel)
theorem ns_eN2 : ns_pN ((0, 43), (4, [.null, .int 0], "NoteSheet$Parser")) := ⟨ns_T4, 2, ns_t4, rfl, ns_w4, ns_t4_ok, rfl, by decide +kernel, by decide +kernel, nw_144, nw_145, nw_6⟩
theorem nw_35 : Cond.classLink "NoteSheet$Cell" 9 "NoteSheet$Formula" ∈ ns_Tb := ns_in 35 (by decide +kernel) (by decide +kernel)
theorem ns_eN3 : ns_pN ((1, 9), (2, [.null, .null, .int 0, .int 0], "NoteSheet$Formula")) := ⟨ns_T2, 4, ns_t2, rfl, ns_w2, ns_t2_ok, rfl, by decide +kernel, by decide +kernel, nw_35, nw_36, nw_4⟩
theorem nw_61 : Cond.classLink "NoteSheet$Cell" 18 "NoteSheet$Note" ∈ ns_Tb := ns_in 61 (by decide +kernel) (by decide +kernel)
theorem nw_62 : Cond.instantiable "NoteSheet$Note" 8 ∈ ns_Tb := ns_in 62 (by decide +kernel) (by decide +kernel)
theorem ns_eN4 : ns_pN ((1, 18), (3, [.null, .int 0, .int 0, .int 0, .long 0, .int 0, .int 0, .int 0], "NoteSheet$Note")) := ⟨ns_T3, 8, ns_t3, rfl, ns_w3, ns_t3_ok, rfl, by decide +kernel, by decide +kernel, nw_61, nw_62, nw_5⟩
theorem nw_14 : Cond.classLink "NoteSheetLaw" 7 "NoteSheet" ∈ ns_Tb := ns_in 14 (by decide +kernel) (by decide +kernel)
theorem nw_15 : Cond.instantiable "NoteSheet" 8 ∈ ns_Tb := ns_in 15 (by decide +kernel) (by decide +kernel)
theorem ns_eN5 : ns_pN ((6, 7), (0, [.null, .null, .null, .null, .null, .int 0, .int 0, .int 0], "NoteSheet")) := ⟨ns_T0, 8, ns_t0, rfl, ns_w0, ns_t0_ok, rfl, by decide +kernel, by decide +kernel, nw_14, nw_15, nw_1⟩
theorem nw_499 : Cond.classLink "NoteSheetLaw" 18 "NoteSheetModel" ∈ ns_Tb := ns_in 499 (by decide +kernel) (by decide +kernel)
theorem nw_500 : Cond.instantiable "NoteSheetModel" 43 ∈ ns_Tb := ns_in 500 (by decide +kernel) (by decide +kernel)
theorem ns_eN6 : ns_pN ((6, 18), (5, [.int 0, .null, .int 0, .int 0, .null, .null, .null, .null, .null, .null, .null, .null, .null, .null, .null, .null, .null, .null, .null, .null, .null, .null, .null, .null, .int 0, .null, .null, .int 0, .null, .null, .null, .null, .null, .null, .null, .null, .null, .int 0, .null, .null, .int 0, .null, .null], "NoteSheetModel")) := ⟨ns_T5, 43, ns_t5, rfl, ns_w5, ns_t5_ok, rfl, by decide +kernel, by decide +kernel, nw_499, nw_500, nw_7⟩
set_option maxRecDepth 20000 in
theorem ns_aN : ∀ q ∈ ns_lN, ns_pN q := List.forall_mem_cons.mpr ⟨ns_eN0, List.forall_mem_cons.mpr ⟨ns_eN1, List.forall_mem_cons.mpr ⟨ns_eN2, List.forall_mem_cons.mpr ⟨ns_eN3, List.forall_mem_cons.mpr ⟨ns_eN4, List.forall_mem_cons.mpr ⟨ns_eN5, List.forall_mem_cons.mpr ⟨ns_eN6, fun _ h => absurd h List.not_mem_nil⟩⟩⟩⟩⟩⟩⟩
theorem ns_okN {G : State → Prop} (h : ∀ s, G s → va_AO "NoteSheet$Cell" s) : ax_okN ns_cl ns_Tb ns_cn ns_tb G := ⟨fun co idx ci fs C q => ns_aN ((co, idx), (ci, fs, C)) (ns_find q), h⟩
def ns_pK (q : (Nat × Nat) × Value) : Prop := (∀ x, q.2 = .int x → Cond.constant (ns_cn q.1.1) q.1.2 x ∈ ns_Tb) ∧ (∀ x, q.2 = .long x → Cond.constantLong (ns_cn q.1.1) q.1.2 x ∈ ns_Tb) ∧ (q.2 = .retAddr 1 → q.1 = (2, 26))
theorem nw_386 : Cond.constantLong "NoteSheet" 98 (-1) ∈ ns_Tb := ns_in 386 (by decide +kernel) (by decide +kernel)
theorem ns_eK0 : ns_pK ((0, 98), (.long (-1))) := ⟨fun _ h => by (cases h), fun _ h => by cases h; exact nw_386, fun h => by (cases h)⟩
theorem nw_451 : Cond.constantLong "NoteSheet" 231 (1099511627776) ∈ ns_Tb := ns_in 451 (by decide +kernel) (by decide +kernel)
theorem ns_eK1 : ns_pK ((0, 231), (.long 1099511627776)) := ⟨fun _ h => by (cases h), fun _ h => by cases h; exact nw_451, fun h => by (cases h)⟩
theorem ns_eK2 : ns_pK ((2, 26), (.retAddr 1)) := ⟨fun _ h => by (cases h), fun _ h => by (cases h), fun _ => rfl⟩
theorem nw_766 : Cond.constantLong "NoteSheetModel" 246 (1099511627776) ∈ ns_Tb := ns_in 766 (by decide +kernel) (by decide +kernel)
theorem ns_eK3 : ns_pK ((5, 246), (.long 1099511627776)) := ⟨fun _ h => by (cases h), fun _ h => by cases h; exact nw_766, fun h => by (cases h)⟩
theorem nw_713 : Cond.constantLong "NoteSheetModel" 248 (-1) ∈ ns_Tb := ns_in 713 (by decide +kernel) (by decide +kernel)
theorem ns_eK4 : ns_pK ((5, 248), (.long (-1))) := ⟨fun _ h => by (cases h), fun _ h => by cases h; exact nw_713, fun h => by (cases h)⟩
set_option maxRecDepth 20000 in
theorem ns_aK : ∀ q ∈ ns_lK, ns_pK q := List.forall_mem_cons.mpr ⟨ns_eK0, List.forall_mem_cons.mpr ⟨ns_eK1, List.forall_mem_cons.mpr ⟨ns_eK2, List.forall_mem_cons.mpr ⟨ns_eK3, List.forall_mem_cons.mpr ⟨ns_eK4, fun _ h => absurd h List.not_mem_nil⟩⟩⟩⟩⟩
theorem ns_okK {rc : Nat → Nat} {G : State → Prop} (h : ∀ s, G s → vk_R "NoteSheet$Formula" 26 "?:<=+-*()@" (rc 1) s) : ax_okK ns_Tb ns_cn ns_tb rc G := fun co idx => ⟨fun x q => (ns_aK ((co, idx), .int x) (ns_find q)).1 x rfl, fun x q => (ns_aK ((co, idx), .long x) (ns_find q)).2.1 x rfl, fun q => by
  have e := (ns_aK ((co, idx), .retAddr 1) (ns_find q)).2.2 rfl
  cases e
  exact ⟨_, h⟩⟩
theorem nw_60 : Cond.arrayClass .int ∈ ns_Tb := ns_in 60 (by decide +kernel) (by decide +kernel)
theorem nw_59 : Cond.arrayClass .char ∈ ns_Tb := ns_in 59 (by decide +kernel) (by decide +kernel)
theorem nw_635 : Cond.arrayClass .boolean ∈ ns_Tb := ns_in 635 (by decide +kernel) (by decide +kernel)
theorem nw_636 : Cond.arrayClass .long ∈ ns_Tb := ns_in 636 (by decide +kernel) (by decide +kernel)
theorem ns_hcn : ∀ (ci : Nat) (r : vw_C), ns_cl[ci]? = some r → r.1 = ns_cn ci := by
  intro ci r h
  rcases ci with _ | _ | _ | _ | _ | _ | ci
  · cases h; rfl
  · cases h; rfl
  · cases h; rfl
  · cases h; rfl
  · cases h; rfl
  · cases h; rfl
  · cases h
