/** The boundary cases in "Terms" of revisions, durabilities, notes, cells at work and kept values. */
public final class TermsOfNotesTest extends SentenceTests {
    public static void main(String[] args) {
        new TermsOfNotesTest().runAll();
    }

    @Sentence("THE REVISION is 1 at first.")
    void firstRevision(Check check) {
        check.due("revision()", new NoteSheet(1).revision(), 1);
        check.due("revision()", new NoteSheet(12).revision(), 1);
    }

    @Sentence("What happens to an input or a formula makes it greater by 1")
    void revisionGrowsByOne(Check check) {
        NoteSheet x = new NoteSheet(12);
        x.set(A, 1, 0);
        check.due("revision() behind another number", x.revision(), 2);
        x.set(A, 1, 2);
        check.due("revision() behind another durability", x.revision(), 3);
        x.set(A, 2, 1);
        check.due("revision() behind both", x.revision(), 4);
        check.define(x, A, "1");
        check.due("revision() behind a formula for an input", x.revision(), 5);
        check.define(x, A, "B");
        check.due("revision() behind another formula", x.revision(), 6);
        x.ask(A);
        x.ask(L);
        check.due("revision() behind ask()", x.revision(), 6);
        x.set(A, 0, 0);
        check.due("revision() behind an input for a formula", x.revision(), 7);
    }

    @Sentence("CHANGED 0, 1, 2 are the revisions in which something of that durability or a greater one was changed last (0 at first).")
    void changedOfEachDurability(Check check) {
        NoteSheet x = new NoteSheet(12);
        check.dueChanged(x, 0, 0, 0);
        x.set(A, 1, 2);
        check.dueChanged(x, 2, 0, 0);
        x.set(A, 2, 2);
        check.dueChanged(x, 3, 3, 3);
        x.set(B, 1, 1);
        check.dueChanged(x, 4, 3, 3);
        x.set(B, 2, 1);
        check.dueChanged(x, 5, 5, 3);
        x.set(C, 1, 0);
        check.dueChanged(x, 6, 5, 3);
        x.set(A, 2, 0);
        check.dueChanged(x, 7, 7, 7);
        x.set(A, 3, 0);
        check.dueChanged(x, 8, 7, 7);
    }

    @Sentence("A formula's own durability is 2.")
    void formulasAreOfDurabilityTwo(Check check) {
        NoteSheet x = new NoteSheet(12);
        check.define(x, A, "B");
        check.dueChanged(x, 2, 0, 0);
        x.ask(A);
        check.due("note(0, 5)", x.note(A, 5), 0);
        check.define(x, A, "C");
        check.dueChanged(x, 3, 3, 3);
        x.set(A, 0, 0);
        check.dueChanged(x, 4, 4, 4);
        check.define(x, A, "C");
        check.dueChanged(x, 5, 4, 4);
        x.set(A, 0, 0);
        check.dueChanged(x, 6, 6, 6);
    }

    @Sentence("A cell with a formula may have a NOTE: the value that was worked out, or none any more (when it was DROPPED)")
    void noteThatLostItsValue(Check check) {
        NoteSheet x = new NoteSheet(1);
        x.set(A, 5, 1);
        check.define(x, B, "A+C");
        check.dueNote(x, B, 0, 0, 0, 0, 0);
        x.ask(B);
        check.dueNote(x, B, 3, 3, 0, 2, 1);
        check.define(x, D, "1");
        x.ask(D);
        check.dueNote(x, B, 3, 3, 0, 2, 0);
        check.dueReads(x, B, A, C);
        check.due("count(3)", x.count(3), 1);
    }

    @Sentence("and its READS: the cells that were read for it, in order, each one only where it was read first.")
    void eachReadOnce(Check check) {
        NoteSheet x = new NoteSheet(12);
        check.define(x, L, "C+A*C-B+A+@2+@1");
        x.ask(L);
        check.dueReads(x, L, C, A, B);
        check.define(x, L, "7");
        x.ask(L);
        check.dueReads(x, L);
        check.define(x, L, "L+L");
        x.ask(L);
        check.dueReads(x, L, L);
        check.define(x, L, "K+J+I+H+G+F+E+D+C+B+A+A+@10+L");
        x.ask(L);
        check.dueReads(x, L, K, J, I, H, G, F, E, D, C, B, A, L);
    }

    @Sentence("An input has SINCE, too (the revision in which it became that; 0 at first).")
    void sinceOfInputs(Check check) {
        NoteSheet x = new NoteSheet(12);
        for (int cell = A; cell <= L; cell++) {
            check.due("note(" + cell + ", 3) at first", x.note(cell, 3), 0);
        }
        x.set(A, 0, 0);
        check.due("note(0, 3) of the same", x.note(A, 3), 0);
        x.set(A, 0, 2);
        check.due("note(0, 3) of the same number", x.note(A, 3), 0);
        x.set(A, 1, 2);
        check.due("note(0, 3) of another number", x.note(A, 3), 3);
        x.set(B, 1, 0);
        check.due("note(0, 3) behind a change of B", x.note(A, 3), 3);
        check.define(x, A, "1");
        x.set(A, 1, 2);
        check.due("note(0, 3) of what was a formula", x.note(A, 3), 6);
    }

    @Sentence("TO BRING a cell up to date: an input is.")
    void inputsAreUpToDate(Check check) {
        NoteSheet x = new NoteSheet(12);
        x.set(A, 4, 1);
        dueAsk(check, x, A, 4, 0, 0, 0, 0);
        x.set(B, 1, 0);
        dueAsk(check, x, A, 4, 0, 0, 0, 0);
        check.dueTally(x, A, 0, 0, 0);
        check.dueNote(x, A, 2, 0, 1, 0, 1);
    }

    @Sentence("A cell that is AT WORK is not, and is left.")
    void cellsAtWorkAreLeft(Check check) {
        NoteSheet x = new NoteSheet(12);
        check.define(x, A, "B");
        check.define(x, B, "A");
        dueAsk(check, x, A, BAD, 2, 0, 0, 2);
        x.set(L, 1, 0);
        // A's read B is brought up to date; for that, A would have to be, but is at work:
        // B is worked out, is BAD as before, and so A is confirmed.
        dueAsk(check, x, A, BAD, 1, 1, 0, 2);
        check.dueTally(x, A, 1, 1, 0);
        check.dueTally(x, B, 2, 0, 0);
        check.dueNote(x, A, 3, 4, 0, 1, 1);
        check.dueNote(x, B, 3, 4, 0, 1, 1);
    }

    @Sentence("One whose note is verified in this revision is.")
    void verifiedInThisRevision(Check check) {
        NoteSheet x = new NoteSheet(12);
        check.define(x, A, "C");
        check.define(x, B, "A");
        dueAsk(check, x, B, 0, 2, 0, 0);
        dueAsk(check, x, B, 0, 0, 0, 0);
        dueAsk(check, x, A, 0, 0, 0, 0);
        x.set(L, 1, 0);
        dueAsk(check, x, A, 0, 0, 1, 0);
        dueAsk(check, x, B, 0, 0, 1, 0);
        dueAsk(check, x, B, 0, 0, 0, 0);
        check.dueTally(x, A, 1, 1, 0);
        check.dueTally(x, B, 1, 1, 0);
    }

    @Sentence("Otherwise it is at work until the end of this:")
    void atWorkWhileItsReadsAreGoneThrough(Check check) {
        NoteSheet x = new NoteSheet(12);
        check.define(x, A, "B");
        check.define(x, B, "C");
        dueAsk(check, x, A, 0, 2, 0, 0);
        check.define(x, B, "A");
        // B is worked out while A's reads are gone through, so A gives it BAD.
        dueAsk(check, x, A, BAD, 2, 0, 0);
        check.dueNote(x, A, 4, 4, 0, 1, 1);
        check.dueNote(x, B, 4, 4, 0, 1, 1);
        // Behind the end, neither is at work any more.
        dueAsk(check, x, B, BAD, 0, 0, 0);
        check.define(x, A, "7");
        dueAsk(check, x, B, 7, 2, 0, 0);
    }

    @Sentence("If it has a note, and CHANGED for the note's durability is not greater than VERIFIED, it PASSES.")
    void passesWhenChangedIsVerified(Check check) {
        NoteSheet x = new NoteSheet(12);
        check.define(x, B, "A");
        x.set(A, 1, 2);
        x.set(A, 2, 2);
        dueAsk(check, x, B, 2, 1, 0, 0);
        check.dueNote(x, B, 4, 4, 2, 1, 1);
        check.dueChanged(x, 4, 4, 4);
        x.set(C, 1, 0);
        // CHANGED 2 and VERIFIED are both 4.
        dueAsk(check, x, B, 2, 0, 0, 1);
        check.dueNote(x, B, 4, 5, 2, 1, 1);
        x.set(C, 1, 2);
        x.set(C, 1, 1);
        // CHANGED 2 is 7, VERIFIED is 5.
        check.dueChanged(x, 7, 7, 7);
        dueAsk(check, x, B, 2, 0, 1, 0);
        check.dueNote(x, B, 4, 7, 2, 1, 1);
    }

    @Sentence("If it has a note, and CHANGED for the note's durability is not greater than VERIFIED, it PASSES.")
    void passesByItsOwnDurabilityAlone(Check check) {
        for (int durability = 0; durability <= 2; durability++) {
            for (int changed = 0; changed <= 2; changed++) {
                NoteSheet x = new NoteSheet(12);
                x.set(A, 1, durability);
                x.set(C, 1, changed);
                check.define(x, B, "A");
                x.ask(B);
                x.set(C, 2, changed);
                boolean passes = changed < durability;
                dueAsk(check, x, B, 1, 0, passes ? 0 : 1, passes ? 1 : 0);
                check.due("note(1, 4)", x.note(B, 4), x.revision());
            }
        }
    }

    @Sentence("If it has a note, and CHANGED for the note's durability is not greater than VERIFIED, it PASSES.")
    void cellsWithoutANoteDoNotPass(Check check) {
        NoteSheet x = new NoteSheet(12);
        check.define(x, A, "7");
        check.dueChanged(x, 2, 0, 0);
        dueAsk(check, x, A, 7, 1, 0, 0);
        x.set(A, 1, 2);
        check.define(x, A, "8");
        dueAsk(check, x, A, 8, 1, 0, 0);
    }

    @Sentence("Else, if it has a note, and its formula was not changed after VERIFIED, its reads are gone through in order")
    void formulaChangedInTheVerifiedRevision(Check check) {
        NoteSheet x = new NoteSheet(12);
        check.define(x, B, "A");
        dueAsk(check, x, B, 0, 1, 0, 0);
        check.due("note(1, 4) and the formula's revision", x.note(B, 4), x.revision());
        x.set(L, 1, 0);
        dueAsk(check, x, B, 0, 0, 1, 0);
    }

    @Sentence("Else, if it has a note, and its formula was not changed after VERIFIED, its reads are gone through in order")
    void formulaChangedAfterVerified(Check check) {
        NoteSheet x = new NoteSheet(12);
        check.define(x, C, "D");
        check.define(x, B, "C");
        dueAsk(check, x, B, 0, 2, 0, 0);
        check.define(x, B, "0");
        dueAsk(check, x, B, 0, 1, 0, 0);
        // C was a read of the old formula, and is not gone to.
        check.dueNote(x, C, 3, 3, 0, 1, 1);
        check.dueNote(x, B, 3, 4, 2, 0, 1);
        check.define(x, B, "1");
        check.define(x, B, "0");
        dueAsk(check, x, B, 0, 1, 0, 0);
        check.dueNote(x, B, 3, 6, 2, 0, 1);
    }

    @Sentence("each is brought up to date; if it is at work, or its SINCE is greater than VERIFIED of the note, this ends.")
    void sinceThatIsVerifiedDoesNotEndIt(Check check) {
        NoteSheet x = new NoteSheet(12);
        check.define(x, B, "A");
        check.define(x, C, "B");
        x.set(A, 5, 0);
        dueAsk(check, x, C, 5, 2, 0, 0);
        check.due("note(0, 3)", x.note(A, 3), 4);
        check.due("note(1, 4)", x.note(B, 4), 4);
        x.set(L, 1, 0);
        dueAsk(check, x, C, 5, 0, 2, 0);
        x.set(A, 6, 0);
        check.due("note(0, 3)", x.note(A, 3), 6);
        check.due("note(1, 4)", x.note(B, 4), 5);
        dueAsk(check, x, C, 6, 2, 0, 0);
    }

    @Sentence("each is brought up to date; if it is at work, or its SINCE is greater than VERIFIED of the note, this ends.")
    void noReadBehindTheEndIsBroughtUpToDate(Check check) {
        NoteSheet x = new NoteSheet(12);
        x.set(A, 1, 0);
        check.define(x, C, "D");
        check.define(x, B, "A?C:9");
        dueAsk(check, x, B, 0, 2, 0, 0);
        check.dueReads(x, B, A, C);
        x.set(A, 0, 0);
        dueAsk(check, x, B, 9, 1, 0, 0);
        check.dueReads(x, B, A);
        check.dueNote(x, C, 4, 4, 0, 1, 1);
        check.dueTally(x, C, 1, 0, 0);
    }

    @Sentence("each is brought up to date; if it is at work, or its SINCE is greater than VERIFIED of the note, this ends.")
    void readAtWorkEndsIt(Check check) {
        NoteSheet x = new NoteSheet(12);
        check.define(x, A, "A");
        dueAsk(check, x, A, BAD, 1, 0, 0);
        for (int revision = 3; revision <= 6; revision++) {
            x.set(L, revision, 0);
            dueAsk(check, x, A, BAD, 1, 0, 0);
            check.dueNote(x, A, 2, revision, 0, 1, 1);
        }
        check.dueTally(x, A, 5, 0, 0);
    }

    @Sentence("Were all gone through to the end, the cell is CONFIRMED, and the note's durability is the least of 2 and those of its reads.")
    void confirmedWithoutReads(Check check) {
        NoteSheet x = new NoteSheet(12);
        check.define(x, A, "7");
        check.define(x, B, "8");
        dueAsk(check, x, A, 7, 1, 0, 0);
        check.define(x, B, "9");
        dueAsk(check, x, A, 7, 0, 1, 0);
        check.dueNote(x, A, 3, 4, 2, 0, 1);
    }

    @Sentence("Were all gone through to the end, the cell is CONFIRMED, and the note's durability is the least of 2 and those of its reads.")
    void confirmedTakesTheLeastDurability(Check check) {
        for (int a = 0; a <= 2; a++) {
            for (int c = 0; c <= 2; c++) {
                NoteSheet x = new NoteSheet(12);
                check.define(x, B, "A+C");
                dueAsk(check, x, B, 0, 1, 0, 0);
                x.set(A, 0, a);
                x.set(C, 0, c);
                x.set(L, 1, 0);
                dueAsk(check, x, B, 0, 0, 1, 0);
                check.due("note(1, 5) of " + a + " and " + c, x.note(B, 5), Math.min(a, c));
            }
        }
    }

    @Sentence("In both cases VERIFIED is this revision then (whether there is a value or not).")
    void confirmedWithoutAValue(Check check) {
        NoteSheet x = new NoteSheet(1);
        check.define(x, B, "A");
        check.define(x, C, "B");
        x.ask(C);
        check.dueNote(x, B, 3, 3, 0, 1, 0);
        x.set(L, 1, 0);
        dueAsk(check, x, C, 0, 0, 2, 0, 1);
        check.dueNote(x, B, 3, 4, 0, 1, 0);
        check.dueNote(x, C, 3, 4, 0, 1, 1);
    }

    @Sentence("In both cases VERIFIED is this revision then (whether there is a value or not).")
    void passedWithoutAValue(Check check) {
        NoteSheet x = new NoteSheet(1);
        x.set(A, 5, 2);
        check.define(x, B, "A");
        check.define(x, C, "B+D");
        x.ask(C);
        check.dueNote(x, B, 4, 4, 2, 1, 0);
        x.set(L, 1, 0);
        dueAsk(check, x, C, 5, 0, 1, 1, 1);
        check.dueNote(x, B, 4, 5, 2, 1, 0);
        check.dueNote(x, C, 4, 5, 0, 2, 1);
    }

    @Sentence("Else it is worked out.")
    void workedOutWhenNothingElseHolds(Check check) {
        NoteSheet x = new NoteSheet(12);
        check.define(x, A, "B+C");
        dueAsk(check, x, A, 0, 1, 0, 0);
        x.set(C, 1, 0);
        dueAsk(check, x, A, 1, 1, 0, 0);
        check.define(x, A, "B-C");
        dueAsk(check, x, A, -1, 1, 0, 0);
        check.define(x, C, "A");
        dueAsk(check, x, A, BAD, 2, 0, 0);
    }

    @Sentence("TO WORK a cell OUT: it is at work until the end;")
    void atWorkWhileItIsWorkedOut(Check check) {
        NoteSheet x = new NoteSheet(1);
        check.define(x, A, "B");
        check.define(x, B, "A");
        check.define(x, C, "1");
        dueAsk(check, x, A, BAD, 2, 0, 0, 1);
        dueAsk(check, x, C, 1, 1, 0, 0, 1);
        dueValues(check, x, 0, 0, 1);
        // Both are verified, but have no value, so both are worked out, each of them once.
        dueAsk(check, x, A, BAD, 2, 0, 0, 1);
        check.dueNote(x, A, 4, 4, 0, 1, 1);
        check.dueNote(x, B, 4, 4, 0, 1, 0);
        x.set(B, 5, 0);
        dueAsk(check, x, A, 5, 1, 0, 0, 1);
    }

    @Sentence("The note has the value then, these reads,")
    void newReadsTakeThePlaceOfTheOld(Check check) {
        NoteSheet x = new NoteSheet(12);
        x.set(A, 1, 0);
        check.define(x, L, "A?B+C+D:E");
        x.ask(L);
        check.dueReads(x, L, A, B, C, D);
        x.set(A, 0, 0);
        x.set(E, 6, 0);
        check.due("ask(11)", x.ask(L), 6);
        check.dueReads(x, L, A, E);
        check.define(x, L, "6");
        check.due("ask(11)", x.ask(L), 6);
        check.dueReads(x, L);
    }

    @Sentence("it is put behind the reads, if it is not there; if it is at work, it gives BAD")
    void cellsAtWorkGiveBad(Check check) {
        NoteSheet x = new NoteSheet(12);
        check.define(x, A, "B+1");
        check.define(x, B, "C+1");
        check.define(x, C, "D?E:A");
        check.due("ask(0)", x.ask(A), BAD);
        check.dueReads(x, C, D, A);
        check.dueReads(x, B, C);
        check.dueReads(x, A, B);
        x.set(D, 1, 0);
        check.due("ask(0)", x.ask(A), 2);
        check.dueReads(x, C, D, E);
        x.set(D, 0, 0);
        check.due("ask(2)", x.ask(C), BAD);
        check.due("ask(1)", x.ask(B), BAD);
    }

    @Sentence("otherwise it is brought up to date, and, if it has a formula and its note has no value, worked out; it gives its value.")
    void readWithoutAValueIsWorkedOut(Check check) {
        NoteSheet x = new NoteSheet(1);
        x.set(A, 5, 2);
        check.define(x, B, "A");
        check.define(x, C, "B+D");
        dueAsk(check, x, C, 5, 2, 0, 0, 1);
        x.set(D, 1, 0);
        // B passes in C's reads, and is worked out only when C reads it.
        dueAsk(check, x, C, 6, 2, 0, 1, 1);
        check.dueTally(x, B, 2, 0, 1);
        check.dueNote(x, B, 4, 5, 2, 1, 0);
        check.dueNote(x, C, 5, 5, 0, 2, 1);
    }

    @Sentence("the least of 2 and the durabilities of what was read (those at work excepted) as its durability, or 0 if one at work was read")
    void durabilityOfANote(Check check) {
        for (int a = 0; a <= 2; a++) {
            for (int c = 0; c <= 2; c++) {
                NoteSheet x = new NoteSheet(12);
                x.set(A, 1, a);
                x.set(C, 1, c);
                check.define(x, B, "A+C");
                check.define(x, D, "B");
                x.ask(D);
                check.due("note(1, 5) of " + a + " and " + c, x.note(B, 5), Math.min(a, c));
                check.due("note(3, 5) of " + a + " and " + c, x.note(D, 5), Math.min(a, c));
            }
        }
        NoteSheet x = new NoteSheet(12);
        check.define(x, A, "7");
        x.ask(A);
        check.due("note(0, 5) of no reads", x.note(A, 5), 2);
    }

    @Sentence("the least of 2 and the durabilities of what was read (those at work excepted) as its durability, or 0 if one at work was read")
    void durabilityOfReadsAtWork(Check check) {
        NoteSheet x = new NoteSheet(12);
        x.set(A, 1, 2);
        check.define(x, B, "A+B");
        check.due("ask(1)", x.ask(B), BAD);
        check.due("note(1, 5)", x.note(B, 5), 0);
        check.dueReads(x, B, A, B);
        check.define(x, C, "A+D");
        check.define(x, D, "A+C");
        check.due("ask(2)", x.ask(C), BAD);
        check.due("note(3, 5) of A and of C at work", x.note(D, 5), 0);
        check.due("note(2, 5) of A and D", x.note(C, 5), 0);
    }

    @Sentence("SINCE is as it was if there was a note that had an equal value")
    void equalValues(Check check) {
        NoteSheet x = new NoteSheet(12);
        x.set(A, 3, 0);
        check.define(x, B, "A<9");
        x.ask(B);
        check.dueNote(x, B, 3, 3, 0, 1, 1);
        x.set(A, 8, 0);
        dueAsk(check, x, B, 1, 1, 0, 0);
        check.dueNote(x, B, 3, 4, 0, 1, 1);
        check.define(x, B, "1");
        dueAsk(check, x, B, 1, 1, 0, 0);
        check.dueNote(x, B, 3, 5, 2, 0, 1);
        check.define(x, B, "B");
        dueAsk(check, x, B, BAD, 1, 0, 0);
        check.dueNote(x, B, 6, 6, 0, 1, 1);
        check.define(x, B, "B+A");
        dueAsk(check, x, B, BAD, 1, 0, 0);
        check.dueNote(x, B, 6, 7, 0, 1, 1);
    }

    @Sentence("that was verified in this revision, and otherwise this revision; VERIFIED is this revision.")
    void valuesWorkedOutAgain(Check check) {
        NoteSheet x = new NoteSheet(1);
        check.define(x, B, "A");
        check.define(x, C, "4");
        x.ask(B);
        x.ask(C);
        check.dueNote(x, B, 3, 3, 0, 1, 0);
        // Verified in this revision, as it was worked out in it.
        dueAsk(check, x, B, 0, 1, 0, 0);
        check.dueNote(x, B, 3, 3, 0, 1, 1);
        x.ask(C);
        x.set(L, 1, 0);
        // Verified in this revision, as it is confirmed first.
        dueAsk(check, x, B, 0, 1, 1, 0);
        check.dueNote(x, B, 3, 4, 0, 1, 1);
        x.ask(C);
        x.set(A, 1, 0);
        x.set(A, 0, 0);
        // Not verified in this revision; that the dropped value was equal is not known.
        dueAsk(check, x, B, 0, 1, 0, 0);
        check.dueNote(x, B, 6, 6, 0, 1, 1);
        x.set(A, 1, 0);
        dueAsk(check, x, B, 1, 1, 0, 0);
        check.dueNote(x, B, 7, 7, 0, 1, 1);
    }

    @Sentence("A value is USED when it is worked out, read, or asked for.")
    void workedOutIsUsed(Check check) {
        NoteSheet x = new NoteSheet(3);
        check.define(x, B, "A*0");
        check.define(x, C, "B");
        check.define(x, D, "1");
        x.ask(C);
        x.ask(D);
        x.set(A, 1, 0);
        // B is worked out, but not read: C is confirmed.
        dueAsk(check, x, C, 0, 1, 1, 0, 3);
        check.define(x, E, "1");
        x.ask(E);
        dueValues(check, x, 1, 1, 1, 0, 1);
    }

    @Sentence("A value is USED when it is worked out, read, or asked for.")
    void readIsUsed(Check check) {
        NoteSheet x = new NoteSheet(3);
        check.define(x, A, "1");
        check.define(x, B, "2");
        check.define(x, C, "A");
        check.define(x, D, "3");
        x.ask(A);
        x.ask(B);
        x.ask(C);
        x.ask(D);
        dueValues(check, x, 1, 0, 1, 1);
        // The second time that a formula reads a cell is a use, too.
        x = new NoteSheet(2);
        check.define(x, A, "1");
        check.define(x, B, "2");
        check.define(x, C, "A+B+A");
        x.ask(C);
        dueValues(check, x, 1, 0, 1);
    }

    @Sentence("A value is USED when it is worked out, read, or asked for.")
    void askedForIsUsed(Check check) {
        NoteSheet x = new NoteSheet(2);
        check.define(x, A, "1");
        check.define(x, B, "2");
        check.define(x, C, "3");
        x.ask(A);
        x.ask(B);
        dueAsk(check, x, A, 1, 0, 0, 0, 2);
        x.ask(C);
        dueValues(check, x, 1, 0, 1);
    }

    @Sentence("A value is USED when it is worked out, read, or asked for.")
    void goneThroughIsNotUsed(Check check) {
        NoteSheet x = new NoteSheet(3);
        check.define(x, A, "E");
        check.define(x, B, "A");
        check.define(x, C, "3");
        check.define(x, D, "4");
        x.ask(B);
        x.ask(C);
        x.set(L, 1, 0);
        // A is confirmed for B, and B for the ask: only B's value is used.
        dueAsk(check, x, B, 0, 0, 2, 0, 3);
        x.ask(D);
        dueValues(check, x, 0, 1, 1, 1);
    }

    @Sentence("After each ask(), as long as more values are in notes than may be KEPT, the value that was used longest ago is dropped.")
    void asManyAsMayBeKept(Check check) {
        for (int kept = 1; kept <= 12; kept++) {
            NoteSheet x = new NoteSheet(kept);
            for (int cell = A; cell <= L; cell++) {
                check.define(x, cell, "7");
                x.ask(cell);
                check.due("count(3) of " + kept, x.count(3), Math.min(cell + 1, kept));
                check.due("note of the one asked for", x.note(cell, 7), 1);
                if (cell >= kept) {
                    check.due("note of the one dropped", x.note(cell - kept, 7), 0);
                    check.due("note of the oldest kept", x.note(cell - kept + 1, 7), 1);
                } else {
                    check.due("note of the first", x.note(A, 7), 1);
                }
            }
        }
    }

    @Sentence("After each ask(), as long as more values are in notes than may be KEPT, the value that was used longest ago is dropped.")
    void manyAreDroppedByOneAsk(Check check) {
        for (int kept = 1; kept <= 12; kept++) {
            NoteSheet x = new NoteSheet(kept);
            for (int cell = A; cell < L; cell++) {
                check.define(x, cell, (char) ('B' + cell) + "+1");
            }
            check.define(x, L, "1");
            dueAsk(check, x, A, 12, 12, 0, 0, kept);
            for (int cell = A; cell <= L; cell++) {
                check.due("note(" + cell + ", 7) of " + kept, x.note(cell, 7), cell < kept ? 1 : 0);
            }
        }
    }

    @Sentence("After each ask(), as long as more values are in notes than may be KEPT, the value that was used longest ago is dropped.")
    void valuesOfBadAndOfOldFormulasAreKept(Check check) {
        NoteSheet x = new NoteSheet(2);
        check.define(x, A, "A");
        check.define(x, B, "2");
        check.define(x, C, "3");
        x.ask(A);
        x.ask(B);
        check.due("count(3)", x.count(3), 2);
        check.define(x, A, "1");
        check.due("count(3) behind define()", x.count(3), 2);
        x.ask(C);
        dueValues(check, x, 0, 1, 1);
        // An input's number is not one of these values.
        x.set(B, 5, 0);
        check.due("count(3) behind set()", x.count(3), 1);
        x.ask(A);
        dueValues(check, x, 1, 1, 1);
        check.due("count(3)", x.count(3), 2);
    }
}
