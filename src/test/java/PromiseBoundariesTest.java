/** The boundary cases in each sentence of promises 1 to 10. */
public final class PromiseBoundariesTest extends SentenceTests {
    public static void main(String[] args) {
        new PromiseBoundariesTest().runAll();
    }

    /** A sheet on which most has happened: notes with and without a value, BAD, all durabilities. */
    private static NoteSheet busySheet(Check check) {
        NoteSheet x = new NoteSheet(3);
        x.set(A, 5, 2);
        x.set(B, -1, 1);
        x.set(B, -2, 1);
        check.define(x, C, "A+B");
        check.define(x, D, "C*C");
        check.define(x, E, "E");
        check.define(x, F, "1?D:E");
        x.ask(E);
        x.ask(F);
        x.set(G, 1, 0);
        x.ask(F);
        return x;
    }

    @Sentence("Promise 1: As said above; KEPT is kept, but 1 if that is less, and 12 if it is more.")
    void promise1Kept(Check check) {
        int[] kept = {MIN, -12, -1, 0, 1, 2, 11, 12, 13, 24, MAX};
        int[] want = {1, 1, 1, 1, 1, 2, 11, 12, 12, 12, 12};
        for (int i = 0; i < kept.length; i++) {
            NoteSheet x = new NoteSheet(kept[i]);
            for (int cell = A; cell <= L; cell++) {
                check.define(x, cell, "7");
                x.ask(cell);
                check.due("count(3) of " + kept[i], x.count(3), Math.min(cell + 1, want[i]));
            }
        }
    }

    @Sentence("Promise 1: As said above;")
    void promise1NewObject(Check check) {
        int[] kept = {MIN, 1, 12, MAX};
        for (int k : kept) {
            NoteSheet x = new NoteSheet(k);
            check.due("revision()", x.revision(), 1);
            check.dueChanged(x, 0, 0, 0);
            check.dueCounts(x, 0, 0, 0, 0);
            for (int cell = A; cell <= L; cell++) {
                check.dueTally(x, cell, 0, 0, 0);
                check.dueNote(x, cell, 0, 0, 0, 0, 1);
                check.dueReads(x, cell);
                check.due("ask(" + cell + ")", x.ask(cell), 0);
            }
            duePadIsEmpty(check, x);
        }
    }

    @Sentence("Promise 1: As said above;")
    void promise1ObjectsAreApart(Check check) {
        NoteSheet x = new NoteSheet(12);
        NoteSheet y = new NoteSheet(12);
        x.set(A, 7, 1);
        check.define(x, B, "A");
        x.ask(B);
        x.type('1');
        check.due("revision()", y.revision(), 1);
        check.due("ask(0)", y.ask(A), 0);
        check.due("note(1, 6)", y.note(B, 6), 0);
        check.due("define(0) of an empty pad", y.define(A), 1);
    }

    @Sentence("Promise 2: Puts a character behind the pad's text: true;")
    void promise2Taken(Check check) {
        for (char c : SIGNS_OF_FORMULAS.toCharArray()) {
            NoteSheet x = new NoteSheet(1);
            for (int i = 0; i < 30; i++) {
                check.due("type(" + c + ")", x.type(c), true);
            }
            check.due("type(" + c + ") behind 30", x.type(c), false);
        }
        NoteSheet x = new NoteSheet(1);
        check.define(x, A, "12-3");
        check.due("ask(0)", x.ask(A), 9);
    }

    @Sentence("Promise 2: refused with false when it is none of those that stand in formulas")
    void promise2NoCharacterOfFormulas(Check check) {
        NoteSheet x = null;
        for (int c = 0; c <= Character.MAX_VALUE; c++) {
            x = c % 400 == 0 ? new NoteSheet(1) : x;
            if (SIGNS_OF_FORMULAS.indexOf(c) < 0) {
                check.due("type((char) " + c + ")", x.type((char) c), false);
            }
            if (c % 400 == 399) {
                check.due("define(0) of an empty pad", x.define(A), 1);
            }
        }
        NoteSheet y = new NoteSheet(1);
        y.type('1');
        for (char c : "M/;>',.a".toCharArray()) {
            check.due("type(" + c + ") behind 1", y.type(c), false);
        }
        y.type('2');
        check.due("define(0) of 12", y.define(A), 0);
        check.due("ask(0)", y.ask(A), 12);
    }

    @Sentence("Promise 2: refused with false when [...] 30 are there.")
    void promise2ThirtyAreThere(Check check) {
        NoteSheet x = new NoteSheet(1);
        for (char c : THIRTY.toCharArray()) {
            check.due("type(" + c + ")", x.type(c), true);
        }
        for (char c : (SIGNS_OF_FORMULAS + "M ").toCharArray()) {
            check.due("type(" + c + ") behind 30", x.type(c), false);
        }
        check.due("define(0)", x.define(A), 0);
        check.due("ask(0)", x.ask(A), 26);
        duePadIsEmpty(check, x);
    }

    @Sentence("Promise 3: The pad's text becomes the cell's formula, and the pad is empty then: 0.")
    void promise3Defined(Check check) {
        for (int cell = A; cell <= L; cell++) {
            NoteSheet x = new NoteSheet(12);
            check.define(x, cell, "40+" + cell);
            check.due("define(" + cell + ") of an empty pad", x.define(cell), 1);
            check.due("ask(" + cell + ")", x.ask(cell), 40 + cell);
            duePadIsEmpty(check, x);
        }
        NoteSheet x = new NoteSheet(12);
        check.define(x, A, THIRTY);
        duePadIsEmpty(check, x);
    }

    @Sentence("Promise 3: Otherwise only the pad becomes empty: NONE, there is no such cell;")
    void promise3NoSuchCell(Check check) {
        for (int cell : NO_CELLS) {
            NoteSheet x = busySheet(check);
            String before = stateOf(x);
            check.due("define(" + cell + ") of 1", check.typed(x, cell, "1"), NONE);
            check.due("define(" + cell + ") of nothing", x.define(cell), NONE);
            check.due("define(" + cell + ") of 1+", check.typed(x, cell, "1+"), NONE);
            dueState(check, "define(" + cell + ")", x, before);
            duePadIsEmpty(check, x);
        }
    }

    @Sentence("Promise 3: Otherwise only the pad becomes empty: [...] 1 + the fault, it is no formula.")
    void promise3NoFormula(Check check) {
        String[] texts = {"", "+", "1+", "1++", "12345", "((((((", "1+1+1+1+1+1+1+1+1+1+1+1+1+1+1+"};
        int[] faults = {0, 0, 2, 2, 4, 5, 30};
        for (int i = 0; i < texts.length; i++) {
            for (int cell = C; cell <= H; cell += 5) {
                NoteSheet x = busySheet(check);
                String before = stateOf(x);
                check.due("define(" + cell + ") of " + texts[i], check.typed(x, cell, texts[i]), 1 + faults[i]);
                dueState(check, "define(" + cell + ")", x, before);
                duePadIsEmpty(check, x);
                check.due("ask(2)", x.ask(C), 3);
                check.due("ask(7)", x.ask(H), 0);
            }
        }
    }

    @Sentence("Promise 3: (A formula that is the same text as before changes nothing, and is no change.)")
    void promise3SameText(Check check) {
        NoteSheet x = busySheet(check);
        String before = stateOf(x);
        check.define(x, C, "A+B");
        check.define(x, E, "E");
        check.define(x, F, "1?D:E");
        dueState(check, "define() of the same texts", x, before);
        duePadIsEmpty(check, x);
        dueAsk(check, x, F, 9, 0, 0, 0);
    }

    @Sentence("Promise 3: (A formula that is the same text as before changes nothing, and is no change.)")
    void promise3OtherTexts(Check check) {
        NoteSheet x = new NoteSheet(12);
        String[] texts = {"1", "01", "1+0", "1-0", "1+00", "1+0*0", "(1)", "1", THIRTY, THIRTY.substring(0, 29) + "3"};
        for (int i = 0; i < texts.length; i++) {
            check.define(x, A, texts[i]);
            check.due("revision() behind " + texts[i], x.revision(), 2 + i);
            check.define(x, A, texts[i]);
            check.due("revision() behind the same " + texts[i], x.revision(), 2 + i);
        }
        // Another cell's text, and that of a formula that is one no more, are not the text before.
        NoteSheet y = new NoteSheet(12);
        check.define(y, A, "7");
        check.define(y, B, "7");
        check.due("revision() behind B", y.revision(), 3);
        y.set(A, 7, 0);
        check.define(y, A, "7");
        check.due("revision() behind A", y.revision(), 5);
        check.dueNote(y, A, 0, 0, 0, 0, 0);
    }

    @Sentence("Promise 3: A note stays;")
    void promise3NoteStays(Check check) {
        NoteSheet x = new NoteSheet(1);
        x.set(B, 5, 1);
        check.define(x, A, "B");
        x.ask(A);
        check.define(x, A, "C+D");
        check.dueNote(x, A, 3, 3, 1, 1, 1);
        check.dueReads(x, A, B);
        check.dueTally(x, A, 1, 0, 0);
        check.due("count(3)", x.count(3), 1);
        check.define(x, E, "1");
        x.ask(E);
        check.define(x, A, "C");
        check.dueNote(x, A, 3, 3, 1, 1, 0);
        check.dueReads(x, A, B);
        dueAsk(check, x, A, 0, 1, 0, 0, 1);
        check.dueNote(x, A, 6, 6, 0, 1, 1);
    }

    @Sentence("Promise 3: an input that becomes a formula has none.")
    void promise3NoNoteAtFirst(Check check) {
        NoteSheet x = new NoteSheet(12);
        x.set(A, 5, 2);
        check.define(x, A, "B");
        check.dueNote(x, A, 0, 0, 0, 0, 0);
        check.dueReads(x, A);
        x.ask(A);
        x.set(A, 5, 2);
        check.define(x, A, "B");
        check.dueNote(x, A, 0, 0, 0, 0, 0);
        check.dueReads(x, A);
        check.due("count(3)", x.count(3), 0);
        dueAsk(check, x, A, 0, 1, 0, 0, 1);
        check.dueNote(x, A, 5, 5, 0, 1, 1);
    }

    @Sentence("Promise 3: The revision grows, and CHANGED 0 to the former durability (2 for a formula) is the new one.")
    void promise3Changed(Check check) {
        for (int durability = 0; durability <= 2; durability++) {
            NoteSheet x = new NoteSheet(12);
            x.set(A, 5, durability);
            check.define(x, A, "B");
            check.due("revision()", x.revision(), 3);
            check.dueChanged(x, 3, durability >= 1 ? 3 : 0, durability >= 2 ? 3 : 0);
            check.define(x, A, "C");
            check.due("revision()", x.revision(), 4);
            check.dueChanged(x, 4, 4, 4);
        }
    }

    @Sentence("Promise 4: The cell becomes an input with this number and durability: true;")
    void promise4Set(Check check) {
        int[] numbers = {MIN, -1, 0, 1, MAX};
        for (int cell = A; cell <= L; cell++) {
            NoteSheet x = new NoteSheet(12);
            for (int number : numbers) {
                for (int durability = 0; durability <= 2; durability++) {
                    check.due("set()", x.set(cell, number, durability), true);
                    check.due("ask(" + cell + ")", x.ask(cell), number);
                    check.due("note(" + cell + ", 5)", x.note(cell, 5), durability);
                    check.due("note(" + cell + ", 7)", x.note(cell, 7), 1);
                }
            }
        }
    }

    @Sentence("Promise 4: refused with false when there is no such cell, or durability is not 0 .. 2.")
    void promise4Refused(Check check) {
        for (int cell : NO_CELLS) {
            NoteSheet x = busySheet(check);
            String before = stateOf(x);
            for (int durability = -1; durability <= 3; durability++) {
                check.due("set(" + cell + ", 1, " + durability + ")", x.set(cell, 1, durability), false);
            }
            dueState(check, "set(" + cell + ")", x, before);
        }
        for (int durability : NO_DURABILITIES) {
            NoteSheet x = busySheet(check);
            String before = stateOf(x);
            for (int cell = A; cell <= L; cell++) {
                check.due("set(" + cell + ", 1, " + durability + ")", x.set(cell, 1, durability), false);
            }
            dueState(check, "set() of durability " + durability, x, before);
            check.due("ask(0)", x.ask(A), 5);
            check.due("ask(1)", x.ask(B), -2);
            check.due("ask(2)", x.ask(C), 3);
        }
    }

    @Sentence("Promise 4: refused with false")
    void promise4LeavesThePad(Check check) {
        NoteSheet x = new NoteSheet(12);
        x.type('1');
        x.set(A, 1, 3);
        x.set(12, 1, 0);
        x.set(A, 7, 0);
        x.ask(12);
        x.ask(A);
        x.type('2');
        check.due("define(1)", x.define(B), 0);
        check.due("ask(1)", x.ask(B), 12);
    }

    @Sentence("Promise 4: If it is one, with the same number and durability, nothing changes;")
    void promise4Same(Check check) {
        NoteSheet x = busySheet(check);
        String before = stateOf(x);
        check.due("set(0, 5, 2)", x.set(A, 5, 2), true);
        check.due("set(1, -2, 1)", x.set(B, -2, 1), true);
        check.due("set(6, 1, 0)", x.set(G, 1, 0), true);
        check.due("set(11, 0, 0)", x.set(L, 0, 0), true);
        dueState(check, "set() of the same", x, before);
        // A formula that gives the same number is not an input.
        NoteSheet y = new NoteSheet(12);
        check.define(y, A, "0");
        y.ask(A);
        check.due("set(0, 0, 0)", y.set(A, 0, 0), true);
        check.due("revision()", y.revision(), 3);
    }

    @Sentence("Promise 4: otherwise the revision grows, CHANGED 0 to the former durability (2 for a formula) is the new one,")
    void promise4Changed(Check check) {
        for (int former = 0; former <= 2; former++) {
            for (int durability = 0; durability <= 2; durability++) {
                NoteSheet x = new NoteSheet(12);
                x.set(A, 5, former);
                x.set(A, 6, durability);
                check.due("revision()", x.revision(), 3);
                check.dueChanged(x, 3, former >= 1 ? 3 : 0, former >= 2 ? 3 : 0);
            }
        }
        NoteSheet x = new NoteSheet(12);
        check.define(x, A, "1");
        x.set(A, 1, 0);
        check.due("revision()", x.revision(), 3);
        check.dueChanged(x, 3, 3, 3);
    }

    @Sentence("Promise 4: and SINCE too, if it was a formula or had another number.")
    void promise4Since(Check check) {
        NoteSheet x = new NoteSheet(12);
        x.set(A, 0, 1);
        check.dueNote(x, A, 0, 0, 1, 0, 1);
        x.set(A, MAX, 1);
        check.dueNote(x, A, 3, 0, 1, 0, 1);
        x.set(A, MAX, 0);
        check.dueNote(x, A, 3, 0, 0, 0, 1);
        x.set(A, MIN, 2);
        check.dueNote(x, A, 5, 0, 2, 0, 1);
        check.define(x, A, "1");
        x.set(A, MIN, 2);
        check.dueNote(x, A, 7, 0, 2, 0, 1);
    }

    @Sentence("Promise 4: A formula's note goes.")
    void promise4NoteGoes(Check check) {
        NoteSheet x = new NoteSheet(12);
        check.define(x, A, "B+C");
        x.ask(A);
        x.set(D, 1, 0);
        x.ask(A);
        check.due("count(3)", x.count(3), 1);
        x.set(A, 0, 0);
        check.due("count(3)", x.count(3), 0);
        check.dueNote(x, A, 4, 0, 0, 0, 1);
        check.dueReads(x, A);
        // How often is since the beginning, and does not go.
        check.dueTally(x, A, 1, 1, 0);
        check.dueCounts(x, 0, 1, 0, 0);
    }

    @Sentence("Promise 5: What a cell gives: an input's number; a formula's value, the cell being brought up to date, and worked out if its note has no value then; BAD.")
    void promise5Given(Check check) {
        NoteSheet x = new NoteSheet(1);
        x.set(A, MIN, 2);
        check.define(x, B, "A-1");
        check.define(x, C, "C");
        dueAsk(check, x, A, MIN, 0, 0, 0, 0);
        dueAsk(check, x, B, MAX, 1, 0, 0, 1);
        dueAsk(check, x, C, BAD, 1, 0, 0, 1);
        dueAsk(check, x, B, MAX, 1, 0, 0, 1);
        dueAsk(check, x, C, BAD, 1, 0, 0, 1);
        x.set(L, 1, 0);
        // B passes, and has no value then; C reads one at work, so it is worked out once.
        dueAsk(check, x, B, MAX, 1, 0, 1, 1);
        dueAsk(check, x, C, BAD, 1, 0, 0, 1);
    }

    @Sentence("Promise 5: NONE when there is no such cell (a number may be the same).")
    void promise5NoSuchCell(Check check) {
        for (int cell : NO_CELLS) {
            NoteSheet x = busySheet(check);
            String before = stateOf(x);
            check.due("ask(" + cell + ")", x.ask(cell), NONE);
            dueState(check, "ask(" + cell + ")", x, before);
        }
        NoteSheet x = new NoteSheet(12);
        x.set(A, NONE, 0);
        check.define(x, B, "0-1");
        check.due("ask(0)", x.ask(A), NONE);
        check.due("ask(1)", x.ask(B), NONE);
        check.dueCounts(x, 1, 0, 0, 1);
    }

    @Sentence("Promise 6: The revision.")
    void promise6Revision(Check check) {
        NoteSheet x = new NoteSheet(12);
        for (int i = 1; i <= 255; i++) {
            check.due("revision()", x.revision(), i);
            x.set(L, i, i % 3);
        }
        check.due("revision()", x.revision(), 256);
    }

    @Sentence("Promise 7: CHANGED for a durability; NONE when that is not 0 .. 2.")
    void promise7Changed(Check check) {
        NoteSheet x = new NoteSheet(12);
        x.set(A, 1, 2);
        x.set(A, 2, 1);
        x.set(A, 3, 0);
        x.set(A, 4, 0);
        check.due("changed(0)", x.changed(0), 5);
        check.due("changed(1)", x.changed(1), 4);
        check.due("changed(2)", x.changed(2), 3);
        for (int durability : NO_DURABILITIES) {
            check.due("changed(" + durability + ")", x.changed(durability), NONE);
        }
    }

    @Sentence("Promise 8: what = 0 how often it was worked out, 1 how often confirmed, 2 how often it passed, all since the beginning;")
    void promise8Tallies(Check check) {
        NoteSheet x = new NoteSheet(12);
        x.set(A, 1, 1);
        check.define(x, B, "A");
        check.dueTally(x, B, 0, 0, 0);
        x.ask(B);
        check.dueTally(x, B, 1, 0, 0);
        x.set(L, 1, 0);
        x.ask(B);
        check.dueTally(x, B, 1, 0, 1);
        x.set(L, 1, 1);
        x.set(L, 2, 1);
        x.ask(B);
        check.dueTally(x, B, 1, 1, 1);
        x.set(A, 2, 1);
        x.ask(B);
        x.ask(B);
        check.dueTally(x, B, 2, 1, 1);
        x.set(B, 0, 0);
        check.dueTally(x, B, 2, 1, 1);
        check.define(x, B, "A");
        check.dueTally(x, B, 2, 1, 1);
        x.ask(B);
        check.dueTally(x, B, 3, 1, 1);
    }

    @Sentence("Promise 8: 3 SINCE, 4 VERIFIED, 5 the durability (of the input, or the note), 6 how many reads there are, 7 whether there is a value (1) or not (0).")
    void promise8Notes(Check check) {
        NoteSheet x = new NoteSheet(1);
        x.set(A, 1, 1);
        check.define(x, B, "A+C*0");
        check.define(x, D, "5");
        x.ask(B);
        check.dueNote(x, B, 4, 4, 0, 2, 1);
        x.ask(D);
        check.dueNote(x, B, 4, 4, 0, 2, 0);
        check.dueNote(x, D, 4, 4, 2, 0, 1);
        x.set(C, 0, 1);
        x.ask(B);
        check.dueNote(x, B, 4, 5, 1, 2, 1);
        check.define(x, L, "A+B+C+D+E+F+G+H+I+J+K+L");
        x.ask(L);
        check.dueNote(x, L, 6, 6, 0, 12, 1);
    }

    @Sentence("Promise 8: For an input 4 and 6 are 0, 7 is 1;")
    void promise8Inputs(Check check) {
        NoteSheet x = new NoteSheet(1);
        check.dueNote(x, L, 0, 0, 0, 0, 1);
        x.set(L, 7, 2);
        x.ask(L);
        check.dueNote(x, L, 2, 0, 2, 0, 1);
        check.define(x, L, "A");
        x.ask(L);
        x.set(L, 7, 1);
        check.dueNote(x, L, 4, 0, 1, 0, 1);
    }

    @Sentence("Promise 8: without a note 3 to 7 are 0.")
    void promise8WithoutANote(Check check) {
        NoteSheet x = new NoteSheet(12);
        x.set(A, 7, 2);
        check.define(x, A, "B");
        check.dueNote(x, A, 0, 0, 0, 0, 0);
        check.define(x, A, "C");
        check.dueNote(x, A, 0, 0, 0, 0, 0);
        x.ask(B);
        check.dueNote(x, A, 0, 0, 0, 0, 0);
        // Nothing is left of the note of a former formula, either.
        x.set(B, 1, 2);
        check.define(x, D, "B");
        x.ask(D);
        check.dueNote(x, D, 6, 6, 2, 1, 1);
        x.set(D, 1, 2);
        check.define(x, D, "B");
        check.dueNote(x, D, 0, 0, 0, 0, 0);
    }

    @Sentence("Promise 8: NONE when there is no such cell or what.")
    void promise8None(Check check) {
        NoteSheet x = busySheet(check);
        for (int cell : NO_CELLS) {
            for (int what = -1; what <= 8; what++) {
                check.due("note(" + cell + ", " + what + ")", x.note(cell, what), NONE);
            }
        }
        int[] whats = {MIN, -1, 8, 9, MAX};
        for (int what : whats) {
            for (int cell = A; cell <= L; cell++) {
                check.due("note(" + cell + ", " + what + ")", x.note(cell, what), NONE);
            }
        }
    }

    @Sentence("Promise 9: Read i (from 0) in the note of a cell; NONE when there is none.")
    void promise9Reads(Check check) {
        NoteSheet x = new NoteSheet(12);
        int[] places = {MIN, -1, 0, 1, 11, 12, MAX};
        for (int place : places) {
            check.due("read(0, " + place + ") of an input", x.read(A, place), NONE);
        }
        check.define(x, L, "K+J+I+H+G+F+E+D+C+B+A+L");
        for (int place : places) {
            check.due("read(11, " + place + ") without a note", x.read(L, place), NONE);
        }
        x.ask(L);
        check.dueReads(x, L, K, J, I, H, G, F, E, D, C, B, A, L);
        check.due("read(11, MIN)", x.read(L, MIN), NONE);
        check.due("read(11, 13)", x.read(L, 13), NONE);
        check.due("read(11, MAX)", x.read(L, MAX), NONE);
        check.define(x, L, "B");
        x.ask(L);
        check.dueReads(x, L, B);
        for (int place = 1; place <= 12; place++) {
            check.due("read(11, " + place + ")", x.read(L, place), NONE);
        }
        for (int cell : NO_CELLS) {
            check.due("read(" + cell + ", 0)", x.read(cell, 0), NONE);
        }
        x.set(L, 1, 0);
        check.dueReads(x, L);
    }

    @Sentence("Promise 10: How often cells were worked out (0), confirmed (1), passed (2), in the latest ask() of a cell there is;")
    void promise10Counts(Check check) {
        NoteSheet x = new NoteSheet(12);
        check.dueCounts(x, 0, 0, 0, 0);
        x.set(A, 1, 2);
        check.define(x, B, "A");
        check.define(x, C, "B+D");
        check.define(x, E, "C+F");
        dueAsk(check, x, E, 1, 3, 0, 0);
        x.set(F, 1, 0);
        dueAsk(check, x, E, 2, 1, 1, 1);
        for (int cell : NO_CELLS) {
            x.ask(cell);
            check.dueCounts(x, 1, 1, 1);
        }
        x.set(F, 2, 0);
        x.set(12, 2, 0);
        check.typed(x, G, "1+");
        check.define(x, G, "1");
        check.dueCounts(x, 1, 1, 1);
        // The ask of an input is the latest ask of a cell there is, too.
        dueAsk(check, x, A, 1, 0, 0, 0);
    }

    @Sentence("Promise 10: how many values are in notes (3).")
    void promise10Values(Check check) {
        NoteSheet x = new NoteSheet(12);
        for (int cell = A; cell <= L; cell++) {
            check.due("count(3)", x.count(3), cell);
            check.define(x, cell, cell % 2 == 0 ? "1" : String.valueOf((char) ('A' + cell)));
            check.due("count(3)", x.count(3), cell);
            x.ask(cell);
        }
        check.due("count(3)", x.count(3), 12);
        for (int cell = A; cell <= L; cell++) {
            x.set(cell, 1, 0);
            check.due("count(3)", x.count(3), 11 - cell);
        }
    }

    @Sentence("Promise 10: NONE for another what.")
    void promise10None(Check check) {
        int[] whats = {MIN, -1, 4, 5, MAX};
        for (int what : whats) {
            check.due("count(" + what + ")", new NoteSheet(12).count(what), NONE);
            check.due("count(" + what + ")", busySheet(check).count(what), NONE);
        }
    }
}
