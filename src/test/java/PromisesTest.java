/** Every promise by hand: ordinary inputs, the edges that the document names, wrong inputs. */
public final class PromisesTest {
    private static final int A = 0;
    private static final int B = 1;
    private static final int C = 2;
    private static final int D = 3;
    private static final int E = 4;
    private static final int F = 5;
    private static final int G = 6;
    private static final int L = 11;

    private final Check check = new Check("promises");

    public static void main(String[] args) {
        PromisesTest test = new PromisesTest();
        test.constants();
        test.newObject();
        test.keptIsHeldInItsBounds();
        test.typeTakesTheCharactersOfFormulas();
        test.typeRefusesTheThirtyFirst();
        test.defineEmptiesThePad();
        test.defineTheSameTextIsNoChange();
        test.defineGrowsTheRevision();
        test.defineKeepsTheNoteOfAFormula();
        test.setRefusesWrongInputs();
        test.setTheSameIsNoChange();
        test.setOfTheDurabilityAloneKeepsSince();
        test.setTakesTheNoteOfAFormula();
        test.askWorksOut();
        test.askPicksOneBranch();
        test.askReadsByNumber();
        test.askEndsAtBad();
        test.askOfWrongCells();
        test.cyclesAreBad();
        test.passing();
        test.confirming();
        test.equalValueKeepsSince();
        test.droppedValueIsWorkedOutWithSinceKept();
        test.droppedValueIsVerifiedWithoutBeingWorkedOut();
        test.cellAtWorkEndsConfirming();
        test.confirmedTakesNewDurability();
        test.longestUnusedIsDropped();
        test.readingIsUse();
        test.cellAtWorkGivesNoUse();
        test.readsKeepTheirFirstPlace();
        test.countsAreOfTheLatestAsk();
        test.noteOfWrongInputs();
        test.changedOfWrongInputs();
        test.longestChain();
        test.check.end();
    }

    private void constants() {
        check.due("NONE", NoteSheet.NONE, -1);
        check.due("BAD", NoteSheet.BAD, 1099511627776L);
    }

    private void newObject() {
        NoteSheet x = new NoteSheet(3);
        check.due("revision()", x.revision(), 1);
        check.dueChanged(x, 0, 0, 0);
        check.dueCounts(x, 0, 0, 0, 0);
        for (int cell = A; cell <= L; cell++) {
            check.dueTally(x, cell, 0, 0, 0);
            check.dueNote(x, cell, 0, 0, 0, 0, 1);
            check.dueReads(x, cell);
            check.due("ask(" + cell + ")", x.ask(cell), 0);
        }
        check.due("define(0) of nothing", x.define(A), 1);
    }

    private void keptIsHeldInItsBounds() {
        int[] kept = {Integer.MIN_VALUE, -1, 0, 1, 2, 11, 12, 13, Integer.MAX_VALUE};
        int[] want = {1, 1, 1, 1, 2, 11, 12, 12, 12};
        for (int i = 0; i < kept.length; i++) {
            NoteSheet x = new NoteSheet(kept[i]);
            for (int cell = A; cell <= L; cell++) {
                check.define(x, cell, "7");
                x.ask(cell);
                check.due("count(3)", x.count(3), Math.min(cell + 1, want[i]));
            }
        }
    }

    private void typeTakesTheCharactersOfFormulas() {
        String allowed = "ABCDEFGHIJKL0123456789?:<=+-*()@";
        for (int c = 0; c <= Character.MAX_VALUE; c += c < 512 ? 1 : 97) {
            NoteSheet fresh = new NoteSheet(1);
            check.due("type((char) " + c + ")", fresh.type((char) c), allowed.indexOf(c) >= 0);
        }
        NoteSheet x = new NoteSheet(1);
        x.type('1');
        check.due("type(a)", x.type('a'), false);
        check.due("type( )", x.type(' '), false);
        x.type('2');
        check.due("define(0)", x.define(A), 0);
        check.due("ask(0)", x.ask(A), 12);
    }

    private void typeRefusesTheThirtyFirst() {
        NoteSheet x = new NoteSheet(1);
        for (int i = 0; i < 14; i++) {
            check.due("type(1)", x.type('1'), true);
            check.due("type(+)", x.type('+'), true);
        }
        check.due("type(1)", x.type('1'), true);
        check.due("type(2)", x.type('2'), true);
        check.due("type(3)", x.type('3'), false);
        check.due("type(M)", x.type('M'), false);
        check.due("define(0)", x.define(A), 0);
        check.due("ask(0)", x.ask(A), 26);
        check.due("type(3)", x.type('3'), true);
    }

    private void defineEmptiesThePad() {
        NoteSheet x = new NoteSheet(1);
        check.due("define(-1)", check.typed(x, -1, "1"), NoteSheet.NONE);
        check.due("define(0)", x.define(A), 1);
        check.due("define(12)", check.typed(x, 12, "1"), NoteSheet.NONE);
        check.due("define(0)", x.define(A), 1);
        check.due("define(12) of no formula", check.typed(x, 12, "1+"), NoteSheet.NONE);
        check.due("define(MAX)", x.define(Integer.MAX_VALUE), NoteSheet.NONE);
        check.due("define(MIN)", x.define(Integer.MIN_VALUE), NoteSheet.NONE);
        check.due("define(0) of 1+", check.typed(x, A, "1+"), 3);
        check.due("define(0)", x.define(A), 1);
        check.due("revision()", x.revision(), 1);
        check.define(x, A, "1");
        check.due("define(0)", x.define(A), 1);
        check.due("revision()", x.revision(), 2);
        check.due("ask(0)", x.ask(A), 1);
    }

    private void defineTheSameTextIsNoChange() {
        NoteSheet x = new NoteSheet(1);
        check.define(x, A, "B+1");
        x.ask(A);
        check.define(x, A, "B+1");
        check.due("revision()", x.revision(), 2);
        check.due("define(0)", x.define(A), 1);
        check.define(x, A, "B+01");
        check.due("revision()", x.revision(), 3);
        check.define(x, A, "B+0");
        check.due("revision()", x.revision(), 4);
        check.define(x, A, "B");
        check.due("revision()", x.revision(), 5);
        x.set(A, 0, 0);
        check.define(x, A, "B");
        check.due("revision()", x.revision(), 7);
        check.dueNote(x, A, 0, 0, 0, 0, 0);
    }

    private void defineGrowsTheRevision() {
        NoteSheet x = new NoteSheet(1);
        check.define(x, A, "1");
        check.dueChanged(x, 2, 0, 0);
        x.set(B, 0, 1);
        check.dueChanged(x, 3, 0, 0);
        check.define(x, B, "2");
        check.dueChanged(x, 4, 4, 0);
        check.define(x, B, "3");
        check.dueChanged(x, 5, 5, 5);
        x.set(C, 0, 2);
        check.dueChanged(x, 6, 5, 5);
        check.define(x, C, "3");
        check.dueChanged(x, 7, 7, 7);
        check.due("revision()", x.revision(), 7);
    }

    private void defineKeepsTheNoteOfAFormula() {
        NoteSheet x = new NoteSheet(12);
        x.set(B, 5, 1);
        check.define(x, A, "B");
        x.ask(A);
        check.dueNote(x, A, 3, 3, 1, 1, 1);
        check.define(x, A, "C+D");
        check.dueNote(x, A, 3, 3, 1, 1, 1);
        check.dueReads(x, A, B);
        check.due("count(3)", x.count(3), 1);
        check.due("ask(0)", x.ask(A), 0);
        check.dueCounts(x, 1, 0, 0, 1);
        check.dueNote(x, A, 4, 4, 0, 2, 1);
        check.dueReads(x, A, C, D);
        check.define(x, A, "0");
        check.due("ask(0)", x.ask(A), 0);
        check.dueNote(x, A, 4, 5, 2, 0, 1);
        check.dueReads(x, A);
        check.dueTally(x, A, 3, 0, 0);
    }

    private void setRefusesWrongInputs() {
        NoteSheet x = new NoteSheet(1);
        int[] cells = {Integer.MIN_VALUE, -1, 12, Integer.MAX_VALUE};
        for (int cell : cells) {
            check.due("set(" + cell + ", 1, 1)", x.set(cell, 1, 1), false);
        }
        int[] durabilities = {Integer.MIN_VALUE, -1, 3, Integer.MAX_VALUE};
        for (int durability : durabilities) {
            check.due("set(0, 1, " + durability + ")", x.set(A, 1, durability), false);
        }
        check.due("revision()", x.revision(), 1);
        check.due("ask(0)", x.ask(A), 0);
    }

    private void setTheSameIsNoChange() {
        NoteSheet x = new NoteSheet(1);
        check.due("set(11, 0, 0)", x.set(L, 0, 0), true);
        check.due("revision()", x.revision(), 1);
        check.dueNote(x, L, 0, 0, 0, 0, 1);
        check.due("set(11, MAX, 0)", x.set(L, Integer.MAX_VALUE, 0), true);
        check.due("set(11, MAX, 0)", x.set(L, Integer.MAX_VALUE, 0), true);
        check.due("revision()", x.revision(), 2);
        check.dueNote(x, L, 2, 0, 0, 0, 1);
        check.due("ask(11)", x.ask(L), Integer.MAX_VALUE);
    }

    private void setOfTheDurabilityAloneKeepsSince() {
        NoteSheet x = new NoteSheet(1);
        x.set(A, 4, 1);
        check.dueNote(x, A, 2, 0, 1, 0, 1);
        check.dueChanged(x, 2, 0, 0);
        x.set(A, 4, 2);
        check.dueNote(x, A, 2, 0, 2, 0, 1);
        check.dueChanged(x, 3, 3, 0);
        x.set(A, 4, 0);
        check.dueNote(x, A, 2, 0, 0, 0, 1);
        check.dueChanged(x, 4, 4, 4);
        x.set(A, 5, 0);
        check.dueNote(x, A, 5, 0, 0, 0, 1);
        check.dueChanged(x, 5, 4, 4);
    }

    private void setTakesTheNoteOfAFormula() {
        NoteSheet x = new NoteSheet(12);
        check.define(x, A, "B");
        x.ask(A);
        check.due("count(3)", x.count(3), 1);
        check.due("set(0, 0, 0)", x.set(A, 0, 0), true);
        check.due("count(3)", x.count(3), 0);
        check.dueChanged(x, 3, 3, 3);
        check.dueNote(x, A, 3, 0, 0, 0, 1);
        check.dueReads(x, A);
        check.dueTally(x, A, 1, 0, 0);
        check.define(x, A, "B");
        check.dueNote(x, A, 0, 0, 0, 0, 0);
        check.due("ask(0)", x.ask(A), 0);
        check.dueNote(x, A, 4, 4, 0, 1, 1);
        check.dueTally(x, A, 2, 0, 0);
    }

    private void dueValue(NoteSheet x, String text, long want) {
        check.define(x, L, text);
        check.due("ask of " + text, x.ask(L), want);
    }

    private void askWorksOut() {
        NoteSheet x = new NoteSheet(12);
        x.set(A, Integer.MAX_VALUE, 0);
        x.set(B, Integer.MIN_VALUE, 0);
        x.set(C, 3, 0);
        dueValue(x, "2+3*4", 14);
        dueValue(x, "(2+3)*4", 20);
        dueValue(x, "10-3-2", 5);
        dueValue(x, "10-(3-2)", 9);
        dueValue(x, "2*-3", -6);
        dueValue(x, "1--1", 2);
        dueValue(x, "-C*C", -9);
        dueValue(x, "-(C+1)", -4);
        dueValue(x, "A+1", Integer.MIN_VALUE);
        dueValue(x, "B-1", Integer.MAX_VALUE);
        dueValue(x, "A*A", 1);
        dueValue(x, "-B", Integer.MIN_VALUE);
        dueValue(x, "0009", 9);
        dueValue(x, "9999", 9999);
        dueValue(x, "1+1<2", 0);
        dueValue(x, "1<2", 1);
        dueValue(x, "2<1", 0);
        dueValue(x, "B<A", 1);
        dueValue(x, "1+2=C", 1);
        dueValue(x, "1=C", 0);
        dueValue(x, "(1<2)+(2<3)*5", 6);
        dueValue(x, "(A=A)=(B=B)", 1);
        dueValue(x, "-----1", -1);
    }

    private void askPicksOneBranch() {
        NoteSheet x = new NoteSheet(12);
        check.define(x, A, "A");
        dueValue(x, "1?2:A", 2);
        dueValue(x, "0?A:3", 3);
        dueValue(x, "0-1?2:A", 2);
        dueValue(x, "1?0?4:5:A", 5);
        dueValue(x, "0?A:0?A:6", 6);
        dueValue(x, "0?A:1?7:A", 7);
        dueValue(x, "1<2?3<4?8:A:A", 8);
        dueValue(x, "(1?2:A)*(0?A:5)", 10);
        dueValue(x, "1?2+3:4+A", 5);
        dueValue(x, "0?A:1=1", 1);
        dueValue(x, "A?1:2", NoteSheet.BAD);
    }

    private void askReadsByNumber() {
        NoteSheet x = new NoteSheet(12);
        for (int cell = A; cell < L; cell++) {
            x.set(cell, 100 + cell, 0);
        }
        dueValue(x, "@0", 100);
        dueValue(x, "@10", 110);
        dueValue(x, "@12", 100);
        dueValue(x, "@9999", 103);
        dueValue(x, "@-2", 110);
        dueValue(x, "@-12", 100);
        dueValue(x, "@-13", NoteSheet.BAD);
        dueValue(x, "@A", 104);
        check.dueReads(x, L, A, E);
        dueValue(x, "@@A", 108);
        dueValue(x, "-@3*2", -206);
        dueValue(x, "@3+1", 104);
        dueValue(x, "@(3+1)", 104);
        x.set(A, Integer.MIN_VALUE, 0);
        dueValue(x, "@A", 104);
        check.dueReads(x, L, A, E);
    }

    private void askEndsAtBad() {
        NoteSheet x = new NoteSheet(12);
        check.define(x, A, "A");
        check.define(x, B, "7");
        check.define(x, C, "B+A*B+D");
        check.due("ask(2)", x.ask(C), NoteSheet.BAD);
        check.dueReads(x, C, B, A);
        check.dueNote(x, C, 4, 4, 0, 2, 1);
        check.define(x, E, "A=A");
        check.due("ask(4)", x.ask(E), NoteSheet.BAD);
        check.define(x, F, "@A");
        check.due("ask(5)", x.ask(F), NoteSheet.BAD);
        check.dueReads(x, F, A);
        check.define(x, G, "0*A");
        check.due("ask(6)", x.ask(G), NoteSheet.BAD);
        check.define(x, A, "2");
        check.due("ask(2)", x.ask(C), 21);
        check.dueReads(x, C, B, A, D);
        check.due("ask(5)", x.ask(F), 21);
        check.dueReads(x, F, A, C);
    }

    private void askOfWrongCells() {
        NoteSheet x = new NoteSheet(1);
        check.define(x, A, "1");
        x.ask(A);
        int[] cells = {Integer.MIN_VALUE, -1, 12, Integer.MAX_VALUE};
        for (int cell : cells) {
            check.due("ask(" + cell + ")", x.ask(cell), NoteSheet.NONE);
        }
        check.dueCounts(x, 1, 0, 0, 1);
        x.set(B, -1, 0);
        check.due("ask(1)", x.ask(B), -1);
        check.dueCounts(x, 0, 0, 0, 1);
    }

    private void cyclesAreBad() {
        NoteSheet x = new NoteSheet(12);
        check.define(x, A, "B");
        check.define(x, B, "C");
        check.define(x, C, "A");
        check.due("ask(1)", x.ask(B), NoteSheet.BAD);
        check.dueCounts(x, 3, 0, 0, 3);
        check.dueNote(x, A, 4, 4, 0, 1, 1);
        check.dueNote(x, B, 4, 4, 0, 1, 1);
        check.dueNote(x, C, 4, 4, 0, 1, 1);
        x.set(C, 6, 2);
        check.due("ask(0)", x.ask(A), 6);
        check.dueCounts(x, 2, 0, 0, 2);
        check.dueNote(x, A, 5, 5, 2, 1, 1);
    }

    private void passing() {
        NoteSheet x = new NoteSheet(12);
        x.set(A, 1, 2);
        x.set(B, 2, 1);
        check.define(x, C, "A+1");
        check.define(x, D, "B+C");
        check.define(x, E, "4");
        x.ask(D);
        x.ask(E);
        check.dueNote(x, C, 6, 6, 2, 1, 1);
        check.dueNote(x, D, 6, 6, 1, 2, 1);
        check.dueNote(x, E, 6, 6, 2, 0, 1);
        x.set(F, 1, 0);
        check.due("ask(3)", x.ask(D), 4);
        check.dueCounts(x, 0, 0, 1, 3);
        check.dueNote(x, D, 6, 7, 1, 2, 1);
        check.dueNote(x, C, 6, 6, 2, 1, 1);
        check.due("ask(3)", x.ask(D), 4);
        check.dueCounts(x, 0, 0, 0, 3);
        x.set(B, 3, 1);
        check.due("ask(3)", x.ask(D), 5);
        check.dueCounts(x, 1, 0, 1, 3);
        check.dueTally(x, D, 2, 0, 1);
        check.dueTally(x, C, 1, 0, 1);
        x.set(A, 1, 0);
        check.due("ask(4)", x.ask(E), 4);
        check.dueTally(x, E, 1, 1, 0);
        check.dueNote(x, E, 6, 9, 2, 0, 1);
    }

    private void confirming() {
        NoteSheet x = new NoteSheet(12);
        check.define(x, B, "A*0");
        check.define(x, C, "B+5");
        check.define(x, D, "C+A");
        x.ask(D);
        check.dueCounts(x, 3, 0, 0, 3);
        x.set(L, 1, 0);
        check.due("ask(3)", x.ask(D), 5);
        check.dueCounts(x, 0, 3, 0, 3);
        check.dueNote(x, D, 4, 5, 0, 2, 1);
        x.set(A, 9, 0);
        check.due("ask(2)", x.ask(C), 5);
        check.dueCounts(x, 1, 1, 0, 3);
        check.dueNote(x, B, 4, 6, 0, 1, 1);
        check.dueNote(x, C, 4, 6, 0, 1, 1);
        check.dueNote(x, D, 4, 5, 0, 2, 1);
        check.due("ask(3)", x.ask(D), 14);
        check.dueCounts(x, 1, 0, 0, 3);
        check.dueNote(x, D, 6, 6, 0, 2, 1);
    }

    private void equalValueKeepsSince() {
        NoteSheet x = new NoteSheet(12);
        x.set(A, 3, 0);
        check.define(x, B, "A<9");
        x.ask(B);
        check.dueNote(x, B, 3, 3, 0, 1, 1);
        x.set(A, 4, 0);
        x.ask(B);
        check.dueNote(x, B, 3, 4, 0, 1, 1);
        x.set(A, 9, 0);
        x.ask(B);
        check.dueNote(x, B, 5, 5, 0, 1, 1);
        x.set(A, 3, 0);
        x.set(A, 9, 0);
        check.due("ask(1)", x.ask(B), 0);
        check.dueCounts(x, 1, 0, 0, 1);
        check.dueNote(x, B, 5, 7, 0, 1, 1);
    }

    private void droppedValueIsWorkedOutWithSinceKept() {
        NoteSheet x = new NoteSheet(1);
        check.define(x, B, "A");
        check.define(x, C, "4");
        x.ask(B);
        x.ask(C);
        check.dueNote(x, B, 3, 3, 0, 1, 0);
        check.dueReads(x, B, A);
        check.due("ask(1)", x.ask(B), 0);
        check.dueCounts(x, 1, 0, 0, 1);
        check.dueNote(x, B, 3, 3, 0, 1, 1);
        x.ask(C);
        x.set(L, 1, 0);
        check.due("ask(1)", x.ask(B), 0);
        check.dueCounts(x, 1, 1, 0, 1);
        check.dueNote(x, B, 3, 4, 0, 1, 1);
        x.ask(C);
        x.set(A, 1, 0);
        x.set(A, 0, 0);
        check.due("ask(1)", x.ask(B), 0);
        check.dueCounts(x, 1, 0, 0, 1);
        check.dueNote(x, B, 6, 6, 0, 1, 1);
    }

    private void droppedValueIsVerifiedWithoutBeingWorkedOut() {
        NoteSheet x = new NoteSheet(1);
        check.define(x, B, "A");
        check.define(x, C, "B+1");
        x.ask(C);
        check.dueNote(x, B, 3, 3, 0, 1, 0);
        x.set(L, 1, 0);
        check.due("ask(2)", x.ask(C), 1);
        check.dueCounts(x, 0, 2, 0, 1);
        check.dueNote(x, B, 3, 4, 0, 1, 0);
        check.dueNote(x, C, 3, 4, 0, 1, 1);
    }

    private void cellAtWorkEndsConfirming() {
        NoteSheet x = new NoteSheet(12);
        check.define(x, A, "A");
        check.due("ask(0)", x.ask(A), NoteSheet.BAD);
        check.dueReads(x, A, A);
        x.set(L, 1, 0);
        check.due("ask(0)", x.ask(A), NoteSheet.BAD);
        check.dueTally(x, A, 2, 0, 0);
        check.dueNote(x, A, 2, 3, 0, 1, 1);
    }

    private void confirmedTakesNewDurability() {
        NoteSheet x = new NoteSheet(12);
        x.set(A, 1, 2);
        x.set(B, 1, 2);
        check.define(x, C, "A+B");
        check.define(x, D, "C");
        x.ask(D);
        check.dueNote(x, D, 5, 5, 2, 1, 1);
        x.set(B, 1, 1);
        x.ask(D);
        check.dueCounts(x, 0, 2, 0, 2);
        check.dueNote(x, C, 5, 6, 1, 2, 1);
        check.dueNote(x, D, 5, 6, 1, 1, 1);
        x.set(B, 1, 2);
        x.ask(D);
        check.dueNote(x, D, 5, 7, 2, 1, 1);
    }

    private void longestUnusedIsDropped() {
        NoteSheet x = new NoteSheet(2);
        check.define(x, A, "1");
        check.define(x, B, "2");
        check.define(x, C, "3");
        x.ask(A);
        x.ask(B);
        x.ask(A);
        x.ask(C);
        check.due("note(0, 7)", x.note(A, 7), 1);
        check.due("note(1, 7)", x.note(B, 7), 0);
        check.due("note(2, 7)", x.note(C, 7), 1);
        x.set(D, 1, 0);
        x.ask(B);
        check.due("note(0, 7)", x.note(A, 7), 0);
        check.due("note(1, 7)", x.note(B, 7), 1);
        check.due("note(2, 7)", x.note(C, 7), 1);
        check.due("count(3)", x.count(3), 2);
    }

    private void readingIsUse() {
        NoteSheet x = new NoteSheet(2);
        check.define(x, A, "1");
        check.define(x, B, "2");
        check.define(x, C, "A+B+A");
        x.ask(C);
        check.due("note(0, 7)", x.note(A, 7), 1);
        check.due("note(1, 7)", x.note(B, 7), 0);
        check.due("note(2, 7)", x.note(C, 7), 1);
        // Going through the reads is no use, so A's value is the older one after this.
        x.set(D, 1, 0);
        x.ask(C);
        x.ask(B);
        check.due("note(0, 7)", x.note(A, 7), 0);
        check.due("note(1, 7)", x.note(B, 7), 1);
        check.due("note(2, 7)", x.note(C, 7), 1);
    }

    // In the second ask of C, B is at work, its reads being gone through, when A reads
    // it: A is BAD as before, B is confirmed, and no value of B has been read.
    private void cellAtWorkGivesNoUse() {
        NoteSheet x = new NoteSheet(4);
        check.define(x, A, "B");
        check.define(x, B, "A");
        check.define(x, C, "B");
        check.due("ask(2)", x.ask(C), NoteSheet.BAD);
        check.define(x, D, "1");
        x.ask(D);
        check.due("ask(2)", x.ask(C), NoteSheet.BAD);
        check.dueCounts(x, 1, 2, 0, 4);
        check.define(x, E, "1");
        x.ask(E);
        check.due("note(0, 7)", x.note(A, 7), 1);
        check.due("note(1, 7)", x.note(B, 7), 0);
        check.due("note(2, 7)", x.note(C, 7), 1);
        check.due("note(3, 7)", x.note(D, 7), 1);
        check.due("note(4, 7)", x.note(E, 7), 1);
    }

    private void readsKeepTheirFirstPlace() {
        NoteSheet x = new NoteSheet(12);
        check.define(x, L, "C+A*C-B+A+@2+@1");
        check.due("ask(11)", x.ask(L), 0);
        check.dueReads(x, L, C, A, B);
        check.due("read(12, 0)", x.read(12, 0), NoteSheet.NONE);
        check.due("read(-1, 0)", x.read(-1, 0), NoteSheet.NONE);
        check.due("read(11, MAX)", x.read(L, Integer.MAX_VALUE), NoteSheet.NONE);
        check.due("read(11, MIN)", x.read(L, Integer.MIN_VALUE), NoteSheet.NONE);
        check.define(x, L, "A+B+C+D+E+F+G+H+I+J+K+L");
        check.due("ask(11)", x.ask(L), NoteSheet.BAD);
        check.dueReads(x, L, 0, 1, 2, 3, 4, 5, 6, 7, 8, 9, 10, 11);
    }

    private void countsAreOfTheLatestAsk() {
        NoteSheet x = new NoteSheet(12);
        check.define(x, B, "A");
        x.ask(B);
        check.dueCounts(x, 1, 0, 0, 1);
        x.set(A, 1, 0);
        check.dueCounts(x, 1, 0, 0, 1);
        x.ask(C);
        check.dueCounts(x, 0, 0, 0, 1);
        int[] whats = {Integer.MIN_VALUE, -1, 4, Integer.MAX_VALUE};
        for (int what : whats) {
            check.due("count(" + what + ")", x.count(what), NoteSheet.NONE);
        }
    }

    private void noteOfWrongInputs() {
        NoteSheet x = new NoteSheet(12);
        int[] cells = {Integer.MIN_VALUE, -1, 12, Integer.MAX_VALUE};
        for (int cell : cells) {
            for (int what = -1; what <= 8; what++) {
                check.due("note(" + cell + ", " + what + ")", x.note(cell, what), NoteSheet.NONE);
            }
        }
        int[] whats = {Integer.MIN_VALUE, -1, 8, Integer.MAX_VALUE};
        for (int what : whats) {
            check.due("note(0, " + what + ")", x.note(A, what), NoteSheet.NONE);
        }
    }

    private void changedOfWrongInputs() {
        NoteSheet x = new NoteSheet(12);
        int[] durabilities = {Integer.MIN_VALUE, -1, 3, Integer.MAX_VALUE};
        for (int durability : durabilities) {
            check.due("changed(" + durability + ")", x.changed(durability), NoteSheet.NONE);
        }
    }

    private void longestChain() {
        NoteSheet x = new NoteSheet(1);
        for (int cell = A; cell < L; cell++) {
            check.define(x, cell, "@(1?(1?-(" + (char) ('B' + cell) + "*0-" + (cell + 1) + "):0):0)");
        }
        x.set(L, 7, 2);
        check.due("ask(0)", x.ask(A), 7);
        check.dueCounts(x, 11, 0, 0, 1);
        x.set(L, 7, 0);
        check.due("ask(0)", x.ask(A), 7);
    }
}
