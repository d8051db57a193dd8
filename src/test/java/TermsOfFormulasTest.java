/** The boundary cases in "Terms" of cells, the pad, the grammar, faults, arithmetic and BAD. */
public final class TermsOfFormulasTest extends SentenceTests {
    public static void main(String[] args) {
        new TermsOfFormulasTest().runAll();
    }

    @Sentence("An object is used for at most 512 calls after it has been made")
    void lastOfFiveHundredAndTwelveCalls(Check check) {
        NoteSheet x = new NoteSheet(1);
        for (int call = 1; call <= 510; call++) {
            x.set(call % 12, call, call % 3);
        }
        check.due("call 511: ask(6)", x.ask(G), 510);
        check.due("call 512: revision()", x.revision(), 511);
    }

    @Sentence("An object is used for at most 512 calls after it has been made")
    void lastOfManyAsksThroughAllCells(Check check) {
        NoteSheet x = new NoteSheet(1);
        for (int cell = A; cell < L; cell++) {
            check.define(x, cell, (char) ('B' + cell) + "+1");
        }
        int calls = 11 * 4;
        int number = 0;
        for (; calls + 3 <= 512; calls += 2) {
            number++;
            x.set(L, number, number % 3);
            check.due("ask(0) with L " + number, x.ask(A), number + 11);
        }
        check.due("note(0, 0)", x.note(A, 0), number);
    }

    @Sentence("CELLS are 0 .. 11, called A .. L.")
    void everyLetterIsItsCell(Check check) {
        for (int cell = A; cell <= L; cell++) {
            NoteSheet x = new NoteSheet(12);
            int reader = (cell + 1) % 12;
            check.due("set(" + cell + ")", x.set(cell, 100 + cell, 0), true);
            check.define(x, reader, String.valueOf((char) ('A' + cell)));
            check.due("ask(" + reader + ")", x.ask(reader), 100 + cell);
            check.dueReads(x, reader, cell);
        }
        NoteSheet x = new NoteSheet(12);
        check.due("type(@) is of formulas", x.type('@'), true);
        check.due("type(M)", x.type('M'), false);
        check.due("type(a)", x.type('a'), false);
    }

    @Sentence("CELLS are 0 .. 11, called A .. L.")
    void noOtherNumberIsACell(Check check) {
        for (int cell : NO_CELLS) {
            NoteSheet x = new NoteSheet(12);
            check.due("set(" + cell + ", 1, 0)", x.set(cell, 1, 0), false);
            check.due("define(" + cell + ")", check.typed(x, cell, "1"), NONE);
            check.due("ask(" + cell + ")", x.ask(cell), NONE);
            check.due("note(" + cell + ", 7)", x.note(cell, 7), NONE);
            check.due("read(" + cell + ", 0)", x.read(cell, 0), NONE);
        }
    }

    @Sentence("Each is an INPUT with a number (an int; 0 at first)")
    void leastAndGreatestNumbers(Check check) {
        int[] numbers = {MIN, MIN + 1, -1, 0, 1, MAX - 1, MAX};
        for (int cell = A; cell <= L; cell++) {
            NoteSheet x = new NoteSheet(12);
            check.due("ask(" + cell + ") at first", x.ask(cell), 0);
            for (int number : numbers) {
                check.due("set(" + cell + ", " + number + ", 0)", x.set(cell, number, 0), true);
                check.due("ask(" + cell + ")", x.ask(cell), number);
            }
        }
    }

    @Sentence("and a DURABILITY 0 .. 2 (0 at first), or has a FORMULA.")
    void leastAndGreatestDurabilities(Check check) {
        for (int cell = A; cell <= L; cell++) {
            NoteSheet x = new NoteSheet(12);
            check.due("note(" + cell + ", 5) at first", x.note(cell, 5), 0);
            for (int durability = 2; durability >= 0; durability--) {
                check.due("set of durability " + durability, x.set(cell, 1, durability), true);
                check.due("note(" + cell + ", 5)", x.note(cell, 5), durability);
            }
            check.due("set of durability -1", x.set(cell, 1, -1), false);
            check.due("set of durability 3", x.set(cell, 1, 3), false);
            check.due("note(" + cell + ", 5)", x.note(cell, 5), 0);
        }
    }

    @Sentence("A formula's text has at most 30 characters, in a PAD")
    void textOfThirtyCharacters(Check check) {
        dueFormula(check, THIRTY, 26);
        dueFormula(check, "1?1?1?1?1?1?1?12:0:0:0:0:0:0:0", 12);
        dueFormula(check, "0?0:0?0:0?0:0?0:0?0:0?0:0?0:45", 45);
        dueFormula(check, "(((((1+2)*2+3)*2+4)*2+5)*2+67)", 165);
        dueFormula(check, "-----1*-----1*-----1*-----1+10", 11);
        // Here every character is something to do, and the last of it is the sum.
        dueFormula(check, "-----1*-----1*-----1*-----1+-2", -1);
        dueFormula(check, "1?-----3*-----4*-----5--6:7+-8", -54);
        NoteSheet x = new NoteSheet(12);
        for (char c : THIRTY.toCharArray()) {
            check.due("type(" + c + ")", x.type(c), true);
        }
        check.due("type(3) behind 30", x.type('3'), false);
        check.due("define(0) of the 30", x.define(A), 0);
        check.due("ask(0)", x.ask(A), 26);
    }

    @Sentence("formula: a comparison; or a comparison, ?, a formula, :, a formula.")
    void formulas(Check check) {
        dueFormula(check, "7", 7);
        dueFormula(check, "1?2:3", 2);
        dueFormula(check, "0?2:3", 3);
        dueFormula(check, "1?0?4:5:6", 5);
        dueFormula(check, "0?1:0?2:3", 3);
        dueFormula(check, "1?2:3?4:5", 2);
        dueFormula(check, "1<2?3=3?4:5:6", 4);
        dueFormula(check, "0?1:2<3", 1);
        dueFormula(check, "(0?1:2)?3:4", 3);
        dueFault(check, "?", 0);
        dueFault(check, ":", 0);
        dueFault(check, "?1:2", 0);
        dueFault(check, "1:2", 1);
        dueFault(check, "1?", 2);
        dueFault(check, "1?:2", 2);
        dueFault(check, "1??2:3", 2);
        dueFault(check, "1?2", 3);
        dueFault(check, "1?2:", 4);
        dueFault(check, "1?2::3", 4);
        dueFault(check, "1?2:?", 4);
        dueFault(check, "1?2:3:4", 5);
        dueFault(check, "1?2?3:4", 7);
        dueFault(check, "(1?2):3", 4);
        dueFault(check, "1?(2:3)", 4);
    }

    @Sentence("comparison: a sum; or a sum, < or =, a sum.")
    void comparisons(Check check) {
        dueFormula(check, "1+1", 2);
        dueFormula(check, "1<2", 1);
        dueFormula(check, "2=2", 1);
        dueFormula(check, "1+1<1+2", 1);
        dueFormula(check, "1+3=2*2", 1);
        dueFormula(check, "(1<2)<3", 1);
        dueFormula(check, "3<(1<2)", 0);
        dueFormula(check, "(3=3)=(4=4)", 1);
        dueFault(check, "<", 0);
        dueFault(check, "=1", 0);
        dueFault(check, "1<", 2);
        dueFault(check, "1=", 2);
        dueFault(check, "1<=2", 2);
        dueFault(check, "1==2", 2);
        dueFault(check, "1<2<3", 3);
        dueFault(check, "1=2=3", 3);
        dueFault(check, "1<2=3", 3);
        dueFault(check, "1=2<3", 3);
        dueFault(check, "(1<2<3)", 4);
        dueFault(check, "1?2<3=4:5", 5);
        dueFault(check, "1?2:3=4=5", 7);
    }

    @Sentence("sum: a product, then any number of + or - and a product, each.")
    void sums(Check check) {
        dueFormula(check, "5", 5);
        dueFormula(check, "5+6", 11);
        dueFormula(check, "5-6", -1);
        dueFormula(check, "1+2-3+4-5", -1);
        dueFormula(check, "2*3+4*5-6*7", -16);
        dueFormula(check, "1+1+1+1+1+1+1+1+1+1+1+1+1+1+1", 15);
        dueFormula(check, "1-1-1-1-1-1-1-1-1-1-1-1-1-1-1", -13);
        dueFormula(check, "1--1", 2);
        dueFormula(check, "1+-1", 0);
        dueFault(check, "+", 0);
        dueFault(check, "+1", 0);
        dueFault(check, "1+", 2);
        dueFault(check, "1-", 2);
        dueFault(check, "1++1", 2);
        dueFault(check, "1-+1", 2);
        dueFault(check, "1+2+", 4);
        dueFault(check, "1+2-*", 4);
    }

    @Sentence("product: a unit, then any number of * and a unit, each.")
    void products(Check check) {
        dueFormula(check, "6", 6);
        dueFormula(check, "6*7", 42);
        dueFormula(check, "2*3*4", 24);
        dueFormula(check, "2*2*2*2*2*2*2*2*2*2*2*2*2*2*2", 32768);
        dueFormula(check, "2*-3", -6);
        dueFormula(check, "1+2*3", 7);
        dueFormula(check, "2*3+1", 7);
        dueFault(check, "*", 0);
        dueFault(check, "*1", 0);
        dueFault(check, "1*", 2);
        dueFault(check, "1**2", 2);
        dueFault(check, "1*+2", 2);
        dueFault(check, "1*2*", 4);
        dueFault(check, "1*2*)", 4);
    }

    @Sentence("unit: a letter A .. L;")
    void letters(Check check) {
        for (int cell = A; cell < L; cell++) {
            dueFormula(check, String.valueOf((char) ('A' + cell)), 0);
        }
        dueFormula(check, "L", BAD);
        dueFault(check, "AB", 1);
        dueFault(check, "AA", 1);
        dueFault(check, "A1", 1);
        dueFault(check, "A(1)", 1);
        dueFault(check, "A@1", 1);
        dueFault(check, "(A)B", 3);
    }

    @Sentence("a number of one to four digits;")
    void digits(Check check) {
        for (int digit = 0; digit <= 9; digit++) {
            dueFormula(check, String.valueOf(digit), digit);
        }
        dueFormula(check, "10", 10);
        dueFormula(check, "987", 987);
        dueFormula(check, "1000", 1000);
        dueFormula(check, "9999", 9999);
        dueFormula(check, "0000", 0);
        dueFormula(check, "0007", 7);
        dueFormula(check, "9999*9999", 99980001);
        dueFault(check, "10000", 4);
        dueFault(check, "00000", 4);
        dueFault(check, "123456", 4);
        dueFault(check, "1+12345", 6);
        dueFault(check, "(12345)", 5);
        dueFault(check, "-12345", 5);
        dueFault(check, "1234A", 4);
        dueFault(check, "1A", 1);
    }

    @Sentence("( a formula ); - a unit; @ a unit.")
    void unitsOfUnits(Check check) {
        dueFormula(check, "(1)", 1);
        dueFormula(check, "(1<2?3:4)", 3);
        dueFormula(check, "-1", -1);
        dueFormula(check, "-(1+2)", -3);
        dueFormula(check, "-2*3", -6);
        dueFormula(check, "@0", 0);
        dueFormula(check, "@11", BAD);
        dueFormula(check, "-@0", 0);
        dueFormula(check, "@-2", 0);
        dueFormula(check, "@-1", BAD);
        dueFault(check, "(", 1);
        dueFault(check, ")", 0);
        dueFault(check, "()", 1);
        dueFault(check, "(1", 2);
        dueFault(check, "1)", 1);
        dueFault(check, "(1))", 3);
        dueFault(check, "(1(", 2);
        dueFault(check, "-", 1);
        dueFault(check, "@", 1);
        dueFault(check, "@)", 1);
        dueFault(check, "-+1", 1);
        dueFault(check, "@*1", 1);
    }

    @Sentence("There are no blanks.")
    void blanksAreRefused(Check check) {
        NoteSheet x = new NoteSheet(12);
        check.due("type(1)", x.type('1'), true);
        int[] blanks = {0, 8, 9, 10, 11, 12, 13, 32, 127, 160, 0x2003, 0x3000};
        for (int blank : blanks) {
            check.due("type((char) " + blank + ")", x.type((char) blank), false);
        }
        check.due("type(2)", x.type('2'), true);
        check.due("define(0)", x.define(A), 0);
        check.due("ask(0)", x.ask(A), 12);
    }

    @Sentence("A unit in ( ), or behind the - or @ of a unit, is one DEEPER than that unit; the others are 0 deep")
    void depthOfUnits(Check check) {
        dueFormula(check, "(((((1)))))", 1);
        dueFormula(check, "-----1", -1);
        dueFormula(check, "@@@@@0", 0);
        dueFormula(check, "(-@(-2))", 0);
        dueFormula(check, "-----1+-----1*-----1", 0);
        dueFormula(check, "-----1=-----1", 1);
        dueFormula(check, "1?-----1:-----2", -1);
        dueFormula(check, "(((((1)))))+(((((2)))))", 3);
        dueFormula(check, "(----1+----1*----1<----3)", 1);
        dueFault(check, "(-----1)", 5);
        dueFault(check, "-(((((1", 5);
        dueFault(check, "(----1+-----1)", 11);
        dueFault(check, "(1?----1:-----1)", 13);
    }

    @Sentence("(, - and @ of a unit can't stand where that unit is 5 deep.")
    void fiveDeep(Check check) {
        String[] five = {"(((((", "-----", "@@@@@", "(-@(-", "@(-@("};
        for (String opened : five) {
            dueFault(check, opened, 5);
            dueFault(check, opened + "(", 5);
            dueFault(check, opened + "-", 5);
            dueFault(check, opened + "@", 5);
            dueFault(check, opened + "(1", 5);
        }
        dueFormula(check, "(((((A)))))", 0);
        dueFormula(check, "(((((9999)))))", 9999);
        // These - are of a sum, not of a unit.
        dueFormula(check, "(((((2-1)))))", 1);
        dueFormula(check, "(((((1-2<3?4-5:6)))))", -1);
        dueFault(check, "(((((1--1", 7);
        dueFault(check, "(((((1+(", 7);
        dueFault(check, "(((((1*@", 7);
        dueFault(check, "(((((1<-", 7);
        dueFault(check, "(((((1?-", 7);
    }

    @Sentence("The FAULT of a text that is no formula is how many characters stand before the first one that can't stand where it does")
    void faultIsBeforeTheFirstWrongCharacter(Check check) {
        dueFault(check, "+", 0);
        dueFault(check, "1)", 1);
        dueFault(check, "1+)", 2);
        dueFault(check, "1++2++", 2);
        dueFault(check, "))", 0);
        dueFault(check, "A<B<C<D", 3);
        dueFault(check, "1+1+1+1+1+1+1+1+1+1+1+1+1+1+1)", 29);
        dueFault(check, ")1+1+1+1+1+1+1+1+1+1+1+1+1+1+1", 0);
        dueFault(check, "1+1+1+1+1+1+1+1+1+1+1+1+1+1+)1", 28);
        dueFault(check, "111111111111111111111111111111", 4);
    }

    @Sentence("or how many there are, if only something behind them is missing.")
    void faultOfWhatIsMissing(Check check) {
        dueFault(check, "", 0);
        dueFault(check, "-", 1);
        dueFault(check, "1+", 2);
        dueFault(check, "(1", 2);
        dueFault(check, "((1)", 4);
        dueFault(check, "A?B", 3);
        dueFault(check, "A?B:C<", 6);
        dueFault(check, "1+1+1+1+1+1+1+1+1+1+1+1+1+1+1+", 30);
        dueFault(check, "A?A?A?A?A?A?A?A?A?A?A?A?A?A?A?", 30);
        dueFault(check, "(1+1+1+1+1+1+1+1+1+1+1+1+1+123", 30);
    }

    @Sentence("A formula is WORKED OUT from the left: a letter READS that cell")
    void workedOutFromTheLeft(Check check) {
        NoteSheet x = new NoteSheet(12);
        dueReadsOf(check, x, "C*B+A", C, B, A);
        dueReadsOf(check, x, "C+B*A", C, B, A);
        dueReadsOf(check, x, "K<J", K, J);
        dueReadsOf(check, x, "B=A?C:D", B, A, C);
        dueReadsOf(check, x, "-(H-G)*(F-E)", H, G, F, E);
        dueReadsOf(check, x, "@(B+3)+C", B, D, C);
        dueFormula(check, "10-3-2", 5);
        dueFormula(check, "10-3+2", 9);
    }

    private static void dueReadsOf(Check check, NoteSheet x, String text, int... want) {
        check.define(x, L, text);
        x.ask(L);
        check.dueReads(x, L, want);
    }

    @Sentence("@u reads the cell whose number is that of u, modulo 12 (0 .. 11)")
    void cellByItsNumber(Check check) {
        int[] numbers = {0, 1, 10, 11, 12, 13, 23, 24, 9999, -1, -11, -12, -13, -24, -9999, MAX, MIN, MIN + 1};
        int[] cells = {0, 1, 10, 11, 0, 1, 11, 0, 3, 11, 1, 0, 11, 0, 9, 7, 4, 5};
        for (int i = 0; i < numbers.length; i++) {
            int holder = cells[i] == B ? C : B;
            int reader = cells[i] == D ? E : D;
            NoteSheet x = new NoteSheet(12);
            for (int cell = A; cell <= L; cell++) {
                x.set(cell, 100 + cell, 0);
            }
            x.set(holder, numbers[i], 0);
            check.define(x, reader, "@" + (char) ('A' + holder));
            check.due("ask of @" + numbers[i], x.ask(reader), 100 + cells[i]);
            check.dueReads(x, reader, holder, cells[i]);
        }
    }

    @Sentence("+ - * wrap;")
    void arithmeticWraps(Check check) {
        dueOfAandB(check, MAX, 1, "A+B", MIN);
        dueOfAandB(check, MAX, MAX, "A+B", -2);
        dueOfAandB(check, MIN, MIN, "A+B", 0);
        dueOfAandB(check, MIN, 1, "A-B", MAX);
        dueOfAandB(check, 0, MIN, "A-B", MIN);
        dueOfAandB(check, MAX, -1, "A-B", MIN);
        dueOfAandB(check, MAX, 2, "A*B", -2);
        dueOfAandB(check, MAX, MAX, "A*B", 1);
        dueOfAandB(check, MIN, -1, "A*B", MIN);
        dueOfAandB(check, MIN, MIN, "A*B", 0);
        dueOfAandB(check, 65536, 65536, "A*B", 0);
        dueOfAandB(check, 1 << 20, 1 << 20, "A*B", 0);
        dueOfAandB(check, MIN, 0, "-A", MIN);
        dueOfAandB(check, MAX, 0, "-A", -MAX);
        dueOfAandB(check, MAX, 1, "A+B<A", 1);
        dueOfAandB(check, MIN, 0, "-A=A", 1);
    }

    private static void dueOfAandB(Check check, int a, int b, String text, long want) {
        NoteSheet x = new NoteSheet(12);
        x.set(A, a, 0);
        x.set(B, b, 0);
        check.define(x, C, text);
        check.due("ask of " + text + " with " + a + " and " + b, x.ask(C), want);
    }

    @Sentence("< and = give 1 or 0;")
    void comparisonsGiveOneOrZero(Check check) {
        int[] numbers = {MIN, MIN + 1, -1, 0, 1, MAX - 1, MAX};
        for (int a : numbers) {
            for (int b : numbers) {
                dueOfAandB(check, a, b, "A<B", a < b ? 1 : 0);
                dueOfAandB(check, a, b, "A=B", a == b ? 1 : 0);
            }
        }
    }

    @Sentence("with ?, the comparison first, and then the first formula alone if it is not 0, else the second alone.")
    void oneBranchAlone(Check check) {
        int[] numbers = {MIN, -1, 0, 1, 2, 65536, MAX};
        for (int number : numbers) {
            NoteSheet x = new NoteSheet(12);
            x.set(A, number, 0);
            x.set(B, 7, 0);
            x.set(C, 8, 0);
            check.define(x, D, "A?B:C");
            check.due("ask with " + number, x.ask(D), number != 0 ? 7 : 8);
            check.dueReads(x, D, A, number != 0 ? B : C);
        }
        // L reads itself in the branch that is left out, so it would be BAD if that were read.
        dueFormula(check, "1?2:L", 2);
        dueFormula(check, "0?L:3", 3);
        dueFormula(check, "1?0?L:4:L", 4);
        dueFormula(check, "0?L:1?5:L", 5);
        dueFormula(check, "2<1?L:6", 6);
        dueFormula(check, "(1?2:L)+(0?L:3)", 5);
        dueFormula(check, "L?1:2", BAD);
    }

    @Sentence("if something that is read is BAD, the formula is BAD, and nothing more is read for it.")
    void badEndsTheReading(Check check) {
        dueBad(check, "A", A);
        dueBad(check, "A+B", A);
        dueBad(check, "B+A+C", B, A);
        dueBad(check, "0*A+B", A);
        dueBad(check, "A-A+B", A);
        dueBad(check, "A=A", A);
        dueBad(check, "B<A", B, A);
        dueBad(check, "-A", A);
        dueBad(check, "A?B:C", A);
        dueBad(check, "1?A:B", A);
        dueBad(check, "B?C:A", B, A);
        dueBad(check, "@A+B", A);
        dueBad(check, "@0+B", A);
        dueBad(check, "(B+(A))*C", B, A);
        dueBad(check, "K+B", K, B);
        NoteSheet x = new NoteSheet(12);
        check.define(x, A, "A");
        check.define(x, B, "A+D");
        check.define(x, C, "B+D");
        check.due("ask(2)", x.ask(C), BAD);
        check.dueReads(x, C, B);
        check.dueReads(x, B, A);
        check.dueReads(x, A, A);
    }

    /** A reads itself; the formula stands in L, or in B where B itself is what is read last. */
    private static void dueBad(Check check, String text, int... reads) {
        NoteSheet x = new NoteSheet(12);
        check.define(x, A, "A");
        int cell = reads[reads.length - 1] == A ? L : B;
        check.define(x, cell, text);
        check.due("ask of " + text, x.ask(cell), BAD);
        check.dueReads(x, cell, reads);
    }

    @Sentence("`NONE = -1`: There is no such cell, or what is asked for is none.")
    void valueOfNone(Check check) {
        check.due("NONE", NoteSheet.NONE, -1);
    }

    @Sentence("`BAD = 1L << 40`: What a cell gives that is BAD.")
    void valueOfBad(Check check) {
        check.due("BAD", NoteSheet.BAD, 1099511627776L);
        // No number is BAD, not even those whose last 32 bits are as those of BAD.
        dueOfAandB(check, 0, 0, "A*B", 0);
        dueOfAandB(check, 1 << 20, 1 << 20, "A*B+1", 1);
        dueFormula(check, "L", 1L << 40);
    }
}
