import java.lang.reflect.InvocationTargetException;
import java.lang.reflect.Method;

/** Tests each of which is for one sentence of the document: every method that has a Sentence. */
abstract class SentenceTests {
    static final int A = 0;
    static final int B = 1;
    static final int C = 2;
    static final int D = 3;
    static final int E = 4;
    static final int F = 5;
    static final int G = 6;
    static final int H = 7;
    static final int I = 8;
    static final int J = 9;
    static final int K = 10;
    static final int L = 11;

    static final int NONE = NoteSheet.NONE;
    static final long BAD = NoteSheet.BAD;
    static final int MIN = Integer.MIN_VALUE;
    static final int MAX = Integer.MAX_VALUE;

    static final int[] NO_CELLS = {MIN, -12, -1, 12, 13, MAX};
    static final int[] NO_DURABILITIES = {MIN, -1, 3, MAX};
    static final String SIGNS_OF_FORMULAS = "ABCDEFGHIJKL0123456789?:<=+-*()@";
    // As long as a text may be.
    static final String THIRTY = "1+1+1+1+1+1+1+1+1+1+1+1+1+1+12";

    /** Runs all tests, and ends with exit code 1 if an answer was not the one that is due. */
    final void runAll() {
        int tests = 0;
        int failed = 0;
        for (Method method : getClass().getDeclaredMethods()) {
            Sentence sentence = method.getAnnotation(Sentence.class);
            if (sentence != null) {
                tests++;
                failed += passes(method, sentence.value()) ? 0 : 1;
            }
        }
        System.out.println(getClass().getName() + ": " + failed + " of " + tests + " sentences don't hold");
        if (tests == 0 || failed != 0) {
            System.exit(1);
        }
    }

    private boolean passes(Method method, String sentence) {
        Check check = new Check(method.getName());
        boolean ended = true;
        try {
            method.invoke(this, check);
        } catch (InvocationTargetException thrown) {
            ended = false;
            System.out.println(method.getName() + ": threw " + thrown.getCause());
        } catch (IllegalAccessException refused) {
            ended = false;
            System.out.println(method.getName() + ": can't be called");
        }
        boolean holds = ended && check.allAreDue();
        if (!holds) {
            System.out.println(method.getName() + ": does not hold: \"" + sentence + "\"");
        }
        return holds;
    }

    /** A text is a formula, and gives this on a sheet whose cells are all 0. */
    static void dueFormula(Check check, String text, long want) {
        NoteSheet x = new NoteSheet(12);
        check.define(x, L, text);
        check.due("ask(11) of " + text, x.ask(L), want);
    }

    /** A text is no formula, and this is its fault. */
    static void dueFault(Check check, String text, int want) {
        NoteSheet x = new NoteSheet(12);
        check.due("define(11) of " + text, check.typed(x, L, text), 1 + want);
    }

    /** The pad has no text: what is typed now is all that a formula has. */
    static void duePadIsEmpty(Check check, NoteSheet x) {
        check.due("define(0) of an empty pad", x.define(A), 1);
        for (char c : THIRTY.toCharArray()) {
            check.due("type(" + c + ") behind an empty pad", x.type(c), true);
        }
        check.due("type(1) behind 30", x.type('1'), false);
        x.define(NONE);
    }

    /** All that the calls that change nothing tell of a sheet. */
    static String stateOf(NoteSheet x) {
        StringBuilder state = new StringBuilder("revision " + x.revision());
        for (int durability = 0; durability <= 2; durability++) {
            state.append(" changed ").append(x.changed(durability));
        }
        for (int what = 0; what <= 3; what++) {
            state.append(" count ").append(x.count(what));
        }
        for (int cell = A; cell <= L; cell++) {
            state.append(" cell ").append(cell);
            for (int what = 0; what <= 7; what++) {
                state.append(' ').append(x.note(cell, what));
            }
            for (int i = 0; i < x.note(cell, 6); i++) {
                state.append(" read ").append(x.read(cell, i));
            }
        }
        return state.toString();
    }

    static void dueState(Check check, String behind, NoteSheet x, String want) {
        String got = stateOf(x);
        if (!got.equals(want)) {
            System.out.println("state: " + got + "\n  due: " + want);
        }
        check.due("the state behind " + behind + " is as before", got.equals(want), true);
    }

    /** note(cell, 7) of the cells from A on. */
    static void dueValues(Check check, NoteSheet x, int... want) {
        for (int cell = 0; cell < want.length; cell++) {
            check.due("note(" + cell + ", 7)", x.note(cell, 7), want[cell]);
        }
    }

    /** Asks for a cell, and looks at count() 0 to 2: worked out, confirmed, passed. */
    static void dueAsk(Check check, NoteSheet x, int cell, long want, int... counts) {
        check.due("ask(" + cell + ")", x.ask(cell), want);
        check.dueCounts(x, counts);
    }
}
