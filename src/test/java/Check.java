/** Counts and prints the answers that are not the ones that are due. */
final class Check {
    private final String title;
    private int made;
    private int wrong;

    Check(String title) {
        this.title = title;
    }

    void due(String call, long got, long want) {
        made++;
        if (got != want) {
            wrong++;
            System.out.println(title + ": " + call + " answered " + got + ", due is " + want);
        }
    }

    void due(String call, boolean got, boolean want) {
        due(call, got ? 1 : 0, want ? 1 : 0);
    }

    void due(String call, String got, String want) {
        made++;
        if (!got.equals(want)) {
            wrong++;
            System.out.println(title + ": " + call + " answered " + got + ", due is " + want);
        }
    }

    /** Types a text, all of which the pad must take, and makes it a cell's formula. */
    void define(NoteSheet x, int cell, String text) {
        due("define(" + cell + ") of " + text, typed(x, cell, text), 0);
    }

    int typed(NoteSheet x, int cell, String text) {
        for (char c : text.toCharArray()) {
            due("type(" + c + ") of " + text, x.type(c), true);
        }
        return x.define(cell);
    }

    /** note() 3 to 7 of a cell: since, verified, durability, how many reads, whether a value. */
    void dueNote(NoteSheet x, int cell, int... want) {
        for (int i = 0; i < want.length; i++) {
            due("note(" + cell + ", " + (3 + i) + ")", x.note(cell, 3 + i), want[i]);
        }
    }

    /** note() 0 to 2 of a cell: worked out, confirmed, passed. */
    void dueTally(NoteSheet x, int cell, int... want) {
        for (int i = 0; i < want.length; i++) {
            due("note(" + cell + ", " + i + ")", x.note(cell, i), want[i]);
        }
    }

    /** count() 0 to 3: worked out, confirmed, passed, values in notes. */
    void dueCounts(NoteSheet x, int... want) {
        for (int i = 0; i < want.length; i++) {
            due("count(" + i + ")", x.count(i), want[i]);
        }
    }

    void dueReads(NoteSheet x, int cell, int... want) {
        for (int i = 0; i < want.length; i++) {
            due("read(" + cell + ", " + i + ")", x.read(cell, i), want[i]);
        }
        due("read(" + cell + ", " + want.length + ")", x.read(cell, want.length), NoteSheet.NONE);
        due("read(" + cell + ", -1)", x.read(cell, -1), NoteSheet.NONE);
    }

    void dueChanged(NoteSheet x, int... want) {
        for (int i = 0; i < want.length; i++) {
            due("changed(" + i + ")", x.changed(i), want[i]);
        }
    }

    /** Whether answers were looked at, and all of them were as due. */
    boolean allAreDue() {
        return made > 0 && wrong == 0;
    }

    void end() {
        System.out.println(title + ": " + wrong + " of " + made + " answers are not as due");
        if (wrong != 0) {
            System.exit(1);
        }
    }
}
