import java.util.Random;

/** Random runs of calls of a fixed seed, each answer against that of the model. */
public final class RunsTest {
    // A run ends before the 512 calls of an object, with the whole state behind it.
    private static final int CALLS = 512 - 12 * 8 - 20;

    private final Check check = new Check("runs");
    private final Random random;
    private NoteSheet sheet;
    private SheetModel model;
    private int run;
    private int calls;
    private int cells;

    private RunsTest(long seed) {
        random = new Random(seed);
    }

    public static void main(String[] args) {
        int runs = args.length > 0 ? Integer.parseInt(args[0]) : 3000;
        RunsTest test = new RunsTest(args.length > 1 ? Long.parseLong(args[1]) : 7);
        for (int i = 1; i <= runs; i++) {
            test.oneRun(i);
        }
        test.check.end();
    }

    private void oneRun(int number) {
        run = number;
        int kept = random.nextInt(15) - 1;
        sheet = new NoteSheet(kept);
        model = new SheetModel(kept);
        // Few cells make many cycles and many reads of the same cell.
        cells = 2 + random.nextInt(11);
        calls = 0;
        while (calls < CALLS) {
            int kind = random.nextInt(20);
            if (kind < 5) {
                define();
            } else if (kind < 9) {
                set();
            } else {
                ask();
            }
        }
        wholeState();
    }

    private void due(String call, long got, long want) {
        calls++;
        check.due("run " + run + ", call " + calls + ", " + call, got, want);
    }

    private void due(String call, boolean got, boolean want) {
        due(call, got ? 1 : 0, want ? 1 : 0);
    }

    private int someCell() {
        return random.nextInt(60) == 0 ? random.nextInt(20) - 4 : random.nextInt(cells);
    }

    private void define() {
        String text = random.nextInt(3) == 0 ? shortText() : new Texts(random).formula(14);
        if (random.nextInt(30) == 0) {
            text += "?:<=+-*()@A1".charAt(random.nextInt(12));
        }
        for (char c : text.toCharArray()) {
            char inside = c >= 'A' && c <= 'L' ? (char) ('A' + (c - 'A') % cells) : c;
            due("type(" + inside + ")", sheet.type(inside), model.type(inside));
        }
        int cell = someCell();
        due("define(" + cell + ")", sheet.define(cell), model.define(cell));
    }

    private String shortText() {
        String[] texts = {"A", "@A", "A?B:C", "A<B", "A*0+B", "B+A", "1", "0", "A-A", "C?@C:A"};
        StringBuilder text = new StringBuilder(texts[random.nextInt(texts.length)]);
        int shift = random.nextInt(cells);
        for (int i = 0; i < text.length(); i++) {
            char c = text.charAt(i);
            if (Character.isLetter(c)) {
                text.setCharAt(i, (char) ('A' + (c - 'A' + shift) % cells));
            }
        }
        return text.toString();
    }

    private void set() {
        int cell = someCell();
        int number = random.nextInt(12) == 0 ? random.nextInt() : random.nextInt(3);
        int durability = random.nextInt(40) == 0 ? random.nextInt(7) - 2 : random.nextInt(3);
        due("set(" + cell + ", " + number + ", " + durability + ")",
            sheet.set(cell, number, durability), model.set(cell, number, durability));
        due("revision()", sheet.revision(), model.revision());
        int asked = random.nextInt(5) - 1;
        due("changed(" + asked + ")", sheet.changed(asked), model.changed(asked));
    }

    private void ask() {
        int cell = someCell();
        due("ask(" + cell + ")", sheet.ask(cell), model.ask(cell));
        int what = random.nextInt(6) - 1;
        due("count(" + what + ")", sheet.count(what), model.count(what));
        for (int i = 0; i < 3; i++) {
            int other = someCell();
            int part = random.nextInt(10) - 1;
            due("note(" + other + ", " + part + ")", sheet.note(other, part), model.note(other, part));
        }
        int place = random.nextInt(4) - 1;
        due("read(" + cell + ", " + place + ")", sheet.read(cell, place), model.read(cell, place));
    }

    private void wholeState() {
        for (int cell = 0; cell < 12; cell++) {
            for (int what = 0; what < 8; what++) {
                due("note(" + cell + ", " + what + ")", sheet.note(cell, what), model.note(cell, what));
            }
        }
    }
}
