/** Cells that hold a number or a formula over other cells. */
public final class NoteSheet {
    public static final int NONE = -1;
    public static final long BAD = 1L << 40;

    private static final int CELLS = 12;
    private static final int TOP_DURABILITY = 2;
    private static final int LONGEST_TEXT = 30;

    private static final int WORKED_OUT = 0;
    private static final int CONFIRMED = 1;
    private static final int PASSED = 2;
    private static final int VALUES = 3;

    private final Cell[] cells;
    private final int[] lastChanges;
    private final int[] latestTally;
    private final Formula pad;
    private final Parser parser;
    private final int kept;
    private int now;
    private int uses;

    public NoteSheet(int kept) {
        this.kept = Math.max(1, Math.min(CELLS, kept));
        cells = new Cell[CELLS];
        for (int i = 0; i < CELLS; i++) {
            cells[i] = new Cell();
        }
        lastChanges = new int[TOP_DURABILITY + 1];
        latestTally = new int[PASSED + 1];
        pad = new Formula();
        parser = new Parser(pad);
        now = 1;
    }

    public boolean type(char c) {
        return Formula.mayHold(c) && pad.append(c);
    }

    public int define(int cell) {
        int answer = NONE;
        if (isCell(cell)) {
            answer = parser.accepts() ? 0 : 1 + parser.fault();
        }
        if (answer == 0) {
            makeFormula(cells[cell]);
        }
        pad.length = 0;
        return answer;
    }

    public boolean set(int cell, int number, int durability) {
        if (!isCell(cell) || !isDurability(durability)) {
            return false;
        }
        Cell target = cells[cell];
        if (target.hasFormula || target.number != number || target.durability != durability) {
            makeInput(target, number, durability);
        }
        return true;
    }

    public long ask(int cell) {
        if (!isCell(cell)) {
            return NONE;
        }
        for (int i = 0; i < latestTally.length; i++) {
            latestTally[i] = 0;
        }
        long answer = upToDateValue(cells[cell]);
        dropValuesBeyondKept();
        return answer;
    }

    public int revision() {
        return now;
    }

    public int changed(int durability) {
        return isDurability(durability) ? lastChanges[durability] : NONE;
    }

    public int note(int cell, int what) {
        if (!isCell(cell)) {
            return NONE;
        }
        Cell target = cells[cell];
        switch (what) {
            case WORKED_OUT:
            case CONFIRMED:
            case PASSED:
                return target.tally[what];
            case 3:
                return target.unchangedSince();
            case 4:
                return target.note.verified;
            case 5:
                return target.givenDurability();
            case 6:
                return target.note.readCount;
            case 7:
                return !target.hasFormula || target.note.hasValue ? 1 : 0;
            default:
                return NONE;
        }
    }

    public int read(int cell, int i) {
        if (!isCell(cell) || i < 0 || i >= cells[cell].note.readCount) {
            return NONE;
        }
        return cells[cell].note.reads[i];
    }

    public int count(int what) {
        if (what == VALUES) {
            return valuesInNotes();
        }
        return what >= WORKED_OUT && what <= PASSED ? latestTally[what] : NONE;
    }

    private static boolean isCell(int cell) {
        return cell >= 0 && cell < CELLS;
    }

    private static boolean isDurability(int durability) {
        return durability >= 0 && durability <= TOP_DURABILITY;
    }

    private void makeFormula(Cell target) {
        if (target.hasFormula && target.formula.hasTextOf(pad)) {
            return;
        }
        startRevision(target.ownDurability());
        target.formula.copyFrom(pad);
        target.formulaChanged = now;
        target.hasFormula = true;
    }

    private void makeInput(Cell target, int number, int durability) {
        startRevision(target.ownDurability());
        if (target.hasFormula || target.number != number) {
            target.inputSince = now;
        }
        target.hasFormula = false;
        target.number = number;
        target.durability = durability;
        target.note.clear();
    }

    private void startRevision(int formerDurability) {
        now++;
        for (int i = 0; i <= formerDurability; i++) {
            lastChanges[i] = now;
        }
    }

    private long upToDateValue(Cell cell) {
        if (!cell.hasFormula) {
            return cell.number;
        }
        bringUpToDate(cell);
        if (!cell.note.hasValue) {
            workOut(cell);
        }
        markUsed(cell);
        return cell.note.value;
    }

    // A cell at work is left alone, here and in giveTo(), so that no more than
    // the twelve cells can ever be open one inside another.
    private void bringUpToDate(Cell cell) {
        if (!cell.hasFormula || cell.atWork || cell.note.isVerifiedIn(now)) {
            return;
        }
        cell.atWork = true;
        if (passes(cell.note)) {
            verify(cell, PASSED);
        } else if (readsAreUnchanged(cell)) {
            cell.note.durability = leastDurability(cell.note);
            verify(cell, CONFIRMED);
        } else {
            workOut(cell);
        }
        cell.atWork = false;
    }

    private boolean passes(Note note) {
        return note.exists && lastChanges[note.durability] <= note.verified;
    }

    private boolean readsAreUnchanged(Cell cell) {
        Note note = cell.note;
        if (!note.exists || cell.formulaChanged > note.verified) {
            return false;
        }
        for (int i = 0; i < note.readCount; i++) {
            Cell source = cells[note.reads[i]];
            bringUpToDate(source);
            if (source.atWork || source.unchangedSince() > note.verified) {
                return false;
            }
        }
        return true;
    }

    private void verify(Cell cell, int how) {
        cell.note.verified = now;
        tally(cell, how);
    }

    private void workOut(Cell cell) {
        cell.atWork = true;
        cell.note.readCount = 0;
        long value = evaluate(cell);
        cell.note.durability = leastDurability(cell.note);
        cell.note.keepValue(value, now);
        markUsed(cell);
        tally(cell, WORKED_OUT);
        cell.atWork = false;
    }

    private int leastDurability(Note note) {
        int least = TOP_DURABILITY;
        for (int i = 0; i < note.readCount; i++) {
            Cell source = cells[note.reads[i]];
            least = Math.min(least, source.atWork ? 0 : source.givenDurability());
        }
        return least;
    }

    private long evaluate(Cell cell) {
        Formula formula = cell.formula;
        int[] stack = cell.stack;
        int top = 0;
        int at = 0;
        // Jumps only lead forward, so no step is done twice.
        for (int turn = 0; turn < LONGEST_TEXT && at < formula.stepCount; turn++) {
            int operand = formula.operandAt(at);
            int step = formula.stepAt(at);
            at++;
            switch (step) {
                case Formula.NUMBER:
                    stack[top++] = operand;
                    break;
                case Formula.READ:
                case Formula.READ_AT:
                    int source = step == Formula.READ ? operand : Math.floorMod(stack[--top], CELLS);
                    long given = giveTo(cell, source);
                    if (given == BAD) {
                        return BAD;
                    }
                    stack[top++] = (int) given;
                    break;
                case Formula.NEGATE:
                    stack[top - 1] = -stack[top - 1];
                    break;
                case Formula.JUMP_IF_ZERO:
                    at = stack[--top] == 0 ? operand : at;
                    break;
                case Formula.JUMP:
                    at = operand;
                    break;
                default:
                    top--;
                    stack[top - 1] = combine(step, stack[top - 1], stack[top]);
                    break;
            }
        }
        return stack[0];
    }

    private static int combine(int step, int left, int right) {
        switch (step) {
            case Formula.ADD:
                return left + right;
            case Formula.SUBTRACT:
                return left - right;
            case Formula.MULTIPLY:
                return left * right;
            case Formula.LESS:
                return left < right ? 1 : 0;
            default:
                return left == right ? 1 : 0;
        }
    }

    private long giveTo(Cell reader, int index) {
        reader.note.addRead(index);
        Cell source = cells[index];
        return source.atWork ? BAD : upToDateValue(source);
    }

    private void markUsed(Cell cell) {
        uses++;
        cell.lastUse = uses;
    }

    private void tally(Cell cell, int how) {
        cell.tally[how]++;
        latestTally[how]++;
    }

    private int valuesInNotes() {
        int values = 0;
        for (int i = 0; i < CELLS; i++) {
            values += cells[i].note.hasValue ? 1 : 0;
        }
        return values;
    }

    private void dropValuesBeyondKept() {
        for (int values = valuesInNotes(); values > kept; values--) {
            dropLongestUnused();
        }
    }

    private void dropLongestUnused() {
        Cell oldest = null;
        for (int i = 0; i < CELLS; i++) {
            Cell cell = cells[i];
            if (cell.note.hasValue && (oldest == null || cell.lastUse < oldest.lastUse)) {
                oldest = cell;
            }
        }
        if (oldest != null) {
            oldest.note.hasValue = false;
        }
    }

    private static final class Cell {
        final Formula formula;
        final Note note;
        final int[] tally;
        // Each cell has its own, since several are worked out one inside another.
        final int[] stack;
        boolean hasFormula;
        int formulaChanged;
        int number;
        int durability;
        int inputSince;
        boolean atWork;
        int lastUse;

        Cell() {
            formula = new Formula();
            note = new Note();
            tally = new int[PASSED + 1];
            // A step puts at most one number here, and no text gives more steps than characters.
            stack = new int[LONGEST_TEXT];
        }

        int ownDurability() {
            return hasFormula ? TOP_DURABILITY : durability;
        }

        int givenDurability() {
            return hasFormula ? note.durability : durability;
        }

        int unchangedSince() {
            return hasFormula ? note.since : inputSince;
        }
    }

    /** What was worked out for a formula; all is 0 where there is no note. */
    private static final class Note {
        final int[] reads;
        int readCount;
        boolean exists;
        boolean hasValue;
        long value;
        int verified;
        int since;
        int durability;

        Note() {
            reads = new int[CELLS];
        }

        void clear() {
            readCount = 0;
            exists = false;
            hasValue = false;
            verified = 0;
            since = 0;
            durability = 0;
        }

        boolean isVerifiedIn(int revision) {
            return exists && verified == revision;
        }

        void keepValue(long newValue, int revision) {
            boolean isEqual = hasValue && value == newValue;
            if (!isEqual && !isVerifiedIn(revision)) {
                since = revision;
            }
            exists = true;
            hasValue = true;
            value = newValue;
            verified = revision;
        }

        void addRead(int index) {
            for (int i = 0; i < readCount; i++) {
                if (reads[i] == index) {
                    return;
                }
            }
            if (readCount < reads.length) {
                reads[readCount] = index;
                readCount++;
            }
        }
    }

    /** A text and, once a parser has accepted it, the steps that work it out on a stack. */
    private static final class Formula {
        static final int NUMBER = 0;
        static final int READ = 1;
        static final int READ_AT = 2;
        static final int NEGATE = 3;
        static final int JUMP_IF_ZERO = 4;
        static final int JUMP = 5;
        static final int ADD = 6;
        static final int SUBTRACT = 7;
        static final int MULTIPLY = 8;
        static final int LESS = 9;
        static final int EQUAL = 10;

        // One more than the greatest operand, a number of four digits.
        private static final int OPERANDS = 10000;
        private static final String SIGNS = "?:<=+-*()@";

        final char[] text;
        final int[] steps;
        int length;
        int stepCount;

        Formula() {
            text = new char[LONGEST_TEXT];
            steps = new int[LONGEST_TEXT];
        }

        static boolean isLetter(char c) {
            return c >= 'A' && c < 'A' + CELLS;
        }

        static boolean isDigit(char c) {
            return c >= '0' && c <= '9';
        }

        static boolean mayHold(char c) {
            return isLetter(c) || isDigit(c) || SIGNS.indexOf(c) >= 0;
        }

        boolean append(char c) {
            if (length >= LONGEST_TEXT) {
                return false;
            }
            text[length] = c;
            length++;
            return true;
        }

        int addStep(int step, int operand) {
            if (stepCount < LONGEST_TEXT) {
                steps[stepCount] = step * OPERANDS + operand;
                stepCount++;
            }
            return stepCount - 1;
        }

        void jumpToEnd(int jump) {
            steps[jump] = stepAt(jump) * OPERANDS + stepCount;
        }

        int stepAt(int i) {
            return steps[i] / OPERANDS;
        }

        int operandAt(int i) {
            return steps[i] % OPERANDS;
        }

        boolean hasTextOf(Formula other) {
            if (length != other.length) {
                return false;
            }
            for (int i = 0; i < length; i++) {
                if (text[i] != other.text[i]) {
                    return false;
                }
            }
            return true;
        }

        void copyFrom(Formula other) {
            System.arraycopy(other.text, 0, text, 0, LONGEST_TEXT);
            System.arraycopy(other.steps, 0, steps, 0, LONGEST_TEXT);
            length = other.length;
            stepCount = other.stepCount;
        }
    }

    /**
     * Goes through a formula's text from the left and writes its steps. A method that
     * takes a part of the grammar answers false at the first character that can't stand
     * where it does, and leaves `at` there. None comes back to itself before a character
     * was taken, so the text's length and DEEPEST bound how deep the calls go.
     */
    private static final class Parser {
        private static final int DEEPEST = 5;
        private static final int MOST_DIGITS = 4;
        private static final char END = 0;

        private final Formula formula;
        private int at;

        Parser(Formula formula) {
            this.formula = formula;
        }

        boolean accepts() {
            at = 0;
            formula.stepCount = 0;
            return takeFormula(0) && at == formula.length;
        }

        int fault() {
            return at;
        }

        private char next() {
            return at < formula.length ? formula.text[at] : END;
        }

        private boolean take(char c) {
            if (next() != c) {
                return false;
            }
            at++;
            return true;
        }

        private boolean takeFormula(int deep) {
            if (!takeSum(deep)) {
                return false;
            }
            char sign = next();
            if (sign == '<' || sign == '=') {
                at++;
                if (!takeSum(deep)) {
                    return false;
                }
                formula.addStep(sign == '<' ? Formula.LESS : Formula.EQUAL, 0);
            }
            return !take('?') || takeBranches(deep);
        }

        private boolean takeBranches(int deep) {
            int toSecond = formula.addStep(Formula.JUMP_IF_ZERO, 0);
            if (!takeFormula(deep) || !take(':')) {
                return false;
            }
            int pastSecond = formula.addStep(Formula.JUMP, 0);
            formula.jumpToEnd(toSecond);
            if (!takeFormula(deep)) {
                return false;
            }
            formula.jumpToEnd(pastSecond);
            return true;
        }

        private boolean takeSum(int deep) {
            if (!takeProduct(deep)) {
                return false;
            }
            for (int turn = 0; turn < LONGEST_TEXT; turn++) {
                char sign = next();
                if (sign != '+' && sign != '-') {
                    return true;
                }
                at++;
                if (!takeProduct(deep)) {
                    return false;
                }
                formula.addStep(sign == '+' ? Formula.ADD : Formula.SUBTRACT, 0);
            }
            return true;
        }

        private boolean takeProduct(int deep) {
            if (!takeUnit(deep)) {
                return false;
            }
            for (int turn = 0; turn < LONGEST_TEXT && take('*'); turn++) {
                if (!takeUnit(deep)) {
                    return false;
                }
                formula.addStep(Formula.MULTIPLY, 0);
            }
            return true;
        }

        private boolean takeUnit(int deep) {
            char c = next();
            if (Formula.isLetter(c)) {
                at++;
                formula.addStep(Formula.READ, c - 'A');
                return true;
            }
            if (Formula.isDigit(c)) {
                takeNumber();
                return true;
            }
            if (deep >= DEEPEST) {
                return false;
            }
            if (take('(')) {
                return takeFormula(deep + 1) && take(')');
            }
            if (!take('-') && !take('@')) {
                return false;
            }
            if (!takeUnit(deep + 1)) {
                return false;
            }
            formula.addStep(c == '-' ? Formula.NEGATE : Formula.READ_AT, 0);
            return true;
        }

        private void takeNumber() {
            int number = 0;
            for (int digits = 0; digits < MOST_DIGITS && Formula.isDigit(next()); digits++) {
                number = number * 10 + (next() - '0');
                at++;
            }
            formula.addStep(Formula.NUMBER, number);
        }
    }
}
