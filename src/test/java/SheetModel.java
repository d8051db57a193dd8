import java.util.ArrayList;
import java.util.Arrays;
import java.util.HashSet;
import java.util.LinkedHashSet;
import java.util.List;
import java.util.Set;

/** A second, plain reading of the document: texts are worked out as they stand. */
final class SheetModel {
    private record Note(long value, boolean dropped, int verified, int since, int durability, List<Integer> reads) {
        Note verifiedIn(int revision, int newDurability) {
            return new Note(value, dropped, revision, since, newDurability, reads);
        }
    }

    private static final class BadRead extends Exception {
        private static final long serialVersionUID = 1;
    }

    private static final long BAD = 1L << 40;

    private final int kept;
    private final String[] formulas = new String[12];
    private final int[] formulaChanged = new int[12];
    private final int[] numbers = new int[12];
    private final int[] durabilities = new int[12];
    private final int[] inputSince = new int[12];
    private final Note[] notes = new Note[12];
    private final int[][] tallies = new int[12][3];
    private final Set<Integer> atWork = new HashSet<>();
    private final List<Integer> usedLast = new ArrayList<>();
    private final int[] changed = new int[3];
    private int[] latest = new int[3];
    private int revision = 1;
    private String pad = "";

    SheetModel(int kept) {
        this.kept = kept < 1 ? 1 : kept > 12 ? 12 : kept;
    }

    boolean type(char c) {
        if ("ABCDEFGHIJKL0123456789?:<=+-*()@".indexOf(c) < 0 || pad.length() == 30) {
            return false;
        }
        pad += c;
        return true;
    }

    int define(int cell) {
        String text = pad;
        pad = "";
        if (cell < 0 || cell > 11) {
            return -1;
        }
        if (!Grammar.isFormula(text)) {
            int fault = 0;
            while (fault < text.length() && Grammar.canBegin(text.substring(0, fault + 1))) {
                fault++;
            }
            return 1 + fault;
        }
        if (!text.equals(formulas[cell])) {
            change(formulas[cell] != null ? 2 : durabilities[cell]);
            formulas[cell] = text;
            formulaChanged[cell] = revision;
        }
        return 0;
    }

    boolean set(int cell, int number, int durability) {
        if (cell < 0 || cell > 11 || durability < 0 || durability > 2) {
            return false;
        }
        boolean wasFormula = formulas[cell] != null;
        boolean hadAnother = numbers[cell] != number;
        if (wasFormula || hadAnother || durabilities[cell] != durability) {
            change(wasFormula ? 2 : durabilities[cell]);
            if (wasFormula || hadAnother) {
                inputSince[cell] = revision;
            }
            formulas[cell] = null;
            notes[cell] = null;
            numbers[cell] = number;
            durabilities[cell] = durability;
        }
        return true;
    }

    private void change(int durability) {
        revision++;
        Arrays.fill(changed, 0, durability + 1, revision);
    }

    long ask(int cell) {
        if (cell < 0 || cell > 11) {
            return -1;
        }
        latest = new int[3];
        long answer = value(cell);
        for (int i = 0; values() > kept; ) {
            int oldest = usedLast.get(i);
            Note note = notes[oldest];
            if (note == null || note.dropped) {
                i++;
                continue;
            }
            notes[oldest] = new Note(0, true, note.verified, note.since, note.durability, note.reads);
        }
        return answer;
    }

    int revision() {
        return revision;
    }

    int changed(int durability) {
        return durability < 0 || durability > 2 ? -1 : changed[durability];
    }

    int note(int cell, int what) {
        if (cell < 0 || cell > 11 || what < 0 || what > 7) {
            return -1;
        }
        if (what < 3) {
            return tallies[cell][what];
        }
        Note note = notes[cell];
        if (formulas[cell] == null) {
            return new int[] {inputSince[cell], 0, durabilities[cell], 0, 1}[what - 3];
        }
        if (note == null) {
            return 0;
        }
        return new int[] {
            note.since, note.verified, note.durability, note.reads.size(), note.dropped ? 0 : 1
        }[what - 3];
    }

    int read(int cell, int i) {
        if (cell < 0 || cell > 11 || notes[cell] == null || i < 0 || i >= notes[cell].reads.size()) {
            return -1;
        }
        return notes[cell].reads.get(i);
    }

    int count(int what) {
        return what < 0 || what > 3 ? -1 : what == 3 ? values() : latest[what];
    }

    private int values() {
        int values = 0;
        for (Note note : notes) {
            if (note != null && !note.dropped) {
                values++;
            }
        }
        return values;
    }

    private void use(Integer cell) {
        usedLast.remove(cell);
        usedLast.add(cell);
    }

    private void tally(int cell, int how) {
        tallies[cell][how]++;
        latest[how]++;
    }

    private long value(int cell) {
        if (formulas[cell] == null) {
            return numbers[cell];
        }
        bring(cell);
        if (notes[cell].dropped) {
            atWork.add(cell);
            workOut(cell);
            atWork.remove(cell);
        }
        use(cell);
        return notes[cell].value;
    }

    private void bring(int cell) {
        Note note = notes[cell];
        if (formulas[cell] == null || atWork.contains(cell) || note != null && note.verified == revision) {
            return;
        }
        atWork.add(cell);
        if (note != null && changed[note.durability] <= note.verified) {
            notes[cell] = note.verifiedIn(revision, note.durability);
            tally(cell, 2);
        } else if (note != null && formulaChanged[cell] <= note.verified && allUnchanged(note)) {
            notes[cell] = note.verifiedIn(revision, least(note.reads));
            tally(cell, 1);
        } else {
            workOut(cell);
        }
        atWork.remove(cell);
    }

    private boolean allUnchanged(Note note) {
        for (int read : note.reads) {
            bring(read);
            int since = formulas[read] == null ? inputSince[read] : notes[read] == null ? 0 : notes[read].since;
            if (atWork.contains(read) || since > note.verified) {
                return false;
            }
        }
        return true;
    }

    private int least(List<Integer> reads) {
        int least = 2;
        for (int read : reads) {
            if (atWork.contains(read)) {
                return 0;
            }
            least = Math.min(least, formulas[read] == null ? durabilities[read] : notes[read].durability);
        }
        return least;
    }

    private void workOut(int cell) {
        Note old = notes[cell];
        Set<Integer> reads = new LinkedHashSet<>();
        long value;
        try {
            value = new Reader(formulas[cell], reads).formula(true);
        } catch (BadRead bad) {
            value = BAD;
        }
        List<Integer> inOrder = new ArrayList<>(reads);
        boolean asItWas = old != null && (!old.dropped && old.value == value || old.verified == revision);
        notes[cell] = new Note(value, false, revision, asItWas ? old.since : revision, least(inOrder), inOrder);
        use(cell);
        tally(cell, 0);
    }

    /** Works a text out as it goes along it; what is not due is gone along without reading. */
    private final class Reader {
        private final String text;
        private final Set<Integer> reads;
        private int at;

        Reader(String text, Set<Integer> reads) {
            this.text = text + ".";
            this.reads = reads;
        }

        private boolean skip(char c) {
            if (text.charAt(at) != c) {
                return false;
            }
            at++;
            return true;
        }

        int formula(boolean due) throws BadRead {
            int left = sum(due);
            if (skip('<')) {
                left = left < sum(due) ? 1 : 0;
            } else if (skip('=')) {
                left = left == sum(due) ? 1 : 0;
            }
            if (!skip('?')) {
                return left;
            }
            int first = formula(due && left != 0);
            at++;
            int second = formula(due && left == 0);
            return left != 0 ? first : second;
        }

        private int sum(boolean due) throws BadRead {
            int sum = product(due);
            while (true) {
                if (skip('+')) {
                    sum += product(due);
                } else if (skip('-')) {
                    sum -= product(due);
                } else {
                    return sum;
                }
            }
        }

        private int product(boolean due) throws BadRead {
            int product = unit(due);
            while (skip('*')) {
                product *= unit(due);
            }
            return product;
        }

        private int unit(boolean due) throws BadRead {
            if (skip('(')) {
                int inside = formula(due);
                at++;
                return inside;
            }
            if (skip('-')) {
                return -unit(due);
            }
            if (skip('@')) {
                int number = unit(due);
                return due ? get((int) (((long) number % 12 + 12) % 12)) : 0;
            }
            if (Character.isLetter(text.charAt(at))) {
                int cell = text.charAt(at++) - 'A';
                return due ? get(cell) : 0;
            }
            int start = at;
            while (Character.isDigit(text.charAt(at))) {
                at++;
            }
            return Integer.parseInt(text.substring(start, at));
        }

        private int get(int cell) throws BadRead {
            reads.add(cell);
            if (atWork.contains(cell)) {
                throw new BadRead();
            }
            long given = value(cell);
            if (given == BAD) {
                throw new BadRead();
            }
            return (int) given;
        }
    }
}
