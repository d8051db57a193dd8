import java.util.HashMap;
import java.util.Map;

/** The document's grammar, span by span and without any order of reading. */
final class Grammar {
    private static final int DEEPEST = 5;

    private final String text;
    private final Map<String, Boolean> known = new HashMap<>();

    private Grammar(String text) {
        this.text = text;
    }

    static boolean isFormula(String text) {
        return new Grammar(text).is("formula", 0, text.length(), 0);
    }

    /** Whether a formula can begin with this text: what is open is closed in the shortest way. */
    static boolean canBegin(String text) {
        StringBuilder closing = new StringBuilder();
        for (int i = 0; i < text.length(); i++) {
            char c = text.charAt(i);
            if (c == '(') {
                closing.insert(0, ")");
            } else if (c == '?') {
                closing.insert(0, ":1");
            } else if (c == ')' || c == ':') {
                int gone = c == ')' ? 1 : 2;
                if (closing.length() < gone || closing.charAt(0) != c) {
                    return false;
                }
                closing.delete(0, gone);
            }
        }
        return isFormula(text + closing) || isFormula(text + "1" + closing);
    }

    private boolean is(String what, int from, int to, int deep) {
        if (from >= to) {
            return false;
        }
        String key = what + " " + from + " " + to + " " + deep;
        Boolean answer = known.get(key);
        if (answer == null) {
            answer = find(what, from, to, deep);
            known.put(key, answer);
        }
        return answer;
    }

    private boolean find(String what, int from, int to, int deep) {
        switch (what) {
            case "formula":
                return is("comparison", from, to, deep) || isChoice(from, to, deep);
            case "comparison":
                return is("sum", from, to, deep) || isSplit("sum", "<=", "sum", from, to, deep);
            case "sum":
                return is("product", from, to, deep) || isSplit("sum", "+-", "product", from, to, deep);
            case "product":
                return is("unit", from, to, deep) || isSplit("product", "*", "unit", from, to, deep);
            default:
                return isUnit(from, to, deep);
        }
    }

    private boolean isSplit(String left, String signs, String right, int from, int to, int deep) {
        for (int i = from + 1; i < to - 1; i++) {
            if (signs.indexOf(text.charAt(i)) >= 0
                    && is(left, from, i, deep) && is(right, i + 1, to, deep)) {
                return true;
            }
        }
        return false;
    }

    private boolean isChoice(int from, int to, int deep) {
        for (int i = from + 1; i < to; i++) {
            if (text.charAt(i) == '?' && is("comparison", from, i, deep)
                    && isSplit("formula", ":", "formula", i + 1, to, deep)) {
                return true;
            }
        }
        return false;
    }

    private boolean isUnit(int from, int to, int deep) {
        String unit = text.substring(from, to);
        if (unit.matches("[A-L]|[0-9]{1,4}")) {
            return true;
        }
        if (deep >= DEEPEST) {
            return false;
        }
        char first = unit.charAt(0);
        if (first == '-' || first == '@') {
            return is("unit", from + 1, to, deep + 1);
        }
        return first == '(' && unit.endsWith(")") && is("formula", from + 1, to - 1, deep + 1);
    }
}
