import java.util.Random;

/** What define() answers for texts, against the grammar read span by span. */
public final class GrammarTest {
    private static final String ALL = "ABCDEFGHIJKL0123456789?:<=+-*()@";

    private final Check check = new Check("grammar");
    private NoteSheet sheet;
    private int calls;

    public static void main(String[] args) {
        GrammarTest test = new GrammarTest();
        test.namedFaults();
        test.shortTexts("", 5);
        test.randomTexts();
        test.check.end();
    }

    private void namedFaults() {
        due("", 1);
        due("+", 1);
        due("*A", 1);
        due("A+", 3);
        due("A+*", 3);
        due("AB", 2);
        due("A1", 2);
        due("1A", 2);
        due("1234", 0);
        due("12345", 5);
        due("A?", 3);
        due("A?B:", 5);
        due("A?B:C:D", 6);
        due("A?B?C:D", 8);
        due("A:B", 2);
        due("A=B=C", 4);
        due("A<B?C:D<E=F", 10);
        due("A?(B:C)", 5);
        due("(A?B):C", 5);
        due("()", 2);
        due(")", 1);
        due("((A)", 5);
        due("@", 2);
        due("-", 2);
        due("-@-@-A", 0);
        due("-@-@-@A", 6);
        due("-@-@-(", 6);
        due("(((((A)))))", 0);
        due("(((((A+-1)))))", 8);
        due("(((((A?B:C<1)))))", 0);
        due("A+(((((1)))))*-(@(-2))", 0);
        due("((((((", 6);
        due("A?A?A?A?A?A?A?A?A?A?A?A?A?A?A?", 31);
        due("A?A?A?A?A?A?A?1:1:1:1:1:1:1:1:", 30);
        due("1?1:1?1:1?1:1?1:1?1:1?1:1?1:12", 0);
    }

    private void due(String text, int want) {
        check.due("define of " + text, answer(text), want);
        checkAgainstGrammar(text);
    }

    private void shortTexts(String text, int longest) {
        checkAgainstGrammar(text);
        if (text.length() < longest) {
            for (char c : "A1?:<+-*()".toCharArray()) {
                shortTexts(text + c, longest);
            }
        }
    }

    private void randomTexts() {
        Random random = new Random(20261115);
        for (int i = 0; i < 6000; i++) {
            String text = new Texts(random).formula(30);
            checkAgainstGrammar(text);
            checkAgainstGrammar(text.substring(0, random.nextInt(text.length() + 1)));
            checkAgainstGrammar(changedSomewhere(text, random));
        }
    }

    private static String changedSomewhere(String text, Random random) {
        StringBuilder changed = new StringBuilder(text);
        int at = random.nextInt(text.length());
        changed.setCharAt(at, ALL.charAt(random.nextInt(ALL.length())));
        if (random.nextBoolean()) {
            changed.deleteCharAt(random.nextInt(changed.length()));
        }
        return changed.toString();
    }

    private void checkAgainstGrammar(String text) {
        int answer = answer(text);
        if (answer == 0) {
            check.due("is a formula: " + text, Grammar.isFormula(text), true);
            return;
        }
        int fault = answer - 1;
        check.due("is a formula: " + text, Grammar.isFormula(text), false);
        check.due("can begin with " + fault + " of " + text,
            fault <= text.length() && Grammar.canBegin(text.substring(0, fault)), true);
        if (fault < text.length()) {
            check.due("can begin with " + (fault + 1) + " of " + text,
                Grammar.canBegin(text.substring(0, fault + 1)), false);
        }
    }

    private int answer(String text) {
        if (sheet == null || calls + text.length() + 1 > 512) {
            sheet = new NoteSheet(1);
            calls = 0;
        }
        calls += text.length() + 1;
        for (char c : text.toCharArray()) {
            check.due("type(" + c + ") of " + text, sheet.type(c), true);
        }
        return sheet.define(3);
    }
}
