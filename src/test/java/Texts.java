import java.util.Random;

/** Random formulas that keep to the grammar and its depth. */
final class Texts {
    private final Random random;

    Texts(Random random) {
        this.random = random;
    }

    String formula(int longest) {
        for (int turn = 0; turn < 1000; turn++) {
            String text = formula(0, random.nextInt(4));
            if (text.length() <= longest) {
                return text;
            }
        }
        return "A";
    }

    private String formula(int deep, int size) {
        String text = sum(deep, size);
        if (random.nextInt(4) == 0) {
            text += (random.nextBoolean() ? "<" : "=") + sum(deep, size - 1);
        }
        if (random.nextInt(4) == 0) {
            text += "?" + formula(deep, size - 1) + ":" + formula(deep, size - 1);
        }
        return text;
    }

    private String sum(int deep, int size) {
        StringBuilder text = new StringBuilder(unit(deep, size));
        for (int i = random.nextInt(Math.max(1, size + 1)); i > 0; i--) {
            text.append("+-*".charAt(random.nextInt(3))).append(unit(deep, size - 1));
        }
        return text.toString();
    }

    private String unit(int deep, int size) {
        int kind = random.nextInt(deep < 5 && size >= 0 ? 10 : 6);
        if (kind < 4) {
            return String.valueOf((char) ('A' + random.nextInt(12)));
        }
        if (kind < 6) {
            return String.valueOf(random.nextInt(random.nextInt(5) == 0 ? 10000 : 14));
        }
        if (kind < 8) {
            return "(" + formula(deep + 1, size - 1) + ")";
        }
        return (kind == 8 ? "-" : "@") + unit(deep + 1, size - 1);
    }
}
