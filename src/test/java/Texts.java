import java.util.Random;

/** Texts by the grammar of statutes, whole or spoilt, of at most 240 bytes. */
final class Texts {
    private static final String[] SORTS = {"customs", "salt", "tobacco"};
    private static final String[] FACTS = {"form", "house", "sum", "every", "owed", "since"};
    private static final String[] WORDS = {"rank", "cut", "bar", "take", "spare", "if", "of", "not", "and", "or", "salt",
        "sum", "(", ")", "<", "=", ">", ";", "5", "1000", "101", "x", "A", "\n", "\u00ff", "  "};

    private final Random random;
    private final StringBuilder text = new StringBuilder();

    private Texts(Random random) {
        this.random = random;
    }

    static String some(Random random) {
        Texts t = new Texts(random);
        int lines = random.nextInt(6) == 0 ? 9 + random.nextInt(3) : random.nextInt(5);
        for (int i = 0; i < lines; i++) {
            t.line(lines > 8 ? 3 : 5);
        }
        if (random.nextInt(4) == 0) {
            t.spoil();
        }
        String all = t.text.toString();
        return all.length() <= 240 ? all : all.substring(0, random.nextInt(241));
    }

    private void spoil() {
        int at = random.nextInt(text.length() + 1);
        int to = Math.min(text.length(), at + random.nextInt(5));
        text.replace(at, to, WORDS[random.nextInt(WORDS.length)]);
    }

    /** One word, with a blank ahead of it where one is needed, and often where none is. */
    private void word(String word) {
        boolean joins = text.length() > 0 && sortOf(text.charAt(text.length() - 1)) == sortOf(word.charAt(0))
            && sortOf(word.charAt(0)) != 0;
        if (joins || random.nextInt(3) == 0) {
            text.append(random.nextInt(5) == 0 ? "  " : " ");
        }
        text.append(word);
    }

    private static int sortOf(char c) {
        return Character.isDigit(c) ? 2 : Character.isLetter(c) ? 1 : 0;
    }

    private void number(int most) {
        int n = random.nextInt(60) == 0 ? most + 1 : random.nextInt(10) == 0 ? most : random.nextInt(most + 1);
        word(random.nextInt(9) == 0 ? String.format("%03d", n) : Integer.toString(n));
    }

    private void line(int sorts) {
        switch (random.nextInt(sorts)) {
            case 0:
                word("rank");
                number(9);
                mayIf();
                break;
            case 1:
                word("cut");
                number(100);
                mayIf();
                break;
            case 2:
                if (random.nextBoolean()) {
                    word("spare");
                    number(random.nextBoolean() ? 100 : 20);
                    break;
                }
                word("bar");
                word("if");
                cond(0);
                break;
            default:
                word("take");
                number(999);
                word("of");
                word(SORTS[random.nextInt(3)]);
                break;
        }
        word(";");
    }

    private void mayIf() {
        if (random.nextInt(4) != 0) {
            word("if");
            cond(0);
        }
    }

    private void cond(int open) {
        one(open);
        while (random.nextInt(open > 1 ? 6 : 3) == 0) {
            word(random.nextBoolean() ? "and" : "or");
            one(open);
        }
    }

    private void one(int open) {
        while (random.nextInt(4) == 0) {
            word("not");
        }
        if (open < 5 && random.nextInt(4) == 0) {
            word("(");
            cond(open + 1);
            word(")");
        } else if (random.nextInt(3) == 0) {
            word(SORTS[random.nextInt(3)]);
        } else {
            fact();
        }
    }

    private void fact() {
        int fact = random.nextInt(6);
        word(FACTS[fact]);
        word(random.nextInt(3) == 0 ? "=" : random.nextBoolean() ? "<" : ">");
        number(new int[] {3, 4, 999, 12, 999, 30}[fact]);
    }
}
