/** What the tests share: answers laid beside those that are due. */
final class Checks {
    private int wrong = 0;
    private int looked = 0;

    void due(String call, long got, long want) {
        looked++;
        if (got != want) {
            wrong++;
            System.out.println(call + " answered " + got + ", due is " + want);
        }
    }

    /** How a text is read on its own object; below -99 it is -100 less its FAULT. */
    static int readOf(String text) {
        DebtCouncil x = new DebtCouncil();
        feedText(x, text);
        return x.read();
    }

    static void feedText(DebtCouncil x, String text) {
        for (int from = 0; from < text.length(); from += 8) {
            int n = Math.min(8, text.length() - from);
            long eight = 0;
            for (int i = 0; i < n; i++) {
                eight |= (long) (text.charAt(from + i) & 255) << (8 * i);
            }
            x.feed(eight, n);
        }
    }

    static int read(DebtCouncil x, String text) {
        feedText(x, text);
        return x.read();
    }

    void end() {
        System.out.println(looked + " answers looked at, " + wrong + " not as due");
        if (wrong != 0) {
            System.exit(1);
        }
    }
}
