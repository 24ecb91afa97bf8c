/** Promises 27 and 28: the floating debt in two books. */
final class PapersTest {
    private static final Checks C = new Checks();

    public static void main(String[] args) {
        paper();
        mayBeOne();
        bills();
        ways();
        eachAskedFirst();
        C.end();
    }

    private static void paper() {
        DebtCouncil x = new DebtCouncil();
        C.due("27: book -1", x.paper(-1, 1, 0, 0), DebtCouncil.BAD);
        C.due("27: book 2", x.paper(2, 1, 0, 0), DebtCouncil.BAD);
        C.due("27: sum 0", x.paper(0, 0, 0, 0), DebtCouncil.BAD);
        C.due("27: sum 1000", x.paper(0, 1000, 0, 0), DebtCouncil.BAD);
        C.due("27: told -1", x.paper(0, 1, -1, 0), DebtCouncil.BAD);
        C.due("27: told 50", x.paper(0, 1, 50, 0), DebtCouncil.BAD);
        C.due("27: month -1", x.paper(0, 1, 0, -1), DebtCouncil.BAD);
        C.due("27: month 600", x.paper(0, 1, 0, 600), DebtCouncil.BAD);
        for (int i = 0; i < 20; i++) {
            C.due("27: number", x.paper(i % 2, i == 0 ? 1 : 999, i == 0 ? 0 : 49, i == 0 ? 0 : 599), i);
        }
        C.due("27: the next", x.paper(0, 1, 0, 0), DebtCouncil.FULL);
        C.due("27: the next, BAD", x.paper(2, 1, 0, 0), DebtCouncil.BAD);
        C.due("27: many(7)", x.many(7), 20);
        C.due("28: ten pairs, less one", x.bills(-1), 11);
        C.due("28: SURE", x.bills(-2), 1 + 10 * 999);
    }

    private static void two(int[] one, int[] other, int due) {
        DebtCouncil x = new DebtCouncil();
        x.paper(one[0], one[1], one[2], one[3]);
        x.paper(other[0], other[1], other[2], other[3]);
        C.due("28: others of the first", x.bills(0), due);
        C.due("28: others of the second", x.bills(1), due);
        C.due("28: COUNT", x.bills(-1), 2 - due);
        C.due("28: SINGLE", x.bills(-3), 2 - 2 * due);
    }

    private static void mayBeOne() {
        int[] one = {0, 5, 23, 10};
        two(one, new int[] {1, 5, 23, 10}, 1);
        two(one, new int[] {0, 5, 23, 10}, 0);
        two(one, new int[] {1, 6, 23, 10}, 0);
        two(one, new int[] {1, 5, 33, 10}, 0);
        two(one, new int[] {1, 5, 24, 10}, 0);
        two(one, new int[] {1, 5, 20, 10}, 1);
        two(one, new int[] {1, 5, 23, 11}, 1);
        two(one, new int[] {1, 5, 23, 9}, 1);
        two(one, new int[] {1, 5, 23, 12}, 0);
        two(one, new int[] {1, 5, 23, 8}, 0);
        two(new int[] {0, 5, 0, 10}, new int[] {1, 5, 0, 10}, 1);
        two(new int[] {0, 5, 0, 10}, new int[] {1, 5, 9, 10}, 1);
    }

    private static void bills() {
        DebtCouncil x = new DebtCouncil();
        C.due("28: no PAPERS", x.bills(-1), 0);
        C.due("28: no PAPERS", x.bills(-2), 0);
        C.due("28: no PAPERS", x.bills(-3), 0);
        C.due("28: no PAPER", x.bills(0), DebtCouncil.BAD);
        C.due("28: no what", x.bills(-4), DebtCouncil.BAD);
        x.paper(1, 100, 0, 5);
        x.paper(0, 7, 0, 5);
        C.due("28: COUNT", x.bills(-1), 2);
        C.due("28: SURE", x.bills(-2), 107);
        C.due("28: SINGLE", x.bills(-3), 2);
        C.due("28: no PAPER", x.bills(2), DebtCouncil.BAD);
    }

    /** No answer leans on another's having been asked ahead of it. */
    private static void eachAskedFirst() {
        int[] due = {2, 11, 1};
        for (int k = 0; k < 3; k++) {
            DebtCouncil x = new DebtCouncil();
            x.paper(0, 5, 0, 7);
            x.paper(1, 5, 0, 8);
            x.paper(1, 6, 0, 8);
            C.due("28: asked first, " + (-1 - k), x.bills(-1 - k), due[k]);
            x.paper(0, 6, 0, 9);
            C.due("28: asked behind a new one, " + (-1 - k), x.bills(-1 - k), new int[] {2, 11, 0}[k]);
        }
    }

    /** A pair that is taken first must be given up, so that more pairs come. */
    private static void ways() {
        DebtCouncil x = new DebtCouncil();
        x.paper(1, 9, 0, 10);
        x.paper(1, 9, 0, 12);
        x.paper(1, 9, 0, 14);
        x.paper(0, 9, 0, 13);
        x.paper(0, 9, 0, 11);
        x.paper(0, 9, 0, 9);
        C.due("28: three pairs", x.bills(-1), 3);
        C.due("28: SURE", x.bills(-2), 27);
        C.due("28: others", x.bills(1), 2);
        x.paper(0, 9, 0, 10);
        C.due("28: still three pairs", x.bills(-1), 4);
        C.due("28: SURE", x.bills(-2), 36);
        x.paper(1, 8, 0, 10);
        C.due("28: SINGLE", x.bills(-3), 1);
    }
}
