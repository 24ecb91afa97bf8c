/** The document's Terms, part 7, and promises 37 to 46, sentence by sentence at their edges. */
final class KindsTest {
    private static final int[] XS = {Integer.MIN_VALUE, Integer.MIN_VALUE + 1, -1000000007, -3, -2, -1, 0, 1, 2, 3, 7,
        1000000007, Integer.MAX_VALUE - 1, Integer.MAX_VALUE};
    private static final Checks C = new Checks();

    public static void main(String[] args) {
        bonds();
        swapped();
        pledges();
        floating();
        papers();
        partedByNothing();
        lowestByLessOne();
        traceIsOfTheLatest();
        noDeals();
        kindAsItIsNow();
        narrowing();
        itemsAsLowAsRefusals();
        sheetsAnew();
        rowsOnShelves();
        emptyRows();
        longRows();
        shelvesHoldOne();
        againWithoutKeep();
        keptNothing();
        keptStays();
        keptLatest();
        keptWhole();
        notKept();
        shelvesBehindAgain();
        roomBehindAgain();
        newOnesBehindAgain();
        C.end();
    }

    /** A land with DEBT n of HOUSE h and that FORM, and SUM a, on SHELF 0. */
    private static DebtCouncil debtOnShelf(int n, int h, int form, int a) {
        DebtCouncil x = new DebtCouncil();
        for (int i = 0; i < n; i++) {
            x.debt(0, 100, 1);
        }
        x.debt(h, 100 + 10 * form, a);
        x.shelf(0, 0, n);
        return x;
    }

    private static void deals(String name, DebtCouncil x, int v, int[] due) {
        for (int deal = 0; deal < 4; deal++) {
            C.due("7: " + name + ", deal " + deal + " with " + v, x.deal(0, deal, v), due[deal]);
        }
    }

    private static void trace(String name, DebtCouncil x, int deal, int... due) {
        x.deal(0, deal, 5);
        C.due("43: " + name + ", deal " + deal + ", how many", x.many(13), due.length);
        for (int i = 0; i < due.length; i++) {
            C.due("43: " + name + ", deal " + deal + ", body " + i, x.trace(i), due[i]);
        }
        C.due("43: " + name + ", none behind", x.trace(due.length), DebtCouncil.NONE);
    }

    private static int parted(int x, int n, int h) {
        return h == n ? -15 : x / (h - n);
    }

    private static void bonds() {
        for (int n = 0; n < 16; n += 5) {
            for (int h = 0; h < 5; h += 2) {
                DebtCouncil x = debtOnShelf(n, h, 0, 999);
                for (int v : XS) {
                    int ranks = (v + 999) * 3 * 2 ^ n;
                    int ranksOf1 = 1000 * 3 * 2 ^ n;
                    deals("bond", x, v, new int[] {(v + 999) * 3, ranks, ranks - h + ranksOf1, parted(v, n, h)});
                }
            }
        }
        DebtCouncil x = debtOnShelf(2, 1, 0, 4);
        trace("bond", x, 0, 30, 10);
        trace("bond", x, 1, 20, 11, 30, 10);
        trace("bond", x, 2, 31, 12, 20, 11, 30, 10, 20, 11, 30, 10);
        trace("bond", x, 3, 13);
    }

    private static void swapped() {
        for (int n = 0; n < 16; n += 5) {
            for (int h = 0; h < 5; h += 2) {
                DebtCouncil x = debtOnShelf(n, h, 0, 999);
                x.voids(n);
                for (int v : XS) {
                    int pays = 0 - (v + 999) * 3;
                    int ranks = pays * 2 ^ n;
                    int ranksOf1 = -3000 * 2 ^ n;
                    deals("swapped", x, v, new int[] {pays, ranks, ranks - h + ranksOf1, parted(v - 2, n, h)});
                }
            }
        }
        DebtCouncil x = debtOnShelf(2, 1, 0, 4);
        x.voids(2);
        trace("swapped", x, 0, 40, 30, 10);
        trace("swapped", x, 1, 20, 11, 40, 30, 10);
        trace("swapped", x, 2, 31, 12, 20, 11, 40, 30, 10, 20, 11, 40, 30, 10);
        trace("swapped", x, 3, 41, 13);
    }

    /** Pledges, and guarantees, which are of the same KIND; VOID ones, too. */
    private static void pledges() {
        for (int form = 1; form <= 3; form += 2) {
            for (int n = 0; n < 16; n += 5) {
                DebtCouncil x = debtOnShelf(n, 4, form, 998);
                for (int v : XS) {
                    int ranks = (v + 998) * 2 ^ n;
                    deals("pledge", x, v, new int[] {v + 998, ranks, ranks - 4 - 5, parted(v, n, 4)});
                }
                x.voids(n);
                C.due("7: a VOID pledge is a pledge", x.deal(0, 0, 1), 999);
                C.due("41: a VOID pledge is a pledge", x.taken(0, 4), n);
                C.due("41: a VOID pledge isn't swapped", x.taken(0, 3), -13);
            }
            DebtCouncil x = debtOnShelf(2, 1, form, 4);
            trace("pledge", x, 0, 10);
            trace("pledge", x, 1, 20, 11, 10);
            trace("pledge", x, 2, 50, 12, 20, 11, 10);
            trace("pledge", x, 3, 13);
        }
    }

    private static void floating() {
        for (int n = 0; n < 16; n += 5) {
            DebtCouncil x = debtOnShelf(n, 3, 2, 997);
            for (int v : XS) {
                int ranks = (v + 3 + 997) * 2 ^ n;
                deals("floating", x, v, new int[] {v + 997, ranks, ranks - 3, v / (3 - n) * n});
            }
        }
        DebtCouncil x = debtOnShelf(2, 1, 2, 4);
        trace("floating", x, 0, 10);
        trace("floating", x, 1, 60, 20, 11, 10);
        trace("floating", x, 2, 12, 60, 20, 11, 10);
        trace("floating", x, 3, 61, 13);
    }

    private static void papers() {
        DebtCouncil x = new DebtCouncil();
        for (int n = 0; n < 20; n++) {
            x.paper(1, 1 + n, 23, 5);
        }
        for (int n = 0; n < 20; n += 6) {
            x.shelf(0, 1, n);
            for (int v : XS) {
                int ranks = (v + 1 + n) * 2;
                deals("bill", x, v, new int[] {v + 1 + n, ranks, ranks - 2 + n + 1 + n, parted(v, n, 2)});
            }
        }
        trace("bill", x, 0, 10);
        trace("bill", x, 1, 11, 10);
        trace("bill", x, 2, 70, 12, 11, 10, 10);
        trace("bill", x, 3, 13);
    }

    /** -15 is all that deal() answers, whatever would be reckoned with it; THE TRACE is of it, too. */
    private static void partedByNothing() {
        for (int form = 0; form < 4; form++) {
            DebtCouncil x = debtOnShelf(3, 3, form, 5);
            C.due("42: -15, FORM " + form, x.deal(0, 3, 8), -15);
            C.due("42: -15 with 0", x.deal(0, 3, 0), -15);
            trace("-15", x, 3, form == 2 ? new int[] {61, 13} : new int[] {13});
            C.due("42: other DEALS are not parted", x.deal(0, 0, 0), form == 0 ? 15 : 5);
        }
        DebtCouncil x = debtOnShelf(4, 4, 0, 5);
        x.voids(4);
        C.due("42: -15 of a swapped one", x.deal(0, 3, 8), -15);
        trace("-15", x, 3, 41, 13);
        DebtCouncil y = debtOnShelf(0, 0, 2, 5);
        C.due("42: -15, times 0", y.deal(0, 3, 8), -15);
        DebtCouncil z = new DebtCouncil();
        z.paper(0, 5, 9, 0);
        z.shelf(0, 1, 0);
        C.due("42: -15 of a PAPER", z.deal(0, 3, 8), -15);
        trace("-15", z, 3, 13);
    }

    private static void lowestByLessOne() {
        DebtCouncil x = debtOnShelf(4, 3, 1, 5);
        C.due("7: the lowest by -1 wraps", x.deal(0, 3, Integer.MIN_VALUE), Integer.MIN_VALUE);
        C.due("7: the highest by -1", x.deal(0, 3, Integer.MAX_VALUE), -Integer.MAX_VALUE);
        DebtCouncil y = debtOnShelf(4, 3, 0, 5);
        y.voids(4);
        C.due("7: the lowest and 2, less 2, by -1", y.deal(0, 3, Integer.MIN_VALUE + 2), Integer.MIN_VALUE);
        C.due("7: the lowest less 2 wraps", y.deal(0, 3, Integer.MIN_VALUE), -(Integer.MAX_VALUE - 1));
        DebtCouncil z = debtOnShelf(2, 4, 1, 5);
        C.due("7: the rest away, below 0, too", z.deal(0, 3, -7), -3);
        C.due("7: the rest away", z.deal(0, 3, 7), 3);
        DebtCouncil w = debtOnShelf(4, 2, 1, 5);
        C.due("7: the rest away, by -2", w.deal(0, 3, 7), -3);
        C.due("7: the rest away, by -2", w.deal(0, 3, -7), 3);
    }

    private static void traceIsOfTheLatest() {
        DebtCouncil x = debtOnShelf(1, 2, 0, 5);
        C.due("43: none at first", x.trace(0), DebtCouncil.NONE);
        C.due("43: none at first", x.many(13), 0);
        trace("long", x, 2, 31, 12, 20, 11, 30, 10, 20, 11, 30, 10);
        trace("short behind long", x, 3, 13);
        C.due("43: nothing of the long one", x.trace(1), DebtCouncil.NONE);
        C.due("43: -1", x.trace(-1), DebtCouncil.NONE);
        C.due("43: 30", x.trace(30), DebtCouncil.NONE);
        x.months(1);
        x.voids(1);
        C.due("43: it stands till the next deal", x.many(13), 1);
    }

    private static void noDeals() {
        int[][] calls = {{-1, 0}, {4, 0}, {0, -1}, {0, 4}, {1, 0}, {2, 0}, {3, 0}};
        for (int[] call : calls) {
            DebtCouncil x = debtOnShelf(1, 2, 0, 5);
            x.sheet(0, 2, 3);
            x.shelf(1, 2, 0);
            x.shelf(2, 2, 1);
            x.deal(0, 2, 5);
            C.due("42: a TRACE ahead of it", x.many(13), 10);
            C.due("42: deal(" + call[0] + ", " + call[1] + ")", x.deal(call[0], call[1], 5), 0);
            C.due("42: no TRACE then", x.many(13), 0);
            C.due("42: no TRACE then", x.trace(0), DebtCouncil.NONE);
        }
    }

    private static void kindAsItIsNow() {
        DebtCouncil x = debtOnShelf(1, 2, 0, 5);
        C.due("7: a bond", x.taken(0, 2), 1);
        C.due("7: not swapped yet", x.taken(0, 3), -13);
        C.due("7: a bond", x.deal(0, 0, 1), 18);
        C.due("23: swapped", x.swap(1, 999, 1), 2);
        C.due("7: still a bond", x.taken(0, 2), 1);
        C.due("7: swapped", x.taken(0, 3), 1);
        C.due("7: swapped", x.deal(0, 0, 1), -18);
        x.shelf(1, 0, 2);
        C.due("7: the new one is a bond", x.taken(1, 2), 2);
        C.due("7: the new one is not swapped", x.taken(1, 3), -13);
        C.due("7: a DEBT is a paper", x.taken(1, 0), 2);
        C.due("7: a DEBT is no bill", x.taken(1, 6), -13);
    }

    private static void narrow(int sort, int v, int due) {
        DebtCouncil x = new DebtCouncil();
        x.sheet(2, sort, 2);
        C.due("38: put", x.put(2, 1, v), 1);
        C.due("38: " + v + " narrowed to sort " + sort, x.item(2, sort, 1), due);
        C.due("38: others stand", x.item(2, sort, 0), 0);
    }

    private static void narrowing() {
        int[] values = {0, 1, -1, 127, 128, 255, 256, -128, -129, 32767, 32768, 65535, 65536, -32768, -32769,
            Integer.MAX_VALUE, Integer.MIN_VALUE};
        for (int v : values) {
            narrow(0, v, (byte) v);
            narrow(1, v, (short) v);
            narrow(2, v, v);
            narrow(3, v, v);
            narrow(4, v, v != 0 ? 1 : 0);
        }
    }

    private static void itemsAsLowAsRefusals() {
        for (int v = -15; v <= -1; v++) {
            for (int sort = 0; sort <= 3; sort++) {
                narrow(sort, v, v);
            }
        }
    }

    private static void sheetsAnew() {
        for (int sort = 0; sort <= 4; sort++) {
            DebtCouncil x = new DebtCouncil();
            x.sheet(1, sort, 40);
            for (int i = 0; i < 40; i++) {
                x.put(1, i, 1);
            }
            C.due("37: anew", x.sheet(1, sort, 40), 1);
            for (int i = 0; i < 40; i++) {
                C.due("37: all 0", x.item(1, sort, i), 0);
            }
            x.put(1, 3, 1);
            C.due("37: shorter", x.sheet(1, sort, 3), 1);
            C.due("37: shorter", x.item(1, sort, 3), -12);
            C.due("37: longer", x.sheet(1, sort, 4), 1);
            C.due("37: longer, all 0", x.item(1, sort, 3), 0);
            C.due("37: missing", x.sheet(1, -1, 4), 1);
            C.due("37: missing", x.item(1, sort, 0), -11);
            C.due("37: missing", x.put(1, 0, 1), -11);
        }
    }

    private static void rowsOnShelves() {
        for (int sort = 0; sort <= 4; sort++) {
            DebtCouncil x = new DebtCouncil();
            x.sheet(0, sort, 40);
            C.due("40: a row", x.shelf(3, 2, 0), 1);
            for (int as = 10; as <= 14; as++) {
                C.due("41: as " + as, x.taken(3, as), as == 10 + sort ? 40 : -13);
            }
            for (int as = 0; as <= 6; as++) {
                C.due("41: a row is no thing", x.taken(3, as), -13);
            }
            x.put(0, 7, 1);
            C.due("41: how many items", x.taken(3, 10 + sort), 40);
            x.sheet(0, (sort + 1) % 5, 2);
            C.due("40: the row as it was then", x.taken(3, 10 + sort), 40);
            x.sheet(0, -1, 0);
            C.due("40: the row as it was then", x.taken(3, 10 + sort), 40);
            x.shelf(3, 2, 0);
            C.due("40: nothing, if missing", x.taken(3, 10 + sort), -11);
        }
    }

    private static void emptyRows() {
        DebtCouncil x = new DebtCouncil();
        C.due("37: a row of 0", x.sheet(3, 1, 0), 1);
        x.shelf(0, 2, 3);
        C.due("41: how many items", x.taken(0, 11), 0);
        C.due("41: another sort", x.taken(0, 12), -13);
        C.due("42: a row of a SHEET", x.deal(0, 0, 1), 0);
        x.province(0, 1);
        C.due("5: three items of none", x.yields(0, 3, 0), -12);
        x.sheet(3, 1, 2);
        C.due("5: three items of two", x.yields(0, 3, 0), -12);
        x.sheet(3, 1, 3);
        C.due("5: three items of three", x.yields(0, 3, 0), 1);
    }

    /** How long a row is must not be taken for the number of a thing. */
    private static void longRows() {
        DebtCouncil x = debtOnShelf(1, 2, 0, 5);
        for (int n : new int[] {0, 1, 2, 15, 16, 20, 40}) {
            x.sheet(0, 2, n);
            x.shelf(1, 2, 0);
            C.due("41: how many items", x.taken(1, 12), n);
            for (int as = 0; as <= 6; as++) {
                C.due("41: a row of " + n + " is no thing of KIND " + as, x.taken(1, as), -13);
            }
            for (int deal = 0; deal < 4; deal++) {
                x.deal(0, deal, 1);
                C.due("42: a row of " + n + ", deal " + deal, x.deal(1, deal, 1), 0);
                C.due("42: no TRACE then", x.many(13), 0);
            }
        }
    }

    private static void shelvesHoldOne() {
        DebtCouncil x = debtOnShelf(2, 1, 1, 5);
        x.paper(0, 1, 0, 0);
        x.sheet(0, 0, 9);
        x.shelf(0, 1, 0);
        C.due("40: a PAPER in its place", x.taken(0, 6), 0);
        C.due("40: no DEBT any more", x.taken(0, 4), -13);
        x.shelf(0, 2, 0);
        C.due("40: a row in its place", x.taken(0, 10), 9);
        x.shelf(0, 3, 0);
        C.due("40: nothing in its place", x.taken(0, 10), -11);
        x.shelf(0, 0, 2);
        x.shelf(3, 0, 2);
        C.due("40: one thing on two SHELVES", x.taken(0, 4) + x.taken(3, 4), 4);
        C.due("40: another SHELF", x.taken(1, 4), -11);
    }

    private static void againWithoutKeep() {
        DebtCouncil x = new DebtCouncil();
        C.due("46: nothing is kept", x.again(), DebtCouncil.NONE);
        x.province(0, 1);
        C.due("46: nothing is kept", x.again(), DebtCouncil.NONE);
        C.due("46: nothing changed", x.many(1), 1);
    }

    private static void keptNothing() {
        DebtCouncil x = new DebtCouncil();
        C.due("45: a new land is kept", x.keep(), 1);
        x.months(60);
        x.province(99, 12);
        x.debt(0, 100, 5);
        Checks.read(x, "rank 1;");
        x.rate(0, 99);
        x.harvest(0, 99);
        x.lag(0, 6);
        x.railway(0, 1, 1);
        x.paper(0, 1, 0, 0);
        x.taking(0, 1);
        x.choice(1, 1, 1, 1);
        C.due("46: again", x.again(), 1);
        for (int what = 0; what <= 14; what++) {
            C.due("46: many(" + what + ")", x.many(what), 0);
        }
        C.due("46: RATE", x.rate(0, 1), 10);
        C.due("46: HARVEST", x.harvest(0, 1), 100);
        C.due("46: LAG", x.lag(0, 1), 0);
        C.due("46: no LINE", x.line(0, 0, 0), -9);
        C.due("46: a new PROVINCE is wholly new", x.province(1, 1), 0);
        C.due("46: a new PROVINCE is wholly new", x.provinceOf(0, 0), 0);
    }

    private static void keptStays() {
        DebtCouncil x = Lands.full();
        x.keep();
        int treasury = x.many(11);
        for (int i = 0; i < 3; i++) {
            x.months(9);
            x.voids(i);
            x.yield1(i, 0, 999);
            C.due("46: again", x.again(), 1);
            C.due("46: MONTH", x.many(0), 590);
            C.due("46: THE TREASURY", x.many(11), treasury);
            C.due("46: VOID", x.many(4), 0);
        }
    }

    private static void keptLatest() {
        DebtCouncil x = new DebtCouncil();
        x.keep();
        x.months(3);
        x.keep();
        x.months(4);
        C.due("46: the latest", x.again(), 1);
        C.due("46: the latest", x.many(0), 3);
        x.months(1);
        x.again();
        C.due("46: it stays", x.many(0), 3);
    }

    private static void keptWhole() {
        C.due("46: all that can be seen, some", Lands.differ(KindsTest::someKept, KindsTest::someAgain), -1);
        C.due("46: all that can be seen, full", Lands.differ(KindsTest::fullKept, KindsTest::fullAgain), -1);
    }

    private static DebtCouncil someKept() {
        DebtCouncil x = Lands.some();
        x.keep();
        return x;
    }

    private static DebtCouncil fullKept() {
        DebtCouncil x = Lands.full();
        x.again();
        x.read();
        x.keep();
        return x;
    }

    private static DebtCouncil someAgain() {
        DebtCouncil x = someKept();
        x.months(17);
        x.province(7, 7);
        x.yield1(3, 1, 55);
        x.guards(0, 9);
        x.rate(0, 1);
        x.rate(1, 2);
        x.harvest(3, 1);
        x.debt(4, 1231, 500);
        x.voids(2);
        x.lag(1, 0);
        x.railway(0, 3, 3);
        x.paper(0, 6, 12, 8);
        x.taking(1, 999);
        x.choice(9, 9, 9, 0);
        x.months(3);
        x.again();
        return x;
    }

    private static DebtCouncil fullAgain() {
        DebtCouncil x = fullKept();
        x.months(9);
        for (int i = 0; i < 8; i++) {
            x.yield1(i, 1, 500 + i);
            x.guards(i, i);
            x.voids(2 * i);
        }
        x.again();
        return x;
    }

    private static void notKept() {
        DebtCouncil x = Lands.some();
        x.again();
        C.due("46: MONTH", x.many(0), 0);
        C.due("46: PROVINCES", x.many(1), 1);
        C.due("46: DEBTS", x.many(3), 1);
        C.due("46: VERSIONS", x.many(5), 0);
        C.due("45: THE TAPE isn't kept", x.many(12), 7);
        C.due("45: ROWS aren't kept", x.many(10), 2);
        C.due("45: ROWS aren't kept", x.row(0, 1), 5);
        C.due("45: SHEETS aren't kept", x.item(0, 1, 1), 7);
        C.due("45: SHELVES aren't kept", x.taken(2, 11), 5);
        C.due("45: THE TRACE isn't kept", x.many(13) > 0 ? 1 : 0, 1);
        C.due("17: THE TAPE is read in the land of before", x.read(), 0);
        C.due("36: ROWS whose CHOICES are gone", x.judge(0), 1);
    }

    private static void shelvesBehindAgain() {
        DebtCouncil x = Lands.some();
        C.due("7: a DEBT", x.taken(0, 1), 2);
        C.due("7: a PAPER", x.taken(1, 6), 1);
        x.shelf(3, 0, 0);
        x.again();
        C.due("7: no such one any more", x.taken(0, 1), -11);
        C.due("7: no such one any more", x.taken(1, 6), -11);
        C.due("7: no such one any more, as a row", x.taken(0, 10), -11);
        C.due("7: this one is still there", x.taken(3, 2), 0);
        C.due("42: nothing", x.deal(0, 0, 1), 0);
        C.due("42: nothing", x.deal(1, 0, 1), 0);
        C.due("42: this one is still there", x.deal(3, 0, 1), 234);
        C.due("40: no such DEBT", x.shelf(0, 0, 2), DebtCouncil.BAD);
    }

    private static void roomBehindAgain() {
        DebtCouncil x = new DebtCouncil();
        x.keep();
        for (int i = 0; i < 16; i++) {
            x.debt(0, 100, 1);
            x.taking(0, 1);
        }
        for (int i = 0; i < 8; i++) {
            x.province(1, 1);
            x.read();
            x.choice(0, 0, 0, 0);
        }
        C.due("FULL", x.debt(0, 100, 1), DebtCouncil.FULL);
        x.again();
        C.due("46: room again for DEBTS", x.debt(1, 110, 2), 0);
        C.due("46: room again for TAKINGS", x.taking(0, 1), 0);
        C.due("46: room again for PROVINCES", x.province(2, 2), 0);
        C.due("46: room again for VERSIONS", x.read(), 0);
        C.due("46: room again for CHOICES", x.choice(0, 0, 0, 0), 0);
        C.due("46: the new DEBT is wholly new", x.debtOf(0, 0, 0), 1);
    }

    /** Things that come behind again() have nothing of those that were there with their numbers. */
    private static void newOnesBehindAgain() {
        DebtCouncil x = new DebtCouncil();
        x.keep();
        x.province(99, 1);
        x.province(0, 1);
        for (int sort = 0; sort < 3; sort++) {
            x.yield1(0, sort, 100 + sort);
            x.yield1(1, sort, 100 + sort);
        }
        x.guards(0, 5);
        x.debt(1, 100, 200);
        x.months(3);
        C.due("3: LATE ahead", x.provinceOf(0, 0), 3);
        C.due("3: got ahead", x.debtOf(0, 0, 12) > 0 ? 1 : 0, 1);
        C.due("3: OWED ahead", x.voids(0) > 0 ? 1 : 0, 1);
        x.again();
        C.due("46: a PROVINCE", x.province(7, 3), 0);
        int[] province = {0, 0, 7, 3, 0};
        for (int what = 0; what < province.length; what++) {
            C.due("46: a new PROVINCE, " + what, x.provinceOf(0, what), province[what]);
        }
        for (int sort = 0; sort < 3; sort++) {
            C.due("46: a new PROVINCE's YIELD", x.yield1(0, sort, 0), 0);
        }
        C.due("46: a DEBT", x.debt(2, 200, 20), 0);
        int[] debt = {0, 2, 0, 20, 2, 0, 9, 0, 0, 0, 0, 50, 0};
        for (int what = 0; what < debt.length; what++) {
            C.due("46: a new DEBT, " + what, x.debtOf(0, 0, what), debt[what]);
        }
        for (int lag = 0; lag <= 6; lag++) {
            x.lag(0, lag);
            C.due("46: a new bond's PRICES", x.knows(0, 0), 50);
        }
    }
}
