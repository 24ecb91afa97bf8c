/** Promises 37 to 46: sheets, shelves, deals and their trace, counts, what is kept. */
final class HostTest {
    private static final Checks C = new Checks();

    public static void main(String[] args) {
        sheet();
        put();
        item();
        shelf();
        taken();
        takenAgain();
        deals();
        dealsPartedByNothing();
        noDeal();
        many();
        keep();
        keepsNot();
        keepsPrices();
        C.end();
    }

    private static void sheet() {
        DebtCouncil x = new DebtCouncil();
        C.due("37: sheet 4", x.sheet(4, 0, 1), DebtCouncil.BAD);
        C.due("37: sheet -1", x.sheet(-1, 0, 1), DebtCouncil.BAD);
        C.due("37: sort 5", x.sheet(0, 5, 1), DebtCouncil.BAD);
        C.due("37: sort -2", x.sheet(0, -2, 1), DebtCouncil.BAD);
        C.due("37: n 41", x.sheet(0, 0, 41), DebtCouncil.BAD);
        C.due("37: n -1", x.sheet(0, 0, -1), -14);
        C.due("37: BAD ahead of n", x.sheet(0, 5, -1), DebtCouncil.BAD);
        C.due("37: nothing changed", x.item(0, 0, 0), -11);
        C.due("37: n 40", x.sheet(0, 0, 40), 1);
        C.due("37: the last", x.put(0, 39, 7), 1);
        C.due("37: the same anew", x.sheet(0, 0, 40), 1);
        C.due("37: all 0", x.item(0, 0, 39), 0);
        C.due("37: n 0", x.sheet(0, 0, 0), 1);
        C.due("37: none", x.item(0, 0, 0), -12);
        C.due("37: n isn't looked at", x.sheet(0, -1, 99), 1);
        C.due("37: n isn't looked at", x.sheet(3, -1, -1), 1);
        C.due("37: missing", x.item(0, 0, 0), -11);
    }

    private static void put() {
        DebtCouncil x = new DebtCouncil();
        C.due("38: no SHEET", x.put(4, 0, 0), DebtCouncil.BAD);
        C.due("38: no SHEET", x.put(-1, 0, 0), DebtCouncil.BAD);
        C.due("38: missing", x.put(0, 99, 0), -11);
        int[] put = {0x12348765, -1, 128, 32768, 2, 0};
        int[][] due = {
            {0x65, -1, -128, 0, 2, 0},
            {(short) 0x8765, -1, 128, -32768, 2, 0},
            put,
            put,
            {1, 1, 1, 1, 1, 0}
        };
        for (int sort = 0; sort <= 4; sort++) {
            x.sheet(1, sort, 6);
            for (int i = 0; i < 6; i++) {
                C.due("38: put", x.put(1, i, put[i]), 1);
                C.due("38: as sort " + sort + ", " + put[i], x.item(1, sort, i), due[sort][i]);
            }
            C.due("38: behind", x.put(1, 6, 0), -12);
            C.due("38: ahead", x.put(1, -1, 0), -12);
        }
    }

    private static void item() {
        DebtCouncil x = new DebtCouncil();
        C.due("39: no SHEET", x.item(4, 0, 0), DebtCouncil.BAD);
        C.due("39: no SHEET", x.item(-1, 0, 0), DebtCouncil.BAD);
        C.due("39: sort 5", x.item(0, 5, 0), DebtCouncil.BAD);
        C.due("39: sort -1", x.item(0, -1, 0), DebtCouncil.BAD);
        C.due("39: missing", x.item(0, 0, 99), -11);
        for (int sort = 0; sort <= 4; sort++) {
            x.sheet(0, sort, 2);
            for (int as = 0; as <= 4; as++) {
                C.due("39: " + sort + " as " + as, x.item(0, as, 1), as == sort ? 0 : -13);
                C.due("39: " + sort + " as " + as + " outside", x.item(0, as, 2), as == sort ? -12 : -13);
            }
        }
        C.due("39: far", x.item(0, 4, Integer.MIN_VALUE), -12);
        C.due("39: far", x.item(0, 4, Integer.MAX_VALUE), -12);
    }

    private static void shelf() {
        DebtCouncil x = new DebtCouncil();
        C.due("40: shelf 4", x.shelf(4, 3, 0), DebtCouncil.BAD);
        C.due("40: shelf -1", x.shelf(-1, 3, 0), DebtCouncil.BAD);
        C.due("40: what 4", x.shelf(0, 4, 0), DebtCouncil.BAD);
        C.due("40: what -1", x.shelf(0, -1, 0), DebtCouncil.BAD);
        C.due("40: no DEBT", x.shelf(0, 0, 0), DebtCouncil.BAD);
        C.due("40: no PAPER", x.shelf(0, 1, 0), DebtCouncil.BAD);
        C.due("40: no SHEET", x.shelf(0, 2, 4), DebtCouncil.BAD);
        C.due("40: no SHEET", x.shelf(0, 2, -1), DebtCouncil.BAD);
        x.debt(0, 100, 1);
        C.due("40: a DEBT", x.shelf(0, 0, 0), 1);
        C.due("40: no DEBT", x.shelf(0, 0, 1), DebtCouncil.BAD);
        C.due("40: nothing changed", x.taken(0, 2), 0);
        C.due("40: a missing SHEET", x.shelf(0, 2, 0), 1);
        C.due("40: nothing", x.taken(0, 0), -11);
        x.sheet(0, 2, 5);
        C.due("40: a row", x.shelf(0, 2, 0), 1);
        x.sheet(0, 3, 9);
        C.due("40: the row as it was then", x.taken(0, 12), 5);
        C.due("40: the row as it was then", x.taken(0, 13), -13);
        C.due("40: nothing", x.shelf(0, 3, 77), 1);
        C.due("40: nothing", x.taken(0, 12), -11);
    }

    private static void taken() {
        DebtCouncil x = new DebtCouncil();
        x.debt(0, 100, 1);
        x.debt(0, 100, 1);
        x.debt(0, 110, 1);
        x.debt(0, 120, 1);
        x.debt(0, 130, 1);
        x.voids(1);
        x.paper(0, 1, 0, 0);
        x.paper(0, 1, 0, 0);
        // by DEBT: the KINDS it may be taken for
        int[] kinds = {0b0000111, 0b0001111, 0b0010011, 0b0100011, 0b0010011};
        for (int debt = 0; debt < 5; debt++) {
            x.shelf(2, 0, debt);
            for (int as = 0; as <= 6; as++) {
                C.due("41: DEBT " + debt + " as " + as, x.taken(2, as), (kinds[debt] >> as & 1) == 1 ? debt : -13);
            }
            C.due("41: no row", x.taken(2, 10), -13);
        }
        x.shelf(2, 1, 1);
        for (int as = 0; as <= 6; as++) {
            C.due("41: PAPER as " + as, x.taken(2, as), as == 0 || as == 6 ? 1 : -13);
        }
        for (int sort = 0; sort <= 4; sort++) {
            x.sheet(0, sort, 3 + sort);
            x.shelf(3, 2, 0);
            for (int as = 0; as <= 4; as++) {
                C.due("41: row " + sort + " as " + as, x.taken(3, 10 + as), as == sort ? 3 + sort : -13);
            }
            C.due("41: a row is no thing", x.taken(3, 0), -13);
        }
        C.due("41: shelf 4", x.taken(4, 0), DebtCouncil.BAD);
        C.due("41: shelf -1", x.taken(-1, 0), DebtCouncil.BAD);
        C.due("41: as 7", x.taken(3, 7), DebtCouncil.BAD);
        C.due("41: as 9", x.taken(3, 9), DebtCouncil.BAD);
        C.due("41: as 15", x.taken(3, 15), DebtCouncil.BAD);
        C.due("41: as -1", x.taken(3, -1), DebtCouncil.BAD);
        C.due("41: nothing", x.taken(0, 14), -11);
    }

    private static void takenAgain() {
        DebtCouncil x = new DebtCouncil();
        x.keep();
        x.debt(1, 100, 5);
        x.paper(0, 1, 0, 0);
        x.shelf(0, 0, 0);
        x.shelf(1, 1, 0);
        x.again();
        C.due("41: no such DEBT any more", x.taken(0, 0), -11);
        C.due("41: no such DEBT any more", x.taken(0, 10), -11);
        C.due("41: no such PAPER any more", x.taken(1, 6), -11);
        C.due("42: no such DEBT any more", x.deal(0, 0, 1), 0);
        x.debt(2, 110, 6);
        C.due("41: by its number, as it is now", x.taken(0, 4), 0);
        C.due("42: by its number, as it is now", x.deal(0, 0, 1), 7);
    }

    private static void dealt(DebtCouncil x, int deal, int answer, int... bodies) {
        C.due("42: deal " + deal, x.deal(0, deal, 7), answer);
        C.due("43: bodies of deal " + deal, x.many(13), bodies.length);
        for (int i = 0; i < bodies.length; i++) {
            C.due("43: body " + i + " of deal " + deal, x.trace(i), bodies[i]);
        }
        C.due("43: behind", x.trace(bodies.length), DebtCouncil.NONE);
        C.due("43: ahead", x.trace(-1), DebtCouncil.NONE);
    }

    private static void deals() {
        DebtCouncil x = new DebtCouncil();
        x.debt(0, 100, 1);
        x.debt(4, 100, 20);
        x.debt(4, 110, 20);
        x.debt(1, 120, 30);
        x.paper(0, 9, 0, 0);
        x.paper(0, 50, 30, 0);
        x.shelf(0, 0, 1);
        dealt(x, 0, 81, 30, 10);
        dealt(x, 1, 162 ^ 1, 20, 11, 30, 10);
        dealt(x, 2, (162 ^ 1) - 4 + (126 ^ 1), 31, 12, 20, 11, 30, 10, 20, 11, 30, 10);
        dealt(x, 3, 2, 13);
        x.voids(1);
        dealt(x, 0, -81, 40, 30, 10);
        dealt(x, 1, -162 ^ 1, 20, 11, 40, 30, 10);
        dealt(x, 2, (-162 ^ 1) - 4 + (-126 ^ 1), 31, 12, 20, 11, 40, 30, 10, 20, 11, 40, 30, 10);
        dealt(x, 3, 1, 41, 13);
        x.shelf(0, 0, 2);
        dealt(x, 0, 27, 10);
        dealt(x, 1, 54 ^ 2, 20, 11, 10);
        dealt(x, 2, (54 ^ 2) - 4 - 5, 50, 12, 20, 11, 10);
        dealt(x, 3, 3, 13);
        x.shelf(0, 0, 3);
        dealt(x, 0, 37, 10);
        dealt(x, 1, 76 ^ 3, 60, 20, 11, 10);
        dealt(x, 2, (76 ^ 3) - 1, 12, 60, 20, 11, 10);
        dealt(x, 3, -9, 61, 13);
        x.shelf(0, 1, 1);
        dealt(x, 0, 57, 10);
        dealt(x, 1, 114, 11, 10);
        dealt(x, 2, 111 + 51, 70, 12, 11, 10, 10);
        dealt(x, 3, 3, 13);
        C.due("42: ints wrap", x.deal(0, 1, Integer.MAX_VALUE), 98);
        x.debt(3, 110, 1);
        x.shelf(0, 0, 4);
        C.due("42: the lowest by -1", x.deal(0, 3, Integer.MIN_VALUE), Integer.MIN_VALUE);
    }

    private static void dealsPartedByNothing() {
        DebtCouncil x = new DebtCouncil();
        x.debt(0, 120, 1);
        x.debt(1, 120, 1);
        x.debt(2, 100, 1);
        x.voids(2);
        x.shelf(0, 0, 1);
        dealt(x, 3, -15, 61, 13);
        x.shelf(0, 0, 2);
        dealt(x, 3, -15, 41, 13);
        x.paper(0, 1, 0, 0);
        x.shelf(0, 1, 0);
        dealt(x, 3, -15, 13);
        dealt(x, 0, 8, 10);
    }

    private static void noDeal() {
        DebtCouncil x = new DebtCouncil();
        x.debt(1, 100, 1);
        x.shelf(0, 0, 0);
        x.sheet(0, 0, 1);
        x.shelf(1, 2, 0);
        int[][] calls = {{4, 0}, {-1, 0}, {0, 4}, {0, -1}, {1, 0}, {2, 0}};
        for (int[] call : calls) {
            x.deal(0, 0, 1);
            C.due("43: a TRACE", x.many(13), 2);
            C.due("42: deal(" + call[0] + ", " + call[1] + ", 9)", x.deal(call[0], call[1], 9), 0);
            C.due("42: no TRACE", x.many(13), 0);
            C.due("42: no TRACE", x.trace(0), DebtCouncil.NONE);
        }
    }

    /** One more of each thing than of the one named ahead of it, so that none is taken for another. */
    private static DebtCouncil full() {
        DebtCouncil x = new DebtCouncil();
        for (int i = 0; i < 2; i++) {
            x.province(99, 1);
        }
        x.yield1(0, 0, 999);
        x.province(0, 1);
        for (int i = 0; i < 4; i++) {
            x.debt(0, 1201, 10);
        }
        x.debt(0, 101, 10);
        x.voids(0);
        for (int i = 0; i < 5; i++) {
            x.read();
        }
        for (int i = 0; i < 6; i++) {
            x.railway(0, 1, 1);
        }
        for (int i = 0; i < 7; i++) {
            x.paper(0, 1, 0, 0);
        }
        for (int i = 0; i < 9; i++) {
            x.taking(0, 1);
        }
        for (int i = 0; i < 8; i++) {
            x.choice(1, 1, 1, 0);
        }
        x.choose(8);
        x.months(1);
        x.months(12);
        x.feed(0x2020, 2);
        x.shelf(0, 1, 0);
        x.deal(0, 2, 1);
        return x;
    }

    private static void many() {
        DebtCouncil x = full();
        // 99 less 9 come in each month: none of the first two is ever paid, and nothing is taken of a mutiny's land
        int[] due = {13, 3, 2, 5, 1, 5, 6, 7, 9, 8, 8, 90, 2, 5, 130 + 30};
        for (int what = 0; what < due.length; what++) {
            C.due("44: many(" + what + ")", x.many(what), due[what]);
        }
        C.due("44: many(15)", x.many(15), DebtCouncil.BAD);
        C.due("44: many(-1)", x.many(-1), DebtCouncil.BAD);
    }

    private static void keep() {
        DebtCouncil x = full();
        x.lag(3, 5);
        x.rate(1, 33);
        x.harvest(2, 22);
        x.guards(1, 4);
        x.yield1(1, 1, 44);
        C.due("45: keep()", x.keep(), 1);
        x.months(60);
        x.voids(1);
        x.province(5, 5);
        x.debt(0, 100, 1);
        Checks.read(x, "rank 1;");
        x.paper(0, 2, 0, 0);
        x.taking(0, 5);
        x.lag(3, 1);
        x.rate(1, 1);
        x.harvest(2, 1);
        x.guards(1, 1);
        x.yield1(1, 1, 1);
        for (int i = 0; i < 2; i++) {
            C.due("46: again()", x.again(), 1);
            int[] due = {13, 3, 2, 5, 1, 5, 6, 7, 9, 8};
            for (int what = 0; what < due.length; what++) {
                C.due("46: many(" + what + ")", x.many(what), due[what]);
            }
            C.due("46: TREASURY", x.many(11), 90);
            C.due("46: OWED", x.many(14), 160);
            C.due("46: LATE", x.provinceOf(0, 0), 13);
            C.due("46: PRICE", x.debtOf(1, 0, 11), 50 + 22 - 10);
            C.due("46: LAG", x.lag(3, 0), 5);
            C.due("46: RATE", x.rate(1, 0), 33);
            C.due("46: HARVEST", x.harvest(2, 0), 22);
            C.due("46: GUARDS", x.guards(1, 0), 4);
            C.due("46: YIELD", x.yield1(1, 1, 0), 44);
            C.due("46: a new one is wholly new", x.debt(2, 112, 3), 5);
            C.due("46: a new one is wholly new", x.debtOf(5, 0, 5), 0);
            x.months(2);
        }
        C.due("45: the latest", x.keep(), 1);
        x.months(1);
        x.again();
        C.due("46: the latest", x.many(0), 15);
    }

    private static void keepsPrices() {
        DebtCouncil x = new DebtCouncil();
        x.debt(0, 1200, 1);
        x.months(8);
        x.keep();
        x.months(20);
        x.again();
        for (int lag = 0; lag <= 6; lag++) {
            x.lag(0, lag);
            C.due("46: PRICES of " + lag + " months ago", x.knows(0, 0), 66 - 2 * lag);
        }
    }

    /** THE TAPE, ROWS, SHEETS, SHELVES and THE TRACE stand as they are. */
    private static void keepsNot() {
        DebtCouncil x = full();
        x.keep();
        x.feed(0x2020, 1);
        x.dropRow();
        x.sheet(1, 3, 7);
        x.shelf(2, 2, 1);
        x.deal(0, 0, 1);
        x.again();
        C.due("46: THE TAPE", x.many(12), 3);
        C.due("46: ROWS", x.many(10), 7);
        C.due("46: SHEETS", x.item(1, 3, 6), 0);
        C.due("46: SHELVES", x.taken(2, 13), 7);
        C.due("46: THE TRACE", x.many(13), 1);
    }
}
