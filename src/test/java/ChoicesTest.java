/** Promises 29 to 36: takings, choices, rows and their reader. */
final class ChoicesTest {
    private static final Checks C = new Checks();

    public static void main(String[] args) {
        taking();
        takings();
        takingsByMonth();
        choice();
        choose();
        chooseOfSeveral();
        rows();
        judge();
        judgeRising();
        C.end();
    }

    private static void taking() {
        DebtCouncil x = new DebtCouncil();
        C.due("29: sort 3", x.taking(3, 1), DebtCouncil.BAD);
        C.due("29: sort -1", x.taking(-1, 1), DebtCouncil.BAD);
        C.due("29: sum 0", x.taking(0, 0), DebtCouncil.BAD);
        C.due("29: sum 1000", x.taking(0, 1000), DebtCouncil.BAD);
        for (int i = 0; i < 16; i++) {
            C.due("29: number", x.taking(2, 999), i);
        }
        C.due("29: the next", x.taking(0, 1), DebtCouncil.FULL);
        C.due("29: the next, BAD", x.taking(0, 0), DebtCouncil.BAD);
        C.due("29: many(8)", x.many(8), 16);
        C.due("30: all UNLAWFUL", x.takings(0), 0xffff);
        C.due("30: GONE ROUND", x.takings(1), 16 * 999);
    }

    private static void takings() {
        DebtCouncil x = new DebtCouncil();
        C.due("30: none", x.takings(0), 0);
        C.due("30: none", x.takings(1), 0);
        C.due("30: no what", x.takings(2), DebtCouncil.BAD);
        C.due("30: no what", x.takings(-1), DebtCouncil.BAD);
        Checks.read(x, "take 900 of salt; take 100 of salt; take 7 of customs;");
        x.taking(1, 60);
        x.taking(0, 8);
        x.taking(1, 40);
        x.taking(1, 1);
        x.taking(2, 1);
        x.taking(1, 10);
        C.due("30: UNLAWFUL", x.takings(0), 2 + 8 + 16 + 32);
        C.due("30: GONE ROUND", x.takings(1), 1 + 1 + 1 + 10);
    }

    private static void takingsByMonth() {
        DebtCouncil x = new DebtCouncil();
        x.taking(0, 50);
        x.months(2);
        x.taking(0, 50);
        Checks.read(x, "take 60 of customs;");
        C.due("30: the STATUTE of its MONTH", x.takings(0), 1);
        x.taking(0, 20);
        x.months(1);
        x.taking(0, 60);
        Checks.read(x, "take 59 of customs;");
        C.due("30: each MONTH", x.takings(0), 1 + 4 + 8);
        C.due("30: each MONTH", x.takings(1), 50 + 10 + 1);
        Checks.read(x, "");
        C.due("30: read later in the MONTH", x.takings(1), 50 + 10 + 60);
    }

    private static void choice() {
        DebtCouncil x = new DebtCouncil();
        C.due("31: first", x.choice(1000, 0, 0, 0), DebtCouncil.BAD);
        C.due("31: first", x.choice(-1000, 0, 0, 0), DebtCouncil.BAD);
        C.due("31: second", x.choice(0, 1000, 0, 0), DebtCouncil.BAD);
        C.due("31: second", x.choice(0, -1000, 0, 0), DebtCouncil.BAD);
        C.due("31: third", x.choice(0, 0, 1000, 0), DebtCouncil.BAD);
        C.due("31: third", x.choice(0, 0, -1000, 0), DebtCouncil.BAD);
        C.due("31: sinks", x.choice(0, 0, 0, 10), DebtCouncil.BAD);
        C.due("31: sinks", x.choice(0, 0, 0, -1), DebtCouncil.BAD);
        for (int i = 0; i < 8; i++) {
            C.due("31: number", x.choice(999, i == 0 ? -999 : 999, 999, 9), i);
        }
        C.due("31: the next", x.choice(0, 0, 0, 0), DebtCouncil.FULL);
        C.due("31: the next, BAD", x.choice(0, 0, 0, 10), DebtCouncil.BAD);
        C.due("31: many(9)", x.many(9), 8);
        C.due("32: much is needed", x.choose(6993), 0xfe);
        C.due("32: too much is needed", x.choose(6994), DebtCouncil.NONE);
    }

    private static void choose() {
        DebtCouncil x = new DebtCouncil();
        C.due("32: need -1", x.choose(-1), DebtCouncil.BAD);
        C.due("32: need 10000", x.choose(10000), DebtCouncil.BAD);
        C.due("32: the SET of none", x.choose(0), 0);
        C.due("32: none HOLDS", x.choose(1), DebtCouncil.NONE);
        x.choice(100, -20, 40, 3);
        x.choice(-10, 80, 0, 1);
        x.choice(90, 60, 40, 5);
        // 0 and 1: 90, 60, 40 with 4 that sink; 2: the same with 5
        C.due("32: fewest sink", x.choose(40), 3);
        C.due("32: rows", x.many(10), 2);
        C.due("32: row", x.row(0, 0), 0);
        C.due("32: row", x.row(0, 1), -20);
        C.due("32: row", x.row(1, 0), 1);
        C.due("32: row", x.row(1, 1), 40);
        C.due("32: all", x.choose(80), 7);
        C.due("32: rows", x.many(10), 3);
        C.due("32: none", x.choose(81), DebtCouncil.NONE);
        C.due("32: rows stand", x.many(10), 3);
        C.due("32: BAD", x.choose(-1), DebtCouncil.BAD);
        C.due("32: rows stand", x.many(10), 3);
        C.due("32: none is needed", x.choose(0), 0);
        C.due("32: rows of the SET of none", x.many(10), 0);
    }

    private static void chooseOfSeveral() {
        DebtCouncil x = new DebtCouncil();
        x.choice(5, 5, 5, 1);
        x.choice(5, 6, 5, 1);
        x.choice(6, 6, 6, 1);
        x.choice(6, 9, 9, 1);
        C.due("32: the greatest least year, then the least bits", x.choose(5), 4);
        C.due("32: not one of fewer", x.choose(7), 12);
        x.choice(0, 0, 0, 0);
        C.due("32: one that sinks none and brings nothing", x.choose(0), 0);
        C.due("32: one that sinks none and brings nothing", x.choose(6), 4);
        x.choice(1, 1, 1, 0);
        C.due("32: one that sinks none and brings some", x.choose(0), 32);
    }

    private static void rows() {
        DebtCouncil x = new DebtCouncil();
        C.due("33: no ROW", x.row(0, 0), -9);
        C.due("34: no ROW", x.alterRow(0, 0, 0), -9);
        C.due("35: no ROW", x.dropRow(), DebtCouncil.NONE);
        x.choice(1, 2, 3, 0);
        x.choice(3, 2, 1, 0);
        x.choose(4);
        C.due("33: row(1, 1)", x.row(1, 1), 4);
        C.due("33: row(2, 0)", x.row(2, 0), -9);
        C.due("33: row(-1, 0)", x.row(-1, 0), -9);
        C.due("33: row(0, 2)", x.row(0, 2), -9);
        C.due("33: row(0, -1)", x.row(0, -1), -9);
        C.due("34: alterRow(2, 0, 1)", x.alterRow(2, 0, 1), -9);
        C.due("34: alterRow(-1, 0, 1)", x.alterRow(-1, 0, 1), -9);
        C.due("34: alterRow(0, 2, 1)", x.alterRow(0, 2, 1), -9);
        C.due("34: alterRow(0, -1, 1)", x.alterRow(0, -1, 1), -9);
        C.due("34: alterRow(0, 0, MIN)", x.alterRow(0, 0, Integer.MIN_VALUE), 0);
        C.due("34: it was altered", x.row(0, 0), Integer.MIN_VALUE);
        C.due("34: alterRow(0, 1, 7)", x.alterRow(0, 1, 7), 1);
        C.due("34: it was altered", x.alterRow(0, 1, 8), 7);
        C.due("34: others stand", x.row(1, 0), 1);
        C.due("35: dropRow()", x.dropRow(), 1);
        C.due("35: gone", x.row(1, 0), -9);
        C.due("35: dropRow()", x.dropRow(), 0);
        C.due("35: dropRow()", x.dropRow(), DebtCouncil.NONE);
    }

    /** Rows whose numbers are right, but that tell a CHOICE twice, or a lower one behind a higher. */
    private static void judgeRising() {
        DebtCouncil x = new DebtCouncil();
        x.choice(5, 5, 5, 0);
        x.choice(5, 5, 5, 0);
        x.choose(10);
        C.due("36: right", x.judge(10), 0);
        x.alterRow(1, 0, 0);
        C.due("36: the same twice", x.judge(10), 2);
        x.alterRow(0, 0, 1);
        C.due("36: falling", x.judge(10), 2);
    }

    private static void judge() {
        DebtCouncil x = new DebtCouncil();
        C.due("36: need -1", x.judge(-1), DebtCouncil.BAD);
        C.due("36: need 10000", x.judge(10000), DebtCouncil.BAD);
        C.due("36: no ROWS", x.judge(0), 0);
        C.due("36: no ROWS", x.judge(9999), 1);
        x.keep();
        x.choice(10, -5, 7, 0);
        x.choice(1, 2, 1, 0);
        x.choice(0, 9, 3, 0);
        C.due("36: all three", x.choose(6), 7);
        C.due("36: right", x.judge(6), 0);
        C.due("36: doesn't HOLD", x.judge(7), 4);
        x.alterRow(1, 1, -2);
        C.due("36: a wrong number", x.judge(6), 2);
        x.alterRow(1, 1, -3);
        x.alterRow(2, 0, 1);
        C.due("36: not rising", x.judge(6), 3);
        x.alterRow(2, 0, 3);
        C.due("36: no such CHOICE", x.judge(6), 3);
        x.alterRow(0, 0, -1);
        C.due("36: no such CHOICE", x.judge(6), 1);
        x.alterRow(0, 0, 0);
        x.alterRow(1, 0, 2);
        x.alterRow(1, 1, 4);
        x.dropRow();
        C.due("36: another right way", x.judge(4), 0);
        C.due("36: doesn't HOLD", x.judge(5), 3);
        x.again();
        C.due("36: the CHOICES are gone", x.judge(4), 1);
    }
}
