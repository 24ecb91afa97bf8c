/** Each number of each call: the least and the most that may stand, what lies beside these, and what lies far off. */
final class RangesTest {
    private static final int BAD = DebtCouncil.BAD;
    private static final int LOWEST = Integer.MIN_VALUE, HIGHEST = Integer.MAX_VALUE;
    private static final Checks C = new Checks();

    private interface Call {
        int on(DebtCouncil x, int v);
    }

    public static void main(String[] args) {
        provinces();
        debts();
        texts();
        prices();
        papersAndTakings();
        choices();
        sheets();
        shelves();
        C.end();
    }

    /** From least to most a number may stand in the call; others are refused, each land being made anew. */
    private static void range(String name, int least, int most, Call call) {
        range(name, least, most, BAD, BAD, call);
    }

    private static void range(String name, int least, int most, int below, int above, Call call) {
        C.due(name + " far below", call.on(Lands.some(), LOWEST), below);
        C.due(name + " " + (least - 1), call.on(Lands.some(), least - 1), below);
        stands(name, least, call);
        stands(name, least + (most - least) / 2, call);
        stands(name, most, call);
        C.due(name + " " + (most + 1), call.on(Lands.some(), most + 1), above);
        C.due(name + " far above", call.on(Lands.some(), HIGHEST), above);
    }

    private static void stands(String name, int v, Call call) {
        int answer = call.on(Lands.some(), v);
        boolean isRefusal = answer <= -1 && answer >= -4 || answer <= -11 && answer >= -15 || answer == -9;
        C.due(name + " " + v + " answered " + answer + ", a refusal", isRefusal ? 1 : 0, 0);
    }

    private static void provinces() {
        range("2: n", 1, 60, (x, v) -> x.months(v));
        range("3: PAY", 0, 99, (x, v) -> x.province(v, 1));
        range("3: PATIENCE", 1, 12, (x, v) -> x.province(0, v));
        range("4: PROVINCE", 0, 2, (x, v) -> x.yield1(v, 0, 0));
        range("4: SORT", 0, 2, (x, v) -> x.yield1(0, v, 0));
        range("4: YIELD", 0, 999, (x, v) -> x.yield1(0, 0, v));
        range("5: PROVINCE", 0, 2, (x, v) -> x.yields(v, 0, 0));
        range("5: place", 0, 1, -12, -12, (x, v) -> x.yields(0, 0, v == 2 ? 3 : v));
        range("6: PROVINCE", 0, 2, (x, v) -> x.guards(v, 0));
        range("6: GUARDS", 0, 9, (x, v) -> x.guards(0, v));
        range("7: SORT", 0, 2, (x, v) -> x.rate(v, 0));
        range("7: RATE", 0, 100, (x, v) -> x.rate(0, v));
        range("8: month", 0, 11, (x, v) -> x.harvest(v, 0));
        range("8: HARVEST", 0, 200, (x, v) -> x.harvest(0, v));
        range("9: PROVINCE", 0, 2, (x, v) -> x.gather(v, 0, 0, 0));
        range("9: SORT", 0, 2, (x, v) -> x.gather(0, v, 0, 0));
        range("9: MONTH", 0, 599, (x, v) -> x.gather(0, 0, v, 0));
        range("9: what", 0, 2, (x, v) -> x.gather(0, 0, 0, v));
        range("10: SORT", 0, 2, (x, v) -> x.bestRate(v, 0, 0));
        range("10: MONTH", 0, 599, (x, v) -> x.bestRate(0, v, 0));
        range("10: what", 0, 1, (x, v) -> x.bestRate(0, 0, v));
        range("11: n", 0, 40, (x, v) -> x.least(v, 0, 0));
        range("11: MONTH", 0, 599, (x, v) -> x.least(1, v, 0));
        range("11: what", -1, 2, (x, v) -> x.least(1, 0, v));
        range("12: PROVINCE", 0, 2, (x, v) -> x.provinceOf(v, 0));
        range("12: what", 0, 4, (x, v) -> x.provinceOf(0, v));
    }

    private static void debts() {
        range("13: HOUSE", 0, 4, (x, v) -> x.debt(v, 100, 1));
        range("13: SUM", 1, 999, (x, v) -> x.debt(0, 100, v));
        range("13: EVERY", 1, 12, (x, v) -> x.debt(0, 100 * v, 1));
        range("13: FORM", 0, 3, (x, v) -> x.debt(0, v < 0 ? v : 100 + 10 * (v > 9 ? 9 : v), 1));
        range("13: SORT", 0, 2, (x, v) -> x.debt(0, v < 0 ? v : 100 + (v > 9 ? 9 : v), 1));
        for (int how = -1300; how <= 1500; how++) {
            boolean isTold = how >= 100 && how < 1300 && how / 10 % 10 <= 3 && how % 10 <= 2;
            C.due("13: how " + how, new DebtCouncil().debt(0, how, 1), isTold ? 0 : BAD);
        }
        range("14: DEBT", 0, 5, (x, v) -> x.debtOf(v, 0, 0));
        range("14: MONTH", 0, 599, (x, v) -> x.debtOf(0, v, 6));
        range("14: what", 0, 12, (x, v) -> x.debtOf(0, 0, v));
        range("15: DEBT", 0, 5, (x, v) -> x.voids(v == 2 ? 3 : v));
        range("19: DEBT", 0, 5, (x, v) -> x.why(v, 6, 1));
        range("19: MONTH", 3, 599, DebtCouncil.NONE, BAD, (x, v) -> x.why(0, v < 0 ? 1 : v, 1));
        C.due("19: MONTH -1", Lands.some().why(0, -1, 0), BAD);
        C.due("19: MONTH far below", Lands.some().why(0, LOWEST, 0), BAD);
        range("19: what", 0, 2, (x, v) -> x.why(4, 6, v));
        range("20: DEBT", 0, 5, (x, v) -> x.gets(v, 0, 0));
        range("20: MONTH", 0, 599, (x, v) -> x.gets(0, v, 0));
        range("20: POT", 0, 9999, (x, v) -> x.gets(0, 0, v));
    }

    private static void texts() {
        range("16: n", 1, 8, (x, v) -> x.feed(-1L, v));
        range("18: VERSION", 0, 1, -9, -9, (x, v) -> x.line(v, 0, 0));
        range("18: LINE of the first", 0, 5, -9, -9, (x, v) -> x.line(0, v, 0));
        range("18: LINE of the second", 0, 3, -9, -9, (x, v) -> x.line(1, v, 0));
        range("18: what", 0, 3, -9, -9, (x, v) -> x.line(0, 4, v));
        number("rank ", ";", 9);
        number("cut ", ";", 100);
        number("spare ", ";", 100);
        number("take ", " of salt;", 999);
        for (String fact : new String[] {"form", "house", "sum", "every", "owed", "since"}) {
            for (String sign : new String[] {"<", "=", ">"}) {
                number("bar if " + fact + sign, ";", 999);
            }
        }
    }

    /** Every NUMBER of one to four digits: from 0 to most it may stand, in three digits at most. */
    private static void number(String ahead, String behind, int most) {
        int fault = -100 - ahead.length();
        for (int v = 0; v <= 1001; v++) {
            C.due("17: " + ahead + v, Checks.readOf(ahead + v + behind), v <= most ? 0 : fault);
        }
        C.due("17: " + ahead + "000", Checks.readOf(ahead + "000" + behind), 0);
        C.due("17: " + ahead + "007", Checks.readOf(ahead + "007" + behind), 0);
        C.due("17: " + ahead + "0000", Checks.readOf(ahead + "0000" + behind), fault);
        C.due("17: " + ahead + "0001", Checks.readOf(ahead + "0001" + behind), fault);
        C.due("17: " + ahead + "4294967296", Checks.readOf(ahead + "4294967296" + behind), fault);
        C.due("17: " + ahead + "-1", Checks.readOf(ahead + "-1" + behind), fault);
        C.due("17: " + ahead, Checks.readOf(ahead + behind), fault - (behind.startsWith(" ") ? 1 : 0));
    }

    private static void prices() {
        range("21: HOUSE", 0, 4, (x, v) -> x.lag(v, 0));
        range("21: LAG", 0, 6, (x, v) -> x.lag(0, v));
        range("22: HOUSE", 0, 4, (x, v) -> x.knows(v, 0));
        range("22: DEBT", 0, 1, BAD, BAD, (x, v) -> x.knows(0, v == 2 ? 6 : v));
        range("23: SUM", 1, 999, (x, v) -> x.swap(0, v == 1 || v == 500 ? 999 : v, 1));
        range("23: EVERY", 1, 12, (x, v) -> x.swap(0, 999, v));
        range("24: EVERY", 1, 12, (x, v) -> x.offer(0, v));
        range("25: PROVINCE", 0, 2, (x, v) -> x.railway(v, 1, 1));
        range("25: MILES", 0, 400, (x, v) -> x.railway(0, v, 1));
        range("25: GUARANTEE", 1, 99, (x, v) -> x.railway(0, 1, v));
        range("26: RAILWAY", 0, 1, (x, v) -> x.railwayOf(v, 0));
        range("26: what", 0, 2, (x, v) -> x.railwayOf(1, v));
    }

    private static void papersAndTakings() {
        range("27: BOOK", 0, 1, (x, v) -> x.paper(v, 1, 0, 0));
        range("27: SUM", 1, 999, (x, v) -> x.paper(0, v, 0, 0));
        range("27: told", 0, 49, (x, v) -> x.paper(0, 1, v, 0));
        range("27: MONTH", 0, 599, (x, v) -> x.paper(0, 1, 0, v));
        range("28: what", -3, 2, (x, v) -> x.bills(v));
        range("29: SORT", 0, 2, (x, v) -> x.taking(v, 1));
        range("29: sum", 1, 999, (x, v) -> x.taking(0, v));
        range("30: what", 0, 1, (x, v) -> x.takings(v));
    }

    private static void choices() {
        range("31: first YEAR", -999, 999, (x, v) -> x.choice(v, 0, 0, 0));
        range("31: second YEAR", -999, 999, (x, v) -> x.choice(0, v, 0, 0));
        range("31: third YEAR", -999, 999, (x, v) -> x.choice(0, 0, v, 0));
        range("31: sinks", 0, 9, (x, v) -> x.choice(0, 0, 0, v));
        range("32: NEED", 0, 9999, (x, v) -> x.choose(v > 0 && v <= 9999 ? 1 : v));
        C.due("32: NEED 9999", Lands.some().choose(9999), DebtCouncil.NONE);
        range("33: ROW", 0, 1, -9, -9, (x, v) -> x.row(v, 0));
        range("33: what", 0, 1, -9, -9, (x, v) -> x.row(0, v));
        range("34: ROW", 0, 1, -9, -9, (x, v) -> x.alterRow(v, 0, 9));
        range("34: what", 0, 1, -9, -9, (x, v) -> x.alterRow(0, v, 9));
        range("36: NEED", 0, 9999, (x, v) -> x.judge(v));
        for (int v : new int[] {LOWEST, -1, 0, 1, HIGHEST}) {
            DebtCouncil x = Lands.some();
            C.due("34: v " + v, x.alterRow(0, 1, v), 5);
            C.due("34: v " + v, x.row(0, 1), v);
        }
    }

    private static void sheets() {
        range("37: SHEET", 0, 3, (x, v) -> x.sheet(v, 0, 1));
        range("37: sort", -1, 4, (x, v) -> x.sheet(0, v, 1));
        range("37: n", 0, 40, -14, BAD, (x, v) -> x.sheet(0, 2, v));
        for (int v : new int[] {LOWEST, -1, 0, 40, 41, HIGHEST}) {
            DebtCouncil x = Lands.some();
            C.due("37: missing, n " + v + " isn't looked at", x.sheet(0, -1, v), 1);
            C.due("37: missing", x.item(0, 1, 0), -11);
        }
        range("38: place", 0, 4, -12, -12, (x, v) -> x.put(0, v, 1));
        range("39: place", 0, 4, -12, -12, (x, v) -> x.item(0, 1, v));
        for (int v : new int[] {LOWEST, -1, 4, HIGHEST}) {
            C.due("5: SHEET " + v, Lands.some().yields(0, v, 0), BAD);
            C.due("38: SHEET " + v, Lands.some().put(v, 0, 0), BAD);
            C.due("39: SHEET " + v, Lands.some().item(v, 0, 0), BAD);
        }
        for (int v : new int[] {LOWEST, -1, 5, HIGHEST}) {
            C.due("39: sort " + v, Lands.some().item(0, v, 0), BAD);
        }
        DebtCouncil full = new DebtCouncil();
        full.sheet(3, 2, 40);
        C.due("38: the fortieth", full.put(3, 39, 77), 1);
        C.due("38: the forty-first", full.put(3, 40, 77), -12);
        C.due("39: the fortieth", full.item(3, 2, 39), 77);
        C.due("39: the forty-first", full.item(3, 2, 40), -12);
        full.sheet(3, 2, 0);
        C.due("38: of an empty row", full.put(3, 0, 77), -12);
        C.due("39: of an empty row", full.item(3, 2, 0), -12);
    }

    private static void shelves() {
        range("40: SHELF", 0, 3, (x, v) -> x.shelf(v, 3, 0));
        range("40: what", 0, 3, (x, v) -> x.shelf(0, v, 0));
        range("40: DEBT", 0, 5, (x, v) -> x.shelf(0, 0, v));
        range("40: PAPER", 0, 2, (x, v) -> x.shelf(0, 1, v));
        range("40: SHEET", 0, 3, (x, v) -> x.shelf(0, 2, v));
        for (int v : new int[] {LOWEST, -1, 0, 99, HIGHEST}) {
            C.due("40: nothing, n " + v, Lands.some().shelf(0, 3, v), 1);
        }
        for (int as = -3; as <= 20; as++) {
            boolean isTold = as >= 0 && as <= 6 || as >= 10 && as <= 14;
            C.due("41: nothing as " + as, Lands.some().taken(3, as), isTold ? -11 : BAD);
        }
        for (int v : new int[] {LOWEST, -1, 4, HIGHEST}) {
            C.due("41: SHELF " + v, Lands.some().taken(v, 0), BAD);
            C.due("42: SHELF " + v, Lands.some().deal(v, 0, 1), 0);
            C.due("42: DEAL " + v, Lands.some().deal(0, v, 1), 0);
        }
        C.due("41: as far below", Lands.some().taken(0, LOWEST), BAD);
        C.due("41: as far above", Lands.some().taken(0, HIGHEST), BAD);
        int bodies = Lands.some().many(13);
        range("43: body", 0, bodies - 1, DebtCouncil.NONE, DebtCouncil.NONE, (x, v) -> x.trace(v));
        range("44: what", 0, 14, (x, v) -> x.many(v));
    }
}
