/** Promises 21 to 26: lags, prices, swaps, railways. */
final class PricesTest {
    private static final Checks C = new Checks();

    public static void main(String[] args) {
        lag();
        prices();
        knows();
        swap();
        swapFull();
        offer();
        railway();
        railwayOf();
        bears();
        C.end();
    }

    private static void lag() {
        DebtCouncil x = new DebtCouncil();
        C.due("21: lag(4, 6)", x.lag(4, 6), 0);
        C.due("21: lag(4, 7)", x.lag(4, 7), DebtCouncil.BAD);
        C.due("21: lag(4, -1)", x.lag(4, -1), DebtCouncil.BAD);
        C.due("21: lag(5, 0)", x.lag(5, 0), DebtCouncil.BAD);
        C.due("21: lag(-1, 0)", x.lag(-1, 0), DebtCouncil.BAD);
        C.due("21: lag(4, 0)", x.lag(4, 0), 6);
        C.due("21: lag(3, 0)", x.lag(3, 0), 0);
    }

    private static void prices() {
        DebtCouncil x = new DebtCouncil();
        x.debt(0, 1200, 1);
        x.debt(0, 100, 1);
        x.months(11);
        C.due("3 (4): nothing is OWED", x.debtOf(0, 0, 11), 72);
        C.due("3 (4): 0 at least", x.debtOf(1, 0, 11), 0);
        x.months(1);
        C.due("3 (4): OWED", x.debtOf(0, 0, 11), 67);
        x.province(0, 1);
        x.yield1(0, 0, 999);
        x.months(1);
        C.due("3 (4): paid", x.debtOf(0, 0, 11), 69);
        C.due("3 (4): paid", x.debtOf(1, 0, 11), 2);
        x.months(60);
        C.due("3 (4): 100 at most", x.debtOf(0, 0, 11), 100);
        x.voids(0);
        x.yield1(0, 0, 0);
        x.months(3);
        C.due("3 (4): VOID", x.debtOf(0, 0, 11), 100);
    }

    private static void knows() {
        DebtCouncil x = new DebtCouncil();
        x.debt(0, 110, 1);
        C.due("22: no bond", x.knows(0, 0), DebtCouncil.STATE);
        C.due("22: no DEBT", x.knows(0, 1), DebtCouncil.BAD);
        C.due("22: no DEBT", x.knows(0, -1), DebtCouncil.BAD);
        C.due("22: no HOUSE", x.knows(5, 0), DebtCouncil.BAD);
        C.due("22: no HOUSE", x.knows(-1, 0), DebtCouncil.BAD);
        x.months(2);
        x.debt(0, 1200, 1);
        x.months(3);
        // 50 in month 2, 52, 54, 56 in month 5
        int[] ago = {56, 54, 52, 50, 50, 50, 50};
        for (int lag = 0; lag <= 6; lag++) {
            x.lag(3, lag);
            C.due("22: LAG " + lag, x.knows(3, 1), ago[lag]);
        }
        C.due("22: another HOUSE", x.knows(2, 1), 56);
        x.voids(1);
        x.months(2);
        C.due("22: a VOID one, ahead of its time", x.knows(3, 1), 50);
        x.lag(3, 3);
        C.due("22: a VOID one of ahead of when it became so", x.knows(3, 1), 54);
        x.lag(3, 2);
        C.due("22: a VOID one of when it became so", x.knows(3, 1), 56);
    }

    private static void swap() {
        DebtCouncil x = new DebtCouncil();
        x.debt(3, 702, 100);
        x.debt(3, 112, 100);
        C.due("23: no DEBT", x.swap(2, 1, 1), DebtCouncil.BAD);
        C.due("23: no DEBT", x.swap(-1, 1, 1), DebtCouncil.BAD);
        C.due("23: sum 0", x.swap(0, 0, 1), DebtCouncil.BAD);
        C.due("23: sum 1000", x.swap(0, 1000, 1), DebtCouncil.BAD);
        C.due("23: every 0", x.swap(0, 9, 0), DebtCouncil.BAD);
        C.due("23: every 13", x.swap(0, 9, 13), DebtCouncil.BAD);
        C.due("23: a bad number ahead of no bond", x.swap(1, 9, 13), DebtCouncil.BAD);
        C.due("23: no bond", x.swap(1, 999, 1), DebtCouncil.STATE);
        // 100 * 50 / 7 = 714; 49 * 100 / 7 = 700, 50 * 100 / 7 = 714 (both cut)
        C.due("23: not taken", x.swap(0, 49, 7), DebtCouncil.STATE);
        x.months(1);
        x.months(5);
        x.lag(3, 6);
        C.due("23: taken", x.swap(0, 50, 7), 2);
        C.due("23: VOID", x.debtOf(0, 0, 10), 1);
        int[] due = {0, 3, 2, 50, 7, 0, 9, 0, 0, 0, 0, 50, 0};
        for (int what = 0; what < due.length; what++) {
            C.due("23: the new one, " + what, x.debtOf(2, 6, what), due[what]);
        }
        C.due("23: falls from now on", x.debtOf(2, 13, 9), 50);
        C.due("23: VOID", x.swap(0, 999, 1), DebtCouncil.STATE);
    }

    private static void swapFull() {
        DebtCouncil x = new DebtCouncil();
        for (int i = 0; i < 16; i++) {
            x.debt(0, 100, 10);
        }
        C.due("23: STATE ahead of FULL", x.swap(0, 1, 1), DebtCouncil.STATE);
        C.due("23: FULL", x.swap(0, 10, 1), DebtCouncil.FULL);
        C.due("23: nothing changed", x.debtOf(0, 0, 10), 0);
    }

    private static void offer() {
        DebtCouncil x = new DebtCouncil();
        x.debt(0, 300, 100);
        x.debt(0, 130, 100);
        x.debt(1, 100, 999);
        C.due("24: no DEBT", x.offer(3, 1), DebtCouncil.BAD);
        C.due("24: every 0", x.offer(0, 0), DebtCouncil.BAD);
        C.due("24: every 13", x.offer(0, 13), DebtCouncil.BAD);
        C.due("24: BAD ahead of STATE", x.offer(1, 13), DebtCouncil.BAD);
        C.due("24: no bond", x.offer(1, 1), DebtCouncil.STATE);
        // 100 * 50 / 3 = 1666
        C.due("24: offer(0, 1)", x.offer(0, 1), 17);
        C.due("24: offer(0, 2)", x.offer(0, 2), 34);
        C.due("24: offer(0, 3)", x.offer(0, 3), 50);
        C.due("24: offer(2, 2)", x.offer(2, 2), 999);
        C.due("24: none", x.offer(2, 3), DebtCouncil.NONE);
        x.months(10);
        C.due("24: worth nothing", x.offer(2, 12), 1);
        x.voids(0);
        C.due("24: VOID", x.offer(0, 1), DebtCouncil.STATE);
    }

    private static void railway() {
        DebtCouncil x = new DebtCouncil();
        C.due("25: no PROVINCE", x.railway(0, 1, 1), DebtCouncil.BAD);
        x.province(0, 1);
        C.due("25: miles -1", x.railway(0, -1, 1), DebtCouncil.BAD);
        C.due("25: miles 401", x.railway(0, 401, 1), DebtCouncil.BAD);
        C.due("25: guarantee 0", x.railway(0, 1, 0), DebtCouncil.BAD);
        C.due("25: guarantee 100", x.railway(0, 1, 100), DebtCouncil.BAD);
        for (int i = 0; i < 6; i++) {
            C.due("25: number", x.railway(0, 400 * (i % 2), i < 3 ? 1 : 99), i);
        }
        C.due("25: the seventh", x.railway(0, 1, 1), DebtCouncil.FULL);
        C.due("25: the seventh, BAD", x.railway(0, 1, 0), DebtCouncil.BAD);
        C.due("25: many(6)", x.many(6), 6);
    }

    private static void railwayOf() {
        DebtCouncil x = new DebtCouncil();
        C.due("26: no RAILWAY", x.railwayOf(0, 0), DebtCouncil.BAD);
        x.province(0, 1);
        x.province(0, 1);
        x.yield1(1, 0, 10);
        x.yield1(1, 1, 20);
        x.yield1(1, 2, 3);
        x.harvest(4, 50);
        x.harvest(5, 199);
        x.railway(1, 39, 40);
        x.railway(1, 9, 1);
        // 33 in ten months, 16 and 65: 411 for each 10 miles
        C.due("26: earns", x.railwayOf(0, 0), 1233);
        C.due("26: above", x.railwayOf(0, 1), 327);
        C.due("26: earns nothing", x.railwayOf(1, 0), 0);
        C.due("26: above", x.railwayOf(1, 1), 9);
        C.due("26: no what", x.railwayOf(0, 3), DebtCouncil.BAD);
        C.due("26: no what", x.railwayOf(0, -1), DebtCouncil.BAD);
        C.due("26: no RAILWAY", x.railwayOf(2, 0), DebtCouncil.BAD);
        C.due("26: no RAILWAY", x.railwayOf(-1, 0), DebtCouncil.BAD);
        x.yield1(1, 0, 900);
        C.due("26: 0 at least", x.railwayOf(0, 1), 0);
    }

    private static int bearsWith(int yield, int guarantee) {
        DebtCouncil x = new DebtCouncil();
        x.province(0, 1);
        x.yield1(0, 0, yield);
        x.railway(0, 0, guarantee);
        return x.railwayOf(0, 2);
    }

    private static void bears() {
        // with y of a month 10 miles earn 12 * y; with 9 miles more than a ten the guarantee is for all of them
        C.due("26: none", bearsWith(1, 2), DebtCouncil.NONE);
        C.due("26: just at 400", bearsWith(10, 12), 400);
        C.due("26: 12 * 10 * k >= 11 * (10 * k + 9) with k 10 and more", bearsWith(10, 11), 100);
        C.due("26: much", bearsWith(999, 1), 10);
    }
}
