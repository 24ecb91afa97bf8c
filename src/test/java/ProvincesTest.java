/** Promises 1 to 12: a new object, months, provinces, revenues, guards. */
final class ProvincesTest {
    private static final Checks C = new Checks();

    public static void main(String[] args) {
        newObject();
        months();
        province();
        yield1();
        yields();
        yieldsNotAsTold();
        guards();
        rate();
        harvest();
        gather();
        bestRate();
        least();
        leastOfSeveral();
        leastOfMany();
        provinceOf();
        garrisons();
        C.end();
    }

    private static void newObject() {
        DebtCouncil x = new DebtCouncil();
        for (int what = 0; what <= 14; what++) {
            C.due("1: many(" + what + ")", x.many(what), 0);
        }
        C.due("1: again()", x.again(), DebtCouncil.NONE);
        C.due("1: dropRow()", x.dropRow(), DebtCouncil.NONE);
        C.due("1: trace(0)", x.trace(0), DebtCouncil.NONE);
        C.due("1: taken(0, 0)", x.taken(0, 0), -11);
        C.due("1: item(0, 0, 0)", x.item(0, 0, 0), -11);
        C.due("1: harvest(11, 0)", x.harvest(11, 0), 100);
        C.due("1: rate(2, 0)", x.rate(2, 0), 10);
        C.due("1: lag(4, 0)", x.lag(4, 0), 0);
    }

    private static void months() {
        DebtCouncil x = new DebtCouncil();
        C.due("2: months(0)", x.months(0), DebtCouncil.BAD);
        C.due("2: months(61)", x.months(61), DebtCouncil.BAD);
        C.due("2: months(MIN)", x.months(Integer.MIN_VALUE), DebtCouncil.BAD);
        C.due("2: months(MAX)", x.months(Integer.MAX_VALUE), DebtCouncil.BAD);
        for (int i = 1; i <= 9; i++) {
            C.due("2: months(60)", x.months(60), 60 * i);
        }
        C.due("2: months(60)", x.months(60), DebtCouncil.STATE);
        C.due("2: many(0)", x.many(0), 540);
        C.due("2: months(59)", x.months(59), 599);
        C.due("2: months(1)", x.months(1), DebtCouncil.STATE);
        C.due("2: months(0)", x.months(0), DebtCouncil.BAD);
        C.due("2: many(0)", x.many(0), 599);
    }

    private static void province() {
        DebtCouncil x = new DebtCouncil();
        C.due("3: province(-1, 1)", x.province(-1, 1), DebtCouncil.BAD);
        C.due("3: province(100, 1)", x.province(100, 1), DebtCouncil.BAD);
        C.due("3: province(0, 0)", x.province(0, 0), DebtCouncil.BAD);
        C.due("3: province(0, 13)", x.province(0, 13), DebtCouncil.BAD);
        for (int i = 0; i < 8; i++) {
            C.due("3: province", x.province(i == 0 ? 99 : 0, i == 0 ? 12 : 1), i);
        }
        C.due("3: the ninth", x.province(0, 1), DebtCouncil.FULL);
        C.due("3: the ninth, BAD", x.province(0, 13), DebtCouncil.BAD);
        C.due("3: many(1)", x.many(1), 8);
        C.due("3: PAY", x.provinceOf(0, 2), 99);
        C.due("3: PATIENCE", x.provinceOf(0, 3), 12);
    }

    private static void yield1() {
        DebtCouncil x = new DebtCouncil();
        C.due("4: no province", x.yield1(0, 0, 1), DebtCouncil.BAD);
        x.province(0, 1);
        C.due("4: yield1(0, 2, 999)", x.yield1(0, 2, 999), 0);
        C.due("4: yield1(0, 2, 1000)", x.yield1(0, 2, 1000), DebtCouncil.BAD);
        C.due("4: yield1(0, 2, -1)", x.yield1(0, 2, -1), DebtCouncil.BAD);
        C.due("4: yield1(0, 3, 1)", x.yield1(0, 3, 1), DebtCouncil.BAD);
        C.due("4: yield1(0, -1, 1)", x.yield1(0, -1, 1), DebtCouncil.BAD);
        C.due("4: yield1(-1, 0, 1)", x.yield1(-1, 0, 1), DebtCouncil.BAD);
        C.due("4: yield1(1, 0, 1)", x.yield1(1, 0, 1), DebtCouncil.BAD);
        C.due("4: yield1(0, 2, 0)", x.yield1(0, 2, 0), 999);
        C.due("4: yield1(0, 1, 0)", x.yield1(0, 1, 0), 0);
    }

    private static void yields() {
        DebtCouncil x = new DebtCouncil();
        x.province(0, 1);
        x.sheet(0, 1, 5);
        C.due("5: no province", x.yields(1, 0, 0), DebtCouncil.BAD);
        C.due("5: no sheet", x.yields(0, 4, 0), DebtCouncil.BAD);
        C.due("5: no sheet", x.yields(0, -1, 0), DebtCouncil.BAD);
        C.due("5: missing", x.yields(0, 3, 0), -11);
        for (int sort = 0; sort <= 4; sort++) {
            x.sheet(1, sort, 3);
            C.due("5: sort " + sort, x.yields(0, 1, 0), sort == 1 ? 1 : -13);
            C.due("5: sort ahead of place " + sort, x.yields(0, 1, 9), sort == 1 ? -12 : -13);
        }
        x.put(0, 2, 7);
        x.put(0, 3, 999);
        C.due("5: yields(0, 0, 2)", x.yields(0, 0, 2), 1);
        C.due("5: first", x.yield1(0, 0, 7), 7);
        C.due("5: second", x.yield1(0, 1, 999), 999);
        C.due("5: third", x.yield1(0, 2, 0), 0);
        C.due("5: behind", x.yields(0, 0, 3), -12);
        C.due("5: ahead", x.yields(0, 0, -1), -12);
        C.due("5: far", x.yields(0, 0, Integer.MAX_VALUE), -12);
        C.due("5: far", x.yields(0, 0, Integer.MIN_VALUE), -12);
        x.put(0, 4, 1000);
        C.due("5: above", x.yields(0, 0, 2), DebtCouncil.STATE);
        C.due("5: place ahead of state", x.yields(0, 0, 4), -12);
        x.put(0, 4, -1);
        x.put(0, 2, 55);
        C.due("5: below", x.yields(0, 0, 2), DebtCouncil.STATE);
        C.due("5: nothing changed", x.yield1(0, 0, 0), 7);
        x.put(0, 4, 65536 + 8);
        C.due("5: narrowed", x.yields(0, 0, 2), 1);
        C.due("5: narrowed", x.yield1(0, 2, 0), 8);
    }

    private static void yieldsNotAsTold() {
        for (int at = 0; at < 3; at++) {
            for (int v : new int[] {-32768, -1, 0, 999, 1000, 32767}) {
                DebtCouncil x = new DebtCouncil();
                x.province(0, 1);
                for (int sort = 0; sort < 3; sort++) {
                    x.yield1(0, sort, 11 + sort);
                }
                x.sheet(2, 1, 4);
                for (int i = 1; i <= 3; i++) {
                    x.put(2, i, i == at + 1 ? v : 500 + i);
                }
                boolean isTold = v >= 0 && v <= 999;
                C.due("5: item " + at + " is " + v, x.yields(0, 2, 1), isTold ? 1 : DebtCouncil.STATE);
                for (int sort = 0; sort < 3; sort++) {
                    int due = !isTold ? 11 + sort : sort == at ? v : 501 + sort;
                    C.due("5: YIELD of SORT " + sort, x.yield1(0, sort, 0), due);
                }
            }
        }
    }

    private static void guards() {
        DebtCouncil x = new DebtCouncil();
        C.due("6: no province", x.guards(0, 0), DebtCouncil.BAD);
        x.province(0, 1);
        C.due("6: guards(0, 9)", x.guards(0, 9), 0);
        C.due("6: guards(0, 10)", x.guards(0, 10), DebtCouncil.BAD);
        C.due("6: guards(0, -1)", x.guards(0, -1), DebtCouncil.BAD);
        C.due("6: guards(-1, 1)", x.guards(-1, 1), DebtCouncil.BAD);
        C.due("6: guards(0, 0)", x.guards(0, 0), 9);
        C.due("6: provinceOf", x.provinceOf(0, 4), 0);
    }

    private static void rate() {
        DebtCouncil x = new DebtCouncil();
        C.due("7: rate(0, 100)", x.rate(0, 100), 10);
        C.due("7: rate(0, 101)", x.rate(0, 101), DebtCouncil.BAD);
        C.due("7: rate(0, -1)", x.rate(0, -1), DebtCouncil.BAD);
        C.due("7: rate(3, 1)", x.rate(3, 1), DebtCouncil.BAD);
        C.due("7: rate(-1, 1)", x.rate(-1, 1), DebtCouncil.BAD);
        C.due("7: rate(0, 0)", x.rate(0, 0), 100);
        C.due("7: rate(1, 0)", x.rate(1, 0), 10);
    }

    private static void harvest() {
        DebtCouncil x = new DebtCouncil();
        C.due("8: harvest(0, 200)", x.harvest(0, 200), 100);
        C.due("8: harvest(0, 201)", x.harvest(0, 201), DebtCouncil.BAD);
        C.due("8: harvest(0, -1)", x.harvest(0, -1), DebtCouncil.BAD);
        C.due("8: harvest(-1, 1)", x.harvest(-1, 1), DebtCouncil.BAD);
        C.due("8: harvest(12, 1)", x.harvest(12, 1), DebtCouncil.BAD);
        C.due("8: harvest(0, 0)", x.harvest(0, 0), 200);
        C.due("8: harvest(11, 0)", x.harvest(11, 0), 100);
    }

    private static void gather() {
        DebtCouncil x = new DebtCouncil();
        x.province(0, 1);
        x.yield1(0, 1, 333);
        x.rate(1, 37);
        x.harvest(5, 77);
        x.guards(0, 3);
        // 333 * 77 / 100 = 256; 256 * 37 / 100 = 94; 94 * 37 / 100 = 34; 34 * 7 / 10 = 23
        C.due("9: DUE", x.gather(0, 1, 17, 0), 94);
        C.due("9: ROUND", x.gather(0, 1, 17, 1), 23);
        C.due("9: GATHERED", x.gather(0, 1, 17, 2), 71);
        C.due("9: another month", x.gather(0, 1, 599, 0), 123);
        C.due("9: another sort", x.gather(0, 0, 17, 0), 0);
        C.due("9: no province", x.gather(1, 1, 17, 0), DebtCouncil.BAD);
        C.due("9: no sort", x.gather(0, 3, 17, 0), DebtCouncil.BAD);
        C.due("9: no month", x.gather(0, 1, 600, 0), DebtCouncil.BAD);
        C.due("9: no month", x.gather(0, 1, -1, 0), DebtCouncil.BAD);
        C.due("9: no what", x.gather(0, 1, 17, 3), DebtCouncil.BAD);
        C.due("9: no what", x.gather(0, 1, 17, -1), DebtCouncil.BAD);
    }

    private static void bestRate() {
        DebtCouncil x = new DebtCouncil();
        C.due("10: no provinces", x.bestRate(0, 0, 0), 0);
        C.due("10: no provinces", x.bestRate(0, 0, 1), 0);
        x.province(0, 1);
        x.yield1(0, 0, 100);
        // without guards r less r * r / 100, cut: 25 at most, and first with 41 (41 - 16)
        C.due("10: the rate", x.bestRate(0, 0, 0), 41);
        C.due("10: gathered", x.bestRate(0, 0, 1), 25);
        x.guards(0, 9);
        C.due("10: with guards", x.bestRate(0, 0, 0), 99);
        C.due("10: with guards", x.bestRate(0, 0, 1), 90);
        C.due("10: the RATE stands", x.rate(0, 10), 10);
        x.province(99, 1);
        x.months(1);
        x.yield1(1, 0, 999);
        C.due("10: mutiny", x.provinceOf(1, 1), 1);
        C.due("10: not those in mutiny", x.bestRate(0, 0, 1), 90);
        C.due("10: no sort", x.bestRate(3, 0, 0), DebtCouncil.BAD);
        C.due("10: no month", x.bestRate(0, 600, 0), DebtCouncil.BAD);
        C.due("10: no what", x.bestRate(0, 0, 2), DebtCouncil.BAD);
        C.due("10: no what", x.bestRate(0, 0, -1), DebtCouncil.BAD);
    }

    private static void least() {
        DebtCouncil x = new DebtCouncil();
        C.due("11: no provinces", x.least(40, 0, -1), 0);
        C.due("11: no provinces", x.least(40, 0, 0), DebtCouncil.BAD);
        x.province(0, 1);
        x.province(0, 1);
        x.yield1(0, 0, 100);
        x.yield1(1, 0, 200);
        x.rate(0, 100);
        x.guards(0, 9);
        C.due("11: 0 guards", x.least(0, 0, -1), 300);
        C.due("11: 5 guards", x.least(5, 0, -1), 200);
        C.due("11: 5 guards", x.least(5, 0, 0), 0);
        C.due("11: 5 guards", x.least(5, 0, 1), 5);
        C.due("11: 12 guards", x.least(12, 0, 1), 9);
        C.due("11: 12 guards", x.least(12, 0, 0), 3);
        C.due("11: 40 guards", x.least(40, 0, -1), 30);
        C.due("11: 40 guards", x.least(40, 0, 0), 9);
        C.due("11: those that are there stand", x.provinceOf(1, 4), 0);
        C.due("11: -1 guards", x.least(-1, 0, -1), DebtCouncil.BAD);
        C.due("11: 41 guards", x.least(41, 0, -1), DebtCouncil.BAD);
        C.due("11: no month", x.least(0, 600, -1), DebtCouncil.BAD);
        C.due("11: no province", x.least(0, 0, 2), DebtCouncil.BAD);
        C.due("11: no what", x.least(0, 0, -2), DebtCouncil.BAD);
    }

    private static void leastOfSeveral() {
        DebtCouncil x = new DebtCouncil();
        for (int i = 0; i < 3; i++) {
            x.province(0, 1);
            x.yield1(i, 2, 10);
        }
        x.rate(2, 100);
        C.due("11: first more", x.least(12, 0, 0), 9);
        C.due("11: first more", x.least(12, 0, 1), 3);
        C.due("11: first more", x.least(12, 0, 2), 0);
        x.yield1(0, 2, 0);
        C.due("11: fewest", x.least(40, 0, 0), 0);
        C.due("11: fewest", x.least(40, 0, 1), 9);
        // of 1 that goes round one guard keeps all, and nine keep no more
        x.yield1(1, 2, 1);
        C.due("11: fewest", x.least(40, 0, 1), 1);
        C.due("11: by harvest", x.harvest(1, 0), 100);
        C.due("11: by harvest", x.least(40, 13, 1), 0);
        x.province(50, 1);
        x.yield1(3, 2, 100);
        x.months(1);
        C.due("11: mutiny", x.provinceOf(3, 1), 1);
        C.due("11: those in mutiny, too", x.least(9, 0, 3), 9);
    }

    private static void leastOfMany() {
        DebtCouncil x = new DebtCouncil();
        x.rate(1, 100);
        for (int i = 0; i < 8; i++) {
            x.province(0, 1);
            x.yield1(i, 1, 100);
        }
        int[] due = {9, 9, 9, 9, 4, 0, 0, 0};
        for (int i = 0; i < 8; i++) {
            C.due("11: all 40 are laid, PROVINCE " + i, x.least(40, 0, i), due[i]);
        }
        C.due("11: all 40 are laid", x.least(40, 0, -1), 400);
        C.due("11: all 39 are laid", x.least(39, 0, 4), 3);
    }

    private static void provinceOf() {
        DebtCouncil x = new DebtCouncil();
        x.province(7, 2);
        x.guards(0, 3);
        C.due("12: no province", x.provinceOf(1, 0), DebtCouncil.BAD);
        C.due("12: no province", x.provinceOf(-1, 0), DebtCouncil.BAD);
        C.due("12: no what", x.provinceOf(0, 5), DebtCouncil.BAD);
        C.due("12: no what", x.provinceOf(0, -1), DebtCouncil.BAD);
        C.due("12: LATE", x.provinceOf(0, 0), 0);
        C.due("12: MUTINY", x.provinceOf(0, 1), 0);
        C.due("12: PAY", x.provinceOf(0, 2), 7);
        C.due("12: PATIENCE", x.provinceOf(0, 3), 2);
        C.due("12: GUARDS", x.provinceOf(0, 4), 3);
    }

    private static void garrisons() {
        DebtCouncil x = new DebtCouncil();
        x.province(7, 2);
        x.province(3, 1);
        x.rate(0, 100);
        x.yield1(1, 0, 50);
        x.guards(1, 9);
        x.harvest(1, 10);
        x.harvest(2, 0);
        // month 1: 5 are due, 0 go round: 5 for the treasury: none for the first, 3 for the second
        x.months(1);
        C.due("3 (3): LATE", x.provinceOf(0, 0), 1);
        C.due("3 (3): not yet in MUTINY", x.provinceOf(0, 1), 0);
        C.due("3 (3): paid", x.provinceOf(1, 0), 0);
        C.due("3 (3): TREASURY", x.many(11), 2);
        x.months(1);
        C.due("3 (3): LATE", x.provinceOf(0, 0), 2);
        C.due("3 (3): MUTINY", x.provinceOf(0, 1), 1);
        C.due("3 (3): both", x.many(2), 2);
        x.yield1(0, 0, 999);
        x.months(1);
        C.due("3 (1): nothing comes of those in MUTINY", x.many(11), 2);
        C.due("3 (3): LATE", x.provinceOf(0, 0), 3);
        x.province(0, 1);
        x.yield1(2, 0, 10);
        x.guards(2, 9);
        // 10 are due, 1 goes round: 11 in all: 7 and 3 are paid
        x.months(1);
        C.due("3 (3): paid", x.provinceOf(0, 0), 0);
        C.due("3 (3): no MUTINY", x.many(2), 0);
        C.due("3 (3): TREASURY", x.many(11), 1);
        x.guards(0, 9);
        x.months(60);
        x.months(60);
        x.months(60);
        C.due("3 (2): 99999 at most, 10 paid", x.many(11), 99989);
    }
}
