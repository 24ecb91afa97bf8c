import java.util.function.Supplier;

/** Lands with some of everything, always made by the same calls, and all that can be seen of one. */
final class Lands {
    private static final int PARTS = 4;

    private Lands() {
    }

    /** Some of each thing, nothing full; something else is kept. */
    static DebtCouncil some() {
        DebtCouncil x = new DebtCouncil();
        x.province(10, 2);
        x.debt(2, 100, 77);
        x.keep();
        x.months(2);
        x.province(99, 1);
        x.province(0, 12);
        for (int p = 0; p < 3; p++) {
            x.yield1(p, 0, 300 + p);
            x.yield1(p, 2, 200 - p);
            x.guards(p, 2 * p);
        }
        x.rate(0, 37);
        x.harvest(3, 150);
        x.lag(1, 3);
        for (int form = 0; form < 4; form++) {
            x.debt(form, 200 + 10 * form + form % 3, 50 + form);
        }
        x.debt(1, 102, 999);
        Checks.read(x, "rank 1 if sum<60; rank 2; cut 3 if salt; spare 4; take 5 of customs; bar if since>9 and form=1;");
        x.months(1);
        Checks.read(x, "rank 7 if owed>0; rank 8 if form=3; cut 8; bar if form=3;");
        x.months(3);
        x.voids(1);
        x.railway(1, 55, 12);
        x.railway(2, 400, 3);
        x.paper(0, 5, 12, 8);
        x.paper(1, 5, 10, 9);
        x.paper(1, 6, 12, 8);
        x.taking(0, 4);
        x.taking(0, 3);
        x.choice(5, 9, 7, 1);
        x.choice(-2, 4, 3, 0);
        x.choice(1, 1, 1, 2);
        x.choose(6);
        x.sheet(0, 1, 5);
        x.put(0, 1, 7);
        x.put(0, 4, 1000);
        x.sheet(1, 4, 3);
        x.put(1, 2, 1);
        x.sheet(3, 3, 1);
        x.put(3, 0, -99);
        x.shelf(0, 0, 2);
        x.shelf(1, 1, 1);
        x.shelf(2, 2, 0);
        x.deal(0, 2, 6);
        Checks.feedText(x, "rank 3;");
        return x;
    }

    /** As many of each thing as there can be, in the last MONTH but nine; nothing is kept. */
    static DebtCouncil full() {
        DebtCouncil x = new DebtCouncil();
        for (int i = 0; i < 8; i++) {
            x.province(i, 1 + i);
            x.yield1(i, i % 3, 100 + i);
        }
        for (int i = 0; i < 16; i++) {
            x.debt(i % 5, 100 * (1 + i % 12) + i % 3, 1 + i);
        }
        x.months(30);
        for (int i = 0; i < 8; i++) {
            Checks.read(x, "take " + i + " of salt; rank 4;");
        }
        for (int i = 0; i < 9; i++) {
            x.months(60);
        }
        x.months(20);
        for (int i = 0; i < 6; i++) {
            x.railway(i, 10 * i, 1 + i);
        }
        for (int i = 0; i < 20; i++) {
            x.paper(i % 2, 1 + i / 2, 10, i);
        }
        for (int i = 0; i < 16; i++) {
            x.taking(i % 3, 1 + i);
        }
        for (int i = 0; i < 8; i++) {
            x.choice(i, i, i, 0);
        }
        x.choose(28);
        for (int i = 0; i < 30; i++) {
            x.feed(0x2020202020202020L, i < 29 ? 8 : 7);
        }
        return x;
    }

    /** Where two lands, made anew for each part of what can be seen, differ: the number of that answer; -1: nowhere. */
    static int differ(Supplier<DebtCouncil> one, Supplier<DebtCouncil> other) {
        for (int part = 0; part < PARTS; part++) {
            int[] a = see(one.get(), part);
            int[] b = see(other.get(), part);
            for (int i = 0; i < a.length; i++) {
                if (a[i] != b[i]) {
                    return 1000 * part + i;
                }
            }
        }
        return -1;
    }

    /** A part of what can be seen, in at most 330 calls. */
    private static int[] see(DebtCouncil x, int part) {
        Answers all = new Answers();
        switch (part) {
            case 0: seeNumbers(x, all); break;
            case 1: seeDebts(x, all); break;
            case 2: seeHost(x, all); break;
            default: seeBehind(x, all); break;
        }
        return all.answers;
    }

    private static final class Answers {
        private final int[] answers = new int[330];
        private int count = 0;

        void add(int answer) {
            answers[count] = answer;
            count++;
        }
    }

    private static void seeNumbers(DebtCouncil x, Answers all) {
        for (int what = 0; what <= 14; what++) {
            all.add(x.many(what));
        }
        for (int p = 0; p < 8; p++) {
            for (int what = 0; what <= 4; what++) {
                all.add(x.provinceOf(p, what));
            }
            for (int sort = 0; sort < 3; sort++) {
                all.add(x.gather(p, sort, 3, 0));
            }
        }
        for (int railway = 0; railway < 6; railway++) {
            for (int what = 0; what <= 2; what++) {
                all.add(x.railwayOf(railway, what));
            }
        }
        for (int what = -3; what < 20; what++) {
            all.add(x.bills(what));
        }
        all.add(x.takings(0));
        all.add(x.takings(1));
        for (int i = 0; i < 8; i++) {
            all.add(x.row(i, 0));
            all.add(x.row(i, 1));
        }
    }

    private static void seeDebts(DebtCouncil x, Answers all) {
        for (int debt = 0; debt < 16; debt++) {
            for (int what = 0; what <= 12; what++) {
                all.add(x.debtOf(debt, 8, what));
            }
            all.add(x.knows(1, debt));
        }
        for (int version = 0; version < 8; version++) {
            for (int i = 0; i < 3; i++) {
                for (int what = 0; what < 4; what++) {
                    all.add(x.line(version, i, what));
                }
            }
        }
    }

    private static void seeHost(DebtCouncil x, Answers all) {
        for (int sheet = 0; sheet < 4; sheet++) {
            for (int sort = 0; sort <= 4; sort++) {
                for (int i = 0; i <= 5; i++) {
                    all.add(x.item(sheet, sort, i));
                }
            }
        }
        for (int shelf = 0; shelf < 4; shelf++) {
            for (int as = 0; as <= 14; as++) {
                all.add(x.taken(shelf, as));
            }
        }
        for (int i = 0; i < 30; i++) {
            all.add(x.trace(i));
        }
    }

    /** What only calls that change it tell: rates, harvests, lags, the tape's bytes, what is kept. */
    private static void seeBehind(DebtCouncil x, Answers all) {
        for (int sort = 0; sort < 3; sort++) {
            all.add(x.rate(sort, 1));
            for (int p = 0; p < 8; p++) {
                all.add(x.yield1(p, sort, 1));
            }
        }
        for (int month = 0; month < 12; month++) {
            all.add(x.harvest(month, 1));
        }
        for (int house = 0; house < 5; house++) {
            all.add(x.lag(house, 1));
        }
        all.add(x.read());
        all.add(x.line(2, 0, 1));
        all.add(x.again());
        for (int what = 0; what <= 14; what++) {
            all.add(x.many(what));
        }
        for (int what = 0; what <= 12; what++) {
            all.add(x.debtOf(0, 8, what));
        }
        all.add(x.provinceOf(0, 2));
    }
}
