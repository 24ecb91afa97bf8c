/** The document's Terms, parts 1 to 3, sentence by sentence: what each says at its edges. */
final class TermsTest {
    private static final Checks C = new Checks();

    public static void main(String[] args) {
        firstNumbers();
        harvestOfTheYear();
        dueIsCutTwice();
        roundIsCutTwice();
        ratesAtTheirEnds();
        guardsAtTheirEnds();
        bestRateOfSeveral();
        bestRateBesideMutiny();
        bestRateTriedOut();
        leastTakesPlacesOfGuards();
        leastOfFewest();
        leastOfFirst();
        leastTriedOut();
        dueMonths();
        lastMonths();
        statuteOfAMonth();
        factsOfADebt();
        rankAndCutWithout();
        cutsGoUp();
        barredOnes();
        byTheMonthThatItBecomes();
        monthsOneByOne();
        potsOfSorts();
        getsByTheMonth();
        spares();
        potJustEnough();
        ranksInTurn();
        leftOverOneByOne();
        owedAtMost();
        voidAndBarredWantNothing();
        treasuryAtMost();
        garrisonsByNumbers();
        garrisonPaidNothing();
        patience();
        mutinyEnds();
        pricesAtTheirEnds();
        priceGoesByOwed();
        lagAsItIsWhenAsked();
        C.end();
    }

    /** A land of one PROVINCE with that YIELD of customs and GUARDS, and that RATE of customs. */
    private static DebtCouncil land(int yield, int rate, int guards) {
        DebtCouncil x = new DebtCouncil();
        x.province(0, 1);
        x.yield1(0, 0, yield);
        x.rate(0, rate);
        x.guards(0, guards);
        return x;
    }

    /** A land whose POT of customs is just that each MONTH: nothing of so low a DUE goes ROUND past 9 GUARDS. */
    private static DebtCouncil pot(int pot) {
        DebtCouncil x = new DebtCouncil();
        x.rate(0, 100);
        int left = pot;
        for (int p = 0; p < 8; p++) {
            int here = Math.min(9, left);
            x.province(0, 1);
            x.yield1(p, 0, here);
            x.guards(p, 9);
            left -= here;
        }
        C.due("pots up to 72", left, 0);
        return x;
    }

    /** Of customs in all PROVINCES NOW. */
    private static int sum(DebtCouncil x, int what) {
        int sum = 0;
        int month = x.many(0);
        int provinces = x.many(1);
        for (int p = 0; p < provinces; p++) {
            sum += x.gather(p, 0, month, what);
        }
        return sum;
    }

    private static void firstNumbers() {
        DebtCouncil x = new DebtCouncil();
        C.due("1: NOW is 0 at first", x.many(0), 0);
        for (int sort = 0; sort < 3; sort++) {
            C.due("1: RATE is 10 at first", x.rate(sort, 1), 10);
        }
        for (int month = 0; month < 12; month++) {
            C.due("1: HARVEST is 100 at first", x.harvest(month, 1), 100);
        }
        x.province(1, 1);
        for (int sort = 0; sort < 3; sort++) {
            C.due("1: YIELD is 0 at first", x.yield1(0, sort, 1), 0);
        }
        C.due("1: GUARDS are 0 at first", x.provinceOf(0, 4), 0);
        C.due("3: LATE is 0 at first", x.provinceOf(0, 0), 0);
        C.due("3: THE TREASURY is 0 at first", x.many(11), 0);
        for (int house = 0; house < 5; house++) {
            C.due("3: LAG is 0 at first", x.lag(house, 1), 0);
        }
        x.debt(0, 100, 1);
        C.due("3: a PRICE is 50 as it comes", x.debtOf(0, 0, 11), 50);
        C.due("2: nothing is OWED as it comes", x.debtOf(0, 0, 5), 0);
        C.due("2: it got nothing as it comes", x.debtOf(0, 0, 12), 0);
        C.due("2: it isn't VOID as it comes", x.debtOf(0, 0, 10), 0);
        for (int i = 0; i < 4; i++) {
            C.due("7: SHEETS are missing at first", x.item(i, 0, 0), -11);
            C.due("7: SHELVES hold nothing at first", x.taken(i, 0), -11);
        }
    }

    private static void harvestOfTheYear() {
        DebtCouncil x = land(999, 100, 0);
        for (int month = 0; month < 12; month++) {
            x.harvest(month, month);
        }
        for (int month = 0; month < 26; month++) {
            C.due("1: HARVEST of MONTH " + month, x.gather(0, 0, month, 0), 999 * (month % 12) / 100);
        }
        C.due("1: HARVEST of MONTH 588", x.gather(0, 0, 588, 0), 0);
        C.due("1: HARVEST of MONTH 599", x.gather(0, 0, 599, 0), 999 * 11 / 100);
        x.harvest(0, 200);
        C.due("1: HARVEST 200", x.gather(0, 0, 0, 0), 1998);
    }

    private static void dueIsCutTwice() {
        DebtCouncil x = land(99, 99, 9);
        x.harvest(0, 51);
        // 99 * 51 / 100 = 50.49, cut 50; 50 * 99 / 100 = 49.5, cut 49 (49.98 without the first cut)
        C.due("1: cut, cut", x.gather(0, 0, 0, 0), 49);
        x = land(3, 50, 9);
        x.harvest(0, 50);
        C.due("1: 1.5, cut 1; 0.5, cut 0", x.gather(0, 0, 0, 0), 0);
        x.harvest(0, 67);
        C.due("1: 2.01, cut 2; 1", x.gather(0, 0, 0, 0), 1);
        x.harvest(0, 66);
        C.due("1: 1.98, cut 1; 0.5, cut 0", x.gather(0, 0, 0, 0), 0);
    }

    private static void roundIsCutTwice() {
        // DUE 38; 38 * 50 / 100 = 19; 19 * 9 / 10 = 17.1, cut 17
        C.due("1: ROUND", land(76, 50, 1).gather(0, 0, 0, 1), 17);
        C.due("1: GATHERED", land(76, 50, 1).gather(0, 0, 0, 2), 21);
        // DUE 39; 19.5, cut 19; 19 * 9 / 10 = 17.1, cut 17 (17.55 without the first cut)
        C.due("1: ROUND", land(78, 50, 1).gather(0, 0, 0, 1), 17);
        C.due("1: GATHERED", land(78, 50, 1).gather(0, 0, 0, 2), 22);
        // DUE 33; 10.89, cut 10; by 9 GUARDS 1 (1.089 without the first cut)
        C.due("1: ROUND", land(100, 33, 9).gather(0, 0, 0, 1), 1);
        // DUE 29; 8.41, cut 8; by 9 GUARDS 0.8, cut 0
        C.due("1: ROUND", land(100, 29, 9).gather(0, 0, 0, 1), 0);
        C.due("1: GATHERED", land(100, 29, 9).gather(0, 0, 0, 2), 29);
    }

    private static void ratesAtTheirEnds() {
        for (int what = 0; what <= 2; what++) {
            C.due("1: RATE 0", land(999, 0, 0).gather(0, 0, 0, what), 0);
        }
        C.due("1: RATE 100, DUE", land(999, 100, 0).gather(0, 0, 0, 0), 999);
        C.due("1: RATE 100, all goes ROUND", land(999, 100, 0).gather(0, 0, 0, 1), 999);
        C.due("1: RATE 100, nothing is GATHERED", land(999, 100, 0).gather(0, 0, 0, 2), 0);
        C.due("1: RATE 1", land(99, 1, 0).gather(0, 0, 0, 0), 0);
        C.due("1: RATE 1", land(100, 1, 0).gather(0, 0, 0, 2), 1);
    }

    private static void guardsAtTheirEnds() {
        for (int guards = 0; guards <= 9; guards++) {
            C.due("1: " + guards + " GUARDS", land(999, 100, guards).gather(0, 0, 0, 1), 999 * (10 - guards) / 10);
        }
    }

    private static void bestRateOfSeveral() {
        DebtCouncil x = land(0, 10, 0);
        C.due("1: nothing is GATHERED with any: the least", x.bestRate(0, 0, 0), 0);
        x.yield1(0, 0, 1);
        // 1 is DUE with 100 alone, and all of it goes ROUND without GUARDS
        C.due("1: nothing is GATHERED with any: the least", x.bestRate(0, 0, 0), 0);
        x.guards(0, 1);
        C.due("1: with 100 alone", x.bestRate(0, 0, 0), 100);
        C.due("1: with 100 alone", x.bestRate(0, 0, 1), 1);
        x.harvest(5, 0);
        C.due("1: HARVEST 0", x.bestRate(0, 5, 0), 0);
        C.due("1: HARVEST 0", x.bestRate(0, 17, 1), 0);
        x.yield1(0, 0, 2);
        x.guards(0, 0);
        // 1 with 50 to 99 (of it 0.5 and more, cut 0, goes ROUND), 0 with 100
        C.due("1: of several the least", x.bestRate(0, 0, 0), 50);
        C.due("1: of several the least", x.bestRate(0, 0, 1), 1);
    }

    private static void bestRateBesideMutiny() {
        DebtCouncil x = land(100, 0, 9);
        x.province(99, 2);
        x.yield1(1, 0, 999);
        x.months(1);
        C.due("1: LATE, but not in MUTINY", x.bestRate(0, 0, 1) > 90 ? 1 : 0, 1);
        x.months(1);
        C.due("1: in MUTINY", x.provinceOf(1, 1), 1);
        C.due("1: only those that aren't in MUTINY", x.bestRate(0, 0, 1), 90);
        C.due("9: GATHERED of one in MUTINY is told all the same", x.rate(0, 10), 0);
        C.due("9: GATHERED of one in MUTINY is told all the same", x.gather(1, 0, 0, 2), 90);
    }

    private static DebtCouncil twoProvinces(int seed) {
        DebtCouncil x = land(seed * 37 % 200, 10, seed % 10);
        x.province(0, 1);
        x.yield1(1, 0, seed * 91 % 150);
        x.guards(1, seed * 3 % 10);
        x.harvest(0, seed * 13 % 201);
        return x;
    }

    /** Every RATE tried out, with two PROVINCES. */
    private static void bestRateTriedOut() {
        for (int seed = 0; seed < 30; seed++) {
            DebtCouncil x = twoProvinces(seed);
            int best = 0;
            int most = 0;
            for (int rate = 0; rate <= 100; rate++) {
                x.rate(0, rate);
                int gathered = x.gather(0, 0, 0, 2) + x.gather(1, 0, 0, 2);
                if (gathered > most) {
                    best = rate;
                    most = gathered;
                }
            }
            DebtCouncil y = twoProvinces(seed);
            C.due("1: BEST RATE, seed " + seed, y.bestRate(0, 0, 0), best);
            C.due("1: GATHERED by it, seed " + seed, y.bestRate(0, 0, 1), most);
            C.due("1: the RATE stands", y.rate(0, 0), 10);
        }
    }

    private static void leastTakesPlacesOfGuards() {
        DebtCouncil x = land(100, 100, 9);
        C.due("1: by 0 GUARDS those that are there go", x.least(0, 0, -1), 100);
        C.due("1: by 0 GUARDS", x.least(0, 0, 0), 0);
        for (int n = 0; n <= 40; n++) {
            C.due("1: by " + n + " GUARDS, 9 at most", x.least(n, 0, 0), Math.min(9, n));
            C.due("1: by " + n + " GUARDS, 9 at most", x.least(n, 0, -1), 100 - 10 * Math.min(9, n));
        }
        C.due("11: GUARDS stand as they are", x.provinceOf(0, 4), 9);
    }

    private static void leastOfFewest() {
        DebtCouncil x = land(15, 100, 0);
        // 15 by g: 15, 13.5, 12, 10.5, 9, 7.5, 6, 4.5, 3, 1.5
        int[] round = {15, 13, 12, 10, 9, 7, 6, 4, 3, 1};
        for (int n = 0; n <= 9; n++) {
            C.due("1: 15, " + n, x.least(n, 0, -1), round[n]);
        }
        x.yield1(0, 0, 3);
        // 3 by g: 3, 2.7, 2.4, 2.1, 1.8, 1.5, 1.2, 0.9, 0.6, 0.3
        int[] laid = {0, 1, 1, 1, 4, 4, 4, 7, 7, 7};
        for (int n = 0; n <= 9; n++) {
            C.due("1: of several the fewest GUARDS, " + n, x.least(n, 0, 0), laid[n]);
        }
        x.rate(0, 0);
        C.due("1: nothing goes ROUND: no GUARDS", x.least(40, 0, 0), 0);
    }

    private static void leastOfFirst() {
        DebtCouncil x = land(3, 100, 0);
        x.province(0, 1);
        x.yield1(1, 0, 3);
        C.due("1: one GUARD: the first PROVINCE has it", x.least(1, 0, 0), 1);
        C.due("1: one GUARD: the first PROVINCE has it", x.least(1, 0, 1), 0);
        C.due("1: two: one each", x.least(2, 0, 0), 1);
        C.due("1: two: one each", x.least(2, 0, 1), 1);
        C.due("1: five: 4 and 1", x.least(5, 0, 0), 4);
        C.due("1: five: 4 and 1", x.least(5, 0, 1), 1);
        C.due("1: seven: no more than five do", x.least(7, 0, 0), 4);
        C.due("1: seven: no more than five do", x.least(7, 0, 1), 1);
        C.due("1: all SORTS together", x.yield1(1, 2, 1), 0);
        x.rate(2, 100);
        C.due("1: all SORTS together", x.least(1, 0, 1), 1);
        C.due("1: all SORTS together", x.least(1, 0, 0), 0);
    }

    /** Three small PROVINCES, every way to lay the GUARDS tried out. */
    private static void leastTriedOut() {
        for (int seed = 0; seed < 40; seed++) {
            DebtCouncil x = new DebtCouncil();
            for (int p = 0; p < 3; p++) {
                x.province(0, 1);
                for (int sort = 0; sort < 3; sort++) {
                    x.yield1(p, sort, (seed * 7 + p * 5 + sort * 3) * (seed % 4 + 1) % 23);
                }
            }
            x.rate(0, 100);
            x.rate(1, 60 + seed);
            int n = seed * 11 % 30;
            int[] best = tryOut(x, n);
            C.due("1: least, seed " + seed, x.least(n, 0, -1), best[3]);
            for (int p = 0; p < 3; p++) {
                C.due("1: GUARDS, seed " + seed, x.least(n, 0, p), best[p]);
            }
        }
    }

    private static int[] tryOut(DebtCouncil x, int n) {
        int[][] round = new int[3][10];
        for (int p = 0; p < 3; p++) {
            for (int g = 0; g <= 9; g++) {
                x.guards(p, g);
                round[p][g] = x.gather(p, 0, 0, 1) + x.gather(p, 1, 0, 1) + x.gather(p, 2, 0, 1);
            }
        }
        int[] best = {0, 0, 0, round[0][0] + round[1][0] + round[2][0]};
        for (int a = 9; a >= 0; a--) {
            for (int b = 9; b >= 0; b--) {
                for (int c = 9; c >= 0; c--) {
                    int sum = round[0][a] + round[1][b] + round[2][c];
                    boolean fewer = a + b + c < best[0] + best[1] + best[2];
                    if (a + b + c <= n && (sum < best[3] || sum == best[3] && fewer)) {
                        best = new int[] {a, b, c, sum};
                    }
                }
            }
        }
        return best;
    }

    private static void dueMonths() {
        for (int every = 1; every <= 12; every++) {
            DebtCouncil x = new DebtCouncil();
            x.months(7);
            x.debt(0, 100 * every, 5);
            for (int month = 0; month < 50; month++) {
                boolean due = month > 7 && (month - 7) % every == 0;
                C.due("2: each " + every + " MONTHS, in " + month, x.debtOf(0, month, 9), due ? 5 : 0);
            }
        }
    }

    private static void lastMonths() {
        DebtCouncil x = new DebtCouncil();
        x.debt(0, 100, 1);
        for (int i = 0; i < 9; i++) {
            x.months(60);
        }
        x.months(59);
        C.due("2: a DEBT of the last MONTH", x.debt(0, 100, 9), 1);
        C.due("2: nothing of it ever falls due", x.debtOf(1, 599, 9), 0);
        C.due("2: the first falls due in the last MONTH", x.debtOf(0, 599, 9), 1);
        C.due("3: OWED of all MONTHS", x.debtOf(0, 599, 5), 599);
        C.due("29: a TAKING in the last MONTH", x.taking(0, 1), 0);
        C.due("17: a TEXT in the last MONTH", Checks.read(x, "take 1 of customs;"), 0);
        C.due("30: it is of that MONTH", x.takings(0), 0);
        C.due("2: no MONTH more", x.months(1), DebtCouncil.STATE);
    }

    private static void statuteOfAMonth() {
        DebtCouncil x = new DebtCouncil();
        x.debt(0, 100, 10);
        x.months(3);
        C.due("2: none: an empty TEXT", x.debtOf(0, 3, 6), 9);
        Checks.read(x, "rank 1;");
        Checks.read(x, "rank 2;");
        x.months(2);
        Checks.read(x, "");
        x.months(1);
        Checks.read(x, "rank 3;");
        int[] due = {9, 9, 9, 2, 2, 9, 3, 3};
        for (int month = 0; month < due.length; month++) {
            C.due("2: THE STATUTE of MONTH " + month, x.debtOf(0, month, 6), due[month]);
        }
        C.due("2: THE STATUTE of MONTH 599", x.debtOf(0, 599, 6), 3);
        C.due("19: no LINE of an empty TEXT", x.why(0, 5, 0), DebtCouncil.NONE);
        C.due("19: no LINE ahead of all TEXTS", x.why(0, 2, 0), DebtCouncil.NONE);
    }

    private static void factsOfADebt() {
        DebtCouncil x = new DebtCouncil();
        x.months(5);
        x.debt(0, 100, 999);
        Checks.read(x, "rank 1 if since<1; rank 2 if since<2; rank 3 if since>993; rank 4 if owed>998; rank 5 if sum>998;");
        C.due("2: since, as it comes", x.debtOf(0, 5, 6), 1);
        C.due("2: since, one on", x.debtOf(0, 6, 6), 2);
        C.due("2: sum", x.debtOf(0, 599, 6), 5);
        x.months(1);
        C.due("2: owed is 999 now, in any MONTH", x.debtOf(0, 599, 6), 4);
        C.due("2: since first", x.debtOf(0, 5, 6), 1);
        DebtCouncil y = new DebtCouncil();
        Checks.read(y, "rank 1 if since=0; rank 2 if since>0;");
        y.months(5);
        y.debt(0, 100, 1);
        C.due("2: since is 0 at least", y.debtOf(0, 0, 6), 1);
        C.due("2: since is 0 at least", y.debtOf(0, 4, 6), 1);
        C.due("2: since", y.debtOf(0, 6, 6), 2);
    }

    private static void rankAndCutWithout() {
        DebtCouncil x = new DebtCouncil();
        x.debt(0, 100, 10);
        Checks.read(x, "rank 0 if salt; cut 50 if salt;");
        C.due("2: RANK 9 without such", x.debtOf(0, 0, 6), 9);
        C.due("2: CUT 0 without such", x.debtOf(0, 0, 7), 0);
        C.due("19: no LINE tells RANK", x.why(0, 0, 0), DebtCouncil.NONE);
        C.due("19: no LINE tells CUT", x.why(0, 0, 1), DebtCouncil.NONE);
        Checks.read(x, "rank 0 if salt; rank 9; rank 1; cut 0; cut 50;");
        C.due("2: RANK 9 as told", x.debtOf(0, 0, 6), 9);
        C.due("2: CUT 0 as told", x.debtOf(0, 0, 7), 0);
        C.due("19: the first that has no COND", x.why(0, 0, 0), 1);
        C.due("19: the first that has no COND", x.why(0, 0, 1), 3);
        Checks.read(x, "rank 5; rank 0 if customs; cut 7 if customs; cut 8;");
        C.due("2: the first, with COND or without", x.debtOf(0, 0, 6), 5);
        C.due("2: the first, with COND or without", x.debtOf(0, 0, 7), 7);
        C.due("19: LINE 0", x.why(0, 0, 0), 0);
        C.due("19: LINE 2", x.why(0, 0, 1), 2);
    }

    private static void cutsGoUp() {
        int[][] all = {{1, 0, 1}, {1, 1, 0}, {1, 100, 0}, {100, 1, 99}, {101, 1, 99}, {99, 1, 98}, {200, 50, 100},
            {201, 50, 100}, {999, 99, 9}, {999, 100, 0}, {999, 0, 999}, {7, 33, 4}};
        for (int[] one : all) {
            DebtCouncil x = new DebtCouncil();
            x.debt(0, 100, one[0]);
            Checks.read(x, "cut " + one[1] + ";");
            C.due("2: SUM " + one[0] + " CUT " + one[1], x.debtOf(0, 1, 9), one[2]);
        }
    }

    private static void barredOnes() {
        DebtCouncil x = new DebtCouncil();
        x.debt(0, 100, 10);
        Checks.read(x, "bar if sum>10; bar if sum=10; bar if sum<11;");
        C.due("2: some bar", x.debtOf(0, 1, 8), 1);
        C.due("19: the first bar that bars it", x.why(0, 1, 2), 1);
        C.due("2: nothing falls due", x.debtOf(0, 1, 9), 0);
        x.months(3);
        C.due("3: it wants nothing", x.debtOf(0, 1, 5), 0);
        C.due("3: nothing of it is OWED", x.debtOf(0, 1, 11), 56);
        Checks.read(x, "bar if sum>10; bar if sum<10;");
        C.due("2: no bar", x.debtOf(0, 4, 8), 0);
        C.due("19: no bar", x.why(0, 4, 2), DebtCouncil.NONE);
        x.months(1);
        C.due("2: it falls due", x.debtOf(0, 4, 5), 10);
    }

    private static void byTheMonthThatItBecomes() {
        DebtCouncil x = pot(50);
        x.harvest(0, 0);
        x.harvest(1, 200);
        x.debt(0, 100, 30);
        int gathered = x.gather(0, 0, 1, 2) * 5 + x.gather(5, 0, 1, 2);
        x.months(1);
        C.due("3: HARVEST and what FALLS of MONTH 1", x.many(11), gathered - 30);
        Checks.read(x, "cut 100;");
        int had = x.many(11);
        x.months(1);
        C.due("3: by THE STATUTE of MONTH 2", x.many(11), had + sum(x, 2));
        x = new DebtCouncil();
        x.debt(0, 100, 5);
        Checks.read(x, "bar if since=1;");
        x.months(1);
        C.due("3: since is of the MONTH that it becomes", x.debtOf(0, 0, 5), 0);
        x.months(1);
        C.due("3: since is of the MONTH that it becomes", x.debtOf(0, 0, 5), 5);
    }

    private static void monthsOneByOne() {
        C.due("2: 60 MONTHS are 60 times one", Lands.differ(TermsTest::sixty, TermsTest::sixtyOnes), -1);
    }

    private static DebtCouncil sixty() {
        DebtCouncil x = Lands.some();
        C.due("2: NOW", x.months(60), 66);
        return x;
    }

    private static DebtCouncil sixtyOnes() {
        DebtCouncil x = Lands.some();
        for (int i = 0; i < 60; i++) {
            C.due("2: NOW", x.months(1), 7 + i);
        }
        return x;
    }

    /** Each SORT has its own POT, and spare takes its part of each. */
    private static void potsOfSorts() {
        DebtCouncil x = new DebtCouncil();
        x.province(0, 1);
        x.guards(0, 9);
        for (int sort = 0; sort < 3; sort++) {
            x.rate(sort, 100);
            x.yield1(0, sort, 5 + 2 * sort);
            x.debt(0, 110 + sort, 50);
        }
        x.keep();
        x.months(1);
        for (int sort = 0; sort < 3; sort++) {
            C.due("3: the POT of SORT " + sort, x.debtOf(sort, 0, 12), 5 + 2 * sort);
            C.due("3: OWED on SORT " + sort, x.debtOf(sort, 0, 5), 45 - 2 * sort);
        }
        C.due("3: nothing is left", x.many(11), 0);
        x.again();
        Checks.read(x, "spare 50;");
        x.months(1);
        for (int sort = 0; sort < 3; sort++) {
            C.due("3: less the spare of SORT " + sort, x.debtOf(sort, 0, 12), 3 + sort);
        }
        C.due("3: 2.5, 3.5 and 4.5, each cut", x.many(11), 9);
        x.again();
        x.voids(1);
        x.months(1);
        C.due("3: what is left of a SORT is for no other", x.debtOf(0, 0, 12), 5);
        C.due("3: it goes to THE TREASURY", x.many(11), 7);
    }

    private static void getsByTheMonth() {
        DebtCouncil x = new DebtCouncil();
        x.debt(0, 300, 10);
        x.debt(0, 210, 10);
        x.months(5);
        Checks.read(x, "rank 1 if form=0; rank 2; cut 50 if form=1;");
        x.months(1);
        Checks.read(x, "spare 100;");
        // of the first 10 fell due in MONTHS 3 and 6, of the second in 2 and 4, and by the cut 5 in 6
        C.due("3: OWED", x.debtOf(0, 0, 5), 20);
        C.due("3: OWED", x.debtOf(1, 0, 5), 25);
        C.due("20: MONTH 1: nothing FALLS, no TEXT", x.gets(0, 1, 50), 20);
        // 20 and 25 of 25: 11.1 and 13.8, cut, and 1 for the first
        C.due("20: MONTH 1: no RANKS", x.gets(0, 1, 25), 12);
        C.due("20: MONTH 1: no RANKS", x.gets(1, 1, 25), 13);
        C.due("20: MONTH 3: 10 FALLS of the first", x.gets(0, 3, 9999), 30);
        C.due("20: MONTH 3: nothing FALLS of the second", x.gets(1, 3, 9999), 25);
        C.due("20: MONTH 4: 10 FALLS of the second", x.gets(1, 4, 9999), 35);
        C.due("20: MONTH 5: by RANKS", x.gets(0, 5, 25), 20);
        C.due("20: MONTH 5: by RANKS", x.gets(1, 5, 25), 5);
        C.due("20: MONTH 6: all is spared", x.gets(0, 6, 9999), 0);
        C.due("20: MONTH 599: all is spared", x.gets(1, 599, 9999), 0);
        C.due("20: nothing changed", x.debtOf(1, 0, 5), 25);
    }

    private static void spares() {
        int[][] all = {{0, 0}, {1, 0}, {2, 1}, {50, 25}, {99, 49}, {100, 50}};
        for (int[] one : all) {
            DebtCouncil x = pot(50);
            x.debt(0, 100, 999);
            Checks.read(x, "spare 77; spare " + one[0] + ";");
            C.due("20: spare " + one[0], x.gets(0, 1, 50), 50 - one[1]);
            x.months(1);
            C.due("3: spare " + one[0] + " goes to THE TREASURY at once", x.many(11), one[1]);
            C.due("3: the DEBT gets the rest", x.debtOf(0, 0, 12), 50 - one[1]);
        }
        DebtCouncil x = pot(50);
        x.debt(0, 100, 999);
        x.months(1);
        C.due("3: 0 without a spare", x.many(11), 0);
    }

    private static void potJustEnough() {
        for (int pot = 28; pot <= 32; pot++) {
            DebtCouncil x = pot(pot);
            x.debt(0, 100, 10);
            x.debt(0, 100, 20);
            x.months(1);
            C.due("3: all, if there is enough, of " + pot, x.debtOf(0, 0, 12) + x.debtOf(1, 0, 12), Math.min(30, pot));
            C.due("3: what is left, of " + pot, x.many(11), Math.max(0, pot - 30));
            C.due("3: OWED, of " + pot, x.many(14), Math.max(0, 30 - pot));
        }
        DebtCouncil x = pot(0);
        x.debt(0, 100, 10);
        x.months(1);
        C.due("3: a POT of 0", x.debtOf(0, 0, 12), 0);
        C.due("3: a POT of 0", x.debtOf(0, 0, 5), 10);
        C.due("20: a POT of 0", x.gets(0, 2, 0), 0);
        C.due("20: a POT of 1", x.gets(0, 2, 1), 1);
        C.due("20: a POT of 9999", x.gets(0, 2, 9999), 20);
    }

    private static void ranksInTurn() {
        DebtCouncil x = new DebtCouncil();
        for (int i = 0; i < 10; i++) {
            x.debt(0, 100, 10 + i);
        }
        Checks.read(x, "rank 0 if sum=19; rank 1 if sum=18; rank 2 if sum=17; rank 3 if sum=16; rank 4 if sum=15;"
            + "rank 5 if sum=14; rank 6 if sum=13; rank 7 if sum=12; rank 8 if sum=11;");
        int ahead = 0;
        for (int i = 9; i >= 0; i--) {
            C.due("3: nothing for RANK " + (9 - i), x.gets(i, 1, ahead), 0);
            C.due("3: the first for RANK " + (9 - i), x.gets(i, 1, ahead + 1), 1);
            ahead += 10 + i;
            C.due("3: less than all for RANK " + (9 - i), x.gets(i, 1, ahead - 1), 9 + i);
            C.due("3: all for RANK " + (9 - i), x.gets(i, 1, ahead), 10 + i);
        }
    }

    private static void leftOverOneByOne() {
        DebtCouncil x = new DebtCouncil();
        for (int i = 0; i < 16; i++) {
            x.debt(0, 100, 1);
        }
        for (int pot = 0; pot <= 17; pot++) {
            for (int i = 0; i < 16; i++) {
                C.due("3: " + pot + " go one by one by numbers", x.gets(i, 1, pot), i < pot ? 1 : 0);
            }
        }
        x = new DebtCouncil();
        x.debt(0, 100, 999);
        x.debt(0, 100, 1);
        x.debt(0, 100, 999);
        // 998 by 1999: 498.7, 0.4, 498.7: 996, and 1 for the first two
        C.due("3: cut, and 1", x.gets(0, 1, 998), 499);
        C.due("3: cut to 0, and 1", x.gets(1, 1, 998), 1);
        C.due("3: cut, and no more", x.gets(2, 1, 998), 498);
    }

    private static void owedAtMost() {
        DebtCouncil x = new DebtCouncil();
        x.debt(0, 100, 999);
        x.months(10);
        C.due("3: OWED", x.debtOf(0, 0, 5), 9990);
        x.months(1);
        C.due("3: 9999 at most", x.debtOf(0, 0, 5), 9999);
        C.due("3: it wants what FALLS, too", x.gets(0, 12, 9999), 9999);
        x.months(60);
        C.due("3: 9999 at most", x.debtOf(0, 0, 5), 9999);
        x.debt(0, 101, 999);
        x.months(60);
        C.due("44: OWED of all", x.many(14), 2 * 9999);
    }

    private static void voidAndBarredWantNothing() {
        DebtCouncil x = pot(10);
        x.debt(0, 100, 60);
        x.debt(1, 100, 60);
        x.debt(2, 100, 60);
        x.months(1);
        Checks.read(x, "bar if house=1;");
        x.voids(0);
        int[] owed = {56, 57, 57};
        for (int i = 0; i < 3; i++) {
            C.due("3: OWED", x.debtOf(i, 0, 5), owed[i]);
        }
        C.due("20: a VOID one gets nothing", x.gets(0, 2, 9999), 0);
        C.due("20: a BARRED one gets nothing", x.gets(1, 2, 9999), 0);
        C.due("20: the third gets all", x.gets(2, 2, 9999), 117);
        x.months(1);
        C.due("3: of a VOID one it stays", x.debtOf(0, 0, 5), 56);
        C.due("3: of a BARRED one it stays", x.debtOf(1, 0, 5), 57);
        C.due("3: of the third", x.debtOf(2, 0, 5), 107);
        Checks.read(x, "");
        C.due("20: no more BARRED it wants it yet", x.gets(1, 3, 9999), 117);
    }

    private static void treasuryAtMost() {
        DebtCouncil x = new DebtCouncil();
        for (int p = 0; p < 8; p++) {
            x.province(0, 1);
            x.guards(p, 9);
            for (int sort = 0; sort < 3; sort++) {
                x.yield1(p, sort, 999);
                x.rate(sort, 50);
            }
        }
        // 499 less 24 of each: 24 * 475 = 11400 a MONTH
        x.months(8);
        C.due("3: THE TREASURY", x.many(11), 91200);
        x.months(1);
        C.due("3: 99999 at most", x.many(11), 99999);
        x.months(60);
        C.due("3: 99999 at most", x.many(11), 99999);
        x.keep();
        Checks.read(x, "spare 100;");
        x.months(1);
        C.due("3: 99999 at most, by spare", x.many(11), 99999);
    }

    private static void garrisonsByNumbers() {
        DebtCouncil x = new DebtCouncil();
        x.province(20, 2);
        x.province(11, 2);
        x.province(10, 2);
        x.rate(0, 100);
        for (int p = 0; p < 3; p++) {
            x.yield1(p, 0, 9);
            x.guards(p, 9);
        }
        x.yield1(0, 1, 30);
        C.due("3: 27 of customs, 3 of salt", x.gather(0, 1, 1, 2), 3);
        x.months(1);
        C.due("3: just enough for the first", x.provinceOf(0, 0), 0);
        C.due("3: 10 are too few for the second", x.provinceOf(1, 0), 1);
        C.due("3: 10 are just enough for the third", x.provinceOf(2, 0), 0);
        C.due("3: nothing is left", x.many(11), 0);
        DebtCouncil y = pot(30);
        y.months(1);
        C.due("3: PAY 0 takes nothing", y.many(11), 30);
    }

    private static void garrisonPaidNothing() {
        DebtCouncil x = new DebtCouncil();
        x.province(0, 1);
        x.province(1, 1);
        x.months(60);
        C.due("3: PAY 0 is always paid", x.provinceOf(0, 0), 0);
        C.due("3: no MUTINY", x.provinceOf(0, 1), 0);
        C.due("3: LATE for 60 MONTHS", x.provinceOf(1, 0), 60);
        C.due("3: MUTINY", x.provinceOf(1, 1), 1);
        C.due("44: one in MUTINY", x.many(2), 1);
    }

    private static void patience() {
        for (int patience = 1; patience <= 12; patience++) {
            DebtCouncil x = new DebtCouncil();
            x.province(1, patience);
            for (int month = 1; month <= 14; month++) {
                x.months(1);
                C.due("3: LATE in " + month, x.provinceOf(0, 0), month);
                C.due("3: PATIENCE " + patience + " in " + month, x.provinceOf(0, 1), month >= patience ? 1 : 0);
            }
        }
    }

    private static void mutinyEnds() {
        DebtCouncil x = new DebtCouncil();
        x.province(5, 1);
        x.province(0, 1);
        x.rate(0, 100);
        x.yield1(0, 0, 9);
        x.guards(0, 9);
        x.guards(1, 9);
        x.harvest(1, 0);
        x.months(1);
        C.due("3: in MUTINY", x.provinceOf(0, 1), 1);
        x.months(1);
        C.due("3: nothing is GATHERED of it", x.many(11), 0);
        C.due("3: it is still to be paid", x.provinceOf(0, 0), 2);
        x.yield1(1, 0, 4);
        x.months(1);
        C.due("3: 4 are too few", x.provinceOf(0, 1), 1);
        C.due("3: nothing is paid then", x.many(11), 4);
        x.months(1);
        C.due("3: till it is paid", x.provinceOf(0, 1), 0);
        C.due("3: LATE 0 MONTHS then", x.provinceOf(0, 0), 0);
        C.due("3: all PAY", x.many(11), 3);
        x.months(1);
        C.due("3: GATHERED of it again", x.many(11), 3 + 9 + 4 - 5);
    }

    private static void pricesAtTheirEnds() {
        DebtCouncil x = new DebtCouncil();
        x.debt(0, 1200, 1);
        x.months(11);
        x.debt(0, 100, 1);
        for (int month = 1; month <= 12; month++) {
            x.months(1);
            C.due("3: 5 less, 0 at least", x.debtOf(1, 0, 11), Math.max(0, 50 - 5 * month));
        }
        C.due("3: 72 less 60", x.debtOf(0, 0, 11), 12);
        x.months(2);
        C.due("3: 12, 7, 2", x.debtOf(0, 0, 11), 2);
        x.months(1);
        C.due("3: 2 less 5: 0 at least", x.debtOf(0, 0, 11), 0);
        DebtCouncil y = pot(9);
        y.debt(0, 1200, 1);
        y.months(25);
        C.due("3: 50 and 25 times 2", y.debtOf(0, 0, 11), 100);
        y.months(1);
        C.due("3: 100 at most", y.debtOf(0, 0, 11), 100);
        y.yield1(0, 0, 0);
        y.months(10);
        C.due("3: 95 as it falls due and isn't paid", y.debtOf(0, 0, 11), 95);
        y.yield1(0, 0, 9);
        y.months(2);
        C.due("3: 99", y.debtOf(0, 0, 11), 99);
        y.months(1);
        C.due("3: 99 and 2: 100 at most", y.debtOf(0, 0, 11), 100);
    }

    private static void priceGoesByOwed() {
        DebtCouncil x = pot(9);
        x.debt(0, 100, 10);
        x.debt(0, 200, 5);
        x.debt(0, 110, 1);
        Checks.read(x, "rank 1 if sum=10; rank 2;");
        x.months(1);
        C.due("3: 1 is OWED", x.debtOf(0, 0, 11), 45);
        C.due("3: nothing falls yet", x.debtOf(1, 0, 11), 52);
        C.due("14: no bond", x.debtOf(2, 0, 11), DebtCouncil.NONE);
        Checks.read(x, "bar if sum=10;");
        x.months(2);
        C.due("3: what is OWED of a BARRED one stays", x.debtOf(0, 0, 11), 35);
        C.due("3: paid", x.debtOf(1, 0, 11), 56);
        x.voids(0);
        x.voids(1);
        x.months(9);
        C.due("3: a VOID one's stands", x.debtOf(0, 0, 11), 35);
        C.due("3: a VOID one's stands", x.debtOf(1, 0, 11), 56);
    }

    private static void lagAsItIsWhenAsked() {
        DebtCouncil x = new DebtCouncil();
        x.months(2);
        x.debt(2, 1200, 1);
        for (int month = 0; month <= 9; month++) {
            for (int lag = 0; lag <= 6; lag++) {
                x.lag(2, lag);
                C.due("3: of " + lag + " MONTHS ago, " + month + " in", x.knows(2, 0), 50 + 2 * Math.max(0, month - lag));
            }
            C.due("3: another HOUSE's LAG is 0", x.knows(4, 0), 50 + 2 * month);
            x.months(1);
        }
    }
}
