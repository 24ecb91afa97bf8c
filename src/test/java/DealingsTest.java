/** The document's Terms, parts 4 to 6, sentence by sentence: papers, swaps, railways, takings and choices at their edges. */
final class DealingsTest {
    private static final Checks C = new Checks();

    public static void main(String[] args) {
        mayBeOne();
        monthsAtTheirEnds();
        noPapers();
        manyPapers();
        unevenBooks();
        mostPairs();
        pairsTriedOut();
        swapJustTaken();
        swapByWhatIsKnown();
        swapWorthNothing();
        swapMakesABond();
        swapTakesTheLastPlace();
        offersTriedOut();
        railwayMiles();
        bearsTriedOut();
        takingsJustLawful();
        takingsWithoutAText();
        takingsOfUnlikeSortsAndMonths();
        setOfNone();
        holdsJustSo();
        bestOfSeveral();
        choicesTriedOut();
        rowsAreOfTheLatest();
        readerTakesRows();
        readerOfAlteredRows();
        readerOfMissingChoices();
        C.end();
    }

    /** Two PAPERS of unlike BOOKS: all that may differ, laid beside the sentence. */
    private static void mayBeOne() {
        for (int mark = 0; mark <= 9; mark++) {
            for (int other = 0; other <= 9; other++) {
                boolean due = mark == other || mark == 0 || other == 0;
                pair(new int[] {0, 7, 20 + mark, 5}, new int[] {1, 7, 20 + other, 5}, due);
            }
        }
        for (int house = 0; house <= 4; house++) {
            for (int other = 0; other <= 4; other++) {
                pair(new int[] {0, 7, 10 * house, 5}, new int[] {1, 7, 10 * other, 5}, house == other);
            }
        }
        for (int month = 0; month <= 8; month++) {
            pair(new int[] {0, 7, 20, 4}, new int[] {1, 7, 20, month}, month >= 3 && month <= 5);
        }
        pair(new int[] {0, 7, 20, 4}, new int[] {1, 6, 20, 4}, false);
        pair(new int[] {0, 7, 20, 4}, new int[] {1, 8, 20, 4}, false);
        pair(new int[] {0, 1, 0, 4}, new int[] {1, 999, 0, 4}, false);
        pair(new int[] {0, 7, 20, 4}, new int[] {0, 7, 20, 4}, false);
        pair(new int[] {1, 7, 20, 4}, new int[] {1, 7, 20, 4}, false);
        pair(new int[] {1, 7, 20, 4}, new int[] {0, 7, 20, 4}, true);
    }

    private static void pair(int[] one, int[] other, boolean due) {
        DebtCouncil x = new DebtCouncil();
        x.paper(one[0], one[1], one[2], one[3]);
        x.paper(other[0], other[1], other[2], other[3]);
        String name = "4: told " + one[2] + ", " + other[2] + ", MONTHS " + one[3] + ", " + other[3];
        C.due(name, x.bills(0), due ? 1 : 0);
        C.due(name, x.bills(1), due ? 1 : 0);
        C.due(name + ", COUNT", x.bills(-1), due ? 1 : 2);
        C.due(name + ", SURE", x.bills(-2), due ? one[1] : one[1] + other[1]);
        C.due(name + ", SINGLE", x.bills(-3), due ? 0 : 2);
    }

    private static void monthsAtTheirEnds() {
        pair(new int[] {0, 999, 49, 0}, new int[] {1, 999, 49, 0}, true);
        pair(new int[] {0, 999, 49, 0}, new int[] {1, 999, 49, 1}, true);
        pair(new int[] {0, 999, 49, 599}, new int[] {1, 999, 49, 598}, true);
        pair(new int[] {0, 999, 49, 599}, new int[] {1, 999, 49, 597}, false);
        pair(new int[] {0, 999, 49, 599}, new int[] {1, 999, 49, 0}, false);
    }

    private static void noPapers() {
        DebtCouncil x = new DebtCouncil();
        for (int what = -3; what <= -1; what++) {
            C.due("28: no PAPERS, " + what, x.bills(what), 0);
        }
        C.due("28: no PAPER 0", x.bills(0), DebtCouncil.BAD);
        x.paper(1, 999, 0, 0);
        C.due("28: one PAPER", x.bills(-1), 1);
        C.due("28: one PAPER", x.bills(-2), 999);
        C.due("28: one PAPER is SINGLE", x.bills(-3), 1);
        C.due("28: one PAPER", x.bills(0), 0);
        C.due("28: no PAPER 1", x.bills(1), DebtCouncil.BAD);
    }

    private static void manyPapers() {
        DebtCouncil alike = new DebtCouncil();
        DebtCouncil oneBook = new DebtCouncil();
        DebtCouncil uneven = new DebtCouncil();
        for (int i = 0; i < 20; i++) {
            alike.paper(i % 2, 999, 0, 0);
            oneBook.paper(1, 999, 0, 0);
            uneven.paper(i < 3 ? 0 : 1, 5, 0, 0);
        }
        C.due("4: 10 told twice", alike.bills(-1), 10);
        C.due("4: 10 told twice", alike.bills(-2), 9990);
        C.due("4: none SINGLE", alike.bills(-3), 0);
        C.due("28: with 10 others", alike.bills(19), 10);
        C.due("28: not with PAPER 20", alike.bills(20), DebtCouncil.BAD);
        C.due("4: each once at most in a BOOK", oneBook.bills(-1), 20);
        C.due("4: each once at most in a BOOK", oneBook.bills(-2), 19980);
        C.due("4: all SINGLE", oneBook.bills(-3), 20);
        C.due("4: 3 told twice", uneven.bills(-1), 17);
        C.due("4: 3 told twice", uneven.bills(-2), 85);
        C.due("4: none SINGLE", uneven.bills(-3), 0);
        C.due("28: with 17 others", uneven.bills(0), 17);
        C.due("28: with 3 others", uneven.bills(3), 3);
    }

    /** 20 alike, so many of them in BOOK 0: most searches for one more pair fail, and must still end soon. */
    private static void unevenBooks() {
        for (int k = 0; k <= 20; k++) {
            for (int first = 0; first <= 1; first++) {
                DebtCouncil x = new DebtCouncil();
                for (int i = 0; i < 20; i++) {
                    x.paper(i < k ? first : 1 - first, 7, 30, 5 + i % 2);
                }
                String name = k + " in BOOK " + first;
                C.due("4: COUNT, " + name, x.bills(-1), Math.max(k, 20 - k));
                C.due("4: SURE, " + name, x.bills(-2), 7 * Math.max(k, 20 - k));
                C.due("4: SINGLE, " + name, x.bills(-3), k == 0 || k == 20 ? 20 : 0);
            }
        }
    }

    /** The longest chain: each pair but the last must be given up for another. */
    private static void mostPairs() {
        DebtCouncil x = new DebtCouncil();
        for (int i = 0; i < 10; i++) {
            x.paper(1, 3, 0, 100 + 2 * i);
        }
        for (int i = 9; i >= 1; i--) {
            x.paper(0, 3, 0, 99 + 2 * i);
        }
        C.due("4: 9 pairs", x.bills(-1), 10);
        x.paper(0, 3, 0, 119);
        C.due("4: 10 pairs", x.bills(-1), 10);
        C.due("4: 10 pairs", x.bills(-2), 30);
        C.due("27: FULL", x.paper(0, 3, 0, 119), DebtCouncil.FULL);
    }

    private static void pairsTriedOut() {
        for (int seed = 0; seed < 60; seed++) {
            int[][] papers = new int[12][];
            DebtCouncil x = new DebtCouncil();
            int sum = 0;
            for (int i = 0; i < 12; i++) {
                int r = (seed * 31 + i * 17) * (i + 3) * 7919 >>> 3;
                papers[i] = new int[] {r % 2, 1 + r / 2 % 2, r / 4 % 3, 10 + r / 12 % 5};
                x.paper(papers[i][0], papers[i][1], papers[i][2], papers[i][3]);
                sum += papers[i][1];
            }
            C.due("4: COUNT, seed " + seed, x.bills(-1), 12 - mostOf(papers, 0, 0, false));
            C.due("4: SURE, seed " + seed, x.bills(-2), sum - mostOf(papers, 0, 0, true));
        }
    }

    /** The most pairs (or their SUMS together) among PAPERS from one on, those in bits being taken. */
    private static int mostOf(int[][] papers, int from, int taken, boolean bySum) {
        if (from == papers.length) {
            return 0;
        }
        int most = mostOf(papers, from + 1, taken, bySum);
        for (int j = from + 1; j < papers.length && (taken >> from & 1) == 0; j++) {
            int[] a = papers[from];
            int[] b = papers[j];
            boolean marks = a[2] == b[2] || a[2] == 0 || b[2] == 0;
            boolean months = a[3] - b[3] <= 1 && b[3] - a[3] <= 1;
            if ((taken >> j & 1) == 0 && a[0] != b[0] && a[1] == b[1] && marks && months) {
                int with = mostOf(papers, from + 1, taken | 1 << j, bySum) + (bySum ? a[1] : 1);
                most = Math.max(most, with);
            }
        }
        return most;
    }

    private static DebtCouncil bond(int sum, int every) {
        DebtCouncil x = new DebtCouncil();
        x.debt(3, 100 * every + 2, sum);
        return x;
    }

    private static void swapJustTaken() {
        // 7 * 50 / 3 = 116.6, cut 116; 700 / 6 = 116.6, cut 116; 600 / 6 = 100
        C.due("5: not less", bond(7, 3).swap(0, 7, 6), 1);
        C.due("5: less", bond(7, 3).swap(0, 6, 6), DebtCouncil.STATE);
        // 999 * 50 / 1 = 49950: 500 at 1 is 50000, 499 is less; 999 at 2 is 49950
        C.due("5: not less", bond(999, 1).swap(0, 500, 1), 1);
        C.due("5: less", bond(999, 1).swap(0, 499, 1), DebtCouncil.STATE);
        C.due("5: just as much", bond(999, 1).swap(0, 999, 2), 1);
        C.due("5: less", bond(999, 1).swap(0, 998, 2), DebtCouncil.STATE);
        C.due("5: less", bond(999, 1).swap(0, 999, 3), DebtCouncil.STATE);
        C.due("24: just as much", bond(999, 1).offer(0, 2), 999);
        C.due("24: none", bond(999, 1).offer(0, 3), DebtCouncil.NONE);
        // 1 * 50 / 12 = 4.1, cut 4: 1 at 12 is 8.3
        C.due("5: the least of both", bond(1, 12).swap(0, 1, 12), 1);
        C.due("24: the least of both", bond(1, 12).offer(0, 12), 1);
    }

    private static void swapByWhatIsKnown() {
        DebtCouncil x = bond(100, 12);
        x.months(10);
        // the PRICE is 70 now and was 58 six MONTHS ago
        C.due("24: by 70", x.offer(0, 12), 70);
        x.lag(3, 6);
        C.due("24: by 58", x.offer(0, 12), 58);
        x.lag(2, 6);
        C.due("24: another HOUSE's LAG", x.lag(3, 1), 6);
        C.due("24: by 68", x.offer(0, 12), 68);
        C.due("23: by 68", x.swap(0, 67, 12), DebtCouncil.STATE);
        C.due("23: by 68", x.swap(0, 68, 12), 1);
    }

    private static void swapWorthNothing() {
        DebtCouncil x = bond(999, 1);
        x.months(10);
        C.due("3: its PRICE is 0", x.debtOf(0, 0, 11), 0);
        C.due("24: any SUM", x.offer(0, 12), 1);
        C.due("23: any SUM", x.swap(0, 1, 12), 1);
        C.due("5: what is OWED of the old one stays", x.debtOf(0, 0, 5), 9990);
        C.due("5: nothing is OWED of the new one", x.debtOf(1, 0, 5), 0);
        C.due("44: OWED of all", x.many(14), 9990);
    }

    private static void swapMakesABond() {
        DebtCouncil x = bond(10, 4);
        x.debt(1, 112, 10);
        x.months(3);
        C.due("5: its number is the next", x.swap(0, 999, 5), 2);
        int[] due = {0, 3, 2, 999, 5, 0, 9, 0, 0, 0, 0, 50, 0};
        for (int what = 0; what < due.length; what++) {
            C.due("5: the new one, " + what, x.debtOf(2, 3, what), due[what]);
        }
        for (int month = 0; month <= 14; month++) {
            C.due("5: it falls due in " + month, x.debtOf(2, month, 9), month == 8 || month == 13 ? 999 : 0);
            C.due("5: the old one doesn't in " + month, x.debtOf(0, month, 9), 0);
        }
        C.due("5: the old one is VOID", x.debtOf(0, 3, 10), 1);
        C.due("44: one is VOID", x.many(4), 1);
        C.due("15: it is VOID", x.voids(0), DebtCouncil.STATE);
        C.due("23: it is VOID", x.swap(0, 999, 1), DebtCouncil.STATE);
        C.due("22: 50, if the bond was not there yet", x.knows(3, 2), 50);
        C.due("23: the new one may be offered, too", x.swap(2, 999, 1), 3);
    }

    private static void swapTakesTheLastPlace() {
        DebtCouncil x = new DebtCouncil();
        for (int i = 0; i < 15; i++) {
            x.debt(0, 100, 10);
        }
        C.due("23: the sixteenth", x.swap(0, 999, 1), 15);
        C.due("23: FULL", x.swap(1, 999, 1), DebtCouncil.FULL);
        C.due("23: it isn't VOID", x.debtOf(1, 0, 10), 0);
        C.due("44: one is VOID", x.many(4), 1);
        C.due("23: STATE ahead of FULL", x.swap(0, 999, 1), DebtCouncil.STATE);
        C.due("23: BAD ahead of STATE", x.swap(0, 1000, 1), DebtCouncil.BAD);
        C.due("24: the offer stands all the same", x.offer(1, 1), 5);
    }

    /** Of each offer: the HOUSE takes it, and doesn't take one less. */
    private static void offersTriedOut() {
        for (int seed = 0; seed < 120; seed++) {
            int sum = 1 + seed * 83 % 999;
            int every = 1 + seed % 12;
            int at = 1 + seed * 5 % 12;
            DebtCouncil x = bond(sum, every);
            x.months(1 + seed % 3);
            int price = x.debtOf(0, 0, 11);
            int offer = x.offer(0, at);
            int due = DebtCouncil.NONE;
            for (int v = 999; v >= 1; v--) {
                due = v * 100 / at >= sum * price / every ? v : due;
            }
            C.due("24: seed " + seed, offer, due);
            if (offer > 1) {
                C.due("23: one less, seed " + seed, x.swap(0, offer - 1, at), DebtCouncil.STATE);
            }
            if (offer > 0) {
                C.due("23: taken, seed " + seed, x.swap(0, offer, at), 1);
            }
        }
    }

    private static void railwayMiles() {
        int[][] all = {{0, 0}, {9, 0}, {10, 1}, {19, 1}, {20, 2}, {399, 39}, {400, 40}};
        for (int[] one : all) {
            DebtCouncil x = new DebtCouncil();
            x.province(0, 1);
            x.yield1(0, 0, 1);
            x.yield1(0, 1, 1);
            x.yield1(0, 2, 1);
            x.harvest(3, 0);
            x.harvest(4, 33);
            x.harvest(5, 34);
            x.harvest(6, 200);
            x.railway(0, one[0], 99);
            // 3 in eight months, 0, 0, 1 and 6
            C.due("5: earns with " + one[0], x.railwayOf(0, 0), 31 * one[1]);
            C.due("26: GUARANTEE above that", x.railwayOf(0, 1), 99 * one[0] - 31 * one[1]);
            C.due("26: it never BEARS", x.railwayOf(0, 2), DebtCouncil.NONE);
        }
        DebtCouncil x = new DebtCouncil();
        x.province(99, 1);
        for (int sort = 0; sort < 3; sort++) {
            x.yield1(0, sort, 999);
        }
        for (int month = 0; month < 12; month++) {
            x.harvest(month, 200);
        }
        x.railway(0, 400, 1);
        C.due("5: the most", x.railwayOf(0, 0), 12 * 5994 * 40);
        C.due("26: 0 at least", x.railwayOf(0, 1), 0);
        C.due("26: from 10 on", x.railwayOf(0, 2), 10);
        x.months(1);
        C.due("5: in MUTINY, too", x.railwayOf(0, 0), 12 * 5994 * 40);
    }

    private static void bearsTriedOut() {
        for (int seed = 0; seed < 200; seed++) {
            int yield = seed * 3 % 89;
            int guarantee = 1 + seed * 7 % 99;
            DebtCouncil x = new DebtCouncil();
            x.province(0, 1);
            x.yield1(0, seed % 3, yield);
            x.railway(0, seed, guarantee);
            int due = DebtCouncil.NONE;
            for (int miles = 400; miles >= 0 && 12 * yield * (miles / 10) >= guarantee * miles; miles--) {
                due = miles;
            }
            C.due("5: BEARS, seed " + seed, x.railwayOf(0, 2), due);
        }
    }

    private static void takingsJustLawful() {
        DebtCouncil x = new DebtCouncil();
        Checks.read(x, "take 1 of customs; take 10 of customs; take 999 of salt;");
        x.taking(0, 9);
        x.taking(0, 1);
        C.due("6: just as much", x.takings(0), 0);
        C.due("6: just as much", x.takings(1), 0);
        x.taking(0, 1);
        C.due("6: one more", x.takings(0), 4);
        C.due("6: one more", x.takings(1), 1);
        x.taking(0, 5);
        C.due("6: all behind it, too", x.takings(0), 12);
        C.due("6: all behind it, too", x.takings(1), 6);
        x.taking(1, 999);
        C.due("6: another SORT", x.takings(0), 12);
        x.taking(2, 1);
        C.due("6: 0 without a take", x.takings(0), 12 + 32);
        C.due("6: 0 without a take", x.takings(1), 7);
        x.taking(1, 1);
        C.due("6: one above 999", x.takings(0), 12 + 32 + 64);
    }

    private static void takingsWithoutAText() {
        DebtCouncil x = new DebtCouncil();
        for (int i = 0; i < 16; i++) {
            C.due("29: numbered as they come", x.taking(i % 3, 1 + i), i);
        }
        C.due("6: all are UNLAWFUL", x.takings(0), 65535);
        C.due("6: all is GONE ROUND", x.takings(1), 136);
        Checks.read(x, "take 0 of customs; take 1 of salt;");
        // salt: 2, 5, 8, 11, 14
        C.due("6: take 0, take 1", x.takings(0), 65535);
        C.due("6: take 0, take 1", x.takings(1), 135);
    }

    private static void takingsOfUnlikeSortsAndMonths() {
        DebtCouncil x = new DebtCouncil();
        Checks.read(x, "take 10 of customs;");
        x.taking(0, 10);
        x.months(1);
        x.taking(0, 10);
        C.due("6: each MONTH anew", x.takings(0), 0);
        Checks.read(x, "take 9 of customs;");
        C.due("6: THE STATUTE of that MONTH", x.takings(0), 2);
        x.months(1);
        x.taking(0, 9);
        C.due("6: THE STATUTE that was read ahead", x.takings(0), 2);
        Checks.read(x, "");
        C.due("6: an empty TEXT", x.takings(0), 6);
        C.due("6: GONE ROUND of each MONTH", x.takings(1), 10);
    }

    private static void setOfNone() {
        DebtCouncil x = new DebtCouncil();
        C.due("6: of none, with NEED 0", x.choose(0), 0);
        C.due("6: of none, with NEED 1", x.choose(1), DebtCouncil.NONE);
        x.choice(-1, 999, 999, 0);
        C.due("6: it would bring less than 0 in a YEAR", x.choose(0), 0);
        x.choice(1, 0, 0, 0);
        C.due("6: the greatest least year is 0 with both", x.choose(0), 0);
        x.choice(999, 999, 999, 1);
        C.due("6: the fewest sink", x.choose(0), 0);
    }

    private static void holdsJustSo() {
        for (int year = 0; year < 3; year++) {
            DebtCouncil x = new DebtCouncil();
            x.choice(year == 0 ? 5 : 9, year == 1 ? 5 : 9, year == 2 ? 5 : 9, 9);
            C.due("6: NEED or more in each YEAR", x.choose(5), 1);
            C.due("6: less in YEAR " + year, x.choose(6), DebtCouncil.NONE);
            x.choice(year == 0 ? 1 : 0, year == 1 ? 1 : 0, year == 2 ? 1 : 0, 9);
            C.due("6: together", x.choose(6), 3);
            C.due("6: together", x.choose(7), DebtCouncil.NONE);
        }
        DebtCouncil x = new DebtCouncil();
        for (int i = 0; i < 8; i++) {
            x.choice(999, 999, 999, 9);
        }
        C.due("6: all 8", x.choose(7992), 255);
        C.due("6: more than all bring", x.choose(7993), DebtCouncil.NONE);
        C.due("6: NEED 9999", x.choose(9999), DebtCouncil.NONE);
        DebtCouncil y = new DebtCouncil();
        for (int i = 0; i < 8; i++) {
            y.choice(-999, -999, -999, 0);
        }
        C.due("6: all bring less", y.choose(0), 0);
        C.due("6: all bring less", y.choose(1), DebtCouncil.NONE);
    }

    private static void bestOfSeveral() {
        DebtCouncil x = new DebtCouncil();
        x.choice(5, 5, 5, 2);
        x.choice(4, 4, 4, 1);
        x.choice(9, 9, 3, 1);
        x.choice(4, 5, 6, 1);
        C.due("6: fewest sink, the greatest least year, the least bits", x.choose(3), 2);
        C.due("6: fewest sink, the greatest least year, the least bits", x.choose(4), 2);
        C.due("6: two that sink 2, or the one: the greatest least year", x.choose(5), 12);
        C.due("6: of 8 and 9 in the least year", x.choose(8), 12);
        x.choice(0, 0, 0, 0);
        C.due("6: the least bits, without one that brings nothing", x.choose(4), 2);
        C.due("6: the least bits", x.choose(1), 2);
    }

    private static void choicesTriedOut() {
        for (int seed = 0; seed < 60; seed++) {
            int[][] all = new int[8][4];
            DebtCouncil x = new DebtCouncil();
            for (int i = 0; i < 8; i++) {
                for (int k = 0; k < 4; k++) {
                    int r = (seed * 13 + i * 7 + k * 3) * (i + 2) * (k + 5) * 7919 >>> 2;
                    all[i][k] = k == 3 ? r % 4 : r % 13 - 4;
                }
                x.choice(all[i][0], all[i][1], all[i][2], all[i][3]);
            }
            int need = seed % 12;
            int best = -3;
            long bestKey = Long.MAX_VALUE;
            for (int bits = 0; bits < 256; bits++) {
                int[] sums = new int[4];
                for (int i = 0; i < 8; i++) {
                    for (int k = 0; k < 4 && (bits >> i & 1) == 1; k++) {
                        sums[k] += all[i][k];
                    }
                }
                int least = Math.min(sums[0], Math.min(sums[1], sums[2]));
                long key = sums[3] * 1000000L - least * 1000L + bits;
                if (least >= need && key < bestKey) {
                    best = bits;
                    bestKey = key;
                }
            }
            C.due("6: BEST SET, seed " + seed, x.choose(need), best);
            C.due("36: its ROWS are right, seed " + seed, x.judge(best < 0 ? 0 : need), 0);
            C.due("32: ROWS, seed " + seed, x.many(10), Integer.bitCount(Math.max(0, best)));
        }
    }

    private static void rowsAreOfTheLatest() {
        DebtCouncil x = new DebtCouncil();
        for (int i = 0; i < 8; i++) {
            x.choice(2, 1, 3, 0);
        }
        C.due("32: all 8", x.choose(0), 255);
        C.due("32: all 8", x.choose(8), 255);
        C.due("32: ROWS are told anew, not behind one another", x.many(10), 8);
        for (int i = 0; i < 8; i++) {
            C.due("33: the CHOICE", x.row(i, 0), i);
            C.due("33: the number", x.row(i, 1), i + 1);
        }
        C.due("33: none behind", x.row(8, 0), -9);
        C.due("32: none HOLDS", x.choose(9), DebtCouncil.NONE);
        C.due("32: ROWS stand then", x.many(10), 8);
        for (int i = 7; i >= 0; i--) {
            C.due("35: how many there are", x.dropRow(), i);
        }
        C.due("35: there are none", x.dropRow(), DebtCouncil.NONE);
        C.due("33: there are none", x.row(0, 0), -9);
        C.due("34: there are none", x.alterRow(0, 0, 1), -9);
        x.choose(8);
        C.due("32: told anew", x.many(10), 8);
    }

    private static void readerTakesRows() {
        DebtCouncil x = new DebtCouncil();
        C.due("36: no ROWS, NEED 0", x.judge(0), 0);
        C.due("36: no ROWS, NEED 1", x.judge(1), 1);
        x.choice(5, 6, 7, 0);
        x.choice(1, -1, 1, 0);
        x.choice(2, 2, -2, 0);
        C.due("32: all three", x.choose(5), 7);
        C.due("33: ROW 0", x.row(0, 1), 5);
        C.due("33: ROW 1", x.row(1, 1), 5);
        C.due("33: ROW 2", x.row(2, 1), 6);
        C.due("36: NEED 6", x.judge(6), 0);
        C.due("36: how many there are, and 1 more", x.judge(7), 4);
        C.due("36: NEED 0", x.judge(0), 0);
        C.due("36: NEED 9999", x.judge(9999), 4);
        x.dropRow();
        C.due("36: one less", x.judge(5), 0);
        C.due("36: one less", x.judge(6), 3);
        x.dropRow();
        C.due("36: one left", x.judge(5), 0);
        C.due("36: one left", x.judge(6), 2);
        x.dropRow();
        C.due("36: none left", x.judge(0), 0);
        C.due("36: none left", x.judge(1), 1);
    }

    private static void readerOfAlteredRows() {
        DebtCouncil x = new DebtCouncil();
        x.choice(5, 5, 5, 0);
        x.choice(5, 5, 5, 0);
        x.choice(5, 5, 5, 0);
        x.choose(15);
        int[] wrong = {Integer.MIN_VALUE, -1, 1, 2, 3, Integer.MAX_VALUE};
        for (int v : wrong) {
            x.alterRow(0, 0, v);
            // ROW 0 may tell CHOICE 1 or 2, but then ROW 1 is not rising
            C.due("36: CHOICE " + v + " in ROW 0", x.judge(15), v == 1 || v == 2 ? 2 : 1);
        }
        x.alterRow(0, 0, 0);
        for (int v : new int[] {Integer.MIN_VALUE, 4, 6, Integer.MAX_VALUE}) {
            x.alterRow(0, 1, v);
            C.due("36: the number " + v + " in ROW 0", x.judge(15), 1);
        }
        x.alterRow(0, 1, 5);
        C.due("36: right again", x.judge(15), 0);
        x.alterRow(2, 0, 3);
        C.due("36: CHOICE 3 isn't there", x.judge(15), 3);
        x.choice(5, 5, 5, 0);
        C.due("36: CHOICE 3 is there", x.judge(15), 0);
        x.alterRow(1, 0, 0);
        C.due("36: not rising ahead of doesn't HOLD", x.judge(9999), 2);
        x.alterRow(0, 1, 99);
        C.due("36: the first that isn't so", x.judge(9999), 1);
    }

    /** A CHOICE that isn't there brings nothing: the number beside it may look right all the same. */
    private static void readerOfMissingChoices() {
        DebtCouncil x = new DebtCouncil();
        x.choice(5, 5, 5, 0);
        x.choice(5, 5, 5, 0);
        x.choose(10);
        for (int missing : new int[] {2, 7, 8, 99, Integer.MAX_VALUE}) {
            x.alterRow(1, 0, missing);
            x.alterRow(1, 1, 5);
            C.due("36: CHOICE " + missing + " isn't there, with the number of ROW 0", x.judge(5), 2);
            C.due("36: it isn't so, ahead of doesn't HOLD", x.judge(6), 2);
        }
        x.dropRow();
        for (int missing : new int[] {Integer.MIN_VALUE, -1, 2, 8, Integer.MAX_VALUE}) {
            x.alterRow(0, 0, missing);
            x.alterRow(0, 1, 0);
            C.due("36: CHOICE " + missing + " isn't there, with 0", x.judge(0), 1);
        }
        DebtCouncil y = new DebtCouncil();
        y.keep();
        y.choice(0, 0, 0, 0);
        y.choice(1, 1, 1, 0);
        C.due("32: CHOICE 1", y.choose(1), 2);
        y.alterRow(0, 0, 0);
        y.alterRow(0, 1, 0);
        C.due("36: CHOICE 0 is there", y.judge(0), 0);
        y.again();
        C.due("36: CHOICE 0 is there no more", y.judge(0), 1);
    }
}
