/** Promises 13 to 20: debts, texts, statutes, and how pots are shared. */
final class DebtsTest {
    private static final Checks C = new Checks();

    public static void main(String[] args) {
        debt();
        debtOf();
        fallsDue();
        voids();
        feed();
        texts();
        faults();
        manyLines();
        versions();
        line();
        conds();
        why();
        gets();
        sharing();
        arrears();
        C.end();
    }

    private static void debt() {
        DebtCouncil x = new DebtCouncil();
        C.due("13: house 5", x.debt(5, 100, 1), DebtCouncil.BAD);
        C.due("13: house -1", x.debt(-1, 100, 1), DebtCouncil.BAD);
        C.due("13: sum 0", x.debt(0, 100, 0), DebtCouncil.BAD);
        C.due("13: sum 1000", x.debt(0, 100, 1000), DebtCouncil.BAD);
        C.due("13: every 0", x.debt(0, 32, 1), DebtCouncil.BAD);
        C.due("13: every 13", x.debt(0, 1300, 1), DebtCouncil.BAD);
        C.due("13: form 4", x.debt(0, 140, 1), DebtCouncil.BAD);
        C.due("13: form 9", x.debt(0, 190, 1), DebtCouncil.BAD);
        C.due("13: sort 3", x.debt(0, 103, 1), DebtCouncil.BAD);
        C.due("13: below 0", x.debt(0, -100, 1), DebtCouncil.BAD);
        C.due("13: lowest", x.debt(0, Integer.MIN_VALUE, 1), DebtCouncil.BAD);
        C.due("13: highest", x.debt(0, Integer.MAX_VALUE, 1), DebtCouncil.BAD);
        C.due("13: debt(4, 1232, 999)", x.debt(4, 1232, 999), 0);
        C.due("13: EVERY", x.debtOf(0, 0, 4), 12);
        C.due("13: FORM", x.debtOf(0, 0, 0), 3);
        C.due("13: SORT", x.debtOf(0, 0, 2), 2);
        for (int i = 1; i < 16; i++) {
            C.due("13: number", x.debt(0, 100, 1), i);
        }
        C.due("13: the seventeenth", x.debt(0, 100, 1), DebtCouncil.FULL);
        C.due("13: the seventeenth, BAD", x.debt(0, 100, 0), DebtCouncil.BAD);
        C.due("13: many(3)", x.many(3), 16);
    }

    private static void debtOf() {
        DebtCouncil x = new DebtCouncil();
        x.months(4);
        x.debt(3, 301, 99);
        x.debt(2, 110, 5);
        Checks.read(x, "rank 4 if sum=99; cut 10; bar if since=6;");
        int[] due = {0, 3, 1, 99, 3, 0, 4, 10, 0, 89, 0, 50, 0};
        for (int what = 0; what < due.length; what++) {
            C.due("14: debtOf(0, 7, " + what + ")", x.debtOf(0, 7, what), due[what]);
        }
        C.due("14: RANK without", x.debtOf(1, 7, 6), 9);
        C.due("14: BARRED", x.debtOf(0, 10, 8), 1);
        C.due("14: FALLS of a BARRED one", x.debtOf(0, 10, 9), 0);
        C.due("14: PRICE of no bond", x.debtOf(1, 7, 11), DebtCouncil.NONE);
        C.due("14: no DEBT", x.debtOf(2, 7, 0), DebtCouncil.BAD);
        C.due("14: no DEBT", x.debtOf(-1, 7, 0), DebtCouncil.BAD);
        C.due("14: no MONTH", x.debtOf(0, 600, 0), DebtCouncil.BAD);
        C.due("14: no MONTH", x.debtOf(0, -1, 0), DebtCouncil.BAD);
        C.due("14: no what", x.debtOf(0, 7, 13), DebtCouncil.BAD);
        C.due("14: no what", x.debtOf(0, 7, -1), DebtCouncil.BAD);
        C.due("14: no CUT ahead of the TEXT", x.debtOf(0, 3, 7), 0);
    }

    private static void fallsDue() {
        DebtCouncil x = new DebtCouncil();
        x.months(5);
        x.debt(0, 400, 10);
        for (int month = 0; month < 30; month++) {
            int due = month == 9 || month == 13 || month == 17 || month == 21 || month == 25 || month == 29 ? 10 : 0;
            C.due("14: FALLS in " + month, x.debtOf(0, month, 9), due);
        }
        Checks.read(x, "rank 3 if since=0; rank 4 if since=1;");
        C.due("14: since, as it comes", x.debtOf(0, 5, 6), 3);
        C.due("14: since, a month on", x.debtOf(0, 6, 6), 4);
        C.due("14: since, later", x.debtOf(0, 7, 6), 9);
        DebtCouncil y = new DebtCouncil();
        Checks.read(y, "rank 3 if since=0;");
        y.months(5);
        y.debt(0, 100, 1);
        C.due("14: since is 0 at least", y.debtOf(0, 2, 6), 3);
        x = new DebtCouncil();
        x.months(5);
        x.debt(0, 400, 10);
        C.due("14: cut up", Checks.read(x, "cut 1;"), 0);
        C.due("14: cut up", x.debtOf(0, 9, 9), 9);
        C.due("14: cut whole", Checks.read(x, "cut 100;"), 1);
        C.due("14: cut whole", x.debtOf(0, 9, 9), 0);
        x.voids(0);
        C.due("14: void", Checks.read(x, ""), 2);
        C.due("14: void", x.debtOf(0, 9, 9), 0);
    }

    private static void voids() {
        DebtCouncil x = new DebtCouncil();
        C.due("15: no DEBT", x.voids(0), DebtCouncil.BAD);
        x.debt(0, 100, 30);
        x.months(2);
        C.due("15: voids(0)", x.voids(0), 60);
        C.due("15: voids(0)", x.voids(0), DebtCouncil.STATE);
        C.due("15: voids(-1)", x.voids(-1), DebtCouncil.BAD);
        C.due("15: VOID", x.debtOf(0, 0, 10), 1);
        C.due("15: many(4)", x.many(4), 1);
        x.months(5);
        C.due("15: OWED stays", x.debtOf(0, 0, 5), 60);
        C.due("15: OWED stays in all", x.many(14), 60);
    }

    private static void feed() {
        DebtCouncil x = new DebtCouncil();
        C.due("16: feed(.., 0)", x.feed(0, 0), DebtCouncil.BAD);
        C.due("16: feed(.., 9)", x.feed(0, 9), DebtCouncil.BAD);
        C.due("16: feed(.., -1)", x.feed(0, -1), DebtCouncil.BAD);
        for (int i = 1; i <= 29; i++) {
            C.due("16: feed", x.feed(0x2020202020202020L, 8), 8 * i);
        }
        C.due("16: feed 7", x.feed(0x2020202020202020L, 7), 239);
        C.due("16: feed 2", x.feed(0x2020L, 2), DebtCouncil.FULL);
        C.due("16: BAD ahead of FULL", x.feed(0, 9), DebtCouncil.BAD);
        C.due("16: feed 1", x.feed(0xff20L, 1), 240);
        C.due("16: feed 1", x.feed(0x20L, 1), DebtCouncil.FULL);
        C.due("16: many(12)", x.many(12), 240);
        C.due("16: blanks alone", x.read(), 0);
        C.due("16: used up", x.many(12), 0);
        C.due("16: the lowest first", x.feed(0x3b3520657261_7073L, 8), 8);
        C.due("16: the lowest first", x.read(), 1);
        C.due("16: spare 5", x.line(1, 0, 0), 4);
        C.due("16: spare 5", x.line(1, 0, 1), 5);
    }

    private static void texts() {
        String[] texts = {"", "   ", "rank 0;", "rank9;", "rank 009 ;", " cut 100;", "cut 0;", "spare 100;", "spare0;",
            "take 999 of tobacco;", "take 0of salt;", "rank 5if customs;", "bar if not not not salt;",
            "bar if (((( salt))));", "bar if (salt) and (salt and (salt or (salt))) or ((((salt))));",
            "bar if ((((salt))) and (((salt))));"};
        for (String text : texts) {
            C.due("17: " + text, Checks.readOf(text), 0);
        }
        C.due("17: every FACT", Checks.readOf("bar if form<0 or house=4 or sum>999 or every=1 or owed=2 or since>3;"), 0);
        C.due("17: no blanks", Checks.readOf("cut 5 if sum<5and salt;take 1of salt;rank 1;"), 0);
    }

    private static void fault(String text, int place) {
        C.due("17: FAULT of " + text, Checks.readOf(text), -100 - place);
    }

    private static void faults() {
        fault("rank", 4);
        fault("rank  ", 6);
        fault("rank 5", 6);
        fault("rank 10;", 5);
        fault("rank 0001;", 5);
        fault("rank five;", 5);
        fault("rank 5 5;", 7);
        fault("rank 5 salt;", 7);
        fault("rank 5 if;", 9);
        fault("rank 5 if ", 10);
        fault("rank 5; ;", 8);
        fault(";", 0);
        fault("  x", 2);
        fault("Rank 5;", 0);
        fault("ranks 5;", 0);
        fault("rankz 5;", 0);
        fault("ranka 5;", 0);
        fault("`", 0);
        fault("{", 0);
        fault("rank /;", 5);
        fault("rank :;", 5);
        fault("ran 5;", 0);
        fault("5", 0);
        fault("cut 101;", 4);
        fault("spare 101;", 6);
        fault("spare 5 if salt;", 8);
        fault("take 1000 of salt;", 5);
        fault("take 5 salt;", 7);
        fault("take 5 of sum;", 10);
        fault("take 5 of;", 9);
        fault("take 5 of salt if salt;", 15);
        fault("bar;", 3);
        fault("bar salt;", 4);
        fault("bar 5 if salt;", 4);
        fault("bar if sum;", 10);
        fault("bar if sum 5;", 11);
        fault("bar if sum<;", 11);
        fault("bar if sum<=5;", 11);
        fault("bar if sum<1000;", 11);
        fault("bar if sum<salt;", 11);
        fault("bar if 5<sum;", 7);
        fault("bar if salt salt;", 12);
        fault("bar if salt and;", 15);
        fault("bar if salt or;", 14);
        fault("bar if (salt or);", 15);
        fault("bar if (salt and);", 16);
        fault("bar if salt or and salt;", 15);
        fault("bar if not;", 10);
        fault("bar if salt not;", 12);
        fault("bar if (salt;", 12);
        fault("bar if ((((salt))) or ((((salt", 25);
        fault("bar if salt);", 11);
        fault("bar if ();", 8);
        fault("bar if (((((salt)))));", 11);
        fault("bar if ((((salt))) and ((((salt)))));", 26);
        fault("bar if notsalt;", 7);
        fault("bar if salt\n;", 11);
        fault("bar if salt\u00ff;", 11);
        fault("bar if salt\u0000;", 11);
        fault("bar if salt,", 11);
        fault("rank 5 if sum>12 3;", 17);
        fault("bar if sum > 3", 14);
    }

    private static void manyLines() {
        String line = "rank 1;";
        fault(line.repeat(10) + "  rank 1;", 72);
        fault(line.repeat(10) + ";", 70);
        C.due("17: ten LINES", Checks.readOf(line.repeat(10) + "  "), 0);
    }

    private static void versions() {
        DebtCouncil x = new DebtCouncil();
        x.debt(0, 100, 10);
        for (int i = 0; i < 8; i++) {
            C.due("17: VERSION", Checks.read(x, "rank " + i + ";"), i);
            if (i % 2 == 1) {
                x.months(1);
            }
        }
        C.due("17: FULL", Checks.read(x, "rank 1;"), DebtCouncil.FULL);
        C.due("17: used up", x.many(12), 0);
        C.due("17: FULL", x.read(), DebtCouncil.FULL);
        C.due("17: FAULT ahead of FULL", Checks.read(x, "rank"), -104);
        C.due("17: used up", x.many(12), 0);
        C.due("17: many(5)", x.many(5), 8);
        C.due("17: the latest of month 0", x.debtOf(0, 0, 6), 1);
        C.due("17: the latest of month 1", x.debtOf(0, 1, 6), 3);
        C.due("17: the latest of month 3", x.debtOf(0, 3, 6), 7);
        C.due("17: later", x.debtOf(0, 599, 6), 7);
    }

    private static void line() {
        DebtCouncil x = new DebtCouncil();
        Checks.read(x, "rank 3; rank 4 if salt; cut 5; bar if salt; take 7 of tobacco; spare 8;");
        int[][] due = {{0, 3, 0, -9}, {0, 4, 1, -9}, {1, 5, 0, -9}, {2, -9, 1, -9}, {3, 7, 0, 2}, {4, 8, 0, -9}};
        for (int i = 0; i < due.length; i++) {
            for (int what = 0; what < 4; what++) {
                C.due("18: line(0, " + i + ", " + what + ")", x.line(0, i, what), due[i][what]);
            }
        }
        C.due("18: no LINE", x.line(0, 6, 0), -9);
        C.due("18: no LINE", x.line(0, -1, 0), -9);
        C.due("18: no VERSION", x.line(1, 0, 0), -9);
        C.due("18: no VERSION", x.line(-1, 0, 0), -9);
        C.due("18: no what", x.line(0, 0, 4), -9);
        C.due("18: no what", x.line(0, 0, -1), -9);
    }

    /** Whether a COND holds for DEBT 1: a pledge of HOUSE 2 on salt, 100 each 3 MONTHS, of MONTH 2, 46 OWED. */
    private static void holds(String cond, boolean due) {
        DebtCouncil x = new DebtCouncil();
        x.months(2);
        x.debt(0, 100, 1);
        x.province(0, 1);
        x.debt(2, 311, 100);
        x.months(2);
        x.yield1(0, 1, 600);
        x.rate(1, 10);
        x.months(1);
        // 60 due, 6 go round: 54 of 100 are paid
        C.due("the OWED that conds tells of", x.debtOf(1, 5, 5), 46);
        C.due("17: " + cond, Checks.read(x, "bar if " + cond + ";"), 0);
        C.due("19: " + cond, x.debtOf(1, 8, 8), due ? 1 : 0);
    }

    private static void conds() {
        holds("form=1", true);
        holds("house=2", true);
        holds("sum=100", true);
        holds("every=3", true);
        holds("owed=46", true);
        holds("since=6", true);
        holds("form>1", false);
        holds("form<1", false);
        holds("form<2", true);
        holds("form>0", true);
        holds("salt", true);
        holds("customs", false);
        holds("tobacco", false);
        holds("not salt", false);
        holds("not not salt", true);
        holds("salt or salt and customs", true);
        holds("customs and salt or salt", true);
        holds("customs and (salt or salt)", false);
        holds("not customs and salt", true);
        holds("not (customs and salt)", true);
        holds("not (salt or customs)", false);
        holds("not salt or salt", true);
        holds("customs or tobacco or salt", true);
        holds("salt and salt and customs", false);
        holds("not (not (not (not salt)))", true);
        holds("(salt and (form=1 and (house=2 and (sum=100 and every=3))))", true);
        holds("(salt and (form=1 and (house=2 and (sum=100 and every=4))))", false);
    }

    private static void why() {
        DebtCouncil x = new DebtCouncil();
        x.debt(0, 100, 10);
        x.debt(0, 101, 20);
        C.due("19: no TEXT", x.why(0, 0, 0), DebtCouncil.NONE);
        Checks.read(x, "bar if sum>20; rank 1 if salt; cut 2 if customs; rank 3; rank 4; bar if salt; bar if sum>10;");
        C.due("19: RANK", x.why(0, 0, 0), 3);
        C.due("19: RANK", x.why(1, 0, 0), 1);
        C.due("19: CUT", x.why(0, 0, 1), 2);
        C.due("19: CUT", x.why(1, 0, 1), DebtCouncil.NONE);
        C.due("19: bar", x.why(0, 0, 2), DebtCouncil.NONE);
        C.due("19: bar", x.why(1, 0, 2), 5);
        C.due("19: no DEBT", x.why(2, 0, 0), DebtCouncil.BAD);
        C.due("19: no MONTH", x.why(0, 600, 0), DebtCouncil.BAD);
        C.due("19: no what", x.why(0, 0, 3), DebtCouncil.BAD);
        C.due("19: no what", x.why(0, 0, -1), DebtCouncil.BAD);
    }

    private static void gets() {
        DebtCouncil x = new DebtCouncil();
        C.due("20: no DEBT", x.gets(0, 0, 0), DebtCouncil.BAD);
        x.debt(0, 100, 10);
        x.debt(0, 100, 20);
        x.debt(0, 100, 40);
        x.debt(0, 101, 40);
        Checks.read(x, "rank 1 if sum=10; rank 2; bar if sum=40 and customs; spare 90; spare 10;");
        C.due("20: a pot below 0", x.gets(0, 1, -1), DebtCouncil.BAD);
        C.due("20: a pot above 9999", x.gets(0, 1, 10000), DebtCouncil.BAD);
        C.due("20: no MONTH", x.gets(0, 600, 1), DebtCouncil.BAD);
        C.due("20: nothing falls", x.gets(0, 0, 9999), 0);
        C.due("20: all", x.gets(0, 1, 9999), 10);
        C.due("20: the latest spare", x.gets(1, 1, 20), 8);
        C.due("20: the latest spare, cut", x.gets(1, 1, 19), 8);
        C.due("20: barred", x.gets(2, 1, 9999), 0);
        C.due("20: another sort", x.gets(3, 1, 30), 27);
        x.voids(3);
        C.due("20: void", x.gets(3, 1, 30), 0);
        C.due("20: nothing changed", x.debtOf(0, 0, 12), 0);
    }

    private static void sharing() {
        DebtCouncil x = new DebtCouncil();
        x.debt(0, 100, 10);
        x.debt(0, 100, 20);
        x.debt(0, 100, 30);
        x.debt(0, 100, 7);
        Checks.read(x, "rank 5 if sum=7; rank 4;");
        // 50 by 60: 8.3, 16.6, 25: 49, and 1 for the first
        C.due("20: part", x.gets(0, 1, 50), 9);
        C.due("20: part", x.gets(1, 1, 50), 16);
        C.due("20: part", x.gets(2, 1, 50), 25);
        C.due("20: later RANKS", x.gets(3, 1, 50), 0);
        // 59 by 60: 9.8, 19.6, 29.5: 57, and 1 for the first and second
        C.due("20: part", x.gets(0, 1, 59), 10);
        C.due("20: part", x.gets(1, 1, 59), 20);
        C.due("20: part", x.gets(2, 1, 59), 29);
        C.due("20: just enough", x.gets(2, 1, 60), 30);
        C.due("20: just enough", x.gets(3, 1, 60), 0);
        C.due("20: the rest", x.gets(3, 1, 63), 3);
        C.due("20: all", x.gets(3, 1, 67), 7);
    }

    private static void arrears() {
        DebtCouncil x = new DebtCouncil();
        x.province(0, 1);
        x.yield1(0, 0, 100);
        x.rate(0, 50);
        x.debt(0, 100, 20);
        x.debt(1, 200, 30);
        // 25 each month: month 1: 20 and 5 left; 2: 20 + 30 of 25: 10, 15; 3: 10 + 20, 15 by 25: 16.6, 8.3 -> 17, 8
        x.months(1);
        C.due("3 (2): TREASURY", x.many(11), 5);
        x.months(1);
        C.due("3 (2): OWED", x.debtOf(0, 0, 5), 10);
        C.due("3 (2): OWED", x.debtOf(1, 0, 5), 15);
        x.months(1);
        C.due("3 (2): OWED", x.debtOf(0, 0, 5), 13);
        C.due("3 (2): OWED", x.debtOf(1, 0, 5), 7);
        C.due("3 (2): got", x.debtOf(0, 0, 12), 47);
        C.due("3 (2): got", x.debtOf(1, 0, 12), 23);
        C.due("3 (2): OWED in all", x.many(14), 20);
        Checks.read(x, "bar if house=1;");
        x.months(3);
        C.due("3 (2): OWED of a BARRED one stays", x.debtOf(1, 0, 5), 7);
        x.debt(2, 102, 999);
        x.months(12);
        C.due("3 (2): 9999 at most", x.debtOf(2, 0, 5), 9999);
        C.due("owed is told as it is now", Checks.read(x, "rank 2 if owed>998; rank 1;"), 1);
        C.due("owed is told as it is now", x.debtOf(2, 0, 6), 9);
        C.due("owed is told as it is now", x.debtOf(2, 18, 6), 2);
    }
}
