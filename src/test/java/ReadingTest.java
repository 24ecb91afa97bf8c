/** THE TAPE and how TEXTS are read (Terms, part 2; promises 16 to 18), sentence by sentence at their edges. */
final class ReadingTest {
    private static final Checks C = new Checks();

    public static void main(String[] args) {
        tapeTakesBytes();
        tapeIsUsedUp();
        tapeFull();
        everyByteAlone();
        everyByteBehindANumber();
        everyByteBehindAName();
        everyByteAsSign();
        emptyTexts();
        tenLines();
        elevenLines();
        blanksPart();
        blanksElsewhere();
        openWithinOneAnother();
        prefixes();
        spoiltTokens();
        onlyTheseNames();
        everyLetterOfNames();
        nothingOfTheTapeBefore();
        linesThatWantMore();
        longConds();
        condsBind();
        versionsFull();
        linesThatThereAre();
        C.end();
    }

    private static void reads(String text) {
        C.due("17: " + text, Checks.readOf(text), 0);
    }

    private static void fault(String text, int place) {
        C.due("17: FAULT of " + text, Checks.readOf(text), -100 - place);
    }

    private static void tapeTakesBytes() {
        long spare7 = 0x3b_37_65_72_61_70_73L;
        for (int n = 1; n <= 8; n++) {
            C.due("16: how many it has", new DebtCouncil().feed(spare7, n), n);
        }
        DebtCouncil x = new DebtCouncil();
        C.due("16: bytes above n don't come", x.feed(spare7 | 0xff00_0000_0000_0000L, 7), 7);
        C.due("16: the lowest first", x.read(), 0);
        C.due("16: spare", x.line(0, 0, 0), 4);
        C.due("16: 7", x.line(0, 0, 1), 7);
        for (int i = 0; i < 7; i++) {
            C.due("16: one by one", x.feed(spare7 >> (8 * i), 1), i + 1);
        }
        C.due("16: one by one", x.read(), 1);
        C.due("16: one by one", x.line(1, 0, 1), 7);
        C.due("16: the eighth is the highest", x.feed(spare7 | 0x20L << 56, 8), 8);
        C.due("16: the eighth is the highest", x.read(), 2);
        x.feed(spare7 | 0x80L << 56, 8);
        C.due("16: a highest byte of 128 can't stand", x.read(), -107);
    }

    private static void tapeIsUsedUp() {
        DebtCouncil x = new DebtCouncil();
        Checks.feedText(x, "rank");
        C.due("17: a FAULT at the end", x.read(), -104);
        C.due("17: used up by a FAULT", x.many(12), 0);
        C.due("17: nothing was read", x.many(5), 0);
        C.due("17: an empty TAPE is an empty TEXT", x.read(), 0);
        C.due("18: it has no LINES", x.line(0, 0, 0), -9);
        Checks.feedText(x, "rank 5;");
        C.due("17: how many behind a FAULT", x.many(12), 7);
        C.due("17: nothing of the earlier TAPE", x.read(), 1);
        C.due("17: used up", x.many(12), 0);
        C.due("18: one LINE", x.line(1, 0, 1), 5);
        C.due("18: one LINE", x.line(1, 1, 0), -9);
    }

    private static void tapeFull() {
        DebtCouncil x = new DebtCouncil();
        String text = "take 12 of salt; ".repeat(9) + "take 345 of tobacco;" + " ".repeat(67);
        C.due("a TEXT of 240", text.length(), 240);
        Checks.feedText(x, text);
        C.due("16: 240 at most", x.many(12), 240);
        C.due("16: FULL", x.feed(' ', 1), DebtCouncil.FULL);
        C.due("16: FULL", x.feed(' ', 8), DebtCouncil.FULL);
        C.due("16: it stands", x.many(12), 240);
        C.due("17: all 240 are read", x.read(), 0);
        C.due("17: the tenth LINE", x.line(0, 9, 1), 345);
        C.due("16: room again", x.feed(' ', 8), 8);
        fault("rank 5;".repeat(9) + " ".repeat(176) + "x", 239);
        fault("rank 5;".repeat(9) + " ".repeat(173) + "rank", 240);
        reads("rank 5;".repeat(9) + " ".repeat(170) + "rank 5;");
    }

    /** A byte of its own: only a blank may stand. */
    private static void everyByteAlone() {
        for (int b = 0; b < 256; b++) {
            String text = String.valueOf((char) b);
            C.due("17: byte " + b, Checks.readOf(text), b == 32 ? 0 : -100);
            C.due("17: byte " + b + " behind blanks", Checks.readOf("  " + text), b == 32 ? 0 : -102);
        }
    }

    private static void everyByteBehindANumber() {
        for (int b = 0; b < 256; b++) {
            int due = b == ';' ? 0 : b == ' ' || isDigit(b) ? -108 : -107;
            C.due("17: spare 5, byte " + b, Checks.readOf("spare 5" + (char) b), due);
        }
    }

    private static void everyByteBehindAName() {
        for (int b = 0; b < 256; b++) {
            // another letter makes another NAME; what stands behind is the 5
            int due = b == ' ' ? 0 : isLetter(b) ? -100 : isDigit(b) ? 0 : -105;
            C.due("17: spare, byte " + b, Checks.readOf("spare" + (char) b + "5;"), due);
        }
    }

    private static void everyByteAsSign() {
        for (int b = 0; b < 256; b++) {
            boolean isSign = b == '<' || b == '=' || b == '>';
            int due = isSign ? 0 : isLetter(b) ? -107 : b == ' ' ? -111 : -110;
            C.due("17: sum, byte " + b, Checks.readOf("bar if sum" + (char) b + "5;"), due);
        }
    }

    private static boolean isDigit(int b) {
        return b >= '0' && b <= '9';
    }

    private static boolean isLetter(int b) {
        return b >= 'a' && b <= 'z';
    }

    private static void emptyTexts() {
        reads("");
        reads(" ");
        reads(" ".repeat(240));
        fault(";", 0);
        fault(" ;", 1);
        fault("rank 1;;", 7);
        fault("rank 1; ;", 8);
    }

    private static void tenLines() {
        String ten = "rank 1;cut 2;bar if salt;take 3 of salt;spare 4;rank 5 if salt;cut 6 if salt;rank 7;cut 8;spare 9;";
        DebtCouncil x = new DebtCouncil();
        C.due("17: ten LINES", Checks.read(x, ten), 0);
        int[] sorts = {0, 1, 2, 3, 4, 0, 1, 0, 1, 4};
        int[] numbers = {1, 2, -9, 3, 4, 5, 6, 7, 8, 9};
        int[] conds = {0, 0, 1, 0, 0, 1, 1, 0, 0, 0};
        for (int i = 0; i < 10; i++) {
            C.due("18: sort of LINE " + i, x.line(0, i, 0), sorts[i]);
            C.due("18: N of LINE " + i, x.line(0, i, 1), numbers[i]);
            C.due("18: COND of LINE " + i, x.line(0, i, 2), conds[i]);
            C.due("18: SORT of LINE " + i, x.line(0, i, 3), i == 3 ? 1 : -9);
        }
        C.due("18: LINE 10", x.line(0, 10, 0), -9);
        fault(ten.substring(0, ten.length() - 1), ten.length() - 1);
    }

    private static void elevenLines() {
        String ten = "cut 10;".repeat(10);
        fault(ten + "cut 10;", 70);
        fault(ten + "   cut 10;", 73);
        fault(ten + "cut", 70);
        fault(ten + "cut 101;", 70);
        fault(ten + "zz", 70);
        fault(ten + ";", 70);
        fault(ten + " 5", 71);
        reads(ten + "   ");
        reads("cut 10;".repeat(9));
        fault("cut 10;".repeat(9) + "cut 101;", 67);
    }

    private static void blanksPart() {
        fault("rank 5ifsalt;", 6);
        fault("rank 5 ifsalt;", 7);
        fault("barif salt;", 0);
        fault("bar if notsalt;", 7);
        fault("bar if not notsalt;", 11);
        fault("bar if saltand salt;", 7);
        fault("bar if salt andsalt;", 12);
        fault("bar if salt orsalt;", 12);
        fault("take 5 ofsalt;", 7);
        fault("rank 5 5;", 7);
        fault("cut 1 00;", 6);
        fault("bar if sum=5 5;", 13);
        reads("cut 1 if sum=5and sum=6or sum=7;");
        reads("take 5of salt;");
        reads("rank5if salt;");
        reads("rank5;cut6;spare7;take8of salt;bar if(not(salt))and(salt)or(salt);");
    }

    private static void blanksElsewhere() {
        reads("  rank   5   if   not   (   sum   <   7   )   ;   cut   8   ;   ");
        reads("bar if not(sum<5)and(sum=6)or(sum>7);");
        fault("ra nk 5;", 0);
        fault("bar if s um<5;", 7);
        fault("rank\t5;", 4);
        fault("rank 5\n;", 6);
        fault("rank 5;\r", 7);
        fault("rank 5;\u00a0", 7);
    }

    private static void openWithinOneAnother() {
        for (int open = 1; open <= 8; open++) {
            String text = "bar if " + "(".repeat(open) + "salt" + ")".repeat(open) + ";";
            C.due("17: " + text, Checks.readOf(text), open <= 4 ? 0 : -111);
        }
        reads("bar if " + "(salt)and".repeat(20) + "(salt);");
        reads("bar if ((((salt)))) and ((((salt)))) or ((((salt))));");
        reads("bar if (((salt) and (salt)) or ((salt) and ((salt))));");
        fault("bar if (((salt) and (salt)) or ((salt) and (((salt)))));", 45);
        fault("bar if ((((salt) and (salt))) or ((salt) and ((((salt))))));", 47);
        fault("bar if (((( (salt", 12);
        fault("bar if ((((not (salt", 15);
        fault("bar if (((((", 11);
        fault("bar if ((((", 11);
        reads("bar if salt; bar if ((((salt)))); bar if ((((salt))));");
        fault("bar if ((((salt))));  bar if (((((salt", 33);
    }

    private static final String[] TOKENS = ("rank 3 if not not ( sum < 5 and form = 1 or not ( tobacco or every > 12 ) ) ; "
        + "cut 100 ; cut 0 if ( house = 4 ) and owed > 0 ; bar if salt or since = 999 ; take 999 of customs ; spare 55 ;")
        .split(" ");

    private static String joined(int count, String blanks) {
        StringBuilder text = new StringBuilder();
        for (int i = 0; i < count; i++) {
            text.append(blanks).append(TOKENS[i]);
        }
        return text.toString();
    }

    /** Where a TEXT ends too early, its FAULT is the end. */
    private static void prefixes() {
        for (int count = 0; count <= TOKENS.length; count++) {
            for (String blanks : new String[] {" ", "  "}) {
                String text = joined(count, blanks);
                boolean isText = count == 0 || TOKENS[count - 1].equals(";");
                if (text.length() < 240) {
                    C.due("17: " + text, Checks.readOf(text), isText ? 0 : -100 - text.length());
                    C.due("17: " + text, Checks.readOf(text + " "), isText ? 0 : -101 - text.length());
                }
            }
        }
    }

    /** A token that can't stand is the FAULT, whatever comes behind it. */
    private static void spoiltTokens() {
        String[] spoilt = {"zz", "Salt", "1000", "0000", "*", ")(", "&", "\u00e9", "\u0000", "ifs", "customss"};
        for (int at = 0; at <= TOKENS.length; at++) {
            String ahead = joined(at, " ");
            for (String token : spoilt) {
                boolean closes = token.equals(")(") && ahead.contains("(") && mayClose(at);
                if (!closes) {
                    fault(ahead + " " + token, ahead.length() + 1);
                    fault(ahead + "  " + token + " salt;", ahead.length() + 2);
                }
            }
        }
    }

    /** Whether a ")" may stand ahead of that token. */
    private static boolean mayClose(int at) {
        int open = 0;
        for (int i = 0; i < at; i++) {
            open += TOKENS[i].equals("(") ? 1 : TOKENS[i].equals(")") ? -1 : 0;
        }
        String latest = TOKENS[at - 1];
        boolean ends = latest.equals(")") || latest.equals("tobacco") || latest.equals("salt")
            || Character.isDigit(latest.charAt(0));
        return open > 0 && ends;
    }

    private static void onlyTheseNames() {
        String[] names = {"rank", "cut", "bar", "take", "spare", "if", "of", "or", "and", "not", "customs", "salt",
            "tobacco", "form", "house", "sum", "every", "owed", "since"};
        String firsts = " rank cut bar take spare ";
        String sorts = " customs salt tobacco ";
        String facts = " form house sum every owed since ";
        for (String name : names) {
            boolean first = firsts.contains(" " + name + " ");
            C.due("17: a LINE of " + name, Checks.readOf(name), first ? -100 - name.length() : -100);
            boolean sort = sorts.contains(" " + name + " ");
            C.due("17: take 5 of " + name, Checks.readOf("take 5 of " + name + ";"), sort ? 0 : -110);
            boolean fact = facts.contains(" " + name + " ");
            int due = sort ? -107 - name.length() : fact ? 0 : name.equals("not") ? -110 : -107;
            C.due("17: bar if " + name, Checks.readOf("bar if " + name + "=5;"), due);
        }
    }

    /** A NAME with one letter another, one more, or one less is another NAME. */
    private static void everyLetterOfNames() {
        String[] texts = {"rank 5 if salt;", "cut 5 if salt;", "bar if salt;", "take 5 of salt;", "spare 5;",
            "bar if customs;", "bar if tobacco;", "bar if form=5;", "bar if house=5;", "bar if sum=5;", "bar if every=5;",
            "bar if owed=5;", "bar if since=5;", "bar if not salt;", "bar if salt and salt;", "bar if salt or salt;"};
        for (String text : texts) {
            reads(text);
            for (int i = 0; i < text.length(); i++) {
                if (isLetter(text.charAt(i))) {
                    spoilLetter(text, i);
                }
            }
        }
    }

    private static void spoilLetter(String text, int i) {
        int start = i;
        while (start > 0 && isLetter(text.charAt(start - 1))) {
            start--;
        }
        String ahead = text.substring(0, i);
        String behind = text.substring(i + 1);
        fault(ahead + "z" + behind, start);
        fault(ahead + text.charAt(i) + text.charAt(i) + behind, start);
        fault(ahead + (char) (text.charAt(i) - 32) + behind, start);
        if (start < i) {
            fault(ahead + behind, start);
        }
    }

    /** What an earlier, longer TAPE had behind the end of this one isn't there. */
    private static void nothingOfTheTapeBefore() {
        String[][] all = {{"spare 55;", "spare 5"}, {"spare 55;", "spare"}, {"spare 55;", "spar"}, {"spare 5;", "spare 5"},
            {"spare 5 ;", "spare 5 "}, {"bar if salt;", "bar if sal"}, {"bar if salt;", "bar if"}, {"rank 5;rank 5;", "rank"}};
        int[] places = {7, 5, 0, 7, 8, 7, 6, 4};
        for (int k = 0; k < all.length; k++) {
            DebtCouncil x = new DebtCouncil();
            C.due("17: " + all[k][0], Checks.read(x, all[k][0]), 0);
            C.due("17: " + all[k][1] + " behind it", Checks.read(x, all[k][1]), -100 - places[k]);
            C.due("17: an empty one behind it", x.read(), 1);
            C.due("18: no LINE of the earlier one", x.line(1, 0, 0), -9);
        }
    }

    private static void linesThatWantMore() {
        fault("take 5;", 6);
        fault("take 5 of;", 9);
        fault("take of salt;", 5);
        fault("take;", 4);
        fault("rank;", 4);
        fault("cut;", 3);
        fault("spare;", 5);
        fault("bar;", 3);
        fault("bar if;", 6);
        fault("rank if salt;", 5);
        fault("cut if salt;", 4);
        fault("rank 5 if;", 9);
        fault("cut 5 if;", 8);
        fault("rank 5 of salt;", 7);
        fault("spare 5 of salt;", 8);
        fault("spare 5 if salt;", 8);
        fault("take 5 if salt;", 7);
        fault("take 5 of salt if salt;", 15);
        fault("bar of salt;", 4);
        fault("bar if salt if salt;", 12);
        fault("if salt;", 0);
        fault("rank 5 rank 5;", 7);
        fault("rank 5 not salt;", 7);
        fault("rank 5 (salt);", 7);
    }

    private static void longConds() {
        for (int nots = 30; nots <= 50; nots++) {
            DebtCouncil x = new DebtCouncil();
            x.debt(0, 101, 1);
            C.due("17: " + nots + " nots", Checks.read(x, "bar if " + "not ".repeat(nots) + "salt;"), 0);
            C.due("2: " + nots + " nots", x.debtOf(0, 0, 8), nots % 2 == 0 ? 1 : 0);
        }
        for (int more = 0; more <= 24; more++) {
            DebtCouncil x = new DebtCouncil();
            x.debt(0, 101, 1);
            Checks.read(x, "bar if " + "sum>1or ".repeat(more) + "salt;");
            C.due("2: the latest of many ors", x.debtOf(0, 0, 8), 1);
            Checks.read(x, "bar if " + "sum=1and ".repeat(more) + "customs;");
            C.due("2: the latest of many ands", x.debtOf(0, 0, 8), 0);
            Checks.read(x, "bar if " + "sum=1and ".repeat(more) + "salt;");
            C.due("2: the latest of many ands", x.debtOf(0, 0, 8), 1);
            C.due("17: long CONDS", x.many(5), 3);
        }
        DebtCouncil x = new DebtCouncil();
        x.debt(0, 101, 1);
        Checks.read(x, "bar if salt and(salt or(customs and(salt or(customs and salt))));");
        C.due("2: within one another", x.debtOf(0, 0, 8), 1);
    }

    private static void binds(String cond, boolean due) {
        DebtCouncil x = new DebtCouncil();
        x.debt(0, 101, 5);
        Checks.read(x, "bar if " + cond + ";");
        C.due("2: " + cond, x.debtOf(0, 0, 8), due ? 1 : 0);
    }

    private static void condsBind() {
        binds("sum<5", false);
        binds("sum<6", true);
        binds("sum=4", false);
        binds("sum=5", true);
        binds("sum=6", false);
        binds("sum>5", false);
        binds("sum>4", true);
        binds("sum>0", true);
        binds("sum<999", true);
        binds("owed=0", true);
        binds("owed>0", false);
        binds("form<0", false);
        binds("salt or customs and customs", true);
        binds("(salt or customs) and customs", false);
        binds("not salt and customs", false);
        binds("not customs or customs", true);
        binds("not (customs or salt)", false);
        binds("not (customs and salt)", true);
        binds("not not salt", true);
        binds("not not not salt", false);
        binds("customs or not (customs or not salt)", true);
        binds("customs and customs or salt", true);
        binds("salt and not customs and not tobacco", true);
    }

    private static void versionsFull() {
        DebtCouncil x = new DebtCouncil();
        for (int i = 0; i < 8; i++) {
            C.due("17: numbered as they come", Checks.read(x, "spare " + i + ";"), i);
        }
        C.due("17: the ninth", Checks.read(x, "spare 8;"), DebtCouncil.FULL);
        C.due("17: used up by FULL", x.many(12), 0);
        C.due("17: an empty TEXT", x.read(), DebtCouncil.FULL);
        C.due("17: FULL behind a FAULT", Checks.read(x, "spare"), -105);
        C.due("17: used up", x.many(12), 0);
        C.due("5: 8 VERSIONS", x.many(5), 8);
        for (int i = 0; i < 8; i++) {
            C.due("18: they stand", x.line(i, 0, 1), i);
        }
        C.due("18: no ninth", x.line(8, 0, 1), -9);
    }

    private static void linesThatThereAre() {
        DebtCouncil x = new DebtCouncil();
        C.due("18: no VERSION", x.line(0, 0, 0), -9);
        x.read();
        C.due("18: no LINE", x.line(0, 0, 0), -9);
        Checks.read(x, "take 0 of customs; take 1 of salt; take 2 of tobacco; rank 0; cut 0; spare 0;");
        for (int i = 0; i < 3; i++) {
            C.due("18: SORT of a take", x.line(1, i, 3), i);
            C.due("18: N of a take", x.line(1, i, 1), i);
            C.due("18: no COND of a take", x.line(1, i, 2), 0);
            C.due("18: N may be 0", x.line(1, i + 3, 1), 0);
            C.due("18: no SORT", x.line(1, i + 3, 3), -9);
        }
    }
}
