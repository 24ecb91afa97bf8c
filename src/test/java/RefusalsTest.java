import java.util.function.Supplier;
import java.util.function.ToIntFunction;

/** Every refusal: that it is the first one named by the call, and that the refused call changes nothing. */
final class RefusalsTest {
    private static final int BAD = DebtCouncil.BAD, FULL = DebtCouncil.FULL, NONE = DebtCouncil.NONE;
    private static final int STATE = DebtCouncil.STATE;
    private static final Checks C = new Checks();

    public static void main(String[] args) {
        sightTellsChanges();
        provinces();
        debts();
        texts();
        prices();
        papers();
        takings();
        rows();
        host();
        shelves();
        fullLand();
        fullTexts();
        C.end();
    }

    private static void refused(Supplier<DebtCouncil> land, String name, int due, ToIntFunction<DebtCouncil> call) {
        C.due(name, call.applyAsInt(land.get()), due);
        Supplier<DebtCouncil> behind = () -> {
            DebtCouncil x = land.get();
            call.applyAsInt(x);
            return x;
        };
        C.due(name + " changes nothing", Lands.differ(land, behind), -1);
    }

    private static void some(String name, int due, ToIntFunction<DebtCouncil> call) {
        refused(Lands::some, name, due, call);
    }

    private static void full(String name, int due, ToIntFunction<DebtCouncil> call) {
        refused(Lands::full, name, due, call);
    }

    /** Were nothing seen at all, no refused call would seem to change anything. */
    private static void sightTellsChanges() {
        seen("months", x -> x.months(1));
        seen("yield1", x -> x.yield1(1, 1, 5));
        seen("guards", x -> x.guards(0, 3));
        seen("rate", x -> x.rate(1, 11));
        seen("harvest", x -> x.harvest(11, 99));
        seen("voids", x -> x.voids(2));
        seen("feed", x -> x.feed(' ', 1));
        seen("lag", x -> x.lag(4, 1));
        seen("alterRow", x -> x.alterRow(0, 1, 99));
        seen("dropRow", x -> x.dropRow());
        seen("sheet", x -> x.sheet(2, 0, 0));
        seen("put", x -> x.put(0, 0, 1));
        seen("shelf", x -> x.shelf(0, 0, 3));
        seen("deal", x -> x.deal(0, 0, 6));
        seen("keep", x -> x.keep());
        seen("again", x -> x.again());
    }

    private static void seen(String name, ToIntFunction<DebtCouncil> call) {
        Supplier<DebtCouncil> behind = () -> {
            DebtCouncil x = Lands.some();
            call.applyAsInt(x);
            return x;
        };
        C.due(name + " is seen", Lands.differ(Lands::some, behind) >= 0 ? 1 : 0, 1);
    }

    private static void provinces() {
        some("2: months(0)", BAD, x -> x.months(0));
        some("2: months(61)", BAD, x -> x.months(61));
        full("2: months(10): 600", STATE, x -> x.months(10));
        full("2: months(60): 650", STATE, x -> x.months(60));
        full("2: BAD ahead of STATE", BAD, x -> x.months(61));
        some("3: pay 100", BAD, x -> x.province(100, 1));
        some("3: patience 0", BAD, x -> x.province(1, 0));
        some("4: no PROVINCE", BAD, x -> x.yield1(3, 0, 1));
        some("4: no SORT", BAD, x -> x.yield1(0, 3, 1));
        some("4: above 999", BAD, x -> x.yield1(0, 0, 1000));
        some("5: no PROVINCE", BAD, x -> x.yields(3, 0, 0));
        some("5: no SHEET", BAD, x -> x.yields(0, 4, 0));
        some("5: BAD ahead of -13", BAD, x -> x.yields(3, 1, 0));
        some("5: BAD ahead of -11", BAD, x -> x.yields(3, 2, 0));
        some("5: BAD ahead of -12", BAD, x -> x.yields(3, 0, 3));
        some("5: BAD ahead of STATE", BAD, x -> x.yields(3, 0, 2));
        some("5: booleans", -13, x -> x.yields(0, 1, 0));
        some("5: -13 ahead of -12", -13, x -> x.yields(0, 1, 1));
        some("5: longs: -13 ahead of -12 and STATE", -13, x -> x.yields(0, 3, 0));
        some("5: missing", -11, x -> x.yields(0, 2, 0));
        some("5: -11 ahead of -12", -11, x -> x.yields(0, 2, -1));
        some("5: the last item is outside", -12, x -> x.yields(0, 0, 3));
        some("5: all are outside", -12, x -> x.yields(0, 0, 5));
        some("5: -12 ahead of STATE", -12, x -> x.yields(0, 0, 4));
        some("5: the third is above 999", STATE, x -> x.yields(0, 0, 2));
        some("6: no PROVINCE", BAD, x -> x.guards(3, 1));
        some("6: 10 GUARDS", BAD, x -> x.guards(0, 10));
        some("7: no SORT", BAD, x -> x.rate(3, 1));
        some("7: RATE 101", BAD, x -> x.rate(0, 101));
        some("8: month 12", BAD, x -> x.harvest(12, 1));
        some("8: HARVEST 201", BAD, x -> x.harvest(0, 201));
        some("9: no what", BAD, x -> x.gather(0, 0, 0, 3));
        some("10: no what", BAD, x -> x.bestRate(0, 0, 2));
        some("11: no PROVINCE", BAD, x -> x.least(1, 0, 3));
        some("12: no what", BAD, x -> x.provinceOf(0, 5));
    }

    private static void debts() {
        some("13: HOUSE 5", BAD, x -> x.debt(5, 100, 1));
        some("13: SORT 3", BAD, x -> x.debt(0, 103, 1));
        some("13: FORM 4", BAD, x -> x.debt(0, 140, 1));
        some("13: EVERY 0", BAD, x -> x.debt(0, 0, 1));
        some("13: SUM 0", BAD, x -> x.debt(0, 100, 0));
        some("14: no DEBT", BAD, x -> x.debtOf(6, 0, 0));
        some("14: no what", BAD, x -> x.debtOf(0, 0, 13));
        some("14: no bond", NONE, x -> x.debtOf(2, 0, 11));
        some("14: BAD ahead of NONE", BAD, x -> x.debtOf(2, 600, 11));
        some("15: no DEBT", BAD, x -> x.voids(6));
        some("15: it is VOID", STATE, x -> x.voids(1));
        some("19: no what", BAD, x -> x.why(0, 0, 3));
        some("19: no LINE does", NONE, x -> x.why(0, 0, 0));
        some("19: BAD ahead of NONE", BAD, x -> x.why(0, 0, -1));
        some("19: no bar bars it", NONE, x -> x.why(0, 6, 2));
        some("20: a POT of 10000", BAD, x -> x.gets(0, 6, 10000));
        some("20: no DEBT", BAD, x -> x.gets(6, 6, 1));
    }

    /** A land whose tape was used up is laid beside one whose tape was read to a FAULT, or to FULL. */
    private static void texts() {
        some("16: n 0", BAD, x -> x.feed(0, 0));
        some("16: n 9", BAD, x -> x.feed(0, 9));
        some("18: no VERSION", -9, x -> x.line(2, 0, 0));
        Supplier<DebtCouncil> used = () -> {
            DebtCouncil x = Lands.some();
            x.read();
            return x;
        };
        Supplier<DebtCouncil> faulty = () -> {
            DebtCouncil x = Lands.some();
            x.read();
            C.due("17: a FAULT", Checks.read(x, "cut 9; bar if ("), -115);
            return x;
        };
        C.due("17: a FAULT changes nothing", Lands.differ(used, faulty), -1);
    }

    private static void fullTexts() {
        Supplier<DebtCouncil> blank = () -> {
            DebtCouncil x = Lands.full();
            C.due("17: FULL", x.read(), FULL);
            return x;
        };
        Supplier<DebtCouncil> text = () -> {
            DebtCouncil x = Lands.full();
            x.read();
            C.due("17: FULL", Checks.read(x, "cut 9;"), FULL);
            C.due("17: a FAULT ahead of FULL", Checks.read(x, "cut 9"), -105);
            return x;
        };
        C.due("17: FULL changes nothing", Lands.differ(blank, text), -1);
        C.due("17: but that THE TAPE is used up", blank.get().many(12), 0);
        full("16: 239 and 2 bytes", FULL, x -> x.feed(0, 2));
        full("16: BAD ahead of FULL", BAD, x -> x.feed(0, 9));
        C.due("16: 239 and 1", Lands.full().feed(' ', 1), 240);
    }

    private static void prices() {
        some("21: LAG 7", BAD, x -> x.lag(0, 7));
        some("21: HOUSE 5", BAD, x -> x.lag(5, 0));
        some("22: no bond", STATE, x -> x.knows(0, 2));
        some("22: BAD ahead of STATE", BAD, x -> x.knows(5, 2));
        some("23: no DEBT", BAD, x -> x.swap(6, 1, 1));
        some("23: SUM 0", BAD, x -> x.swap(0, 0, 1));
        some("23: EVERY 13", BAD, x -> x.swap(0, 999, 13));
        some("23: no bond", STATE, x -> x.swap(2, 999, 1));
        some("23: VOID", STATE, x -> x.swap(1, 999, 1));
        some("23: the HOUSE doesn't take it", STATE, x -> x.swap(0, 1, 12));
        some("23: BAD ahead of STATE, no bond", BAD, x -> x.swap(2, 0, 1));
        some("23: BAD ahead of STATE, VOID", BAD, x -> x.swap(1, 999, 0));
        some("24: no DEBT", BAD, x -> x.offer(6, 1));
        some("24: EVERY 13", BAD, x -> x.offer(0, 13));
        some("24: no bond", STATE, x -> x.offer(2, 1));
        some("24: VOID", STATE, x -> x.offer(1, 1));
        some("24: BAD ahead of STATE", BAD, x -> x.offer(1, 0));
        some("24: none", NONE, x -> x.offer(5, 12));
        some("25: no PROVINCE", BAD, x -> x.railway(3, 1, 1));
        some("25: 401 MILES", BAD, x -> x.railway(0, 401, 1));
        some("25: GUARANTEE 0", BAD, x -> x.railway(0, 1, 0));
        some("26: no RAILWAY", BAD, x -> x.railwayOf(2, 0));
        some("26: no what", BAD, x -> x.railwayOf(0, 3));
    }

    private static void papers() {
        some("27: BOOK 2", BAD, x -> x.paper(2, 1, 0, 0));
        some("27: SUM 1000", BAD, x -> x.paper(0, 1000, 0, 0));
        some("27: HOUSE 5", BAD, x -> x.paper(0, 1, 50, 0));
        some("27: MONTH 600", BAD, x -> x.paper(0, 1, 0, 600));
        some("28: no PAPER", BAD, x -> x.bills(3));
        some("28: no what", BAD, x -> x.bills(-4));
    }

    private static void takings() {
        some("29: SORT 3", BAD, x -> x.taking(3, 1));
        some("29: sum 0", BAD, x -> x.taking(0, 0));
        some("30: no what", BAD, x -> x.takings(2));
        some("31: 1000", BAD, x -> x.choice(0, 1000, 0, 0));
        some("31: 10 sink", BAD, x -> x.choice(0, 0, 0, 10));
        some("32: NEED -1", BAD, x -> x.choose(-1));
        some("32: NEED 10000", BAD, x -> x.choose(10000));
        some("32: none HOLDS", NONE, x -> x.choose(9999));
    }

    private static void rows() {
        some("33: no ROW", -9, x -> x.row(2, 0));
        some("33: no what", -9, x -> x.row(0, 2));
        some("34: no ROW", -9, x -> x.alterRow(2, 0, 5));
        some("34: no what", -9, x -> x.alterRow(0, 2, 5));
        some("34: no what, below", -9, x -> x.alterRow(1, -1, 5));
        refused(DebtCouncil::new, "35: no ROWS", NONE, x -> x.dropRow());
        some("36: NEED 10000", BAD, x -> x.judge(10000));
        some("36: rows that are not right", 3, x -> x.judge(9999));
        refused(DebtCouncil::new, "46: nothing is kept", NONE, x -> x.again());
        full("46: nothing is kept", NONE, x -> x.again());
    }

    private static void host() {
        some("37: no SHEET", BAD, x -> x.sheet(4, 0, 1));
        some("37: no SHEET, to be missing", BAD, x -> x.sheet(4, -1, 1));
        some("37: sort 5", BAD, x -> x.sheet(0, 5, 1));
        some("37: sort -2", BAD, x -> x.sheet(0, -2, 1));
        some("37: 41 items", BAD, x -> x.sheet(0, 0, 41));
        some("37: -1 items", -14, x -> x.sheet(0, 0, -1));
        some("37: BAD (no SHEET) ahead of -14", BAD, x -> x.sheet(4, 0, -1));
        some("37: BAD (no sort) ahead of -14", BAD, x -> x.sheet(0, 5, -1));
        some("38: no SHEET", BAD, x -> x.put(4, 0, 1));
        some("38: missing", -11, x -> x.put(2, 0, 1));
        some("38: -11 ahead of -12", -11, x -> x.put(2, -1, 1));
        some("38: behind", -12, x -> x.put(0, 5, 1));
        some("38: ahead", -12, x -> x.put(0, -1, 1));
        some("39: no SHEET", BAD, x -> x.item(4, 0, 0));
        some("39: BAD (no sort) ahead of -11", BAD, x -> x.item(2, 5, 0));
        some("39: BAD (no sort) ahead of -13", BAD, x -> x.item(0, -1, 0));
        some("39: another sort", -13, x -> x.item(0, 2, 0));
        some("39: -13 ahead of -12", -13, x -> x.item(0, 2, 5));
        some("39: -11 ahead of -12", -11, x -> x.item(2, 0, 5));
        some("39: behind", -12, x -> x.item(0, 1, 5));
    }

    private static void shelves() {
        some("40: no SHELF", BAD, x -> x.shelf(4, 3, 0));
        some("40: no DEBT", BAD, x -> x.shelf(0, 0, 6));
        some("40: no PAPER", BAD, x -> x.shelf(0, 1, 3));
        some("40: no SHEET", BAD, x -> x.shelf(0, 2, 4));
        some("40: no what", BAD, x -> x.shelf(0, 4, 0));
        some("41: no SHELF", BAD, x -> x.taken(4, 0));
        some("41: no as", BAD, x -> x.taken(0, 7));
        some("41: BAD ahead of -11", BAD, x -> x.taken(3, 15));
        some("41: BAD ahead of -13", BAD, x -> x.taken(2, 7));
        some("41: another KIND", -13, x -> x.taken(0, 6));
        some("41: a thing is no row", -13, x -> x.taken(1, 11));
        some("41: a row is no thing", -13, x -> x.taken(2, 0));
        some("41: nothing", -11, x -> x.taken(3, 0));
        some("43: behind", NONE, x -> x.trace(30));
        some("43: ahead", NONE, x -> x.trace(-1));
        some("44: no what", BAD, x -> x.many(15));
    }

    private static void fullLand() {
        full("3: the ninth PROVINCE", FULL, x -> x.province(0, 1));
        full("3: BAD ahead of FULL", BAD, x -> x.province(0, 0));
        full("13: the seventeenth DEBT", FULL, x -> x.debt(0, 100, 1));
        full("13: BAD ahead of FULL", BAD, x -> x.debt(0, 100, 0));
        full("23: FULL", FULL, x -> x.swap(13, 84, 12));
        full("23: STATE ahead of FULL", STATE, x -> x.swap(13, 83, 12));
        full("23: BAD ahead of FULL", BAD, x -> x.swap(0, 999, 0));
        full("25: the seventh RAILWAY", FULL, x -> x.railway(0, 1, 1));
        full("25: BAD ahead of FULL", BAD, x -> x.railway(8, 1, 1));
        full("27: the twenty-first PAPER", FULL, x -> x.paper(0, 1, 0, 0));
        full("27: BAD ahead of FULL", BAD, x -> x.paper(0, 0, 0, 0));
        full("29: the seventeenth TAKING", FULL, x -> x.taking(0, 1));
        full("29: BAD ahead of FULL", BAD, x -> x.taking(3, 1));
        full("31: the ninth CHOICE", FULL, x -> x.choice(0, 0, 0, 0));
        full("31: BAD ahead of FULL", BAD, x -> x.choice(0, 0, 0, -1));
    }
}
