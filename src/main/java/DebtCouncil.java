import java.util.Arrays;

/** A land run by its creditors. ../shared/DOC.md says what each call promises; words in capitals are its terms. */
public final class DebtCouncil {
    public static final int BAD = -1, FULL = -2, NONE = -3, STATE = -4;

    private static final int NOTHING = -11, OUTSIDE = -12, OTHER_KIND = -13, BELOW_0 = -14, PARTED_BY_0 = -15;
    private static final int NO_SUCH = -9;
    private static final int FAULT_BASE = -100;

    private static final int LAST_MONTH = 599, YEAR = 12, SORTS = 3, HOUSES = 5, LAST_LAG = 6;
    private static final int MOST_PROVINCES = 8, MOST_DEBTS = 16, MOST_STATUTES = 8, MOST_RAILWAYS = 6;
    private static final int MOST_PAPERS = 20, MOST_TAKINGS = 16, MOST_CHOICES = 8;
    private static final int MOST_EVERY = 12, MOST_SUM = 999, MOST_YIELD = 999, MOST_NEED = 9999, MOST_POT = 9999;
    private static final int MOST_OWED = 9999, MOST_TREASURY = 99999, MOST_MILES = 400;
    private static final int MOST_RATE = 100, MOST_GUARDS = 9, MOST_LAID = 40;
    /** Above what can go ROUND, and low enough to be added to. */
    private static final int NO_WAY = 1000000;
    private static final int FIRST_RATE = 10, FIRST_HARVEST = 100, FIRST_PRICE = 50, MOST_PRICE = 100;
    private static final int LAST_RANK = 9;

    private static final int BOND = 0, FLOATING = 2, LAST_FORM = 3;

    private static final int RANK_LINE = 0, CUT_LINE = 1, BAR_LINE = 2, TAKE_LINE = 3, SPARE_LINE = 4;
    private static final int MOST_LINES = 10, MOST_OPEN = 4, MOST_BYTES = 240, MOST_DIGITS = 3, MOST_NUMBER = 999;
    private static final int MOST_IN_HUNDRED = 100;

    private static final int FACT_FORM = 0, FACT_HOUSE = 1, FACT_SUM = 2, FACT_EVERY = 3, FACT_OWED = 4, FACT_SINCE = 5;
    private static final int OP_COMPARE = 0, OP_SORT = 1, OP_NOT = 2, OP_AND = 3, OP_OR = 4;

    private static final int RAIL_PROVINCE = 0, RAIL_MILES = 1, RAIL_GUARANTEE = 2, RAIL_WIDTH = 3;
    private static final int PAPER_BOOK = 0, PAPER_SUM = 1, PAPER_HOUSE = 2, PAPER_MARK = 3, PAPER_MONTH = 4;
    private static final int PAPER_WIDTH = 5;
    private static final int TAKING_SORT = 0, TAKING_SUM = 1, TAKING_MONTH = 2, TAKING_WIDTH = 3;
    private static final int YEARS = 3, CHOICE_SINKS = 3, CHOICE_WIDTH = 4;
    private static final int ROW_CHOICE = 0, ROW_NUMBER = 1, ROW_WIDTH = 2;

    private static final int SHEETS = 4, SHELVES = 4, MOST_ITEMS = 40;
    private static final int MISSING = -1, BYTES = 0, SHORTS = 1, BOOLEANS = 4;
    private static final int HOLDS_DEBT = 0, HOLDS_PAPER = 1, HOLDS_ROW = 2, HOLDS_NOTHING = 3;
    private static final int AS_ROW = 10;

    private static final int PAYS = 0, RANKS = 1, FALLS = 2, DEALS = 4;
    private static final int KIND_BOND = 2, KIND_SWAPPED = 3, KIND_PLEDGE = 4, KIND_FLOATING = 5, KIND_BILL = 6;
    private static final int KINDS = 7, MOST_TRACE = 30, DEEPEST_DEAL = 40;
    /** By KIND: the one that it is under. */
    private static final int[] ABOVE = {-1, 0, 1, 2, 1, 1, 0};
    /** By KIND and DEAL: the number of its body; 0: it has that of the KIND above. */
    private static final int[] BODIES = {
        10, 11, 12, 13,
        0, 20, 0, 0,
        30, 0, 31, 0,
        40, 0, 0, 41,
        0, 0, 50, 0,
        0, 60, 0, 61,
        0, 0, 70, 0
    };

    private final Land land = new Land();
    private final Land kept = new Land();
    private boolean isKept = false;
    private final TextReader reader = new TextReader();
    private final Sharing sharing = new Sharing();
    private final Matching matching = new Matching();
    private final Ledger rows = new Ledger(MOST_CHOICES, ROW_WIDTH);
    private final Host host = new Host();
    private final Dealer dealer = new Dealer();
    /** By first PROVINCE and GUARDS: the least that goes ROUND there and behind, if just so many are laid. */
    private final int[] leastFrom = new int[(MOST_PROVINCES + 1) * (MOST_LAID + 1)];
    /** By YEAR: what the CHOICES that are being looked at bring together. */
    private final int[] brought = new int[YEARS];

    public DebtCouncil() {
    }

    private static boolean within(int v, int least, int most) {
        return v >= least && v <= most;
    }

    private static boolean isMonth(int month) {
        return within(month, 0, LAST_MONTH);
    }

    private static boolean isSort(int sort) {
        return within(sort, 0, SORTS - 1);
    }

    private static boolean isHouse(int house) {
        return within(house, 0, HOUSES - 1);
    }

    private static boolean isSum(int sum) {
        return within(sum, 1, MOST_SUM);
    }

    private static boolean isEvery(int every) {
        return within(every, 1, MOST_EVERY);
    }

    private static boolean isSheet(int sheet) {
        return within(sheet, 0, SHEETS - 1);
    }

    private static boolean isShelf(int shelf) {
        return within(shelf, 0, SHELVES - 1);
    }

    // ---- provinces, revenues

    public int months(int n) {
        if (!within(n, 1, 60)) {
            return BAD;
        }
        if (land.now + n > LAST_MONTH) {
            return STATE;
        }
        for (int i = 0; i < n; i++) {
            goOn();
        }
        return land.now;
    }

    private void goOn() {
        land.now++;
        for (int sort = 0; sort < SORTS; sort++) {
            sharing.tellWants(land, sort, land.now);
            sharing.share(land.gatheredOf(sort, land.now, land.rates[sort]));
            sharing.settle(land);
        }
        land.payGarrisons();
        land.movePrices();
    }

    public int province(int pay, int patience) {
        if (!within(pay, 0, 99) || !within(patience, 1, 12)) {
            return BAD;
        }
        if (land.provinceCount >= MOST_PROVINCES) {
            return FULL;
        }
        land.provinces[land.provinceCount].begin(pay, patience);
        land.provinceCount++;
        return land.provinceCount - 1;
    }

    public int yield1(int province, int sort, int n) {
        if (!land.hasProvince(province) || !isSort(sort) || !within(n, 0, MOST_YIELD)) {
            return BAD;
        }
        int[] of = land.provinces[province].revenue;
        int was = of[sort];
        of[sort] = n;
        return was;
    }

    public int yields(int province, int sheet, int i) {
        if (!land.hasProvince(province) || !isSheet(sheet)) {
            return BAD;
        }
        int refusal = host.refusal(sheet, SHORTS, i, SORTS);
        if (refusal != 0) {
            return refusal;
        }
        for (int sort = 0; sort < SORTS; sort++) {
            if (!within(host.cellAt(sheet, i + sort), 0, MOST_YIELD)) {
                return STATE;
            }
        }
        for (int sort = 0; sort < SORTS; sort++) {
            land.provinces[province].revenue[sort] = host.cellAt(sheet, i + sort);
        }
        return 1;
    }

    public int guards(int province, int n) {
        if (!land.hasProvince(province) || !within(n, 0, MOST_GUARDS)) {
            return BAD;
        }
        int was = land.provinces[province].guarded;
        land.provinces[province].guarded = n;
        return was;
    }

    public int rate(int sort, int n) {
        if (!isSort(sort) || !within(n, 0, MOST_RATE)) {
            return BAD;
        }
        int was = land.rates[sort];
        land.rates[sort] = n;
        return was;
    }

    public int harvest(int month, int n) {
        if (!within(month, 0, YEAR - 1) || !within(n, 0, 200)) {
            return BAD;
        }
        int was = land.harvests[month];
        land.harvests[month] = n;
        return was;
    }

    public int gather(int province, int sort, int month, int what) {
        if (!land.hasProvince(province) || !isSort(sort) || !isMonth(month) || !within(what, 0, 2)) {
            return BAD;
        }
        Province of = land.provinces[province];
        int due = land.dueOf(of, sort, month, land.rates[sort]);
        int round = Land.roundOf(due, land.rates[sort], of.guarded);
        if (what == 0) {
            return due;
        }
        return what == 1 ? round : due - round;
    }

    public int bestRate(int sort, int month, int what) {
        if (!isSort(sort) || !isMonth(month) || !within(what, 0, 1)) {
            return BAD;
        }
        int best = 0;
        int most = land.gatheredOf(sort, month, 0);
        for (int rate = 1; rate <= MOST_RATE; rate++) {
            int gathered = land.gatheredOf(sort, month, rate);
            if (gathered > most) {
                best = rate;
                most = gathered;
            }
        }
        return what == 0 ? best : most;
    }

    public int least(int n, int month, int what) {
        if (!within(n, 0, MOST_LAID) || !isMonth(month) || !within(what, -1, land.provinceCount - 1)) {
            return BAD;
        }
        for (int first = land.provinceCount; first >= 0; first--) {
            tellLeastFrom(first, month);
        }
        int laid = 0;
        for (int k = 1; k <= n; k++) {
            if (leastFrom[k] < leastFrom[laid]) {
                laid = k;
            }
        }
        return what < 0 ? leastFrom[laid] : laidTo(what, laid, month);
    }

    private void tellLeastFrom(int first, int month) {
        int base = first * (MOST_LAID + 1);
        for (int k = 0; k <= MOST_LAID; k++) {
            leastFrom[base + k] = NO_WAY;
        }
        if (first >= land.provinceCount) {
            leastFrom[base] = 0;
            return;
        }
        for (int here = 0; here <= MOST_GUARDS; here++) {
            int round = land.roundIn(first, month, here);
            for (int k = here; k <= MOST_LAID; k++) {
                int behind = leastFrom[base + MOST_LAID + 1 + k - here];
                leastFrom[base + k] = Math.min(leastFrom[base + k], behind + round);
            }
        }
    }

    /** The GUARDS of a PROVINCE, if just so many are laid in all: the earlier one has as many as it can. */
    private int laidTo(int province, int laid, int month) {
        int left = laid;
        int here = 0;
        for (int first = 0; first <= province; first++) {
            left -= here;
            here = mostHere(first, left, month);
        }
        return here;
    }

    private int mostHere(int first, int left, int month) {
        int base = first * (MOST_LAID + 1);
        for (int here = Math.min(MOST_GUARDS, left); here > 0; here--) {
            int behind = leastFrom[base + MOST_LAID + 1 + left - here];
            if (behind + land.roundIn(first, month, here) == leastFrom[base + left]) {
                return here;
            }
        }
        return 0;
    }

    public int provinceOf(int province, int what) {
        if (!land.hasProvince(province)) {
            return BAD;
        }
        Province of = land.provinces[province];
        switch (what) {
            case 0: return of.late;
            case 1: return of.inMutiny() ? 1 : 0;
            case 2: return of.pay;
            case 3: return of.patience;
            case 4: return of.guarded;
            default: return BAD;
        }
    }

    // ---- debts, statutes

    public int debt(int house, int how, int sum) {
        int every = how / 100;
        int form = how / 10 % 10;
        int sort = how % 10;
        if (how < 0 || !isHouse(house) || !isEvery(every) || form > LAST_FORM || !isSort(sort) || !isSum(sum)) {
            return BAD;
        }
        return land.debtCount >= MOST_DEBTS ? FULL : land.addDebt(house, form, sort, sum, every);
    }

    public int debtOf(int debt, int month, int what) {
        if (!land.hasDebt(debt) || !isMonth(month)) {
            return BAD;
        }
        Debt of = land.debts[debt];
        Statute statute = land.statuteIn(month);
        switch (what) {
            case 0: return of.form;
            case 1: return of.house;
            case 2: return of.sort;
            case 3: return of.sum;
            case 4: return of.every;
            case 5: return of.owed;
            case 6: return statute.rankOf(of, month);
            case 7: return statute.cutOf(of, month);
            case 8: return statute.bars(of, month) ? 1 : 0;
            case 9: return statute.fallsOf(of, month);
            case 10: return of.isVoid ? 1 : 0;
            case 11: return of.form == BOND ? of.prices[0] : NONE;
            case 12: return of.got;
            default: return BAD;
        }
    }

    public int voids(int debt) {
        if (!land.hasDebt(debt)) {
            return BAD;
        }
        if (land.debts[debt].isVoid) {
            return STATE;
        }
        land.debts[debt].isVoid = true;
        return land.debts[debt].owed;
    }

    public int feed(long eight, int n) {
        if (!within(n, 1, 8)) {
            return BAD;
        }
        if (reader.length + n > MOST_BYTES) {
            return FULL;
        }
        for (int i = 0; i < n; i++) {
            reader.append((byte) (eight >> (8 * i)));
        }
        return reader.length;
    }

    public int read() {
        boolean isText = reader.readText();
        reader.length = 0;
        if (!isText) {
            return FAULT_BASE - reader.start;
        }
        if (land.statuteCount >= MOST_STATUTES) {
            return FULL;
        }
        land.statutes[land.statuteCount] = new Statute(land.now, reader.takeLines());
        land.statuteCount++;
        return land.statuteCount - 1;
    }

    public int line(int version, int i, int what) {
        if (!within(version, 0, land.statuteCount - 1)) {
            return NO_SUCH;
        }
        Line[] lines = land.statutes[version].lines;
        if (!within(i, 0, lines.length - 1)) {
            return NO_SUCH;
        }
        switch (what) {
            case 0: return lines[i].sort;
            case 1: return lines[i].number;
            case 2: return lines[i].cond != null ? 1 : 0;
            case 3: return lines[i].takeSort;
            default: return NO_SUCH;
        }
    }

    public int why(int debt, int month, int what) {
        if (!land.hasDebt(debt) || !isMonth(month) || !within(what, RANK_LINE, BAR_LINE)) {
            return BAD;
        }
        int found = land.statuteIn(month).firstOf(what, land.debts[debt], month);
        return found < 0 ? NONE : found;
    }

    public int gets(int debt, int month, int pot) {
        if (!land.hasDebt(debt) || !isMonth(month) || !within(pot, 0, MOST_POT)) {
            return BAD;
        }
        sharing.tellWants(land, land.debts[debt].sort, month);
        sharing.share(pot);
        return sharing.gains[debt];
    }

    // ---- prices, swaps, railways

    public int lag(int house, int n) {
        if (!isHouse(house) || !within(n, 0, LAST_LAG)) {
            return BAD;
        }
        int was = land.lags[house];
        land.lags[house] = n;
        return was;
    }

    public int knows(int house, int debt) {
        if (!isHouse(house) || !land.hasDebt(debt)) {
            return BAD;
        }
        return land.debts[debt].form == BOND ? land.knownPrice(house, land.debts[debt]) : STATE;
    }

    public int swap(int debt, int sum, int every) {
        if (!land.hasDebt(debt) || !isSum(sum) || !isEvery(every)) {
            return BAD;
        }
        Debt old = land.debts[debt];
        if (old.form != BOND || old.isVoid || sum * 100 / every < land.worthOf(old)) {
            return STATE;
        }
        if (land.debtCount >= MOST_DEBTS) {
            return FULL;
        }
        old.isVoid = true;
        return land.addDebt(old.house, BOND, old.sort, sum, every);
    }

    public int offer(int debt, int every) {
        if (!land.hasDebt(debt) || !isEvery(every)) {
            return BAD;
        }
        Debt old = land.debts[debt];
        if (old.form != BOND || old.isVoid) {
            return STATE;
        }
        int worth = land.worthOf(old);
        for (int sum = 1; sum <= MOST_SUM; sum++) {
            if (sum * 100 / every >= worth) {
                return sum;
            }
        }
        return NONE;
    }

    public int railway(int province, int miles, int guarantee) {
        if (!land.hasProvince(province) || !within(miles, 0, MOST_MILES) || !within(guarantee, 1, 99)) {
            return BAD;
        }
        if (land.railways.isFull()) {
            return FULL;
        }
        int number = land.railways.begin();
        land.railways.set(number, RAIL_PROVINCE, province);
        land.railways.set(number, RAIL_MILES, miles);
        land.railways.set(number, RAIL_GUARANTEE, guarantee);
        return number;
    }

    public int railwayOf(int railway, int what) {
        if (!land.railways.has(railway)) {
            return BAD;
        }
        int tenMiles = land.yearOfTenMiles(land.railways.at(railway, RAIL_PROVINCE));
        int miles = land.railways.at(railway, RAIL_MILES);
        int guarantee = land.railways.at(railway, RAIL_GUARANTEE);
        int earns = tenMiles * (miles / 10);
        switch (what) {
            case 0: return earns;
            case 1: return Math.max(0, guarantee * miles - earns);
            case 2: return bearsFrom(tenMiles, guarantee);
            default: return BAD;
        }
    }

    private static int bearsFrom(int tenMiles, int guarantee) {
        int from = NONE;
        for (int miles = MOST_MILES; miles >= 0; miles--) {
            if (tenMiles * (miles / 10) < guarantee * miles) {
                return from;
            }
            from = miles;
        }
        return from;
    }

    // ---- the floating debt

    public int paper(int book, int sum, int told, int month) {
        if (!within(book, 0, 1) || !isSum(sum) || !within(told, 0, HOUSES * 10 - 1) || !isMonth(month)) {
            return BAD;
        }
        if (land.papers.isFull()) {
            return FULL;
        }
        int number = land.papers.begin();
        land.papers.set(number, PAPER_BOOK, book);
        land.papers.set(number, PAPER_SUM, sum);
        land.papers.set(number, PAPER_HOUSE, told / 10);
        land.papers.set(number, PAPER_MARK, told % 10);
        land.papers.set(number, PAPER_MONTH, month);
        return number;
    }

    public int bills(int what) {
        switch (what) {
            case -1:
                matching.matchAll(land.papers);
                return land.papers.count - matching.pairs;
            case -2:
                matching.matchAll(land.papers);
                return land.papers.sumOf(PAPER_SUM) - matching.pairedSum;
            case -3:
                return singlePapers();
            default:
                return land.papers.has(what) ? Matching.othersOf(land.papers, what) : BAD;
        }
    }

    private int singlePapers() {
        int single = 0;
        for (int i = 0; i < land.papers.count; i++) {
            if (Matching.othersOf(land.papers, i) == 0) {
                single++;
            }
        }
        return single;
    }

    // ---- takings, choices

    public int taking(int sort, int sum) {
        if (!isSort(sort) || !isSum(sum)) {
            return BAD;
        }
        if (land.takings.isFull()) {
            return FULL;
        }
        int number = land.takings.begin();
        land.takings.set(number, TAKING_SORT, sort);
        land.takings.set(number, TAKING_SUM, sum);
        land.takings.set(number, TAKING_MONTH, land.now);
        return number;
    }

    public int takings(int what) {
        if (!within(what, 0, 1)) {
            return BAD;
        }
        int unlawful = 0;
        int goneRound = 0;
        for (int i = 0; i < land.takings.count; i++) {
            int above = land.takenUpTo(i) - land.mayTake(i);
            if (above > 0) {
                unlawful |= 1 << i;
                // what earlier ones were above the limit was told with them
                goneRound += Math.min(above, land.takings.at(i, TAKING_SUM));
            }
        }
        return what == 0 ? unlawful : goneRound;
    }

    public int choice(int first, int second, int third, int sinks) {
        if (!within(first, -999, 999) || !within(second, -999, 999) || !within(third, -999, 999)
                || !within(sinks, 0, 9)) {
            return BAD;
        }
        if (land.choices.isFull()) {
            return FULL;
        }
        int number = land.choices.begin();
        land.choices.set(number, 0, first);
        land.choices.set(number, 1, second);
        land.choices.set(number, 2, third);
        land.choices.set(number, CHOICE_SINKS, sinks);
        return number;
    }

    public int choose(int need) {
        if (!within(need, 0, MOST_NEED)) {
            return BAD;
        }
        int best = NONE;
        int bestSinks = 0;
        int bestYear = 0;
        for (int bits = 0; bits < 1 << land.choices.count; bits++) {
            int leastYear = leastYearOf(bits);
            int sinks = sinksOf(bits);
            if (leastYear >= need
                    && (best < 0 || sinks < bestSinks || sinks == bestSinks && leastYear > bestYear)) {
                best = bits;
                bestSinks = sinks;
                bestYear = leastYear;
            }
        }
        if (best >= 0) {
            tellRows(best);
        }
        return best;
    }

    private int leastYearOf(int bits) {
        Arrays.fill(brought, 0);
        int leastYear = 0;
        for (int i = 0; i < land.choices.count; i++) {
            if ((bits >> i & 1) == 1) {
                leastYear = leastYearWith(i);
            }
        }
        return leastYear;
    }

    /** A CHOICE comes to those brought already: the least YEAR of all these. */
    private int leastYearWith(int choice) {
        for (int year = 0; year < YEARS; year++) {
            brought[year] += land.choices.at(choice, year);
        }
        return Math.min(brought[0], Math.min(brought[1], brought[2]));
    }

    private int sinksOf(int bits) {
        int sinks = 0;
        for (int i = 0; i < land.choices.count; i++) {
            if ((bits >> i & 1) == 1) {
                sinks += land.choices.at(i, CHOICE_SINKS);
            }
        }
        return sinks;
    }

    private void tellRows(int bits) {
        rows.count = 0;
        Arrays.fill(brought, 0);
        for (int i = 0; i < land.choices.count; i++) {
            if ((bits >> i & 1) == 1) {
                int number = rows.begin();
                rows.set(number, ROW_CHOICE, i);
                rows.set(number, ROW_NUMBER, leastYearWith(i));
            }
        }
    }

    public int row(int i, int what) {
        if (!rows.has(i) || !within(what, 0, ROW_WIDTH - 1)) {
            return NO_SUCH;
        }
        return rows.at(i, what);
    }

    public int alterRow(int i, int what, int v) {
        if (!rows.has(i) || !within(what, 0, ROW_WIDTH - 1)) {
            return NO_SUCH;
        }
        int was = rows.at(i, what);
        rows.set(i, what, v);
        return was;
    }

    public int dropRow() {
        if (rows.count <= 0) {
            return NONE;
        }
        rows.count--;
        return rows.count;
    }

    public int judge(int need) {
        if (!within(need, 0, MOST_NEED)) {
            return BAD;
        }
        Arrays.fill(brought, 0);
        int leastYear = 0;
        int latest = -1;
        for (int i = 0; i < rows.count; i++) {
            int choice = rows.at(i, ROW_CHOICE);
            if (choice <= latest || !land.choices.has(choice)) {
                return i + 1;
            }
            leastYear = leastYearWith(choice);
            if (leastYear != rows.at(i, ROW_NUMBER)) {
                return i + 1;
            }
            latest = choice;
        }
        return leastYear >= need ? 0 : rows.count + 1;
    }

    // ---- the host

    public int sheet(int sheet, int sort, int n) {
        if (!isSheet(sheet) || !within(sort, MISSING, BOOLEANS)) {
            return BAD;
        }
        if (sort == MISSING) {
            host.makeSheet(sheet, MISSING, 0);
            return 1;
        }
        if (n > MOST_ITEMS) {
            return BAD;
        }
        if (n < 0) {
            return BELOW_0;
        }
        host.makeSheet(sheet, sort, n);
        return 1;
    }

    public int put(int sheet, int i, int v) {
        if (!isSheet(sheet)) {
            return BAD;
        }
        int refusal = host.refusal(sheet, host.sheetSorts[sheet], i, 1);
        if (refusal != 0) {
            return refusal;
        }
        host.cells[sheet][i] = Host.narrowed(v, host.sheetSorts[sheet]);
        return 1;
    }

    public int item(int sheet, int sort, int i) {
        if (!isSheet(sheet) || !within(sort, BYTES, BOOLEANS)) {
            return BAD;
        }
        int refusal = host.refusal(sheet, sort, i, 1);
        return refusal != 0 ? refusal : host.cellAt(sheet, i);
    }

    public int shelf(int shelf, int what, int n) {
        if (!isShelf(shelf)) {
            return BAD;
        }
        switch (what) {
            case HOLDS_DEBT:
                return land.hasDebt(n) ? host.lay(shelf, what, n) : BAD;
            case HOLDS_PAPER:
                return land.papers.has(n) ? host.lay(shelf, what, n) : BAD;
            case HOLDS_ROW:
                return isSheet(n) ? host.laySheet(shelf, n) : BAD;
            case HOLDS_NOTHING:
                return host.lay(shelf, what, 0);
            default:
                return BAD;
        }
    }

    public int taken(int shelf, int as) {
        boolean asThing = within(as, 0, KINDS - 1);
        if (!isShelf(shelf) || !asThing && !within(as, AS_ROW + BYTES, AS_ROW + BOOLEANS)) {
            return BAD;
        }
        if (host.holds[shelf] == HOLDS_ROW) {
            return host.rowSorts[shelf] == as - AS_ROW ? host.numbers[shelf] : OTHER_KIND;
        }
        int kind = kindOn(shelf);
        if (kind < 0) {
            return NOTHING;
        }
        return asThing && Dealer.isUnder(kind, as) ? host.numbers[shelf] : OTHER_KIND;
    }

    /** The KIND of the thing on a SHELF as it is now; -1: there is no thing. */
    private int kindOn(int shelf) {
        int number = host.numbers[shelf];
        if (host.holds[shelf] == HOLDS_DEBT && land.hasDebt(number)) {
            return land.debts[number].kindNow();
        }
        return host.holds[shelf] == HOLDS_PAPER && land.papers.has(number) ? KIND_BILL : -1;
    }

    public int deal(int shelf, int deal, int x) {
        dealer.traced = 0;
        if (!isShelf(shelf) || !within(deal, 0, DEALS - 1)) {
            return 0;
        }
        int kind = kindOn(shelf);
        if (kind < 0) {
            return 0;
        }
        int number = host.numbers[shelf];
        if (kind == KIND_BILL) {
            dealer.turnTo(kind, number, land.papers.at(number, PAPER_HOUSE), land.papers.at(number, PAPER_SUM));
        } else {
            dealer.turnTo(kind, number, land.debts[number].house, land.debts[number].sum);
        }
        return dealer.answer(deal, x);
    }

    public int trace(int i) {
        return within(i, 0, dealer.traced - 1) ? dealer.bodies[i] : NONE;
    }

    public int many(int what) {
        switch (what) {
            case 0: return land.now;
            case 1: return land.provinceCount;
            case 2: return land.mutinies();
            case 3: return land.debtCount;
            case 4: return land.voidDebts();
            case 5: return land.statuteCount;
            case 6: return land.railways.count;
            case 7: return land.papers.count;
            case 8: return land.takings.count;
            case 9: return land.choices.count;
            case 10: return rows.count;
            case 11: return land.treasury;
            case 12: return reader.length;
            case 13: return dealer.traced;
            case 14: return land.owedInAll();
            default: return BAD;
        }
    }

    // ---- kept

    public int keep() {
        kept.copyFrom(land);
        isKept = true;
        return 1;
    }

    public int again() {
        if (!isKept) {
            return NONE;
        }
        land.copyFrom(kept);
        return 1;
    }

    /** All that keep() keeps. */
    private static final class Land {
        int now = 0;
        int treasury = 0;
        final int[] rates = new int[SORTS];
        final int[] harvests = new int[YEAR];
        final int[] lags = new int[HOUSES];
        final Province[] provinces = new Province[MOST_PROVINCES];
        int provinceCount = 0;
        final Debt[] debts = new Debt[MOST_DEBTS];
        int debtCount = 0;
        final Statute noStatute = new Statute(0, new Line[0]);
        final Statute[] statutes = new Statute[MOST_STATUTES];
        int statuteCount = 0;
        final Ledger railways = new Ledger(MOST_RAILWAYS, RAIL_WIDTH);
        final Ledger papers = new Ledger(MOST_PAPERS, PAPER_WIDTH);
        final Ledger takings = new Ledger(MOST_TAKINGS, TAKING_WIDTH);
        final Ledger choices = new Ledger(MOST_CHOICES, CHOICE_WIDTH);

        Land() {
            Arrays.fill(rates, FIRST_RATE);
            Arrays.fill(harvests, FIRST_HARVEST);
            for (int i = 0; i < MOST_PROVINCES; i++) {
                provinces[i] = new Province();
            }
            for (int i = 0; i < MOST_DEBTS; i++) {
                debts[i] = new Debt();
            }
            for (int i = 0; i < MOST_STATUTES; i++) {
                statutes[i] = noStatute;
            }
        }

        void copyFrom(Land other) {
            now = other.now;
            treasury = other.treasury;
            System.arraycopy(other.rates, 0, rates, 0, SORTS);
            System.arraycopy(other.harvests, 0, harvests, 0, YEAR);
            System.arraycopy(other.lags, 0, lags, 0, HOUSES);
            provinceCount = other.provinceCount;
            for (int i = 0; i < provinceCount; i++) {
                provinces[i].copyFrom(other.provinces[i]);
            }
            debtCount = other.debtCount;
            for (int i = 0; i < debtCount; i++) {
                debts[i].copyFrom(other.debts[i]);
            }
            statuteCount = other.statuteCount;
            for (int i = 0; i < statuteCount; i++) {
                statutes[i] = other.statutes[i];
            }
            railways.copyFrom(other.railways);
            papers.copyFrom(other.papers);
            takings.copyFrom(other.takings);
            choices.copyFrom(other.choices);
        }

        boolean hasProvince(int province) {
            return within(province, 0, provinceCount - 1);
        }

        boolean hasDebt(int debt) {
            return within(debt, 0, debtCount - 1);
        }

        int addDebt(int house, int form, int sort, int sum, int every) {
            debts[debtCount].begin(house, form, sort, sum, every, now);
            debtCount++;
            return debtCount - 1;
        }

        Statute statuteIn(int month) {
            for (int i = statuteCount - 1; i >= 0; i--) {
                if (statutes[i].month <= month) {
                    return statutes[i];
                }
            }
            return noStatute;
        }

        int dueOf(Province province, int sort, int month, int rate) {
            return province.revenue[sort] * harvests[month % YEAR] / 100 * rate / 100;
        }

        static int roundOf(int due, int rate, int guards) {
            return due * rate / 100 * (10 - guards) / 10;
        }

        int gatheredOf(int sort, int month, int rate) {
            int gathered = 0;
            for (int i = 0; i < provinceCount; i++) {
                if (!provinces[i].inMutiny()) {
                    int due = dueOf(provinces[i], sort, month, rate);
                    gathered += due - roundOf(due, rate, provinces[i].guarded);
                }
            }
            return gathered;
        }

        /** What goes ROUND of all SORTS in a PROVINCE, had it so many GUARDS. */
        int roundIn(int province, int month, int guards) {
            int round = 0;
            for (int sort = 0; sort < SORTS; sort++) {
                round += roundOf(dueOf(provinces[province], sort, month, rates[sort]), rates[sort], guards);
            }
            return round;
        }

        void addToTreasury(int more) {
            treasury = Math.min(MOST_TREASURY, treasury + more);
        }

        void payGarrisons() {
            for (int i = 0; i < provinceCount; i++) {
                if (treasury >= provinces[i].pay) {
                    treasury -= provinces[i].pay;
                    provinces[i].late = 0;
                } else {
                    provinces[i].late++;
                }
            }
        }

        void movePrices() {
            for (int i = 0; i < debtCount; i++) {
                if (debts[i].form == BOND) {
                    debts[i].movePrice();
                }
            }
        }

        int knownPrice(int house, Debt bond) {
            return bond.prices[lags[house]];
        }

        /** What a new bond must come to, so that the HOUSE of the old one takes it. */
        int worthOf(Debt bond) {
            return bond.every > 0 ? bond.sum * knownPrice(bond.house, bond) / bond.every : 0;
        }

        int yearOfTenMiles(int province) {
            if (!hasProvince(province)) {
                return 0;
            }
            int[] revenue = provinces[province].revenue;
            int all = revenue[0] + revenue[1] + revenue[2];
            int earns = 0;
            for (int month = 0; month < YEAR; month++) {
                earns += all * harvests[month] / 100;
            }
            return earns;
        }

        /** What is taken of the SORT of a TAKING in its MONTH, it and earlier ones. */
        int takenUpTo(int taking) {
            int sum = 0;
            for (int i = 0; i <= taking; i++) {
                if (takings.at(i, TAKING_SORT) == takings.at(taking, TAKING_SORT)
                        && takings.at(i, TAKING_MONTH) == takings.at(taking, TAKING_MONTH)) {
                    sum += takings.at(i, TAKING_SUM);
                }
            }
            return sum;
        }

        int mayTake(int taking) {
            Statute statute = statuteIn(takings.at(taking, TAKING_MONTH));
            return statute.latestNumber(TAKE_LINE, takings.at(taking, TAKING_SORT));
        }

        int mutinies() {
            int count = 0;
            for (int i = 0; i < provinceCount; i++) {
                if (provinces[i].inMutiny()) {
                    count++;
                }
            }
            return count;
        }

        int voidDebts() {
            int count = 0;
            for (int i = 0; i < debtCount; i++) {
                if (debts[i].isVoid) {
                    count++;
                }
            }
            return count;
        }

        int owedInAll() {
            int owed = 0;
            for (int i = 0; i < debtCount; i++) {
                owed += debts[i].owed;
            }
            return owed;
        }
    }

    /** Rows of numbers, all of one width, that come one behind another. */
    private static final class Ledger {
        final int most;
        final int width;
        final int[] cells;
        int count = 0;

        Ledger(int most, int width) {
            this.most = Math.max(0, most);
            this.width = Math.max(0, width);
            this.cells = new int[this.most * this.width];
        }

        boolean isFull() {
            return count >= most;
        }

        boolean has(int i) {
            return within(i, 0, count - 1);
        }

        /** A new row comes, if there is room: its number. */
        int begin() {
            if (count < most) {
                count++;
            }
            return count - 1;
        }

        int at(int i, int column) {
            return has(i) && within(column, 0, width - 1) ? cells[i * width + column] : 0;
        }

        void set(int i, int column, int v) {
            if (has(i) && within(column, 0, width - 1)) {
                cells[i * width + column] = v;
            }
        }

        int sumOf(int column) {
            int sum = 0;
            for (int i = 0; i < count; i++) {
                sum += at(i, column);
            }
            return sum;
        }

        void copyFrom(Ledger other) {
            count = Math.min(most, other.count);
            System.arraycopy(other.cells, 0, cells, 0, Math.min(cells.length, other.cells.length));
        }
    }

    private static final class Province {
        int pay = 0;
        int patience = 1;
        int late = 0;
        int guarded = 0;
        final int[] revenue = new int[SORTS];

        Province() {
        }

        void begin(int pay, int patience) {
            this.pay = pay;
            this.patience = patience;
            late = 0;
            guarded = 0;
            Arrays.fill(revenue, 0);
        }

        boolean inMutiny() {
            return late >= patience;
        }

        void copyFrom(Province other) {
            pay = other.pay;
            patience = other.patience;
            late = other.late;
            guarded = other.guarded;
            System.arraycopy(other.revenue, 0, revenue, 0, SORTS);
        }
    }

    private static final class Debt {
        int house = 0;
        int form = 0;
        int sort = 0;
        int sum = 1;
        int every = 1;
        int came = 0;
        int owed = 0;
        int got = 0;
        boolean isVoid = false;
        /** PRICES of 0, 1, .. MONTHS ago. */
        final int[] prices = new int[LAST_LAG + 1];

        Debt() {
        }

        void begin(int house, int form, int sort, int sum, int every, int came) {
            this.house = house;
            this.form = form;
            this.sort = sort;
            this.sum = sum;
            this.every = every;
            this.came = came;
            owed = 0;
            got = 0;
            isVoid = false;
            Arrays.fill(prices, FIRST_PRICE);
        }

        void copyFrom(Debt other) {
            begin(other.house, other.form, other.sort, other.sum, other.every, other.came);
            owed = other.owed;
            got = other.got;
            isVoid = other.isVoid;
            System.arraycopy(other.prices, 0, prices, 0, LAST_LAG + 1);
        }

        boolean fallsIn(int month) {
            return every > 0 && month > came && (month - came) % every == 0;
        }

        int factOf(int fact, int month) {
            switch (fact) {
                case FACT_FORM: return form;
                case FACT_HOUSE: return house;
                case FACT_SUM: return sum;
                case FACT_EVERY: return every;
                case FACT_OWED: return owed;
                case FACT_SINCE: return month > came ? month - came : 0;
                default: return 0;
            }
        }

        void movePrice() {
            // a VOID bond's PRICE stands, but its MONTHS go by all the same
            for (int ago = LAST_LAG; ago > 0; ago--) {
                prices[ago] = prices[ago - 1];
            }
            if (!isVoid) {
                prices[0] = owed == 0 ? Math.min(MOST_PRICE, prices[0] + 2) : Math.max(0, prices[0] - 5);
            }
        }

        int kindNow() {
            switch (form) {
                case BOND: return isVoid ? KIND_SWAPPED : KIND_BOND;
                case FLOATING: return KIND_FLOATING;
                default: return KIND_PLEDGE;
            }
        }
    }

    /** A VERSION: a TEXT that was read in a MONTH. */
    private static final class Statute {
        final int month;
        final Line[] lines;

        Statute(int month, Line[] lines) {
            this.month = month;
            this.lines = lines;
        }

        /** The first LINE of a sort whose COND holds, or that has none; -1: there is none. */
        int firstOf(int sort, Debt debt, int month) {
            for (int i = 0; i < lines.length; i++) {
                if (lines[i].sort == sort && lines[i].holds(debt, month)) {
                    return i;
                }
            }
            return -1;
        }

        int rankOf(Debt debt, int month) {
            int found = firstOf(RANK_LINE, debt, month);
            return found < 0 ? LAST_RANK : lines[found].number;
        }

        int cutOf(Debt debt, int month) {
            int found = firstOf(CUT_LINE, debt, month);
            return found < 0 ? 0 : lines[found].number;
        }

        boolean bars(Debt debt, int month) {
            return firstOf(BAR_LINE, debt, month) >= 0;
        }

        int fallsOf(Debt debt, int month) {
            return debt.isVoid || bars(debt, month) ? 0 : cutSum(debt, month);
        }

        /** FALLS of a DEBT of which it is known that it is neither VOID nor BARRED. */
        int cutSum(Debt debt, int month) {
            return debt.fallsIn(month) ? debt.sum - (debt.sum * cutOf(debt, month) + 99) / 100 : 0;
        }

        /** N of the latest LINE of a sort (and, of a take, of a SORT); 0 without. */
        int latestNumber(int sort, int takeSort) {
            for (int i = lines.length - 1; i >= 0; i--) {
                if (lines[i].sort == sort && lines[i].takeSort == takeSort) {
                    return lines[i].number;
                }
            }
            return 0;
        }
    }

    /** A LINE of a TEXT; its COND is kept as steps, each behind what it works on. */
    private static final class Line {
        final int sort;
        final int number;
        final int takeSort;
        final int[] cond;

        Line(int sort, int number, int takeSort, int[] cond) {
            this.sort = sort;
            this.number = number;
            this.takeSort = takeSort;
            this.cond = cond;
        }

        static int step(int op, int fact, int sign, int number) {
            return op | fact << 4 | sign << 8 | number << 16;
        }

        boolean holds(Debt debt, int month) {
            if (cond == null) {
                return true;
            }
            // the lowest bit is the latest truth; some eleven are open at most
            long truths = 0;
            for (int i = 0; i < cond.length; i++) {
                switch (cond[i] & 15) {
                    case OP_COMPARE:
                        truths = truths << 1 | (compares(debt.factOf(cond[i] >> 4 & 15, month), cond[i]) ? 1 : 0);
                        break;
                    case OP_SORT:
                        truths = truths << 1 | (debt.sort == cond[i] >> 16 ? 1 : 0);
                        break;
                    case OP_NOT:
                        truths ^= 1;
                        break;
                    case OP_AND:
                        truths = truths >> 1 & (truths | -2L);
                        break;
                    default:
                        truths = truths >> 1 | truths & 1;
                        break;
                }
            }
            return (truths & 1) == 1;
        }

        private static boolean compares(int value, int step) {
            int number = step >> 16;
            switch (step >> 8 & 255) {
                case '<': return value < number;
                case '=': return value == number;
                default: return value > number;
            }
        }
    }

    /** THE TAPE, and the reading of it; what a function answers false at is the token that can't stand there. */
    private static final class TextReader {
        private static final int END = 0, NAME = 1, NUMBER = 2, OTHER = 3;

        final byte[] tape = new byte[MOST_BYTES];
        int length = 0;
        /** The token that is looked at: where it begins, what is behind it, its sort, what it tells. */
        int start = 0;
        private int end = 0;
        private int token = END;
        private int value = 0;
        private final int[] steps = new int[MOST_BYTES];
        private int stepCount = 0;
        private final Line[] lines = new Line[MOST_LINES];
        private int lineCount = 0;

        TextReader() {
        }

        void append(byte b) {
            if (length < MOST_BYTES) {
                tape[length] = b;
                length++;
            }
        }

        /** Whether THE TAPE is a TEXT; if not, start is its FAULT. */
        boolean readText() {
            end = 0;
            lineCount = 0;
            advance();
            for (int i = 0; i < MOST_LINES && token != END; i++) {
                if (!readLine()) {
                    return false;
                }
            }
            return token == END;
        }

        Line[] takeLines() {
            Line[] all = new Line[lineCount];
            for (int i = 0; i < lineCount; i++) {
                all[i] = lines[i];
            }
            return all;
        }

        private void advance() {
            int i = end;
            while (i < length && tape[i] == ' ') {
                i++;
            }
            start = i;
            value = 0;
            if (i >= length) {
                token = END;
            } else if (isLetter(tape[i])) {
                token = NAME;
                while (i < length && isLetter(tape[i])) {
                    i++;
                }
            } else if (isDigit(tape[i])) {
                token = NUMBER;
                while (i < length && isDigit(tape[i])) {
                    // past three digits only that they are too many counts
                    value = i - start < MOST_DIGITS ? value * 10 + tape[i] - '0' : -1;
                    i++;
                }
            } else {
                token = OTHER;
                value = tape[i];
                i++;
            }
            end = i;
        }

        private static boolean isLetter(byte b) {
            return b >= 'a' && b <= 'z';
        }

        private static boolean isDigit(byte b) {
            return b >= '0' && b <= '9';
        }

        private boolean isName(String name) {
            if (token != NAME || end - start != name.length()) {
                return false;
            }
            for (int i = 0; i < name.length(); i++) {
                if (tape[start + i] != name.charAt(i)) {
                    return false;
                }
            }
            return true;
        }

        private boolean isOther(char sign) {
            return token == OTHER && value == sign;
        }

        private boolean isNumberUpTo(int most) {
            return token == NUMBER && within(value, 0, most);
        }

        private boolean readLine() {
            int sort = lineSort();
            if (sort < 0 || lineCount >= MOST_LINES) {
                return false;
            }
            advance();
            int number = NO_SUCH;
            if (sort != BAR_LINE) {
                if (!isNumberUpTo(mostOf(sort))) {
                    return false;
                }
                number = value;
                advance();
            }
            int takeSort = sort == TAKE_LINE ? readTakeSort() : NO_SUCH;
            if (sort == TAKE_LINE && takeSort < 0) {
                return false;
            }
            stepCount = 0;
            if (mayHaveCond(sort) && isName("if")) {
                advance();
                if (!readCond(0)) {
                    return false;
                }
            }
            if (!isOther(';') || sort == BAR_LINE && stepCount == 0) {
                return false;
            }
            advance();
            int[] cond = stepCount > 0 ? Arrays.copyOf(steps, stepCount) : null;
            lines[lineCount] = new Line(sort, number, takeSort, cond);
            lineCount++;
            return true;
        }

        private static boolean mayHaveCond(int sort) {
            return sort != TAKE_LINE && sort != SPARE_LINE;
        }

        private int lineSort() {
            if (isName("rank")) {
                return RANK_LINE;
            }
            if (isName("cut")) {
                return CUT_LINE;
            }
            if (isName("bar")) {
                return BAR_LINE;
            }
            if (isName("take")) {
                return TAKE_LINE;
            }
            return isName("spare") ? SPARE_LINE : -1;
        }

        private static int mostOf(int sort) {
            if (sort == RANK_LINE) {
                return LAST_RANK;
            }
            return sort == TAKE_LINE ? MOST_NUMBER : MOST_IN_HUNDRED;
        }

        /** The SORT behind "of"; below 0: the token can't stand. */
        private int readTakeSort() {
            if (!isName("of")) {
                return -1;
            }
            advance();
            int sort = revenueSort();
            if (sort >= 0) {
                advance();
            }
            return sort;
        }

        private int revenueSort() {
            if (isName("customs")) {
                return 0;
            }
            if (isName("salt")) {
                return 1;
            }
            return isName("tobacco") ? 2 : -1;
        }

        private int factNamed() {
            if (isName("form")) {
                return FACT_FORM;
            }
            if (isName("house")) {
                return FACT_HOUSE;
            }
            if (isName("sum")) {
                return FACT_SUM;
            }
            if (isName("every")) {
                return FACT_EVERY;
            }
            if (isName("owed")) {
                return FACT_OWED;
            }
            return isName("since") ? FACT_SINCE : -1;
        }

        private void addStep(int step) {
            if (stepCount < MOST_BYTES) {
                steps[stepCount] = step;
                stepCount++;
            }
        }

        private boolean readCond(int open) {
            if (!readAll(open)) {
                return false;
            }
            for (int i = 0; i < MOST_BYTES && isName("or"); i++) {
                advance();
                if (!readAll(open)) {
                    return false;
                }
                addStep(OP_OR);
            }
            return true;
        }

        private boolean readAll(int open) {
            if (!readOne(open)) {
                return false;
            }
            for (int i = 0; i < MOST_BYTES && isName("and"); i++) {
                advance();
                if (!readOne(open)) {
                    return false;
                }
                addStep(OP_AND);
            }
            return true;
        }

        private boolean readOne(int open) {
            boolean isNot = false;
            for (int i = 0; i < MOST_BYTES && isName("not"); i++) {
                isNot = !isNot;
                advance();
            }
            boolean isRead = isOther('(') ? readInner(open) : readPlain();
            if (isRead && isNot) {
                addStep(OP_NOT);
            }
            return isRead;
        }

        private boolean readInner(int open) {
            if (open >= MOST_OPEN) {
                return false;
            }
            advance();
            if (!readCond(open + 1) || !isOther(')')) {
                return false;
            }
            advance();
            return true;
        }

        private boolean readPlain() {
            int sort = revenueSort();
            if (sort >= 0) {
                addStep(Line.step(OP_SORT, 0, 0, sort));
                advance();
                return true;
            }
            int fact = factNamed();
            if (fact < 0) {
                return false;
            }
            advance();
            if (!isOther('<') && !isOther('=') && !isOther('>')) {
                return false;
            }
            int sign = value;
            advance();
            if (!isNumberUpTo(MOST_NUMBER)) {
                return false;
            }
            addStep(Line.step(OP_COMPARE, fact, sign, value));
            advance();
            return true;
        }
    }

    /** How a POT of a SORT is shared among the DEBTS on it. */
    private static final class Sharing {
        /** By DEBT: whether it has a part in this, its RANK, what it WANTS, what it gets. */
        final boolean[] shares = new boolean[MOST_DEBTS];
        final int[] ranks = new int[MOST_DEBTS];
        final int[] wants = new int[MOST_DEBTS];
        final int[] gains = new int[MOST_DEBTS];
        int spare = 0;
        /** What goes to THE TREASURY. */
        int left = 0;

        Sharing() {
        }

        void tellWants(Land land, int sort, int month) {
            Statute statute = land.statuteIn(month);
            spare = statute.latestNumber(SPARE_LINE, NO_SUCH);
            for (int i = 0; i < MOST_DEBTS; i++) {
                Debt debt = land.debts[i];
                shares[i] = land.hasDebt(i) && debt.sort == sort && !debt.isVoid && !statute.bars(debt, month);
                ranks[i] = shares[i] ? statute.rankOf(debt, month) : 0;
                wants[i] = shares[i] ? statute.cutSum(debt, month) + debt.owed : 0;
                gains[i] = 0;
            }
        }

        void share(int pot) {
            int spared = pot * spare / 100;
            int rest = pot - spared;
            for (int rank = 0; rank <= LAST_RANK; rank++) {
                rest -= shareIn(rank, rest);
            }
            left = spared + rest;
        }

        /** Those of a RANK get of what there is: how much. */
        private int shareIn(int rank, int rest) {
            int all = 0;
            for (int i = 0; i < MOST_DEBTS; i++) {
                all += ranks[i] == rank ? wants[i] : 0;
            }
            int gone = 0;
            for (int i = 0; i < MOST_DEBTS; i++) {
                if (ranks[i] == rank && wants[i] > 0 && all > 0) {
                    gains[i] = all <= rest ? wants[i] : wants[i] * rest / all;
                    gone += gains[i];
                }
            }
            // what the cuts left is less than one for each that was cut: one round gives it all
            for (int i = 0; i < MOST_DEBTS; i++) {
                if (ranks[i] == rank && gone < rest && gains[i] < wants[i]) {
                    gains[i]++;
                    gone++;
                }
            }
            return gone;
        }

        void settle(Land land) {
            for (int i = 0; i < MOST_DEBTS; i++) {
                if (shares[i]) {
                    land.debts[i].owed = Math.min(MOST_OWED, wants[i] - gains[i]);
                    land.debts[i].got += gains[i];
                }
            }
            land.addToTreasury(left);
        }
    }

    /** PAPERS of one BOOK laid to those of the other, so that most pairs MAY BE ONE. */
    private static final class Matching {
        final int[] partner = new int[MOST_PAPERS];
        final boolean[] seen = new boolean[MOST_PAPERS];
        int pairs = 0;
        int pairedSum = 0;

        Matching() {
        }

        static boolean mayBeOne(Ledger papers, int i, int j) {
            int mark = papers.at(i, PAPER_MARK);
            int otherMark = papers.at(j, PAPER_MARK);
            return papers.at(i, PAPER_BOOK) != papers.at(j, PAPER_BOOK)
                && papers.at(i, PAPER_SUM) == papers.at(j, PAPER_SUM)
                && papers.at(i, PAPER_HOUSE) == papers.at(j, PAPER_HOUSE)
                && Math.abs(papers.at(i, PAPER_MONTH) - papers.at(j, PAPER_MONTH)) <= 1
                && (mark == otherMark || mark == 0 || otherMark == 0);
        }

        static int othersOf(Ledger papers, int i) {
            int others = 0;
            for (int j = 0; j < papers.count; j++) {
                if (mayBeOne(papers, i, j)) {
                    others++;
                }
            }
            return others;
        }

        /** Only like SUMS pair, so that the most pairs are also those of the greatest SUM. */
        void matchAll(Ledger papers) {
            pairs = 0;
            pairedSum = 0;
            Arrays.fill(partner, -1);
            for (int i = 0; i < papers.count; i++) {
                forgetSeen();
                if (papers.at(i, PAPER_BOOK) == 0 && findsPartner(papers, i, 0)) {
                    pairs++;
                    pairedSum += papers.at(i, PAPER_SUM);
                }
            }
        }

        private void forgetSeen() {
            for (int j = 0; j < MOST_PAPERS; j++) {
                seen[j] = false;
            }
        }

        private boolean findsPartner(Ledger papers, int i, int depth) {
            if (depth > MOST_PAPERS) {
                return false;
            }
            for (int j = 0; j < papers.count && j < MOST_PAPERS; j++) {
                if (!seen[j] && mayBeOne(papers, i, j)) {
                    seen[j] = true;
                    if (partner[j] < 0 || findsPartner(papers, partner[j], depth + 1)) {
                        partner[j] = i;
                        return true;
                    }
                }
            }
            return false;
        }
    }

    /** SHEETS and SHELVES. */
    private static final class Host {
        final int[] sheetSorts = new int[SHEETS];
        final int[] sizes = new int[SHEETS];
        final int[][] cells = new int[SHEETS][MOST_ITEMS];
        final int[] holds = new int[SHELVES];
        /** The number of the thing on a SHELF, or how many items the row there has. */
        final int[] numbers = new int[SHELVES];
        final int[] rowSorts = new int[SHELVES];

        Host() {
            Arrays.fill(sheetSorts, MISSING);
            Arrays.fill(holds, HOLDS_NOTHING);
        }

        void makeSheet(int sheet, int sort, int n) {
            sheetSorts[sheet] = sort;
            sizes[sheet] = n;
            Arrays.fill(cells[sheet], 0);
        }

        /** Why n items from i on of a SHEET can't be taken for a sort; 0: they can. */
        int refusal(int sheet, int sort, int i, int n) {
            if (sheetSorts[sheet] == MISSING) {
                return NOTHING;
            }
            if (sheetSorts[sheet] != sort) {
                return OTHER_KIND;
            }
            return within(i, 0, sizes[sheet] - n) ? 0 : OUTSIDE;
        }

        int cellAt(int sheet, int i) {
            return within(i, 0, sizes[sheet] - 1) ? cells[sheet][i] : 0;
        }

        static int narrowed(int v, int sort) {
            switch (sort) {
                case BYTES: return (byte) v;
                case SHORTS: return (short) v;
                case BOOLEANS: return v != 0 ? 1 : 0;
                default: return v;
            }
        }

        int lay(int shelf, int what, int number) {
            holds[shelf] = what;
            numbers[shelf] = number;
            return 1;
        }

        /** A row that is laid stays what it is, though its SHEET becomes another: its sort and size are noted. */
        int laySheet(int shelf, int sheet) {
            if (sheetSorts[sheet] == MISSING) {
                return lay(shelf, HOLDS_NOTHING, 0);
            }
            rowSorts[shelf] = sheetSorts[sheet];
            return lay(shelf, HOLDS_ROW, sizes[sheet]);
        }
    }

    /** DEALS with one thing: its KIND and numbers, and THE TRACE. */
    private static final class Dealer {
        private int kind = 0;
        private int number = 0;
        private int house = 0;
        private int sum = 0;
        private boolean isParted = false;
        final int[] bodies = new int[MOST_TRACE];
        int traced = 0;

        Dealer() {
        }

        static boolean isUnder(int kind, int other) {
            int above = kind;
            for (int i = 0; i < KINDS && above >= 0 && above < KINDS; i++) {
                if (above == other) {
                    return true;
                }
                above = ABOVE[above];
            }
            return false;
        }

        void turnTo(int kind, int number, int house, int sum) {
            this.kind = kind;
            this.number = number;
            this.house = house;
            this.sum = sum;
        }

        int answer(int deal, int x) {
            isParted = false;
            int answer = run(kind, deal, x, 0);
            return isParted ? PARTED_BY_0 : answer;
        }

        /** Runs the nearest body for a DEAL from a KIND upwards; its super goes on above where that was found. */
        private int run(int from, int deal, int x, int depth) {
            int at = from;
            for (int i = 0; i < KINDS && at > 0 && BODIES[at * DEALS + deal] == 0; i++) {
                at = ABOVE[at];
            }
            if (at < 0 || depth > DEEPEST_DEAL) {
                return 0;
            }
            int body = BODIES[at * DEALS + deal];
            note(body);
            int deeper = depth + 1;
            switch (body) {
                case 10: return x + sum;
                case 11: return run(kind, PAYS, x, deeper) * 2;
                case 12: return run(kind, RANKS, x, deeper) - house;
                case 13: return parted(x, house - number);
                case 20: return run(ABOVE[at], RANKS, x, deeper) ^ number;
                case 30: return run(ABOVE[at], PAYS, x, deeper) * 3;
                case 31: return run(ABOVE[at], FALLS, x, deeper) + run(kind, RANKS, 1, deeper);
                case 40: return 0 - run(ABOVE[at], PAYS, x, deeper);
                case 41: return run(ABOVE[at], deal, x - 2, deeper);
                case 50: return run(ABOVE[at], FALLS, x, deeper) - 5;
                case 60: return run(ABOVE[at], RANKS, x + house, deeper);
                case 61: return run(ABOVE[at], deal, x, deeper) * number;
                case 70: return run(ABOVE[at], FALLS, x, deeper) + run(kind, PAYS, number, deeper);
                default: return 0;
            }
        }

        private int parted(int x, int by) {
            if (by == 0) {
                isParted = true;
                return 0;
            }
            return x / by;
        }

        private void note(int body) {
            if (traced < MOST_TRACE) {
                bodies[traced] = body;
                traced++;
            }
        }
    }
}
