import java.util.ArrayList;
import java.util.Arrays;
import java.util.HashMap;
import java.util.List;
import java.util.Map;

/**
 * The document once more, written apart from the program and in other ways (true arrays, true classes with super,
 * texts that are read anew each time): ModelTest lays the program's answers beside these.
 */
final class Model {
    private static final int BAD = -1, FULL = -2, NONE = -3, STATE = -4;

    private static final class Prov {
        int pay, patience, late, guards;
        int[] yield = new int[3];

        Prov copy() {
            Prov p = new Prov();
            p.pay = pay;
            p.patience = patience;
            p.late = late;
            p.guards = guards;
            p.yield = yield.clone();
            return p;
        }

        boolean mutiny() {
            return late >= patience;
        }
    }

    private static final class Loan {
        int house, form, sort, sum, every, came, owed, got;
        boolean gone;
        List<Integer> prices = new ArrayList<>(List.of(50));

        Loan copy() {
            Loan d = new Loan();
            d.house = house;
            d.form = form;
            d.sort = sort;
            d.sum = sum;
            d.every = every;
            d.came = came;
            d.owed = owed;
            d.got = got;
            d.gone = gone;
            d.prices = new ArrayList<>(prices);
            return d;
        }

        int price() {
            return prices.get(prices.size() - 1);
        }
    }

    private static final class World {
        int now, treasury;
        int[] rate = {10, 10, 10};
        int[] harvest = new int[12];
        int[] lag = new int[5];
        List<Prov> provs = new ArrayList<>();
        List<Loan> loans = new ArrayList<>();
        List<String> texts = new ArrayList<>();
        List<Integer> readIn = new ArrayList<>();
        List<int[]> rails = new ArrayList<>();
        List<int[]> papers = new ArrayList<>();
        List<int[]> takings = new ArrayList<>();
        List<int[]> choices = new ArrayList<>();

        World copy() {
            World w = new World();
            w.now = now;
            w.treasury = treasury;
            w.rate = rate.clone();
            w.harvest = harvest.clone();
            w.lag = lag.clone();
            provs.forEach(p -> w.provs.add(p.copy()));
            loans.forEach(d -> w.loans.add(d.copy()));
            w.texts.addAll(texts);
            w.readIn.addAll(readIn);
            w.rails.addAll(rails);
            w.papers.addAll(papers);
            w.takings.addAll(takings);
            w.choices.addAll(choices);
            return w;
        }
    }

    private World w = new World();
    private World keptWorld = null;
    private final StringBuilder tape = new StringBuilder();
    private final List<int[]> rows = new ArrayList<>();
    private final Object[] sheets = new Object[4];
    private final Object[] shelves = new Object[4];
    private final List<Integer> bodies = new ArrayList<>();

    Model() {
        Arrays.fill(w.harvest, 100);
    }

    private static boolean in(int v, int from, int to) {
        return from <= v && v <= to;
    }

    private static boolean of(List<?> list, int i) {
        return in(i, 0, list.size() - 1);
    }

    // ---- texts

    private static final class Fault extends RuntimeException {
        private static final long serialVersionUID = 1;
        final int place;

        Fault(int place) {
            this.place = place;
        }
    }

    private interface Cond {
        boolean holds(Loan d, int month);
    }

    private static final class Clause {
        int sort, n = -9, takeSort = -9;
        Cond cond = null;
    }

    private static final class Parser {
        private final String text;
        private int at = 0;
        private int open = 0;

        Parser(String text) {
            this.text = text;
        }

        private void blanks() {
            while (at < text.length() && text.charAt(at) == ' ') {
                at++;
            }
        }

        private static int sortOf(char c) {
            return c >= 'a' && c <= 'z' ? 1 : c >= '0' && c <= '9' ? 2 : 0;
        }

        private String peek() {
            blanks();
            if (at == text.length()) {
                return "";
            }
            int sort = sortOf(text.charAt(at));
            int to = at + 1;
            while (sort != 0 && to < text.length() && sortOf(text.charAt(to)) == sort) {
                to++;
            }
            return text.substring(at, to);
        }

        private boolean eat(String word) {
            if (!peek().equals(word)) {
                return false;
            }
            at += word.length();
            return true;
        }

        private void must(String word) {
            if (!eat(word)) {
                throw new Fault(at);
            }
        }

        private int oneOf(String... words) {
            for (int i = 0; i < words.length; i++) {
                if (eat(words[i])) {
                    return i;
                }
            }
            return -1;
        }

        private int number(int most) {
            String t = peek();
            if (!t.matches("[0-9]{1,3}") || Integer.parseInt(t) > most) {
                throw new Fault(at);
            }
            at += t.length();
            return Integer.parseInt(t);
        }

        List<Clause> all() {
            List<Clause> lines = new ArrayList<>();
            while (!peek().isEmpty()) {
                if (lines.size() == 10) {
                    throw new Fault(at);
                }
                lines.add(clause());
                must(";");
            }
            return lines;
        }

        private Clause clause() {
            Clause c = new Clause();
            c.sort = oneOf("rank", "cut", "bar", "take", "spare");
            switch (c.sort) {
                case 0 -> c.n = number(9);
                case 1, 4 -> c.n = number(100);
                case 3 -> {
                    c.n = number(999);
                    must("of");
                    c.takeSort = oneOf("customs", "salt", "tobacco");
                    if (c.takeSort < 0) {
                        throw new Fault(at);
                    }
                }
                case 2 -> {
                    must("if");
                    c.cond = cond();
                }
                default -> throw new Fault(at);
            }
            if (c.sort < 2 && eat("if")) {
                c.cond = cond();
            }
            return c;
        }

        private Cond cond() {
            List<Cond> any = new ArrayList<>();
            do {
                List<Cond> every = new ArrayList<>();
                do {
                    every.add(one());
                } while (eat("and"));
                any.add((d, m) -> every.stream().allMatch(c -> c.holds(d, m)));
            } while (eat("or"));
            return (d, m) -> any.stream().anyMatch(c -> c.holds(d, m));
        }

        private Cond one() {
            if (eat("not")) {
                Cond inner = one();
                return (d, m) -> !inner.holds(d, m);
            }
            blanks();
            if (peek().equals("(")) {
                if (open == 4) {
                    throw new Fault(at);
                }
                must("(");
                open++;
                Cond inner = cond();
                must(")");
                open--;
                return inner;
            }
            int sort = oneOf("customs", "salt", "tobacco");
            if (sort >= 0) {
                return (d, m) -> d.sort == sort;
            }
            int fact = oneOf("form", "house", "sum", "every", "owed", "since");
            if (fact < 0) {
                throw new Fault(at);
            }
            int sign = oneOf("<", "=", ">");
            if (sign < 0) {
                blanks();
                throw new Fault(at);
            }
            int n = number(999);
            return (d, m) -> {
                int[] facts = {d.form, d.house, d.sum, d.every, d.owed, Math.max(0, m - d.came)};
                return Integer.signum(facts[fact] - n) == sign - 1;
            };
        }
    }

    private List<Clause> statute(int month) {
        String text = "";
        for (int i = 0; i < w.texts.size(); i++) {
            if (w.readIn.get(i) <= month) {
                text = w.texts.get(i);
            }
        }
        return new Parser(text).all();
    }

    private int clauseOf(Loan d, int month, int sort) {
        List<Clause> lines = statute(month);
        for (Clause c : lines) {
            if (c.sort == sort && (c.cond == null || c.cond.holds(d, month))) {
                return lines.indexOf(c);
            }
        }
        return -1;
    }

    private int rank(Loan d, int month) {
        int i = clauseOf(d, month, 0);
        return i < 0 ? 9 : statute(month).get(i).n;
    }

    private int cut(Loan d, int month) {
        int i = clauseOf(d, month, 1);
        return i < 0 ? 0 : statute(month).get(i).n;
    }

    private boolean barred(Loan d, int month) {
        return clauseOf(d, month, 2) >= 0;
    }

    private int falls(Loan d, int month) {
        if (d.gone || barred(d, month)) {
            return 0;
        }
        for (int m = d.came + d.every; m <= 599; m += d.every) {
            if (m == month) {
                return d.sum - (int) Math.ceil(d.sum * cut(d, month) / 100.0);
            }
        }
        return 0;
    }

    private int latest(int month, int sort, int takeSort) {
        int n = 0;
        for (Clause c : statute(month)) {
            if (c.sort == sort && c.takeSort == takeSort) {
                n = c.n;
            }
        }
        return n;
    }

    // ---- provinces, revenues

    private int due(Prov p, int sort, int month, int rate) {
        int y = p.yield[sort] * w.harvest[month % 12] / 100;
        return y * rate / 100;
    }

    private static int round(int due, int rate, int guards) {
        int r = due * rate / 100;
        return r * (10 - guards) / 10;
    }

    private int gathered(int sort, int month, int rate) {
        int sum = 0;
        for (Prov p : w.provs) {
            int due = due(p, sort, month, rate);
            sum += p.mutiny() ? 0 : due - round(due, rate, p.guards);
        }
        return sum;
    }

    int months(int n) {
        if (!in(n, 1, 60)) {
            return BAD;
        }
        if (w.now + n > 599) {
            return STATE;
        }
        for (int i = 0; i < n; i++) {
            w.now++;
            int[] pots = {gathered(0, w.now, w.rate[0]), gathered(1, w.now, w.rate[1]), gathered(2, w.now, w.rate[2])};
            for (int sort = 0; sort < 3; sort++) {
                Map<Loan, Integer> wants = wants(sort, w.now);
                Map<Loan, Integer> gets = shared(sort, w.now, pots[sort], wants);
                int left = pots[sort];
                for (Loan d : w.loans) {
                    if (wants.containsKey(d)) {
                        d.owed = Math.min(9999, wants.get(d) - gets.get(d));
                        d.got += gets.get(d);
                        left -= gets.get(d);
                    }
                }
                w.treasury = Math.min(99999, w.treasury + left);
            }
            for (Prov p : w.provs) {
                boolean paid = w.treasury >= p.pay;
                w.treasury -= paid ? p.pay : 0;
                p.late = paid ? 0 : p.late + 1;
            }
            for (Loan d : w.loans) {
                int move = d.gone ? 0 : d.owed == 0 ? 2 : -5;
                d.prices.add(Math.max(0, Math.min(100, d.price() + move)));
            }
        }
        return w.now;
    }

    private Map<Loan, Integer> wants(int sort, int month) {
        Map<Loan, Integer> wants = new HashMap<>();
        for (Loan d : w.loans) {
            if (d.sort == sort && !d.gone && !barred(d, month)) {
                wants.put(d, falls(d, month) + d.owed);
            }
        }
        return wants;
    }

    private Map<Loan, Integer> shared(int sort, int month, int pot, Map<Loan, Integer> wants) {
        int rest = pot - pot * latest(month, 4, -9) / 100;
        Map<Loan, Integer> gets = new HashMap<>();
        wants.keySet().forEach(d -> gets.put(d, 0));
        for (int rank = 0; rank <= 9; rank++) {
            List<Loan> those = new ArrayList<>();
            int all = 0;
            for (Loan d : w.loans) {
                if (wants.containsKey(d) && rank(d, month) == rank) {
                    those.add(d);
                    all += wants.get(d);
                }
            }
            if (all <= rest) {
                those.forEach(d -> gets.put(d, wants.get(d)));
                rest -= all;
                continue;
            }
            int there = rest;
            for (Loan d : those) {
                int part = (int) ((long) wants.get(d) * there / all);
                gets.put(d, part);
                rest -= part;
            }
            while (rest > 0) {
                for (Loan d : those) {
                    if (rest > 0 && gets.get(d) < wants.get(d)) {
                        gets.put(d, gets.get(d) + 1);
                        rest--;
                    }
                }
            }
            return gets;
        }
        return gets;
    }

    int province(int pay, int patience) {
        if (!in(pay, 0, 99) || !in(patience, 1, 12)) {
            return BAD;
        }
        if (w.provs.size() == 8) {
            return FULL;
        }
        Prov p = new Prov();
        p.pay = pay;
        p.patience = patience;
        w.provs.add(p);
        return w.provs.size() - 1;
    }

    int yield1(int province, int sort, int n) {
        if (!of(w.provs, province) || !in(sort, 0, 2) || !in(n, 0, 999)) {
            return BAD;
        }
        int was = w.provs.get(province).yield[sort];
        w.provs.get(province).yield[sort] = n;
        return was;
    }

    int yields(int province, int sheet, int i) {
        if (!of(w.provs, province) || !in(sheet, 0, 3)) {
            return BAD;
        }
        int[] three = new int[3];
        try {
            short[] items = (short[]) sheets[sheet];
            for (int k = 0; k < 3; k++) {
                three[k] = items[Math.addExact(i, k)];
            }
        } catch (ClassCastException e) {
            return -13;
        } catch (NullPointerException e) {
            return -11;
        } catch (ArrayIndexOutOfBoundsException | ArithmeticException e) {
            return -12;
        }
        for (int v : three) {
            if (!in(v, 0, 999)) {
                return STATE;
            }
        }
        w.provs.get(province).yield = three;
        return 1;
    }

    int guards(int province, int n) {
        if (!of(w.provs, province) || !in(n, 0, 9)) {
            return BAD;
        }
        int was = w.provs.get(province).guards;
        w.provs.get(province).guards = n;
        return was;
    }

    int rate(int sort, int n) {
        if (!in(sort, 0, 2) || !in(n, 0, 100)) {
            return BAD;
        }
        int was = w.rate[sort];
        w.rate[sort] = n;
        return was;
    }

    int harvest(int month, int n) {
        if (!in(month, 0, 11) || !in(n, 0, 200)) {
            return BAD;
        }
        int was = w.harvest[month];
        w.harvest[month] = n;
        return was;
    }

    int gather(int province, int sort, int month, int what) {
        if (!of(w.provs, province) || !in(sort, 0, 2) || !in(month, 0, 599) || !in(what, 0, 2)) {
            return BAD;
        }
        Prov p = w.provs.get(province);
        int due = due(p, sort, month, w.rate[sort]);
        int round = round(due, w.rate[sort], p.guards);
        return new int[] {due, round, due - round}[what];
    }

    int bestRate(int sort, int month, int what) {
        if (!in(sort, 0, 2) || !in(month, 0, 599) || !in(what, 0, 1)) {
            return BAD;
        }
        int most = 0;
        for (int r = 0; r <= 100; r++) {
            most = Math.max(most, gathered(sort, month, r));
        }
        for (int r = 0; r <= 100; r++) {
            if (gathered(sort, month, r) == most) {
                return what == 0 ? r : most;
            }
        }
        throw new IllegalStateException();
    }

    /** Whether one way {ROUND, GUARDS in all, GUARDS by PROVINCES..} is to be taken over another of as many PROVINCES. */
    private static boolean better(int[] one, int[] other) {
        if (other == null || one[0] != other[0]) {
            return other == null || one[0] < other[0];
        }
        if (one[1] != other[1]) {
            return one[1] < other[1];
        }
        for (int i = 2; i < one.length; i++) {
            if (one[i] != other[i]) {
                return one[i] > other[i];
            }
        }
        return false;
    }

    int least(int n, int month, int what) {
        if (!in(n, 0, 40) || !in(month, 0, 599) || !in(what, -1, w.provs.size() - 1)) {
            return BAD;
        }
        int[][] ways = new int[n + 1][];
        ways[0] = new int[2];
        for (Prov p : w.provs) {
            int[][] next = new int[n + 1][];
            for (int[] way : ways) {
                for (int g = 0; way != null && g <= 9 && way[1] + g <= n; g++) {
                    int[] longer = Arrays.copyOf(way, way.length + 1);
                    for (int sort = 0; sort < 3; sort++) {
                        longer[0] += round(due(p, sort, month, w.rate[sort]), w.rate[sort], g);
                    }
                    longer[1] += g;
                    longer[way.length] = g;
                    if (better(longer, next[longer[1]])) {
                        next[longer[1]] = longer;
                    }
                }
            }
            ways = next;
        }
        int[] best = null;
        for (int[] way : ways) {
            if (way != null && better(way, best)) {
                best = way;
            }
        }
        return what < 0 ? best[0] : best[2 + what];
    }

    int provinceOf(int province, int what) {
        if (!of(w.provs, province) || !in(what, 0, 4)) {
            return BAD;
        }
        Prov p = w.provs.get(province);
        return new int[] {p.late, p.mutiny() ? 1 : 0, p.pay, p.patience, p.guards}[what];
    }

    // ---- debts, statutes

    private int newLoan(int house, int form, int sort, int sum, int every) {
        Loan d = new Loan();
        d.house = house;
        d.form = form;
        d.sort = sort;
        d.sum = sum;
        d.every = every;
        d.came = w.now;
        w.loans.add(d);
        return w.loans.size() - 1;
    }

    int debt(int house, int how, int sum) {
        if (!in(house, 0, 4) || !in(sum, 1, 999) || !in(how, 100, 1299) || how / 10 % 10 > 3 || how % 10 > 2) {
            return BAD;
        }
        return w.loans.size() == 16 ? FULL : newLoan(house, how / 10 % 10, how % 10, sum, how / 100);
    }

    int debtOf(int debt, int month, int what) {
        if (!of(w.loans, debt) || !in(month, 0, 599) || !in(what, 0, 12)) {
            return BAD;
        }
        Loan d = w.loans.get(debt);
        return new int[] {d.form, d.house, d.sort, d.sum, d.every, d.owed, rank(d, month), cut(d, month),
            barred(d, month) ? 1 : 0, falls(d, month), d.gone ? 1 : 0, d.form == 0 ? d.price() : NONE, d.got}[what];
    }

    int voids(int debt) {
        if (!of(w.loans, debt)) {
            return BAD;
        }
        if (w.loans.get(debt).gone) {
            return STATE;
        }
        w.loans.get(debt).gone = true;
        return w.loans.get(debt).owed;
    }

    int feed(long eight, int n) {
        if (!in(n, 1, 8)) {
            return BAD;
        }
        if (tape.length() + n > 240) {
            return FULL;
        }
        for (int i = 0; i < n; i++) {
            tape.append((char) (eight >>> (8 * i) & 255));
        }
        return tape.length();
    }

    int read() {
        String text = tape.toString();
        tape.setLength(0);
        try {
            new Parser(text).all();
        } catch (Fault f) {
            return -100 - f.place;
        }
        if (w.texts.size() == 8) {
            return FULL;
        }
        w.texts.add(text);
        w.readIn.add(w.now);
        return w.texts.size() - 1;
    }

    int line(int version, int i, int what) {
        if (!of(w.texts, version)) {
            return -9;
        }
        List<Clause> lines = new Parser(w.texts.get(version)).all();
        if (!of(lines, i) || !in(what, 0, 3)) {
            return -9;
        }
        Clause c = lines.get(i);
        return new int[] {c.sort, c.n, c.cond == null ? 0 : 1, c.takeSort}[what];
    }

    int why(int debt, int month, int what) {
        if (!of(w.loans, debt) || !in(month, 0, 599) || !in(what, 0, 2)) {
            return BAD;
        }
        int i = clauseOf(w.loans.get(debt), month, what);
        return i < 0 ? NONE : i;
    }

    int gets(int debt, int month, int pot) {
        if (!of(w.loans, debt) || !in(month, 0, 599) || !in(pot, 0, 9999)) {
            return BAD;
        }
        Loan d = w.loans.get(debt);
        return shared(d.sort, month, pot, wants(d.sort, month)).getOrDefault(d, 0);
    }

    // ---- prices, swaps, railways

    int lag(int house, int n) {
        if (!in(house, 0, 4) || !in(n, 0, 6)) {
            return BAD;
        }
        int was = w.lag[house];
        w.lag[house] = n;
        return was;
    }

    private int known(int house, Loan d) {
        int month = w.now - w.lag[house];
        return month < d.came ? 50 : d.prices.get(month - d.came);
    }

    int knows(int house, int debt) {
        if (!of(w.loans, debt) || !in(house, 0, 4)) {
            return BAD;
        }
        return w.loans.get(debt).form != 0 ? STATE : known(house, w.loans.get(debt));
    }

    private boolean takes(Loan d, int sum, int every) {
        return sum * 100 / every >= d.sum * known(d.house, d) / d.every;
    }

    int swap(int debt, int sum, int every) {
        if (!of(w.loans, debt) || !in(sum, 1, 999) || !in(every, 1, 12)) {
            return BAD;
        }
        Loan d = w.loans.get(debt);
        if (d.form != 0 || d.gone || !takes(d, sum, every)) {
            return STATE;
        }
        if (w.loans.size() == 16) {
            return FULL;
        }
        d.gone = true;
        return newLoan(d.house, 0, d.sort, sum, every);
    }

    int offer(int debt, int every) {
        if (!of(w.loans, debt) || !in(every, 1, 12)) {
            return BAD;
        }
        Loan d = w.loans.get(debt);
        if (d.form != 0 || d.gone) {
            return STATE;
        }
        int sum = 1;
        while (sum <= 999 && !takes(d, sum, every)) {
            sum++;
        }
        return sum > 999 ? NONE : sum;
    }

    int railway(int province, int miles, int guarantee) {
        if (!of(w.provs, province) || !in(miles, 0, 400) || !in(guarantee, 1, 99)) {
            return BAD;
        }
        if (w.rails.size() == 6) {
            return FULL;
        }
        w.rails.add(new int[] {province, miles, guarantee});
        return w.rails.size() - 1;
    }

    private int earns(int[] rail, int miles) {
        int sum = 0;
        for (int m = 0; m < 12; m++) {
            int all = Arrays.stream(w.provs.get(rail[0]).yield).sum();
            sum += all * w.harvest[m] / 100 * (miles / 10);
        }
        return sum;
    }

    int railwayOf(int railway, int what) {
        if (!of(w.rails, railway) || !in(what, 0, 2)) {
            return BAD;
        }
        int[] rail = w.rails.get(railway);
        if (what < 2) {
            int earns = earns(rail, rail[1]);
            return what == 0 ? earns : Math.max(0, rail[1] * rail[2] - earns);
        }
        int bears = 0;
        for (int miles = 0; miles <= 400; miles++) {
            if (earns(rail, miles) < miles * rail[2]) {
                bears = miles + 1;
            }
        }
        return bears > 400 ? NONE : bears;
    }

    // ---- the floating debt

    int paper(int book, int sum, int told, int month) {
        if (!in(book, 0, 1) || !in(sum, 1, 999) || !in(told, 0, 49) || !in(month, 0, 599)) {
            return BAD;
        }
        if (w.papers.size() == 20) {
            return FULL;
        }
        w.papers.add(new int[] {book, sum, told / 10, told % 10, month});
        return w.papers.size() - 1;
    }

    private boolean oneBill(int i, int j) {
        int[] a = w.papers.get(i);
        int[] b = w.papers.get(j);
        return a[0] != b[0] && a[1] == b[1] && a[2] == b[2] && Math.abs(a[4] - b[4]) < 2
            && (a[3] == b[3] || a[3] * b[3] == 0);
    }

    private int others(int i) {
        int n = 0;
        for (int j = 0; j < w.papers.size(); j++) {
            n += oneBill(i, j) ? 1 : 0;
        }
        return n;
    }

    /** The most that pairs come to (by 1 each, or by SUMS) from PAPER i on, with some told already. */
    private int paired(int i, int told, boolean bySum, Map<Integer, Integer> known) {
        if (i == w.papers.size()) {
            return 0;
        }
        int key = i << 20 | told;
        if (known.containsKey(key)) {
            return known.get(key);
        }
        int most = paired(i + 1, told, bySum, known);
        for (int j = 0; w.papers.get(i)[0] == 0 && j < w.papers.size(); j++) {
            if (oneBill(i, j) && (told >> j & 1) == 0) {
                int one = bySum ? w.papers.get(i)[1] : 1;
                most = Math.max(most, one + paired(i + 1, told | 1 << j, bySum, known));
            }
        }
        known.put(key, most);
        return most;
    }

    int bills(int what) {
        if (!in(what, -3, w.papers.size() - 1)) {
            return BAD;
        }
        if (what >= 0) {
            return others(what);
        }
        int single = 0;
        int all = 0;
        for (int i = 0; i < w.papers.size(); i++) {
            single += others(i) == 0 ? 1 : 0;
            all += what == -1 ? 1 : w.papers.get(i)[1];
        }
        return what == -3 ? single : all - paired(0, 0, what == -2, new HashMap<>());
    }

    // ---- takings, choices

    int taking(int sort, int sum) {
        if (!in(sort, 0, 2) || !in(sum, 1, 999)) {
            return BAD;
        }
        if (w.takings.size() == 16) {
            return FULL;
        }
        w.takings.add(new int[] {sort, sum, w.now});
        return w.takings.size() - 1;
    }

    int takings(int what) {
        if (!in(what, 0, 1)) {
            return BAD;
        }
        int bits = 0;
        int[][] sums = new int[600][3];
        for (int i = 0; i < w.takings.size(); i++) {
            int[] t = w.takings.get(i);
            sums[t[2]][t[0]] += t[1];
            bits += sums[t[2]][t[0]] > latest(t[2], 3, t[0]) ? 1 << i : 0;
        }
        int round = 0;
        for (int month = 0; month < 600; month++) {
            for (int sort = 0; sort < 3; sort++) {
                round += sums[month][sort] == 0 ? 0 : Math.max(0, sums[month][sort] - latest(month, 3, sort));
            }
        }
        return what == 0 ? bits : round;
    }

    int choice(int first, int second, int third, int sinks) {
        if (!in(first, -999, 999) || !in(second, -999, 999) || !in(third, -999, 999) || !in(sinks, 0, 9)) {
            return BAD;
        }
        if (w.choices.size() == 8) {
            return FULL;
        }
        w.choices.add(new int[] {first, second, third, sinks});
        return w.choices.size() - 1;
    }

    private int leastYear(int bits) {
        int[] years = new int[3];
        for (int y = 0; y < 3; y++) {
            for (int i = 0; i < w.choices.size(); i++) {
                years[y] += (bits >> i & 1) * w.choices.get(i)[y];
            }
        }
        return Arrays.stream(years).min().getAsInt();
    }

    int choose(int need) {
        if (!in(need, 0, 9999)) {
            return BAD;
        }
        int best = NONE;
        long bestWorth = Long.MIN_VALUE;
        for (int bits = 0; bits < 1 << w.choices.size(); bits++) {
            int sinks = 0;
            for (int i = 0; i < w.choices.size(); i++) {
                sinks += (bits >> i & 1) * w.choices.get(i)[3];
            }
            long worth = -sinks * 100_000_000L + leastYear(bits) * 1000L - bits;
            if (leastYear(bits) >= need && worth > bestWorth) {
                best = bits;
                bestWorth = worth;
            }
        }
        if (best >= 0) {
            rows.clear();
            for (int i = 0; i < w.choices.size(); i++) {
                if ((best >> i & 1) == 1) {
                    rows.add(new int[] {i, leastYear(best & (2 << i) - 1)});
                }
            }
        }
        return best;
    }

    int row(int i, int what) {
        return of(rows, i) && in(what, 0, 1) ? rows.get(i)[what] : -9;
    }

    int alterRow(int i, int what, int v) {
        int was = row(i, what);
        if (of(rows, i) && in(what, 0, 1)) {
            rows.get(i)[what] = v;
        }
        return was;
    }

    int dropRow() {
        if (rows.isEmpty()) {
            return NONE;
        }
        rows.remove(rows.size() - 1);
        return rows.size();
    }

    int judge(int need) {
        if (!in(need, 0, 9999)) {
            return BAD;
        }
        int bits = 0;
        for (int i = 0; i < rows.size(); i++) {
            int c = rows.get(i)[0];
            if (!of(w.choices, c) || i > 0 && c <= rows.get(i - 1)[0]) {
                return i + 1;
            }
            bits |= 1 << c;
            if (leastYear(bits) != rows.get(i)[1]) {
                return i + 1;
            }
        }
        return leastYear(bits) >= need ? 0 : rows.size() + 1;
    }

    // ---- the host

    int sheet(int sheet, int sort, int n) {
        if (!in(sheet, 0, 3) || !in(sort, -1, 4) || sort >= 0 && n > 40) {
            return BAD;
        }
        try {
            Object made = switch (sort) {
                case 0 -> new byte[n];
                case 1 -> new short[n];
                case 2 -> new int[n];
                case 3 -> new long[n];
                case 4 -> new boolean[n];
                default -> null;
            };
            sheets[sheet] = made;
            return 1;
        } catch (NegativeArraySizeException e) {
            return -14;
        }
    }

    int put(int sheet, int i, int v) {
        if (!in(sheet, 0, 3)) {
            return BAD;
        }
        Object o = sheets[sheet];
        if (o == null) {
            return -11;
        }
        try {
            if (o instanceof byte[] a) {
                a[i] = (byte) v;
            } else if (o instanceof short[] a) {
                a[i] = (short) v;
            } else if (o instanceof int[] a) {
                a[i] = v;
            } else if (o instanceof long[] a) {
                a[i] = v;
            } else {
                ((boolean[]) o)[i] = v != 0;
            }
            return 1;
        } catch (ArrayIndexOutOfBoundsException e) {
            return -12;
        }
    }

    int item(int sheet, int sort, int i) {
        if (!in(sheet, 0, 3) || !in(sort, 0, 4)) {
            return BAD;
        }
        Object o = sheets[sheet];
        try {
            return switch (sort) {
                case 0 -> ((byte[]) o)[i];
                case 1 -> ((short[]) o)[i];
                case 2 -> ((int[]) o)[i];
                case 3 -> (int) ((long[]) o)[i];
                default -> ((boolean[]) o)[i] ? 1 : 0;
            };
        } catch (ClassCastException e) {
            return -13;
        } catch (NullPointerException e) {
            return -11;
        } catch (ArrayIndexOutOfBoundsException e) {
            return -12;
        }
    }

    private record Held(boolean isDebt, int n) {
    }

    int shelf(int shelf, int what, int n) {
        if (!in(shelf, 0, 3) || !in(what, 0, 3)) {
            return BAD;
        }
        if (what == 0 && !of(w.loans, n) || what == 1 && !of(w.papers, n) || what == 2 && !in(n, 0, 3)) {
            return BAD;
        }
        shelves[shelf] = what == 3 ? null : what == 2 ? sheets[n] : new Held(what == 0, n);
        return 1;
    }

    private Object thing(int shelf) {
        if (!(shelves[shelf] instanceof Held held)) {
            return shelves[shelf];
        }
        int n = held.n();
        if (!held.isDebt()) {
            return of(w.papers, n) ? new BillKind(bodies, n, w.papers.get(n)[2], w.papers.get(n)[1]) : null;
        }
        if (!of(w.loans, n)) {
            return null;
        }
        Loan d = w.loans.get(n);
        if (d.form == 0) {
            return d.gone ? new SwappedKind(bodies, n, d.house, d.sum) : new BondKind(bodies, n, d.house, d.sum);
        }
        return d.form == 2 ? new FloatingKind(bodies, n, d.house, d.sum) : new PledgeKind(bodies, n, d.house, d.sum);
    }

    int taken(int shelf, int as) {
        if (!in(shelf, 0, 3) || !in(as, 0, 6) && !in(as, 10, 14)) {
            return BAD;
        }
        Object o = thing(shelf);
        try {
            return switch (as) {
                case 0 -> ((PaperKind) o).n;
                case 1 -> ((DebtKind) o).n;
                case 2 -> ((BondKind) o).n;
                case 3 -> ((SwappedKind) o).n;
                case 4 -> ((PledgeKind) o).n;
                case 5 -> ((FloatingKind) o).n;
                case 6 -> ((BillKind) o).n;
                case 10 -> ((byte[]) o).length;
                case 11 -> ((short[]) o).length;
                case 12 -> ((int[]) o).length;
                case 13 -> ((long[]) o).length;
                default -> ((boolean[]) o).length;
            };
        } catch (ClassCastException e) {
            return -13;
        } catch (NullPointerException e) {
            return -11;
        }
    }

    int deal(int shelf, int deal, int x) {
        bodies.clear();
        if (!in(shelf, 0, 3) || !in(deal, 0, 3) || !(thing(shelf) instanceof PaperKind p)) {
            return 0;
        }
        try {
            return switch (deal) {
                case 0 -> p.pays(x);
                case 1 -> p.ranks(x);
                case 2 -> p.falls(x);
                default -> p.tells(x);
            };
        } catch (ArithmeticException e) {
            return -15;
        }
    }

    int trace(int i) {
        return of(bodies, i) && i < 30 ? bodies.get(i) : NONE;
    }

    int many(int what) {
        if (!in(what, 0, 14)) {
            return BAD;
        }
        int mutinies = (int) w.provs.stream().filter(Prov::mutiny).count();
        int gone = (int) w.loans.stream().filter(d -> d.gone).count();
        int owed = w.loans.stream().mapToInt(d -> d.owed).sum();
        return new int[] {w.now, w.provs.size(), mutinies, w.loans.size(), gone, w.texts.size(), w.rails.size(),
            w.papers.size(), w.takings.size(), w.choices.size(), rows.size(), w.treasury, tape.length(),
            Math.min(30, bodies.size()), owed}[what];
    }

    // ---- kept

    int keep() {
        keptWorld = w.copy();
        return 1;
    }

    int again() {
        if (keptWorld == null) {
            return NONE;
        }
        w = keptWorld.copy();
        return 1;
    }

    // ---- kinds

    private static class PaperKind {
        final List<Integer> bodies;
        final int n, h, a;

        PaperKind(List<Integer> bodies, int n, int h, int a) {
            this.bodies = bodies;
            this.n = n;
            this.h = h;
            this.a = a;
        }

        int pays(int x) {
            bodies.add(10);
            return x + a;
        }

        int ranks(int x) {
            bodies.add(11);
            return pays(x) * 2;
        }

        int falls(int x) {
            bodies.add(12);
            return ranks(x) - h;
        }

        int tells(int x) {
            bodies.add(13);
            return x / (h - n);
        }
    }

    private static class DebtKind extends PaperKind {
        DebtKind(List<Integer> bodies, int n, int h, int a) {
            super(bodies, n, h, a);
        }

        @Override int ranks(int x) {
            bodies.add(20);
            return super.ranks(x) ^ n;
        }
    }

    private static class BondKind extends DebtKind {
        BondKind(List<Integer> bodies, int n, int h, int a) {
            super(bodies, n, h, a);
        }

        @Override int pays(int x) {
            bodies.add(30);
            return super.pays(x) * 3;
        }

        @Override int falls(int x) {
            bodies.add(31);
            return super.falls(x) + ranks(1);
        }
    }

    private static final class SwappedKind extends BondKind {
        SwappedKind(List<Integer> bodies, int n, int h, int a) {
            super(bodies, n, h, a);
        }

        @Override int pays(int x) {
            bodies.add(40);
            return 0 - super.pays(x);
        }

        @Override int tells(int x) {
            bodies.add(41);
            return super.tells(x - 2);
        }
    }

    private static final class PledgeKind extends DebtKind {
        PledgeKind(List<Integer> bodies, int n, int h, int a) {
            super(bodies, n, h, a);
        }

        @Override int falls(int x) {
            bodies.add(50);
            return super.falls(x) - 5;
        }
    }

    private static final class FloatingKind extends DebtKind {
        FloatingKind(List<Integer> bodies, int n, int h, int a) {
            super(bodies, n, h, a);
        }

        @Override int ranks(int x) {
            bodies.add(60);
            return super.ranks(x + h);
        }

        @Override int tells(int x) {
            bodies.add(61);
            return super.tells(x) * n;
        }
    }

    private static final class BillKind extends PaperKind {
        BillKind(List<Integer> bodies, int n, int h, int a) {
            super(bodies, n, h, a);
        }

        @Override int falls(int x) {
            bodies.add(70);
            return super.falls(x) + pays(n);
        }
    }
}
