import java.util.ArrayList;
import java.util.List;
import java.util.Random;

/** Random runs of at most 512 calls, from told seeds, on the program and on Model: all answers must be the same. */
final class ModelTest {
    /** One turn may feed a whole text and read it. */
    private static final int RUNS = 800, CALLS = 512, CALLS_OF_A_TURN = 31;
    private static final int METHODS = 45;
    private static final int[] EDGES = {Integer.MIN_VALUE, Integer.MAX_VALUE, -15, -9, -4, -3, -2, -1, 0, 1, 2, 3, 4, 5, 6,
        7, 8, 9, 10, 11, 12, 13, 14, 15, 16, 20, 39, 40, 41, 49, 50, 60, 61, 99, 100, 101, 200, 201, 400, 401, 599, 600,
        999, 1000, 9999, 10000, 32768, 65536, 99999};

    private final Random random;
    private final DebtCouncil x = new DebtCouncil();
    private final Model m = new Model();
    private final List<String> run = new ArrayList<>();

    private ModelTest(long seed) {
        random = new Random(seed);
    }

    public static void main(String[] args) {
        long calls = 0;
        int runs = args.length > 0 ? Integer.parseInt(args[0]) : RUNS;
        for (int seed = 0; seed < runs; seed++) {
            ModelTest test = new ModelTest(seed);
            if (!test.runs()) {
                System.out.println("seed " + seed + ":");
                test.run.forEach(System.out::println);
                System.exit(1);
            }
            calls += test.run.size();
        }
        System.out.println(calls + " calls answered as the model answers");
    }

    /** From 0 to most - 1; now and then an edge of any kind. */
    private int upTo(int most) {
        return random.nextInt(40) == 0 ? EDGES[random.nextInt(EDGES.length)] : random.nextInt(Math.max(1, most));
    }

    private int between(int from, int to) {
        return random.nextInt(40) == 0 ? EDGES[random.nextInt(EDGES.length)] : from + random.nextInt(to - from + 1);
    }

    private boolean runs() {
        // some runs end early in the months, or have few things, so that more of the edges come up
        int monthly = random.nextInt(3);
        while (run.size() <= CALLS - CALLS_OF_A_TURN) {
            if (random.nextInt(12) == 0) {
                if (!feeds() || !same("read()", x.read(), m.read())) {
                    return false;
                }
            } else if (random.nextInt(8) == 0 && monthly > 0) {
                int n = between(1, monthly == 1 ? 3 : 60);
                if (!same("months(" + n + ")", x.months(n), m.months(n))) {
                    return false;
                }
            } else if (!calls(random.nextInt(METHODS))) {
                return false;
            }
        }
        return true;
    }

    private boolean same(String call, int got, int want) {
        run.add(call + " answered " + got + (got == want ? "" : ", the model " + want));
        return got == want;
    }

    private boolean feeds() {
        String text = Texts.some(random);
        for (int from = 0; from < text.length(); from += 8) {
            int n = Math.min(8, text.length() - from);
            long eight = random.nextLong() << 8 << (8 * n - 8);
            for (int i = 0; i < n; i++) {
                eight |= (long) text.charAt(from + i) << (8 * i);
            }
            if (!same("feed(" + eight + "L, " + n + ")", x.feed(eight, n), m.feed(eight, n))) {
                return false;
            }
        }
        return true;
    }

    private int debt() {
        return upTo(m.many(3) + 1);
    }

    private int province() {
        return upTo(m.many(1));
    }

    private int month() {
        return random.nextBoolean() ? upTo(600) : m.many(0) + random.nextInt(3);
    }

    private boolean calls(int method) {
        if (method < 12) {
            return callsOfProvinces(method);
        }
        if (method < 24) {
            return callsOfDebts(method);
        }
        return method < 35 ? callsOfPapers(method) : callsOfHost(method);
    }

    private boolean callsOfProvinces(int method) {
        int a;
        int b;
        int c;
        int d;
        switch (method) {
            case 0:
                a = random.nextBoolean() ? upTo(100) : upTo(5);
                b = between(1, 12);
                return same("province(" + a + ", " + b + ")", x.province(a, b), m.province(a, b));
            case 1: case 2:
                a = province();
                b = upTo(3);
                c = upTo(1000);
                return same("yield1(" + a + ", " + b + ", " + c + ")", x.yield1(a, b, c), m.yield1(a, b, c));
            case 3:
                a = province();
                b = upTo(4);
                c = upTo(10);
                return same("yields(" + a + ", " + b + ", " + c + ")", x.yields(a, b, c), m.yields(a, b, c));
            case 4:
                a = province();
                b = upTo(10);
                return same("guards(" + a + ", " + b + ")", x.guards(a, b), m.guards(a, b));
            case 5:
                a = upTo(3);
                b = upTo(101);
                return same("rate(" + a + ", " + b + ")", x.rate(a, b), m.rate(a, b));
            case 6:
                a = upTo(12);
                b = upTo(201);
                return same("harvest(" + a + ", " + b + ")", x.harvest(a, b), m.harvest(a, b));
            case 7:
                a = province();
                b = upTo(3);
                c = upTo(600);
                d = upTo(3);
                return same("gather(" + a + ", " + b + ", " + c + ", " + d + ")", x.gather(a, b, c, d),
                    m.gather(a, b, c, d));
            case 8:
                a = upTo(3);
                b = upTo(600);
                c = upTo(2);
                return same("bestRate(" + a + ", " + b + ", " + c + ")", x.bestRate(a, b, c), m.bestRate(a, b, c));
            case 9: case 10:
                a = upTo(41);
                b = upTo(600);
                c = between(-1, 7);
                return same("least(" + a + ", " + b + ", " + c + ")", x.least(a, b, c), m.least(a, b, c));
            default:
                a = province();
                b = upTo(5);
                return same("provinceOf(" + a + ", " + b + ")", x.provinceOf(a, b), m.provinceOf(a, b));
        }
    }

    private boolean callsOfDebts(int method) {
        int a;
        int b;
        int c;
        switch (method) {
            case 12: case 13:
                a = upTo(5);
                b = between(1, 12) * 100 + upTo(4) * 10 + upTo(3);
                c = random.nextBoolean() ? between(1, 999) : between(1, 60);
                return same("debt(" + a + ", " + b + ", " + c + ")", x.debt(a, b, c), m.debt(a, b, c));
            case 14: case 15:
                a = debt();
                b = month();
                c = upTo(13);
                return same("debtOf(" + a + ", " + b + ", " + c + ")", x.debtOf(a, b, c), m.debtOf(a, b, c));
            case 16:
                if (random.nextInt(3) != 0) {
                    return true;
                }
                a = debt();
                return same("voids(" + a + ")", x.voids(a), m.voids(a));
            case 17:
                a = upTo(8);
                b = upTo(10);
                c = upTo(4);
                return same("line(" + a + ", " + b + ", " + c + ")", x.line(a, b, c), m.line(a, b, c));
            case 18:
                a = debt();
                b = month();
                c = upTo(3);
                return same("why(" + a + ", " + b + ", " + c + ")", x.why(a, b, c), m.why(a, b, c));
            case 19: case 20:
                a = debt();
                b = month();
                c = random.nextBoolean() ? upTo(10000) : upTo(500);
                return same("gets(" + a + ", " + b + ", " + c + ")", x.gets(a, b, c), m.gets(a, b, c));
            case 21:
                a = upTo(5);
                b = upTo(7);
                return same("lag(" + a + ", " + b + ")", x.lag(a, b), m.lag(a, b));
            case 22:
                a = upTo(5);
                b = debt();
                return same("knows(" + a + ", " + b + ")", x.knows(a, b), m.knows(a, b));
            default:
                a = debt();
                b = between(1, 12);
                c = random.nextBoolean() ? between(1, 999) : between(1, 99);
                return same("offer(" + a + ", " + b + ")", x.offer(a, b), m.offer(a, b))
                    && same("swap(" + a + ", " + c + ", " + b + ")", x.swap(a, c, b), m.swap(a, c, b));
        }
    }

    private boolean callsOfPapers(int method) {
        int a;
        int b;
        int c;
        int d;
        switch (method) {
            case 24:
                a = province();
                b = upTo(401);
                c = between(1, 99);
                return same("railway(" + a + ", " + b + ", " + c + ")", x.railway(a, b, c), m.railway(a, b, c));
            case 25:
                a = upTo(m.many(6) + 1);
                b = upTo(3);
                return same("railwayOf(" + a + ", " + b + ")", x.railwayOf(a, b), m.railwayOf(a, b));
            case 26: case 27:
                a = upTo(2);
                b = between(7, 8);
                c = 10 * upTo(2) + (random.nextBoolean() ? 0 : upTo(3));
                d = between(20, 23);
                return same("paper(" + a + ", " + b + ", " + c + ", " + d + ")", x.paper(a, b, c, d),
                    m.paper(a, b, c, d));
            case 28:
                a = between(-3, 20);
                return same("bills(" + a + ")", x.bills(a), m.bills(a));
            case 29:
                a = upTo(3);
                b = between(1, 400);
                return same("taking(" + a + ", " + b + ")", x.taking(a, b), m.taking(a, b));
            case 30:
                a = upTo(2);
                return same("takings(" + a + ")", x.takings(a), m.takings(a));
            case 31:
                a = random.nextBoolean() ? between(-999, 999) : between(-3, 3);
                b = random.nextBoolean() ? between(-999, 999) : between(-3, 3);
                c = random.nextBoolean() ? between(-999, 999) : between(-3, 3);
                d = random.nextBoolean() ? upTo(10) : upTo(2);
                return same("choice(" + a + ", " + b + ", " + c + ", " + d + ")", x.choice(a, b, c, d),
                    m.choice(a, b, c, d));
            case 32:
                a = random.nextBoolean() ? upTo(500) : upTo(5);
                return same("choose(" + a + ")", x.choose(a), m.choose(a));
            case 33:
                a = upTo(9);
                b = upTo(2);
                c = random.nextBoolean() ? m.row(a, b) : upTo(9);
                return same("row(" + a + ", " + b + ")", x.row(a, b), m.row(a, b))
                    && same("alterRow(" + a + ", " + b + ", " + c + ")", x.alterRow(a, b, c), m.alterRow(a, b, c));
            default:
                a = random.nextBoolean() ? upTo(500) : upTo(5);
                return same("judge(" + a + ")", x.judge(a), m.judge(a))
                    && (random.nextInt(3) != 0 || same("dropRow()", x.dropRow(), m.dropRow()));
        }
    }

    private boolean callsOfHost(int method) {
        int a;
        int b;
        int c;
        switch (method) {
            case 35:
                a = upTo(4);
                b = between(-1, 4);
                c = random.nextBoolean() ? between(-1, 41) : between(3, 12);
                return same("sheet(" + a + ", " + b + ", " + c + ")", x.sheet(a, b, c), m.sheet(a, b, c));
            case 36:
                a = upTo(4);
                b = upTo(12);
                c = random.nextBoolean() ? upTo(1000) : random.nextInt();
                return same("put(" + a + ", " + b + ", " + c + ")", x.put(a, b, c), m.put(a, b, c));
            case 37:
                a = upTo(4);
                b = upTo(5);
                c = upTo(12);
                return same("item(" + a + ", " + b + ", " + c + ")", x.item(a, b, c), m.item(a, b, c));
            case 38:
                a = upTo(4);
                b = upTo(4);
                c = upTo(20);
                return same("shelf(" + a + ", " + b + ", " + c + ")", x.shelf(a, b, c), m.shelf(a, b, c));
            case 39:
                a = upTo(4);
                b = random.nextBoolean() ? upTo(7) : between(10, 14);
                return same("taken(" + a + ", " + b + ")", x.taken(a, b), m.taken(a, b));
            case 40: case 41:
                a = upTo(4);
                b = upTo(4);
                c = random.nextBoolean() ? upTo(100) : random.nextInt();
                return same("deal(" + a + ", " + b + ", " + c + ")", x.deal(a, b, c), m.deal(a, b, c)) && traces();
            case 42:
                a = upTo(15);
                return same("many(" + a + ")", x.many(a), m.many(a));
            case 43:
                return random.nextInt(4) != 0 || same("keep()", x.keep(), m.keep());
            default:
                return random.nextInt(4) != 0 || same("again()", x.again(), m.again());
        }
    }

    private boolean traces() {
        int i = upTo(13);
        return same("many(13)", x.many(13), m.many(13)) && same("trace(" + i + ")", x.trace(i), m.trace(i));
    }
}
