import java.util.Random;

/** Long random runs, each answer held against the plain second writing of the document. */
public final class RandomRunsTest {
    private static final int CALLS = 512;
    private static final String[] NAMES = {
        "function", "put", "bits", "tear", "at", "places", "take", "primes", "prime", "least", "summed", "letters",
        "graph", "order", "net", "gate", "keep", "out", "told", "output", "value", "same", "parts", "comes", "cared",
        "shape", "step", "back", "weight", "count", "remove"
    };
    /** How often each call comes: functions are changed more often than the dear calls are asked for. */
    private static final int[] FUNCTION_SHARE = {
        8, 60, 30, 15, 20, 15, 5, 12, 25, 25, 25, 8, 12, 5, 2, 5, 0, 0, 0, 0, 0, 0, 0, 0, 0, 0, 0, 0, 0, 4, 3
    };
    private static final int[] NET_SHARE = {
        2, 0, 0, 0, 1, 1, 4, 0, 0, 0, 0, 0, 0, 0, 8, 120, 12, 40, 40, 15, 20, 8, 12, 20, 30, 12, 40, 12, 10, 6, 5
    };

    private final Random random;
    private final LogicSmith real = new LogicSmith();
    private final PlainSmith plain = new PlainSmith();
    private final int mostLetters;
    private int[] gates = new int[8];

    private RandomRunsTest(long seed, int mostLetters) {
        random = new Random(seed);
        this.mostLetters = mostLetters;
    }

    private int upTo(int bound) {
        return bound <= 0 ? 0 : random.nextInt(bound);
    }

    /** A number that is mostly below the bound, now and then at an edge or beyond. */
    private int near(int bound) {
        if (upTo(40) == 0) {
            int[] edges = {-1, -2, -3, -4, bound, bound + 1, Integer.MAX_VALUE, Integer.MIN_VALUE, 1 << 31 - 4};
            return edges[upTo(edges.length)];
        }
        return upTo(bound);
    }

    private int letterCount() {
        return upTo(30) == 0 ? near(9) : 1 + upTo(mostLetters);
    }

    private int functionNumber() {
        return near(Math.max(1, plain.count(0)));
    }

    private int netNumber() {
        return near(Math.max(1, plain.count(1)));
    }

    private int rowsOf(int f) {
        int rows = 0;
        for (int what = 0; what < 3; what++) {
            rows += Math.max(0, plain.places(f, what));
        }
        return rows;
    }

    private int gateCount(int net) {
        int g = 0;
        while (plain.told(net, g, 0) != LogicSmith.BAD) {
            g++;
        }
        return g;
    }

    private int lettersOf(int net) {
        int k = 0;
        while (k < 8 && plain.value(net, k, 0) != LogicSmith.BAD) {
            k++;
        }
        return k;
    }

    private int operand(int net) {
        int pick = upTo(20);
        int count = gateCount(net);
        if (pick == 0) {
            return near(50);
        }
        if (pick == 1) {
            return -1 - upTo(2);
        }
        if (pick < 12 && count > 0) {
            return 8 + Math.max(upTo(count), upTo(count));
        }
        return upTo(lettersOf(net));
    }

    private int[] arguments(String name) {
        int f = functionNumber();
        int net = netNumber();
        switch (name) {
            case "function":
            case "net":
                return new int[] {letterCount()};
            case "put":
                return new int[] {f, near(rowsOf(f)), upTo(30) == 0 ? near(4) : upTo(3)};
            case "bits": {
                int row = near(rowsOf(f));
                int most = Math.min(33, Math.max(2, rowsOf(f) - row + (upTo(20) == 0 ? 2 : 1)));
                return new int[] {f, row, random.nextInt() | (upTo(2) == 0 ? 0 : random.nextInt()),
                    upTo(20) == 0 ? near(34) : 1 + upTo(most - 1)};
            }
            case "tear":
                return new int[] {f, near(Math.max(1, rowsOf(f) / 8)), upTo(2) == 0 ? 8 : near(9)};
            case "at":
                return new int[] {f, near(rowsOf(f))};
            case "places":
                return new int[] {f, near(4)};
            case "take":
                return new int[] {f, net, operand(net)};
            case "prime":
                return new int[] {f, upTo(10) == 0 ? near(40) : upTo(6)};
            case "graph":
                return new int[] {f, upTo(2) == 0 ? near(720) : upTo(6)};
            case "primes":
            case "least":
            case "order":
                return new int[] {f};
            case "summed":
                return new int[] {near(8)};
            case "letters":
                return new int[0];
            case "gate":
                return new int[] {net, near(16), operand(net), operand(net)};
            case "keep":
                return new int[] {net, near(gateCount(net)), upTo(20) == 0 ? near(3) : upTo(2)};
            case "out":
                return new int[] {net, near(6), upTo(10) == 0 ? -3 : operand(net)};
            case "told":
                return new int[] {net, near(gateCount(net)), near(5)};
            case "output":
                return new int[] {net, near(6)};
            case "value":
                return new int[] {net, operand(net), near(1 << lettersOf(net))};
            case "same":
            case "parts":
                return new int[] {net, netNumber()};
            case "comes":
            case "cared":
                return new int[] {net, near(gateCount(net))};
            case "step":
                return new int[] {near(plain.count(2) + 1), near(3)};
            case "shape":
            case "back":
            case "weight":
                return new int[] {net};
            case "count":
                return new int[] {near(3)};
            default:
                return new int[] {upTo(10) == 0 ? near(3) : upTo(2)};
        }
    }

    private int ofPlain(String name, int[] a) {
        switch (name) {
            case "function": return plain.function(a[0]);
            case "put": return plain.put(a[0], a[1], a[2]);
            case "bits": return plain.bits(a[0], a[1], a[2], a[3]);
            case "tear": return plain.tear(a[0], a[1], a[2]);
            case "at": return plain.at(a[0], a[1]);
            case "places": return plain.places(a[0], a[1]);
            case "take": return plain.take(a[0], a[1], a[2]);
            case "primes": return plain.primes(a[0]);
            case "prime": return plain.prime(a[0], a[1]);
            case "least": return plain.least(a[0]);
            case "summed": return plain.summed(a[0]);
            case "letters": return plain.letters();
            case "graph": return plain.graph(a[0], a[1]);
            case "order": return plain.order(a[0]);
            case "net": return plain.net(a[0]);
            case "gate": return plain.gate(a[0], a[1], a[2], a[3]);
            case "keep": return plain.keep(a[0], a[1], a[2]);
            case "out": return plain.out(a[0], a[1], a[2]);
            case "told": return plain.told(a[0], a[1], a[2]);
            case "output": return plain.output(a[0], a[1]);
            case "value": return plain.value(a[0], a[1], a[2]);
            case "same": return plain.same(a[0], a[1]);
            case "parts": return plain.parts(a[0], a[1]);
            case "comes": return plain.comes(a[0], a[1]);
            case "cared": return plain.cared(a[0], a[1]);
            case "shape": return plain.shape(a[0]);
            case "step": return plain.step(a[0], a[1]);
            case "back": return plain.back(a[0]);
            case "weight": return plain.weight(a[0]);
            case "count": return plain.count(a[0]);
            default: return plain.remove(a[0]);
        }
    }

    private static String pick(Random random, int[] share) {
        int total = 0;
        for (int s : share) {
            total += s;
        }
        int at = random.nextInt(total);
        int i = 0;
        while (at >= share[i]) {
            at -= share[i];
            i++;
        }
        return NAMES[i];
    }

    private void run(String title, int[] share, int most, Due due) {
        for (int call = 0; call < CALLS && due.allRight(); call++) {
            String name = call < 3 && share == FUNCTION_SHARE ? "function" : pick(random, share);
            if (name.equals("net") && plain.count(1) >= most && upTo(8) != 0) {
                continue;
            }
            int[] a = arguments(name);
            Call asked = new Call(name, a);
            due.is(title + ", call " + call + ": " + asked, asked.on(real), ofPlain(name, a));
        }
    }

    public static void main(String[] args) {
        int runs = args.length > 0 ? Integer.parseInt(args[0]) : 60;
        long firstSeed = args.length > 1 ? Long.parseLong(args[1]) : 0;
        Due due = new Due();
        for (int seed = 0; seed < runs && due.allRight(); seed++) {
            long s = firstSeed + seed;
            new RandomRunsTest(s, seed % 10 == 0 ? 8 : 5).run("functions " + s, FUNCTION_SHARE, 2, due);
            new RandomRunsTest(s, seed % 10 == 0 ? 8 : 4).run("nets " + s, NET_SHARE, 1 + seed % 3, due);
        }
        due.end();
    }
}
