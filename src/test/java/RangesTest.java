import java.util.ArrayList;
import java.util.List;

/**
 * The numbers that things may have: for each argument of each call the last that is allowed and the first that is
 * not, on both sides, and the least and the largest int. What is refused changes nothing, and neither does a call
 * that only asks.
 */
public final class RangesTest {
    private static final int LOW = Integer.MIN_VALUE, HIGH = Integer.MAX_VALUE;
    private static final int BAD = -1;
    private static final String ASKING = " at places primes prime summed letters graph order told output value same "
        + "parts comes cared step weight count ";
    private static final Due DUE = new Due();

    /** An argument of a call: where it stands, the numbers that are allowed, those that are not, and their answer. */
    private record Argument(Call call, int place, int[] allowed, int[] wrong, int refusal) {
    }

    private final Scene scene;
    private final Reading reading;
    private final LogicSmith made;
    private final List<Argument> arguments = new ArrayList<>();

    private RangesTest(Scene scene) {
        this.scene = scene;
        reading = new Reading(scene);
        made = scene.made();
    }

    private void range(Call call, int place, int first, int last) {
        range(call, place, first, last, BAD);
    }

    private void range(Call call, int place, int first, int last, int refusal) {
        int[] allowed = last < first ? new int[0] : new int[] {first, last};
        int[] wrong = {LOW, first - 1, Math.max(first, last + 1), HIGH};
        arguments.add(new Argument(call, place, allowed, wrong, refusal));
    }

    private void operand(Call call, int place, int n, int gates, boolean mayBeUntold) {
        int[] allowed = {-2, -1, 0, n - 1, gates > 0 ? 8 : 0, gates > 0 ? 7 + gates : 0, mayBeUntold ? -3 : 0};
        int[] wrong = {LOW, mayBeUntold ? -4 : -3, n < 8 ? n : LOW, n < 8 ? 7 : LOW, 8 + gates, 48, HIGH};
        arguments.add(new Argument(call, place, allowed, wrong, BAD));
    }

    private int rowsOf(int f) {
        return made.places(f, 0) + made.places(f, 1) + made.places(f, 2);
    }

    private int lettersOf(int rows) {
        return Integer.numberOfTrailingZeros(rows);
    }

    private void ofFunction(int f) {
        int last = made.count(0) - 1;
        int rows = rowsOf(f);
        int sheets = Math.max(1, rows / 8);
        int sheetSize = Math.min(8, rows);
        for (Call call : new Call[] {
            new Call("put", f, 0, 1), new Call("bits", f, 0, 1, 1), new Call("tear", f, 0, 1), new Call("at", f, 0),
            new Call("places", f, 0), new Call("primes", f), new Call("least", f), new Call("graph", f, 0),
            new Call("order", f)}) {
            range(call, 0, 0, last);
        }
        range(new Call("put", f, 0, 1), 1, 0, rows - 1);
        range(new Call("put", f, 0, 1), 2, 0, 2);
        range(new Call("bits", f, 0, 1, 1), 1, 0, rows - 1);
        range(new Call("bits", f, 0, -1, sheetSize), 1, 0, rows - sheetSize);
        range(new Call("bits", f, 0, 1, 1), 3, 1, Math.min(32, rows));
        range(new Call("bits", f, rows - 1, 1, 1), 3, 1, 1);
        range(new Call("tear", f, 0, 1), 1, 0, sheets - 1);
        range(new Call("tear", f, 0, 1), 2, 0, sheetSize);
        range(new Call("tear", f, sheets - 1, 1), 2, 0, sheetSize);
        range(new Call("at", f, 0), 1, 0, rows - 1);
        range(new Call("places", f, 0), 1, 0, 3);
        range(new Call("prime", f, 0), 1, 0, made.primes(f) - 1);
        if (rows <= 64) {
            int[] orders = {1, 1, 2, 6, 24, 120, 720};
            range(new Call("graph", f, 0), 1, 0, orders[lettersOf(rows)] - 1);
        }
        if (made.primes(f) > 0 && made.primes(last) > 0 && made.primes(0) > 0) {
            range(new Call("prime", f, 0), 0, 0, last);
        }
    }

    private void ofNet(int net, int n, int gates) {
        int last = made.count(1) - 1;
        for (Call call : new Call[] {
            new Call("gate", net, 8, 0, 0), new Call("out", net, 0, 0), new Call("value", net, 0, 0),
            new Call("same", net, net), new Call("parts", net, net), new Call("shape", net), new Call("weight", net)}) {
            range(call, 0, 0, last);
        }
        range(new Call("output", net, 0), 0, 0, last, -4);
        range(new Call("output", net, 0), 1, 0, 5, -4);
        range(new Call("same", net, net), 1, 0, last);
        range(new Call("parts", net, net), 1, 0, last);
        range(new Call("gate", net, 8, 0, 0), 1, 0, 15);
        operand(new Call("gate", net, 8, 0, 0), 2, n, gates, false);
        operand(new Call("gate", net, 8, 0, 0), 3, n, gates, false);
        range(new Call("out", net, 0, 0), 1, 0, 5);
        operand(new Call("out", net, 0, 0), 2, n, gates, true);
        operand(new Call("out", net, 5, 0), 2, n, gates, true);
        operand(new Call("value", net, 0, 0), 1, n, gates, false);
        range(new Call("value", net, 0, 0), 2, 0, (1 << n) - 1);
        range(new Call("value", net, -2, 0), 2, 0, (1 << n) - 1);
        for (Call call : new Call[] {
            new Call("keep", net, 0, 1), new Call("told", net, 0, 0), new Call("comes", net, 0),
            new Call("cared", net, 0)}) {
            range(call, 1, 0, gates - 1);
            arguments.add(new Argument(call, 0, new int[] {}, new int[] {LOW, -1, last + 1, 8, HIGH}, BAD));
        }
        if (gates > 0) {
            range(new Call("keep", net, 0, 1), 2, 0, 1);
            range(new Call("told", net, 0, 0), 2, 0, 4);
            range(new Call("told", net, gates - 1, 0), 2, 0, 4);
        }
    }

    private void ofTake(int f, int net, int n, int gates) {
        Call take = new Call("take", f, net, 0);
        arguments.add(new Argument(take, 0, new int[] {f}, new int[] {LOW, -1, made.count(0), HIGH}, BAD));
        arguments.add(new Argument(take, 1, new int[] {net}, new int[] {LOW, -1, made.count(1), HIGH}, BAD));
        operand(take, 2, n, gates, false);
    }

    private void ofTheRest() {
        int sum = 0;
        while (made.summed(sum) != BAD) {
            sum++;
        }
        range(new Call("summed", 0), 0, 0, sum - 1);
        range(new Call("step", 0, 0), 0, 0, made.count(2) - 1, -9);
        arguments.add(new Argument(new Call("step", 0, 0), 1, made.count(2) > 0 ? new int[] {0, 2} : new int[0],
            new int[] {LOW, -1, 3, HIGH}, -9));
        range(new Call("count", 0), 0, 0, 2);
        boolean some = made.count(0) > 0 && made.count(1) > 0;
        arguments.add(new Argument(new Call("remove", 0), 0, some ? new int[] {0, 1} : new int[0],
            new int[] {LOW, -1, 2, HIGH}, BAD));
        arguments.add(new Argument(new Call("back", 0), 0, new int[0],
            new int[] {LOW, -1, made.count(1), 8, HIGH}, BAD));
        range(new Call("function", 1), 0, 1, 8);
        range(new Call("net", 1), 0, 1, 8);
    }

    private void refused(Call call, int refusal) {
        DUE.is(scene.title + ": " + call, call.on(scene.made()), refusal);
        String changed = reading.changedBy(call);
        DUE.is(scene.title + ": " + call + " changes: " + changed, changed.isEmpty() ? 0 : 1, 0);
    }

    private void allowed(Call call, int refusal) {
        DUE.is(scene.title + ": " + call + " is refused", call.on(scene.made()) == refusal ? 1 : 0, 0);
        if (ASKING.contains(" " + call.name() + " ")) {
            String changed = reading.changedBy(call);
            DUE.is(scene.title + ": " + call + " changes: " + changed, changed.isEmpty() ? 0 : 1, 0);
        }
    }

    private void oneWrong() {
        for (Argument a : arguments) {
            for (int v : a.allowed()) {
                allowed(a.call().with(a.place(), v), a.refusal());
            }
            for (int v : a.wrong()) {
                refused(a.call().with(a.place(), v), a.refusal());
            }
        }
    }

    /** Two arguments of a call wrong at once: it is still the answer of the wrong ones, whatever the state. */
    private void twoWrong() {
        for (Argument a : arguments) {
            for (Argument b : arguments) {
                boolean together = a.call().toString().equals(b.call().toString()) && a.place() < b.place();
                for (int i = 0; together && i < a.wrong().length; i++) {
                    Call call = a.call().with(a.place(), a.wrong()[i]).with(b.place(), b.wrong()[i % b.wrong().length]);
                    DUE.is(scene.title + ", two wrong: " + call, call.on(scene.made()), a.refusal());
                }
            }
        }
    }

    private void test() {
        ofTheRest();
        oneWrong();
        twoWrong();
    }

    private static void inPlenty() {
        RangesTest test = new RangesTest(Scenes.plenty());
        for (int f = 0; f < 7; f++) {
            test.ofFunction(f);
        }
        test.ofNet(0, 3, 6);
        test.ofNet(1, 8, 3);
        test.ofNet(2, 1, 0);
        test.ofNet(3, 3, 2);
        test.ofTake(3, 1, 8, 3);
        test.ofTake(1, 2, 1, 0);
        test.test();
    }

    private static void inFull() {
        RangesTest test = new RangesTest(Scenes.full());
        test.ofFunction(15);
        test.ofFunction(0);
        test.ofNet(7, 8, 40);
        test.ofNet(0, 1, 0);
        test.ofTake(15, 7, 8, 40);
        test.ofTake(8, 0, 1, 0);
        test.test();
    }

    private static void inLetters(int n) {
        RangesTest test = new RangesTest(Scenes.ofLetters(n));
        test.ofFunction(0);
        test.ofNet(0, n, 2);
        test.ofTake(0, 0, n, 2);
        test.test();
    }

    public static void main(String[] args) {
        inPlenty();
        inFull();
        for (int n = 1; n <= 8; n++) {
            inLetters(n);
        }
        DUE.end();
    }
}
