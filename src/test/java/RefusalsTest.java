import java.util.ArrayList;
import java.util.List;

/**
 * Nothing there yet, all there is room for and one more, and every other refusal: the answer, of two the one that is
 * named first, and that it has changed nothing.
 */
public final class RefusalsTest {
    private static final int LOW = Integer.MIN_VALUE, HIGH = Integer.MAX_VALUE;
    private static final int BAD = -1, MANY = -2, FULL = -3, MISSING = -11, ENDED = -12;
    private static final int[] SOME = {LOW, -4, -3, -2, -1, 0, 1, 2, 8, 9, HIGH};
    private static final Due DUE = new Due();

    private final Scene scene;
    private final Reading reading;

    private RefusalsTest(Scene scene) {
        this.scene = scene;
        reading = new Reading(scene);
    }

    private void refused(int answer, String name, int... arguments) {
        Call call = new Call(name, arguments);
        DUE.is(scene.title + ": " + call, call.on(scene.made()), answer);
        String changed = reading.changedBy(call);
        DUE.is(scene.title + ": " + call + " changes: " + changed, changed.isEmpty() ? 0 : 1, 0);
    }

    /** "No functions, no nets": whatever is asked of a new object, there is no such thing. */
    private static void nothingThereYet() {
        RefusalsTest test = new RefusalsTest(Scenes.empty());
        for (String name : new String[] {"primes", "least", "order", "shape", "back", "weight", "summed", "remove"}) {
            for (int a : SOME) {
                test.refused(BAD, name, a);
            }
        }
        for (int a : SOME) {
            for (int b : SOME) {
                for (String name : new String[] {"at", "places", "prime", "graph", "same", "parts", "comes", "cared"}) {
                    test.refused(BAD, name, a, b);
                }
                test.refused(-4, "output", a, b);
                test.refused(-9, "step", a, b);
                for (String name : new String[] {"put", "tear", "take", "keep", "out", "told", "value"}) {
                    test.refused(BAD, name, a, b, 0);
                    test.refused(BAD, name, 0, a, b);
                }
                test.refused(BAD, "bits", a, b, 1, 1);
                test.refused(BAD, "bits", 0, a, 1, b);
                test.refused(BAD, "gate", a, 8, b, -1);
                test.refused(BAD, "gate", 0, a, -1, b);
            }
        }
        LogicSmith s = new LogicSmith();
        for (int what = 0; what < 3; what++) {
            DUE.is("a new object: count " + what, s.count(what), 0);
        }
        DUE.is("a new object: letters", s.letters(), 0);
    }

    /** "FULL", and "of several the one named first: BAD .. FULL". */
    private static void noRoomForMore() {
        RefusalsTest test = new RefusalsTest(Scenes.full());
        for (int n = 1; n <= 8; n++) {
            test.refused(FULL, "function", n);
            test.refused(FULL, "net", n);
        }
        for (int n : new int[] {LOW, -1, 0, 9, HIGH}) {
            test.refused(BAD, "function", n);
            test.refused(BAD, "net", n);
        }
        test.refused(FULL, "gate", 7, 8, 0, 1);
        test.refused(FULL, "gate", 7, 0, -1, -2);
        test.refused(FULL, "gate", 7, 15, 47, 47);
        test.refused(BAD, "gate", 8, 8, 0, 1);
        test.refused(BAD, "gate", 7, 16, 0, 1);
        test.refused(BAD, "gate", 7, -1, 0, 1);
        test.refused(BAD, "gate", 7, 8, 48, 1);
        test.refused(BAD, "gate", 7, 8, 0, 48);
        test.refused(BAD, "gate", 7, 8, -3, 1);
        test.refused(BAD, "gate", 7, 8, 0, -3);
    }

    /** One goes, one has room, and no more than one; the others are not in the way. */
    private static void roomAgain() {
        LogicSmith s = Scenes.full().made();
        DUE.is("a function goes", s.remove(0), 15);
        DUE.is("one has room", s.function(8), 15);
        DUE.is("one function more", s.function(1), FULL);
        DUE.is("nets are full still", s.net(1), FULL);
        DUE.is("gates have room in another net", s.gate(6, 8, 0, 1), 0);
        DUE.is("and not in the full one", s.gate(7, 8, 0, 1), FULL);
        DUE.is("a net goes", s.remove(1), 7);
        DUE.is("one net has room", s.net(1), 7);
        DUE.is("it has room for gates", s.gate(7, 8, 0, 0), 0);
        DUE.is("one net more", s.net(8), FULL);
        DUE.is("functions are full still", s.function(8), FULL);
    }

    /** "MANY: more letters than the call may have", "BAD: no such order (asked behind MANY)". */
    private static void tooManyLetters() {
        RefusalsTest test = new RefusalsTest(Scenes.plenty());
        int sixLetters = 2, eightLetters = 3, sevenLetters = 4;
        for (int f : new int[] {sixLetters, sevenLetters, eightLetters}) {
            test.refused(MANY, "least", f);
        }
        for (int f : new int[] {sevenLetters, eightLetters}) {
            test.refused(MANY, "order", f);
            for (int order : new int[] {LOW, -1, 0, 719, 720, 5039, 5040, 40319, 40320, HIGH}) {
                test.refused(MANY, "graph", f, order);
            }
        }
        for (int order : new int[] {LOW, -1, 720, HIGH}) {
            test.refused(BAD, "graph", sixLetters, order);
        }
        for (int order : new int[] {LOW, -1, 0, HIGH}) {
            test.refused(BAD, "graph", 7, order);
            test.refused(BAD, "graph", -1, order);
        }
    }

    /** "MANY: they have not the same letters", of which 'same' says 0; "BAD" comes first. */
    private static void otherLetters() {
        Scene scene = new Scene("a net of each number of letters");
        for (int n = 1; n <= 8; n++) {
            scene.then("net", n).then("out", n - 1, 0, -1 - n % 2);
        }
        RefusalsTest test = new RefusalsTest(scene);
        for (int a = 0; a < 8; a++) {
            for (int b = 0; b < 8; b++) {
                test.refused(a == b ? -5 : MANY, "parts", a, b);
                test.refused(a == b ? 1 : 0, "same", a, b);
            }
            test.refused(BAD, "parts", a, 8);
            test.refused(BAD, "parts", -1, a);
            test.refused(BAD, "same", a, 8);
            test.refused(BAD, "same", -1, a);
        }
        test.refused(BAD, "parts", 8, 8);
        test.refused(BAD, "same", -1, -1);
    }

    /** "BAD: .. they have not the same letters". */
    private static void takesOfOtherLetters() {
        Scene scene = new Scene("a function and a net of each number of letters");
        for (int n = 1; n <= 8; n++) {
            scene.then("function", n).then("put", n - 1, 1, 2).then("tear", n - 1, 0, 2).then("net", n);
        }
        RefusalsTest test = new RefusalsTest(scene);
        for (int f = 0; f < 8; f++) {
            for (int net = 0; net < 8; net++) {
                if (f != net) {
                    test.refused(BAD, "take", f, net, 0);
                    test.refused(BAD, "take", f, net, -2);
                } else {
                    DUE.is("take of " + (f + 1) + " letters", scene.made().take(f, net, -2), 2 << f);
                }
            }
        }
    }

    /** "MISSING, ENDED: its sheet is, or has", for each sheet size and each number of places that are left. */
    private static void tornSheets() {
        for (int n = 1; n <= 8; n++) {
            int size = Math.min(8, 1 << n);
            int sheets = Math.max(1, (1 << n) / 8);
            for (int left = 0; left <= size; left++) {
                for (int sheet = 0; sheet < sheets; sheet += Math.max(1, sheets - 1)) {
                    tornSheet(n, sheet, size, left);
                }
            }
        }
    }

    private static void tornSheet(int n, int sheet, int size, int left) {
        Scene scene = new Scene("sheet " + sheet + " of " + n + " letters, " + left + " left").then("function", n)
            .then("put", 0, sheet * size, 1).then("put", 0, sheet * size + 1, 2).then("tear", 0, sheet, left);
        RefusalsTest test = new RefusalsTest(scene);
        for (int place = 0; place < size; place++) {
            int row = sheet * size + place;
            int held = place == 0 ? 1 : place == 1 ? 2 : 0;
            int lack = left == 0 ? MISSING : ENDED;
            for (int v = 0; v < 3 && place >= left; v++) {
                test.refused(lack, "put", 0, row, v);
                test.refused(lack, "bits", 0, row, v, 1);
            }
            if (place < left) {
                DUE.is(scene.title + ": put " + place, scene.made().put(0, row, 2), held);
                DUE.is(scene.title + ": bits " + place, scene.made().bits(0, row, 1, 1), 1);
            }
            test.refused(BAD, "put", 0, row, 3);
            test.refused(BAD, "put", 0, row, -1);
            test.refused(BAD, "put", 1, row, 1);
            test.refused(BAD, "bits", 0, row, 1, 0);
            test.refused(BAD, "bits", 0, row, 1, 33);
            test.refused(BAD, "bits", 0, row, 1, (1 << n) - row + 1);
            DUE.is(scene.title + ": at " + place, scene.made().at(0, row), place < left ? held : 2);
        }
    }

    /** "MISSING, ENDED: the first of these places that is not there"; those ahead of it stay as they were. */
    private static void firstThatIsNotThere() {
        // Of four sheets the second has 4 places, the third none.
        RefusalsTest test = new RefusalsTest(new Scene("ended ahead of missing").then("function", 5)
            .then("bits", 0, 0, 0x12345678, 32).then("put", 0, 3, 2).then("tear", 0, 1, 4).then("tear", 0, 2, 0));
        test.refused(ENDED, "bits", 0, 0, -1, 32);
        test.refused(ENDED, "bits", 0, 0, 0, 32);
        test.refused(ENDED, "bits", 0, 0, -1, 13);
        test.refused(ENDED, "bits", 0, 11, -1, 2);
        test.refused(ENDED, "bits", 0, 12, -1, 1);
        test.refused(ENDED, "bits", 0, 15, -1, 2);
        test.refused(MISSING, "bits", 0, 16, -1, 1);
        test.refused(MISSING, "bits", 0, 16, -1, 16);
        test.refused(MISSING, "bits", 0, 23, -1, 9);
        test.refused(BAD, "bits", 0, 15, -1, 18);
        test.refused(BAD, "bits", 0, 16, -1, 17);
        DUE.is("up to the end", test.scene.made().bits(0, 0, -1, 12), 12);
        DUE.is("behind what is missing", test.scene.made().bits(0, 24, -1, 8), 8);
        test = new RefusalsTest(new Scene("missing ahead of ended").then("function", 5)
            .then("bits", 0, 0, 0x12345678, 32).then("tear", 0, 1, 0).then("tear", 0, 2, 4));
        test.refused(MISSING, "bits", 0, 0, -1, 32);
        test.refused(MISSING, "bits", 0, 7, -1, 2);
        test.refused(MISSING, "bits", 0, 15, -1, 9);
        test.refused(ENDED, "bits", 0, 16, -1, 5);
        test.refused(ENDED, "bits", 0, 19, -1, 13);
        DUE.is("up to what is missing", test.scene.made().bits(0, 0, -1, 8), 8);
        DUE.is("between", test.scene.made().bits(0, 16, -1, 4), 4);
    }

    /** "BAD: no such net, or it is not so": a refused 'back' does not use up the one that can be done. */
    private static void refusedBacks() {
        RefusalsTest test = new RefusalsTest(Scenes.plenty());
        for (int net : new int[] {LOW, -1, 1, 2, 3, 4, 7, 8, HIGH}) {
            test.refused(BAD, "back", net);
        }
        DUE.is("the one that can be done", test.scene.made().back(0), 5);
        test = new RefusalsTest(Scenes.plenty().then("back", 0));
        test.refused(BAD, "back", 0);
        test = new RefusalsTest(Scenes.plenty().then("shape", 1));
        test.refused(BAD, "back", 0);
        test = new RefusalsTest(Scenes.plenty().then("gate", 0, 8, 0, 1));
        test.refused(BAD, "back", 0);
        test = new RefusalsTest(Scenes.plenty().then("keep", 0, 5, 1));
        test.refused(BAD, "back", 0);
        test = new RefusalsTest(Scenes.plenty().then("out", 0, 5, -1));
        test.refused(BAD, "back", 0);
    }

    /** "BAD: there is none, or another kind". */
    private static void refusedRemoves() {
        RefusalsTest test = new RefusalsTest(new Scene("functions alone").then("function", 2).then("function", 3));
        test.refused(BAD, "remove", 1);
        DUE.is("of two functions one is left", test.scene.made().remove(0), 1);
        test = new RefusalsTest(new Scene("nets alone").then("net", 2).then("net", 3));
        test.refused(BAD, "remove", 0);
        DUE.is("of two nets one is left", test.scene.made().remove(1), 1);
        test = new RefusalsTest(Scenes.full());
        for (int kind : new int[] {LOW, -1, 2, 3, HIGH}) {
            test.refused(BAD, "remove", kind);
        }
        List<Call> all = new ArrayList<>();
        for (int i = 0; i < 18; i++) {
            all.add(new Call("remove", 0));
            all.add(new Call("remove", 1));
        }
        List<Integer> answers = Scenes.full().answers(all);
        for (int i = 0; i < 18; i++) {
            DUE.is("function that goes " + i, answers.get(2 * i), i < 16 ? 15 - i : BAD);
            DUE.is("net that goes " + i, answers.get(2 * i + 1), i < 8 ? 7 - i : BAD);
        }
    }

    public static void main(String[] args) {
        nothingThereYet();
        noRoomForMore();
        roomAgain();
        tooManyLetters();
        otherLetters();
        takesOfOtherLetters();
        tornSheets();
        firstThatIsNotThere();
        refusedBacks();
        refusedRemoves();
        DUE.end();
    }
}
