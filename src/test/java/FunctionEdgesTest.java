import java.util.ArrayList;
import java.util.List;

/** The sentences of the document that name an edge of functions, a test for each; its title tells the sentence. */
public final class FunctionEdgesTest {
    private static final int LOW = Integer.MIN_VALUE, HIGH = Integer.MAX_VALUE;
    private static final int BAD = -1, MANY = -2, MISSING = -11, ENDED = -12;
    private static final int[] POWER = {1, 3, 9, 27, 81, 243, 729, 2187, 6561};
    private static final Due DUE = new Due();
    private static String title = "";

    private static LogicSmith sentence(String words) {
        title = words;
        return new LogicSmith();
    }

    private static void due(String call, long got, long want) {
        DUE.is("\"" + title + "\": " + call, got, want);
    }

    /** Function 0 of n letters whose first rows are the bits of a word. */
    private static LogicSmith ofWord(int n, int word) {
        LogicSmith s = new LogicSmith();
        s.function(n);
        s.bits(0, 0, word, Math.min(32, 1 << n));
        return s;
    }

    private static void lettersAndRows() {
        sentence("rows are numbers 0 .. 2^n - 1, bit k tells letter k");
        for (int n = 1; n <= 8; n++) {
            for (int k = 0; k < n; k++) {
                LogicSmith s = new LogicSmith();
                s.function(n);
                s.net(n);
                due("letter " + k + " of " + n, s.take(0, 0, k), 1 << n - 1);
                due("at its row", s.at(0, 1 << k), 1);
                due("at row 0", s.at(0, 0), 0);
                due("at the last row", s.at(0, (1 << n) - 1), 1);
                due("at the last row without it", s.at(0, (1 << n) - 1 - (1 << k)), 0);
                due("one prime", s.primes(0), 1);
                due("that tells the letter 1", s.prime(0, 0), POWER[n] - 1 - POWER[k]);
            }
        }
    }

    private static void numbersOfProducts() {
        sentence("its NUMBER is the sum of what it tells of letter k times 3^k");
        for (int n = 1; n <= 8; n++) {
            LogicSmith s = new LogicSmith();
            s.function(n);
            s.put(0, 0, 1);
            due("row 0 alone, " + n, s.prime(0, 0), 0);
            s.put(0, 0, 0);
            s.put(0, (1 << n) - 1, 1);
            due("the last row alone, " + n, s.prime(0, 0), (POWER[n] - 1) / 2);
            for (int sheet = 0; sheet < Math.max(1, (1 << n) / 8); sheet++) {
                s.tear(0, sheet, 0);
            }
            due("all left out, " + n, s.prime(0, 0), POWER[n] - 1);
            due("and it is the only one", s.primes(0), 1);
        }
    }

    private static int toldOf(int number, int letter) {
        return number / POWER[letter] % 3;
    }

    private static boolean holds(int number, int n, int row) {
        for (int k = 0; k < n; k++) {
            if (toldOf(number, k) != 2 && toldOf(number, k) != (row >> k & 1)) {
                return false;
            }
        }
        return true;
    }

    private static void productsHold() {
        sentence("It HOLDS at the rows that have all letters as it tells");
        for (int n = 1; n <= 8; n++) {
            // All products of up to 5 letters, and some of more.
            for (int number = 0; number < POWER[n]; number += n <= 5 ? 1 : 3 * n + 5) {
                LogicSmith s = new LogicSmith();
                s.function(n);
                for (int row = 0; row < 1 << n; row++) {
                    if (holds(number, n, row)) {
                        s.put(0, row, 1 + row % 2);
                    }
                }
                due("product " + number + " of " + n + " is the only prime where it holds", s.primes(0), 1);
                due("its number", s.prime(0, 0), number);
                if (n <= 5 && s.places(0, 1) > 0) {
                    int told = 0;
                    for (int k = 0; k < n; k++) {
                        told += toldOf(number, k) == 2 ? 0 : 1;
                    }
                    due("product " + number + " of " + n + " is the LEAST sum", s.least(0), 1);
                    due("its number in the sum", s.summed(0), number);
                    due("its letters", s.letters(), told);
                }
            }
        }
    }

    private static void placesThatAreNotThere() {
        sentence("the places that are not there are FREE");
        for (int left = 0; left < 8; left++) {
            LogicSmith torn = ofWord(5, 0x7A16E9C4);
            LogicSmith free = ofWord(5, 0x7A16E9C4);
            torn.tear(0, 2, left);
            for (int row = 16 + left; row < 24; row++) {
                free.put(0, row, 2);
            }
            for (int row = 0; row < 32; row++) {
                due("at " + row, torn.at(0, row), free.at(0, row));
            }
            due("primes", torn.primes(0), free.primes(0));
            for (int k = 0; k <= free.primes(0); k++) {
                due("prime " + k, torn.prime(0, k), free.prime(0, k));
            }
            due("least", torn.least(0), free.least(0));
            for (int k = 0; k <= free.least(0); k++) {
                due("summed " + k, torn.summed(k), free.summed(k));
            }
            due("order", torn.order(0), free.order(0));
            due("graph", torn.graph(0, 77), free.graph(0, 77));
            due("holding 2", torn.places(0, 2), free.places(0, 2));
            due("not there", torn.places(0, 3), 8 - left);
            due("all there", free.places(0, 3), 0);
        }
    }

    private static void primesAtTheEdges() {
        sentence("A PRIME of a function is a product that holds only at places that are not 0, and that, with any one "
            + "of its letters left out besides, would not");
        for (int n = 1; n <= 5; n++) {
            LogicSmith s = ofWord(n, 0);
            due("all 0, " + n, s.primes(0), 0);
            due("none of them", s.prime(0, 0), BAD);
            s.bits(0, 0, -1, 1 << n);
            due("all 1, " + n, s.primes(0), 1);
            due("all letters left out", s.prime(0, 0), POWER[n] - 1);
            due("no other", s.prime(0, 1), BAD);
            s.put(0, (1 << n) - 1, 0);
            due("all but the last row: one for each letter, " + n, s.primes(0), n);
            for (int k = 0; k < n; k++) {
                due("the highest letter is the least number", s.prime(0, k), POWER[n] - 1 - 2 * POWER[n - 1 - k]);
            }
            due("no more", s.prime(0, n), BAD);
        }
        LogicSmith s = ofWord(2, 0);
        s.put(0, 3, 2);
        due("a FREE place alone has a prime", s.primes(0), 1);
        due("of both letters", s.prime(0, 0), 4);
    }

    private static void leastSums() {
        LogicSmith s = sentence("The LEAST one has the fewest primes");
        // Of rows with letter 0 0 and letter 1 1 only row 2 is not 0. Rows 0 and 3 are held by the product of letters
        // 2, 3, 4 being 0 alone, or by letter 0 and letter 1 being 0: two primes, but only two letters.
        s.function(5);
        for (int row = 0; row < 32; row++) {
            s.put(0, row, row == 0 || row == 3 ? 1 : row == 2 || (row & 3) != 2 ? 2 : 0);
        }
        due("one", s.least(0), 1);
        due("its number", s.summed(0), 8);
        due("its letters are more", s.letters(), 3);
        s = sentence("of several the one whose primes tell the fewest letters together");
        s.function(4);
        // Row 2 is held by prime 5 of three letters and by prime 75 of two.
        for (int row = 0; row < 16; row++) {
            s.put(0, row, row == 2 ? 1 : (0xF76A >> row & 1) * 2);
        }
        due("one", s.least(0), 1);
        due("not the least number", s.summed(0), 75);
        due("two letters", s.letters(), 2);
        due("there is a lesser one", s.prime(0, 0), 5);
        sentence("of several the one whose NUMBERS, rising, come first: by the first that differs, the lesser");
        s = ofWord(3, 0x7E);
        due("every second of a ring", s.least(0), 3);
        due("first", s.summed(0), 5);
        due("second", s.summed(1), 15);
        due("third", s.summed(2), 19);
        // Row 0 alone comes first in every sum; the ring of the rows 9 to 14 is told apart behind it.
        s = ofWord(4, 0x7E01);
        due("a ring and a row", s.least(0), 4);
        due("the same in all", s.summed(0), 0);
        due("the first that differs", s.summed(1), 32);
        due("then", s.summed(2), 42);
        due("last", s.summed(3), 46);
    }

    private static void sumsOfNothing() {
        sentence("A SUM for a function is a set of its primes such that at each row whose place is 1 one of them "
            + "holds");
        for (int n = 1; n <= 5; n++) {
            LogicSmith s = ofWord(n, 1);
            due("one row, " + n, s.least(0), 1);
            due("letters", s.letters(), n);
            s.put(0, 0, 0);
            due("no row is 1, " + n, s.least(0), 0);
            due("none summed", s.summed(0), BAD);
            due("no letters", s.letters(), 0);
            s.put(0, 0, 2);
            due("a prime, but no row is 1, " + n, s.least(0), 0);
            due("one prime", s.primes(0), 1);
            due("none of it summed", s.summed(0), BAD);
        }
    }

    private static void graphs() {
        sentence("of those that hang on letter k of the order (for some way of the others), like ones once");
        int[] orders = {1, 1, 2, 6, 24, 120, 720};
        for (int n = 1; n <= 6; n++) {
            LogicSmith s = new LogicSmith();
            s.function(n);
            due("all 0, " + n, s.graph(0, orders[n] - 1), 0);
            s.net(n);
            s.take(0, 0, -2);
            due("all 1, " + n, s.graph(0, orders[n] - 1), 0);
            for (int k = 0; k < n; k++) {
                s.take(0, 0, k);
                due("letter " + k + " in the first order", s.graph(0, 0), 1);
                due("letter " + k + " in the last order", s.graph(0, orders[n] - 1), 1);
                due("letter " + k + ": all orders are alike", s.order(0), 0);
            }
            int parity = s.gate(0, 6, 0, -1);
            for (int k = 1; k < n; k++) {
                parity = s.gate(0, 6, 8 + parity, k);
            }
            s.take(0, 0, 8 + parity);
            due("parity of " + n + ": one node, then two for each letter", s.graph(0, 0), 2 * n - 1);
            due("in the last order, too", s.graph(0, orders[n] - 1), 2 * n - 1);
            due("no such order", s.graph(0, orders[n]), BAD);
        }
        LogicSmith s = sentence("The GRAPH of a function in an order, FREE places being 0");
        s.function(3);
        for (int row = 0; row < 8; row++) {
            s.put(0, row, row == 7 ? 1 : 2);
        }
        due("one row is 1", s.graph(0, 0), 3);
        s.put(0, 7, 2);
        due("all free", s.graph(0, 5), 0);
        due("all free, the order", s.order(0), 0);
    }

    private static void ordersAtTheEnds() {
        sentence("The least order in which the GRAPH has the fewest NODES");
        due("of one letter", ofWord(1, 2).order(0), 0);
        due("of two, letter 1", ofWord(2, 0xC).order(0), 0);
        // Functions whose best order is the last of all; FunctionsTest holds other ones against the plain writing.
        long[] words = {0x0655, 0x70700577L, 0x4459445944945959L};
        int[] last = {23, 119, 719};
        for (int i = 0; i < 3; i++) {
            LogicSmith s = ofWord(4 + i, (int) words[i]);
            if (i == 2) {
                s.bits(0, 32, (int) (words[i] >>> 32), 32);
            }
            due("the last order, " + (4 + i), s.order(0), last[i]);
            int fewest = s.graph(0, last[i]);
            for (int order = 0; order < last[i]; order += 2 + i) {
                due("no fewer nodes in order " + order, s.graph(0, order) > fewest ? 1 : 0, 1);
            }
        }
    }

    /** All rows of n letters from a beginning on, in the order in which the document numbers them. */
    private static void listOrders(int n, List<Integer> begun, List<List<Integer>> all) {
        if (begun.size() == n) {
            all.add(List.copyOf(begun));
            return;
        }
        for (int letter = 0; letter < n; letter++) {
            if (!begun.contains(letter)) {
                begun.add(letter);
                listOrders(n, begun, all);
                begun.remove(begun.size() - 1);
            }
        }
    }

    /** A function whose only best order falls from the highest letter to 0, its letters named anew. */
    private static LogicSmith renamed(int n, long word, List<Integer> order) {
        LogicSmith s = new LogicSmith();
        s.function(n);
        long places = 0;
        for (int row = 0; row < 1 << n; row++) {
            int newRow = 0;
            for (int k = 0; k < n; k++) {
                newRow |= (row >> n - 1 - k & 1) << order.get(k);
            }
            places |= (word >>> row & 1) << newRow;
        }
        for (int row = 0; row < 1 << n; row += 32) {
            s.bits(0, row, (int) (places >>> row), Math.min(32, 1 << n));
        }
        return s;
    }

    private static void ordersByNumber() {
        sentence("ORDERS of n letters (n 1 .. 6) are numbered from 0 on as rows of letters, by the first letter that "
            + "differs, the lesser one first");
        long[] words = {0x0655, 0x70700577L, 0x4459445944945959L};
        for (int n = 4; n <= 6; n++) {
            List<List<Integer>> all = new ArrayList<>();
            listOrders(n, new ArrayList<>(), all);
            int fewest = renamed(n, words[n - 4], all.get(0)).graph(0, 0);
            for (int i = 0; i < all.size(); i++) {
                LogicSmith s = renamed(n, words[n - 4], all.get(i));
                due("the best order is " + all.get(i), s.order(0), i);
                due("its nodes", s.graph(0, i), fewest);
                int other = (i + 1 + i % 7) % all.size();
                due("more nodes in order " + other, s.graph(0, other) > fewest ? 1 : 0, 1);
            }
            due("no more orders", renamed(n, 0, all.get(0)).graph(0, all.size()), BAD);
        }
        // Letter k chooses between the two others: it stands first in the best orders, the others in either order.
        for (int k = 0; k < 3; k++) {
            int lesser = k == 0 ? 1 : 0;
            int greater = k == 2 ? 1 : 2;
            LogicSmith s = new LogicSmith();
            s.function(3);
            for (int row = 0; row < 8; row++) {
                s.put(0, row, row >> ((row >> k & 1) == 0 ? lesser : greater) & 1);
            }
            due("letter " + k + " chooses", s.order(0), 2 * k);
            for (int order = 0; order < 6; order++) {
                due("letter " + k + " in order " + order, s.graph(0, order) == 3 ? 1 : 0, order / 2 == k ? 1 : 0);
            }
        }
    }

    private static void manyLetters() {
        sentence("MANY: more than 5 letters");
        for (int n = 1; n <= 8; n++) {
            LogicSmith s = new LogicSmith();
            s.function(n);
            s.put(0, (1 << n) - 1, 1);
            due("least of " + n, s.least(0), n <= 5 ? 1 : MANY);
            due("letters of " + n, s.letters(), n <= 5 ? n : 0);
            due("summed of " + n, s.summed(0), n <= 5 ? (POWER[n] - 1) / 2 : BAD);
        }
        sentence("MANY: more than 6 letters; BAD: no such order (asked behind MANY)");
        for (int n = 1; n <= 8; n++) {
            LogicSmith s = new LogicSmith();
            s.function(n);
            s.put(0, (1 << n) - 1, 1);
            due("order of " + n, s.order(0), n <= 6 ? 0 : MANY);
            due("graph of " + n, s.graph(0, 0), n <= 6 ? n : MANY);
            for (int order : new int[] {LOW, -1, 40320, HIGH}) {
                due("order " + order + " of " + n, s.graph(0, order), n <= 6 ? BAD : MANY);
                due("order " + order + " of no function", s.graph(1, order), BAD);
                due("order " + order + " of no function below", s.graph(LOW, order), BAD);
            }
        }
    }

    private static void newFunctions() {
        sentence("A new function of n letters, all places 0: its number");
        for (int n = 1; n <= 8; n++) {
            LogicSmith s = new LogicSmith();
            s.function(8);
            for (int sheet = 0; sheet < 32; sheet++) {
                s.bits(0, 8 * sheet, 0xA5, 8);
                s.put(0, 8 * sheet, 2);
                s.tear(0, sheet, sheet % 9);
            }
            s.remove(0);
            due("its number", s.function(n), 0);
            due("places of it", s.places(0, 0), 1 << n);
            due("none is 1", s.places(0, 1), 0);
            due("none is FREE", s.places(0, 2), 0);
            due("all are there", s.places(0, 3), 0);
            due("no primes", s.primes(0), 0);
            due("the last place", s.put(0, (1 << n) - 1, 1), 0);
            due("none behind it", s.put(0, 1 << n, 1), BAD);
        }
    }

    private static void puts() {
        sentence("The place of a row becomes v (0, 1, 2): what it held");
        for (int n = 1; n <= 8; n++) {
            for (int row : new int[] {0, 1, (1 << n) - 1}) {
                LogicSmith s = new LogicSmith();
                s.function(n);
                int held = 0;
                for (int v : new int[] {0, 1, 1, 2, 2, 0, 2, 1, 0}) {
                    due("row " + row + " of " + n + " becomes " + v, s.put(0, row, v), held);
                    due("it is", s.at(0, row), v);
                    due("the other places hold 0", s.places(0, 0), (1 << n) - (v == 0 ? 0 : 1));
                    held = v;
                }
            }
        }
    }

    private static void bits() {
        sentence("Places from a row on become the bits of a word, the lowest first, n (1 .. 32) of them: n");
        int word = 0x9ABCDEF5;
        for (int n = 1; n <= 32; n++) {
            for (int row : new int[] {0, 3, 64 - n}) {
                if (row + n <= 64) {
                    LogicSmith s = new LogicSmith();
                    s.function(6);
                    s.put(0, row, 2);
                    due("n " + n + " from row " + row, s.bits(0, row, word, n), n);
                    for (int i = 0; i < 64; i++) {
                        boolean within = i >= row && i < row + n;
                        due("row " + i, s.at(0, i), within ? word >>> i - row & 1 : 0);
                    }
                }
            }
        }
        LogicSmith s = sentence("the rows are not all there");
        s.function(8);
        for (int n = 1; n <= 32; n++) {
            due("up to the last row, " + n, s.bits(0, 256 - n, -1, n), n);
            due("one more, " + n, s.bits(0, 257 - n, 0, n), BAD);
            due("none of it was done", s.places(0, 1), n);
            for (int row : new int[] {HIGH, HIGH - n, HIGH - n + 1, LOW, LOW + n, -n, -1}) {
                due("row " + row + ", " + n, s.bits(0, row, 0, n), BAD);
            }
        }
        sentence("the rows are not all there; n");
        for (int letters = 1; letters <= 5; letters++) {
            int rows = 1 << letters;
            due("all rows of " + letters, ofWord(letters, 0).bits(0, 0, -1, rows), rows);
            due("one more of " + letters, ofWord(letters, 0).bits(0, 0, -1, rows + 1), BAD);
            due("all of a word of " + letters, ofWord(letters, 0).bits(0, 0, -1, 32), letters == 5 ? 32 : BAD);
        }
    }

    private static void tears() {
        sentence("A sheet has its first places alone, as many as left tells (0: it is MISSING): how many it had. "
            + "Places that come anew hold 0");
        for (int n = 1; n <= 5; n++) {
            int size = Math.min(8, 1 << n);
            int sheet = Math.max(1, (1 << n) / 8) - 1;
            for (int first = 0; first <= size; first++) {
                for (int second = 0; second <= size; second++) {
                    tearTwice(n, sheet, size, first, second);
                }
            }
        }
    }

    private static void tearTwice(int n, int sheet, int size, int first, int second) {
        String words = n + " letters, " + first + " left, then " + second + ": ";
        LogicSmith s = ofWord(n, -1);
        s.put(0, sheet * size + size - 1, 2);
        due(words + "had all", s.tear(0, sheet, first), size);
        due(words + "had the first", s.tear(0, sheet, second), first);
        for (int place = 0; place < size; place++) {
            boolean stayed = place < Math.min(first, second);
            int held = stayed ? place == size - 1 ? 2 : 1 : place < second ? 0 : 2;
            int row = sheet * size + place;
            due(words + "at " + place, s.at(0, row), held);
            int lack = second == 0 ? MISSING : ENDED;
            due(words + "put at " + place, s.put(0, row, held), place < second ? held : lack);
        }
        due(words + "the other sheets", s.places(0, 3), size - second);
        due(words + "have all", s.tear(0, sheet, size), second);
    }

    private static void counts() {
        sentence("what = 0 that hold 0, 1 that hold 1, 2 that are FREE, 3 that are not there");
        for (int n = 1; n <= 8; n++) {
            LogicSmith s = new LogicSmith();
            s.function(n);
            int rows = 1 << n;
            s.put(0, 0, 1);
            s.put(0, rows - 1, 2);
            due("0 of " + n, s.places(0, 0), rows - 2);
            due("1 of " + n, s.places(0, 1), 1);
            due("2 of " + n, s.places(0, 2), 1);
            due("3 of " + n, s.places(0, 3), 0);
            int size = Math.min(8, rows);
            s.tear(0, 0, 1);
            // What a small function has of FREE places, and of 0, has gone with the end of its one sheet.
            due("1 of " + n + ", torn", s.places(0, 1), 1);
            due("2 of " + n + ", torn", s.places(0, 2), n < 4 ? rows - 1 : 8);
            due("3 of " + n + ", torn", s.places(0, 3), size - 1);
            due("0 of " + n + ", torn", s.places(0, 0), n < 4 ? 0 : rows - 9);
            for (int sheet = 0; sheet < Math.max(1, rows / 8); sheet++) {
                s.tear(0, sheet, 0);
            }
            due("nothing there: 0", s.places(0, 0), 0);
            due("nothing there: 1", s.places(0, 1), 0);
            due("nothing there: 2", s.places(0, 2), rows);
            due("nothing there: 3", s.places(0, 3), rows);
        }
    }

    private static void takes() {
        sentence("A function becomes, at all its rows, what an operand of a net is there (its sheets whole): how many "
            + "places are 1");
        for (int n = 1; n <= 8; n++) {
            LogicSmith s = new LogicSmith();
            s.function(n);
            s.net(n);
            s.gate(0, 8, 0, n - 1);
            int rows = 1 << n;
            for (int operand : new int[] {-2, 0, -1, n - 1, 8}) {
                for (int sheet = 0; sheet < Math.max(1, rows / 8); sheet++) {
                    s.tear(0, sheet, sheet % 2);
                }
                int ones = operand == -2 ? rows : operand == -1 ? 0 : operand == 8 && n > 1 ? rows / 4 : rows / 2;
                due("operand " + operand + " of " + n, s.take(0, 0, operand), ones);
                due("that are 1", s.places(0, 1), ones);
                due("that are 0", s.places(0, 0), rows - ones);
                due("that are not there", s.places(0, 3), 0);
                due("as it is at the last row", s.at(0, rows - 1), s.value(0, operand, rows - 1));
            }
            due("no such operand: a gate", s.take(0, 0, 9), BAD);
            due("no such operand: a letter", s.take(0, 0, n < 8 ? n : 9), BAD);
            due("no such operand: not told", s.take(0, 0, -3), BAD);
            due("it stays what it was", s.places(0, 1), n > 1 ? rows / 4 : rows / 2);
        }
    }

    private static LogicSmith functionAndNet(int n) {
        LogicSmith s = new LogicSmith();
        s.function(n);
        s.net(n);
        s.gate(0, 6, 0, n - 1);
        s.gate(0, 11, 8, n / 2);
        s.gate(0, 4, n - 1, 9);
        return s;
    }

    private static void takenAtAllRows() {
        sentence("A function becomes, at all its rows, what an operand of a net is there");
        for (int n = 1; n <= 8; n++) {
            for (int operand : new int[] {-2, -1, 0, n - 1, 8, 9, 10}) {
                LogicSmith taken = functionAndNet(n);
                taken.put(0, 0, 2);
                taken.put(0, (1 << n) - 1, 2);
                LogicSmith asked = functionAndNet(n);
                int ones = taken.take(0, 0, operand);
                int found = 0;
                for (int row = 0; row < 1 << n; row++) {
                    int value = asked.value(0, operand, row);
                    due("operand " + operand + " of " + n + " at row " + row, taken.at(0, row), value);
                    found += value;
                }
                due("operand " + operand + " of " + n + ": how many are 1", ones, found);
            }
        }
    }

    private static void primesRising() {
        sentence("The NUMBER of prime k (from 0 on, by NUMBERS, rising)");
        for (int n = 1; n <= 8; n++) {
            LogicSmith s = new LogicSmith();
            s.function(n);
            for (int row = 0; row < 1 << n; row += 3) {
                s.put(0, row, 1 + row % 2);
            }
            int count = s.primes(0);
            int before = -1;
            for (int k = 0; k < count; k++) {
                int number = s.prime(0, k);
                due("prime " + k + " of " + n + " is more than the one ahead", number > before ? 1 : 0, 1);
                before = number;
            }
            due("the last is a product", before < POWER[n] ? 1 : 0, 1);
            for (int k : new int[] {LOW, -1, count, count + 1, HIGH}) {
                due("no prime " + k + " of " + n, s.prime(0, k), BAD);
            }
        }
    }

    private static void theSumFoundLast() {
        LogicSmith s = sentence("Of the LEAST sum that was found last: prime k (by NUMBERS, rising); BAD: there is "
            + "none such");
        due("before any", s.summed(0), BAD);
        due("before any, below", s.summed(-1), BAD);
        s.function(5);
        s.bits(0, 0, 0x96696996, 32);
        due("parity has the most primes", s.least(0), 16);
        int before = -1;
        for (int k = 0; k < 16; k++) {
            due("prime " + k + " is more than the one ahead", s.summed(k) > before ? 1 : 0, 1);
            before = s.summed(k);
        }
        for (int k : new int[] {LOW, -1, 16, 17, 31, 32, 40, HIGH}) {
            due("no prime " + k, s.summed(k), BAD);
        }
        s.function(1);
        s.put(1, 1, 1);
        due("a smaller one", s.least(1), 1);
        due("is the last", s.summed(0), 1);
        due("no more of the one ahead", s.summed(1), BAD);
        due("and its letters", s.letters(), 1);
        s.function(6);
        due("MANY finds none", s.least(2), MANY);
        due("BAD finds none", s.least(3), BAD);
        due("it is still the last", s.summed(0), 1);
        s.put(1, 1, 0);
        s.remove(0);
        s.remove(0);
        due("whatever becomes of the function", s.summed(0), 1);
        s.bits(0, 0, 0, 32);
        due("a sum of no primes", s.least(0), 0);
        due("has none", s.summed(0), BAD);
    }

    private static void lettersOfTheSum() {
        LogicSmith s = sentence("How many letters its primes tell together; 0 before any");
        due("before any", s.letters(), 0);
        s.function(5);
        s.bits(0, 0, 0x96696996, 32);
        s.primes(0);
        s.prime(0, 0);
        s.order(0);
        due("no sum was asked for", s.letters(), 0);
        s.least(1);
        s.function(6);
        s.least(1);
        due("refused ones are none", s.letters(), 0);
        s.least(0);
        due("the most there are", s.letters(), 80);
        s.bits(0, 0, -1, 32);
        due("the function has changed, the sum has not", s.letters(), 80);
        s.least(0);
        due("of all letters left out", s.letters(), 0);
        due("though there is a prime", s.summed(0), 242);
    }

    public static void main(String[] args) {
        lettersAndRows();
        numbersOfProducts();
        productsHold();
        placesThatAreNotThere();
        primesAtTheEdges();
        leastSums();
        sumsOfNothing();
        graphs();
        ordersAtTheEnds();
        ordersByNumber();
        manyLetters();
        newFunctions();
        puts();
        bits();
        tears();
        counts();
        takes();
        takenAtAllRows();
        primesRising();
        theSumFoundLast();
        lettersOfTheSum();
        DUE.end();
    }
}
