/** For each promise of the document: ordinary inputs, its edges, and wrong inputs. */
public final class PromisesTest {
    private static final int LOW = Integer.MIN_VALUE, HIGH = Integer.MAX_VALUE;
    private static final int BAD = -1, MANY = -2, FULL = -3, MISSING = -11, ENDED = -12;
    private static final Due DUE = new Due();
    private static String title = "";

    private static void due(String call, long got, long want) {
        DUE.is(title + ": " + call, got, want);
    }

    private static LogicSmith begin(String promise) {
        title = promise;
        return new LogicSmith();
    }

    /** A function of n letters whose first rows are the bits of a word. */
    private static int made(LogicSmith s, int n, int word) {
        int f = s.function(n);
        s.bits(f, 0, word, Math.min(32, 1 << n));
        return f;
    }

    private static void newObject() {
        LogicSmith s = begin("1 A new object");
        due("count 0", s.count(0), 0);
        due("count 1", s.count(1), 0);
        due("count 2", s.count(2), 0);
        due("letters", s.letters(), 0);
        due("summed", s.summed(0), BAD);
        due("step", s.step(0, 0), -9);
        due("at", s.at(0, 0), BAD);
        due("output", s.output(0, 0), -4);
        due("weight", s.weight(0), BAD);
        due("remove 0", s.remove(0), BAD);
        due("remove 1", s.remove(1), BAD);
        LogicSmith other = new LogicSmith();
        other.function(3);
        other.net(3);
        due("objects have their own memory", s.count(0) + s.count(1), 0);
    }

    private static void function() {
        LogicSmith s = begin("2 function");
        for (int n : new int[] {0, 9, -1, LOW, HIGH}) {
            due("wrong letters " + n, s.function(n), BAD);
        }
        for (int i = 0; i < 16; i++) {
            due("function " + i, s.function(1 + i % 8), i);
        }
        due("a seventeenth", s.function(4), FULL);
        due("wrong letters come ahead of FULL", s.function(0), BAD);
        due("count", s.count(0), 16);
        due("places of 8 letters", s.places(7, 0), 256);
        due("places of 1 letter", s.places(8, 0), 2);
        s.bits(15, 0, -1, 32);
        s.put(15, 40, 2);
        s.tear(15, 3, 2);
        s.remove(0);
        due("room again", s.function(8), 15);
        due("new places are 0", s.places(15, 0), 256);
    }

    private static void put() {
        LogicSmith s = begin("3 put");
        s.function(4);
        due("what it held", s.put(0, 15, 2), 0);
        due("free", s.put(0, 15, 1), 2);
        due("one", s.put(0, 15, 0), 1);
        due("zero", s.put(0, 15, 0), 0);
        due("first row", s.put(0, 0, 1), 0);
        due("others are as they were", s.places(0, 0), 15);
        for (int v : new int[] {-1, 3, LOW, HIGH}) {
            due("wrong v " + v, s.put(0, 0, v), BAD);
        }
        for (int row : new int[] {-1, 16, LOW, HIGH}) {
            due("wrong row " + row, s.put(0, row, 1), BAD);
        }
        for (int f : new int[] {-1, 1, 16, LOW, HIGH}) {
            due("wrong function " + f, s.put(f, 0, 1), BAD);
        }
        s.tear(0, 0, 5);
        due("last place there", s.put(0, 4, 1), 0);
        due("ended", s.put(0, 5, 1), ENDED);
        s.tear(0, 1, 0);
        due("missing", s.put(0, 8, 1), MISSING);
        due("wrong v comes ahead of MISSING", s.put(0, 8, 3), BAD);
        due("wrong row comes ahead of ENDED", s.put(0, 16, 1), BAD);
        due("changes nothing", s.places(0, 1), 2);
    }

    private static void bits() {
        LogicSmith s = begin("4 bits");
        s.function(6);
        due("32 bits", s.bits(0, 16, 0x80000001, 32), 32);
        due("lowest first", s.at(0, 16), 1);
        due("highest last", s.at(0, 47), 1);
        due("between", s.at(0, 17) + s.at(0, 46), 0);
        due("places 1", s.places(0, 1), 2);
        due("bits behind n do not count", s.bits(0, 0, -1, 3), 3);
        due("places 1 now", s.places(0, 1), 5);
        s.put(0, 1, 2);
        due("0 over a free place", s.bits(0, 0, 5, 3), 3);
        due("free no more", s.at(0, 1), 0);
        due("to the last row", s.bits(0, 63, 1, 1), 1);
        due("beyond the last row", s.bits(0, 63, 1, 2), BAD);
        for (int n : new int[] {0, 33, -1, LOW, HIGH}) {
            due("wrong n " + n, s.bits(0, 0, 1, n), BAD);
        }
        for (int row : new int[] {-1, 64, LOW, HIGH, HIGH - 3}) {
            due("wrong row " + row, s.bits(0, row, 1, 4), BAD);
        }
        due("wrong function", s.bits(1, 0, 1, 1), BAD);
        due("wrong function below", s.bits(-1, 0, 1, 1), BAD);
        s.tear(0, 1, 4);
        s.tear(0, 2, 0);
        int ones = s.places(0, 1);
        due("the first that is not there has ended", s.bits(0, 0, -1, 32), ENDED);
        due("the first that is not there is missing", s.bits(0, 16, -1, 16), MISSING);
        due("up to the end", s.bits(0, 8, 0, 4), 4);
        due("one too many", s.bits(0, 8, -1, 5), ENDED);
        due("one alone that is not there", s.bits(0, 12, -1, 1), ENDED);
        due("nothing changed", s.places(0, 1), ones);
        due("BAD comes ahead of MISSING", s.bits(0, 16, -1, 33), BAD);
        s.tear(0, 1, 0);
        s.tear(0, 2, 4);
        due("missing ahead of ended", s.bits(0, 8, -1, 16), MISSING);
        LogicSmith small = new LogicSmith();
        small.function(1);
        due("one letter", small.bits(0, 0, 3, 2), 2);
        due("one letter, too many", small.bits(0, 0, 3, 3), BAD);
    }

    private static void tear() {
        LogicSmith s = begin("5 tear");
        s.function(4);
        s.bits(0, 0, -1, 16);
        due("had", s.tear(0, 1, 3), 8);
        due("had 3", s.tear(0, 1, 3), 3);
        due("first places stay", s.at(0, 10), 1);
        due("the rest is free", s.at(0, 11), 2);
        due("come anew", s.tear(0, 1, 5), 3);
        due("hold 0", s.at(0, 11) + s.at(0, 12), 0);
        due("the stayed ones hold on", s.at(0, 10), 1);
        due("behind is free still", s.at(0, 13), 2);
        s.put(0, 12, 2);
        due("missing", s.tear(0, 1, 0), 5);
        due("whole again", s.tear(0, 1, 8), 0);
        due("all 0", s.at(0, 8) + s.at(0, 12) + s.at(0, 15), 0);
        due("the other sheet is as it was", s.places(0, 1), 8);
        for (int left : new int[] {-1, 9, LOW, HIGH}) {
            due("wrong left " + left, s.tear(0, 0, left), BAD);
        }
        for (int sheet : new int[] {-1, 2, LOW, HIGH}) {
            due("wrong sheet " + sheet, s.tear(0, sheet, 1), BAD);
        }
        due("wrong function", s.tear(1, 0, 1), BAD);
        s.function(1);
        due("one letter: no more than 2", s.tear(1, 0, 3), BAD);
        due("one letter", s.tear(1, 0, 1), 2);
        due("one letter: one sheet", s.tear(1, 1, 1), BAD);
        due("one letter: ended", s.put(1, 1, 1), ENDED);
        s.function(2);
        due("two letters: no more than 4", s.tear(2, 0, 5), BAD);
        due("two letters", s.tear(2, 0, 0), 4);
        due("two letters: missing", s.put(2, 3, 1), MISSING);
        s.function(3);
        due("three letters: no second sheet", s.tear(3, 1, 0), BAD);
        s.function(8);
        due("eight letters: last sheet", s.tear(4, 31, 7), 8);
        due("eight letters: ended", s.put(4, 255, 1), ENDED);
        due("eight letters: no such sheet", s.tear(4, 32, 7), BAD);
    }

    private static void at() {
        LogicSmith s = begin("6 at");
        s.function(8);
        s.put(0, 255, 1);
        s.put(0, 254, 2);
        due("one", s.at(0, 255), 1);
        due("free", s.at(0, 254), 2);
        due("zero", s.at(0, 253), 0);
        s.tear(0, 31, 7);
        due("ended", s.at(0, 255), 2);
        s.tear(0, 0, 0);
        due("missing", s.at(0, 0), 2);
        for (int row : new int[] {-1, 256, LOW, HIGH}) {
            due("wrong row " + row, s.at(0, row), BAD);
        }
        for (int f : new int[] {-1, 1, LOW, HIGH}) {
            due("wrong function " + f, s.at(f, 0), BAD);
        }
    }

    private static void places() {
        LogicSmith s = begin("7 places");
        s.function(5);
        s.bits(0, 0, 0xF0F0FFFF, 32);
        s.put(0, 0, 2);
        s.put(0, 31, 2);
        s.tear(0, 3, 3);
        s.tear(0, 1, 0);
        due("0", s.places(0, 0), 4 + 3);
        due("1", s.places(0, 1), 7 + 4);
        due("2", s.places(0, 2), 1 + 5 + 8);
        due("3", s.places(0, 3), 5 + 8);
        for (int what : new int[] {-1, 4, LOW, HIGH}) {
            due("wrong what " + what, s.places(0, what), BAD);
        }
        due("wrong function", s.places(1, 0), BAD);
        s.function(1);
        due("one letter", s.places(1, 0), 2);
        s.tear(1, 0, 0);
        due("one letter, missing", s.places(1, 3), 2);
    }

    private static void take() {
        LogicSmith s = begin("8 take");
        s.function(8);
        s.net(8);
        s.gate(0, 6, 7, 0);
        s.tear(0, 5, 0);
        s.put(0, 0, 2);
        due("a gate", s.take(0, 0, 8), 128);
        due("sheets are whole", s.places(0, 3), 0);
        due("nothing is free", s.places(0, 2), 0);
        due("row 1", s.at(0, 1), 1);
        due("row 128", s.at(0, 128), 1);
        due("row 129", s.at(0, 129), 0);
        for (int k = 0; k < 8; k++) {
            due("letter " + k, s.take(0, 0, k), 128);
            due("letter " + k + " at its row", s.at(0, 1 << k), 1);
            due("letter " + k + " elsewhere", s.at(0, 255 - (1 << k)), 0);
        }
        due("always 0", s.take(0, 0, -1), 0);
        due("always 1", s.take(0, 0, -2), 256);
        for (int operand : new int[] {-3, 9, 47, 48, LOW, HIGH}) {
            due("wrong operand " + operand, s.take(0, 0, operand), BAD);
        }
        due("wrong function", s.take(1, 0, 0), BAD);
        due("wrong net", s.take(0, 1, 0), BAD);
        s.function(7);
        due("not the same letters", s.take(1, 0, 0), BAD);
        due("changes nothing", s.places(0, 1), 256);
        s.function(1);
        s.net(1);
        due("one letter", s.take(2, 1, 0), 1);
        due("letter 1 is none of it", s.take(2, 1, 1), BAD);
    }

    private static void primes() {
        LogicSmith s = begin("9 primes");
        s.function(1);
        due("all 0", s.primes(0), 0);
        s.put(0, 1, 1);
        due("a letter", s.primes(0), 1);
        s.put(0, 0, 2);
        due("not 0 anywhere", s.primes(0), 1);
        made(s, 3, 0x7E);
        due("neither all nor none of three", s.primes(1), 6);
        made(s, 4, 0x6996);
        due("parity", s.primes(2), 8);
        s.function(8);
        due("eight letters, all 0", s.primes(3), 0);
        for (int row = 0; row < 256; row++) {
            s.put(3, row, Integer.bitCount(row) & 1);
        }
        due("parity of eight", s.primes(3), 128);
        s.tear(3, 0, 0);
        // The sheet itself; its neighbours' ones each with a row of it; the ones of the other 26 sheets alone.
        due("parity of eight, a sheet free", s.primes(3), 1 + 5 * 4 + 26 * 4);
        due("wrong function", s.primes(4), BAD);
        due("wrong function below", s.primes(-1), BAD);
        s.function(8);
        for (int sheet = 0; sheet < 32; sheet++) {
            s.tear(4, sheet, 0);
        }
        due("nothing there: all free", s.primes(4), 1);
    }

    private static void prime() {
        LogicSmith s = begin("10 prime");
        made(s, 3, 0x7E);
        int[] numbers = {5, 7, 11, 15, 19, 21};
        for (int k = 0; k < 6; k++) {
            due("of neither all nor none, " + k, s.prime(0, k), numbers[k]);
        }
        due("no seventh", s.prime(0, 6), BAD);
        for (int k : new int[] {-1, LOW, HIGH}) {
            due("wrong prime " + k, s.prime(0, k), BAD);
        }
        due("wrong function", s.prime(1, 0), BAD);
        s.function(8);
        due("none", s.prime(1, 0), BAD);
        for (int sheet = 0; sheet < 32; sheet++) {
            s.tear(1, sheet, 0);
        }
        due("all letters left out", s.prime(1, 0), 6560);
        s.tear(1, 31, 8);
        due("not all of letters 3 to 7: letter 3 is 0", s.prime(1, 4), 6560 - 2 * 27);
        due("letter 7 is 0, by number first", s.prime(1, 0), 6560 - 2 * 2187);
        due("five", s.prime(1, 5), BAD);
        s.function(2);
        s.put(2, 2, 1);
        due("letter 0 is 0, letter 1 is 1", s.prime(2, 0), 3);
    }

    private static void least() {
        LogicSmith s = begin("11 least");
        made(s, 3, 0x7E);
        due("neither all nor none", s.least(0), 3);
        s.function(5);
        due("all 0: no prime", s.least(1), 0);
        due("all 0: no letters", s.letters(), 0);
        due("all 0: none summed", s.summed(0), BAD);
        s.bits(1, 0, -1, 32);
        due("all 1", s.least(1), 1);
        due("all 1: no letters", s.letters(), 0);
        due("all 1: all left out", s.summed(0), 242);
        for (int sheet = 0; sheet < 4; sheet++) {
            s.tear(1, sheet, 0);
        }
        due("all free: no prime", s.least(1), 0);
        made(s, 5, 0x96696996);
        due("parity of five", s.least(2), 16);
        due("its letters", s.letters(), 80);
        due("its last prime", s.summed(15), 121);
        s.function(6);
        due("six letters", s.least(3), MANY);
        due("the sum found last is kept", s.letters(), 80);
        due("wrong function", s.least(4), BAD);
        due("wrong function below", s.least(LOW), BAD);
        due("and kept", s.summed(15), 121);
    }

    private static void summed() {
        LogicSmith s = begin("12 summed");
        due("none yet", s.summed(0), BAD);
        made(s, 3, 0x7E);
        // The primes make a ring around rows 1 to 6: every second one is a sum, 5 15 19 or 7 11 21.
        s.least(0);
        due("first", s.summed(0), 5);
        due("second", s.summed(1), 15);
        due("third", s.summed(2), 19);
        due("no fourth", s.summed(3), BAD);
        for (int k : new int[] {-1, LOW, HIGH}) {
            due("wrong " + k, s.summed(k), BAD);
        }
        s.put(0, 1, 0);
        due("told on when the function changes", s.summed(0), 5);
        s.remove(0);
        due("told on when it goes", s.summed(2), 19);
        // Rows 1, 3 and 2 of two letters: two primes of one letter each, whatever the third place.
        made(s, 2, 0xE);
        s.least(0);
        due("letter 1", s.summed(0), 5);
        due("letter 0", s.summed(1), 7);
    }

    private static void letters() {
        LogicSmith s = begin("13 letters");
        due("before any", s.letters(), 0);
        made(s, 3, 0x7E);
        s.primes(0);
        due("primes find no sum", s.letters(), 0);
        s.least(0);
        due("three of two", s.letters(), 6);
        s.least(1);
        due("BAD finds none", s.letters(), 6);
        s.put(0, 0, 2);
        s.put(0, 7, 2);
        s.least(0);
        due("all left out", s.letters(), 0);
    }

    private static void graph() {
        LogicSmith s = begin("14 graph");
        s.function(1);
        due("constant", s.graph(0, 0), 0);
        s.put(0, 1, 1);
        due("a letter", s.graph(0, 0), 1);
        due("one order only", s.graph(0, 1), BAD);
        s.function(6);
        // Letters 0 and 1, or 2 and 3, or 4 and 5: 6 nodes if they stand together, 14 if they stand apart.
        for (int row = 0; row < 64; row++) {
            s.put(1, row, (row & 3) == 3 || (row & 12) == 12 || (row & 48) == 48 ? 1 : 0);
        }
        due("together", s.graph(1, 0), 6);
        due("apart: 0 2 4 1 3 5", s.graph(1, 1 * 24 + 2 * 6), 14);
        due("the last order", s.graph(1, 719), 6);
        due("no such order", s.graph(1, 720), BAD);
        due("no such order below", s.graph(1, -1), BAD);
        due("no such order by far", s.graph(1, HIGH), BAD);
        due("wrong function", s.graph(2, 0), BAD);
        s.function(7);
        due("seven letters", s.graph(2, 0), MANY);
        due("asked behind MANY", s.graph(2, -1), MANY);
        s.function(2);
        s.put(3, 0, 2);
        s.put(3, 3, 1);
        due("free places are 0", s.graph(3, 0), 2);
        s.tear(3, 0, 3);
        due("places that are not there are 0", s.graph(3, 0), 0);
        due("two orders", s.graph(3, 1), 0);
        due("no third", s.graph(3, 2), BAD);
    }

    private static void order() {
        LogicSmith s = begin("15 order");
        s.function(6);
        due("constant: the first", s.order(0), 0);
        for (int row = 0; row < 64; row++) {
            s.put(0, row, (row & 9) == 9 || (row & 18) == 18 || (row & 36) == 36 ? 1 : 0);
        }
        // The pairs 0 3, 1 4, 2 5 stand together first in 0 3 1 4 2 5.
        int order = 2 * 24 + 1 * 2;
        due("pairs", s.order(0), order);
        due("its nodes", s.graph(0, order), 6);
        s.function(7);
        due("seven letters", s.order(1), MANY);
        due("wrong function", s.order(2), BAD);
        s.function(1);
        due("one letter", s.order(2), 0);
        made(s, 3, 0xCA);
        due("letter 2 chooses: it stands first", s.order(3), 4);
        due("three nodes", s.graph(3, 4), 3);
        due("five if it stands last", s.graph(3, 0), 5);
        s.tear(3, 0, 0);
        due("nothing there", s.order(3), 0);
    }

    private static void net() {
        LogicSmith s = begin("16 net");
        for (int n : new int[] {0, 9, -1, LOW, HIGH}) {
            due("wrong letters " + n, s.net(n), BAD);
        }
        for (int i = 0; i < 8; i++) {
            due("net " + i, s.net(8 - i), i);
        }
        due("a ninth", s.net(3), FULL);
        due("wrong letters come ahead of FULL", s.net(9), BAD);
        s.gate(7, 8, 0, 0);
        s.keep(7, 0, 1);
        s.out(7, 5, 8);
        s.remove(1);
        due("room again", s.net(2), 7);
        due("no gates", s.told(7, 0, 0), BAD);
        due("no outputs", s.output(7, 5), -3);
        s.gate(7, 8, 0, 0);
        due("new gates are not kept", s.told(7, 0, 4), 0);
    }

    private static void gate() {
        LogicSmith s = begin("17 gate");
        s.net(2);
        due("first", s.gate(0, 15, 0, 1), 0);
        due("of constants", s.gate(0, 0, -1, -2), 1);
        due("of a gate ahead", s.gate(0, 9, 9, 8), 2);
        for (int table : new int[] {-1, 16, LOW, HIGH}) {
            due("wrong table " + table, s.gate(0, table, 0, 0), BAD);
        }
        for (int operand : new int[] {-3, 2, 7, 11, 48, LOW, HIGH}) {
            due("wrong x " + operand, s.gate(0, 8, operand, 0), BAD);
            due("wrong y " + operand, s.gate(0, 8, 0, operand), BAD);
        }
        due("wrong net", s.gate(1, 8, 0, 0), BAD);
        due("wrong net below", s.gate(-1, 8, 0, 0), BAD);
        for (int g = 3; g < 40; g++) {
            due("gate " + g, s.gate(0, 8, 7 + g, 0), g);
        }
        due("a forty-first", s.gate(0, 8, 47, 0), FULL);
        due("wrong ones come ahead of FULL", s.gate(0, 8, 48, 0), BAD);
        due("wrong table comes ahead of FULL", s.gate(0, 16, 0, 0), BAD);
    }

    private static void keep() {
        LogicSmith s = begin("18 keep");
        s.net(2);
        s.gate(0, 8, 0, 1);
        due("was not", s.keep(0, 0, 1), 0);
        due("was", s.keep(0, 0, 1), 1);
        due("told", s.told(0, 0, 4), 1);
        due("no more", s.keep(0, 0, 0), 1);
        due("told not", s.told(0, 0, 4), 0);
        for (int v : new int[] {-1, 2, LOW, HIGH}) {
            due("wrong v " + v, s.keep(0, 0, v), BAD);
        }
        for (int g : new int[] {-1, 1, 40, LOW, HIGH}) {
            due("wrong gate " + g, s.keep(0, g, 1), BAD);
        }
        due("wrong net", s.keep(1, 0, 1), BAD);
        due("changes nothing", s.told(0, 0, 4), 0);
    }

    private static void out() {
        LogicSmith s = begin("19 out");
        s.net(2);
        s.gate(0, 8, 0, 1);
        for (int operand : new int[] {-3, -2, -1, 0, 1, 8}) {
            due("operand " + operand, s.out(0, 5, operand), 0);
            due("output", s.output(0, 5), operand);
        }
        for (int operand : new int[] {-4, 2, 7, 9, 48, LOW, HIGH}) {
            due("wrong operand " + operand, s.out(0, 5, operand), BAD);
        }
        for (int i : new int[] {-1, 6, LOW, HIGH}) {
            due("wrong output " + i, s.out(0, i, 0), BAD);
        }
        due("wrong net", s.out(1, 0, 0), BAD);
        due("wrong net, not told", s.out(1, 0, -3), BAD);
        due("changes nothing", s.output(0, 5), 8);
    }

    private static void told() {
        LogicSmith s = begin("20 told");
        s.net(3);
        s.gate(0, 8, 0, 2);
        s.gate(0, 14, 8, -2);
        s.gate(0, 6, -1, -1);
        due("table", s.told(0, 1, 0), 14);
        due("x", s.told(0, 1, 1), 8);
        due("y", s.told(0, 1, 2), -2);
        due("x may be -1", s.told(0, 2, 1), -1);
        due("read by a gate", s.told(0, 0, 3), 1);
        due("not read", s.told(0, 1, 3), 0);
        s.out(0, 4, 9);
        due("read by an output", s.told(0, 1, 3), 1);
        s.keep(0, 2, 1);
        due("kept", s.told(0, 2, 4), 1);
        due("not kept", s.told(0, 1, 4), 0);
        for (int what : new int[] {-1, 5, LOW, HIGH}) {
            due("wrong what " + what, s.told(0, 0, what), BAD);
        }
        for (int g : new int[] {-1, 3, 40, LOW, HIGH}) {
            due("wrong gate " + g, s.told(0, g, 0), BAD);
        }
        due("wrong net", s.told(1, 0, 0), BAD);
    }

    private static void output() {
        LogicSmith s = begin("21 output");
        s.net(3);
        for (int i = 0; i < 6; i++) {
            due("not told at first", s.output(0, i), -3);
        }
        s.out(0, 3, 2);
        due("told", s.output(0, 3), 2);
        due("the others are not", s.output(0, 2), -3);
        for (int i : new int[] {-1, 6, LOW, HIGH}) {
            due("wrong output " + i, s.output(0, i), -4);
        }
        due("wrong net", s.output(1, 0), -4);
        due("wrong net below", s.output(-1, 0), -4);
    }

    private static void value() {
        LogicSmith s = begin("22 value");
        s.net(8);
        for (int table = 0; table < 16; table++) {
            s.gate(0, table, 3, 7);
            for (int way = 0; way < 4; way++) {
                int row = (way & 1) << 3 | way >> 1 << 7;
                due("table " + table + " at " + row, s.value(0, 8 + table, row), table >> way & 1);
            }
        }
        due("letter 6", s.value(0, 6, 64), 1);
        due("letter 6 at 128", s.value(0, 6, 128), 0);
        due("letter 7", s.value(0, 7, 255), 1);
        due("always 0", s.value(0, -1, 255), 0);
        due("always 1", s.value(0, -2, 0), 1);
        for (int row : new int[] {-1, 256, LOW, HIGH}) {
            due("wrong row " + row, s.value(0, 0, row), BAD);
        }
        for (int operand : new int[] {-3, 24, 48, LOW, HIGH}) {
            due("wrong operand " + operand, s.value(0, operand, 0), BAD);
        }
        due("wrong net", s.value(1, 0, 0), BAD);
        s.net(1);
        due("one letter", s.value(1, 0, 1), 1);
        due("one letter, row 2", s.value(1, 0, 2), BAD);
    }

    private static void same() {
        LogicSmith s = begin("23 same");
        s.net(8);
        s.net(8);
        due("no outputs", s.same(0, 1), 1);
        s.gate(0, 6, 6, 7);
        s.gate(1, 9, 6, 7);
        s.gate(1, 5, 8, -1);
        s.out(0, 2, 8);
        due("one told, the other not", s.same(0, 1), 0);
        due("the other way", s.same(1, 0), 0);
        s.out(1, 2, 9);
        due("not of not", s.same(0, 1), 1);
        s.out(1, 2, 8);
        due("turned", s.same(0, 1), 0);
        s.out(1, 2, -3);
        s.out(1, 3, 9);
        due("another output", s.same(0, 1), 0);
        due("itself", s.same(1, 1), 1);
        for (int i = 0; i < 6; i++) {
            s.net(2);
            s.out(s.count(1) - 1, i, -1);
            s.net(2);
            due("output " + i + " told in one only", s.same(2, 3), 0);
            s.remove(1);
            s.remove(1);
        }
        s.net(7);
        due("other letters", s.same(0, 2), 0);
        due("no such net", s.same(0, 3), BAD);
        due("no such net first", s.same(-1, 0), BAD);
        s.gate(0, 8, 6, 7);
        s.gate(0, 8, 9, 5);
        s.out(0, 2, 10);
        s.out(1, 3, -3);
        s.out(1, 2, -1);
        due("differs behind row 63 only", s.same(0, 1), 0);
    }

    private static void parts() {
        LogicSmith s = begin("24 parts");
        s.net(8);
        s.net(8);
        due("no outputs", s.parts(0, 1), -5);
        s.out(0, 4, 7);
        due("told in one only", s.parts(0, 1), -5);
        s.out(1, 4, -1);
        due("row 128", s.parts(0, 1), 8 * 128 + 4);
        s.gate(0, 8, 7, 3);
        s.out(0, 4, 8);
        due("row 136", s.parts(0, 1), 8 * 136 + 4);
        s.out(0, 5, 6);
        s.out(1, 5, -1);
        due("row 64, a later output", s.parts(0, 1), 8 * 64 + 5);
        s.out(0, 1, 6);
        s.out(1, 1, -1);
        due("of two outputs the least", s.parts(0, 1), 8 * 64 + 1);
        s.out(0, 0, -1);
        s.out(1, 0, -2);
        due("row 0, output 0", s.parts(1, 0), 0);
        due("itself", s.parts(0, 0), -5);
        s.net(1);
        due("other letters", s.parts(0, 2), MANY);
        due("no such net", s.parts(2, 3), BAD);
        due("no such net first", s.parts(-1, 2), BAD);
    }

    private static void comes() {
        LogicSmith s = begin("25 comes");
        s.net(3);
        s.gate(0, 8, 0, 1);
        s.gate(0, 14, 0, 1);
        s.gate(0, 6, 8, 9);
        s.gate(0, 6, 0, 0);
        s.gate(0, 6, -2, 2);
        s.gate(0, 6, -1, -2);
        due("two letters", s.comes(0, 0), 15);
        due("never both but not any", s.comes(0, 2), 13);
        due("one letter twice", s.comes(0, 3), 9);
        due("x always 1", s.comes(0, 4), 10);
        due("constants", s.comes(0, 5), 4);
        due("wrong gate", s.comes(0, 6), BAD);
        due("wrong gate below", s.comes(0, -1), BAD);
        due("wrong net", s.comes(1, 0), BAD);
        s.net(8);
        s.gate(1, 8, 6, 7);
        due("the highest letters", s.comes(1, 0), 15);
    }

    private static void cared() {
        LogicSmith s = begin("26 cared");
        s.net(8);
        s.gate(0, 8, 6, 7);
        due("no output told", s.cared(0, 0), 0);
        s.out(0, 0, 0);
        due("not on the way to an output", s.cared(0, 0), 0);
        s.out(0, 0, 8);
        due("an output", s.cared(0, 0), 15);
        s.gate(0, 8, 8, 6);
        s.out(0, 0, 9);
        due("where letter 6 is 1", s.cared(0, 0), 10);
        s.gate(0, 6, 8, 8);
        s.out(0, 0, 10);
        due("turned twice", s.cared(0, 0), 0);
        s.gate(0, 6, 10, 7);
        s.gate(0, 2, 11, 7);
        s.out(0, 0, 12);
        due("where letter 7 is 0, so gate 0 is", s.cared(0, 2), 1);
        due("of the gate behind it", s.cared(0, 3), 1);
        s.out(0, 5, 10);
        due("another output cares too", s.cared(0, 2), 9);
        due("wrong gate", s.cared(0, 5), BAD);
        due("wrong gate below", s.cared(0, LOW), BAD);
        due("wrong net", s.cared(1, 0), BAD);
    }

    private static void shape() {
        LogicSmith s = begin("27 shape");
        due("no such net", s.shape(0), BAD);
        s.net(3);
        due("nothing to shape", s.shape(0), 0);
        s.gate(0, 0, 0, 1);
        s.gate(0, 15, 0, 1);
        s.gate(0, 10, 0, 1);
        s.gate(0, 12, 0, 1);
        s.gate(0, 8, 0, 1);
        s.gate(0, 8, 1, 0);
        due("no gate is read", s.shape(0), 0);
        for (int i = 0; i < 6; i++) {
            s.out(0, i, 8 + i);
        }
        due("each rule", s.shape(0), 5);
        int[] operands = {-1, -2, 0, 1, 12, 12};
        for (int i = 0; i < 6; i++) {
            due("output " + i, s.output(0, i), operands[i]);
        }
        for (int i = 0; i < 5; i++) {
            int g = i < 4 ? i : 5;
            due("gate of step " + i, s.step(i, 0), g);
            due("rule of step " + i, s.step(i, 1), i);
            due("operand of step " + i, s.step(i, 2), operands[g]);
        }
        due("shaped again", s.shape(0), 0);
        s.net(2);
        s.gate(1, 15, 0, 1);
        s.keep(1, 0, 1);
        s.out(1, 0, 8);
        due("kept", s.shape(1), 0);
        s.keep(1, 0, 0);
        due("kept no more", s.shape(1), 1);
        // Gate 1 is read by gate 2 alone, which nobody reads: it is cared for nowhere.
        s.net(2);
        s.gate(2, 8, 0, 1);
        s.gate(2, 6, 0, 1);
        s.gate(2, 8, 9, 8);
        s.out(2, 0, 8);
        due("read, but by what is not cared for", s.shape(2), 1);
        due("becomes 0 there", s.told(2, 2, 1), -1);
        due("gate 0 stays", s.output(2, 0), 8);
        due("wrong net below", s.shape(-1), BAD);
    }

    /** Steps change what is cared for ahead of them, so all begins anew from gate 0. */
    private static void shapeAnew() {
        LogicSmith s = begin("27 shape, anew");
        s.net(3);
        s.gate(0, 8, 0, 1);
        s.gate(0, 8, 0, 1);
        s.gate(0, 14, 8, 9);
        s.out(0, 0, 10);
        due("steps", s.shape(0), 3);
        due("first: gate 0, as gate 1 does for it", s.step(0, 0) * 100 + s.step(0, 1) * 10, 0);
        due("then: gate 1 is as gate 0", s.step(1, 0) * 100 + s.step(1, 1) * 10 + s.step(1, 2), 148);
        due("gate 0 is read again, by gate 2", s.step(2, 0) * 100 + s.step(2, 1) * 10 + s.step(2, 2), 238);
        due("weight", s.weight(0), 1);
    }

    private static void step() {
        LogicSmith s = begin("28 step");
        due("none yet", s.step(0, 0), -9);
        s.net(2);
        s.gate(0, 12, 0, -2);
        s.out(0, 0, 8);
        s.shape(0);
        due("gate", s.step(0, 0), 0);
        due("rule", s.step(0, 1), 1);
        due("operand", s.step(0, 2), -2);
        for (int what : new int[] {-1, 3, LOW, HIGH}) {
            due("wrong what " + what, s.step(0, what), -9);
        }
        for (int i : new int[] {-1, 1, 1800, LOW, HIGH}) {
            due("wrong step " + i, s.step(i, 0), -9);
        }
        s.shape(1);
        due("BAD shapes nothing", s.step(0, 0), 0);
        s.remove(1);
        due("told on when the net goes", s.step(0, 2), -2);
        s.net(2);
        s.shape(0);
        due("none of the latest", s.step(0, 0), -9);
    }

    /** A net with one step to do: output 0 is gate 0, which is letter 0. */
    private static LogicSmith shapedNet() {
        LogicSmith s = new LogicSmith();
        s.net(2);
        s.gate(0, 10, 0, 1);
        s.gate(0, 6, 8, 1);
        s.out(0, 0, 8);
        s.out(0, 1, 9);
        s.shape(0);
        return s;
    }

    private static void back() {
        begin("29 back");
        LogicSmith s = shapedNet();
        due("shaped", s.told(0, 1, 1) + s.output(0, 0), 0);
        due("no such net", s.back(1), BAD);
        due("no such net below", s.back(-1), BAD);
        due("undone", s.back(0), 1);
        due("gates", s.told(0, 1, 1), 8);
        due("outputs", s.output(0, 0), 8);
        due("once", s.back(0), BAD);
        due("steps are told on", s.step(0, 1), 2);
        due("and counted", s.count(2), 1);
        due("shaped anew", s.shape(0), 1);
        due("undone anew", s.back(0), 1);
        s = shapedNet();
        due("a second shaping has no step", s.shape(0), 0);
        due("it is the latest", s.back(0), 0);
        due("only that is undone", s.output(0, 0), 0);
        due("before any shaping", new LogicSmith().back(0), BAD);
        s = shapedNet();
        s.gate(0, 8, 0, 1);
        due("a gate came", s.back(0), BAD);
        s = shapedNet();
        s.out(0, 5, 0);
        s.out(0, 5, -3);
        due("an output became another, and again", s.back(0), BAD);
        s = shapedNet();
        s.keep(0, 0, 1);
        due("KEPT became another", s.back(0), BAD);
        s = shapedNet();
        s.keep(0, 0, 0);
        s.out(0, 0, 0);
        s.gate(0, 16, 0, 0);
        s.out(0, 6, 1);
        s.keep(0, 2, 1);
        s.shape(3);
        due("nothing became another", s.back(0), 1);
    }

    private static void backOfOthers() {
        begin("29 back, other nets");
        LogicSmith s = shapedNet();
        s.net(2);
        s.gate(1, 8, 0, 1);
        s.out(1, 0, 8);
        s.keep(1, 0, 1);
        due("not its", s.back(1), BAD);
        s.remove(1);
        due("what became of another net", s.back(0), 1);
        s = shapedNet();
        s.net(2);
        s.shape(1);
        due("the latest is another's", s.back(0), BAD);
        due("which is undone", s.back(1), 0);
        due("no older one is then", s.back(0), BAD);
        s = shapedNet();
        s.remove(1);
        s.net(2);
        due("a new net of the number", s.back(0), BAD);
    }

    private static void weight() {
        LogicSmith s = begin("30 weight");
        s.net(3);
        due("no gates", s.weight(0), 0);
        s.gate(0, 8, 0, 1);
        s.gate(0, 8, 8, 8);
        s.gate(0, 8, 9, 8);
        s.gate(0, 6, 0, 2);
        due("no outputs", s.weight(0), 0);
        s.out(0, 0, 2);
        s.out(0, 1, -1);
        s.out(0, 2, -2);
        due("letters and constants are none", s.weight(0), 0);
        s.out(0, 3, 10);
        due("each once", s.weight(0), 3);
        s.out(0, 4, 10);
        s.out(0, 5, 11);
        due("all", s.weight(0), 4);
        due("wrong net", s.weight(1), BAD);
        due("wrong net below", s.weight(LOW), BAD);
        s.net(1);
        s.gate(1, 1, 0, 0);
        for (int g = 1; g < 40; g++) {
            s.gate(1, 6, 7 + g, 0);
        }
        s.out(1, 0, 47);
        due("forty", s.weight(1), 40);
    }

    private static void count() {
        LogicSmith s = begin("31 count");
        s.function(1);
        s.function(2);
        s.net(1);
        s.gate(0, 0, 0, 0);
        s.out(0, 0, 8);
        due("functions", s.count(0), 2);
        due("nets", s.count(1), 1);
        due("steps", s.count(2), 0);
        s.shape(0);
        due("steps now", s.count(2), 1);
        for (int what : new int[] {-1, 3, LOW, HIGH}) {
            due("wrong what " + what, s.count(what), BAD);
        }
    }

    private static void remove() {
        LogicSmith s = begin("32 remove");
        s.function(1);
        s.function(2);
        s.net(1);
        s.net(2);
        due("a function", s.remove(0), 1);
        due("it is gone", s.at(1, 0), BAD);
        due("the other stays", s.at(0, 0), 0);
        due("nets stay", s.count(1), 2);
        due("a net", s.remove(1), 1);
        due("gone too", s.output(1, 0), -4);
        due("the last function", s.remove(0), 0);
        due("none", s.remove(0), BAD);
        due("the last net", s.remove(1), 0);
        due("no net", s.remove(1), BAD);
        s.function(1);
        s.net(1);
        for (int kind : new int[] {-1, 2, LOW, HIGH}) {
            due("wrong kind " + kind, s.remove(kind), BAD);
        }
        due("nothing went", s.count(0) + s.count(1), 2);
    }

    public static void main(String[] args) {
        newObject();
        function();
        put();
        bits();
        tear();
        at();
        places();
        take();
        primes();
        prime();
        least();
        summed();
        letters();
        graph();
        order();
        net();
        gate();
        keep();
        out();
        told();
        output();
        value();
        same();
        parts();
        comes();
        cared();
        shape();
        shapeAnew();
        step();
        back();
        backOfOthers();
        weight();
        count();
        remove();
        DUE.end();
    }
}
