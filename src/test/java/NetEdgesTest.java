import java.util.Random;

/** The sentences of the document that name an edge of nets, a test for each; its title tells the sentence. */
public final class NetEdgesTest {
    private static final int LOW = Integer.MIN_VALUE, HIGH = Integer.MAX_VALUE;
    private static final int BAD = -1, FULL = -3;
    private static final Due DUE = new Due();
    private static String title = "";

    private static LogicSmith sentence(String words) {
        title = words;
        return new LogicSmith();
    }

    private static void due(String call, long got, long want) {
        DUE.is("\"" + title + "\": " + call, got, want);
    }

    /** Net 0 of n letters with gates of table, x, y. */
    private static LogicSmith ofGates(int n, int[]... gates) {
        LogicSmith s = new LogicSmith();
        s.net(n);
        for (int[] gate : gates) {
            s.gate(0, gate[0], gate[1], gate[2]);
        }
        return s;
    }

    private static void dueStep(LogicSmith s, int i, int gate, int rule, int operand) {
        due("gate of step " + i, s.step(i, 0), gate);
        due("rule of step " + i, s.step(i, 1), rule);
        due("operand of step " + i, s.step(i, 2), operand);
    }

    private static void newNets() {
        sentence("A new net of n letters: its number");
        for (int n = 1; n <= 8; n++) {
            LogicSmith s = ofGates(8, new int[] {15, 7, 7}, new int[] {9, 8, 6});
            s.keep(0, 0, 1);
            for (int i = 0; i < 6; i++) {
                s.out(0, i, 9);
            }
            s.remove(1);
            due("its number", s.net(n), 0);
            for (int i = 0; i < 6; i++) {
                due("output " + i + " is not told", s.output(0, i), -3);
            }
            due("no gate", s.told(0, 0, 0), BAD);
            due("no weight", s.weight(0), 0);
            due("the last letter", s.value(0, n - 1, (1 << n) - 1), 1);
            due("the last row", s.value(0, -2, (1 << n) - 1), 1);
            due("no row behind it", s.value(0, -2, 1 << n), BAD);
            due("no letter behind it", s.value(0, n, 0), BAD);
            due("its first gate", s.gate(0, 6, 0, n - 1), 0);
            due("is not KEPT", s.told(0, 0, 4), 0);
            due("and not READ", s.told(0, 0, 3), 0);
        }
    }

    private static void operandsOfGates() {
        LogicSmith s = sentence("two operands x, y (letters of the net, gates ahead of it, -1, -2)");
        s.net(3);
        for (int g = 0; g < 40; g++) {
            due("x is itself, gate " + g, s.gate(0, 8, 8 + g, 0), BAD);
            due("y is itself, gate " + g, s.gate(0, 8, 0, 8 + g), BAD);
            due("x is the next, gate " + g, s.gate(0, 8, 9 + g, 0), BAD);
            due("the one ahead, gate " + g, s.gate(0, 8, g == 0 ? 2 : 7 + g, g == 0 ? -2 : 8), g);
        }
        due("a forty-first, of the last", s.gate(0, 8, 47, 47), FULL);
        due("of one that will never be", s.gate(0, 8, 48, 47), BAD);
        due("y, too", s.gate(0, 8, 47, 48), BAD);
        due("the last gate is there", s.told(0, 39, 1), 46);
        due("no other", s.told(0, 40, 1), BAD);
        sentence("An OPERAND is a letter (its number), a gate (8 and its number), or -1, which is always 0, or -2");
        for (int n = 1; n <= 8; n++) {
            s = ofGates(n, new int[] {1, 0, 0});
            for (int operand = -5; operand < 12; operand++) {
                boolean is = operand == -1 || operand == -2 || operand >= 0 && operand < n || operand == 8;
                due("value of " + operand + ", " + n, s.value(0, operand, 0) == BAD ? 0 : 1, is ? 1 : 0);
                due("output " + operand + ", " + n, s.out(0, 3, operand), is || operand == -3 ? 0 : BAD);
            }
            for (int row = 0; row < 2; row++) {
                due("always 0, " + n, s.value(0, -1, row * ((1 << n) - 1)), 0);
                due("always 1, " + n, s.value(0, -2, row * ((1 << n) - 1)), 1);
            }
        }
    }

    private static void tables() {
        sentence("it is 1 at a row if bit (x and twice y, as they are there) of its table is set");
        for (int table = 0; table < 16; table++) {
            LogicSmith s = ofGates(2, new int[] {table, 0, 1}, new int[] {table, -2, -1}, new int[] {table, -1, -2});
            for (int row = 0; row < 4; row++) {
                due("table " + table + " at " + row, s.value(0, 8, row), table >> row & 1);
            }
            due("table " + table + " of 1, 0", s.value(0, 9, 0), table >> 1 & 1);
            due("table " + table + " of 0, 1", s.value(0, 10, 0), table >> 2 & 1);
            due("table " + table + " is told", s.told(0, 1, 0), table);
        }
        LogicSmith s = sentence("TABLE 0 .. 15");
        s.net(1);
        for (int table : new int[] {LOW, -16, -1, 16, 17, 31, HIGH}) {
            due("table " + table, s.gate(0, table, 0, 0), BAD);
        }
        due("none came", s.gate(0, 0, 0, 0), 0);
        due("the last table", s.gate(0, 15, 0, 0), 1);
    }

    private static void keeps() {
        LogicSmith s = sentence("A gate is KEPT from now on (v 1), or not (0): what it was");
        s.net(1);
        due("no gate yet", s.keep(0, 0, 1), BAD);
        for (int g = 0; g < 40; g++) {
            s.gate(0, 10, 0, 0);
        }
        for (int g : new int[] {0, 39}) {
            int was = 0;
            for (int v : new int[] {0, 1, 1, 0, 0, 1}) {
                due("gate " + g + " becomes " + v, s.keep(0, g, v), was);
                due("told", s.told(0, g, 4), v);
                was = v;
            }
        }
        for (int g = 1; g < 39; g++) {
            due("gate " + g + " is not", s.told(0, g, 4), 0);
        }
        due("no fortieth", s.keep(0, 40, 1), BAD);
    }

    private static void toldEdges() {
        sentence("no such net, gate, what (of 1, 2 it may be -1, too)");
        LogicSmith s = ofGates(1, new int[] {0, -1, -1}, new int[] {15, -2, -2}, new int[] {1, 8, 9});
        due("x that is always 0", s.told(0, 0, 1), -1);
        due("y that is always 0", s.told(0, 0, 2), -1);
        due("x that is always 1", s.told(0, 1, 1), -2);
        due("y that is always 1", s.told(0, 1, 2), -2);
        due("no such gate", s.told(0, 3, 1), -1);
        sentence("A gate is READ if it is an operand of a gate, or an output");
        due("as x, by a gate that is not", s.told(0, 0, 3), 1);
        due("as y, by a gate that is not", s.told(0, 1, 3), 1);
        due("by none", s.told(0, 2, 3), 0);
        for (int i = 0; i < 6; i++) {
            s.out(0, i, 10);
            due("by output " + i, s.told(0, 2, 3), 1);
            s.out(0, i, -3);
            due("no longer", s.told(0, 2, 3), 0);
        }
        sentence("0 its TABLE");
        due("the least", s.told(0, 0, 0), 0);
        due("the largest", s.told(0, 1, 0), 15);
    }

    private static void outputs() {
        LogicSmith s = sentence("-4: there is no such net, output");
        due("no net yet", s.output(0, 0), -4);
        for (int net = 0; net < 8; net++) {
            s.net(1 + net);
            for (int i = 0; i < 6; i++) {
                due("net " + net + ", output " + i, s.output(net, i), -3);
            }
            due("no output 6", s.output(net, 6), -4);
            due("no output -1", s.output(net, -1), -4);
            due("no next net", s.output(net + 1, 0), -4);
            due("neither", s.output(net + 1, 6), -4);
        }
        sentence("An output is an operand, or not told (-3): 0");
        for (int operand : new int[] {-1, -2, 0, 7, -3}) {
            for (int i = 0; i < 6; i++) {
                due("output " + i + " becomes " + operand, s.out(7, i, operand), 0);
                due("it is", s.output(7, i), operand);
            }
        }
        due("no gate yet", s.out(7, 0, 8), BAD);
        s.gate(7, 8, 0, 0);
        due("a gate", s.out(7, 0, 8), 0);
        due("-4 is none", s.out(7, 0, -4), BAD);
        due("it is a gate still", s.output(7, 0), 8);
        due("output 1 is not told", s.output(7, 1), -3);
        due("another net's neither", s.output(6, 0), -3);
    }

    private static void sameNets() {
        sentence("1 if two nets have the same letters, the same outputs told, and these are the same at all rows; "
            + "else 0");
        for (int n = 1; n <= 8; n++) {
            LogicSmith s = new LogicSmith();
            s.net(n);
            s.net(n);
            due("nothing told, " + n, s.same(0, 1), 1);
            for (int i = 0; i < 6; i++) {
                s.out(0, i, -2);
                due("output " + i + " in one alone", s.same(0, 1), 0);
                due("in the other alone", s.same(1, 0), 0);
                s.out(1, i, -1);
                due("output " + i + " is other", s.same(0, 1), 0);
                s.out(1, i, -2);
                due("output " + i + " is the same", s.same(0, 1), 1);
            }
            // A gate that is 1 at the last row alone.
            int g = s.gate(0, 8, 0, n - 1);
            for (int k = 1; k < n - 1; k++) {
                g = s.gate(0, 8, 8 + g, k);
            }
            s.out(0, 5, 8 + g);
            s.out(1, 5, -1);
            due("other at the last row alone, " + n, s.same(0, 1), 0);
            due("itself", s.same(0, 0), 1);
            due("none", s.same(0, 2), BAD);
            due("none first", s.same(2, 0), BAD);
        }
    }

    private static void partedNets() {
        sentence("The least row at which an output that is told in both nets differs, 8 times, and the least such "
            + "output; -5: there is none");
        for (int n = 1; n <= 8; n++) {
            LogicSmith s = new LogicSmith();
            s.net(n);
            s.net(n);
            due("nothing told, " + n, s.parts(0, 1), -5);
            int g = s.gate(0, 8, 0, n - 1);
            for (int k = 1; k < n - 1; k++) {
                g = s.gate(0, 8, 8 + g, k);
            }
            s.out(0, 5, 8 + g);
            due("told in one alone, " + n, s.parts(0, 1), -5);
            s.out(1, 4, -2);
            due("another told in the other, " + n, s.parts(0, 1), -5);
            s.out(1, 5, -1);
            int last = (1 << n) - 1;
            due("the last row, the last output, " + n, s.parts(0, 1), 8 * last + 5);
            due("the other way, " + n, s.parts(1, 0), 8 * last + 5);
            s.out(0, 0, 8 + g);
            s.out(1, 0, -1);
            due("the last row, of two outputs the least, " + n, s.parts(0, 1), 8 * last);
            for (int k = n - 1; k >= 0; k--) {
                s.out(0, 5, k);
                due("the first row with letter " + k + ", " + n, s.parts(0, 1), n == 1 ? 8 : 8 * (1 << k) + 5);
            }
            s.out(0, 4, -1);
            due("the first row, output 4, " + n, s.parts(0, 1), 4);
            s.out(0, 0, -2);
            due("the first row, the first output, " + n, s.parts(0, 1), 0);
            due("itself, " + n, s.parts(0, 0), -5);
        }
    }

    private static void comesAndCared() {
        sentence("a bit for each x + 2 y that its operands are at some row of letters");
        int[][] pairs = {{-1, -1, 1}, {-2, -1, 2}, {-1, -2, 4}, {-2, -2, 8}, {0, -1, 3}, {0, -2, 12}, {-1, 0, 5},
            {-2, 0, 10}, {0, 0, 9}};
        for (int n = 1; n <= 8; n++) {
            LogicSmith s = new LogicSmith();
            s.net(n);
            for (int i = 0; i < pairs.length; i++) {
                s.gate(0, 6, pairs[i][0], pairs[i][1]);
                due(pairs[i][0] + " and " + pairs[i][1] + " of " + n, s.comes(0, i), pairs[i][2]);
                due("none told: cared for nowhere", s.cared(0, i), 0);
            }
            s.gate(0, 6, 0, n - 1);
            due("the first and the last letter of " + n, s.comes(0, 9), n == 1 ? 9 : 15);
            due("no such gate", s.comes(0, 10), BAD);
            due("no such gate to care for", s.cared(0, 10), BAD);
            for (int i = 0; i < 6; i++) {
                s.out(0, i, 17);
                due("an output, " + i, s.cared(0, 9), n == 1 ? 9 : 15);
                due("of the others nothing", s.cared(0, 0), 0);
                s.out(0, i, -3);
            }
        }
        sentence("at some such row, the told outputs would not all be the same if the gate were turned there");
        // Gate 5 is 1 where the letters 0 to 5 are, at rows 63, 127, 191, 255: gate 6 sees gate 0 there alone.
        LogicSmith s = new LogicSmith();
        s.net(8);
        s.gate(0, 8, 7, 6);
        s.gate(0, 8, 0, 1);
        for (int k = 2; k < 6; k++) {
            s.gate(0, 8, 7 + k, k);
        }
        s.gate(0, 8, 13, 8);
        s.out(0, 5, 14);
        due("at four rows, each with letters 6 and 7 of its own", s.cared(0, 0), 15);
        s.out(0, 5, -3);
        due("not told any more", s.cared(0, 0), 0);
        s.gate(0, 8, 14, 7);
        s.out(0, 0, 15);
        due("where letter 7 is 1", s.cared(0, 0), 10);
        s.gate(0, 8, 15, 6);
        s.out(0, 0, 16);
        due("at the last row alone", s.cared(0, 0), 8);
        due("of the gate that reads it, where y is 1", s.cared(0, 6), 12);
        due("though all comes to it", s.comes(0, 6), 15);
    }

    /** An operand that is what x is at one row, and 0 at all others. */
    private static int atRowAlone(LogicSmith s, int net, int n, int x, int row) {
        int operand = x;
        for (int k = 0; k < n; k++) {
            operand = 8 + s.gate(net, (row >> k & 1) == 1 ? 8 : 2, operand, k);
        }
        return operand;
    }

    private static void oneRowAlone() {
        for (int n = 1; n <= 8; n++) {
            for (int row = 0; row < 1 << n; row++) {
                sentence("at some such row, the told outputs would not all be the same if the gate were turned there");
                LogicSmith s = ofGates(n, new int[] {0, 0, n - 1}, new int[] {6, 0, 0});
                s.out(0, row % 6, atRowAlone(s, 0, n, 8, row));
                due("row " + row + " of " + n, s.cared(0, 0), 1 << (row & 1) + 2 * (row >> n - 1));
                sentence("a bit for each x + 2 y that its operands are at some row of letters");
                s = ofGates(n);
                int alone = atRowAlone(s, 0, n, -2, row);
                due("1 at row " + row + " alone of " + n, s.comes(0, s.gate(0, 6, alone, -1)), 3);
                due("as y", s.comes(0, s.gate(0, 6, -2, alone)), 10);
                int allBut = 8 + s.gate(0, 5, alone, -1);
                due("0 at row " + row + " alone of " + n, s.comes(0, s.gate(0, 6, allBut, -1)), 3);
                sentence("The least row at which an output that is told in both nets differs, 8 times, and the output");
                s = ofGates(n);
                s.net(n);
                s.out(0, row % 6, atRowAlone(s, 0, n, -2, row));
                s.out(1, row % 6, -1);
                due("row " + row + " of " + n, s.parts(0, 1), 8 * row + row % 6);
                due("row " + row + " of " + n + ": same", s.same(0, 1), 0);
                due("row " + row + " of " + n + ": itself", s.same(0, 0), 1);
            }
        }
    }

    private static void rulesInOrder() {
        sentence("the first of these is done");
        // Nothing is cared for: all of RULES 0 to 3 hold.
        LogicSmith s = ofGates(2, new int[] {6, 0, 1}, new int[] {6, 8, 8});
        s.out(0, 0, 9);
        due("0 ahead of all", s.shape(0), 2);
        dueStep(s, 0, 0, 0, -1);
        dueStep(s, 1, 1, 0, -1);
        // x is always 1, and the gate is 1: RULES 1 and 2 hold.
        s = ofGates(2, new int[] {10, -2, 1});
        s.out(0, 0, 8);
        due("1 ahead of 2", s.shape(0), 1);
        dueStep(s, 0, 0, 1, -2);
        // x and y are the same letter: RULES 2 and 3 hold, and 4, since gate 0 is the same.
        s = ofGates(2, new int[] {10, 0, 1}, new int[] {8, 0, 0});
        s.out(0, 0, 9);
        due("2 ahead of 3 and 4", s.shape(0), 1);
        dueStep(s, 0, 1, 2, 0);
        // Gate 1 is y, and the same as gate 0, which is KEPT.
        s = ofGates(2, new int[] {12, 0, 1}, new int[] {12, 0, 1});
        s.keep(0, 0, 1);
        s.out(0, 0, 8);
        s.out(0, 1, 9);
        due("3 ahead of 4", s.shape(0), 1);
        dueStep(s, 0, 1, 3, 1);
        sentence("4: a gate ahead of it (the first such) is the same as it at all rows");
        s = ofGates(2, new int[] {6, 0, 1}, new int[] {6, 1, 0}, new int[] {6, 0, 1});
        s.out(0, 0, 8);
        s.out(0, 1, 10);
        due("the first, not the nearest", s.shape(0), 1);
        dueStep(s, 0, 2, 4, 8);
        s = ofGates(8, new int[] {8, 6, 7}, new int[] {8, 8, 0}, new int[] {8, 8, 1});
        for (int i = 0; i < 3; i++) {
            s.out(0, i, 8 + i);
        }
        due("not the same at some rows behind the 63rd", s.shape(0), 0);
        s = ofGates(8, new int[] {8, 0, 1}, new int[] {6, 6, 7}, new int[] {8, 1, 0});
        for (int i = 0; i < 3; i++) {
            s.out(0, i, 8 + i);
        }
        due("the same at all 256 rows", s.shape(0), 1);
        dueStep(s, 0, 2, 4, 8);
        for (int n = 2; n <= 8; n++) {
            s = ofGates(n, new int[] {6, n - 1, 0}, new int[] {6, 8, 0});
            s.out(0, 0, 8);
            s.out(0, 1, 9);
            due("the same as the last letter, which is no gate, " + n, s.shape(0), 0);
        }
    }

    private static void twinsAtAllRows() {
        sentence("4: a gate ahead of it (the first such) is the same as it at all rows");
        for (int n = 2; n <= 8; n++) {
            for (int row = 0; row < 1 << n; row++) {
                LogicSmith s = ofGates(n, new int[] {6, 0, n - 1});
                int alone = atRowAlone(s, 0, n, -2, row);
                int other = s.gate(0, 6, 8, alone);
                int twin = s.gate(0, 6, alone, 8);
                for (int g = 0; g < other; g++) {
                    s.keep(0, g, 1);
                }
                s.out(0, 0, 8);
                s.out(0, 1, 8 + other);
                due("other at row " + row + " of " + n + " alone", s.shape(0), 0);
                s.out(0, 2, 8 + twin);
                due("the same at all rows of " + n, s.shape(0), 1);
                dueStep(s, 0, twin, 4, 8 + other);
            }
        }
    }

    /** The first of RULES 0 to 3 that a table keeps to at the bits that are cared for, or -1. */
    private static int ruleAt(int table, int care) {
        String[] rules = {"0000", "1111", "0101", "0011"};
        for (int rule = 0; rule < 4; rule++) {
            boolean holds = true;
            for (int bit = 0; bit < 4; bit++) {
                boolean cared = (care >> bit & 1) == 1;
                holds &= !cared || (table >> bit & 1) == rules[rule].charAt(bit) - '0';
            }
            if (holds) {
                return rule;
            }
        }
        return -1;
    }

    /** Gate 1 has any table, and is cared for where gate 0, which has any table, too, is 1. */
    private static void rulesAtWhatIsCaredFor() {
        sentence("0: its table has 0 at all bits that are CARED for; 1: it has 1 there; 2: it has there what x has "
            + "(bits 1 and 3 set, 0 and 2 not); 3: what y has (bits 2 and 3 set, 0 and 1 not)");
        for (int[] letters : new int[][] {{2, 0, 1}, {8, 7, 6}, {7, 0, 6}}) {
            for (int code = 0; code < 256; code++) {
                int table = code & 15;
                int care = code >> 4;
                int x = letters[1];
                int y = letters[2];
                LogicSmith s = ofGates(letters[0], new int[] {care, x, y}, new int[] {table, x, y});
                s.gate(0, 8, 9, 8);
                s.keep(0, 0, 1);
                s.keep(0, 2, 1);
                s.out(0, 3, 10);
                String call = "table " + table + ", cared for at " + care + ", " + letters[0] + " letters";
                due(call, s.cared(0, 1), care);
                int rule = ruleAt(table, care);
                boolean twin = rule < 0 && table == care;
                due(call + ": steps", s.shape(0), rule >= 0 || twin ? 1 : 0);
                if (rule >= 0 || twin) {
                    dueStep(s, 0, 1, twin ? 4 : rule, twin ? 8 : new int[] {-1, -2, x, y}[rule]);
                }
            }
        }
    }

    private static void readInstead() {
        sentence("whatever reads the gate (gates and outputs) reads -1, -2, x, y, or that gate instead");
        int[] tables = {0, 15, 10, 12};
        int[] instead = {-1, -2, 1, 0};
        for (int rule = 0; rule < 4; rule++) {
            LogicSmith s = ofGates(2, new int[] {tables[rule], 1, 0});
            for (int g = 1; g < 40; g++) {
                s.gate(0, 6, g % 3 == 0 ? 0 : 8, g % 3 == 1 ? 0 : 8);
                s.keep(0, g, 1);
            }
            for (int i = 0; i < 6; i++) {
                s.out(0, i, 8);
            }
            due("one step, rule " + rule, s.shape(0), 1);
            dueStep(s, 0, 0, rule, instead[rule]);
            for (int g = 1; g < 40; g++) {
                due("x of gate " + g, s.told(0, g, 1), g % 3 == 0 ? 0 : instead[rule]);
                due("y of gate " + g, s.told(0, g, 2), g % 3 == 1 ? 0 : instead[rule]);
            }
            for (int i = 0; i < 6; i++) {
                due("output " + i, s.output(0, i), instead[rule]);
            }
            due("it is not READ", s.told(0, 0, 3), 0);
            due("its table stays", s.told(0, 0, 0), tables[rule]);
            due("its x and y, too", s.told(0, 0, 1) * 10 + s.told(0, 0, 2), 10);
        }
    }

    private static void readTheTwinInstead() {
        sentence("whatever reads the gate (gates and outputs) reads .. that gate instead");
        LogicSmith s = ofGates(2, new int[] {6, 0, 1}, new int[] {6, 1, 0});
        for (int g = 2; g < 40; g++) {
            s.gate(0, 6, g % 3 == 0 ? 0 : 9, g % 3 == 1 ? 0 : 9);
            s.keep(0, g, 1);
        }
        for (int i = 0; i < 6; i++) {
            s.out(0, i, 9);
        }
        due("gate 0 is not READ", s.told(0, 0, 3), 0);
        due("one step", s.shape(0), 1);
        dueStep(s, 0, 1, 4, 8);
        for (int g = 2; g < 40; g++) {
            due("x of gate " + g, s.told(0, g, 1), g % 3 == 0 ? 0 : 8);
            due("y of gate " + g, s.told(0, g, 2), g % 3 == 1 ? 0 : 8);
        }
        for (int i = 0; i < 6; i++) {
            due("output " + i, s.output(0, i), 8);
        }
        due("gate 0 is READ", s.told(0, 0, 3), 1);
        due("gate 1 is not", s.told(0, 1, 3), 0);
    }

    private static int anyOperand(Random random, int n, int gates) {
        int pick = random.nextInt(n + 2 * gates + 1);
        return pick < n ? pick : pick == n + 2 * gates ? -1 - random.nextInt(2) : 8 + (pick - n) / 2;
    }

    /** Nets 0 and 1, which are the same: gates that read near ones often, some KEPT, some outputs. */
    private static LogicSmith twoAlike(Random random, int n, int gates) {
        LogicSmith s = new LogicSmith();
        s.net(n);
        s.net(n);
        for (int g = 0; g < gates; g++) {
            int table = random.nextInt(16);
            int x = anyOperand(random, n, g);
            int y = anyOperand(random, n, g);
            int kept = random.nextInt(8) == 0 ? 1 : 0;
            for (int net = 0; net < 2; net++) {
                s.gate(net, table, x, y);
                s.keep(net, g, kept);
            }
        }
        for (int i = 0; i < 6; i++) {
            int operand = random.nextInt(3) == 0 ? -3 : anyOperand(random, n, gates);
            s.out(0, i, operand);
            s.out(1, i, operand);
        }
        return s;
    }

    private static void neverOther() {
        sentence("shaped smaller step by step, never other than they were");
        Random random = new Random(10);
        int steps = 0;
        for (int i = 0; i < 400; i++) {
            int n = 1 + i % 8;
            int gates = random.nextInt(41);
            LogicSmith s = twoAlike(random, n, gates);
            due("net " + i + " is as it was made twice", s.same(0, 1), 1);
            steps += s.shape(0);
            due("net " + i + " shaped is not other", s.same(0, 1), 1);
            due("net " + i + " shaped is parted nowhere", s.parts(0, 1), -5);
            due("net " + i + " shaped once more", s.shape(0), 0);
            for (int g = 0; g < gates; g++) {
                due("the TABLE of gate " + g + " of net " + i, s.told(0, g, 0), s.told(1, g, 0));
                due("KEPT of gate " + g + " of net " + i, s.told(0, g, 4), s.told(1, g, 4));
            }
        }
        due("steps were done", steps > 2000 ? 1 : 0, 1);
    }

    /** The STEPS that are told, done by hand to the net as it was ahead of them, make it what it is told behind. */
    private static void stepsDoneByHand() {
        sentence("Of STEP i .. 0 the gate, 1 the RULE, 2 the operand that is read instead");
        Random random = new Random(28);
        for (int i = 0; i < 200; i++) {
            int gates = random.nextInt(25);
            LogicSmith s = twoAlike(random, 1 + i % 8, gates);
            int[] x = new int[gates];
            int[] y = new int[gates];
            int[] out = new int[6];
            for (int g = 0; g < gates; g++) {
                x[g] = s.told(0, g, 1);
                y[g] = s.told(0, g, 2);
            }
            for (int k = 0; k < 6; k++) {
                out[k] = s.output(0, k);
            }
            int steps = s.shape(0);
            for (int k = 0; k < steps; k++) {
                doStep("step " + k + " of net " + i, s, k, x, y, out);
            }
            for (int g = 0; g < gates; g++) {
                due("x of gate " + g + " of net " + i, s.told(0, g, 1), x[g]);
                due("y of gate " + g + " of net " + i, s.told(0, g, 2), y[g]);
            }
            for (int k = 0; k < 6; k++) {
                due("output " + k + " of net " + i, s.output(0, k), out[k]);
            }
        }
    }

    private static void doStep(String call, LogicSmith s, int step, int[] x, int[] y, int[] out) {
        int g = s.step(step, 0);
        int rule = s.step(step, 1);
        int instead = s.step(step, 2);
        due(call + ": not KEPT", s.told(0, g, 4), 0);
        if (rule < 4) {
            due(call + ": the operand of rule " + rule, instead, new int[] {-1, -2, x[g], y[g]}[rule]);
        } else {
            due(call + ": a gate ahead of it", instead >= 8 && instead < 8 + g ? 1 : 0, 1);
        }
        int readers = 0;
        for (int[] row : new int[][] {x, y, out}) {
            for (int i = 0; i < row.length; i++) {
                if (row[i] == 8 + g) {
                    row[i] = instead;
                    readers++;
                }
            }
        }
        due(call + ": READ", readers > 0 ? 1 : 0, 1);
    }

    private static void readAndKept() {
        sentence("For the first one that is READ and not KEPT, and for which one of these holds");
        LogicSmith s = ofGates(1, new int[] {0, 0, 0});
        due("not READ", s.shape(0), 0);
        s.out(0, 5, 8);
        s.keep(0, 0, 1);
        due("KEPT", s.shape(0), 0);
        due("as it was", s.output(0, 5), 8);
        s.keep(0, 0, 0);
        due("READ and not KEPT", s.shape(0), 1);
        due("it is read no longer", s.told(0, 0, 3), 0);
        due("shaped once more", s.shape(0), 0);
        s = ofGates(1, new int[] {5, 0, 0}, new int[] {5, 8, 8}, new int[] {5, 0, 0});
        for (int g = 0; g < 3; g++) {
            s.keep(0, g, 1);
        }
        s.out(0, 0, 9);
        s.out(0, 1, 10);
        due("all are KEPT", s.shape(0), 0);
        s.keep(0, 2, 0);
        due("one is not", s.shape(0), 1);
        dueStep(s, 0, 2, 4, 8);
    }

    private static void shapingAtItsEnds() {
        sentence("SHAPING goes through the gates from 0 on .. it ends when there is none");
        LogicSmith s = ofGates(8);
        due("no gates", s.shape(0), 0);
        s.out(0, 0, 7);
        s.out(0, 1, -1);
        due("outputs that are no gates", s.shape(0), 0);
        s = ofGates(1);
        for (int g = 0; g < 40; g++) {
            s.gate(0, 10, g == 0 ? 0 : 7 + g, -1);
        }
        s.out(0, 0, 47);
        due("weight of a chain", s.weight(0), 40);
        due("each of forty gates is what its x is", s.shape(0), 40);
        for (int i = 0; i < 40; i++) {
            dueStep(s, i, i, 2, 0);
        }
        due("no step behind the last", s.step(40, 0), -9);
        due("counted", s.count(2), 40);
        due("nothing is left", s.weight(0), 0);
        due("the letter", s.output(0, 0), 0);
        due("undone", s.back(0), 40);
        due("weight as it was", s.weight(0), 40);
        s = ofGates(2);
        for (int g = 0; g < 40; g++) {
            s.gate(0, 6, g == 0 ? 0 : 7 + g, 1);
        }
        for (int i = 0; i < 6; i++) {
            s.out(0, i, 47 - i);
        }
        // Each gate from 2 on is the same as the one two ahead: 38 steps. Whenever an even one goes, gate 1 is cared
        // for no more, and becomes 0 for what nobody reads, until an output reads it: once for each of 2, 4 .. 34.
        due("steps that make a gate ahead be cared for no more, and again", s.shape(0), 38 + 17);
        due("two gates are left", s.weight(0), 2);
        due("an even one is gate 0", s.output(0, 1), 8);
        due("an odd one is gate 1", s.output(0, 0), 9);
        dueStep(s, 0, 2, 4, 8);
        dueStep(s, 1, 1, 0, -1);
        dueStep(s, 2, 3, 4, 9);
        dueStep(s, 54, 39, 4, 9);
    }

    private static void steps() {
        LogicSmith s = sentence("-9: there is none such");
        for (int i : new int[] {LOW, -1, 0, 1, HIGH}) {
            due("step " + i + " before any", s.step(i, 0), -9);
        }
        s = ofGates(2, new int[] {0, 0, 1}, new int[] {15, 0, 1});
        s.out(0, 0, 8);
        s.out(0, 1, 9);
        s.shape(0);
        dueStep(s, 0, 0, 0, -1);
        dueStep(s, 1, 1, 1, -2);
        for (int i : new int[] {LOW, -1, 2, 1799, 1800, HIGH}) {
            for (int what = -1; what < 4; what++) {
                due("step " + i + ", " + what, s.step(i, what), -9);
            }
        }
        for (int what : new int[] {LOW, -1, 3, HIGH}) {
            due("what " + what, s.step(1, what), -9);
        }
        sentence("Of STEP i of the latest SHAPING (of whatever net)");
        s.net(2);
        due("another net is shaped", s.shape(1), 0);
        due("it has none", s.step(0, 0), -9);
        due("counted", s.count(2), 0);
        s.gate(1, 12, 0, 1);
        s.out(1, 0, 8);
        due("and again", s.shape(1), 1);
        dueStep(s, 0, 0, 3, 1);
        due("refused", s.shape(2), BAD);
        dueStep(s, 0, 0, 3, 1);
        s.remove(1);
        s.remove(1);
        dueStep(s, 0, 0, 3, 1);
        due("counted when the nets are gone", s.count(2), 1);
    }

    private static LogicSmith shaped() {
        LogicSmith s = ofGates(2, new int[] {10, 0, 1}, new int[] {6, 8, 1}, new int[] {6, 1, 8});
        s.keep(0, 2, 1);
        s.out(0, 0, 8);
        s.out(0, 1, 9);
        s.out(0, 2, 10);
        due("a step", s.shape(0), 1);
        return s;
    }

    private static void dueBack(String call, LogicSmith s, boolean allowed) {
        due(call, s.back(0), allowed ? 1 : BAD);
        due(call + ": the gate that reads it as x", s.told(0, 1, 1), allowed ? 8 : 0);
        due(call + ": the gate that reads it as y", s.told(0, 2, 2), allowed ? 8 : 0);
        due(call + ": the steps are told on", s.step(0, 1), 2);
        due(call + ": and counted", s.count(2), 1);
        due(call + ": not once more", s.back(0), BAD);
    }

    private static void backs() {
        LogicSmith s = sentence("BAD: no such net, or it is not so (it can be done once). The STEPS are told on");
        due("no net", s.back(0), BAD);
        s.net(1);
        due("no shaping", s.back(0), BAD);
        due("a shaping without steps", s.shape(0), 0);
        due("none are undone", s.back(0), 0);
        due("once", s.back(0), BAD);
        s = shaped();
        due("output ahead", s.output(0, 0), 0);
        dueBack("at once", s, true);
        due("output behind", s.output(0, 0), 8);
        due("KEPT as it was", s.told(0, 2, 4), 1);
        due("shaped anew", s.shape(0), 1);
        dueBack("anew", s, true);
    }

    private static void backsBehindGates() {
        sentence("since then no gate of it came");
        LogicSmith s = shaped();
        due("a gate", s.gate(0, 8, 0, 1), 3);
        dueBack("it came", s, false);
        due("it is there", s.told(0, 3, 0), 8);
        s = shaped();
        due("a wrong gate", s.gate(0, 16, 0, 1), BAD);
        due("a gate of no net", s.gate(1, 8, 0, 1), BAD);
        dueBack("none came", s, true);
        s = shaped();
        s.net(2);
        due("a gate of another net", s.gate(1, 8, 0, 1), 0);
        dueBack("none of it came", s, true);
        s = new LogicSmith();
        s.net(1);
        for (int g = 0; g < 40; g++) {
            s.gate(0, 10, 0, 0);
        }
        s.out(0, 0, 47);
        due("forty gates", s.shape(0), 1);
        due("no room for another", s.gate(0, 10, 0, 0), FULL);
        due("none came", s.back(0), 1);
        due("as it was", s.output(0, 0), 47);
    }

    private static void backsBehindOutputs() {
        sentence("no output or KEPT became another one");
        for (int i = 0; i < 6; i++) {
            LogicSmith s = shaped();
            due("output " + i + " becomes what it is", s.out(0, i, s.output(0, i)), 0);
            dueBack("none became another, " + i, s, true);
            s = shaped();
            due("output " + i + " becomes another", s.out(0, i, -2), 0);
            dueBack("one did, " + i, s, false);
            due("it is that still", s.output(0, i), -2);
        }
        LogicSmith s = shaped();
        s.out(0, 5, 1);
        s.out(0, 5, -3);
        dueBack("an output became another, and another", s, false);
        s = shaped();
        due("wrong outputs", s.out(0, 6, 1) + s.out(0, -1, 1) + s.out(0, 0, -4) + s.out(0, 0, 11) + s.out(1, 0, 0), -5);
        dueBack("none became another", s, true);
        for (int g = 0; g < 3; g++) {
            s = shaped();
            int was = s.told(0, g, 4);
            due("gate " + g + " is KEPT as it was", s.keep(0, g, was), was);
            dueBack("no KEPT became another, " + g, s, true);
            s = shaped();
            due("gate " + g + " is KEPT otherwise", s.keep(0, g, 1 - was), was);
            dueBack("one KEPT did, " + g, s, false);
            due("it is that still, " + g, s.told(0, g, 4), 1 - was);
        }
        s = shaped();
        due("wrong ones", s.keep(0, 3, 1) + s.keep(0, 0, 2) + s.keep(0, 0, -1) + s.keep(1, 0, 1), -4);
        dueBack("no KEPT became another", s, true);
    }

    private static void backsOfOthers() {
        sentence("if that was its");
        LogicSmith s = shaped();
        s.net(2);
        due("another net", s.back(1), BAD);
        s.out(1, 0, 1);
        s.gate(1, 15, 0, 0);
        s.keep(1, 0, 1);
        dueBack("what became of another", s, true);
        s = shaped();
        s.net(2);
        due("another is shaped", s.shape(1), 0);
        due("it is not its", s.back(0), BAD);
        due("but the other's", s.back(1), 0);
        due("and there is none ahead of that", s.back(0), BAD);
        s = shaped();
        due("a shaping that is refused", s.shape(1), BAD);
        dueBack("is none", s, true);
        s = shaped();
        s.net(2);
        s.net(2);
        s.remove(1);
        s.remove(1);
        dueBack("other nets went", s, true);
        s = shaped();
        s.remove(1);
        due("it went", s.back(0), BAD);
        s.net(2);
        due("a new one is another", s.back(0), BAD);
        s = shaped();
        s.function(2);
        s.take(0, 0, 9);
        s.least(0);
        s.remove(0);
        dueBack("functions came and went", s, true);
    }

    /** Whatever was read ahead of the SHAPING is read again behind it and its undoing. */
    private static void backToTheSame() {
        sentence("A net is as it was ahead of the latest SHAPING");
        Scene scene = Scenes.plenty().then("back", 0);
        for (int net = 0; net < 4; net++) {
            LogicSmith before = scene.made();
            LogicSmith after = scene.made();
            int steps = after.shape(net);
            due("undone, net " + net, after.back(net), steps);
            for (int i = 0; i < 6; i++) {
                due("output " + i + " of " + net, after.output(net, i), before.output(net, i));
            }
            for (int g = 0; g < 7; g++) {
                for (int what = 0; what < 5; what++) {
                    due("gate " + g + " of " + net + ", " + what, after.told(net, g, what), before.told(net, g, what));
                }
            }
        }
    }

    private static void weights() {
        sentence("how many gates an output is, or reads, through however many");
        LogicSmith s = ofGates(1);
        for (int g = 0; g < 40; g++) {
            due("not told, " + g, s.weight(0), 0);
            s.gate(0, 5, g == 0 ? 0 : 7 + g, 0);
        }
        for (int g = 0; g < 40; g++) {
            s.out(0, g % 6, 8 + g);
            due("the chain up to gate " + g, s.weight(0), g + 1);
        }
        for (int i = 0; i < 6; i++) {
            s.out(0, i, i % 2 - 2);
        }
        due("constants", s.weight(0), 0);
        s.out(0, 3, 0);
        due("a letter", s.weight(0), 0);
        s.out(0, 3, 8);
        due("the first gate, whatever reads it", s.weight(0), 1);
        s = ofGates(2, new int[] {8, 0, 1}, new int[] {8, 0, 8}, new int[] {8, 9, 9}, new int[] {8, 8, 8});
        s.out(0, 0, 11);
        due("as x and y, once; and not what reads the same", s.weight(0), 2);
        s.out(0, 5, 11);
        due("twice an output, once", s.weight(0), 2);
    }

    private static void counts() {
        LogicSmith s = sentence("How many: 0 functions, 1 nets, 2 STEPS of the latest SHAPING. BAD: another what");
        for (int i = 0; i < 17; i++) {
            due("functions", s.count(0), Math.min(16, i));
            due("nets", s.count(1), Math.min(8, i));
            due("no steps", s.count(2), 0);
            s.function(1);
            s.net(1);
        }
        for (int what : new int[] {LOW, -2, -1, 3, 4, HIGH}) {
            due("what " + what, s.count(what), BAD);
        }
    }

    /** "An object is used for at most 512 calls": the last one is answered as the first. */
    private static void lastCall() {
        LogicSmith s = sentence("at most 512 calls after it has been made");
        s.net(1);
        s.gate(0, 10, 0, 0);
        s.out(0, 0, 8);
        for (int i = 3; i < 511; i += 2) {
            due("call " + (i + 1), s.shape(0), 1);
            due("call " + (i + 2), s.back(0), 1);
        }
        due("the last call", s.shape(0), 1);
        s = new LogicSmith();
        s.function(5);
        for (int i = 1; i < 512; i += 3) {
            due("call " + (i + 1), s.bits(0, 0, 0x96696996 ^ -(i & 1), 32), 32);
            due("call " + (i + 2), s.least(0), 16);
            due("call " + (i + 3), s.order(0), 0);
        }
    }

    private static void ownMemory() {
        sentence("All memory is the class's own");
        LogicSmith s = Scenes.plenty().made();
        int first = s.summed(0);
        int letters = s.letters();
        LogicSmith other = Scenes.full().made();
        other.least(4);
        other.shape(1);
        other.remove(1);
        due("another's sum has other letters", other.letters() == letters ? 1 : 0, 0);
        due("the sum found last", s.summed(0), first);
        due("its letters", s.letters(), letters);
        due("the steps", s.count(2), 5);
        due("functions", s.count(0), 7);
        due("nets", s.count(1), 4);
        due("what is undone", s.back(0), 5);
        due("outputs", s.output(0, 0), 13);
    }

    public static void main(String[] args) {
        newNets();
        operandsOfGates();
        tables();
        keeps();
        toldEdges();
        outputs();
        sameNets();
        partedNets();
        comesAndCared();
        oneRowAlone();
        rulesInOrder();
        twinsAtAllRows();
        rulesAtWhatIsCaredFor();
        readInstead();
        readTheTwinInstead();
        neverOther();
        stepsDoneByHand();
        readAndKept();
        shapingAtItsEnds();
        steps();
        backs();
        backsBehindGates();
        backsBehindOutputs();
        backsOfOthers();
        backToTheSame();
        weights();
        counts();
        lastCall();
        ownMemory();
        DUE.end();
    }
}
