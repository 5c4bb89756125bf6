import java.util.Arrays;

/** A smithy for logic: functions with free places, graphs of choices, and nets of gates of two letters. */
public final class LogicSmith {
    public static final int BAD = -1, MANY = -2, FULL = -3, MISSING = -11, ENDED = -12;

    private static final int FUNCTIONS = 16, NETS = 8, LETTERS = 8, GATES = 40, OUTPUTS = 6;
    private static final int SUM_LETTERS = 5, GRAPH_LETTERS = 6;
    private static final int FREE = 2;
    private static final int ALWAYS_0 = -1, ALWAYS_1 = -2, NOT_TOLD = -3, FIRST_GATE = 8;
    private static final int NO_OUTPUT = -4, NO_DIFFERENCE = -5, NO_STEP = -9;

    /** Bit r of word k: letter k at row r. Rows from 64 on are told by which word they stand in. */
    private static final long[] LETTER = {
        0xAAAAAAAAAAAAAAAAL, 0xCCCCCCCCCCCCCCCCL, 0xF0F0F0F0F0F0F0F0L,
        0xFF00FF00FF00FF00L, 0xFFFF0000FFFF0000L, 0xFFFFFFFF00000000L
    };

    private final Table[] functions = new Table[FUNCTIONS];
    private final Net[] nets = new Net[NETS];
    private final Products products = new Products();
    private final Cover cover = new Cover();
    private final Choices choices = new Choices();
    private final Values values = new Values();
    private final Values others = new Values();
    private final Turning turning = new Turning();
    private final Shaping shaping = new Shaping();
    private int functionCount = 0;
    private int netCount = 0;

    public LogicSmith() {
        for (int i = 0; i < FUNCTIONS; i++) {
            functions[i] = new Table();
        }
        for (int i = 0; i < NETS; i++) {
            nets[i] = new Net();
        }
    }

    // ---- functions

    public int function(int n) {
        if (n < 1 || n > LETTERS) {
            return BAD;
        }
        if (functionCount >= FUNCTIONS) {
            return FULL;
        }
        functions[functionCount].begin(n);
        functionCount++;
        return functionCount - 1;
    }

    public int put(int f, int row, int v) {
        if (!isFunctionRow(f, row) || v < 0 || v > FREE) {
            return BAD;
        }
        Table table = functions[f];
        int lack = table.lackAt(row);
        if (lack != 0) {
            return lack;
        }
        int held = table.heldAt(row);
        table.hold(row, v);
        return held;
    }

    public int bits(int f, int row, int word, int n) {
        if (!isFunctionRow(f, row) || n < 1 || n > 32 || n > functions[f].rowCount() - row) {
            return BAD;
        }
        Table table = functions[f];
        for (int i = 0; i < n; i++) {
            int lack = table.lackAt(row + i);
            if (lack != 0) {
                return lack;
            }
        }
        for (int i = 0; i < n; i++) {
            table.hold(row + i, word >>> i & 1);
        }
        return n;
    }

    public int tear(int f, int sheet, int left) {
        if (!isFunction(f) || sheet < 0 || sheet >= functions[f].sheetCount()
            || left < 0 || left > functions[f].sheetSize()) {
            return BAD;
        }
        return functions[f].leave(sheet, left);
    }

    public int at(int f, int row) {
        return isFunctionRow(f, row) ? functions[f].heldAt(row) : BAD;
    }

    public int places(int f, int what) {
        return isFunction(f) && what >= 0 && what <= 3 ? functions[f].countOf(what) : BAD;
    }

    public int take(int f, int net, int operand) {
        if (!isFunction(f) || !isOperand(net, operand) || functions[f].width != nets[net].width) {
            return BAD;
        }
        values.workOut(nets[net]);
        functions[f].become(values, operand);
        return functions[f].countOf(1);
    }

    public int primes(int f) {
        if (!isFunction(f)) {
            return BAD;
        }
        products.workOut(functions[f]);
        return products.primeCount();
    }

    public int prime(int f, int k) {
        if (!isFunction(f)) {
            return BAD;
        }
        products.workOut(functions[f]);
        return products.primeNumber(k);
    }

    public int least(int f) {
        if (!isFunction(f)) {
            return BAD;
        }
        if (functions[f].width > SUM_LETTERS) {
            return MANY;
        }
        products.workOut(functions[f]);
        cover.find(functions[f], products);
        return cover.sumSize;
    }

    public int summed(int k) {
        return k >= 0 && k < cover.sumSize ? cover.sum[k] : BAD;
    }

    public int letters() {
        return cover.sumLetters;
    }

    public int graph(int f, int order) {
        if (!isFunction(f)) {
            return BAD;
        }
        int n = functions[f].width;
        if (n > GRAPH_LETTERS) {
            return MANY;
        }
        if (order < 0 || order >= Choices.WAYS[n]) {
            return BAD;
        }
        return choices.nodesInOrder(functions[f].firstOnes(), n, order);
    }

    public int order(int f) {
        if (!isFunction(f)) {
            return BAD;
        }
        if (functions[f].width > GRAPH_LETTERS) {
            return MANY;
        }
        return choices.smallestOrder(functions[f].firstOnes(), functions[f].width);
    }

    // ---- nets

    public int net(int n) {
        if (n < 1 || n > LETTERS) {
            return BAD;
        }
        if (netCount >= NETS) {
            return FULL;
        }
        nets[netCount].begin(n);
        netCount++;
        return netCount - 1;
    }

    public int gate(int net, int table, int x, int y) {
        if (!isOperand(net, x) || !isOperand(net, y) || table < 0 || table > 15) {
            return BAD;
        }
        if (nets[net].gateCount >= GATES) {
            return FULL;
        }
        shaping.noteChange(net);
        return nets[net].addGate(table, x, y);
    }

    public int keep(int net, int g, int v) {
        if (!isGate(net, g) || v < 0 || v > 1) {
            return BAD;
        }
        int was = nets[net].kept[g] ? 1 : 0;
        if (was != v) {
            nets[net].kept[g] = v == 1;
            shaping.noteChange(net);
        }
        return was;
    }

    public int out(int net, int i, int operand) {
        if (!isNet(net) || i < 0 || i >= OUTPUTS || operand != NOT_TOLD && !isOperand(net, operand)) {
            return BAD;
        }
        if (nets[net].outputs[i] != operand) {
            nets[net].outputs[i] = operand;
            shaping.noteChange(net);
        }
        return 0;
    }

    public int told(int net, int g, int what) {
        if (!isGate(net, g)) {
            return BAD;
        }
        switch (what) {
            case 0:
                return nets[net].table[g];
            case 1:
                return nets[net].x[g];
            case 2:
                return nets[net].y[g];
            case 3:
                return Net.has(nets[net].readOperands(), FIRST_GATE + g) ? 1 : 0;
            case 4:
                return nets[net].kept[g] ? 1 : 0;
            default:
                return BAD;
        }
    }

    public int output(int net, int i) {
        return isNet(net) && i >= 0 && i < OUTPUTS ? nets[net].outputs[i] : NO_OUTPUT;
    }

    public int value(int net, int operand, int row) {
        if (!isOperand(net, operand) || row < 0 || row >= 1 << nets[net].width) {
            return BAD;
        }
        values.workOut(nets[net]);
        return (int) (values.word(operand, row >> 6) >>> (row & 63)) & 1;
    }

    public int same(int a, int b) {
        if (!isNet(a) || !isNet(b)) {
            return BAD;
        }
        if (nets[a].width != nets[b].width) {
            return 0;
        }
        for (int i = 0; i < OUTPUTS; i++) {
            if ((nets[a].outputs[i] == NOT_TOLD) != (nets[b].outputs[i] == NOT_TOLD)) {
                return 0;
            }
        }
        return firstDifference(nets[a], nets[b]) == NO_DIFFERENCE ? 1 : 0;
    }

    public int parts(int a, int b) {
        if (!isNet(a) || !isNet(b)) {
            return BAD;
        }
        return nets[a].width == nets[b].width ? firstDifference(nets[a], nets[b]) : MANY;
    }

    public int comes(int net, int g) {
        if (!isGate(net, g)) {
            return BAD;
        }
        values.workOut(nets[net]);
        return values.comingTo(nets[net], g);
    }

    public int cared(int net, int g) {
        if (!isGate(net, g)) {
            return BAD;
        }
        values.workOut(nets[net]);
        turning.turn(nets[net], values, g);
        return turning.caredFor(nets[net], values, g);
    }

    public int shape(int net) {
        if (!isNet(net)) {
            return BAD;
        }
        shaping.begin(net, nets[net]);
        boolean more = true;
        for (int i = 0; more && i < Shaping.MOST_STEPS; i++) {
            more = shapeOnce(nets[net]);
        }
        return shaping.size;
    }

    public int step(int i, int what) {
        if (i < 0 || i >= shaping.size) {
            return NO_STEP;
        }
        switch (what) {
            case 0:
                return shaping.gateOf(i);
            case 1:
                return shaping.ruleOf(i);
            case 2:
                return shaping.operandOf(i);
            default:
                return NO_STEP;
        }
    }

    public int back(int net) {
        if (!isNet(net) || shaping.undoable != net) {
            return BAD;
        }
        shaping.undo(nets[net]);
        return shaping.size;
    }

    public int weight(int net) {
        return isNet(net) ? nets[net].reachedGates() : BAD;
    }

    public int count(int what) {
        switch (what) {
            case 0:
                return functionCount;
            case 1:
                return netCount;
            case 2:
                return shaping.size;
            default:
                return BAD;
        }
    }

    public int remove(int kind) {
        if (kind == 0 && functionCount > 0) {
            functionCount--;
            return functionCount;
        }
        if (kind == 1 && netCount > 0) {
            netCount--;
            // A later net of the same number is not the one that was shaped.
            shaping.noteChange(netCount);
            return netCount;
        }
        return BAD;
    }

    private boolean isFunction(int f) {
        return f >= 0 && f < functionCount;
    }

    private boolean isFunctionRow(int f, int row) {
        return isFunction(f) && row >= 0 && row < functions[f].rowCount();
    }

    private boolean isNet(int net) {
        return net >= 0 && net < netCount;
    }

    private boolean isGate(int net, int g) {
        return isNet(net) && g >= 0 && g < nets[net].gateCount;
    }

    private boolean isOperand(int net, int operand) {
        return isNet(net) && nets[net].knows(operand);
    }

    /** The answer of 'parts' for two nets of the same letters. */
    private int firstDifference(Net a, Net b) {
        values.workOut(a);
        others.workOut(b);
        for (int w = 0; w < values.wordCount; w++) {
            long parted = 0;
            for (int i = 0; i < OUTPUTS; i++) {
                parted |= differenceAt(a, b, i, w);
            }
            if (parted != 0) {
                long first = parted & -parted;
                int i = 0;
                while (i < OUTPUTS - 1 && (differenceAt(a, b, i, w) & first) == 0) {
                    i++;
                }
                return 8 * (64 * w + Long.bitCount(first - 1)) + i;
            }
        }
        return NO_DIFFERENCE;
    }

    private long differenceAt(Net a, Net b, int i, int w) {
        if (a.outputs[i] == NOT_TOLD || b.outputs[i] == NOT_TOLD) {
            return 0;
        }
        return values.word(a.outputs[i], w) ^ others.word(b.outputs[i], w);
    }

    /** Does the first STEP that there is, and tells whether there was one. */
    private boolean shapeOnce(Net net) {
        values.workOut(net);
        long read = net.readOperands();
        for (int g = 0; g < net.gateCount; g++) {
            if (!net.kept[g] && Net.has(read, FIRST_GATE + g)) {
                int rule = ruleFor(net, g);
                if (rule >= 0) {
                    int instead = operandInstead(net, g, rule);
                    shaping.note(g, rule, instead);
                    net.readInstead(FIRST_GATE + g, instead);
                    return true;
                }
            }
        }
        return false;
    }

    /** The first RULE that holds for a gate, or -1. */
    private int ruleFor(Net net, int g) {
        turning.turn(net, values, g);
        int care = turning.caredFor(net, values, g);
        for (int rule = 0; rule < Shaping.RULE_TABLE.length; rule++) {
            if (((net.table[g] ^ Shaping.RULE_TABLE[rule]) & care) == 0) {
                return rule;
            }
        }
        return values.firstTwin(g) < g ? Shaping.TWIN_RULE : -1;
    }

    private int operandInstead(Net net, int g, int rule) {
        switch (rule) {
            case 0:
                return ALWAYS_0;
            case 1:
                return ALWAYS_1;
            case 2:
                return net.x[g];
            case 3:
                return net.y[g];
            default:
                return FIRST_GATE + values.firstTwin(g);
        }
    }

    /** A function: its places, sheet by sheet. */
    private static final class Table {
        static final int SHEETS = 32;

        // Bits behind the places that a sheet has stay 0 in both rows, so places that come anew hold 0.
        final int[] one = new int[SHEETS];
        final int[] free = new int[SHEETS];
        final int[] left = new int[SHEETS];
        int width = 1;

        void begin(int n) {
            width = n;
            Arrays.fill(one, 0);
            Arrays.fill(free, 0);
            Arrays.fill(left, sheetSize());
        }

        int rowCount() {
            return 1 << width;
        }

        int sheetSize() {
            return Math.min(8, rowCount());
        }

        int sheetCount() {
            return Math.max(1, rowCount() >> 3);
        }

        /** MISSING or ENDED if the place of a row is not there, else 0. */
        int lackAt(int row) {
            int has = left[row >> 3];
            if (has == 0) {
                return MISSING;
            }
            return (row & 7) < has ? 0 : ENDED;
        }

        int heldAt(int row) {
            int sheet = row >> 3;
            int place = row & 7;
            if (place >= left[sheet] || (free[sheet] >> place & 1) != 0) {
                return FREE;
            }
            return one[sheet] >> place & 1;
        }

        void hold(int row, int v) {
            int sheet = row >> 3;
            int bit = 1 << (row & 7);
            one[sheet] &= ~bit;
            free[sheet] &= ~bit;
            if (v == 1) {
                one[sheet] |= bit;
            } else if (v == FREE) {
                free[sheet] |= bit;
            }
        }

        int leave(int sheet, int count) {
            int had = left[sheet];
            left[sheet] = count;
            one[sheet] &= allOf(count);
            free[sheet] &= allOf(count);
            return had;
        }

        /** How many places: 0, 1, 2 what they hold, 3 that are not there. */
        int countOf(int what) {
            int ones = 0;
            int frees = 0;
            int there = 0;
            for (int s = 0; s < sheetCount(); s++) {
                ones += Integer.bitCount(one[s]);
                frees += Integer.bitCount(free[s]);
                there += left[s];
            }
            int gone = rowCount() - there;
            switch (what) {
                case 0:
                    return there - ones - frees;
                case 1:
                    return ones;
                case 2:
                    return frees + gone;
                default:
                    return gone;
            }
        }

        void become(Values from, int operand) {
            for (int s = 0; s < sheetCount(); s++) {
                one[s] = (int) (from.word(operand, s >> 3) >>> 8 * (s & 7)) & allOf(sheetSize());
                free[s] = 0;
                left[s] = sheetSize();
            }
        }

        /** The places of a sheet that are not 0, as bits. */
        int notZero(int sheet) {
            return one[sheet] | free[sheet] | allOf(sheetSize()) & ~allOf(left[sheet]);
        }

        /** Of the first 64 rows those whose place is 1, as bits. */
        long firstOnes() {
            long word = 0;
            for (int s = 0; s < 8 && s < sheetCount(); s++) {
                word |= (long) one[s] << 8 * s;
            }
            return word;
        }

        private static int allOf(int count) {
            return (1 << count) - 1;
        }
    }

    /**
     * All products of a function at once. A product's NUMBER is 27 q and p: bit p of word q stands for it, so that
     * the three lowest letters, whose places make a sheet, are worked out by shifts within a word.
     */
    private static final class Products {
        static final int WORDS = 243, WORD_SIZE = 27, WORD_LETTERS = 3;
        /** The number of the product that tells all of three letters, by their row. */
        private static final int[] ROW_NUMBER = {0, 1, 3, 4, 9, 10, 12, 13};
        private static final int[] POWER = {1, 3, 9, 27, 81, 243};
        /** The bits p whose product leaves out letter 0, 1, 2: the last third of each 3, 9, 27. */
        private static final int[] LEFT_OUT = {0x4924924, 0x70381C0, 0x7FC0000};

        /** Products that hold only at places that are not 0. */
        final int[] fit = new int[WORDS];
        /** Of those, the ones that would still fit with a letter left out besides. */
        final int[] wider = new int[WORDS];
        int wordCount = 0;

        void workOut(Table f) {
            int low = Math.min(f.width, WORD_LETTERS);
            int high = f.width - low;
            wordCount = POWER[high];
            for (int s = 0; s < f.sheetCount(); s++) {
                int q = ROW_NUMBER[s & 7] + WORD_SIZE * ROW_NUMBER[s >> 3];
                fit[q] = fitWithin(f.notZero(s), low);
            }
            for (int k = 0; k < high; k++) {
                fitLeavingOut(k);
            }
            for (int q = 0; q < wordCount; q++) {
                wider[q] = widerWithin(fit[q], low);
            }
            for (int k = 0; k < high; k++) {
                widerLeavingOut(k);
            }
        }

        int primeCount() {
            int primes = 0;
            for (int q = 0; q < wordCount; q++) {
                primes += Integer.bitCount(fit[q] & ~wider[q]);
            }
            return primes;
        }

        /** The NUMBER of prime k, or BAD. */
        int primeNumber(int k) {
            if (k < 0) {
                return BAD;
            }
            int behind = k;
            for (int q = 0; q < wordCount; q++) {
                int word = fit[q] & ~wider[q];
                int here = Integer.bitCount(word);
                if (behind < here) {
                    return WORD_SIZE * q + placeOfBit(word, behind);
                }
                behind -= here;
            }
            return BAD;
        }

        private static int placeOfBit(int word, int skipped) {
            int rest = word;
            for (int i = 0; i < skipped; i++) {
                rest &= rest - 1;
            }
            return Integer.bitCount((rest & -rest) - 1);
        }

        private static int fitWithin(int places, int low) {
            int word = 0;
            for (int i = 0; i < 8; i++) {
                word |= (places >> i & 1) << ROW_NUMBER[i];
            }
            for (int k = 0; k < low; k++) {
                word |= word << POWER[k] & word << 2 * POWER[k] & LEFT_OUT[k];
            }
            return word;
        }

        private static int widerWithin(int word, int low) {
            int wide = 0;
            for (int k = 0; k < low; k++) {
                int without = word & LEFT_OUT[k];
                wide |= without >> POWER[k] | without >> 2 * POWER[k];
            }
            return wide;
        }

        // Words that leave out a later letter as well are not right yet, and are worked out anew at that letter.
        private void fitLeavingOut(int k) {
            int power = POWER[k];
            for (int first = 2 * power; first < wordCount; first += POWER[k + 1]) {
                for (int q = first; q < first + power; q++) {
                    fit[q] = fit[q - power] & fit[q - 2 * power];
                }
            }
        }

        private void widerLeavingOut(int k) {
            int power = POWER[k];
            for (int first = 2 * power; first < wordCount; first += POWER[k + 1]) {
                for (int q = first; q < first + power; q++) {
                    wider[q - power] |= fit[q];
                    wider[q - 2 * power] |= fit[q];
                }
            }
        }
    }

    /**
     * The search for the LEAST sum. A prime has a price, such that the sum of prices is the less, the earlier a set
     * comes: first by how many primes there are, then by their letters, then by their NUMBERS. No two sets have the
     * same price, so a prime may be forgotten if a cheaper one holds wherever it is needed. Sets of primes are kept
     * as bits of a long, sets of rows as bits of an int.
     */
    private static final class Cover {
        /**
         * A function of 4 letters has at most 13 primes; of 5, at most 3 * 13: with the fifth letter 0, 1, or left
         * out, what they tell of the others is a prime of what is left of the function (of both halves together).
         */
        static final int MOST_PRIMES = 40, ROWS = 32;
        private static final long PER_LETTER = 1L << MOST_PRIMES, PER_PRIME = 1L << 50, TOO_DEAR = 1L << 60;

        final int[] sum = new int[MOST_PRIMES];
        int sumSize = 0;
        int sumLetters = 0;

        private final int[] number = new int[MOST_PRIMES];
        private final int[] told = new int[MOST_PRIMES];
        private final int[] rows = new int[MOST_PRIMES];
        private final long[] price = new long[MOST_PRIMES];
        private final long[] cheaper = new long[MOST_PRIMES];
        private final long[] primesAt = new long[ROWS];
        private int primeCount = 0;
        private long bestPrice = 0;
        private long bestSet = 0;

        void find(Table f, Products products) {
            gather(f, products);
            compare();
            bestPrice = TOO_DEAR;
            bestSet = 0;
            search((int) f.firstOnes(), (1L << primeCount) - 1, 0, 0, 0);
            sumSize = 0;
            sumLetters = 0;
            for (int p = 0; p < primeCount; p++) {
                if ((bestSet >> p & 1) != 0) {
                    sum[sumSize] = number[p];
                    sumSize++;
                    sumLetters += told[p];
                }
            }
        }

        private void gather(Table f, Products products) {
            primeCount = Math.min(products.primeCount(), MOST_PRIMES);
            for (int p = 0; p < primeCount; p++) {
                number[p] = products.primeNumber(p);
                told[p] = 0;
                long at = (1L << f.rowCount()) - 1;
                int rest = number[p];
                for (int k = 0; k < f.width && k < SUM_LETTERS; k++) {
                    int digit = rest % 3;
                    rest /= 3;
                    if (digit != 2) {
                        told[p]++;
                        at &= digit == 1 ? LETTER[k] : ~LETTER[k];
                    }
                }
                rows[p] = (int) at;
                // Of two sets of as many primes, the one with the first prime that is not in both comes first.
                price[p] = PER_PRIME + told[p] * PER_LETTER - (1L << MOST_PRIMES - 1 - p);
            }
        }

        private void compare() {
            Arrays.fill(primesAt, 0);
            for (int p = 0; p < primeCount; p++) {
                cheaper[p] = 0;
                for (int other = 0; other < primeCount; other++) {
                    if (price[other] < price[p]) {
                        cheaper[p] |= 1L << other;
                    }
                }
                for (int row = 0; row < ROWS; row++) {
                    primesAt[row] |= (long) (rows[p] >> row & 1) << p;
                }
            }
        }

        /** Tries all sums that hold 'taken', and, besides, primes of 'open' for the rows that are in need. */
        private void search(int need, long open, long taken, long paid, int depth) {
            if (need == 0) {
                if (paid < bestPrice) {
                    bestPrice = paid;
                    bestSet = taken;
                }
                return;
            }
            long worth = undominated(need, open);
            // Each level takes a row out of need, so the depth is never met.
            if (depth >= ROWS || paid + leastPrice(need, worth) >= bestPrice) {
                return;
            }
            long choice = primesAt[tightestRow(need, worth)];
            for (int p = 0; p < primeCount; p++) {
                if ((choice & worth) >> p == 0) {
                    return;
                }
                if (((choice & worth) >> p & 1) != 0) {
                    // What is tried without this prime need not be tried with it again.
                    worth &= ~(1L << p);
                    search(need & ~rows[p], worth, taken | 1L << p, paid + price[p], depth + 1);
                }
            }
        }

        /** The open primes without those for which a cheaper one holds at all rows in need that they hold at. */
        private long undominated(int need, long open) {
            long worth = open;
            for (int p = 0; p < primeCount; p++) {
                if ((worth >> p & 1) != 0) {
                    long better = worth & cheaper[p];
                    int useful = need & rows[p];
                    for (int row = 0; better != 0 && row < ROWS; row++) {
                        if ((useful >> row & 1) != 0) {
                            better &= primesAt[row];
                        }
                    }
                    if (better != 0 || useful == 0) {
                        worth &= ~(1L << p);
                    }
                }
            }
            return worth;
        }

        /** A price that no sum for the rows in need is below: rows of which no prime has two are paid each alone. */
        private long leastPrice(int need, long open) {
            long total = 0;
            int rest = need;
            for (int i = 0; i < ROWS && rest != 0; i++) {
                long choice = primesAt[tightestRow(rest, open)] & open;
                if (choice == 0) {
                    return TOO_DEAR;
                }
                long cheapest = TOO_DEAR;
                for (int p = 0; p < primeCount; p++) {
                    if ((choice >> p & 1) != 0) {
                        cheapest = Math.min(cheapest, price[p]);
                        rest &= ~rows[p];
                    }
                }
                total += cheapest;
            }
            return total;
        }

        /** Of the rows in need the first that has the fewest primes. */
        private int tightestRow(int need, long open) {
            int best = 0;
            int fewest = MOST_PRIMES + 1;
            for (int row = 0; row < ROWS; row++) {
                if ((need >> row & 1) != 0) {
                    int primes = Long.bitCount(primesAt[row] & open);
                    if (primes < fewest) {
                        fewest = primes;
                        best = row;
                    }
                }
            }
            return best;
        }
    }

    /**
     * GRAPHS. How many NODES there are of a letter hangs only on which letters are told ahead of it, not on their
     * order: so the best order is found over the sets of letters.
     */
    private static final class Choices {
        /** How many orders n letters have. */
        static final int[] WAYS = {1, 1, 2, 6, 24, 120, 720};
        private static final int SETS = 64;
        /** More NODES than a graph of six letters can have, which are 1 + 2 + 4 + 8 + 16 + 32 at most. */
        private static final int TOO_MANY = 64;

        private final long[] seen = new long[SETS];
        private final int[] fewest = new int[SETS];
        private final int[] firstLetter = new int[SETS];

        int nodesInOrder(long ones, int n, int order) {
            int nodes = 0;
            int told = 0;
            int rest = order;
            for (int k = 0; k < n; k++) {
                int ways = WAYS[n - 1 - k];
                int letter = letterAt(told, n, rest, ways);
                rest -= lesserUntold(told, letter) * ways;
                nodes += nodesOf(ones, n, told, letter);
                told |= 1 << letter;
            }
            return nodes;
        }

        int smallestOrder(long ones, int n) {
            int all = (1 << n) - 1;
            fewest[all] = 0;
            for (int told = all - 1; told >= 0; told--) {
                chooseLetter(ones, n, told);
            }
            int order = 0;
            int told = 0;
            for (int k = 0; k < n; k++) {
                int letter = firstLetter[told];
                order += lesserUntold(told, letter) * WAYS[n - 1 - k];
                told |= 1 << letter;
            }
            return order;
        }

        private void chooseLetter(long ones, int n, int told) {
            fewest[told] = TOO_MANY;
            for (int letter = 0; letter < n; letter++) {
                if ((told >> letter & 1) == 0) {
                    int nodes = nodesOf(ones, n, told, letter) + fewest[told | 1 << letter];
                    if (nodes < fewest[told]) {
                        fewest[told] = nodes;
                        firstLetter[told] = letter;
                    }
                }
            }
        }

        /** The letter that comes next in an order, each choice of it standing for as many orders as 'ways' tells. */
        private static int letterAt(int told, int n, int order, int ways) {
            int letter = 0;
            while (letter < n - 1 && ((told >> letter & 1) != 0 || (lesserUntold(told, letter) + 1) * ways <= order)) {
                letter++;
            }
            return letter;
        }

        private static int lesserUntold(int told, int letter) {
            return Integer.bitCount(~told & (1 << letter) - 1);
        }

        /** The NODES of a letter, a set of letters being told ahead of it. */
        private int nodesOf(long ones, int n, int told, int letter) {
            long others = -1L;
            for (int k = 0; k < n; k++) {
                if ((told >> k & 1) != 0) {
                    others &= ~LETTER[k];
                }
            }
            int nodes = 0;
            for (int way = 0; way < 1 << n; way++) {
                if ((way & ~told) == 0) {
                    long remains = ones >>> way & others;
                    if (hangsOn(remains, letter) && !isSeen(remains, nodes)) {
                        seen[nodes] = remains;
                        nodes++;
                    }
                }
            }
            return nodes;
        }

        private static boolean hangsOn(long table, int letter) {
            return ((table >>> (1 << letter) ^ table) & ~LETTER[letter]) != 0;
        }

        private boolean isSeen(long table, int count) {
            for (int i = 0; i < count; i++) {
                if (seen[i] == table) {
                    return true;
                }
            }
            return false;
        }
    }

    /** A net as it is told. Sets of operands are kept as bits, operand -2 being the lowest. */
    private static final class Net {
        final int[] table = new int[GATES];
        final int[] x = new int[GATES];
        final int[] y = new int[GATES];
        final boolean[] kept = new boolean[GATES];
        final int[] outputs = new int[OUTPUTS];
        int width = 1;
        int gateCount = 0;

        void begin(int n) {
            width = n;
            gateCount = 0;
            Arrays.fill(outputs, NOT_TOLD);
        }

        boolean knows(int operand) {
            if (operand >= FIRST_GATE) {
                return operand - FIRST_GATE < gateCount;
            }
            return operand >= ALWAYS_1 && operand < width;
        }

        int addGate(int newTable, int newX, int newY) {
            int g = gateCount;
            table[g] = newTable;
            x[g] = newX;
            y[g] = newY;
            kept[g] = false;
            gateCount++;
            return g;
        }

        static boolean has(long set, int operand) {
            return (set >> operand - ALWAYS_1 & 1) != 0;
        }

        static long bitOf(int operand) {
            return 1L << operand - ALWAYS_1;
        }

        long readOperands() {
            long read = outputOperands();
            for (int g = 0; g < gateCount; g++) {
                read |= bitOf(x[g]) | bitOf(y[g]);
            }
            return read;
        }

        int reachedGates() {
            long reached = outputOperands();
            for (int g = gateCount - 1; g >= 0; g--) {
                if (has(reached, FIRST_GATE + g)) {
                    reached |= bitOf(x[g]) | bitOf(y[g]);
                }
            }
            return Long.bitCount(reached & -bitOf(FIRST_GATE));
        }

        void readInstead(int operand, int instead) {
            for (int g = 0; g < gateCount; g++) {
                if (x[g] == operand) {
                    x[g] = instead;
                }
                if (y[g] == operand) {
                    y[g] = instead;
                }
            }
            for (int i = 0; i < OUTPUTS; i++) {
                if (outputs[i] == operand) {
                    outputs[i] = instead;
                }
            }
        }

        private long outputOperands() {
            long set = 0;
            for (int i = 0; i < OUTPUTS; i++) {
                if (outputs[i] != NOT_TOLD) {
                    set |= bitOf(outputs[i]);
                }
            }
            return set;
        }
    }

    /**
     * What each operand of a net is at all rows, as bits. A net of fewer than 6 letters has its rows again and again
     * in the word, which changes no answer.
     */
    private static final class Values {
        static final int MOST_WORDS = 4;
        private static final int OPERANDS = FIRST_GATE + GATES - ALWAYS_1;

        final long[] words = new long[OPERANDS * MOST_WORDS];
        int wordCount = 1;

        /** Where the words of an operand begin. */
        static int start(int operand) {
            return (operand - ALWAYS_1) * MOST_WORDS;
        }

        static long gateWord(int table, long x, long y) {
            return -(table & 1L) & ~x & ~y | -(table >> 1 & 1L) & x & ~y
                | -(table >> 2 & 1L) & ~x & y | -(table >> 3 & 1L) & x & y;
        }

        long word(int operand, int w) {
            return words[(operand - ALWAYS_1) * MOST_WORDS + w];
        }

        void workOut(Net net) {
            wordCount = 1 << Math.max(0, net.width - LETTER.length);
            for (int w = 0; w < wordCount; w++) {
                words[start(ALWAYS_0) + w] = 0;
                words[start(ALWAYS_1) + w] = -1L;
                for (int k = 0; k < net.width; k++) {
                    words[start(k) + w] = k < LETTER.length ? LETTER[k] : -(w >> k - LETTER.length & 1L);
                }
                for (int g = 0; g < net.gateCount; g++) {
                    words[start(FIRST_GATE + g) + w] = gateWord(net.table[g], word(net.x[g], w), word(net.y[g], w));
                }
            }
        }

        /** What COMES to a gate. */
        int comingTo(Net net, int g) {
            int coming = 0;
            for (int w = 0; w < wordCount; w++) {
                coming |= comingAt(net, g, w, -1L);
            }
            return coming;
        }

        /** What comes to a gate at some of the rows of a word. */
        int comingAt(Net net, int g, int w, long rows) {
            long x = word(net.x[g], w);
            long y = word(net.y[g], w);
            return ((rows & ~x & ~y) != 0 ? 1 : 0) | ((rows & x & ~y) != 0 ? 2 : 0)
                | ((rows & ~x & y) != 0 ? 4 : 0) | ((rows & x & y) != 0 ? 8 : 0);
        }

        /** The first gate that is the same as gate g at all rows: g itself, if there is none ahead of it. */
        int firstTwin(int g) {
            for (int h = 0; h < g; h++) {
                if (isTwin(FIRST_GATE + h, FIRST_GATE + g)) {
                    return h;
                }
            }
            return g;
        }

        private boolean isTwin(int a, int b) {
            for (int w = 0; w < wordCount; w++) {
                if (word(a, w) != word(b, w)) {
                    return false;
                }
            }
            return true;
        }
    }

    /** What becomes of a net's operands when one gate is turned at all rows: rows do not meddle with one another. */
    private static final class Turning {
        private final long[] words = new long[Values.OPERANDS * Values.MOST_WORDS];
        /** The operands that are other than they were, somewhere: for the rest, the words here are stale. */
        private long changed = 0;

        /** Turns a gate of a net whose values are worked out. */
        void turn(Net net, Values values, int g) {
            int start = Values.start(FIRST_GATE + g);
            for (int w = 0; w < values.wordCount; w++) {
                words[start + w] = ~values.word(FIRST_GATE + g, w);
            }
            changed = Net.bitOf(FIRST_GATE + g);
            for (int h = g + 1; h < net.gateCount; h++) {
                if (Net.has(changed, net.x[h]) || Net.has(changed, net.y[h])) {
                    workAnew(net, values, h);
                }
            }
        }

        /** What is CARED for at the gate that was turned. */
        int caredFor(Net net, Values values, int g) {
            int care = 0;
            for (int w = 0; w < values.wordCount; w++) {
                long parted = 0;
                for (int i = 0; i < OUTPUTS; i++) {
                    int operand = net.outputs[i];
                    if (operand != NOT_TOLD) {
                        parted |= word(values, operand, w) ^ values.word(operand, w);
                    }
                }
                care |= values.comingAt(net, g, w, parted);
            }
            return care;
        }

        private void workAnew(Net net, Values values, int h) {
            int operand = FIRST_GATE + h;
            int start = Values.start(operand);
            long parted = 0;
            for (int w = 0; w < values.wordCount; w++) {
                long x = word(values, net.x[h], w);
                long y = word(values, net.y[h], w);
                words[start + w] = Values.gateWord(net.table[h], x, y);
                parted |= words[start + w] ^ values.word(operand, w);
            }
            if (parted != 0) {
                changed |= Net.bitOf(operand);
            }
        }

        private long word(Values values, int operand, int w) {
            return Net.has(changed, operand) ? words[Values.start(operand) + w] : values.word(operand, w);
        }
    }

    /** The latest SHAPING: its STEPS, and what it takes to undo it. */
    private static final class Shaping {
        /**
         * Each STEP brings a reader of a gate to an operand ahead of that gate. Gate g can go back g times with each
         * of its two operands, an output 40 times: 2 * (0 + .. + 39) + 6 * 40 in all.
         */
        static final int MOST_STEPS = 1800;
        static final int TWIN_RULE = 4;
        /** What a gate's table is like, where it is cared for, if RULE 0, 1, 2, 3 holds. */
        static final int[] RULE_TABLE = {0, 15, 10, 12};
        private static final int NOTHING = -1;

        /** A STEP in one number: the operand, counted from -2 on, times 512, the rule times 64, and the gate. */
        private final int[] steps = new int[MOST_STEPS];
        private final int[] x = new int[GATES];
        private final int[] y = new int[GATES];
        private final int[] outputs = new int[OUTPUTS];
        int size = 0;
        /** The number of the net that can be brought back, or NOTHING. */
        int undoable = NOTHING;

        void begin(int number, Net net) {
            size = 0;
            undoable = number;
            System.arraycopy(net.x, 0, x, 0, GATES);
            System.arraycopy(net.y, 0, y, 0, GATES);
            System.arraycopy(net.outputs, 0, outputs, 0, OUTPUTS);
        }

        void note(int g, int rule, int operand) {
            if (size < MOST_STEPS) {
                steps[size] = operand - ALWAYS_1 << 9 | rule << 6 | g;
                size++;
            }
        }

        int gateOf(int i) {
            return steps[i] & 63;
        }

        int ruleOf(int i) {
            return steps[i] >> 6 & 7;
        }

        int operandOf(int i) {
            return (steps[i] >> 9) + ALWAYS_1;
        }

        void noteChange(int number) {
            if (undoable == number) {
                undoable = NOTHING;
            }
        }

        void undo(Net net) {
            System.arraycopy(x, 0, net.x, 0, GATES);
            System.arraycopy(y, 0, net.y, 0, GATES);
            System.arraycopy(outputs, 0, net.outputs, 0, OUTPUTS);
            undoable = NOTHING;
        }
    }
}
