import java.util.ArrayList;
import java.util.Arrays;
import java.util.HashSet;
import java.util.List;
import java.util.Set;

/** The document once more, word by word and row by row, with no thought of speed: what LogicSmith is held against. */
final class PlainSmith {
    static final int BAD = -1, MANY = -2, FULL = -3, MISSING = -11, ENDED = -12;

    private static final class Fun {
        int n;
        int[] place;
        int[] left;
        int sheetSize;
    }

    private static final class Circuit {
        int n;
        List<int[]> gates = new ArrayList<>();
        List<Boolean> kept = new ArrayList<>();
        int[] outs = {-3, -3, -3, -3, -3, -3};
    }

    private final List<Fun> funs = new ArrayList<>();
    private final List<Circuit> nets = new ArrayList<>();
    private List<Integer> sum = new ArrayList<>();
    private int sumLetters = 0;
    private List<int[]> steps = new ArrayList<>();
    private Circuit shaped = null;
    private List<int[]> gatesAhead = null;
    private int[] outsAhead = null;

    private static <T> T get(List<T> list, int i) {
        return i >= 0 && i < list.size() ? list.get(i) : null;
    }

    int function(int n) {
        if (n < 1 || n > 8) return BAD;
        if (funs.size() == 16) return FULL;
        Fun f = new Fun();
        f.n = n;
        f.place = new int[1 << n];
        f.sheetSize = Math.min(8, 1 << n);
        f.left = new int[(1 << n) / f.sheetSize];
        Arrays.fill(f.left, f.sheetSize);
        funs.add(f);
        return funs.size() - 1;
    }

    private static boolean there(Fun f, int row) {
        return row % f.sheetSize < f.left[row / f.sheetSize];
    }

    private static int lack(Fun f, int row) {
        return f.left[row / f.sheetSize] == 0 ? MISSING : ENDED;
    }

    private static int holds(Fun f, int row) {
        return there(f, row) ? f.place[row] : 2;
    }

    int put(int fi, int row, int v) {
        Fun f = get(funs, fi);
        if (f == null || row < 0 || row >= f.place.length || v < 0 || v > 2) return BAD;
        if (!there(f, row)) return lack(f, row);
        int was = f.place[row];
        f.place[row] = v;
        return was;
    }

    int bits(int fi, int row, int word, int n) {
        Fun f = get(funs, fi);
        if (f == null || row < 0 || n < 1 || n > 32 || (long) row + n > f.place.length) return BAD;
        for (int i = 0; i < n; i++) if (!there(f, row + i)) return lack(f, row + i);
        for (int i = 0; i < n; i++) f.place[row + i] = (word >> i) & 1;
        return n;
    }

    int tear(int fi, int sheet, int left) {
        Fun f = get(funs, fi);
        if (f == null || sheet < 0 || sheet >= f.left.length || left < 0 || left > f.sheetSize) return BAD;
        int had = f.left[sheet];
        for (int i = had; i < left; i++) f.place[sheet * f.sheetSize + i] = 0;
        f.left[sheet] = left;
        return had;
    }

    int at(int fi, int row) {
        Fun f = get(funs, fi);
        return f == null || row < 0 || row >= f.place.length ? BAD : holds(f, row);
    }

    int places(int fi, int what) {
        Fun f = get(funs, fi);
        if (f == null || what < 0 || what > 3) return BAD;
        int c = 0;
        for (int r = 0; r < f.place.length; r++) if (what == 3 ? !there(f, r) : holds(f, r) == what) c++;
        return c;
    }

    int take(int fi, int ni, int operand) {
        Fun f = get(funs, fi);
        Circuit c = get(nets, ni);
        if (f == null || c == null || !isOperand(c, operand) || f.n != c.n) return BAD;
        Arrays.fill(f.left, f.sheetSize);
        int ones = 0;
        for (int r = 0; r < f.place.length; r++) ones += f.place[r] = all(c, r, -1)[operand + 2];
        return ones;
    }

    private static int[] digits(int number, int n) {
        int[] d = new int[n];
        for (int k = 0; k < n; k++) {
            d[k] = number % 3;
            number /= 3;
        }
        return d;
    }

    private static boolean productHolds(int[] d, int row) {
        for (int k = 0; k < d.length; k++) if (d[k] != 2 && d[k] != (row >> k & 1)) return false;
        return true;
    }

    private static boolean fits(Fun f, int[] d) {
        for (int r = 0; r < f.place.length; r++) if (holds(f, r) == 0 && productHolds(d, r)) return false;
        return true;
    }

    private static List<Integer> primeList(Fun f) {
        List<Integer> found = new ArrayList<>();
        int products = (int) Math.round(Math.pow(3, f.n));
        for (int p = 0; p < products; p++) {
            int[] d = digits(p, f.n);
            boolean prime = fits(f, d);
            for (int k = 0; k < f.n && prime; k++) {
                if (d[k] != 2) {
                    int[] wide = d.clone();
                    wide[k] = 2;
                    prime = !fits(f, wide);
                }
            }
            if (prime) found.add(p);
        }
        return found;
    }

    int primes(int fi) {
        Fun f = get(funs, fi);
        return f == null ? BAD : primeList(f).size();
    }

    int prime(int fi, int k) {
        Fun f = get(funs, fi);
        if (f == null) return BAD;
        Integer p = get(primeList(f), k);
        return p == null ? BAD : p;
    }

    private static int toldLetters(List<Integer> set, int n) {
        int c = 0;
        for (int p : set) for (int d : digits(p, n)) if (d != 2) c++;
        return c;
    }

    private static boolean ahead(List<Integer> a, List<Integer> b, int n) {
        int la = toldLetters(a, n), lb = toldLetters(b, n);
        if (la != lb) return la < lb;
        for (int i = 0; i < a.size(); i++) if (!a.get(i).equals(b.get(i))) return a.get(i) < b.get(i);
        return false;
    }

    private List<Integer> bestSum;

    private void trySums(Fun f, List<Integer> primes, List<Integer> taken, int size) {
        int open = -1;
        for (int r = 0; r < f.place.length && open < 0; r++) {
            if (holds(f, r) != 1) continue;
            boolean covered = false;
            for (int p : taken) covered |= productHolds(digits(p, f.n), r);
            if (!covered) open = r;
        }
        if (open < 0) {
            List<Integer> sorted = new ArrayList<>(taken);
            sorted.sort(null);
            if (bestSum == null || ahead(sorted, bestSum, f.n)) bestSum = sorted;
            return;
        }
        if (taken.size() == size) return;
        for (int p : primes) {
            if (productHolds(digits(p, f.n), open)) {
                taken.add(p);
                trySums(f, primes, taken, size);
                taken.remove(taken.size() - 1);
            }
        }
    }

    int least(int fi) {
        Fun f = get(funs, fi);
        if (f == null) return BAD;
        if (f.n > 5) return MANY;
        List<Integer> primes = primeList(f);
        bestSum = null;
        for (int size = 0; bestSum == null; size++) trySums(f, primes, new ArrayList<>(), size);
        sum = bestSum;
        sumLetters = toldLetters(sum, f.n);
        return sum.size();
    }

    int summed(int k) {
        Integer p = get(sum, k);
        return p == null ? BAD : p;
    }

    int letters() {
        return sumLetters;
    }

    private static void orders(int n, List<Integer> ahead, List<int[]> all) {
        if (ahead.size() == n) {
            all.add(ahead.stream().mapToInt(i -> i).toArray());
            return;
        }
        for (int k = 0; k < n; k++) {
            if (!ahead.contains(k)) {
                ahead.add(k);
                orders(n, ahead, all);
                ahead.remove(ahead.size() - 1);
            }
        }
    }

    private static int nodes(Fun f, int[] order) {
        int nodes = 0;
        for (int k = 0; k < f.n; k++) {
            Set<String> like = new HashSet<>();
            for (int way = 0; way < 1 << k; way++) {
                StringBuilder zero = new StringBuilder(), one = new StringBuilder();
                for (int others = 0; others < 1 << (f.n - k - 1); others++) {
                    int row = 0;
                    for (int i = 0; i < k; i++) row |= (way >> i & 1) << order[i];
                    for (int i = k + 1; i < f.n; i++) row |= (others >> (i - k - 1) & 1) << order[i];
                    zero.append(holds(f, row) == 1 ? '1' : '0');
                    one.append(holds(f, row | 1 << order[k]) == 1 ? '1' : '0');
                }
                if (!zero.toString().equals(one.toString())) like.add(zero + "|" + one);
            }
            nodes += like.size();
        }
        return nodes;
    }

    int graph(int fi, int order) {
        Fun f = get(funs, fi);
        if (f == null) return BAD;
        if (f.n > 6) return MANY;
        List<int[]> all = new ArrayList<>();
        orders(f.n, new ArrayList<>(), all);
        int[] o = get(all, order);
        return o == null ? BAD : nodes(f, o);
    }

    int order(int fi) {
        Fun f = get(funs, fi);
        if (f == null) return BAD;
        if (f.n > 6) return MANY;
        List<int[]> all = new ArrayList<>();
        orders(f.n, new ArrayList<>(), all);
        int best = 0, fewest = Integer.MAX_VALUE;
        for (int i = 0; i < all.size(); i++) {
            int c = nodes(f, all.get(i));
            if (c < fewest) {
                fewest = c;
                best = i;
            }
        }
        return best;
    }

    int net(int n) {
        if (n < 1 || n > 8) return BAD;
        if (nets.size() == 8) return FULL;
        Circuit c = new Circuit();
        c.n = n;
        nets.add(c);
        return nets.size() - 1;
    }

    private static boolean isOperand(Circuit c, int o) {
        return o == -1 || o == -2 || o >= 0 && o < c.n || o >= 8 && o < 8L + c.gates.size();
    }

    int gate(int ni, int table, int x, int y) {
        Circuit c = get(nets, ni);
        if (c == null || table < 0 || table > 15 || !isOperand(c, x) || !isOperand(c, y)) return BAD;
        if (c.gates.size() == 40) return FULL;
        c.gates.add(new int[] {table, x, y});
        c.kept.add(false);
        if (shaped == c) shaped = null;
        return c.gates.size() - 1;
    }

    int keep(int ni, int g, int v) {
        Circuit c = get(nets, ni);
        if (c == null || get(c.gates, g) == null || v < 0 || v > 1) return BAD;
        int was = c.kept.get(g) ? 1 : 0;
        if (was != v && shaped == c) shaped = null;
        c.kept.set(g, v == 1);
        return was;
    }

    int out(int ni, int i, int operand) {
        Circuit c = get(nets, ni);
        if (c == null || i < 0 || i > 5 || operand != -3 && !isOperand(c, operand)) return BAD;
        if (c.outs[i] != operand && shaped == c) shaped = null;
        c.outs[i] = operand;
        return 0;
    }

    private static boolean isRead(Circuit c, int g) {
        for (int[] h : c.gates) if (h[1] == 8 + g || h[2] == 8 + g) return true;
        for (int o : c.outs) if (o == 8 + g) return true;
        return false;
    }

    int told(int ni, int g, int what) {
        Circuit c = get(nets, ni);
        if (c == null || get(c.gates, g) == null || what < 0 || what > 4) return BAD;
        if (what < 3) return c.gates.get(g)[what];
        return (what == 3 ? isRead(c, g) : c.kept.get(g)) ? 1 : 0;
    }

    int output(int ni, int i) {
        Circuit c = get(nets, ni);
        return c == null || i < 0 || i > 5 ? -4 : c.outs[i];
    }

    /** All operands at a row, operand o at o + 2; one gate may be turned. */
    private static int[] all(Circuit c, int row, int turned) {
        int[] v = new int[10 + c.gates.size()];
        v[0] = 1;
        for (int k = 0; k < c.n; k++) v[2 + k] = row >> k & 1;
        for (int g = 0; g < c.gates.size(); g++) {
            int[] gate = c.gates.get(g);
            v[10 + g] = gate[0] >> (v[gate[1] + 2] + 2 * v[gate[2] + 2]) & 1;
            if (g == turned) v[10 + g] ^= 1;
        }
        return v;
    }

    int value(int ni, int operand, int row) {
        Circuit c = get(nets, ni);
        if (c == null || !isOperand(c, operand) || row < 0 || row >= 1 << c.n) return BAD;
        return all(c, row, -1)[operand + 2];
    }

    int same(int a, int b) {
        Circuit c = get(nets, a), d = get(nets, b);
        if (c == null || d == null) return BAD;
        if (c.n != d.n) return 0;
        for (int i = 0; i < 6; i++) if ((c.outs[i] == -3) != (d.outs[i] == -3)) return 0;
        for (int r = 0; r < 1 << c.n; r++) {
            int[] u = all(c, r, -1), v = all(d, r, -1);
            for (int i = 0; i < 6; i++) if (c.outs[i] != -3 && u[c.outs[i] + 2] != v[d.outs[i] + 2]) return 0;
        }
        return 1;
    }

    int parts(int a, int b) {
        Circuit c = get(nets, a), d = get(nets, b);
        if (c == null || d == null) return BAD;
        if (c.n != d.n) return MANY;
        for (int r = 0; r < 1 << c.n; r++) {
            int[] u = all(c, r, -1), v = all(d, r, -1);
            for (int i = 0; i < 6; i++) {
                if (c.outs[i] != -3 && d.outs[i] != -3 && u[c.outs[i] + 2] != v[d.outs[i] + 2]) return 8 * r + i;
            }
        }
        return -5;
    }

    private static int comesTo(Circuit c, int g, boolean caredOnly) {
        int set = 0;
        for (int r = 0; r < 1 << c.n; r++) {
            int[] u = all(c, r, -1), v = all(c, r, g);
            boolean differs = false;
            for (int o : c.outs) differs |= o != -3 && u[o + 2] != v[o + 2];
            int[] gate = c.gates.get(g);
            if (differs || !caredOnly) set |= 1 << (u[gate[1] + 2] + 2 * u[gate[2] + 2]);
        }
        return set;
    }

    int comes(int ni, int g) {
        Circuit c = get(nets, ni);
        return c == null || get(c.gates, g) == null ? BAD : comesTo(c, g, false);
    }

    int cared(int ni, int g) {
        Circuit c = get(nets, ni);
        return c == null || get(c.gates, g) == null ? BAD : comesTo(c, g, true);
    }

    private static int twin(Circuit c, int g) {
        for (int h = 0; h < g; h++) {
            boolean alike = true;
            for (int r = 0; r < 1 << c.n && alike; r++) {
                int[] v = all(c, r, -1);
                alike = v[10 + h] == v[10 + g];
            }
            if (alike) return h;
        }
        return -1;
    }

    private static int[] nextStep(Circuit c) {
        for (int g = 0; g < c.gates.size(); g++) {
            if (!isRead(c, g) || c.kept.get(g)) continue;
            int[] gate = c.gates.get(g);
            int care = comesTo(c, g, true);
            boolean[] holds = {true, true, true, true};
            for (int b = 0; b < 4; b++) {
                if ((care >> b & 1) == 0) continue;
                int t = gate[0] >> b & 1;
                holds[0] &= t == 0;
                holds[1] &= t == 1;
                holds[2] &= t == (b & 1);
                holds[3] &= t == (b >> 1);
            }
            if (holds[0]) return new int[] {g, 0, -1};
            if (holds[1]) return new int[] {g, 1, -2};
            if (holds[2]) return new int[] {g, 2, gate[1]};
            if (holds[3]) return new int[] {g, 3, gate[2]};
            int h = twin(c, g);
            if (h >= 0) return new int[] {g, 4, 8 + h};
        }
        return null;
    }

    int shape(int ni) {
        Circuit c = get(nets, ni);
        if (c == null) return BAD;
        steps = new ArrayList<>();
        shaped = c;
        gatesAhead = new ArrayList<>();
        for (int[] gate : c.gates) gatesAhead.add(gate.clone());
        outsAhead = c.outs.clone();
        for (int[] s = nextStep(c); s != null; s = nextStep(c)) {
            steps.add(s);
            for (int[] gate : c.gates) {
                if (gate[1] == 8 + s[0]) gate[1] = s[2];
                if (gate[2] == 8 + s[0]) gate[2] = s[2];
            }
            for (int i = 0; i < 6; i++) if (c.outs[i] == 8 + s[0]) c.outs[i] = s[2];
        }
        return steps.size();
    }

    int step(int i, int what) {
        int[] s = get(steps, i);
        return s == null || what < 0 || what > 2 ? -9 : s[what];
    }

    int back(int ni) {
        Circuit c = get(nets, ni);
        if (c == null || shaped != c) return BAD;
        c.gates = gatesAhead;
        c.outs = outsAhead;
        shaped = null;
        return steps.size();
    }

    int weight(int ni) {
        Circuit c = get(nets, ni);
        if (c == null) return BAD;
        Set<Integer> reached = new HashSet<>();
        for (int o : c.outs) reach(c, o, reached);
        return reached.size();
    }

    private static void reach(Circuit c, int o, Set<Integer> reached) {
        if (o < 8 || !reached.add(o)) return;
        reach(c, c.gates.get(o - 8)[1], reached);
        reach(c, c.gates.get(o - 8)[2], reached);
    }

    int count(int what) {
        return what == 0 ? funs.size() : what == 1 ? nets.size() : what == 2 ? steps.size() : BAD;
    }

    int remove(int kind) {
        if (kind == 0 && !funs.isEmpty()) {
            funs.remove(funs.size() - 1);
            return funs.size();
        }
        if (kind == 1 && !nets.isEmpty()) {
            nets.remove(nets.size() - 1);
            return nets.size();
        }
        return BAD;
    }
}
