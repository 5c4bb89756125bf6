import java.util.Random;

/** Primes, LEAST sums, graphs and orders of many functions, held against the plain second writing. */
public final class FunctionsTest {
    /** Functions of 5 letters whose LEAST sums are the hardest to find of all that were looked for. */
    private static final String[] HARD = {
        "11102111011110011112011110011110", "11111110011111111001011221101001", "11101111111101111011210011001120",
        "11012112102212021111202101201202", "10111011121112101110111011101111"
    };

    private static final Due DUE = new Due();

    private static void compareSums(String title, int n, int[] place) {
        LogicSmith real = new LogicSmith();
        PlainSmith plain = new PlainSmith();
        real.function(n);
        plain.function(n);
        for (int row = 0; row < place.length; row++) {
            real.put(0, row, place[row]);
            plain.put(0, row, place[row]);
        }
        int primes = plain.primes(0);
        DUE.is(title + " primes", real.primes(0), primes);
        if (n <= 3) {
            for (int k = 0; k <= primes; k++) {
                DUE.is(title + " prime " + k, real.prime(0, k), plain.prime(0, k));
            }
        }
        int size = plain.least(0);
        DUE.is(title + " least", real.least(0), size);
        for (int k = 0; k <= size; k++) {
            DUE.is(title + " summed " + k, real.summed(k), plain.summed(k));
        }
        DUE.is(title + " letters", real.letters(), plain.letters());
    }

    private static void allOfThreeLetters() {
        for (int code = 0; code < 6561; code++) {
            int[] place = new int[8];
            int rest = code;
            for (int row = 0; row < 8; row++) {
                place[row] = rest % 3;
                rest /= 3;
            }
            compareSums("function " + code + " of 3 letters", 3, place);
        }
    }

    /** On this rests that 40 primes are room enough for a function of 5 letters. */
    private static void mostPrimesOfFourLetters() {
        int most = 0;
        for (int word = 0; word < 65536; word++) {
            LogicSmith s = new LogicSmith();
            s.function(4);
            s.bits(0, 0, word, 16);
            most = Math.max(most, s.primes(0));
        }
        DUE.is("most primes of 4 letters", most, 13);
    }

    private static void manyOfFiveLetters() {
        Random random = new Random(7);
        for (int i = 0; i < 400; i++) {
            int n = 4 + i % 2;
            int[] place = new int[1 << n];
            int ones = 1 + random.nextInt(9);
            int frees = random.nextInt(4);
            for (int row = 0; row < place.length; row++) {
                place[row] = random.nextInt(10) < ones ? 1 : random.nextInt(10) < frees ? 2 : 0;
            }
            compareSums("random function " + i, n, place);
        }
    }

    private static void hardOnes() {
        for (String text : HARD) {
            int[] place = new int[32];
            for (int row = 0; row < 32; row++) {
                place[row] = text.charAt(row) - '0';
            }
            compareSums("hard function " + text, 5, place);
        }
    }

    private static void graphs() {
        Random random = new Random(11);
        int[] orders = {1, 1, 2, 6, 24, 120, 720};
        for (int i = 0; i < 90; i++) {
            int n = 1 + i % 6;
            LogicSmith real = new LogicSmith();
            PlainSmith plain = new PlainSmith();
            real.function(n);
            plain.function(n);
            // Few different rows make graphs that are not all alike.
            int mask = random.nextInt(64) & random.nextInt(64) | random.nextInt(64) & random.nextInt(64);
            long like = random.nextLong();
            for (int row = 0; row < 1 << n; row++) {
                int v = (int) (like >>> (row & mask)) & 1;
                v = random.nextInt(12) == 0 ? 2 : v;
                real.put(0, row, v);
                plain.put(0, row, v);
            }
            DUE.is("order of graph " + i, real.order(0), plain.order(0));
            for (int order = 0; order <= orders[n]; order += n < 6 ? 1 : 7) {
                DUE.is("graph " + i + " in order " + order, real.graph(0, order), plain.graph(0, order));
            }
        }
    }

    public static void main(String[] args) {
        allOfThreeLetters();
        mostPrimesOfFourLetters();
        manyOfFiveLetters();
        hardOnes();
        graphs();
        DUE.end();
    }
}
