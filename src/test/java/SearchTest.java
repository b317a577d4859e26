import java.util.Arrays;
import java.util.Random;

/** Parcels and programs of crowded houses against full enumeration: long chains, many rows that tie. */
public final class SearchTest {
    private static int wrong;
    private static int asked;

    private static void is(String call, int got, int want) {
        asked++;
        if (got != want) {
            wrong++;
            System.out.println(call + " answered " + got + ", due is " + want);
        }
    }

    public static void main(String[] args) {
        longChain();
        for (int run = 0; run < 10000; run++) {
            parcels(new Random(run), run);
        }
        for (int run = 0; run < 2000; run++) {
            program(new Random(run), run);
        }
        System.out.println(asked + " answers, " + wrong + " not as due");
        if (wrong != 0) {
            System.exit(1);
        }
    }

    private static void tell(SpokenBooks x, String text) {
        for (int i = 0; i < text.length(); i += 8) {
            long v = 0;
            for (int j = i; j < i + 8; j++) {
                v = v << 8 | (j < text.length() ? text.charAt(j) : ' ');
            }
            x.feed(v);
        }
        if (x.rules() < 0) {
            throw new IllegalStateException(text);
        }
    }

    /** The fourth listener can only be served if all others change; then nothing is left for the fifth. */
    private static void longChain() {
        SpokenBooks x = new SpokenBooks();
        tell(x, "loan 1;");
        for (int t = 0; t < 4; t++) {
            x.reader(t);
            x.title(t, 0, t);
            x.side(t, 1);
            x.copy(t);
        }
        int[] tongues = {3, 6, 12, 1, 8};
        for (int want : tongues) {
            x.listener(want, 0);
        }
        is("parcels(0) of a long chain", x.parcels(0), 4);
    }

    /** So many titles of random tongues and kins, with so many copies in all. */
    private static void stock(SpokenBooks x, Random random, int titles, int copies) {
        for (int tongue = 0; tongue < 4; tongue++) {
            x.reader(tongue);
        }
        for (int t = 0; t < titles; t++) {
            int tongue = random.nextInt(4);
            x.title(tongue, random.nextInt(8), tongue);
            x.side(t, 1 + random.nextInt(90));
        }
        for (int c = 0; c < copies; c++) {
            x.copy(random.nextInt(titles));
        }
    }

    private static void parcels(Random random, int run) {
        SpokenBooks x = new SpokenBooks();
        int titles = 4 + random.nextInt(9), listeners = 3 + random.nextInt(4), loan = 1 + random.nextInt(2);
        stock(x, random, titles, titles + random.nextInt(6));
        for (int l = 0; l < listeners; l++) {
            x.listener(1 + random.nextInt(15), random.nextInt(256));
        }
        tell(x, "lag 0;loan 6;");
        for (int round = 0; round < 5; round++) {
            for (int r = 0; r < 6; r++) {
                x.ask(random.nextInt(listeners), random.nextInt(titles));
            }
            x.serve();
            for (int c = 0; c < 18; c++) {
                if (random.nextInt(30) > 0) {
                    x.back(c);
                }
            }
        }
        tell(x, "loan " + loan + ";");
        int best = new Pairs(x, listeners, titles, loan).best();
        is("run " + run + ": parcels(0)", x.parcels(0), best / 1000);
        is("run " + run + ": parcels(1)", x.parcels(1), best % 1000);
    }

    /** All choices of pairs; what the object says is asked once, as it is used for 512 calls. */
    private static final class Pairs {
        private final int[] left, inHouse;
        private final int[][] worth;

        Pairs(SpokenBooks x, int listeners, int titles, int loan) {
            left = new int[listeners];
            inHouse = new int[titles];
            worth = new int[listeners][titles];
            for (int t = 0; t < titles; t++) {
                inHouse[t] = x.titleOf(t, 6);
            }
            for (int l = 0; l < listeners; l++) {
                left[l] = Math.max(0, loan - x.told(l, 2));
                int likes = x.told(l, 1);
                for (int t = 0; t < titles; t++) {
                    worth[l][t] = x.may(l, t) == 0 ? -1 : 1000 + (likes >> x.titleOf(t, 1) & 1);
                }
            }
        }

        /** Title by title, for all that may be left to the listeners: 1000 times the pairs and the liked ones. */
        int best() {
            int[] radix = new int[left.length + 1];
            radix[0] = 1;
            for (int l = 0; l < left.length; l++) {
                radix[l + 1] = radix[l] * (left[l] + 1);
            }
            int[] best = new int[radix[left.length]];
            Arrays.fill(best, -1);
            best[radix[left.length] - 1] = 0;
            for (int t = 0; t < inHouse.length; t++) {
                int[] then = new int[best.length];
                Arrays.fill(then, -1);
                for (int bits = 0; bits < 1 << left.length; bits++) {
                    int worth = worth(t, bits);
                    for (int state = 0; worth >= 0 && state < best.length; state++) {
                        int next = best[state] < 0 ? -1 : after(state, bits, radix, left);
                        if (next >= 0) {
                            then[next] = Math.max(then[next], best[state] + worth);
                        }
                    }
                }
                best = then;
            }
            return Arrays.stream(best).max().orElse(0);
        }

        /** What a title's going to these listeners (bits) is worth; -1: it can not. */
        private int worth(int t, int bits) {
            int sum = Integer.bitCount(bits) > inHouse[t] ? -1 : 0;
            for (int l = 0; sum >= 0 && bits >> l != 0; l++) {
                if ((bits >> l & 1) != 0) {
                    sum = worth[l][t] < 0 ? -1 : sum + worth[l][t];
                }
            }
            return sum;
        }
    }

    private static int after(int state, int bits, int[] radix, int[] left) {
        int next = state;
        for (int l = 0; l < left.length; l++) {
            if ((bits >> l & 1) != 0) {
                if (state / radix[l] % (left[l] + 1) == 0) {
                    return -1;
                }
                next -= radix[l];
            }
        }
        return next;
    }

    private static void program(Random random, int run) {
        SpokenBooks x = new SpokenBooks();
        int titles = 6 + random.nextInt(7);
        for (int tongue = 0; tongue < 4; tongue++) {
            x.reader(tongue);
        }
        int kind = random.nextInt(4), length = 1 + random.nextInt(90);
        for (int t = 0; t < titles; t++) {
            int tongue = random.nextInt(2);
            x.title(tongue, 0, tongue);
            for (int i = random.nextInt(kind == 3 ? 9 : 3) + (kind == 2 ? 0 : 1); i > 0; i--) {
                x.side(t, kind == 1 ? length : 1 + random.nextInt(90));
            }
        }
        for (int l = 0; l < 10; l++) {
            x.listener(15, 0);
        }
        for (int r = 0; r < 60; r++) {
            x.ask(random.nextInt(10), random.nextInt(titles));
        }
        int hours = kind == 3 ? 41 : 8;
        int[] voices = {random.nextInt(hours), 1 + random.nextInt(3), random.nextInt(hours), 1 + random.nextInt(3)};
        int bits = random.nextBoolean() ? (1 << titles) - 1 : random.nextInt(1 << titles);
        new Rows(x, titles, bits, voices).compare(run);
    }

    /** All rows, the least first. */
    private static final class Rows {
        private final SpokenBooks x;
        private final int bits;
        private final int[] voices, tongue, wanted, minutes, row, best, left;
        private int bestWanted = -1, bestMinutes;

        Rows(SpokenBooks x, int titles, int bits, int[] voices) {
            this.x = x;
            this.bits = bits;
            this.voices = voices;
            tongue = new int[titles];
            wanted = new int[titles];
            minutes = new int[titles];
            row = new int[titles];
            best = new int[titles];
            left = new int[] {voices[0] * 60, voices[2] * 60};
            for (int t = 0; t < titles; t++) {
                tongue[t] = x.titleOf(t, 0);
                wanted[t] = x.titleOf(t, 7);
                minutes[t] = x.titleOf(t, 4);
            }
        }

        void compare(int run) {
            choose(0, 0, 0);
            is("run " + run + ": program, 0", ask(0), bestWanted);
            is("run " + run + ": program, 1", ask(1), bestMinutes);
            for (int t = 0; t < row.length; t++) {
                is("run " + run + ": program, " + (10 + t), ask(10 + t), best[t]);
            }
        }

        private int ask(int what) {
            return x.program(bits, voices[0], voices[1], voices[2], voices[3], what);
        }

        private void choose(int t, int sum, int length) {
            if (t == row.length) {
                if (sum > bestWanted || sum == bestWanted && length < bestMinutes) {
                    bestWanted = sum;
                    bestMinutes = length;
                    System.arraycopy(row, 0, best, 0, row.length);
                }
                return;
            }
            row[t] = 0;
            choose(t + 1, sum, length);
            for (int v = 0; v < 2 && (bits >> t & 1) != 0; v++) {
                if ((voices[2 * v + 1] >> tongue[t] & 1) != 0 && minutes[t] <= left[v]) {
                    row[t] = v + 1;
                    left[v] -= minutes[t];
                    choose(t + 1, sum + wanted[t], length + minutes[t]);
                    left[v] += minutes[t];
                    row[t] = 0;
                }
            }
        }
    }
}
