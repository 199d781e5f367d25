import java.util.Random;

/**
 * The searches at their full size: the least of all lawful cuts is found by listing every one of them, priced by
 * price() and daily(), which AgainstPlainTest holds against the document. So an object gets more calls here than the
 * document speaks of; the class does not count them.
 */
public final class SearchTest {
    private final Random dice;
    private ManyPlaces x;

    private SearchTest(long seed) {
        dice = new Random(seed);
    }

    private interface Pricing {
        long of(long cut);
    }

    private void feed(String s) {
        for (int at = 0; at < s.length(); at += 20) {
            int[] w = new int[5];
            for (int i = 0; i < 20 && at + i < s.length(); i++) {
                w[i / 4] |= s.charAt(at + i) << (24 - 8 * (i % 4));
            }
            x.feed(w[0], w[1], w[2], w[3], w[4]);
        }
    }

    private String atom() {
        int kind = dice.nextInt(8);
        if (kind == 0) {
            return "$" + dice.nextInt(3);
        }
        return kind == 1 ? "#" + dice.nextInt(2) : "" + (char) ('a' + dice.nextInt(6));
    }

    /** A text of n steps of which some are free and the others stand at some place below k. */
    private String text(int n, int free, int k) {
        StringBuilder b = new StringBuilder();
        int open = 0;
        for (int i = 0; i < n; i++) {
            if (dice.nextInt(n - i) >= free) {
                b.append('@').append(dice.nextInt(k));
            } else {
                free--;
            }
            int kind = dice.nextInt(8);
            boolean opens = kind == 0 && open < 3 && i + 1 < n;
            b.append(opens ? "?" : kind == 1 ? "!" : kind == 2 ? "#" + dice.nextInt(2) + "="
                : (char) ('a' + dice.nextInt(6)) + "=");
            b.append(atom());
            for (int j = dice.nextInt(3); j > 0; j--) {
                b.append("+-*<".charAt(dice.nextInt(4))).append(atom());
            }
            if (opens) {
                open++;
                b.append('{');
            } else if (i + 1 < n) {
                if (open > 0 && dice.nextInt(3) == 0) {
                    open--;
                    b.append('}');
                }
                b.append(';');
            }
        }
        return b.append("}".repeat(open)).toString();
    }

    /** Each letter is given once and read often: a wall through it is found only by taking back what went before. */
    private String tangle(int n) {
        StringBuilder b = new StringBuilder();
        for (int i = 0; i < n; i++) {
            int given = Math.min(i, 8);
            int pinned = dice.nextInt(8);
            b.append(i == 0 ? "" : ";").append(pinned < 2 ? "@" + pinned : "");
            b.append(given == i && i < 8 ? (char) ('a' + i) + "=" : "!");
            for (int j = dice.nextInt(3) + 2; j > 0; j--) {
                boolean letter = given > 0 && dice.nextInt(3) > 0;
                b.append(letter ? "" + (char) ('a' + dice.nextInt(given)) : "$" + dice.nextInt(8));
                b.append(j > 1 ? "+" : "");
            }
        }
        return b.toString();
    }

    private void setTangle(int n) {
        String s = tangle(n);
        for (int i = 0; i < 1000 && s.length() > 240; i++) {
            s = tangle(n);
        }
        begin(s);
        for (int i = 0; i < 8; i++) {
            x.put(0, i, dice.nextInt(2));
        }
        for (int p = 0; p < 2; p++) {
            x.work(0, p, dice.nextInt(30));
            x.word(0, p, 1 - p, dice.nextInt(100));
        }
    }

    /** Each step but the last is needed, and each input comes from neither place: the wall has all the gates it can. */
    private void setNet() {
        StringBuilder b = new StringBuilder("a=$0");
        for (int i = 1; i < 16; i++) {
            int pinned = dice.nextInt(12);
            b.append(';').append(pinned < 2 ? "@" + pinned : "").append((char) ('a' + i % 8)).append('=');
            b.append((char) ('a' + (i - 1) % 8)).append("+$").append(i % 8);
            if (dice.nextInt(3) == 0) {
                b.append("*").append((char) ('a' + dice.nextInt(8)));
            }
        }
        begin(b.toString());
        for (int i = 0; i < 8; i++) {
            x.put(0, i, 2 + dice.nextInt(2));
        }
        int most = 4 << dice.nextInt(5);
        for (int p = 0; p < 4; p++) {
            x.work(0, p, 1 + dice.nextInt(20));
            for (int q = 0; q < 4; q++) {
                x.word(0, p, q, 1 + dice.nextInt(most));
            }
        }
    }

    private void begin(String s) {
        x = new ManyPlaces();
        feed(s);
        if (x.text() != 0) {
            throw new IllegalStateException(s);
        }
    }

    private void set(int n, int free, int k) {
        String s = text(n, free, k);
        for (int i = 0; i < 1000 && s.length() > 240; i++) {
            s = text(n, free, k);
        }
        begin(s);
        int work = new int[] {1, 4, 30, 99}[dice.nextInt(4)];
        int word = new int[] {3, 12, 60, 999}[dice.nextInt(4)];
        for (int sheet = 0; sheet < 3; sheet++) {
            for (int p = 0; p < 4; p++) {
                x.work(sheet, p, dice.nextInt(work + 1));
                for (int q = 0; q < 4; q++) {
                    x.word(sheet, p, q, dice.nextInt(word + 1));
                }
            }
        }
        for (int i = 0; i < 8; i++) {
            x.put(0, i, dice.nextInt(4));
            x.put(1, i, dice.nextInt(4));
        }
        for (int r = 0; r < 8; r++) {
            for (int i = 0; i < 3; i++) {
                x.lay(i, dice.nextInt(5) - 2);
            }
            x.day(1 + dice.nextInt(99));
        }
    }

    /** The first of the cheapest in the order of steps and places: the last step turns fastest. */
    private long first(int n, int k, Pricing pricing) {
        int[] may = new int[n];
        int[] at = new int[n];
        for (int i = 0; i < n; i++) {
            for (int p = 0; p < k; p++) {
                may[i] |= x.may(0, i, p) << p;
            }
            at[i] = Integer.numberOfTrailingZeros(may[i]);
        }
        long best = -1;
        long bestPrice = Long.MAX_VALUE;
        while (true) {
            long cut = 0;
            for (int i = n - 1; i >= 0; i--) {
                cut = cut * 4 + at[i];
            }
            long price = pricing.of(cut);
            if (price < bestPrice) {
                bestPrice = price;
                best = cut;
            }
            int i = n - 1;
            while (i >= 0 && may[i] >> (at[i] + 1) == 0) {
                at[i] = Integer.numberOfTrailingZeros(may[i]);
                i--;
            }
            if (i < 0) {
                return best;
            }
            at[i] = at[i] + 1 + Integer.numberOfTrailingZeros(may[i] >> (at[i] + 1));
        }
    }

    private static void same(String what, long seed, long got, long want) {
        if (got != want) {
            System.out.println(what + " with seed " + seed + " answered " + got + ", due is " + want);
            System.exit(1);
        }
    }

    private void play(long seed, int round) {
        int sheet = dice.nextInt(3);
        int wide = round % 10 == 0 ? 16 : 10;
        set(16, wide, 2);
        same("least of two places", seed, x.least(0, sheet, 2), first(16, 2, cut -> x.price(0, cut, sheet)));
        int k = 3 + dice.nextInt(2);
        int free = round % 10 == 0 ? 8 : 5;
        int n = dice.nextBoolean() ? 16 : free;
        set(n, free, k);
        same("least of " + k, seed, x.least(0, sheet, k), first(n, k, cut -> x.price(0, cut, sheet)));
        int few = round % 10 == 0 ? 6 : 4;
        int m = dice.nextBoolean() ? 16 : few;
        int l = 2 + dice.nextInt(3);
        set(m, few, l);
        same("least of a day", seed, x.leastDay(0, sheet, l), first(m, l, cut -> x.daily(0, cut, sheet)));
        same("worked twice is at most the least", seed,
            Math.min(0, x.price(0, x.least(0, sheet, l), sheet) - Math.max(0, x.twice(0, sheet, l))), 0);
    }

    private void playTangles(long seed) {
        for (int i = 0; i < 5; i++) {
            int n = 10 + dice.nextInt(3);
            setTangle(n);
            same("least of two places, tangled", seed, x.least(0, 0, 2), first(n, 2, cut -> x.price(0, cut, 0)));
        }
    }

    private void playNet(long seed) {
        setNet();
        same("least of two places, all gates", seed, x.least(0, 0, 2), first(16, 2, cut -> x.price(0, cut, 0)));
    }

    public static void main(String[] args) {
        int rounds = args.length > 0 ? Integer.parseInt(args[0]) : 120;
        long first = args.length > 1 ? Long.parseLong(args[1]) : 1;
        for (int r = 0; r < rounds; r++) {
            SearchTest test = new SearchTest(first + r);
            test.play(first + r, r);
            test.playTangles(first + r);
            test.playNet(first + r);
        }
        System.out.println(rounds + " rounds of searches find what listing all cuts finds");
    }
}
