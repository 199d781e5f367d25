import java.util.LinkedHashSet;
import java.util.NoSuchElementException;
import java.util.Set;

/** What the tests of edges share: the sentence that is tested, what is due by it, texts by signs and cuts by places. */
final class Edges {
    static final int NONE = ManyPlaces.NONE;
    static final int LEAST = Integer.MIN_VALUE;
    static final int MOST = Integer.MAX_VALUE;
    static final Set<String> QUOTES = new LinkedHashSet<>();
    private static String quote = "";
    private static int wrong = 0;
    private static int held = 0;

    interface Call {
        long answer();
    }

    private Edges() {
    }

    /** The sentence of the document that is tested from here on, in its own words. */
    static void says(String words) {
        quote = words;
        QUOTES.add(words);
    }

    static int answersWrong() {
        return wrong;
    }

    static int answersHeld() {
        return held;
    }

    static void due(String what, long got, long want) {
        held++;
        if (got != want) {
            wrong++;
            System.out.println("\"" + quote + "\": " + what + " answered " + got + ", due is " + want);
        }
    }

    static void yes(String what, boolean got) {
        due(what, got ? 1 : 0, 1);
    }

    static void no(String what, boolean got) {
        due(what, got ? 1 : 0, 0);
    }

    static void none(String what, long got) {
        due(what, got, NONE);
    }

    static void refuses(String what, Call call) {
        boolean thrown = false;
        try {
            call.answer();
        } catch (NoSuchElementException e) {
            thrown = true;
        }
        yes(what + " throws", thrown);
    }

    /** Both ends of int, and the first numbers beyond what is allowed on both sides. */
    static int[] outside(int first, int last) {
        return new int[] {LEAST, first - 1, last + 1, MOST};
    }

    static int feed(ManyPlaces x, String signs) {
        int answer = NONE;
        for (int at = 0; at < signs.length(); at += 20) {
            int[] w = new int[5];
            for (int i = 0; i < 20 && at + i < signs.length(); i++) {
                w[i / 4] |= signs.charAt(at + i) << (24 - 8 * (i % 4));
            }
            answer = x.feed(w[0], w[1], w[2], w[3], w[4]);
        }
        return answer;
    }

    static ManyPlaces with(String... texts) {
        ManyPlaces x = new ManyPlaces();
        for (String signs : texts) {
            feed(x, signs);
            if (x.text() == NONE) {
                throw new IllegalStateException(signs + " is at fault");
            }
        }
        return x;
    }

    static int faultOf(String signs) {
        ManyPlaces x = new ManyPlaces();
        feed(x, signs);
        return x.fault();
    }

    static long cut(int... places) {
        long cut = 0;
        for (int i = places.length - 1; i >= 0; i--) {
            cut = cut * 4 + places[i];
        }
        return cut;
    }

    /** The cut of so many steps that are all at one place. */
    static long allAt(int place, int steps) {
        long cut = 0;
        for (int i = 0; i < steps; i++) {
            cut = cut * 4 + place;
        }
        return cut;
    }

    static String lines(int n) {
        return "!1;".repeat(n - 1) + "!1";
    }
}
