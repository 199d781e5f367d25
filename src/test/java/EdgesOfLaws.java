/** Edges of part 3 and of promises 12 to 16 and 22: places, secrets, laws, where steps may be, and what bars them. */
final class EdgesOfLaws {
    private static final int NONE = Edges.NONE;
    private static final int LEAST = Edges.LEAST;
    private static final int MOST = Edges.MOST;
    private static final String ALL_INPUTS = "!$0;!$1;!$2;!$3;!$4;!$5;!$6;!$7";
    private static final String SUM_OF_ALL = "a=$0+$1+$2+$3+$4+$5+$6+$7;!a";

    private EdgesOfLaws() {
    }

    static void all() {
        puts();
        secrets();
        lawBounds();
        lawsFull();
        numbersOfLaws();
        needsAlone();
        eachNeedAlone();
        madeOf();
        allLaws();
        mays();
        barredBounds();
        barredLowest();
        barredFewest();
        barredByNoLaws();
        frees();
        lawfuls();
    }

    private static void puts() {
        Edges.says("PLACE of an INPUT (kind 0), a CELL (1). False: no such ones.");
        ManyPlaces x = Edges.with(ALL_INPUTS + ";!#0;!#1;!#2;!#3;!#4;!#5;!#6;!#7");
        Edges.says("INPUTS and CELLS have a PLACE each (0 at first).");
        Edges.due("all are at 0", x.on(0, 0, 0), 65535);
        Edges.due("which costs nothing", x.words(0, 0), 0);
        Edges.says("PLACE of an INPUT (kind 0), a CELL (1). False: no such ones.");
        Edges.yes("the first input to the last place", x.put(0, 0, 3));
        Edges.yes("the last input", x.put(0, 7, 3));
        Edges.yes("the first cell", x.put(1, 0, 3));
        Edges.yes("the last cell", x.put(1, 7, 3));
        Edges.due("they are there", x.on(0, Edges.allAt(3, 16), 3), 0b1000_0001_1000_0001);
        for (int kind : Edges.outside(0, 1)) {
            Edges.no("kind " + kind, x.put(kind, 1, 3));
        }
        for (int of : Edges.outside(0, 7)) {
            Edges.no("input " + of, x.put(0, of, 3));
            Edges.no("cell " + of, x.put(1, of, 3));
        }
        for (int place : Edges.outside(0, 3)) {
            Edges.no("an input to " + place, x.put(0, 0, place));
            Edges.no("a cell to " + place, x.put(1, 0, place));
        }
        Edges.due("and no other is", x.on(0, Edges.allAt(3, 16), 3), 0b1000_0001_1000_0001);
        Edges.yes("back to the first place", x.put(0, 0, 0));
        Edges.yes("to where it is", x.put(1, 0, 3));
        Edges.due("they are there", x.on(0, Edges.allAt(3, 16), 3), 0b1000_0001_1000_0000);
    }

    private static void secrets() {
        Edges.says("SECRET of an INPUT (NONE: none). False: no such ones.");
        ManyPlaces x = Edges.with(ALL_INPUTS);
        for (int s = 0; s < 4; s++) {
            x.law(s, s, 0);
        }
        Edges.says("SECRETS 0 .. 3: an INPUT has one, or none (at first).");
        for (int i = 0; i < 8; i++) {
            for (int p = 0; p < 4; p++) {
                Edges.due("none at first", x.may(0, i, p), 1);
            }
        }
        Edges.yes("the first secret", x.secret(0, 0));
        Edges.yes("the last secret", x.secret(7, 3));
        Edges.due("is had", x.may(0, 0, 0), 0);
        Edges.due("is had", x.may(0, 7, 3), 0);
        Edges.says("SECRET of an INPUT (NONE: none). False: no such ones.");
        for (int input : Edges.outside(0, 7)) {
            Edges.no("input " + input, x.secret(input, 1));
            Edges.no("input " + input + ", none", x.secret(input, NONE));
        }
        for (int secret : new int[] {LEAST, -2, 4, MOST}) {
            Edges.no("secret " + secret, x.secret(0, secret));
        }
        Edges.due("what it had it has", x.may(0, 0, 0), 0);
        Edges.yes("another one", x.secret(0, 1));
        Edges.due("in place of the first", x.may(0, 0, 0), 1);
        Edges.due("it has", x.may(0, 0, 1), 0);
        Edges.yes("none", x.secret(0, NONE));
        Edges.due("any more", x.may(0, 0, 1), 1);
        Edges.yes("none, where there is none", x.secret(1, NONE));
    }

    private static void lawBounds() {
        Edges.says("A LAW: its number. NONE: out of bounds, there are eight.");
        ManyPlaces x = Edges.with("!1");
        for (int place : Edges.outside(0, 3)) {
            Edges.none("place " + place, x.law(place, 0, 0));
        }
        for (int secret : Edges.outside(0, 3)) {
            Edges.none("secret " + secret, x.law(0, secret, 0));
        }
        for (int n : new int[] {LEAST, -2, -1, 1, 9, 10, MOST}) {
            Edges.none("n of " + n, x.law(0, 0, n));
        }
        Edges.due("no law was made", x.count(1), 0);
        int made = 0;
        for (int n : new int[] {0, 2, 3, 4, 5, 6, 7, 8}) {
            Edges.due("n of " + n, x.law(3, 3, n), made);
            made++;
        }
        Edges.due("eight", x.count(1), 8);
        ManyPlaces y = Edges.with("!1");
        for (int i = 0; i < 4; i++) {
            Edges.due("place " + i + " and secret " + (3 - i), y.law(i, 3 - i, 0), i);
        }
    }

    private static void lawsFull() {
        Edges.says("LAWS (8 at most)");
        ManyPlaces x = Edges.with("!$0");
        x.secret(0, 0);
        for (int i = 0; i < 8; i++) {
            Edges.due("law", x.law(3, 0, 0), i);
        }
        Edges.none("a ninth", x.law(1, 0, 0));
        Edges.none("the like of one that is", x.law(3, 0, 0));
        Edges.due("eight", x.count(1), 8);
        Edges.due("the ninth bars nothing", x.may(0, 0, 1), 1);
        Edges.due("the others do", x.may(0, 0, 3), 0);
    }

    private static void numbersOfLaws() {
        Edges.says("A row of INPUTS keeps it, if none of them has that SECRET, or n is not 0 and at least n have.");
        for (int n : new int[] {0, 2, 3, 4, 5, 6, 7, 8}) {
            for (int have = 0; have <= 8; have++) {
                ManyPlaces x = Edges.with(SUM_OF_ALL);
                for (int i = 0; i < have; i++) {
                    x.secret(7 - i, 2);
                }
                x.law(1, 2, n);
                boolean keeps = have == 0 || (n != 0 && have >= n);
                Edges.due("n of " + n + ", " + have + " have it", x.may(0, 1, 1), keeps ? 1 : 0);
                Edges.due("where they are read one by one", x.may(0, 0, 1), have == 0 ? 1 : 0);
                Edges.due("another place has no such law", x.may(0, 1, 2), 1);
            }
        }
        ManyPlaces y = Edges.with("a=$0+$0;!a", "a=$0+$1;!a");
        y.secret(0, 0);
        y.secret(1, 1);
        y.law(0, 0, 2);
        Edges.due("one input twice is one", y.may(0, 1, 0), 0);
        Edges.due("another secret is no second", y.may(1, 1, 0), 0);
        y.secret(1, 0);
        Edges.due("two", y.may(1, 1, 0), 1);
    }

    private static void needsAlone() {
        Edges.says("and what each of its NEEDS is MADE OF alone (an INPUT of itself)");
        ManyPlaces x = Edges.with("!$0+$1", "#0=$0;#1=$1;!#0+#1", "#0=$0+$1;!#0", "a=$0;b=$1;!a+b", "a=$0+$1;?a{!1;?$0{!2}}", "!1");
        x.secret(0, 0);
        x.secret(1, 0);
        x.law(0, 0, 2);
        Edges.due("inputs one by one", x.may(0, 0, 0), 0);
        Edges.due("cells one by one", x.may(1, 2, 0), 0);
        Edges.due("a cell of both", x.may(2, 1, 0), 1);
        Edges.due("steps one by one", x.may(3, 2, 0), 0);
        Edges.due("a ? that has a flow of both", x.may(4, 1, 0), 1);
        Edges.due("what stands in its block", x.may(4, 2, 0), 1);
        Edges.due("a ? in it that reads one, though it is made of both", x.may(4, 3, 0), 0);
        Edges.due("what that is made of: both", x.step(4, 3, 8), 0b11);
        Edges.due("what stands in its block needs but the ?", x.may(4, 4, 0), 1);
        Edges.due("a step of nothing", x.may(5, 0, 0), 1);
        ManyPlaces y = Edges.with("?$0{!1}", "?$0{#3=1};!#3", "a=$0;!1;!a");
        y.secret(0, 3);
        y.law(2, 3, 0);
        Edges.due("in a block of a ? that knows", y.may(0, 1, 2), 0);
        Edges.due("a cell given in its block", y.may(1, 2, 2), 0);
        Edges.due("a step that needs nothing of it", y.may(2, 1, 2), 1);
        Edges.due("one that does", y.may(2, 2, 2), 0);
    }

    private static int mayLast(String text) {
        ManyPlaces x = Edges.with(text);
        for (int i = 0; i < 8; i++) {
            x.secret(i, i < 6 ? 0 : NONE);
        }
        x.law(0, 0, 2);
        return x.may(0, x.steps(0) - 1, 0);
    }

    /** One need of one input bars a step, whatever its number is, though all it needs together is made of two. */
    private static void eachNeedAlone() {
        Edges.says("and what each of its NEEDS is MADE OF alone (an INPUT of itself)");
        for (int s = 0; s <= 13; s++) {
            String ahead = "!1;".repeat(s);
            Edges.due("step " + s + " of one", mayLast(ahead + "a=$0;b=$0+$1;!a+b"), 0);
            Edges.due("step " + s + " of two", mayLast(ahead + "a=$0+$1;b=$0+$1;!a+b"), 1);
            Edges.due("step " + (s + 1) + " of one", mayLast(ahead + "b=$0+$1;a=$0;!a+b"), 0);
            Edges.due("the ? around, step " + (s + 1) + ", of one", mayLast(ahead + "b=$0+$1;?$0{!b}"), 0);
            Edges.due("the ? around, step " + (s + 1) + ", of two", mayLast(ahead + "b=$0+$1;?$0+$1{!b}"), 1);
        }
        Edges.due("the ? around, step 0, of one", mayLast("?$0{b=$0+$1;!b}"), 0);
        Edges.due("the ? around, step 0, of two", mayLast("?$0+$1{b=$0+$1;!b}"), 1);
        for (int c = 0; c < 8; c++) {
            Edges.due("cell " + c + " of one", mayLast("#" + c + "=$0;b=$0+$1;!#" + c + "+b"), 0);
            Edges.due("cell " + c + " of two", mayLast("#" + c + "=$0+$1;b=$0+$1;!#" + c + "+b"), 1);
            Edges.due("cell " + c + " of none", mayLast("#" + c + "=$7;b=$0+$1;!#" + c + "+b"), 1);
        }
        for (int i = 0; i < 8; i++) {
            Edges.due("input " + i, mayLast("b=$0+$1+$2;!b+$" + i), i < 6 ? 0 : 1);
        }
    }

    private static void madeOf() {
        Edges.says("a CELL: all that STEPS of this TEXT that give it a number are");
        ManyPlaces x = Edges.with("!#0;#0=#1;#1=#2;#2=#3;#3=#4;#4=#5;#5=#6;#6=#7;#7=$7", "!#0", "#0=#0+$0;!#0", "?0{#0=$1};!#0");
        for (int i = 0; i < 9; i++) {
            Edges.due("through all eight cells, ahead of where they are given, step " + i, x.step(0, i, 8), 128);
        }
        Edges.due("not of another text", x.step(1, 0, 8), 0);
        Edges.due("a cell that is made of itself", x.step(2, 1, 8), 1);
        Edges.due("a block that is never taken counts", x.step(3, 2, 8), 2);
    }

    private static void allLaws() {
        Edges.says("A STEP MAY be at a PLACE, if by all LAWS of that PLACE what it is MADE OF keeps it");
        ManyPlaces x = Edges.with("a=$0+$1;!a", "a=$0+$1;@1!a;@0!a");
        x.secret(0, 0);
        x.secret(1, 0);
        x.law(0, 0, 2);
        Edges.due("one law, kept", x.may(0, 1, 0), 1);
        x.law(0, 1, 0);
        Edges.due("of a secret that none has", x.may(0, 1, 0), 1);
        x.law(1, 0, 0);
        Edges.due("of another place", x.may(0, 1, 0), 1);
        x.law(0, 0, 3);
        Edges.due("one of several is not kept", x.may(0, 1, 0), 0);
        Edges.says("and if it has no @, or @ of that PLACE");
        Edges.due("an @ of 0, and a law", x.may(1, 2, 0), 0);
        Edges.due("an @ of 0, elsewhere", x.may(1, 2, 2), 0);
        Edges.due("an @ of 1, and a law", x.may(1, 1, 1), 0);
        x.secret(0, NONE);
        x.secret(1, NONE);
        Edges.due("an @ of 0, no secret", x.may(1, 2, 0), 1);
        Edges.due("an @ of 1, no secret", x.may(1, 1, 1), 1);
        Edges.due("an @ of 1, at 0", x.may(1, 1, 0), 0);
        Edges.due("no @", x.may(1, 0, 3), 1);
    }

    private static void mays() {
        Edges.says("Whether a STEP MAY be at a PLACE (1, 0). NONE: no such ones.");
        ManyPlaces x = Edges.with("@0!1;@3!1", Edges.lines(16));
        Edges.due("first", x.may(0, 0, 0), 1);
        Edges.due("last", x.may(0, 1, 3), 1);
        Edges.due("the sixteenth step", x.may(1, 15, 3), 1);
        for (int text : Edges.outside(0, 1)) {
            Edges.none("text " + text, x.may(text, 0, 0));
        }
        for (int step : Edges.outside(0, 1)) {
            Edges.none("step " + step + " of two", x.may(0, step, 0));
        }
        for (int step : Edges.outside(0, 15)) {
            Edges.none("step " + step + " of sixteen", x.may(1, step, 0));
        }
        for (int place : Edges.outside(0, 3)) {
            Edges.none("place " + place, x.may(0, 0, place));
        }
    }

    private static void barredBounds() {
        Edges.says("BARRED: the STEP (0), LAWS as bits (1). NONE: it is not BARRED, there are none, no such TEXT, k (1 .. 4).");
        ManyPlaces x = Edges.with("!$0");
        x.secret(0, 0);
        for (int p = 0; p < 4; p++) {
            x.law(p, 0, 0);
        }
        for (int k = 1; k <= 4; k++) {
            Edges.due("k of " + k, x.barred(0, k, 0), 0);
            Edges.due("k of " + k + ", laws", x.barred(0, k, 1), 1);
        }
        for (int k : Edges.outside(1, 4)) {
            Edges.none("k of " + k, x.barred(0, k, 0));
            Edges.none("k of " + k + ", laws", x.barred(0, k, 1));
        }
        for (int what : Edges.outside(0, 1)) {
            Edges.none("what of " + what, x.barred(0, 1, what));
        }
        for (int text : Edges.outside(0, 0)) {
            Edges.none("text " + text, x.barred(text, 1, 0));
            Edges.none("text " + text + ", laws", x.barred(text, 1, 1));
        }
        x.secret(0, 1);
        Edges.none("not barred", x.barred(0, 1, 0));
        Edges.none("not barred: no laws", x.barred(0, 1, 1));
    }

    private static void barredLowest() {
        Edges.says("if some STEP MAY be nowhere of PLACES 0 .. k less 1: the lowest such STEP");
        ManyPlaces x = Edges.with("!1;@1!1;@2!1;@3!1", Edges.lines(15) + ";@3!1", "@0!1");
        Edges.due("k of 1", x.barred(0, 1, 0), 1);
        Edges.due("k of 2", x.barred(0, 2, 0), 2);
        Edges.due("k of 3", x.barred(0, 3, 0), 3);
        Edges.none("k of 4", x.barred(0, 4, 0));
        Edges.due("the sixteenth step", x.barred(1, 3, 0), 15);
        Edges.none("@0 is never outside", x.barred(2, 1, 0));
    }

    private static void barredFewest() {
        Edges.says("the fewest LAWS without which there is none (of several sets that with the lower LAW where two first differ; there may be none)");
        ManyPlaces x = Edges.with("!$0");
        x.secret(0, 0);
        x.law(0, 0, 0);
        x.law(1, 0, 0);
        x.law(1, 0, 0);
        x.law(0, 0, 0);
        Edges.due("0 and 3 go before 1 and 2", x.barred(0, 2, 1), 0b1001);
        Edges.due("with one place", x.barred(0, 1, 1), 0b1001);
        x.law(2, 0, 0);
        Edges.due("one alone goes before any two", x.barred(0, 3, 1), 0b10000);
        Edges.due("it is not among two places", x.barred(0, 2, 1), 0b1001);
        Edges.none("a fourth place is open", x.barred(0, 4, 1));
        x.law(3, 0, 0);
        Edges.due("of two single ones the lower", x.barred(0, 4, 1), 0b10000);
        ManyPlaces y = Edges.with("!$0");
        y.secret(0, 3);
        for (int i = 0; i < 8; i++) {
            y.law(0, 3, i == 0 ? 0 : i == 1 ? 8 : i);
        }
        Edges.due("all eight must go", y.barred(0, 1, 1), 255);
        Edges.due("the step", y.barred(0, 1, 0), 0);
        ManyPlaces z = Edges.with("!$0;!$1");
        z.secret(0, 0);
        z.secret(1, 1);
        z.law(1, 1, 0);
        z.law(0, 1, 2);
        z.law(0, 0, 0);
        z.law(1, 0, 8);
        z.law(0, 2, 0);
        Edges.due("one for each of two steps; a law that bars nothing stays", z.barred(0, 2, 1), 0b101);
        Edges.due("two for one place", z.barred(0, 1, 1), 0b110);
    }

    private static void barredByNoLaws() {
        Edges.says("there may be none");
        ManyPlaces x = Edges.with("!$0;@3!1", "@2!$0");
        x.secret(0, 0);
        x.law(0, 0, 0);
        x.law(1, 0, 0);
        x.law(2, 0, 0);
        Edges.due("the lower step is barred by laws", x.barred(0, 2, 0), 0);
        Edges.none("but an @ bars the other: no laws help", x.barred(0, 2, 1));
        Edges.none("at none of three either", x.barred(0, 3, 1));
        Edges.none("with four it is open", x.barred(0, 4, 0));
        Edges.due("an @ within, and a law", x.barred(1, 3, 0), 0);
        Edges.due("that law", x.barred(1, 3, 1), 0b100);
        Edges.none("an @ outside, and laws", x.barred(1, 2, 1));
        Edges.due("with four places it is that law", x.barred(1, 4, 1), 0b100);
    }

    private static void frees() {
        Edges.says("How many STEPS are FREE with k PLACES. NONE: no such TEXT, k (1 .. 4).");
        ManyPlaces x = Edges.with(Edges.lines(16), "@0!1;@3!1;!$0;!$1;!1");
        Edges.due("one place makes none free", x.free(0, 1), 0);
        for (int k = 2; k <= 4; k++) {
            Edges.due("all sixteen", x.free(0, k), 16);
        }
        for (int k : Edges.outside(1, 4)) {
            Edges.none("k of " + k, x.free(0, k));
        }
        for (int text : Edges.outside(0, 1)) {
            Edges.none("text " + text, x.free(text, 2));
        }
        Edges.says("FREE are STEPS that MAY be at two of these PLACES or more.");
        x.secret(0, 0);
        x.secret(1, 1);
        x.law(1, 0, 0);
        x.law(2, 0, 0);
        x.law(0, 1, 0);
        // $0 may be read at 0, 3; $1 at 1, 2, 3; an @ makes a step not free.
        Edges.due("two places", x.free(1, 2), 1);
        Edges.due("three", x.free(1, 3), 2);
        Edges.due("four", x.free(1, 4), 3);
        Edges.due("barred or not, it is told", x.free(1, 1), 0);
    }

    private static void lawfuls() {
        Edges.says("LAWFUL is a CUT, if each STEP MAY be where it is.");
        for (int i = 0; i < 16; i++) {
            String text = (Edges.lines(16) + ";").substring(0, 3 * i) + "@1!1" + (i == 15 ? "" : ";" + Edges.lines(15 - i));
            ManyPlaces x = Edges.with(text);
            Edges.due("step " + i + " alone is where it may not be", x.lawful(0, 0), 0);
            Edges.due("step " + i + " alone is at its place", x.lawful(0, 1L << (2 * i)), 1);
            Edges.due("all are at 1", x.lawful(0, Edges.allAt(1, 16)), 1);
            Edges.due("barred with one place", x.barred(0, 1, 0), i);
            Edges.none("no laws help", x.barred(0, 1, 1));
            x.law(0, 0, 0);
            Edges.none("nor if there are some", x.barred(0, 1, 1));
        }
        ManyPlaces y = Edges.with(Edges.lines(15) + ";!$0");
        y.secret(0, 0);
        y.law(0, 0, 0);
        Edges.due("the sixteenth step by a law", y.lawful(0, 0), 0);
        Edges.due("that is the one that must go", y.barred(0, 1, 1), 1);
        Edges.due("not lawful, but it has a price", y.price(0, 0, 0), 16);
    }
}
