/** Edges of part 6 and of promises 40 to 45: a place that is away, acts on cells, joining them, asking about them, and counts. */
final class EdgesOfAway {
    private static final int NONE = Edges.NONE;
    private static final int LEAST = Edges.LEAST;
    private static final int MOST = Edges.MOST;
    private static final int PUT = 0;
    private static final int ADD = 1;
    private static final int RAISE = 2;
    private static final int[] NO_ACTS = {};

    private EdgesOfAway() {
    }

    static void all() {
        aways();
        actBounds();
        actNumbers();
        alikeAtFirst();
        joinedAlone();
        joinedAdds();
        joinedRaises();
        joinedElse();
        joinedAsks();
        onlySinceParting();
        backs();
        chosen();
        chooseBounds();
        endedByActs();
        endedByAsks();
        endedByJoining();
        askedAnew();
        countsEmpty();
        countsFull();
    }

    private static void aways() {
        Edges.says("A PLACE is AWAY. False: no such one, one is.");
        ManyPlaces x = Edges.with("!1");
        for (int place : Edges.outside(0, 3)) {
            Edges.no("away(" + place + ")", x.away(place));
            Edges.none("none is", x.count(5));
        }
        for (int p = 0; p < 4; p++) {
            Edges.yes("away(" + p + ")", x.away(p));
            Edges.due("it is", x.count(5), p);
            for (int q = 0; q < 4; q++) {
                Edges.no("away(" + q + ") while one is", x.away(q));
            }
            for (int place : Edges.outside(0, 3)) {
                Edges.no("away(" + place + ") while one is", x.away(place));
            }
            Edges.due("it still is", x.count(5), p);
            x.back();
            Edges.none("none is then", x.count(5));
        }
    }

    private static void actBounds() {
        Edges.says("An ACT on a CELL HERE (false) or AWAY. False: no such ones; AWAY while none is.");
        ManyPlaces x = Edges.with("!1");
        Edges.no("away while none is", x.act(true, 0, PUT, 5));
        Edges.yes("the first cell", x.act(false, 0, PUT, 5));
        Edges.yes("the last cell", x.act(false, 7, PUT, 6));
        x.away(3);
        Edges.yes("the first cell away", x.act(true, 0, PUT, 7));
        Edges.yes("the last cell away", x.act(true, 7, RAISE, 8));
        for (boolean away : new boolean[] {false, true}) {
            for (int cell : Edges.outside(0, 7)) {
                Edges.no("cell " + cell, x.act(away, cell, PUT, 9));
            }
            for (int how : Edges.outside(0, 2)) {
                Edges.no("how of " + how, x.act(away, 0, how, 9));
            }
        }
        int[] here = {5, 0, 0, 0, 0, 0, 0, 6};
        int[] away = {7, 0, 0, 0, 0, 0, 0, 8};
        for (int c = 0; c < 8; c++) {
            Edges.due("here", x.cell(c, false), here[c]);
            Edges.due("away", x.cell(c, true), away[c]);
        }
        Edges.due("no refused act counts", x.back(), 0);
        for (int c = 0; c < 8; c++) {
            Edges.due("joined", x.cell(c, false), away[c]);
        }
        Edges.no("away, after it came back", x.act(true, 0, PUT, 5));
    }

    private static void acted(int was, int how, int v, int want) {
        ManyPlaces x = new ManyPlaces();
        x.act(false, 2, PUT, was);
        x.away(1);
        x.act(true, 2, how, v);
        Edges.due(was + ", act " + how + " of " + v + " away", x.cell(2, true), want);
        Edges.due("here it is as it was", x.cell(2, false), was);
        x.act(false, 2, how, v);
        Edges.due(was + ", act " + how + " of " + v + " here", x.cell(2, false), want);
    }

    private static void actNumbers() {
        Edges.says("put (0), add (1), raise to (2) a number");
        acted(5, PUT, 3, 3);
        acted(5, PUT, LEAST, LEAST);
        acted(LEAST, PUT, MOST, MOST);
        acted(5, ADD, 3, 8);
        acted(5, ADD, 0, 5);
        acted(5, ADD, -6, -1);
        acted(MOST, ADD, 1, LEAST);
        acted(LEAST, ADD, -1, MOST);
        acted(LEAST, ADD, LEAST, 0);
        acted(MOST, ADD, MOST, -2);
        acted(5, RAISE, 6, 6);
        acted(5, RAISE, 5, 5);
        acted(5, RAISE, 4, 5);
        acted(-5, RAISE, -6, -5);
        acted(-5, RAISE, -4, -4);
        acted(LEAST, RAISE, MOST, MOST);
        acted(MOST, RAISE, LEAST, MOST);
    }

    private static void alikeAtFirst() {
        Edges.says("While one is AWAY each CELL has two numbers, HERE and AWAY (alike at first).");
        ManyPlaces x = Edges.with("#1=9");
        for (int c = 0; c < 8; c++) {
            x.act(false, c, PUT, 10 * c);
        }
        x.away(0);
        for (int c = 0; c < 8; c++) {
            Edges.due("alike", x.cell(c, true), 10 * c);
        }
        x.act(true, 0, PUT, 4);
        x.act(true, 1, PUT, 5);
        x.ask(0, 0);
        Edges.due("an ask is here", x.cell(1, false), 9);
        Edges.due("not away", x.cell(1, true), 5);
        x.back();
        x.act(false, 0, PUT, 6);
        x.away(1);
        Edges.due("alike anew", x.cell(0, true), 6);
        Edges.due("alike anew", x.cell(1, true), 9);
    }

    /** Acts are pairs of how and what number; the cell was 100 at parting. */
    private static void joined(int[] here, int[] away, int want, boolean asked) {
        ManyPlaces x = new ManyPlaces();
        x.act(false, 7, PUT, 100);
        x.away(2);
        for (int i = 0; i < here.length; i += 2) {
            x.act(false, 7, here[i], here[i + 1]);
        }
        for (int i = 0; i < away.length; i += 2) {
            x.act(true, 7, away[i], away[i + 1]);
        }
        String acts = "here " + java.util.Arrays.toString(here) + ", away " + java.util.Arrays.toString(away);
        Edges.due(acts + ": asked about", x.back(), asked ? 128 : 0);
        Edges.due(acts + ": its number", x.cell(7, false), want);
        Edges.due(acts + ": asked()", x.asked(), asked ? 128 : 0);
        for (int c = 0; c < 7; c++) {
            Edges.due(acts + ": another cell", x.cell(c, false), 0);
        }
    }

    private static void joinedAlone() {
        Edges.says("with no ACTS on one side: the other's number");
        joined(NO_ACTS, NO_ACTS, 100, false);
        joined(new int[] {PUT, 5}, NO_ACTS, 5, false);
        joined(new int[] {ADD, 5}, NO_ACTS, 105, false);
        joined(new int[] {RAISE, 5}, NO_ACTS, 100, false);
        joined(new int[] {PUT, 5, ADD, 1, RAISE, 9}, NO_ACTS, 9, false);
        joined(NO_ACTS, new int[] {PUT, 5}, 5, false);
        joined(NO_ACTS, new int[] {ADD, -5}, 95, false);
        joined(NO_ACTS, new int[] {RAISE, 5}, 100, false);
        joined(NO_ACTS, new int[] {RAISE, 500}, 500, false);
        joined(NO_ACTS, new int[] {PUT, 5, ADD, 1, RAISE, 9}, 9, false);
    }

    private static void joinedAdds() {
        Edges.says("if all ACTS on both are adds: the number at parting and all that was added");
        joined(new int[] {ADD, 1}, new int[] {ADD, 20}, 121, false);
        joined(new int[] {ADD, 1, ADD, 2}, new int[] {ADD, 20, ADD, -50}, 73, false);
        joined(new int[] {ADD, 0}, new int[] {ADD, 0}, 100, false);
        joined(new int[] {ADD, MOST}, new int[] {ADD, MOST}, 98, false);
        joined(new int[] {ADD, LEAST}, new int[] {ADD, LEAST}, 100, false);
        joined(new int[] {ADD, MOST}, new int[] {ADD, 1}, LEAST + 100, false);
        joined(new int[] {ADD, MOST, ADD, MOST}, new int[] {ADD, 2}, 100, false);
    }

    private static void joinedRaises() {
        Edges.says("if all are raises: the greatest");
        joined(new int[] {RAISE, 101}, new int[] {RAISE, 102}, 102, false);
        joined(new int[] {RAISE, 102}, new int[] {RAISE, 101}, 102, false);
        joined(new int[] {RAISE, 5}, new int[] {RAISE, 101}, 101, false);
        joined(new int[] {RAISE, 5}, new int[] {RAISE, 6}, 100, false);
        joined(new int[] {RAISE, LEAST}, new int[] {RAISE, MOST}, MOST, false);
        joined(new int[] {RAISE, 300, RAISE, 200}, new int[] {RAISE, 250, RAISE, 120}, 300, false);
    }

    private static void joinedElse() {
        Edges.says("else HERE's, and it is ASKED about");
        joined(new int[] {PUT, 5}, new int[] {PUT, 6}, 5, true);
        joined(new int[] {PUT, 5}, new int[] {PUT, 5}, 5, true);
        joined(new int[] {PUT, 5}, new int[] {ADD, 6}, 5, true);
        joined(new int[] {ADD, 5}, new int[] {PUT, 6}, 105, true);
        joined(new int[] {RAISE, 5}, new int[] {PUT, 6}, 100, true);
        joined(new int[] {PUT, 5}, new int[] {RAISE, 6}, 5, true);
        joined(new int[] {ADD, 5}, new int[] {RAISE, 500}, 105, true);
        joined(new int[] {RAISE, 500}, new int[] {ADD, 5}, 500, true);
        joined(new int[] {ADD, 0}, new int[] {RAISE, LEAST}, 100, true);
        joined(new int[] {ADD, 1, RAISE, 1}, new int[] {ADD, 1}, 101, true);
        joined(new int[] {ADD, 1}, new int[] {ADD, 1, PUT, 3, ADD, 1}, 101, true);
        joined(new int[] {RAISE, 1}, new int[] {RAISE, 1, ADD, 0}, 100, true);
        joined(new int[] {PUT, 1, ADD, 1}, new int[] {ADD, 1}, 2, true);
    }

    private static void joinedAsks() {
        Edges.says("An ASK acts HERE (puts).");
        ManyPlaces x = Edges.with("#0=#0+1;?$0{#1=5}");
        x.away(3);
        x.ask(0, 0);
        x.act(true, 0, ADD, 1);
        x.act(true, 1, ADD, 1);
        Edges.due("a put and an add; the block was not taken", x.back(), 1);
        Edges.due("here's", x.cell(0, false), 1);
        Edges.due("away's alone", x.cell(1, false), 1);
        ManyPlaces y = Edges.with("#0=#0");
        y.away(0);
        y.ask(0, 5);
        Edges.due("an ask alone", y.back(), 0);
        y.away(0);
        y.ask(0, 5);
        y.act(true, 0, PUT, 3);
        Edges.due("by a name again nothing is done, so it does not act", y.back(), 0);
        Edges.due("away's", y.cell(0, false), 3);
        y.away(0);
        y.ask(0, 6);
        y.act(true, 0, PUT, 4);
        Edges.due("a put of what it was is an act", y.back(), 1);
        Edges.due("here's", y.cell(0, false), 3);
    }

    private static void onlySinceParting() {
        Edges.says("As it comes back each CELL is JOINED");
        ManyPlaces x = Edges.with("!1");
        x.act(false, 0, PUT, 10);
        x.act(false, 1, RAISE, 10);
        x.act(false, 2, PUT, 10);
        x.away(1);
        x.act(false, 0, ADD, 1);
        x.act(true, 0, ADD, 2);
        x.act(false, 1, ADD, 1);
        x.act(true, 1, ADD, 2);
        x.act(true, 2, ADD, 2);
        Edges.due("acts ahead of parting do not count", x.back(), 0);
        Edges.due("adds", x.cell(0, false), 13);
        Edges.due("adds", x.cell(1, false), 13);
        Edges.due("away's alone", x.cell(2, false), 12);
        x.act(false, 0, PUT, 20);
        x.away(1);
        x.act(true, 0, RAISE, 21);
        Edges.due("nor those of an earlier parting", x.back(), 0);
        Edges.due("away's alone", x.cell(0, false), 21);
        x.away(1);
        x.act(false, 0, RAISE, 30);
        Edges.due("nor those away of an earlier one", x.back(), 0);
        Edges.due("here's alone", x.cell(0, false), 30);
    }

    private static void backs() {
        Edges.says("It comes back: CELLS that are ASKED about then, as bits. NONE: none is AWAY.");
        ManyPlaces x = Edges.with("!1");
        Edges.none("none is away", x.back());
        x.away(0);
        Edges.due("nothing was done", x.back(), 0);
        Edges.none("it is back already", x.back());
        x.away(0);
        for (int c = 0; c < 8; c++) {
            x.act(true, c, PUT, c);
            x.act(false, c, PUT, 10 + c);
        }
        Edges.due("all eight", x.back(), 255);
        Edges.none("it is back already", x.back());
        Edges.due("they still are", x.asked(), 255);
        Edges.says("CELLS that are ASKED about, as bits.");
        for (int c = 0; c < 8; c++) {
            Edges.yes("chosen", x.choose(c, c % 2 == 1));
            Edges.due("those that are left", x.asked(), 255 & ~((2 << c) - 1));
        }
        for (int c = 0; c < 8; c++) {
            Edges.due("by what was chosen", x.cell(c, false), c % 2 == 1 ? c : 10 + c);
        }
        Edges.due("none at first", new ManyPlaces().asked(), 0);
    }

    /** Cells 0 .. 3 are asked about: 50 .. 53 away, 60 .. 63 here. */
    private static ManyPlaces doubtful(String... texts) {
        ManyPlaces x = Edges.with(texts);
        x.away(1);
        for (int c = 0; c < 4; c++) {
            x.act(true, c, PUT, 50 + c);
            x.act(false, c, PUT, 60 + c);
        }
        x.back();
        return x;
    }

    private static void chosen() {
        Edges.says("till one is chosen (HERE's, or AWAY's as it was)");
        ManyPlaces x = doubtful();
        Edges.due("here's till then", x.cell(0, false), 60);
        Edges.yes("away's", x.choose(0, true));
        Edges.due("is its number", x.cell(0, false), 50);
        Edges.yes("here's", x.choose(1, false));
        Edges.due("is its number", x.cell(1, false), 61);
        x.away(2);
        x.act(true, 7, PUT, 1);
        Edges.due("two are left", x.back(), 0b1100);
        x.away(3);
        Edges.due("two are left", x.back(), 0b1100);
        Edges.yes("away's as it was", x.choose(2, true));
        Edges.due("when they were joined", x.cell(2, false), 52);
        Edges.yes("here's", x.choose(3, false));
        Edges.due("is its number", x.cell(3, false), 63);
    }

    private static void chooseBounds() {
        Edges.says("HERE's number is chosen for a CELL (false), or AWAY's. False: it is not ASKED about, a PLACE is AWAY.");
        ManyPlaces x = doubtful();
        for (boolean away : new boolean[] {false, true}) {
            for (int cell : Edges.outside(0, 7)) {
                Edges.no("cell " + cell, x.choose(cell, away));
            }
            Edges.no("one that is not asked about", x.choose(4, away));
            Edges.no("one that is not asked about", x.choose(7, away));
        }
        x.away(0);
        Edges.no("a place is away", x.choose(0, true));
        Edges.no("a place is away", x.choose(0, false));
        Edges.due("nothing is chosen", x.asked(), 0b1111);
        Edges.due("nothing is chosen", x.cell(0, false), 60);
        x.back();
        Edges.yes("none is away", x.choose(0, true));
        Edges.no("it was chosen", x.choose(0, true));
        Edges.no("it was chosen", x.choose(0, false));
        Edges.due("away's stays", x.cell(0, false), 50);
        Edges.yes("the last that is asked about", x.choose(3, true));
        Edges.no("a new object asks about nothing", new ManyPlaces().choose(0, false));
    }

    private static void endedByActs() {
        Edges.says("another ACT HERE on it");
        ManyPlaces x = doubtful();
        x.act(false, 0, PUT, 60);
        Edges.due("a put of what it is", x.asked(), 0b1110);
        x.act(false, 1, ADD, 0);
        Edges.due("an add of 0", x.asked(), 0b1100);
        x.act(false, 2, RAISE, LEAST);
        Edges.due("a raise to less", x.asked(), 0b1000);
        Edges.no("it can not be chosen any more", x.choose(2, true));
        x.act(false, 4, PUT, 1);
        Edges.due("one on another cell ends nothing", x.asked(), 0b1000);
        x.act(false, 3, 3, 1);
        x.act(false, 3, -1, 1);
        x.act(true, 3, PUT, 1);
        Edges.due("a refused one ends nothing", x.asked(), 0b1000);
        x.away(2);
        x.act(true, 3, ADD, 1);
        Edges.due("one away ends nothing yet", x.asked(), 0b1000);
        x.act(false, 3, ADD, 1);
        Edges.due("one here, while a place is away", x.asked(), 0);
        Edges.due("adds on both", x.back(), 0);
        Edges.due("are joined", x.cell(3, false), 65);
    }

    private static void endedByAsks() {
        Edges.says("an ASK that gives it a number");
        ManyPlaces x = doubtful("#0=#0;?$0{#1=1}", "!#2;!#3", "#3=1");
        x.ask(1, 0);
        Edges.due("one that reads ends nothing", x.asked(), 0b1111);
        x.ask(0, 1);
        Edges.due("one that gives, what it was too", x.asked(), 0b1110);
        Edges.due("its number", x.cell(0, false), 60);
        x.lay(0, 1);
        x.ask(0, 1);
        Edges.due("by a name again nothing is done", x.asked(), 0b1110);
        x.cost(0, 0, 0);
        x.await(0, 0);
        x.led(0, 0, 0);
        x.parts(0, 0, 0);
        x.on(0, 0, 0);
        Edges.due("what is no ask ends nothing", x.asked(), 0b1110);
        Edges.none("nor a refused one", x.ask(0, 50));
        Edges.none("nor a refused one", x.ask(3, 2));
        Edges.due("they are left", x.asked(), 0b1110);
        x.ask(0, 2);
        Edges.due("a block that is taken", x.asked(), 0b1100);
        x.away(0);
        x.ask(2, 3);
        Edges.due("while a place is away", x.asked(), 0b0100);
        Edges.due("and as it comes back", x.back(), 0b0100);
        Edges.due("its number", x.cell(3, false), 1);
    }

    private static void endedByJoining() {
        Edges.says("and being JOINED with ACTS AWAY otherwise end that, too");
        ManyPlaces x = doubtful();
        x.away(2);
        x.act(true, 0, PUT, 7);
        x.act(true, 1, ADD, 1);
        x.act(true, 2, RAISE, 1);
        Edges.due("acts away on three of them", x.back(), 0b1000);
        Edges.due("a put", x.cell(0, false), 7);
        Edges.due("an add", x.cell(1, false), 62);
        Edges.due("a raise to less", x.cell(2, false), 62);
        Edges.no("not to be chosen any more", x.choose(0, true));
        Edges.due("the fourth is as it was", x.cell(3, false), 63);
        Edges.yes("and can be chosen", x.choose(3, true));
        Edges.due("away's", x.cell(3, false), 53);
        x = doubtful();
        x.away(2);
        x.act(false, 0, RAISE, 70);
        x.act(true, 0, RAISE, 80);
        Edges.due("raises on both", x.back(), 0b1110);
        Edges.due("the greatest", x.cell(0, false), 80);
    }

    private static void askedAnew() {
        Edges.says("else HERE's, and it is ASKED about, till one is chosen (HERE's, or AWAY's as it was)");
        ManyPlaces x = doubtful();
        x.away(2);
        x.act(false, 0, ADD, 5);
        Edges.due("an act here ends it", x.asked(), 0b1110);
        x.act(true, 0, PUT, 90);
        x.act(false, 4, PUT, 1);
        x.act(true, 4, PUT, 2);
        Edges.due("asked about anew, and one more", x.back(), 0b11111);
        Edges.due("here's", x.cell(0, false), 65);
        Edges.yes("away's", x.choose(0, true));
        Edges.due("by the later parting", x.cell(0, false), 90);
        Edges.yes("the others by theirs", x.choose(1, true));
        Edges.due("by the first parting", x.cell(1, false), 51);
        Edges.yes("the new one", x.choose(4, true));
        Edges.due("its number", x.cell(4, false), 2);
    }

    private static void countsEmpty() {
        Edges.says("0 TEXTS, 1 LAWS, 2 NAMES asked by, 3 rows of the DAY, 4 bytes of the TAPE, 5 the PLACE that is AWAY (NONE). NONE for others.");
        ManyPlaces x = new ManyPlaces();
        for (int what = 0; what < 5; what++) {
            Edges.due("count(" + what + ") of a new object", x.count(what), 0);
        }
        Edges.none("count(5) of a new object", x.count(5));
        for (int what : Edges.outside(0, 5)) {
            Edges.none("count(" + what + ")", x.count(what));
        }
        x.away(0);
        Edges.due("place 0 is away", x.count(5), 0);
    }

    private static void countsFull() {
        Edges.says("0 TEXTS, 1 LAWS, 2 NAMES asked by, 3 rows of the DAY, 4 bytes of the TAPE, 5 the PLACE that is AWAY (NONE). NONE for others.");
        ManyPlaces x = Edges.with("!1", "!1", "!1", "!1", "!1", "!1");
        for (int i = 0; i < 8; i++) {
            x.law(0, 0, 0);
            x.day(1);
        }
        for (int name = 49; name >= 0; name--) {
            x.ask(0, name);
            Edges.due("names", x.count(2), 50 - name);
        }
        for (int i = 0; i < 12; i++) {
            x.feed(-1, -1, -1, -1, -1);
        }
        x.away(3);
        int[] want = {6, 8, 50, 8, 240, 3};
        for (int what = 0; what < 6; what++) {
            Edges.due("count(" + what + "), full", x.count(what), want[what]);
        }
        for (int what : Edges.outside(0, 5)) {
            Edges.none("count(" + what + ")", x.count(what));
        }
    }
}
