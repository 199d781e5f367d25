import java.util.ArrayList;
import java.util.List;
import java.util.NoSuchElementException;

/**
 * A call that is refused changes nothing, nor does one that only tells. All that can be seen of an object is looked at
 * after such a call and held against an object that was made by the same calls without it.
 */
final class EdgesOfRefusals {
    private static final int NONE = Edges.NONE;
    private static final int LEAST = Edges.LEAST;
    private static final int MOST = Edges.MOST;
    private static final long THROWN = Long.MIN_VALUE;
    // An object is used for 512 calls at most, so the looking has to be done with what the making leaves.
    private static final int WAYS = 0;
    private static final int READS = 1;
    private static final int BLOCKS = 2;
    private static final int GIVES = 3;
    private static final int PINS = 4;
    private static final long SOME_CUT = Edges.cut(1, 2, 0, 3, 1, 0, 2, 3, 3, 1, 2, 0, 0, 1, 1, 2);

    private interface Act {
        long on(ManyPlaces x);
    }

    private enum State {
        WITH_ONE_AWAY, WITH_NONE_AWAY, FULL
    }

    private EdgesOfRefusals() {
    }

    static void all() {
        for (State state : State.values()) {
            refusedInAny(state);
            toldInAny(state);
        }
        refusedWithOneAway();
        refusedWithNoneAway();
        refusedWhenFull();
        refusedTapes();
        changesAreSeen();
    }

    private static ManyPlaces made(State state) {
        ManyPlaces x = Edges.with("a=1;!a", "!$0;!$1;!$2;!$3;!$4;!$5;!$6;!$7;!#0;!#1;!#2;!#3;!#4;!#5;!#6;!#7",
            "?$0{!1};?$1{!2+2};#0=#0+$2;!#0", "#1=$0;#2=7", "@3!1;?0{b=2}");
        for (int i = 0; i < 8; i++) {
            x.lay(i, 7 - 3 * i);
            x.put(0, i, i % 4);
            x.put(1, i, (i + 1) % 4);
            x.secret(i, i < 6 ? i % 4 : NONE);
        }
        for (int p = 0; p < 4; p++) {
            x.law(p, (p + 1) % 4, 0);
            x.work(p % 3, p, 3 + p);
            x.word(p % 3, p, (p + 1) % 4, 20 + p);
            x.length(p, (p + 2) % 4, 30 + p);
            x.speed(p, 2 + p);
        }
        x.law(0, 2, 2);
        x.ask(BLOCKS, 0);
        x.ask(GIVES, 49);
        x.day(3);
        x.lay(1, 4);
        x.day(5);
        x.parts(READS, SOME_CUT, 99);
        doubts(x);
        if (state == State.WITH_ONE_AWAY) {
            x.away(2);
            x.act(true, 6, 1, 5);
            x.act(false, 6, 1, 7);
            x.act(true, 7, 0, 1);
        }
        Edges.feed(x, "c=3;!c");
        if (state == State.FULL) {
            fill(x);
        }
        return x;
    }

    private static void doubts(ManyPlaces x) {
        x.away(1);
        x.act(true, 4, 0, 1);
        x.act(false, 4, 0, 2);
        x.act(true, 5, 0, 3);
        x.act(false, 5, 2, 8);
        x.back();
    }

    private static void fill(ManyPlaces x) {
        x.text();
        for (int i = 0; i < 3; i++) {
            x.law(3, 3, 8);
        }
        for (int i = 2; i < 8; i++) {
            x.day(1);
        }
        for (int i = 0; i < 11; i++) {
            Edges.feed(x, "                    ");
        }
        Edges.feed(x, "!1+1                ");
    }

    private static long seen(ManyPlaces x, Act act) {
        try {
            return act.on(x);
        } catch (NoSuchElementException e) {
            return THROWN;
        }
    }

    /** All that can be seen of an object; what can be seen only by a change of it comes last. */
    private static List<Long> lookAt(ManyPlaces x) {
        List<Long> seen = new ArrayList<>();
        for (int i = 0; i < 6; i++) {
            seen.add((long) x.count(i));
            seen.add((long) x.steps(i));
        }
        seen.add((long) x.fault());
        seen.add((long) x.asked());
        lookAtPrices(x, seen);
        lookAtPlaces(x, seen);
        lookAtNumbers(x, seen);
        lookAtParts(x, seen);
        lookBySteppingOn(x, seen);
        return seen;
    }

    private static void lookAtPrices(ManyPlaces x, List<Long> seen) {
        for (int way = 0; way < 16; way++) {
            for (int sheet = 0; sheet < 3; sheet++) {
                seen.add((long) x.price(WAYS, way, sheet));
            }
            seen.add((long) x.await(WAYS, way));
        }
        seen.add((long) x.daily(BLOCKS, 0, 0));
        seen.add((long) x.daily(BLOCKS, Edges.cut(1, 2, 3, 0, 1, 2), 1));
    }

    private static void lookAtPlaces(ManyPlaces x, List<Long> seen) {
        for (int p = 0; p < 4; p++) {
            seen.add((long) x.on(READS, Edges.allAt(p, 16), p));
            for (int step = 0; step < 8; step++) {
                seen.add((long) x.may(READS, step, p));
            }
        }
    }

    private static void lookAtNumbers(ManyPlaces x, List<Long> seen) {
        for (int c = 0; c < 8; c++) {
            int cell = c;
            seen.add(seen(x, y -> y.cell(cell, false)));
            seen.add(seen(x, y -> y.cell(cell, true)));
        }
        for (int i = 0; i < 3; i++) {
            int at = i;
            seen.add(seen(x, y -> y.shown(0, at)));
            seen.add(seen(x, y -> y.shown(49, at)));
            seen.add(seen(x, y -> y.shown(1, at)));
        }
    }

    private static void lookAtParts(ManyPlaces x, List<Long> seen) {
        for (int i = 0; i < 17; i++) {
            seen.add((long) x.turn(i));
        }
        for (int p = 0; p < 4; p++) {
            for (int i = 0; i < 6; i++) {
                int place = p;
                int at = i;
                seen.add(seen(x, y -> y.part(place, at)));
            }
        }
    }

    private static void lookBySteppingOn(ManyPlaces x, List<Long> seen) {
        x.parts(READS, 0, 0);
        for (int i = 0; i < 8; i++) {
            int at = i;
            seen.add(seen(x, y -> y.part(0, at)));
        }
        seen.add((long) x.back());
        for (int c = 0; c < 8; c++) {
            seen.add((long) x.cell(c, false));
            seen.add(x.choose(c, true) ? 1L : 0L);
            seen.add((long) x.cell(c, false));
        }
        seen.add((long) x.text());
        for (int what = 0; what < 8; what++) {
            int at = what;
            seen.add(seen(x, y -> y.step(5, 0, at)));
        }
        seen.add((long) x.law(0, 0, 0));
        seen.add((long) x.day(1));
        seen.add((long) x.ask(WAYS, 30));
    }

    private static void unchanged(State state, String what, Act act) {
        ManyPlaces x = made(state);
        seen(x, act);
        List<Long> got = lookAt(x);
        List<Long> want = lookAt(made(state));
        for (int i = 0; i < want.size(); i++) {
            if (!got.get(i).equals(want.get(i))) {
                Edges.due(state + ", after " + what + ", look " + i, got.get(i), want.get(i));
                return;
            }
        }
        Edges.yes("nothing is changed", got.size() == want.size());
    }

    private static void refused(State state, String what, Act act) {
        long answer = seen(made(state), act);
        Edges.yes(state + ", " + what + " is refused, answered " + answer, answer == THROWN || answer == NONE || answer == 0);
        unchanged(state, what, act);
    }

    private static long bit(boolean answer) {
        return answer ? 1 : 0;
    }

    private static void refusedInAny(State state) {
        Edges.says("The constants: `NONE = -1`: None; refused.");
        for (int v : new int[] {LEAST, -1, MOST, 241}) {
            refused(state, "end(" + v + ")", x -> bit(x.end(v)));
        }
        for (int v : new int[] {LEAST, -2, 1000, MOST}) {
            refused(state, "lay(" + v + ")", x -> bit(x.lay(v, 5)));
            refused(state, "ask by " + v, x -> x.ask(BLOCKS, v));
            refused(state, "ask of " + v, x -> x.ask(v, 20));
            refused(state, "ask of " + v + " by a used name", x -> x.ask(v, 0));
            refused(state, "put, kind " + v, x -> bit(x.put(v, 0, 3)));
            refused(state, "put of input " + v, x -> bit(x.put(0, v, 3)));
            refused(state, "put of cell " + v, x -> bit(x.put(1, v, 3)));
            refused(state, "put of input 0 to " + v, x -> bit(x.put(0, 0, v)));
            refused(state, "put of cell 0 to " + v, x -> bit(x.put(1, 0, v)));
            refused(state, "secret of " + v, x -> bit(x.secret(v, 1)));
            refused(state, "secret " + v, x -> bit(x.secret(0, v)));
            refused(state, "law of place " + v, x -> x.law(v, 0, 0));
            refused(state, "law of secret " + v, x -> x.law(0, v, 0));
            refused(state, "law of n " + v, x -> x.law(0, 0, v));
            refused(state, "day of " + v, x -> x.day(v));
            refusedSheets(state, v);
            refusedCells(state, v);
            refusedQuestions(state, v);
        }
        refused(state, "end of one more than there are", x -> bit(x.end(x.count(4) + 1)));
        refused(state, "law of n 1", x -> x.law(0, 0, 1));
        refused(state, "law of secret NONE", x -> x.law(0, NONE, 0));
        refused(state, "day of 0", x -> x.day(0));
        refused(state, "speed of 0", x -> bit(x.speed(0, 0)));
        for (int p = 0; p < 4; p++) {
            int place = p;
            refused(state, "a word to itself", x -> bit(x.word(0, place, place, 5)));
            refused(state, "a length to itself", x -> bit(x.length(place, place, 5)));
        }
        for (long cut : new long[] {Long.MIN_VALUE, -1, 1L << 32, Long.MAX_VALUE}) {
            refused(state, "parts by " + cut, x -> x.parts(READS, cut, 7));
            refused(state, "on by " + cut, x -> x.on(READS, cut, 0));
            refused(state, "await by " + cut, x -> x.await(READS, cut));
        }
    }

    private static void refusedSheets(State state, int v) {
        refused(state, "work by sheet " + v, x -> bit(x.work(v, 0, 5)));
        refused(state, "work of place " + v, x -> bit(x.work(0, v, 5)));
        refused(state, "work of " + v, x -> bit(x.work(0, 0, v)));
        refused(state, "word by sheet " + v, x -> bit(x.word(v, 0, 1, 5)));
        refused(state, "word from " + v, x -> bit(x.word(0, v, 1, 5)));
        refused(state, "word to " + v, x -> bit(x.word(0, 0, v, 5)));
        refused(state, "word of " + v, x -> bit(x.word(0, 0, 1, v)));
        refused(state, "length from " + v, x -> bit(x.length(v, 1, 5)));
        refused(state, "length to " + v, x -> bit(x.length(0, v, 5)));
        refused(state, "length of " + v, x -> bit(x.length(0, 1, v)));
        refused(state, "speed of place " + v, x -> bit(x.speed(v, 5)));
        refused(state, "speed of " + v, x -> bit(x.speed(0, v)));
    }

    private static void refusedCells(State state, int v) {
        refused(state, "act on " + v, x -> bit(x.act(false, v, 0, 5)));
        refused(state, "act on " + v + " away", x -> bit(x.act(true, v, 0, 5)));
        refused(state, "act by " + v, x -> bit(x.act(false, 4, v, 5)));
        refused(state, "act by " + v + " away", x -> bit(x.act(true, 4, v, 5)));
        refused(state, "away of " + v, x -> bit(x.away(v)));
        refused(state, "choose of " + v, x -> bit(x.choose(v, true)));
        refused(state, "choose of what is not asked about", x -> bit(x.choose(0, true)));
    }

    private static void refusedQuestions(State state, int v) {
        refused(state, "step of text " + v, x -> x.step(v, 0, 0));
        refused(state, "step " + v, x -> x.step(WAYS, v, 0));
        refused(state, "step, what " + v, x -> x.step(WAYS, 0, v));
        refused(state, "shown by " + v, x -> x.shown(v, 0));
        refused(state, "shown, i " + v, x -> x.shown(0, v));
        refused(state, "cell " + v, x -> x.cell(v, false));
        refused(state, "part of " + v, x -> x.part(v, 0));
        refused(state, "part, i " + v, x -> x.part(0, v));
        refused(state, "parts of text " + v, x -> x.parts(v, 0, 7));
        refused(state, "least, k " + v, x -> x.least(WAYS, 0, v));
        refused(state, "twice, sheet " + v, x -> x.twice(WAYS, v, 2));
        refused(state, "better of text " + v, x -> x.better(v, NONE));
        refused(state, "leastDay, k " + v, x -> x.leastDay(WAYS, 0, v));
        refused(state, "cost by sheet " + v, x -> x.cost(WAYS, 0, v));
        refused(state, "on of place " + v, x -> x.on(WAYS, 0, v));
    }

    private static void toldInAny(State state) {
        Edges.says("CELLS as they are (nothing is changed)");
        unchanged(state, "nothing", x -> 0);
        unchanged(state, "fault", x -> x.fault());
        unchanged(state, "fault twice", x -> x.fault() + x.fault());
        unchanged(state, "step", x -> x.step(READS, 15, 8));
        unchanged(state, "ask by a used name", x -> x.ask(GIVES, 0));
        unchanged(state, "ask by the last name", x -> x.ask(BLOCKS, 49));
        unchanged(state, "feed of nothing", x -> x.feed(0, 0, 0, 0, 0));
        unchanged(state, "end of all", x -> bit(x.end(x.count(4))));
        unchanged(state, "may", x -> x.may(PINS, 1, 2));
        unchanged(state, "barred", x -> x.barred(READS, 2, 0) + x.barred(READS, 4, 1));
        unchanged(state, "lawful", x -> x.lawful(READS, SOME_CUT));
        unchanged(state, "words", x -> x.words(READS, SOME_CUT));
        unchanged(state, "price", x -> x.price(READS, SOME_CUT, 2));
        unchanged(state, "free", x -> x.free(READS, 4));
        unchanged(state, "least", x -> x.least(GIVES, 1, 2) + x.least(BLOCKS, 1, 4));
        unchanged(state, "twice", x -> x.twice(WAYS, 0, 4));
        unchanged(state, "better", x -> x.better(GIVES, NONE) + x.better(GIVES, 0));
        unchanged(state, "cost", x -> x.cost(BLOCKS, 5, 1) + x.cost(GIVES, 3, 0));
        unchanged(state, "daily", x -> x.daily(GIVES, 3, 2));
        unchanged(state, "leastDay", x -> x.leastDay(GIVES, 0, 3));
        unchanged(state, "moved", x -> x.moved(READS, SOME_CUT, 0));
        unchanged(state, "await", x -> x.await(GIVES, 7));
        unchanged(state, "led", x -> x.led(BLOCKS, 7, NONE) + x.led(BLOCKS, 7, 0));
        unchanged(state, "on", x -> x.on(GIVES, 7, 1));
        unchanged(state, "asked", x -> x.asked());
        unchanged(state, "count", x -> x.count(5) + x.count(6));
        unchanged(state, "work as it is", x -> bit(x.work(0, 0, 3)));
    }

    private static void refusedWithOneAway() {
        Edges.says("False: no such one, one is.");
        State state = State.WITH_ONE_AWAY;
        for (int p = 0; p < 4; p++) {
            int place = p;
            refused(state, "away(" + p + ")", x -> bit(x.away(place)));
        }
        Edges.says("False: it is not ASKED about, a PLACE is AWAY.");
        refused(state, "choose away's", x -> bit(x.choose(4, true)));
        refused(state, "choose here's", x -> bit(x.choose(5, false)));
    }

    private static void refusedWithNoneAway() {
        State state = State.WITH_NONE_AWAY;
        Edges.says("NoSuchElementException: no such CELL; AWAY while none is.");
        refused(state, "cell away", x -> x.cell(4, true));
        Edges.says("False: no such ones; AWAY while none is.");
        for (int how = 0; how < 3; how++) {
            int by = how;
            refused(state, "act away", x -> bit(x.act(true, 4, by, 5)));
        }
        Edges.says("NONE: none is AWAY.");
        refused(state, "back", x -> x.back());
    }

    private static void refusedWhenFull() {
        State state = State.FULL;
        Edges.says("NONE: a FAULT, there are six.");
        refused(state, "a seventh text", x -> x.text());
        Edges.says("NONE: more than 240.");
        refused(state, "one byte more", x -> x.feed(0, 0, 0, 0, 49));
        refused(state, "twenty bytes more", x -> x.feed(-1, -1, -1, -1, -1));
        Edges.says("NONE: out of bounds, there are eight.");
        refused(state, "a ninth law", x -> x.law(0, 0, 0));
        Edges.says("NONE: share, there are eight.");
        refused(state, "a ninth row", x -> x.day(50));
    }

    private static void refusedTapes() {
        Edges.says("NONE: a FAULT, there are six.");
        for (State state : new State[] {State.WITH_ONE_AWAY, State.WITH_NONE_AWAY}) {
            for (String more : new String[] {";", "~", "+", ";a=", ";?1{#7=$7}}", ";@3?#1{!1"}) {
                // The tape is put back behind the text that was refused: all else is to be as it was, too.
                unchanged(state, "a text at fault by " + more, x -> {
                    Edges.feed(x, more);
                    long answer = x.text();
                    Edges.none("a text at fault by " + more, answer);
                    Edges.due("its tape stays", x.count(4), 6 + more.length());
                    return bit(x.end(6));
                });
            }
        }
    }

    /** The looking would be worth nothing if it did not see what calls do change. */
    private static void changesAreSeen() {
        Edges.says("Nothing is promised beyond the answers and state changes described above");
        Act[] changes = {
            x -> x.feed(0, 0, 0, 0, 32), x -> bit(x.end(3)), x -> x.text(), x -> bit(x.lay(3, 99)), x -> x.ask(WAYS, 7),
            x -> bit(x.put(0, 2, 0)), x -> bit(x.put(1, 2, 0)), x -> bit(x.secret(2, 3)), x -> bit(x.secret(6, 1)), x -> x.law(1, 1, 0),
            x -> bit(x.work(2, 3, 50)), x -> bit(x.word(2, 3, 1, 50)), x -> x.day(1), x -> x.night(), x -> bit(x.length(3, 1, 50)),
            x -> bit(x.speed(3, 9)), x -> x.parts(WAYS, 0, 1), x -> x.parts(READS, SOME_CUT, 98), x -> bit(x.act(false, 4, 2, 0)),
            x -> bit(x.act(true, 3, 1, 1)), x -> bit(x.act(true, 6, 0, 5)), x -> bit(x.act(false, 6, 2, 0)), x -> x.back(),
        };
        List<Long> want = lookAt(made(State.WITH_ONE_AWAY));
        for (int i = 0; i < changes.length; i++) {
            ManyPlaces x = made(State.WITH_ONE_AWAY);
            seen(x, changes[i]);
            Edges.no("change " + i + " is not seen", lookAt(x).equals(want));
        }
    }
}
