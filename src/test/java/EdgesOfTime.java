import java.math.BigInteger;

/** Edges of part 5 and of promises 32 to 39: lengths and speeds, waits and what leads to them, parts by turns, what goes on. */
final class EdgesOfTime {
    private static final int NONE = Edges.NONE;
    private static final int LEAST = Edges.LEAST;
    private static final int MOST = Edges.MOST;
    private static final long[] SEEDS = {0, 1, -1, 2, Long.MIN_VALUE, Long.MAX_VALUE, 1L << 33, -(1L << 33), 6364136223846793005L, 123456789012345L};

    private EdgesOfTime() {
    }

    static void all() {
        lengths();
        speeds();
        waitBounds();
        waitsOfInputsAndSteps();
        waitsOfCells();
        waitsOfBlocks();
        ledBounds();
        ledFirst();
        ledEnds();
        partBounds();
        partsKept();
        turnsOfSeeds();
        turnsThatWait();
        turnsThatWaitForTheFirst();
        partsOfCells();
        partsPassed();
        onBounds();
        onSides();
    }

    private static void lengths() {
        Edges.says("LENGTH of a WORD from a PLACE to another one (0 .. 99; 5 at first)");
        ManyPlaces x = Edges.with("a=1;!a");
        for (int way = 0; way < 16; way++) {
            Edges.due("at first, from " + way % 4 + " to " + way / 4, x.await(0, way), way % 4 == way / 4 ? 2 : 7);
        }
        Edges.says("LENGTH from a PLACE to another one. False: out of bounds, alike.");
        Edges.yes("99", x.length(0, 3, 99));
        Edges.yes("0", x.length(3, 0, 0));
        for (int v : Edges.outside(0, 99)) {
            Edges.no("length of " + v, x.length(1, 2, v));
        }
        for (int place : Edges.outside(0, 3)) {
            Edges.no("from " + place, x.length(place, 2, 7));
            Edges.no("to " + place, x.length(1, place, 7));
            Edges.no("alike and outside, " + place, x.length(place, place, 7));
        }
        for (int p = 0; p < 4; p++) {
            Edges.no("alike, " + p, x.length(p, p, 7));
        }
        for (int way = 0; way < 16; way++) {
            int from = way % 4;
            int to = way / 4;
            int want = from == to ? 2 : from == 0 && to == 3 ? 101 : from == 3 && to == 0 ? 2 : 7;
            Edges.due("from " + from + " to " + to, x.await(0, way), want);
        }
    }

    private static void speeds() {
        Edges.says("SPEED of a PLACE (1 .. 9; 1 at first)");
        ManyPlaces x = Edges.with("!1+1");
        for (int p = 0; p < 4; p++) {
            Edges.due("at first", x.await(0, p), 2);
        }
        Edges.says("SPEED of a PLACE. False: out of bounds.");
        Edges.yes("9", x.speed(0, 9));
        Edges.yes("2", x.speed(3, 2));
        for (int v : Edges.outside(1, 9)) {
            Edges.no("speed of " + v, x.speed(1, v));
        }
        for (int place : Edges.outside(0, 3)) {
            Edges.no("place " + place, x.speed(place, 5));
        }
        int[] want = {18, 2, 2, 4};
        for (int p = 0; p < 4; p++) {
            Edges.due("place " + p, x.await(0, p), want[p]);
        }
        Edges.yes("1", x.speed(0, 1));
        Edges.due("again", x.await(0, 0), 2);
    }

    private static void waitBounds() {
        Edges.says("WAIT. NONE: no such ones.");
        ManyPlaces x = Edges.with("!1", "!1" + "+1".repeat(119));
        for (int text : Edges.outside(0, 1)) {
            Edges.none("text " + text, x.await(text, 0));
        }
        Edges.due("the shortest", x.await(0, 0), 1);
        x.speed(3, 9);
        Edges.due("the longest step", x.await(1, 3), 120 * 9);
        ManyPlaces y = Edges.with("a=$0;b=a;a=b;b=a;a=b;b=a;a=b;b=a;a=b;b=a;a=b;b=a;a=b;b=a;a=b;!a");
        for (int p = 0; p < 2; p++) {
            y.length(p, 1 - p, 99);
            y.speed(p, 9);
        }
        long cut = 0;
        for (int i = 0; i < 16; i += 2) {
            cut += 1L << (2 * i);
        }
        Edges.due("sixteen steps to and fro, and the input", y.await(0, cut), 16 * (99 + 9));
    }

    private static void waitsOfInputsAndSteps() {
        Edges.says("the end of the ? AROUND it, of the STEP that gave a V it reads last, the tick 0 of an INPUT it reads, each and LENGTH if that is elsewhere");
        ManyPlaces x = Edges.with("!$0+$1", "a=1+1+1;a=1;!a", "a=1;?$0{a=2+2};!a", "!a");
        Edges.due("inputs that are near", x.await(0, 0), 2);
        x.put(0, 1, 2);
        x.length(2, 0, 31);
        Edges.due("one that is not", x.await(0, 0), 33);
        x.put(0, 0, 3);
        x.length(3, 0, 30);
        Edges.due("the later of two", x.await(0, 0), 33);
        x.length(3, 0, 32);
        Edges.due("the later of two", x.await(0, 0), 34);
        // a at 1 ends at 3, the later a at 2 at 1: it gave a last.
        Edges.due("the giver that was last, not the latest", x.await(1, Edges.cut(1, 2, 3)), 7);
        Edges.due("which wait for one another at one place", x.await(1, Edges.cut(1, 1, 3)), 10);
        x.put(0, 0, 0);
        Edges.due("the first giver, as the block is not taken", x.await(2, Edges.cut(1, 0, 2, 3)), 7);
        x.lay(0, 1);
        // ? 0 to 1 at 0; a at 2: 6 to 8; ! at 3: 13 to 14.
        Edges.due("the second, as it is", x.await(2, Edges.cut(1, 0, 2, 3)), 14);
        Edges.due("a V that nobody gave", x.await(3, 2), 1);
    }

    private static void waitsOfCells() {
        Edges.says("of each CELL it reads the latest of what was given it by STEPS ahead (its end, and LENGTH to the CELL's PLACE if that is elsewhere; 0 without), and LENGTH, if the CELL is elsewhere");
        ManyPlaces x = Edges.with("!#0", "#0=1;!#0", "#0=1+1+1;#0=1;!#0", "!#0;#0=1", "?0{#0=1};!#0", "#0=#0");
        Edges.due("near, and none gave it", x.await(0, 0), 1);
        x.put(1, 0, 1);
        Edges.due("elsewhere, and none gave it", x.await(0, 0), 6);
        x.length(1, 0, 0);
        Edges.due("for nothing", x.await(0, 0), 1);
        x.length(1, 0, 20);
        // Given at 0 by 1, at the cell by 6, read at 0 from 26 on.
        Edges.due("there and back", x.await(1, 0), 27);
        Edges.due("given where it is", x.await(1, Edges.cut(1, 0)), 22);
        Edges.due("read where it is", x.await(1, Edges.cut(0, 1)), 7);
        Edges.due("both where it is", x.await(1, Edges.cut(1, 1)), 2);
        // Step 0 at 2 ends at 3 and comes by 8; step 1 at 1 ends at 1: the latest counts, not the last.
        Edges.due("the latest of what was given", x.await(2, Edges.cut(2, 1, 1)), 9);
        Edges.due("what is given behind does not count", x.await(3, Edges.cut(1, 2)), 1);
        Edges.due("nor what is not done", x.await(4, Edges.cut(1, 1, 1)), 2);
        Edges.due("nor what it gives itself", x.await(5, 1), 1);
    }

    private static void waitsOfBlocks() {
        Edges.says("the end of the STEP done ahead of it at its PLACE");
        ManyPlaces x = Edges.with("!1+1;?$0{!2+2+2};!3", "?$0{!1};?$1{!2}");
        x.put(0, 0, 1);
        Edges.due("a step that is not done is not ahead", x.await(0, Edges.cut(0, 1, 0, 0)), 3);
        x.lay(0, 1);
        // ! 0 to 2 at 0; ? 0 to 1 at 1; in the block at 0: 6 to 9; then !3 to 10.
        Edges.due("one that is done is", x.await(0, Edges.cut(0, 1, 0, 0)), 10);
        x.put(0, 0, 0);
        Edges.due("blocks: the one", x.await(1, 0), 3);
        x.lay(1, 1);
        Edges.due("blocks: both", x.await(1, 0), 4);
        x.lay(0, 0);
        x.lay(1, 0);
        Edges.due("blocks: none", x.await(1, 0), 2);
        Edges.says("WAIT: the last end.");
        ManyPlaces y = Edges.with("!1+1+1;!1");
        Edges.due("not that of the last step", y.await(0, Edges.cut(0, 1)), 3);
    }

    private static void ledBounds() {
        Edges.says("LED: the i-th STEP, from the last one on; how many, if i is NONE. NONE without, no such ones.");
        ManyPlaces x = Edges.with(Edges.lines(16), "!1");
        Edges.due("how many", x.led(0, 0, NONE), 16);
        for (int i = 0; i < 16; i++) {
            Edges.due("the i-th", x.led(0, 0, i), 15 - i);
        }
        for (int i : new int[] {LEAST, -2, 16, 17, MOST}) {
            Edges.none("i of " + i, x.led(0, 0, i));
        }
        Edges.due("one", x.led(1, 0, NONE), 1);
        Edges.due("it", x.led(1, 0, 0), 0);
        Edges.none("no second", x.led(1, 0, 1));
        for (int text : Edges.outside(0, 1)) {
            Edges.none("text " + text, x.led(text, 0, NONE));
            Edges.none("text " + text, x.led(text, 0, 0));
        }
    }

    private static void ledFirst() {
        Edges.says("from the STEP that ends last (of several the lowest)");
        ManyPlaces x = Edges.with("!1;!1+1;!1+1", "a=1;?1{!a}", "a=1;b=1;!b+a", "#3=1;#2=1;#2=1;!#3+#2");
        Edges.due("of several the lowest", x.led(0, Edges.cut(0, 1, 2), 0), 1);
        Edges.due("the last", x.led(0, Edges.cut(0, 1, 1), 0), 2);
        Edges.says("the first that is as late as its beginning of: the STEP done ahead at its PLACE; the ? AROUND it; STEPS that gave a V it reads last, by numbers; STEPS that gave a CELL it reads, by CELLS, then numbers");
        Edges.due("the ? ahead of a V", x.led(1, Edges.cut(1, 2, 0), 1), 1);
        Edges.due("the one ahead at its place, too", x.led(1, Edges.cut(1, 0, 0), 1), 0);
        x.length(1, 0, 0);
        // a at 1 ends at 1, the ? at 0 at 1; the ? is ahead at its place, too.
        Edges.due("the one ahead at its place goes first", x.led(1, Edges.cut(1, 0, 0), 1), 1);
        Edges.due("of two V the lower step", x.led(2, Edges.cut(2, 3, 0), 1), 0);
        x.length(2, 0, 4);
        Edges.due("the later one", x.led(2, Edges.cut(2, 3, 0), 1), 1);
        x.length(2, 0, 5);
        // All three end at 1 at 1, 2, 3 and come to 0 by 6 but the one from 1, by 1.
        Edges.due("of two cells the lower cell, though its step is higher", x.led(3, Edges.cut(2, 1, 3, 0), 1), 2);
        Edges.due("of two that gave one cell the lower", x.led(3, Edges.cut(1, 2, 3, 0), 1), 1);
        x.length(3, 0, 6);
        Edges.due("unless it is later", x.led(3, Edges.cut(1, 2, 3, 0), 1), 2);
    }

    private static void ledEnds() {
        Edges.says("With none (an INPUT, a CELL that nobody gave, or nothing) it ends there.");
        ManyPlaces x = Edges.with("!1;!$0", "!1;!#0", "!1;!1", "a=1;!a+$0", "#0=1;!#1;!#0+#1");
        x.put(0, 0, 3);
        x.put(1, 0, 3);
        Edges.due("an input", x.led(0, Edges.cut(1, 2), NONE), 1);
        Edges.due("its step", x.led(0, Edges.cut(1, 2), 0), 1);
        Edges.due("a cell", x.led(1, Edges.cut(1, 2), NONE), 1);
        Edges.due("its step", x.led(1, Edges.cut(1, 2), 0), 1);
        Edges.due("nothing", x.led(2, Edges.cut(1, 2), NONE), 1);
        Edges.due("its step", x.led(2, Edges.cut(1, 2), 0), 0);
        // a ends at 1 and is there by 6, the input by 5: a leads; then by 7 and by the input.
        Edges.due("a V that is later than an input", x.led(3, Edges.cut(1, 2), NONE), 2);
        x.length(3, 2, 6);
        Edges.due("as late as an input: the step is named", x.led(3, Edges.cut(1, 2), NONE), 2);
        x.length(3, 2, 7);
        Edges.due("earlier: the input, and it ends", x.led(3, Edges.cut(1, 2), NONE), 1);
        x.put(1, 1, 1);
        x.length(1, 0, 99);
        // Cell 1, which nobody gave, comes by 99; cell 0 was given by 11.
        Edges.due("a cell that nobody gave is later than one that was given", x.led(4, Edges.cut(2, 3, 0), NONE), 1);
        ManyPlaces y = Edges.with("#0=1;!$0", "a=1;!$0");
        y.put(0, 0, 3);
        y.length(3, 2, 11);
        // The cell that was given at 1 would be had at 2 by 1, 5 and 5; but it is not read.
        Edges.due("a cell that is not read leads to nothing", y.led(0, Edges.cut(1, 2), NONE), 1);
        y.length(3, 2, 6);
        Edges.due("nor does a V", y.led(1, Edges.cut(1, 2), NONE), 1);
    }

    private static void partBounds() {
        Edges.says("The i-th number shown at a PLACE in the latest PARTS. NoSuchElementException: none such.");
        ManyPlaces x = Edges.with("!1;!2;!3;!4;!5;!6;!7;!8;!9;!10;!11;!12;!13;!14;!15;!16");
        for (int p = 0; p < 4; p++) {
            int place = p;
            Edges.refuses("no parts yet", () -> x.part(place, 0));
        }
        Edges.due("all at 3", x.parts(0, Edges.allAt(3, 16), 5), 16);
        for (int i = 0; i < 16; i++) {
            Edges.due("in order", x.part(3, i), i + 1);
        }
        for (int i : Edges.outside(0, 15)) {
            Edges.refuses("i of " + i, () -> x.part(3, i));
        }
        for (int p = 0; p < 3; p++) {
            int place = p;
            Edges.refuses("nothing was shown at " + p, () -> x.part(place, 0));
        }
        for (int place : Edges.outside(0, 3)) {
            Edges.refuses("place " + place, () -> x.part(place, 0));
        }
        Edges.due("all at 0", x.parts(0, 0, 5), 16);
        Edges.due("the first", x.part(0, 0), 1);
        Edges.due("the last", x.part(0, 15), 16);
        Edges.refuses("none at 1", () -> x.part(1, 0));
        Edges.refuses("none more", () -> x.part(0, 16));
        Edges.says("Which STEP was through as the i-th in it. NONE: none.");
        for (int i = 0; i < 16; i++) {
            Edges.due("in order", x.turn(i), i);
        }
        for (int i : Edges.outside(0, 15)) {
            Edges.none("turn(" + i + ")", x.turn(i));
        }
        Edges.none("no parts yet", Edges.with("!1").turn(0));
        Edges.says("PARTS: how many numbers were shown in all. NONE: no such ones.");
        for (int text : Edges.outside(0, 0)) {
            Edges.none("text " + text, x.parts(text, 0, 0));
        }
    }

    private static void partsKept() {
        Edges.says("in the latest PARTS");
        ManyPlaces x = Edges.with("!1;!2;!3", "!$0", "a=1");
        x.parts(0, Edges.cut(0, 0, 1), 9);
        x.lay(0, 77);
        x.ask(1, 0);
        x.cost(1, 0, 0);
        x.led(1, 0, NONE);
        Edges.due("other calls leave it", x.part(0, 1), 2);
        Edges.due("other calls leave it", x.part(1, 0), 3);
        Edges.none("a refused one", x.parts(1, 4, 0));
        Edges.none("a refused one", x.parts(3, 0, 0));
        Edges.due("leaves it", x.part(0, 1), 2);
        Edges.yes("leaves it", x.turn(2) != NONE);
        Edges.due("a shorter one", x.parts(1, 1, 0), 1);
        Edges.due("has its number", x.part(1, 0), 77);
        Edges.refuses("and no more", () -> x.part(1, 1));
        Edges.refuses("nor those of the one before", () -> x.part(0, 0));
        Edges.due("one turn", x.turn(0), 0);
        Edges.none("no second", x.turn(1));
        Edges.due("one that shows nothing", x.parts(2, 0, 0), 0);
        Edges.refuses("has no number", () -> x.part(1, 0));
        Edges.due("but a turn", x.turn(0), 0);
    }

    /** Goes by the turns of a seed once more, with whole numbers that do not go round by themselves. */
    private static int[] turnsOf(long seed, int[] place, int[][] waitsFor) {
        BigInteger round = BigInteger.ONE.shiftLeft(64);
        BigInteger x = BigInteger.valueOf(seed).mod(round);
        boolean[] through = new boolean[place.length];
        int[] turns = new int[place.length];
        for (int turn = 0; turn < place.length; turn++) {
            x = x.multiply(new BigInteger("6364136223846793005")).add(new BigInteger("1442695040888963407")).mod(round);
            int[] ready = new int[4];
            int found = 0;
            for (int p = 0; p < 4; p++) {
                int next = 0;
                while (next < place.length && (through[next] || place[next] != p)) {
                    next++;
                }
                boolean can = next < place.length;
                for (int i = 0; can && i < waitsFor[next].length; i++) {
                    can = through[waitsFor[next][i]];
                }
                if (can) {
                    ready[found++] = next;
                }
            }
            int chosen = ready[x.shiftRight(33).mod(BigInteger.valueOf(found)).intValue()];
            through[chosen] = true;
            turns[turn] = chosen;
        }
        return turns;
    }

    private static void turnsOfSeeds() {
        Edges.says("(64 bits, going round)");
        int[] place = new int[16];
        int[][] waitsFor = new int[16][0];
        for (int i = 0; i < 16; i++) {
            place[i] = (i * 7 + i / 4) % 4;
        }
        for (long seed : SEEDS) {
            ManyPlaces x = Edges.with(Edges.lines(16));
            Edges.due("shown", x.parts(0, Edges.cut(place), seed), 16);
            int[] turns = turnsOf(seed, place, waitsFor);
            for (int i = 0; i < 16; i++) {
                Edges.due("seed " + seed + ", turn " + i, x.turn(i), turns[i]);
            }
        }
    }

    private static void turnsThatWait() {
        Edges.says("A STEP can go, if the ? AROUND it, all STEPS it has FLOWS from, and all lower STEPS that read or give a CELL that it reads or gives, of which one gives it, are through.");
        // 0 a, 1 ?, 2 b in it, 3 #0, 4 ! of #0, 5 ! of #0, 6 #0, 7 ! of b, 8 ! of #1, 9 ! of nothing.
        String text = "a=1;?a{b=2};#0=3;!#0;!#0;#0=4;!b;!#1;!5";
        int[][] waitsFor = {{}, {0}, {1}, {}, {3}, {3}, {3, 4, 5}, {2}, {}, {}};
        int[] place = {0, 1, 2, 3, 2, 1, 0, 3, 1, 2};
        for (long seed : SEEDS) {
            ManyPlaces x = Edges.with(text);
            Edges.due("shown", x.parts(0, Edges.cut(place), seed), 5);
            int[] turns = turnsOf(seed, place, waitsFor);
            for (int i = 0; i < 10; i++) {
                Edges.due("seed " + seed + ", turn " + i, x.turn(i), turns[i]);
            }
            Edges.due("b of place 2", x.part(3, 0), 2);
            Edges.due("cell 0 ahead of step 6", x.part(2, 0), 3);
            Edges.due("cell 0 ahead of step 6", x.part(1, 0), 3);
            Edges.due("cell 1", x.part(1, 1), 0);
        }
    }

    private static void turnsThatWaitForTheFirst() {
        Edges.says("of which one gives it");
        // Two that read one cell do not wait for one another; one that gives it waits, and is waited for.
        String[] texts = {"#7=1;!#7;!#7", "!#7;#7=1;!2", "!#7;!#7;!#7", "#7=1;#7=2;!3", "#7=#6;#6=1;!#7"};
        int[][][] waitsFor = {{{}, {0}, {0}}, {{}, {0}, {}}, {{}, {}, {}}, {{}, {0}, {}}, {{}, {0}, {0}}};
        int[][] places = {{0, 1, 2}, {2, 1, 0}, {3, 3, 0}, {1, 0, 3}};
        for (int t = 0; t < texts.length; t++) {
            ManyPlaces x = Edges.with(texts[t]);
            for (long seed : SEEDS) {
                for (int[] place : places) {
                    x.parts(0, Edges.cut(place), seed);
                    int[] turns = turnsOf(seed, place, waitsFor[t]);
                    for (int i = 0; i < 3; i++) {
                        Edges.due(texts[t] + ", seed " + seed + ", turn " + i, x.turn(i), turns[i]);
                    }
                }
            }
        }
    }

    private static void partsOfCells() {
        Edges.says("INPUTS as they lie, CELLS as they are (nothing is changed)");
        ManyPlaces x = Edges.with("#0=#0+$0;!#0");
        x.act(false, 0, 0, MOST);
        x.lay(0, 1);
        Edges.due("shown", x.parts(0, 4, 0), 1);
        Edges.due("it wraps", x.part(1, 0), LEAST);
        Edges.due("nothing is changed", x.cell(0, false), MOST);
        Edges.due("again the same", x.parts(0, 4, 0), 1);
        Edges.due("again the same", x.part(1, 0), LEAST);
        x.away(2);
        x.act(true, 0, 0, 40);
        x.act(false, 0, 0, 20);
        x.parts(0, 4, 0);
        Edges.due("here's while a place is away", x.part(1, 0), 21);
        Edges.due("no name is taken", x.count(2), 0);
    }

    private static void partsPassed() {
        Edges.says("its STEP is through then (done, or passed, if its block is not taken)");
        ManyPlaces x = Edges.with("?$0{!1;?1{!2;a=1;#0=1}};!a;!#0");
        Edges.due("not taken", x.parts(0, 0, 3), 2);
        for (int i = 0; i < 8; i++) {
            Edges.due("all are through", x.turn(i), i);
        }
        Edges.none("no more", x.turn(8));
        Edges.due("a", x.part(0, 0), 0);
        Edges.due("the cell", x.part(0, 1), 0);
        x.lay(0, 1);
        Edges.due("taken", x.parts(0, 0, 3), 4);
        Edges.due("in order", x.part(0, 0), 1);
        Edges.due("in order", x.part(0, 1), 2);
        Edges.due("a", x.part(0, 2), 1);
        Edges.due("the cell", x.part(0, 3), 1);
    }

    private static void onBounds() {
        Edges.says("ON, as bits, if that PLACE were AWAY. NONE: no such ones.");
        ManyPlaces x = Edges.with(Edges.lines(16), "!1");
        for (int p = 0; p < 4; p++) {
            Edges.due("all sixteen go on", x.on(0, Edges.allAt(p, 16), p), 65535);
            Edges.due("one", x.on(1, 0, p), 1);
        }
        for (int place : Edges.outside(0, 3)) {
            Edges.none("place " + place, x.on(1, 0, place));
        }
        for (int text : Edges.outside(0, 1)) {
            Edges.none("text " + text, x.on(text, 0, 0));
        }
        x.away(1);
        Edges.due("another place is away: it is told as if this were", x.on(1, 0, 2), 1);
    }

    private static void onSides() {
        Edges.says("all that it NEEDS is on its side (the PLACE that would be AWAY, or all others), and STEPS among that go on, and CELLS it gives are on its side");
        ManyPlaces x = Edges.with("!$0;!#0;#1=1;a=1;!a;?1{!1}", "a=$0;b=a;c=b;!c", "#0=1;!#0");
        long here = 0;
        long there = Edges.allAt(2, 7);
        Edges.due("all at 0, 2 is away", x.on(0, here, 2), 0b1111111);
        Edges.due("all at 0, 0 is away", x.on(0, here, 0), 0b1111111);
        Edges.due("all at 2, 2 is away: no input, no cells", x.on(0, there, 2), 0b1111000);
        Edges.due("all at 2, 0 is away: likewise", x.on(0, there, 0), 0b1111000);
        Edges.due("all at 2, 1 is away: others are one side", x.on(0, there, 1), 0b1111111);
        x.put(0, 0, 2);
        Edges.due("the input is there", x.on(0, there, 2), 0b1111001);
        x.put(1, 1, 2);
        Edges.due("a cell that is given is there", x.on(0, there, 2), 0b1111101);
        x.put(1, 0, 2);
        Edges.due("and one that is read", x.on(0, there, 2), 0b1111111);
        Edges.due("here then none of these goes on", x.on(0, here, 2), 0b1111000);
        Edges.due("a V and a ? from elsewhere", x.on(0, Edges.cut(2, 2, 2, 0, 2, 0, 2), 2), 0b0101111);
        Edges.due("the first does not go on, and what needs it", x.on(1, 0, 2), 0);
        Edges.due("nor what is on its side", x.on(1, Edges.allAt(2, 4), 1), 0b1111);
        Edges.due("a step between that is elsewhere", x.on(1, Edges.cut(2, 2, 0, 0), 2), 0b0011);
        Edges.due("the cell is there, its reader is not", x.on(2, Edges.cut(2, 0), 2), 0b01);
        Edges.due("a giver that does not go on does not bar a reader", x.on(2, Edges.cut(0, 2), 2), 0b10);
    }
}
