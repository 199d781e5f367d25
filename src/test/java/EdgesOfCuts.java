/** Edges of parts 2 and 4 and of promises 17 to 31: sheets, cuts, their words and prices, and the searches among them. */
final class EdgesOfCuts {
    private static final int NONE = Edges.NONE;
    private static final int LEAST = Edges.LEAST;
    private static final int MOST = Edges.MOST;
    private static final long[] NO_CUTS = {Long.MIN_VALUE, -(1L << 32), -4, -1, Long.MAX_VALUE};

    private EdgesOfCuts() {
    }

    static void all() {
        works();
        wordPrices();
        cutsOfOneStep();
        cutsOfSixteenSteps();
        sheetsAndTexts();
        flowEdges();
        wordsOnce();
        wordsOfCells();
        dearestPrice();
        leastBounds();
        leastTold();
        leastTies();
        leastWordsOnce();
        soughtAgain();
        twiceBounds();
        twiceTold();
        twiceKinds();
        betterBounds();
        betterTold();
        betterTies();
        costEdges();
        costOfBlocks();
        dayBounds();
        nights();
        dayRows();
        leastDayTold();
        leastDayTies();
        moves();
    }

    private static void works() {
        Edges.says("WORK of a PLACE (0 .. 99; 1 at first)");
        ManyPlaces x = Edges.with("!1+1");
        for (int sheet = 0; sheet < 3; sheet++) {
            for (int p = 0; p < 4; p++) {
                Edges.due("at first, sheet " + sheet + ", place " + p, x.price(0, p, sheet), 2);
            }
        }
        Edges.says("WORK of a PLACE in a SHEET. False: out of bounds.");
        Edges.yes("99", x.work(0, 0, 99));
        Edges.yes("0", x.work(2, 3, 0));
        Edges.due("99", x.price(0, 0, 0), 198);
        Edges.due("0", x.price(0, 3, 2), 0);
        for (int v : Edges.outside(0, 99)) {
            Edges.no("work of " + v, x.work(0, 0, v));
        }
        for (int sheet : Edges.outside(0, 2)) {
            Edges.no("sheet " + sheet, x.work(sheet, 0, 7));
        }
        for (int place : Edges.outside(0, 3)) {
            Edges.no("place " + place, x.work(0, place, 7));
        }
        for (int sheet = 0; sheet < 3; sheet++) {
            for (int p = 0; p < 4; p++) {
                int want = sheet == 0 && p == 0 ? 198 : sheet == 2 && p == 3 ? 0 : 2;
                Edges.due("no other was changed, sheet " + sheet + ", place " + p, x.price(0, p, sheet), want);
            }
        }
    }

    private static void wordPrices() {
        Edges.says("WORD from a PLACE to another one (0 .. 999; 10 at first)");
        ManyPlaces x = Edges.with("a=1;!a");
        for (int way = 0; way < 16; way++) {
            int want = way % 4 == way / 4 ? 2 : 12;
            Edges.due("at first, from " + way % 4 + " to " + way / 4, x.price(0, way, 1), want);
        }
        Edges.says("WORD from a PLACE to another one in a SHEET. False: out of bounds, alike.");
        Edges.yes("999", x.word(1, 0, 3, 999));
        Edges.yes("0", x.word(1, 3, 0, 0));
        for (int v : Edges.outside(0, 999)) {
            Edges.no("word of " + v, x.word(1, 1, 2, v));
        }
        for (int sheet : Edges.outside(0, 2)) {
            Edges.no("sheet " + sheet, x.word(sheet, 1, 2, 7));
        }
        for (int place : Edges.outside(0, 3)) {
            Edges.no("from " + place, x.word(1, place, 2, 7));
            Edges.no("to " + place, x.word(1, 1, place, 7));
            Edges.no("alike and outside, " + place, x.word(1, place, place, 7));
        }
        for (int p = 0; p < 4; p++) {
            Edges.no("alike, " + p, x.word(1, p, p, 7));
        }
        for (int way = 0; way < 16; way++) {
            int from = way % 4;
            int to = way / 4;
            int want = from == to ? 2 : from == 0 && to == 3 ? 1001 : from == 3 && to == 0 ? 2 : 12;
            Edges.due("from " + from + " to " + to, x.price(0, way, 1), want);
            Edges.due("by another sheet", x.price(0, way, 2), from == to ? 2 : 12);
        }
    }

    private static void cutsOfOneStep() {
        Edges.says("as a number: PLACE of STEP i times 4 to the i");
        ManyPlaces x = Edges.with("!1");
        x.day(1);
        for (int p = 0; p < 4; p++) {
            Edges.due("lawful", x.lawful(0, p), 1);
            Edges.due("words", x.words(0, p), 0);
            Edges.due("price", x.price(0, p, 0), 1);
            Edges.due("cost", x.cost(0, p, 0), 1);
            Edges.due("daily", x.daily(0, p, 0), 1);
            Edges.due("moved", x.moved(0, p, 0), p == 0 ? 0 : 1);
            Edges.due("await", x.await(0, p), 1);
            Edges.due("led", x.led(0, p, 0), 0);
            Edges.due("parts", x.parts(0, p, 0), 1);
            Edges.due("on", x.on(0, p, p), 1);
        }
        noCuts(x, 4);
        noCuts(x, 1L << 32);
        for (long cut : NO_CUTS) {
            noCuts(x, cut);
        }
    }

    private static void noCuts(ManyPlaces x, long cut) {
        Edges.says("Whether a CUT is LAWFUL (1, 0). NONE: no such TEXT, CUT.");
        Edges.none("cut " + cut, x.lawful(0, cut));
        Edges.says("WORDS of a CUT: how many. NONE likewise.");
        Edges.none("cut " + cut, x.words(0, cut));
        Edges.says("PRICE. NONE likewise, no such SHEET.");
        Edges.none("cut " + cut, x.price(0, cut, 0));
        Edges.says("COST of an ASK. NONE: no such ones.");
        Edges.none("cut " + cut, x.cost(0, cut, 0));
        Edges.says("The DAY's sum by a CUT. NONE: no such ones.");
        Edges.none("cut " + cut, x.daily(0, cut, 0));
        Edges.says("How many STEPS are elsewhere in two CUTS. NONE: no such ones.");
        Edges.none("cut " + cut, x.moved(0, cut, 0));
        Edges.none("the other " + cut, x.moved(0, 0, cut));
        Edges.none("both " + cut, x.moved(0, cut, cut));
        Edges.says("WAIT. NONE: no such ones.");
        Edges.none("cut " + cut, x.await(0, cut));
        Edges.says("NONE without, no such ones.");
        Edges.none("cut " + cut, x.led(0, cut, NONE));
        Edges.none("cut " + cut, x.led(0, cut, 0));
        Edges.says("PARTS: how many numbers were shown in all. NONE: no such ones.");
        Edges.none("cut " + cut, x.parts(0, cut, 0));
        Edges.says("ON, as bits, if that PLACE were AWAY. NONE: no such ones.");
        Edges.none("cut " + cut, x.on(0, cut, 0));
    }

    private static void cutsOfSixteenSteps() {
        Edges.says("as a number: PLACE of STEP i times 4 to the i");
        ManyPlaces x = Edges.with(Edges.lines(15) + ";@3!1");
        x.day(1);
        long last = (1L << 32) - 1;
        Edges.due("the last cut is lawful", x.lawful(0, last), 1);
        Edges.due("the sixteenth step at 2", x.lawful(0, last - (1L << 30)), 0);
        Edges.due("its words", x.words(0, last), 0);
        x.work(0, 3, 9);
        Edges.due("its price", x.price(0, last, 0), 144);
        Edges.due("its cost", x.cost(0, last, 0), 144);
        Edges.due("daily", x.daily(0, last, 0), 144);
        Edges.due("all moved", x.moved(0, last, 0), 16);
        Edges.due("the sixteenth moved", x.moved(0, last, last - (1L << 30)), 1);
        Edges.due("its wait", x.await(0, last), 16);
        Edges.due("led", x.led(0, last, NONE), 16);
        Edges.due("parts", x.parts(0, last, 0), 16);
        Edges.due("on", x.on(0, last, 3), 65535);
        noCuts(x, 1L << 32);
        for (long cut : NO_CUTS) {
            noCuts(x, cut);
        }
    }

    private static void sheetsAndTexts() {
        ManyPlaces x = Edges.with("!1", "!1");
        for (int text : Edges.outside(0, 1)) {
            Edges.says("Whether a CUT is LAWFUL (1, 0). NONE: no such TEXT, CUT.");
            Edges.none("text " + text, x.lawful(text, 0));
            Edges.says("WORDS of a CUT: how many. NONE likewise.");
            Edges.none("text " + text, x.words(text, 0));
            Edges.says("PRICE. NONE likewise, no such SHEET.");
            Edges.none("text " + text, x.price(text, 0, 0));
            Edges.says("LEAST: the CUT. NONE: BARRED, not told, no such ones.");
            Edges.none("text " + text, x.least(text, 0, 2));
            Edges.says("WORKED TWICE: the least PRICE. NONE likewise.");
            Edges.none("text " + text, x.twice(text, 0, 2));
            Edges.says("BETTER: how many CUTS (i NONE), the i-th by numbers. NONE: without, not told, no such TEXT.");
            Edges.none("text " + text, x.better(text, NONE));
            Edges.none("text " + text, x.better(text, 0));
            Edges.says("COST of an ASK. NONE: no such ones.");
            Edges.none("text " + text, x.cost(text, 0, 0));
            Edges.says("The DAY's sum by a CUT. NONE: no such ones.");
            Edges.none("text " + text, x.daily(text, 0, 0));
            Edges.says("LEAST of a DAY: the CUT. NONE: BARRED, not told, no such ones.");
            Edges.none("text " + text, x.leastDay(text, 0, 2));
            Edges.says("How many STEPS are elsewhere in two CUTS. NONE: no such ones.");
            Edges.none("text " + text, x.moved(text, 0, 0));
        }
        for (int sheet : Edges.outside(0, 2)) {
            Edges.says("PRICE. NONE likewise, no such SHEET.");
            Edges.none("sheet " + sheet, x.price(1, 0, sheet));
            Edges.says("LEAST: the CUT. NONE: BARRED, not told, no such ones.");
            Edges.none("sheet " + sheet, x.least(1, sheet, 2));
            Edges.none("sheet " + sheet, x.least(1, sheet, 3));
            Edges.says("WORKED TWICE: the least PRICE. NONE likewise.");
            Edges.none("sheet " + sheet, x.twice(1, sheet, 2));
            Edges.says("COST of an ASK. NONE: no such ones.");
            Edges.none("sheet " + sheet, x.cost(1, 0, sheet));
            Edges.says("The DAY's sum by a CUT. NONE: no such ones.");
            Edges.none("sheet " + sheet, x.daily(1, 0, sheet));
            Edges.says("LEAST of a DAY: the CUT. NONE: BARRED, not told, no such ones.");
            Edges.none("sheet " + sheet, x.leastDay(1, sheet, 2));
        }
        x.day(1);
        for (int sheet = 0; sheet < 3; sheet++) {
            x.work(sheet, 0, 10 + sheet);
            Edges.says("PRICES by SHEETS 0 .. 2");
            Edges.due("price", x.price(0, 0, sheet), 10 + sheet);
            Edges.due("cost", x.cost(0, 0, sheet), 10 + sheet);
            Edges.due("daily", x.daily(0, 0, sheet), 10 + sheet);
            Edges.due("least", x.least(0, sheet, 2), 1);
            Edges.due("twice", x.twice(0, sheet, 2), 1);
            Edges.due("leastDay", x.leastDay(0, sheet, 2), 1);
        }
    }

    private static void flowEdges() {
        Edges.says("and some way through the TEXT (each ? taken or not, whatever it is) leads from that to this with no STEP between that gives V");
        ManyPlaces x = Edges.with("a=1;?0{a=2;!a};?1{a=3};!a", "a=1;?1{?1{a=2};!a};!a", "?1{a=1};?1{!a;?1{a=2};!a};a=a;!a", "a=1;a=2;!a");
        int[][] flows = {{0, 0, 0, 0b100, 0, 0, 0b100101}, {0, 0, 0, 0, 0b1001, 0b1001}, {0, 0, 0, 0b10, 0, 0, 0b100010, 0b100010, 0b10000000}, {0, 0, 0b10}};
        for (int t = 0; t < flows.length; t++) {
            for (int i = 0; i < flows[t].length; i++) {
                Edges.due("text " + t + ", step " + i, x.step(t, i, 7), flows[t][i]);
            }
        }
        Edges.says("FLOW of a V from a STEP to a later one: that gives V, this reads it");
        ManyPlaces y = Edges.with("a=a;b=a+a;#0=b;!#0;?b{!c}");
        int[] due = {0, 0b1, 0b10, 0, 0b10, 0};
        for (int i = 0; i < due.length; i++) {
            Edges.due("step " + i, y.step(0, i, 7), due[i]);
        }
    }

    private static void wordsOnce() {
        Edges.says("one for each INPUT, and each STEP, and each PLACE elsewhere where some STEP NEEDS it");
        ManyPlaces x = Edges.with("!$0;!$0;!$0*$0", "a=1;!a;!a*a;!a", "?1{!1;!2;?1{!3}}", "a=$0;?a{!a}");
        Edges.due("an input that is near", x.words(0, 0), 0);
        Edges.due("to one place, for three steps", x.words(0, Edges.cut(1, 1, 1)), 1);
        Edges.due("to two places", x.words(0, Edges.cut(1, 2, 1)), 2);
        Edges.due("to three places", x.words(0, Edges.cut(1, 2, 3)), 3);
        Edges.due("a step to one place, for three", x.words(1, Edges.cut(3, 0, 0, 0)), 1);
        Edges.due("a step to three places", x.words(1, Edges.cut(3, 0, 1, 2)), 3);
        Edges.due("a step to its own place", x.words(1, Edges.cut(3, 3, 3, 3)), 0);
        Edges.due("a ? to the places of its block", x.words(2, Edges.cut(0, 1, 1, 0, 2)), 2);
        Edges.due("an inner ? needs the outer one, what it holds does not", x.words(2, Edges.cut(0, 0, 0, 1, 2)), 2);
        Edges.due("a step and the ? around are two", x.words(3, Edges.cut(0, 0, 1)), 2);
        Edges.says("INPUTS and CELLS that it reads, STEPS it has a FLOW from, the ? AROUND it");
        Edges.due("what the ? read is not needed in its block", x.words(3, Edges.cut(0, 1, 1)), 1);
        Edges.due("nor the input", x.words(3, Edges.cut(0, 0, 3)), 2);
    }

    private static void wordsOfCells() {
        Edges.says("for each STEP and each CELL that it reads from elsewhere one from the CELL's PLACE, and one to it, if it gives a CELL elsewhere a number");
        ManyPlaces x = Edges.with("!#0;!#0;!#0*#0+#1", "#0=#0", "#0=1;!#0", "#0=#0+#1+#2+#3+#4+#5+#6+#7");
        Edges.due("near", x.words(0, 0), 0);
        Edges.due("for each step, and each cell once", x.words(0, Edges.cut(1, 1, 1)), 4);
        Edges.due("read and given", x.words(1, 2), 2);
        Edges.due("given, and read by another", x.words(2, Edges.cut(1, 1)), 2);
        Edges.due("given elsewhere, read near", x.words(2, Edges.cut(1, 0)), 1);
        Edges.due("all eight", x.words(3, 3), 9);
        x.put(1, 0, 3);
        Edges.due("one is there", x.words(3, 3), 7);
        x.word(0, 3, 1, 100);
        x.word(0, 1, 3, 200);
        x.word(0, 0, 1, 300);
        Edges.due("from the cell's place, and to it", x.price(3, 1, 0), 8 + 100 + 200 + 7 * 300);
    }

    private static void dearestPrice() {
        Edges.says("PRICE of a CUT: the sum of WEIGHT times WORK of all STEPS, and of WORD of all WORDS.");
        String all = "#0=#0+#1+#2+#3+#4+#5+#6+#7+$0+$1+$2+$3+$4+$5+$6+$7";
        ManyPlaces x = Edges.with(all + ";" + all + ";" + all + ";" + all);
        for (int from = 0; from < 4; from++) {
            x.work(2, from, 99);
            for (int to = 0; to < 4; to++) {
                x.word(2, from, to, 999);
            }
        }
        long cut = Edges.cut(1, 2, 3, 1);
        // For each step eight cells read and one given; the inputs to three places.
        Edges.due("words", x.words(0, cut), 4 * 9 + 3 * 8);
        Edges.due("price", x.price(0, cut, 2), 4 * 16 * 99 + (4 * 9 + 3 * 8) * 999);
        Edges.due("cost", x.cost(0, cut, 2), 4 * 16 * 99 + (4 * 9 + 3 * 8) * 999);
        for (int i = 0; i < 8; i++) {
            x.day(99);
        }
        Edges.due("a full day", x.daily(0, cut, 2), 8 * 99 * (4 * 16 * 99 + (4 * 9 + 3 * 8) * 999));
    }

    private static void leastBounds() {
        Edges.says("LEAST: the CUT. NONE: BARRED, not told, no such ones.");
        ManyPlaces x = Edges.with("!1", "@2!1", "@3!1", "!$0");
        for (int k : Edges.outside(2, 4)) {
            Edges.none("k of " + k, x.least(0, 0, k));
        }
        for (int k = 2; k <= 4; k++) {
            Edges.due("k of " + k, x.least(0, 0, k), 0);
        }
        Edges.none("an @ outside", x.least(1, 0, 2));
        Edges.due("an @ within", x.least(1, 0, 3), 2);
        Edges.none("an @ outside", x.least(2, 0, 3));
        Edges.due("an @ within", x.least(2, 0, 4), 3);
        x.secret(0, 0);
        for (int p = 0; p < 4; p++) {
            Edges.due("laws leave a place", x.least(3, 0, 4), p);
            x.law(p, 0, 0);
        }
        for (int k = 2; k <= 4; k++) {
            Edges.none("laws leave none", x.least(3, 0, k));
        }
    }

    private static String reading(int more) {
        return "!$0;" + Edges.lines(more);
    }

    /** Bars the first step of such a text from places 1 and 2: it is free with four places alone. */
    private static ManyPlaces freeWithFour(String... texts) {
        ManyPlaces x = Edges.with(texts);
        x.secret(0, 0);
        x.law(1, 0, 0);
        x.law(2, 0, 0);
        return x;
    }

    private static void leastTold() {
        Edges.says("With k of 3, 4 and more than 8 FREE it is not told.");
        ManyPlaces x = freeWithFour(reading(7), reading(8), reading(9), Edges.lines(16), Edges.lines(8) + ";@0!1;@1!1;@1!1");
        x.work(0, 0, 5);
        Edges.due("8 free with four", x.least(0, 0, 4), Edges.cut(0, 1, 1, 1, 1, 1, 1, 1));
        Edges.due("8 free with three, 9 with four: three", x.least(1, 0, 3), Edges.cut(0, 1, 1, 1, 1, 1, 1, 1, 1));
        Edges.none("8 free with three, 9 with four: four", x.least(1, 0, 4));
        Edges.due("with two", x.least(1, 0, 2), Edges.cut(0, 1, 1, 1, 1, 1, 1, 1, 1));
        Edges.none("9 free with three", x.least(2, 0, 3));
        Edges.none("10 free with four", x.least(2, 0, 4));
        Edges.due("9 free with two", x.least(2, 0, 2), Edges.allAt(1, 10) - 1);
        Edges.due("16 free with two", x.least(3, 0, 2), Edges.allAt(1, 16));
        Edges.none("16 free with three", x.least(3, 0, 3));
        Edges.none("16 free with four", x.least(3, 0, 4));
        Edges.due("steps with an @ are not counted", x.least(4, 0, 4), Edges.cut(1, 1, 1, 1, 1, 1, 1, 1, 0, 1, 1));
    }

    private static void leastTies() {
        Edges.says("of several the one with the lower PLACE of the first STEP that differs");
        ManyPlaces x = Edges.with("a=1;!a+$0", "!1;!1", "!1;a=1;@1!a");
        for (int k = 2; k <= 4; k++) {
            Edges.due("all alike", x.least(1, 0, k), 0);
        }
        x.secret(0, 0);
        x.law(0, 0, 0);
        x.put(0, 0, 3);
        x.word(0, 3, 1, 0);
        x.word(0, 3, 2, 0);
        x.word(0, 0, 2, 0);
        // 0 2, 1 1 and 2 2 cost 3 each; 1 1 is the lowest as a number.
        Edges.due("0 2 goes before 1 1", x.least(0, 0, 3), Edges.cut(0, 2));
        Edges.due("with two places it is 1 1", x.least(0, 0, 2), Edges.cut(1, 1));
        x.word(1, 0, 1, 0);
        Edges.due("a word that costs nothing", x.least(2, 1, 2), Edges.cut(0, 0, 1));
        Edges.due("likewise with four", x.least(2, 1, 4), Edges.cut(0, 0, 1));
        x.word(1, 0, 1, 1);
        Edges.due("a word that costs one", x.least(2, 1, 2), Edges.cut(0, 1, 1));
        Edges.due("likewise with four", x.least(2, 1, 4), Edges.cut(0, 1, 1));
        x.work(1, 1, 2);
        Edges.due("as much as the work", x.least(2, 1, 2), Edges.cut(0, 0, 1));
        Edges.due("likewise with four", x.least(2, 1, 4), Edges.cut(0, 0, 1));
    }

    private static void leastWordsOnce() {
        Edges.says("of LAWFUL CUTS with these that with the least PRICE");
        for (int k = 2; k <= 4; k++) {
            ManyPlaces x = Edges.with("a=1;@1!a;@1!a", "@1!$0;!$0", "!$0;@1!$0", "?1{@1!1;@1!1}", "@1!#0;!#0", "a=1;@1b=a;c=a+a;@1!b+c");
            x.work(0, 1, 11);
            x.work(0, 2, 50);
            x.work(0, 3, 50);
            x.day(1);
            // At 0 it is 1 and one word, at 1 it is 11; two words would be more.
            Edges.due("as dear: one word for two steps", x.least(0, 0, k), Edges.cut(0, 1, 1));
            Edges.due("of a ?, too", x.least(3, 0, k), Edges.cut(0, 1, 1));
            Edges.due("by a day, too", x.leastDay(0, 0, k), Edges.cut(0, 1, 1));
            Edges.due("of a ? by a day, too", x.leastDay(3, 0, k), Edges.cut(0, 1, 1));
            x.work(0, 1, 10);
            Edges.due("cheaper at 1", x.least(0, 0, k), Edges.cut(1, 1, 1));
            Edges.due("by a day, too", x.leastDay(0, 0, k), Edges.cut(1, 1, 1));
            x.work(0, 0, 12);
            // The input comes to 1 once, whoever reads it there; a cell would come twice.
            Edges.due("an input that comes there in any case", x.least(1, 0, k), Edges.cut(1, 1));
            Edges.due("for a step behind", x.least(2, 0, k), Edges.cut(1, 1));
            Edges.due("by a day, too", x.leastDay(1, 0, k), Edges.cut(1, 1));
            Edges.due("a cell comes for each step", x.least(4, 0, k), Edges.cut(1, 0));
            Edges.due("by a day, too", x.leastDay(4, 0, k), Edges.cut(1, 0));
            // All at 1 is 10 for each weight; c at 0 would be 24 and a word more.
            Edges.due("a net of four", x.least(5, 0, k), Edges.cut(1, 1, 1, 1));
            x.work(0, 0, 0);
            // a and c at 0 for nothing and two words are 20; both at 1 would be 30, and so would one of them.
            Edges.due("a net of four, 0 for nothing", x.least(5, 0, k), Edges.cut(0, 1, 0, 1));
        }
    }

    private static void soughtAgain() {
        Edges.says("An object is used for at most 512 calls after it has been made");
        ManyPlaces x = Edges.with("a=$0;b=a+$1;c=b+a;d=c+$2;e=d+c+b;f=e+a;g=f+e;h=g+$3;a=h+g;b=a+h;c=b+a;d=c+b;e=d+c;f=e+d;g=f+$4;@1!g",
            "a=$0;b=a+$1;@2!b;@1!a");
        for (int i = 0; i < 8; i++) {
            x.put(0, i, 2 + i % 2);
        }
        x.work(0, 0, 2);
        x.work(0, 2, 9);
        x.word(0, 2, 1, 50);
        x.word(0, 3, 1, 50);
        x.word(0, 0, 1, 3);
        x.day(2);
        // By the words of the inputs the steps stand at 0, and the last one has its letter from there.
        long chain = 1L << 30;
        for (int i = 0; i < 95; i++) {
            Edges.due("least of two, time " + i, x.least(0, 0, 2), chain);
            Edges.due("least of three", x.least(1, 0, 3), Edges.cut(0, 0, 2, 1));
            Edges.due("worked twice", x.twice(1, 0, 3), 2 + 4 + 9 + 1 + 10 + 10 + 10 + 3);
            Edges.due("better", x.better(0, NONE), NONE);
            Edges.due("least of a day", x.leastDay(1, 0, 3), Edges.cut(0, 0, 2, 1));
        }
    }

    private static void twiceBounds() {
        Edges.says("WORKED TWICE: the least PRICE. NONE likewise.");
        ManyPlaces x = Edges.with("!1", "@2!1", "@3!1", "!$0");
        for (int k : Edges.outside(2, 4)) {
            Edges.none("k of " + k, x.twice(0, 0, k));
        }
        for (int k = 2; k <= 4; k++) {
            Edges.due("k of " + k, x.twice(0, 0, k), 1);
        }
        Edges.none("an @ outside", x.twice(1, 0, 2));
        Edges.due("an @ within", x.twice(1, 0, 3), 1);
        Edges.none("an @ outside", x.twice(2, 0, 3));
        Edges.due("an @ within", x.twice(2, 0, 4), 1);
        x.secret(0, 0);
        for (int p = 0; p < 4; p++) {
            x.law(p, 0, 0);
        }
        Edges.none("laws leave none", x.twice(3, 0, 4));
    }

    private static void twiceTold() {
        Edges.says("The least PRICE so (5 FREE at most, else not told).");
        ManyPlaces x = freeWithFour(reading(4), reading(5), Edges.lines(5), Edges.lines(6), Edges.lines(5) + ";@0!1;@1!1");
        Edges.due("5 free with four", x.twice(0, 0, 4), 5);
        Edges.due("5 free with three, 6 with four: three", x.twice(1, 0, 3), 6);
        Edges.none("5 free with three, 6 with four: four", x.twice(1, 0, 4));
        Edges.due("and with two", x.twice(1, 0, 2), 6);
        for (int k = 2; k <= 4; k++) {
            Edges.due("5 free", x.twice(2, 0, k), 5);
            Edges.none("6 free", x.twice(3, 0, k));
        }
        Edges.due("steps with an @ are not counted", x.twice(4, 0, 4), 7);
    }

    private static void twiceKinds() {
        Edges.says("STEPS of KINDS 0 and 3 that are FREE may be at two of these PLACES: WORK at both");
        ManyPlaces x = Edges.with("a=1;@0!a;@1!a", "?1{@0!1;@1!1}", "#0=1;@0!1;@1!#0", "@0a=1;@1!a", "a=$0;@0!a;@1!a");
        Edges.due("a V", x.twice(0, 0, 2), 4);
        Edges.due("a ?", x.twice(1, 0, 2), 4);
        Edges.due("a cell is given once", x.twice(2, 0, 2), 13);
        Edges.due("an @: it is not free", x.twice(3, 0, 2), 12);
        x.work(0, 1, 10);
        // Sent: 1, 1, 10 and a word; twice: 11, 1 and 10.
        Edges.due("as dear both ways", x.twice(0, 0, 2), 22);
        x.work(0, 1, 11);
        Edges.due("sent is cheaper", x.twice(0, 0, 2), 23);
        x.work(0, 1, 9);
        Edges.due("twice is cheaper", x.twice(0, 0, 2), 20);
        x.secret(0, 0);
        x.law(2, 0, 0);
        x.put(0, 0, 2);
        // The input goes to one place and a on from there; at both it would go twice.
        Edges.says("at both what they NEED is needed");
        Edges.due("a at 0, and sent", x.twice(4, 0, 2), 1 + 1 + 9 + 10 + 10);
        x.word(0, 2, 1, 0);
        Edges.due("the second input costs nothing", x.twice(4, 0, 2), 9 + 9 + 1 + 10);
        Edges.says("what NEEDS them elsewhere gets one WORD from the one of the two that is cheaper");
        ManyPlaces y = Edges.with("a=1;@0!a;@1!a;@2!a;@2!a", "a=1;@0!a;@1!a;@2!a");
        Edges.due("two places, not three, and one word for two steps", y.twice(0, 0, 3), 2 + 4 + 10);
        Edges.due("two places, not three", y.twice(1, 0, 3), 2 + 3 + 10);
        y.word(0, 1, 2, 4);
        Edges.due("from the cheaper of 0 and 1", y.twice(1, 0, 3), 2 + 3 + 4);
        y.word(0, 2, 1, 3);
        Edges.due("or at 0 and 2, or 1 and 2", y.twice(1, 0, 3), 2 + 3 + 3);
        y.word(0, 2, 0, 0);
        Edges.due("from 2 to 0 for nothing", y.twice(1, 0, 3), 2 + 3);
    }

    private static void betterBounds() {
        Edges.says("BETTER: how many CUTS (i NONE), the i-th by numbers. NONE: without, not told, no such TEXT.");
        ManyPlaces x = Edges.with("!1;!1", "@0!1;@1!1", "@2!1");
        Edges.due("how many", x.better(0, NONE), 4);
        for (int i = 0; i < 4; i++) {
            Edges.due("by numbers", x.better(0, i), Edges.cut(i % 2, i / 2));
        }
        for (int i : new int[] {LEAST, -2, 4, 5, 256, MOST}) {
            Edges.none("i of " + i, x.better(0, i));
        }
        Edges.due("one alone", x.better(1, NONE), 1);
        Edges.due("it", x.better(1, 0), 4);
        Edges.none("no second", x.better(1, 1));
        for (int i : new int[] {NONE, 0, 1}) {
            Edges.none("without any lawful cut, i of " + i, x.better(2, i));
        }
    }

    private static void betterTold() {
        Edges.says("(8 FREE at most)");
        ManyPlaces x = freeWithFour(reading(8), reading(9), Edges.lines(8), Edges.lines(9), Edges.lines(8) + ";@0!1;@1!1");
        Edges.due("8 free", x.better(2, NONE), 256);
        Edges.due("the last of them", x.better(2, 255), Edges.allAt(1, 8));
        Edges.none("none more", x.better(2, 256));
        Edges.none("9 free", x.better(3, NONE));
        Edges.none("9 free, the first", x.better(3, 0));
        Edges.due("what is free with four alone is not counted", x.better(0, NONE), 256);
        Edges.none("9 others are", x.better(1, NONE));
        ManyPlaces y = Edges.with(reading(8));
        y.secret(0, 0);
        y.law(1, 0, 0);
        Edges.due("what is free with three alone is not counted", y.better(0, NONE), 256);
        Edges.due("which is one more", y.free(0, 3), 9);
        Edges.due("steps with an @ are not counted", x.better(4, NONE), 256);
        Edges.due("the last of them", x.better(4, 255), Edges.cut(1, 1, 1, 1, 1, 1, 1, 1, 0, 1));
        ManyPlaces z = Edges.with(Edges.lines(8) + ";@1!1".repeat(8), "@1!1;".repeat(8) + Edges.lines(8));
        Edges.due("16 steps, 8 free", z.better(0, NONE), 256);
        Edges.due("the first of them", z.better(0, 0), Edges.allAt(1, 8) << 16);
        Edges.due("the last of them", z.better(0, 255), Edges.allAt(1, 16));
        Edges.due("the first, with the free ones behind", z.better(1, 0), Edges.allAt(1, 8));
        Edges.due("the second", z.better(1, 1), Edges.allAt(1, 8) + (1L << 16));
        Edges.due("the last", z.better(1, 255), Edges.allAt(1, 16));
        Edges.none("none more", z.better(1, 256));
    }

    private static void betterTies() {
        Edges.says("those to which none is at most as dear by all three SHEETS and cheaper by one");
        ManyPlaces x = Edges.with("!1");
        Edges.due("as dear by all: both", x.better(0, NONE), 2);
        x.work(2, 0, 2);
        Edges.due("cheaper by the third alone", x.better(0, NONE), 1);
        Edges.due("it", x.better(0, 0), 1);
        x.work(0, 1, 2);
        Edges.due("dearer by the first", x.better(0, NONE), 2);
        x.work(0, 0, 2);
        Edges.due("as dear by it", x.better(0, NONE), 1);
        x.work(1, 0, 0);
        Edges.due("cheaper by the second", x.better(0, NONE), 2);
        Edges.due("the first", x.better(0, 0), 0);
        Edges.due("the second", x.better(0, 1), 1);
        x.work(2, 0, 1);
        Edges.due("0 is as dear or cheaper now", x.better(0, NONE), 1);
        Edges.due("it", x.better(0, 0), 0);
    }

    private static void costEdges() {
        Edges.says("WORDS as in 2, but of STEPS done alone, for a V from the STEP that gave it last");
        ManyPlaces x = Edges.with("a=1;?$0{a=2};!a", "!a");
        long cut = Edges.cut(1, 0, 2, 3);
        Edges.due("from the first", x.cost(0, cut, 0), 3 + 10 + 10);
        x.word(0, 1, 3, 100);
        Edges.due("by its way", x.cost(0, cut, 0), 3 + 10 + 100);
        x.lay(0, 1);
        Edges.due("from the second, the first is sent to nobody", x.cost(0, cut, 0), 4 + 10 + 10);
        x.lay(0, MOST);
        Edges.due("taken by the most", x.cost(0, cut, 0), 4 + 10 + 10);
        x.lay(0, LEAST);
        Edges.due("not taken by the least", x.cost(0, cut, 0), 3 + 10 + 100);
        Edges.due("a V that nobody gave", x.cost(1, 3, 0), 1);
        ManyPlaces y = Edges.with("?$0{!$1+#1;#2=1};!1");
        y.put(0, 1, 1);
        y.put(1, 1, 1);
        y.put(1, 2, 1);
        Edges.due("what is not done gets no inputs and no cells, and gives none", y.cost(0, 0, 0), 2);
        Edges.due("the price has them all", y.price(0, 0, 0), 5 + 30);
        Edges.due("the cost still not", y.cost(0, 0, 0), 2);
        y.lay(0, 1);
        Edges.due("what is done does", y.cost(0, 0, 0), 5 + 30);
        y.lay(0, 0);
        Edges.due("and then it does not", y.cost(0, 0, 0), 2);
    }

    private static void costOfBlocks() {
        Edges.says("a ? that is done is NEEDED by all STEPS AROUND which it stands, done or not");
        ManyPlaces x = Edges.with("?$0{!1;?$1{!2};!3}");
        // Steps: 0 ?, 1 !, 2 ?, 3 !, 4 !.
        long cut = Edges.cut(0, 1, 2, 3, 1);
        Edges.due("not taken: told to 1 and 2, the inner one to nobody", x.cost(0, cut, 0), 1 + 20);
        x.lay(0, 1);
        // The input 1 goes to the inner ? at 2, which tells it to 3.
        Edges.due("taken: the inner one tells 3, which is not done", x.cost(0, cut, 0), 4 + 20 + 10 + 10);
        x.lay(1, 1);
        Edges.due("both taken", x.cost(0, cut, 0), 5 + 20 + 10 + 10);
        Edges.due("near ones are told for nothing", x.cost(0, 0, 0), 5);
        x.day(1);
        Edges.due("a day's row likewise", x.daily(0, cut, 0), 45);
        x.lay(0, 0);
        x.day(2);
        Edges.due("and one not taken", x.daily(0, cut, 0), 45 + 2 * 21);
    }

    private static void dayBounds() {
        Edges.says("The INPUTS as they lie are a row of the DAY, with a share: how many there are. NONE: share, there are eight.");
        ManyPlaces x = Edges.with("!1");
        for (int share : Edges.outside(1, 99)) {
            Edges.none("share " + share, x.day(share));
            Edges.due("no row", x.count(3), 0);
        }
        Edges.none("share -5", x.day(-5));
        Edges.due("share 1", x.day(1), 1);
        Edges.due("share 99", x.day(99), 2);
        for (int i = 3; i <= 8; i++) {
            Edges.due("row", x.day(i), i);
        }
        int sum = 1 + 99 + 3 + 4 + 5 + 6 + 7 + 8;
        Edges.due("the sum", x.daily(0, 0, 0), sum);
        Edges.none("a ninth", x.day(1));
        Edges.none("a ninth that is out of bounds, too", x.day(100));
        Edges.due("eight", x.count(3), 8);
        Edges.due("the sum stays", x.daily(0, 0, 0), sum);
    }

    private static void nights() {
        Edges.says("No rows of the DAY: how many there were.");
        ManyPlaces x = Edges.with("!1");
        Edges.due("none at first", x.night(), 0);
        x.day(5);
        Edges.due("one", x.night(), 1);
        Edges.due("none then", x.night(), 0);
        Edges.due("none are counted", x.count(3), 0);
        Edges.due("the sum of none", x.daily(0, 0, 0), 0);
        for (int i = 1; i <= 8; i++) {
            Edges.due("rows anew", x.day(1), i);
        }
        Edges.due("eight", x.night(), 8);
        Edges.due("room again", x.day(2), 1);
        Edges.due("the old ones are gone", x.daily(0, 0, 0), 2);
    }

    private static void dayRows() {
        Edges.says("DAY: up to eight rows of INPUTS with a share (1 .. 99): the sum of share times COST.");
        ManyPlaces x = Edges.with("?$0{!1};?$7{!1}", "#0=1", "?#0{!1}");
        x.lay(7, 1);
        x.day(10);
        x.lay(7, -1);
        x.lay(0, 5);
        Edges.due("a row is as the inputs lay", x.daily(0, 0, 0), 10 * 3);
        x.day(1);
        x.lay(7, 1);
        x.day(99);
        x.lay(0, 0);
        x.lay(7, 0);
        Edges.due("three rows", x.daily(0, 0, 0), 10 * 3 + 3 + 99 * 4);
        Edges.due("the inputs that lie have a cost of their own", x.cost(0, 0, 0), 2);
        Edges.due("cells are as they are", x.daily(2, 0, 0), 110);
        x.ask(1, 0);
        Edges.due("cells are as they are now", x.daily(2, 0, 0), 220);
    }

    private static void leastDayTold() {
        Edges.says("LEAST of a DAY: the CUT. NONE: BARRED, not told, no such ones.");
        ManyPlaces x = Edges.with("!1", "@2!1", "!$0");
        for (int k : Edges.outside(2, 4)) {
            Edges.none("k of " + k, x.leastDay(0, 0, k));
        }
        for (int k = 2; k <= 4; k++) {
            Edges.due("k of " + k, x.leastDay(0, 0, k), 0);
        }
        Edges.none("an @ outside", x.leastDay(1, 0, 2));
        Edges.due("an @ within", x.leastDay(1, 0, 3), 2);
        x.secret(0, 0);
        for (int p = 0; p < 4; p++) {
            Edges.due("laws leave a place", x.leastDay(2, 0, 4), p);
            x.law(p, 0, 0);
        }
        Edges.none("laws leave none", x.leastDay(2, 0, 4));
        Edges.says("LEAST of a DAY likewise (for each k 6 FREE at most, else not told)");
        ManyPlaces y = freeWithFour(reading(5), reading(6), Edges.lines(6), Edges.lines(7), Edges.lines(6) + ";@1!1");
        Edges.due("6 free with four", y.leastDay(0, 0, 4), 0);
        Edges.due("6 free with three, 7 with four: three", y.leastDay(1, 0, 3), 0);
        Edges.none("6 free with three, 7 with four: four", y.leastDay(1, 0, 4));
        Edges.due("and with two", y.leastDay(1, 0, 2), 0);
        for (int k = 2; k <= 4; k++) {
            Edges.due("6 free", y.leastDay(2, 0, k), 0);
            Edges.none("7 free", y.leastDay(3, 0, k));
        }
        y.work(0, 0, 2);
        Edges.due("no rows: all cost nothing", y.leastDay(4, 0, 4), 1 << 12);
        y.day(1);
        Edges.due("a row", y.leastDay(4, 0, 4), Edges.allAt(1, 7));
    }

    private static void leastDayTies() {
        Edges.says("LEAST of a DAY likewise");
        ManyPlaces x = Edges.with("a=1;!a+$0");
        x.secret(0, 0);
        x.law(0, 0, 0);
        Edges.due("no rows: the lowest places there are", x.leastDay(0, 0, 4), Edges.cut(0, 1));
        x.put(0, 0, 3);
        x.word(0, 3, 1, 0);
        x.word(0, 3, 2, 0);
        x.word(0, 0, 2, 0);
        x.day(7);
        Edges.due("0 2 goes before 1 1", x.leastDay(0, 0, 3), Edges.cut(0, 2));
        Edges.due("with two places it is 1 1", x.leastDay(0, 0, 2), Edges.cut(1, 1));
        ManyPlaces y = Edges.with("?$0{@1!1}");
        y.day(9);
        y.work(0, 1, 10);
        y.word(0, 0, 1, 9);
        // At 0 each row costs 1 and 9 for the word, at 1 it costs 10 and 10 for the input.
        Edges.due("the word is cheaper", y.leastDay(0, 0, 2), Edges.cut(0, 1));
        y.put(0, 0, 1);
        // At 0 now 1, 10 for the input and 9; at 1 it costs 10.
        Edges.due("the input is at 1", y.leastDay(0, 0, 2), Edges.cut(1, 1));
        y.word(0, 1, 0, 0);
        Edges.due("as dear: the lower", y.leastDay(0, 0, 2), Edges.cut(0, 1));
        y.word(0, 1, 0, 1);
        Edges.due("one more", y.leastDay(0, 0, 2), Edges.cut(1, 1));
    }

    private static void moves() {
        Edges.says("How many STEPS are elsewhere in two CUTS. NONE: no such ones.");
        ManyPlaces x = Edges.with("!1;!1;!1", Edges.lines(16));
        Edges.due("none", x.moved(0, 63, 63), 0);
        Edges.due("the first", x.moved(0, 63, 62), 1);
        Edges.due("the last", x.moved(0, 63, 15), 1);
        Edges.due("all", x.moved(0, 63, 0), 3);
        Edges.due("all sixteen", x.moved(1, 0, (1L << 32) - 1), 16);
        Edges.due("and back", x.moved(1, (1L << 32) - 1, 0), 16);
        Edges.due("one by two bits", x.moved(0, Edges.cut(0, 1, 0), Edges.cut(0, 2, 0)), 1);
    }
}
