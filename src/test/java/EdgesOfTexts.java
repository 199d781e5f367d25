/** Edges of part 1 and of promises 1 to 11: the tape, the reading of it, steps, asks and what they show. */
final class EdgesOfTexts {
    private static final int NONE = Edges.NONE;
    private static final int LEAST = Edges.LEAST;
    private static final int MOST = Edges.MOST;

    private EdgesOfTexts() {
    }

    static void all() {
        newObject();
        feedOrder();
        feedFull();
        ends();
        signsOfTexts();
        blanks();
        nesting();
        manyLines();
        prefixes();
        namedFaults();
        faultOfTape();
        textsFull();
        stepNumbers();
        stepBits();
        weights();
        arounds();
        stepsOutside();
        lays();
        numbersWrap();
        blocks();
        lettersAndCells();
        names();
        namesAgain();
        showns();
        cells();
    }

    private static void newObject() {
        Edges.says("`ManyPlaces()`: No TEXTS.");
        ManyPlaces x = new ManyPlaces();
        Edges.due("count(0)", x.count(0), 0);
        Edges.none("steps(0)", x.steps(0));
        Edges.refuses("step(0, 0, 0)", () -> x.step(0, 0, 0));
        Edges.none("ask(0, 0)", x.ask(0, 0));
        Edges.none("may(0, 0, 0)", x.may(0, 0, 0));
        Edges.none("barred(0, 1, 0)", x.barred(0, 1, 0));
        Edges.none("lawful(0, 0)", x.lawful(0, 0));
        Edges.none("words(0, 0)", x.words(0, 0));
        Edges.none("price(0, 0, 0)", x.price(0, 0, 0));
        Edges.none("free(0, 2)", x.free(0, 2));
        Edges.none("least(0, 0, 2)", x.least(0, 0, 2));
        Edges.none("twice(0, 0, 2)", x.twice(0, 0, 2));
        Edges.none("better(0, NONE)", x.better(0, NONE));
        Edges.none("cost(0, 0, 0)", x.cost(0, 0, 0));
        Edges.none("daily(0, 0, 0)", x.daily(0, 0, 0));
        Edges.none("leastDay(0, 0, 2)", x.leastDay(0, 0, 2));
        Edges.none("moved(0, 0, 0)", x.moved(0, 0, 0));
        Edges.none("await(0, 0)", x.await(0, 0));
        Edges.none("led(0, 0, NONE)", x.led(0, 0, NONE));
        Edges.none("parts(0, 0, 0)", x.parts(0, 0, 0));
        Edges.none("on(0, 0, 0)", x.on(0, 0, 0));
        ManyPlaces other = Edges.with("#0=5;!1");
        other.ask(0, 0);
        other.law(0, 0, 0);
        other.away(1);
        Edges.due("what another object has is not this one's: texts", x.count(0), 0);
        Edges.due("cells", x.cell(0, false), 0);
        Edges.due("laws", x.count(1), 0);
        Edges.none("a place that is away", x.count(5));
    }

    private static void feedOrder() {
        Edges.says("of each number the highest first; bytes of 0 are left out");
        ManyPlaces x = new ManyPlaces();
        Edges.due("a full feed", x.feed(0x613d313b, 0x623d323b, 0x633d333b, 0x21612b62, 0x2a632b30), 20);
        Edges.due("a=1;b=2;c=3;!a+b*c+0 is a text", x.text(), 0);
        x.ask(0, 0);
        Edges.due("and shows 7", x.shown(0, 0), 7);
        for (int p = 0; p < 20; p++) {
            ManyPlaces y = new ManyPlaces();
            Edges.due("one byte at " + p, oneByte(y, p, '!'), 1);
            Edges.due("and one more at " + (19 - p), oneByte(y, 19 - p, '7'), 2);
            Edges.none("!7 is a text", y.fault());
        }
        ManyPlaces z = new ManyPlaces();
        Edges.due("bytes of 0 alone", z.feed(0, 0, 0, 0, 0), 0);
        Edges.due("bytes of 1", z.feed(0x01010101, 0, 0, 0, 0), 4);
        Edges.due("bytes of 255", z.feed(-1, -1, -1, -1, -1), 24);
        Edges.due("bytes of 128 and 0", z.feed(LEAST, 0, 0, 0, 128), 26);
        Edges.due("which no text has", z.fault(), 0);
    }

    private static int oneByte(ManyPlaces x, int at, int sign) {
        int[] w = new int[5];
        w[at / 4] = sign << (24 - 8 * (at % 4));
        return x.feed(w[0], w[1], w[2], w[3], w[4]);
    }

    private static void feedFull() {
        Edges.says("how many it has. NONE: more than 240.");
        ManyPlaces x = new ManyPlaces();
        int blanks = 0x20202020;
        for (int i = 1; i <= 11; i++) {
            Edges.due("feed " + i, x.feed(blanks, blanks, blanks, blanks, blanks), 20 * i);
        }
        Edges.due("18 more", x.feed(blanks, blanks, blanks, blanks, 0x20200000), 238);
        Edges.none("three more are one too many", x.feed(0, 0, 0x00210021, 0, 0x31000000));
        Edges.due("none of the three came", x.count(4), 238);
        Edges.due("it ends too early", x.fault(), 238);
        Edges.due("two more fill it", x.feed(0, 0x00210000, 0, 0, 0x00000031), 240);
        Edges.none("240 bytes may be a text", x.fault());
        Edges.none("one more, the first of twenty", oneByte(x, 0, '1'));
        Edges.none("one more, the last of twenty", oneByte(x, 19, '1'));
        Edges.none("twenty more", x.feed(-1, -1, -1, -1, -1));
        Edges.due("bytes of 0 alone are not more", x.feed(0, 0, 0, 0, 0), 240);
        Edges.due("it still has 240", x.count(4), 240);
        Edges.due("240 bytes are a text", x.text(), 0);
        Edges.due("of one step", x.steps(0), 1);
        Edges.due("and then there is room", x.feed(-1, -1, -1, -1, -1), 20);
        ManyPlaces y = new ManyPlaces();
        oneByte(y, 0, ' ');
        for (int i = 1; i <= 11; i++) {
            Edges.due("feed " + i, y.feed(blanks, blanks, blanks, blanks, blanks), 20 * i + 1);
        }
        Edges.none("221 and 20", y.feed(blanks, blanks, blanks, blanks, blanks));
        Edges.due("221 and 19", y.feed(blanks, blanks, blanks, blanks, 0x00202020), 240);
        Edges.due("240 blanks end too early", y.fault(), 240);
        y.end(239);
        Edges.due("a last byte that no text has", oneByte(y, 3, 'z'), 240);
        Edges.due("is at fault", y.fault(), 239);
    }

    private static void ends() {
        Edges.says("The TAPE has its first n bytes alone. False: n.");
        ManyPlaces x = new ManyPlaces();
        Edges.yes("end(0) of an empty tape", x.end(0));
        Edges.no("end(1) of an empty tape", x.end(1));
        Edges.no("end(-1) of an empty tape", x.end(-1));
        Edges.feed(x, "a=123");
        for (int n : Edges.outside(0, 5)) {
            Edges.no("end(" + n + ")", x.end(n));
            Edges.due("and five are left", x.count(4), 5);
        }
        Edges.yes("end(5), all there are", x.end(5));
        Edges.due("five are left", x.count(4), 5);
        Edges.yes("end(3)", x.end(3));
        Edges.due("three are left", x.count(4), 3);
        Edges.no("end(4), what was there is gone", x.end(4));
        Edges.due("what comes then comes behind the three", Edges.feed(x, "+1"), 5);
        Edges.none("a=1+1", x.fault());
        x.text();
        Edges.due("its weight", x.step(0, 0, 3), 2);
        Edges.no("the tape is empty behind a text: end(1)", x.end(1));
        Edges.feed(x, "!1");
        Edges.yes("end(0)", x.end(0));
        Edges.due("none are left", x.count(4), 0);
        Edges.due("an empty tape ends too early", x.fault(), 0);
    }

    private static void faults(Object... signsAndFaults) {
        for (int i = 0; i < signsAndFaults.length; i += 2) {
            String signs = (String) signsAndFaults[i];
            Edges.due("fault of \"" + signs + "\"", Edges.faultOf(signs), (Integer) signsAndFaults[i + 1]);
        }
    }

    private static void signsOfTexts() {
        Edges.says("TEXT (6 at most): LINES with ; between, one at least.");
        faults("", 0, ";", 0, "!1;", 3, "!1;;", 3, "!1;!2", NONE, "!1!2", 2, ";!1", 0);
        Edges.says("LINE: perhaps @ and a PLACE (0 .. 3)");
        faults("@0!1", NONE, "@3!1", NONE, "@4!1", 1, "@9!1", 1, "@/!1", 1, "@:!1", 1, "@!1", 1, "@1@1!1", 2, "@00!1", 2, "@1", 2,
            "?1{@3!1}", NONE, "?1{@4!1}", 4, "!@1", 1);
        Edges.says("V = SUM (V a letter a .. h)");
        faults("a=1", NONE, "h=1", NONE, "i=1", 0, "`=1", 0, "A=1", 0, "H=1", 0, "z=1", 0, "a=a", NONE, "a=h", NONE, "a=i", 2,
            "a=`", 2, "a=A", 2, "ab=1", 1, "a=bc", 3, "a==1", 2, "a:1", 1);
        Edges.says("# and a CELL (0 .. 7) = SUM");
        faults("#0=1", NONE, "#7=1", NONE, "#8=1", 1, "#9=1", 1, "#/=1", 1, "#:=1", 1, "#=1", 1, "#00=1", 2, "#a=1", 1, "#1", 2);
        Edges.says("a number (1 to 3 digits), V, $ and an INPUT (0 .. 7), # and a CELL, ( SUM )");
        faults("!0", NONE, "!9", NONE, "!00", NONE, "!000", NONE, "!999", NONE, "!0000", 4, "!9999", 4, "!", 1, "!/", 1, "!:", 1,
            "!1:", 2, "!1/", 2, "!12:", 3, "!$0", NONE, "!$7", NONE, "!$8", 2, "!$/", 2, "!$:", 2, "!$", 2, "!$00", 3, "!$a", 2,
            "!#0", NONE, "!#7", NONE, "!#8", 2, "!#/", 2, "!#", 2, "!#00", 3, "!(1)", NONE, "!()", 2, "!(1", 3, "!1)", 2, "!(1))", 4,
            "!-1", 1, "!+1", 1, "!1+", 3, "!1+*2", 3, "!1*-2", 3, "!1<", 3, "!*1", 1, "!1a", 2, "!a1", 2, "!(1)2", 4, "!2(1)", 2);
        Edges.says("? SUM { LINES }");
        faults("?1{!1}", NONE, "?1{}", 3, "?1{;}", 3, "?1{!1;}", 6, "?1{!1;!2}", NONE, "?{!1}", 1, "?1", 2, "?1{", 3, "?1{!1", 5,
            "?1!1", 2, "?1{!1}}", 6, "?1{!1}{!1}", 6, "?1;!1", 2, "{!1}", 0, "}", 0, "?1(!1)", 2, "?1{!1)", 5);
    }

    private static void blanks() {
        Edges.says("Blanks (32) may stand between all these, not within numbers.");
        String[] pieces = {"@", "2", "?", "$", "0", "<", "12", "{", "#", "7", "=", "(", "1", "+", "b", ")", "*", "2", ";", "b", "=",
            "#", "3", "-", "999", "}", ";", "!", "7"};
        faults(String.join("", pieces), NONE, String.join(" ", pieces), NONE, "  " + String.join("  ", pieces) + "  ", NONE);
        for (int p = 0; p <= pieces.length; p++) {
            String signs = "";
            for (int i = 0; i < pieces.length; i++) {
                signs += (i == p ? " " : "") + pieces[i];
            }
            signs += p == pieces.length ? " " : "";
            Edges.none("a blank at " + p + " in " + signs, Edges.faultOf(signs));
        }
        faults("!1 2", 3, "!12 3", 4, "!1 23", 3, "! 123 ", NONE, "! 12 + 3 ", NONE, "@1 2!1", 3, "!$1 2", 4, "#1 2=1", 3);
        for (int sign : new int[] {1, 9, 10, 13, 31, 33, 127, 128, 160, 255}) {
            String s = String.valueOf((char) sign);
            Edges.due("sign " + sign + " is no blank", Edges.faultOf("!1" + s), 2);
            Edges.due("sign " + sign + " is none behind a ! either", Edges.faultOf("a=" + s + "1"), 2);
        }
    }

    private static void nesting() {
        Edges.says("At most six of ( { within one another, 16 LINES.");
        for (int blocks = 0; blocks <= 6; blocks++) {
            String open = "?1{".repeat(blocks) + "!" + "(".repeat(6 - blocks);
            String close = ")".repeat(6 - blocks) + "}".repeat(blocks);
            Edges.none(blocks + " of { and the rest of (", Edges.faultOf(open + "1" + close));
            Edges.due("a seventh, a (", Edges.faultOf(open + "(1)" + close), open.length());
            Edges.due("a seventh, a ( and nothing behind it", Edges.faultOf(open + "("), open.length());
            Edges.due("six end too early", Edges.faultOf(open), open.length());
        }
        String six = "?1{".repeat(6);
        Edges.due("a seventh, a {", Edges.faultOf(six + "?1{!1}" + "}".repeat(6)), six.length() + 2);
        Edges.due("a seventh, a { behind blanks", Edges.faultOf(six + "?1  {!1}" + "}".repeat(6)), six.length() + 4);
        Edges.due("a ? within six, and no {", Edges.faultOf(six + "?1"), six.length() + 2);
        Edges.due("a seventh ( of a ? within six", Edges.faultOf(six + "?(1){!1}" + "}".repeat(6)), six.length() + 1);
        Edges.none("six in the sum of a ?, then its block and five in it", Edges.faultOf("?((((((1)))))){!(((((1)))))}"));
        Edges.due("six in the sum of a ? in a block", Edges.faultOf("?1{?((((((1)))))){!1}}"), 9);
        Edges.none("side by side they are not within one another", Edges.faultOf("!(1)+(1)+(1)+(1)+(1)+(1)+(1)+(1)"));
        Edges.none("six, and six again", Edges.faultOf("!((((((1))))))*((((((1))))))"));
        Edges.none("blocks side by side", Edges.faultOf("?1{!1};?1{!1};?1{!1};?1{!1};?1{!1};?1{!1};?1{!1}"));
        Edges.none("six of {, and six again", Edges.faultOf(six + "!1" + "}".repeat(6) + ";" + six + "!1" + "}".repeat(6)));
        ManyPlaces x = Edges.with("!1+1*(1+1*(1+1*(1+1*(1+1*(1+1*(2))))))", six + "!7" + "}".repeat(6));
        x.ask(0, 0);
        Edges.due("six deep", x.shown(0, 0), 8);
        Edges.due("six blocks deep", x.ask(1, 1), 1);
        Edges.due("its step is the seventh", x.step(1, 6, 4), 5);
    }

    private static void manyLines() {
        Edges.says("16 LINES");
        String fifteen = Edges.lines(15) + ";";
        faults(Edges.lines(16), NONE, Edges.lines(17), 48, fifteen + "?1{!1}", 48, Edges.lines(14) + ";?1{!1}", NONE,
            Edges.lines(14) + ";?1{!1;!1}", 48, Edges.lines(14) + ";?1{!1};!1", 49, "?1{" + Edges.lines(15) + "}", NONE,
            "?1{" + Edges.lines(16) + "}", 48, "?1{" + Edges.lines(15) + "};!1", 49, Edges.lines(16) + ";", 48,
            Edges.lines(16) + "; ", 49, Edges.lines(16) + ";  a=1", 50, Edges.lines(16) + ";@1!1", 48, Edges.lines(16) + ";;", 48,
            Edges.lines(16) + "}", 47, Edges.lines(16) + " ", NONE, fifteen + "?1", 47, fifteen + "?1{", 48, fifteen + "?1{ }", 49);
        ManyPlaces x = Edges.with("?1{" + Edges.lines(15) + "}");
        Edges.due("sixteen steps", x.steps(0), 16);
    }

    private static void prefixes() {
        Edges.says("FAULT: the first byte at which no TEXT can go on (the length, if it ends too early)");
        String[] texts = {"@3 c=(1+2)*3-4<5; ?$7*$0{#6=#6+#1+c; ?a{!b}; d=123}; @0!1", "?((1)){?1{@1#0=$3}};!(a<(b*2))"};
        for (String signs : texts) {
            Edges.none("the whole", Edges.faultOf(signs));
            for (int n = 1; n < signs.length(); n++) {
                ManyPlaces x = new ManyPlaces();
                Edges.feed(x, signs.substring(0, n));
                int fault = x.fault();
                boolean goesOn = fault == NONE || fault == n;
                Edges.yes("the first " + n + " of " + signs + " can go on", goesOn);
                Edges.feed(x, "~");
                Edges.due("the first " + n + " of " + signs + " and a ~", x.fault(), n);
                Edges.feed(x, signs.substring(n));
                Edges.due("and what comes behind it changes nothing", x.fault(), n);
            }
        }
    }

    private static void namedFaults() {
        Edges.says("a fourth digit, a seventh of these, the first byte of a 17th LINE are such");
        faults("!1234", 4, "!1+2345*6", 6, "!(1234)", 5, "?1234{!1}", 4, "!((((((1+(2))))))", 9, "!(((((((", 7, Edges.lines(17), 48,
            Edges.lines(16) + ";7", 48);
    }

    private static void faultOfTape() {
        Edges.says("The FAULT of the TAPE; NONE.");
        ManyPlaces x = new ManyPlaces();
        Edges.due("of an empty one", x.fault(), 0);
        Edges.feed(x, "a=1");
        Edges.none("none", x.fault());
        Edges.none("asked again", x.fault());
        Edges.due("the tape stays", x.count(4), 3);
        Edges.due("no text is made", x.count(0), 0);
        Edges.feed(x, ";b");
        Edges.due("more came", x.fault(), 5);
        x.end(3);
        Edges.none("it went", x.fault());
        Edges.due("and a text of it is as if none had asked", x.text(), 0);
        Edges.due("one step", x.steps(0), 1);
        Edges.feed(x, "x");
        Edges.due("a fault", x.fault(), 0);
        Edges.due("the text that is there stays", x.step(0, 0, 3), 1);
        nothingStays();
    }

    /** What was read of a tape that came to no text is not to be found in the text that comes then. */
    private static void nothingStays() {
        ManyPlaces x = new ManyPlaces();
        Edges.feed(x, "@3?$7+#7*h{#6=$6+#6-g;@2?$5{@1a=$4}};a=9;!$3~");
        for (int i = 0; i < 40; i++) {
            Edges.due("a fault, again and again", x.fault(), 44);
        }
        Edges.none("no text", x.text());
        x.end(0);
        Edges.feed(x, "a=1;!2;!3;!4;!a");
        Edges.due("a text then", x.text(), 0);
        int[][] due = {{0, 0, NONE, 1, NONE, 0, 0, 0, 0}, {2, NONE, NONE, 1, NONE, 0, 0, 0, 0}, {2, NONE, NONE, 1, NONE, 0, 0, 0, 0},
            {2, NONE, NONE, 1, NONE, 0, 0, 0, 0}, {2, NONE, NONE, 1, NONE, 0, 0, 1, 0}};
        for (int i = 0; i < due.length; i++) {
            for (int what = 0; what < 9; what++) {
                Edges.due("step " + i + ", what " + what, x.step(0, i, what), due[i][what]);
            }
        }
        Edges.due("steps", x.steps(0), 5);
        Edges.due("an ask", x.ask(0, 0), 4);
        Edges.due("its first number", x.shown(0, 0), 2);
        Edges.due("its last number", x.shown(0, 3), 1);
    }

    private static void textsFull() {
        Edges.says("The TAPE (empty then) is a TEXT: its number. NONE: a FAULT, there are six.");
        ManyPlaces x = new ManyPlaces();
        Edges.none("an empty tape", x.text());
        Edges.feed(x, "!1;");
        Edges.none("a fault", x.text());
        Edges.due("its tape stays", x.count(4), 3);
        Edges.due("no text", x.count(0), 0);
        Edges.none("no steps", x.steps(0));
        x.end(2);
        for (int i = 0; i < 6; i++) {
            Edges.due("text", x.text(), i);
            Edges.due("the tape is empty then", x.count(4), 0);
            Edges.none("and none again", x.text());
            Edges.due("texts", x.count(0), i + 1);
            Edges.feed(x, Edges.lines(i + 2));
        }
        Edges.none("a seventh", x.text());
        Edges.due("its tape stays", x.count(4), 20);
        Edges.none("and has no fault", x.fault());
        Edges.due("six", x.count(0), 6);
        for (int i = 0; i < 6; i++) {
            Edges.due("each is as it was", x.steps(i), i + 1);
        }
        x.end(0);
        Edges.none("nor of an empty tape", x.text());
    }

    private static void stepNumbers() {
        Edges.says("STEPS 0 .. are LINES by their first bytes.");
        ManyPlaces x = Edges.with(" ?1 { a=1 ; ?2{ #3=1 } ; !5 } ; h=2");
        int[] kinds = {3, 0, 3, 1, 2, 0};
        int[] gives = {NONE, 0, NONE, 3, NONE, 7};
        Edges.due("steps", x.steps(0), 6);
        for (int i = 0; i < 6; i++) {
            Edges.says("KINDS: 0 V, 1 CELL given a number, 2 shown (!), 3 a ?.");
            Edges.due("kind of " + i, x.step(0, i, 0), kinds[i]);
            Edges.says("1 V (0 .. 7) or CELL that it gives (NONE)");
            Edges.due("what " + i + " gives", x.step(0, i, 1), gives[i]);
        }
        ManyPlaces y = Edges.with("a=1;h=1;#0=1;#7=1");
        Edges.due("a", y.step(0, 0, 1), 0);
        Edges.due("h", y.step(0, 1, 1), 7);
        Edges.due("#0", y.step(0, 2, 1), 0);
        Edges.due("#7", y.step(0, 3, 1), 7);
        Edges.says("2 its @ (NONE)");
        ManyPlaces z = Edges.with("@0!1;@1a=1;@2#1=1;@3?1{!1;@0!2};!1");
        int[] at = {0, 1, 2, 3, NONE, 0, NONE};
        for (int i = 0; i < at.length; i++) {
            Edges.due("@ of " + i, z.step(0, i, 2), at[i]);
        }
    }

    private static void stepBits() {
        Edges.says("5 INPUTS, 6 CELLS it reads, 7 STEPS it has a FLOW from, as bits, 8 what it is MADE OF");
        ManyPlaces x = Edges.with("!$0;!$7;!$0+$1+$2+$3+$4+$5+$6+$7;!#0;!#7;!#0+#1+#2+#3+#4+#5+#6+#7;!$7*$7;#7=1");
        int[] inputs = {1, 128, 255, 0, 0, 0, 128, 0};
        int[] cells = {0, 0, 0, 1, 128, 255, 0, 0};
        for (int i = 0; i < inputs.length; i++) {
            Edges.due("inputs of " + i, x.step(0, i, 5), inputs[i]);
            Edges.due("cells of " + i, x.step(0, i, 6), cells[i]);
            Edges.due("flows of " + i, x.step(0, i, 7), 0);
            Edges.due("made of, " + i, x.step(0, i, 8), inputs[i]);
        }
        ManyPlaces y = Edges.with("a=$7;b=1;c=1;d=1;e=1;f=1;g=1;h=1;?1{a=1};?1{b=1};!1;!1;!1;!a+b+c+d+e+f+g+h");
        Edges.due("flows from all that may have given", y.step(0, 15, 7), 0b1111_1111_1111 & ~(1 << 8) & ~(1 << 10));
        Edges.due("and made of what those are", y.step(0, 15, 8), 128);
        ManyPlaces z = Edges.with(Edges.lines(14) + ";a=1;!a");
        Edges.due("a flow from the fifteenth", z.step(0, 15, 7), 1 << 14);
        Edges.due("which has none itself", z.step(0, 14, 7), 0);
    }

    private static void weights() {
        Edges.says("WEIGHT: 1 and how many + - &lt; * it has.");
        String most = "!1" + "+1".repeat(119);
        ManyPlaces x = Edges.with("!1;a=1+1;#0=1-1;!1<1;!1*1;?(1+1)*(2-1)<3{!1+1};!(((1)))", most);
        int[] weights = {1, 2, 2, 2, 2, 5, 2, 1};
        for (int i = 0; i < weights.length; i++) {
            Edges.due("weight of " + i, x.step(0, i, 3), weights[i]);
        }
        Edges.due("the most that the tape has room for", x.step(1, 0, 3), 120);
        x.ask(1, 0);
        Edges.due("and what it comes to", x.shown(0, 0), 120);
        Edges.due("its price", x.price(1, 0, 0), 120);
    }

    private static void arounds() {
        Edges.says("AROUND a STEP is the ? in whose block it stands right (perhaps none).");
        ManyPlaces x = Edges.with("?1{?1{!1};!1;?1{?1{!1};!1}};!1", "?1{" + Edges.lines(14) + "};!1");
        int[] around = {NONE, 0, 1, 0, 0, 4, 5, 4, NONE};
        for (int i = 0; i < around.length; i++) {
            Edges.due("around " + i, x.step(0, i, 4), around[i]);
        }
        Edges.due("the last of a block", x.step(1, 14, 4), 0);
        Edges.none("the first behind it", x.step(1, 15, 4));
    }

    private static void stepsOutside() {
        Edges.says("8 what it is MADE OF. NoSuchElementException: no such ones.");
        ManyPlaces x = Edges.with("!1", Edges.lines(16));
        Edges.due("step(0, 0, 8)", x.step(0, 0, 8), 0);
        Edges.due("step(1, 15, 0)", x.step(1, 15, 0), 2);
        for (int text : Edges.outside(0, 1)) {
            Edges.refuses("text " + text, () -> x.step(text, 0, 0));
        }
        for (int step : Edges.outside(0, 0)) {
            Edges.refuses("step " + step + " of one", () -> x.step(0, step, 0));
        }
        for (int step : Edges.outside(0, 15)) {
            Edges.refuses("step " + step + " of sixteen", () -> x.step(1, step, 0));
        }
        for (int what : Edges.outside(0, 8)) {
            Edges.refuses("what of " + what, () -> x.step(0, 0, what));
        }
        Edges.says("How many STEPS a TEXT has. NONE: no such one.");
        Edges.due("one", x.steps(0), 1);
        Edges.due("sixteen", x.steps(1), 16);
        for (int text : Edges.outside(0, 1)) {
            Edges.none("text " + text, x.steps(text));
        }
        Edges.feed(x, "!1");
        Edges.none("a tape is no text yet", x.steps(2));
    }

    private static void lays() {
        Edges.says("An INPUT lies. False: no such one.");
        ManyPlaces x = Edges.with("!$0;!$1;!$2;!$3;!$4;!$5;!$6;!$7");
        x.parts(0, 0, 0);
        for (int i = 0; i < 8; i++) {
            Edges.due("nothing was laid", x.part(0, i), 0);
            Edges.yes("lay(" + i + ")", x.lay(i, 10 + i));
        }
        for (int input : Edges.outside(0, 7)) {
            Edges.no("lay(" + input + ")", x.lay(input, 99));
        }
        Edges.yes("the least number", x.lay(3, LEAST));
        Edges.yes("the most", x.lay(4, MOST));
        x.parts(0, 0, 0);
        for (int i = 0; i < 8; i++) {
            Edges.due("it lies", x.part(0, i), i == 3 ? LEAST : i == 4 ? MOST : 10 + i);
        }
        Edges.yes("laid over", x.lay(4, -1));
        x.parts(0, 0, 0);
        Edges.due("it lies", x.part(0, 4), -1);
    }

    private static void shows(String sum, int want) {
        ManyPlaces x = Edges.with("!" + sum);
        x.lay(0, MOST);
        x.lay(1, LEAST);
        x.lay(2, -1);
        x.ask(0, 0);
        Edges.due(sum, x.shown(0, 0), want);
    }

    private static void numbersWrap() {
        Edges.says("Numbers are ints and wrap; all is worked from the left, * first; &lt; gives 1 or 0.");
        shows("$0", MOST);
        shows("$0+1", LEAST);
        shows("$0+$0", -2);
        shows("$1-1", MOST);
        shows("0-$1", LEAST);
        shows("0-$0-1", LEAST);
        shows("$1+$1", 0);
        shows("$1*$1", 0);
        shows("$1*$2", LEAST);
        shows("$0*$0", 1);
        shows("$0*2", -2);
        shows("999*999*999*3", -1303958299);
        shows("$1<$0", 1);
        shows("$0<$1", 0);
        shows("$0<$0", 0);
        shows("$1<$1", 0);
        shows("$2<0", 1);
        shows("0<$2", 0);
        shows("$0<$0+1", 1);
        shows("$0<($0+1)", 0);
        shows("1<2<3", 1);
        shows("3<2<1", 1);
        shows("0<1<1", 0);
        shows("2<3+4", 5);
        shows("1+2<3", 0);
        shows("1+1<3", 1);
        shows("5-1<3", 0);
        shows("8-3-2", 3);
        shows("8-(3-2)", 7);
        shows("1-2*3", -5);
        shows("2*3-1", 5);
        shows("(1-2)*3", -3);
        shows("2*3<2*4", 1);
        shows("2*(3<2)*4", 0);
        shows("1-2+3", 2);
        shows("2*3*4", 24);
        shows("999", 999);
        shows("009", 9);
    }

    private static void blocks() {
        Edges.says("those in a block only if its ? is above 0");
        ManyPlaces x = Edges.with("?$0{!1;?$1{!2};!3};!4");
        int[][] cases = {{0, 1, 1}, {-1, 1, 1}, {LEAST, MOST, 1}, {1, 0, 3}, {1, -1, 3}, {MOST, LEAST, 3}, {1, 1, 4}, {MOST, MOST, 4}, {0, 0, 1}};
        for (int i = 0; i < cases.length; i++) {
            x.lay(0, cases[i][0]);
            x.lay(1, cases[i][1]);
            Edges.due("? of " + cases[i][0] + " and " + cases[i][1], x.ask(0, i), cases[i][2]);
            Edges.due("the last that is shown", x.shown(i, cases[i][2] - 1), 4);
        }
        ManyPlaces y = Edges.with("?0{?1{#0=1;a=1}};?a{!1};!#0");
        Edges.due("a ? in a block that is not taken takes none", y.ask(0, 0), 1);
        Edges.due("nor is anything given", y.shown(0, 0), 0);
        ManyPlaces z = Edges.with("?1-2{!1};?2-1{!2};?1<1{!3};?0*5{!4}");
        Edges.due("by sums", z.ask(0, 0), 1);
        Edges.due("above 0 alone", z.shown(0, 0), 2);
    }

    private static void lettersAndCells() {
        Edges.says("each V is 0 at first");
        ManyPlaces x = Edges.with("!a+b+c+d+e+f+g+h;a=7;h=9;!a+h", "!a+h;!#0;#0=#0+1;!#0", "!#0+#7");
        for (int name = 0; name < 2; name++) {
            x.ask(0, name);
            Edges.due("letters at first, ask " + name, x.shown(name, 0), 0);
            Edges.due("then", x.shown(name, 1), 16);
        }
        x.ask(1, 2);
        Edges.due("letters of another text's ask", x.shown(2, 0), 0);
        Edges.says("CELLS (0 at first) are as they are");
        Edges.due("a cell at first", x.shown(2, 1), 0);
        Edges.due("given", x.shown(2, 2), 1);
        x.ask(1, 3);
        Edges.due("as it is", x.shown(3, 1), 1);
        Edges.due("given", x.shown(3, 2), 2);
        x.ask(2, 4);
        Edges.due("for another text too", x.shown(4, 0), 2);
        for (int c = 0; c < 8; c++) {
            Edges.due("a cell", x.cell(c, false), c == 0 ? 2 : 0);
        }
    }

    private static void names() {
        Edges.says("An ASK by a NAME: how many numbers were SHOWN. NONE: no such ones.");
        ManyPlaces x = Edges.with("a=1", Edges.lines(16), "!$0");
        Edges.due("none shown", x.ask(0, 0), 0);
        Edges.due("sixteen shown", x.ask(1, 49), 16);
        for (int name : Edges.outside(0, 49)) {
            Edges.none("name " + name, x.ask(1, name));
        }
        for (int text : Edges.outside(0, 2)) {
            Edges.none("text " + text, x.ask(text, 1));
            Edges.none("text " + text + " by a name that was asked by", x.ask(text, 49));
        }
        Edges.due("two names were asked by", x.count(2), 2);
        Edges.due("a name that was refused is new", x.ask(1, 1), 16);
        for (int name = 2; name < 49; name++) {
            x.lay(0, 1000 + name);
            Edges.due("name " + name, x.ask(2, name), 1);
        }
        Edges.due("all fifty", x.count(2), 50);
        for (int name = 2; name < 49; name++) {
            Edges.due("each has its own", x.shown(name, 0), 1000 + name);
        }
        Edges.none("there is no more", x.ask(2, 50));
        Edges.due("fifty", x.count(2), 50);
    }

    private static void namesAgain() {
        Edges.says("An ASK has a NAME (0 .. 49): asked by a NAME again nothing is done, the answer is the first one.");
        ManyPlaces x = Edges.with("#0=#0+1", "#0=#0+1;!$0", "!5;!6");
        Edges.due("an ask that shows nothing", x.ask(0, 0), 0);
        Edges.due("again", x.ask(0, 0), 0);
        Edges.due("with a text that would show", x.ask(2, 0), 0);
        Edges.due("nothing was done", x.cell(0, false), 1);
        Edges.refuses("nothing is shown", () -> x.shown(0, 0));
        x.lay(0, 4);
        Edges.due("an ask that shows", x.ask(1, 49), 1);
        x.lay(0, 5);
        Edges.due("again, with other inputs", x.ask(1, 49), 1);
        Edges.due("with a text that shows more", x.ask(2, 49), 1);
        Edges.due("the first number", x.shown(49, 0), 4);
        Edges.due("nothing was done", x.cell(0, false), 2);
        Edges.due("two names", x.count(2), 2);
    }

    private static void showns() {
        Edges.says("The i-th number SHOWN by a NAME's ASK. NoSuchElementException: none such.");
        ManyPlaces x = Edges.with("!$0;!2;!3;!4;!5;!6;!7;!8;!9;!10;!11;!12;!13;!14;!15;!16", "a=1", "?0{!1};!2");
        x.lay(0, LEAST);
        x.ask(0, 0);
        x.ask(1, 1);
        x.ask(2, 49);
        Edges.due("the first", x.shown(0, 0), LEAST);
        Edges.due("the sixteenth", x.shown(0, 15), 16);
        Edges.due("what was passed is not counted", x.shown(49, 0), 2);
        for (int i : Edges.outside(0, 15)) {
            Edges.refuses("shown(0, " + i + ")", () -> x.shown(0, i));
        }
        for (int i : Edges.outside(0, 0)) {
            Edges.refuses("shown(49, " + i + ")", () -> x.shown(49, i));
        }
        Edges.refuses("an ask that showed nothing", () -> x.shown(1, 0));
        Edges.refuses("a name not asked by", () -> x.shown(2, 0));
        for (int name : Edges.outside(0, 49)) {
            Edges.refuses("name " + name, () -> x.shown(name, 0));
        }
    }

    private static void cells() {
        Edges.says("NoSuchElementException: no such CELL; AWAY while none is.");
        ManyPlaces x = Edges.with("#0=$0;#7=$1");
        x.lay(0, LEAST);
        x.lay(1, MOST);
        x.ask(0, 0);
        Edges.due("the first cell", x.cell(0, false), LEAST);
        Edges.due("the last", x.cell(7, false), MOST);
        for (int cell : Edges.outside(0, 7)) {
            Edges.refuses("cell(" + cell + ")", () -> x.cell(cell, false));
            Edges.refuses("cell(" + cell + ") away", () -> x.cell(cell, true));
        }
        Edges.refuses("away while none is", () -> x.cell(0, true));
        x.away(0);
        Edges.due("away", x.cell(0, true), LEAST);
        Edges.due("away", x.cell(7, true), MOST);
        Edges.due("here too", x.cell(7, false), MOST);
        for (int cell : Edges.outside(0, 7)) {
            Edges.refuses("cell(" + cell + ") away", () -> x.cell(cell, true));
            Edges.refuses("cell(" + cell + ") here", () -> x.cell(cell, false));
        }
        x.back();
        Edges.refuses("away after it came back", () -> x.cell(0, true));
        Edges.due("here", x.cell(0, false), LEAST);
    }
}
