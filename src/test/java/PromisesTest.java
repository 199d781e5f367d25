import java.util.NoSuchElementException;

/** For each promise of the document cases worked out by hand: ordinary ones, edges, and wrong calls. */
public final class PromisesTest {
    private static final int NONE = ManyPlaces.NONE;
    private static int wrong = 0;

    private interface Call {
        long answer();
    }

    private static void due(int promise, String what, long got, long want) {
        if (got != want) {
            wrong++;
            System.out.println("promise " + promise + ": " + what + " answered " + got + ", due is " + want);
        }
    }

    private static void due(int promise, String what, boolean got, boolean want) {
        due(promise, what, got ? 1 : 0, want ? 1 : 0);
    }

    private static void refuses(int promise, String what, Call call) {
        boolean thrown = false;
        try {
            call.answer();
        } catch (NoSuchElementException e) {
            thrown = true;
        }
        due(promise, what + " throws", thrown, true);
    }

    private static int feed(ManyPlaces x, String s) {
        int held = NONE;
        for (int at = 0; at < s.length() || at == 0; at += 20) {
            int[] w = new int[5];
            for (int i = 0; i < 20 && at + i < s.length(); i++) {
                w[i / 4] |= s.charAt(at + i) << (24 - 8 * (i % 4));
            }
            held = x.feed(w[0], w[1], w[2], w[3], w[4]);
        }
        return held;
    }

    private static ManyPlaces with(String... texts) {
        ManyPlaces x = new ManyPlaces();
        for (String s : texts) {
            feed(x, s);
            if (x.text() == NONE) {
                throw new IllegalStateException(s + " is at fault");
            }
        }
        return x;
    }

    private static long cut(int... places) {
        long cut = 0;
        for (int i = places.length - 1; i >= 0; i--) {
            cut = cut * 4 + places[i];
        }
        return cut;
    }

    private static int faultOf(String s) {
        ManyPlaces x = new ManyPlaces();
        feed(x, s);
        return x.fault();
    }

    private static String lines(int n) {
        return "!1;".repeat(n - 1) + "!1";
    }

    public static void main(String[] args) {
        tape();
        faults();
        texts();
        stepsRead();
        flows();
        made();
        asks();
        namesAgain();
        cellNumbers();
        puts();
        secretsAndLaws();
        barring();
        sheets();
        wordsOfCuts();
        leastCuts();
        leastOfTies();
        workedTwice();
        betterCuts();
        betterWithoutCuts();
        costs();
        days();
        leastDays();
        moves();
        waits();
        led();
        ledInOrder();
        parts();
        partsWait();
        goesOn();
        awayAndBack();
        asksAbout();
        counts();
        System.out.println(wrong == 0 ? "the promises are kept" : wrong + " answers are not as due");
        if (wrong != 0) {
            System.exit(1);
        }
    }

    private static void tape() {
        ManyPlaces x = new ManyPlaces();
        due(1, "texts of a new object", x.count(0), 0);
        due(1, "steps(0) of a new object", x.steps(0), NONE);
        due(2, "feed of nothing", x.feed(0, 0, 0, 0, 0), 0);
        due(2, "feed with bytes of 0 left out", x.feed(0x61003d00, 0, 0, 0, 0x00000031), 3);
        due(2, "the highest byte comes first: a=1 has no fault", x.fault(), NONE);
        due(2, "bytes above 127 come too", x.feed(0xff000000, 0, 0, 0, 0), 4);
        due(4, "and are at fault", x.fault(), 3);
        ManyPlaces y = new ManyPlaces();
        int word = 0x20202020;
        for (int i = 0; i < 11; i++) {
            due(2, "feed", y.feed(word, word, word, word, word), 20 * (i + 1));
        }
        due(2, "nineteen more", y.feed(word, word, word, word, 0x20202000), 239);
        due(2, "two more than there is room for one", y.feed(0x20200000, 0, 0, 0, 0), NONE);
        due(2, "a refused feed leaves the tape", y.count(4), 239);
        due(2, "240 bytes", y.feed(0, 0x20, 0, 0, 0), 240);
        due(2, "nothing more still fits", y.feed(0, 0, 0, 0, 0), 240);
        for (int i = 0; i < 5; i++) {
            due(2, "241 bytes, by number " + i,
                y.feed(i == 0 ? 1 : 0, i == 1 ? 1 : 0, i == 2 ? 1 : 0, i == 3 ? 1 : 0, i == 4 ? 1 : 0), NONE);
        }
        due(3, "end(241)", y.end(241), false);
        due(3, "end(-1)", y.end(-1), false);
        due(3, "end leaves the tape if it is refused", y.count(4), 240);
        due(3, "end(240)", y.end(240), true);
        due(3, "end(7)", y.end(7), true);
        due(3, "the first n alone", y.count(4), 7);
        due(3, "end(8) then", y.end(8), false);
        due(3, "end(0)", y.end(0), true);
        due(3, "none are left", y.count(4), 0);
    }

    private static void faults() {
        Object[][] cases = {
            {"", 0}, {"   ", 3}, {"a=1", NONE}, {" a = 1 ", NONE}, {"a=1;", 4}, {"a=1; ", 5}, {";a=1", 0}, {"a=1;;b=1", 4},
            {"a", 1}, {"aa=1", 1}, {"a =", 3}, {"h=1", NONE}, {"i=1", 0}, {"A=1", 0}, {"1", 0}, {"=1", 0},
            {"a=1=2", 3}, {"a=1 2", 4}, {"a=12 3", 5}, {"a=123", NONE}, {"a=1234", 5}, {"a=000", NONE}, {"a=-1", 2},
            {"a=1-1", NONE}, {"a=1-", 4}, {"a=1*", 4}, {"a=1**2", 4}, {"a=1<2<3", NONE}, {"a=1>2", 3}, {"a=i", 2},
            {"a=$0", NONE}, {"a=$7", NONE}, {"a=$8", 3}, {"a=$", 3}, {"a=$ 1", NONE}, {"a=$12", 4}, {"a=#7", NONE},
            {"a=#8", 3}, {"#7=1", NONE}, {"#8=1", 1}, {"# 3 = 1", NONE}, {"#3", 2}, {"##", 1}, {"@3!1", NONE},
            {"@4!1", 1}, {"@0@0!1", 2}, {"@ 2 ! 1", NONE}, {"@", 1}, {"@1", 2}, {"@12", 2}, {"@1;", 2}, {"!", 1}, {"!1!", 2},
            {"!(1)", NONE}, {"!(1", 3}, {"!()", 2}, {"!(1))", 4}, {"!(1}", 3}, {"!((((((1))))))", NONE},
            {"!(((((((1)))))))", 7}, {"!(1)(2)", 4}, {"?1", 2}, {"?1{", 3}, {"?1{}", 3}, {"?1{!1}", NONE}, {"?1{!1;}", 6},
            {"?1{!1}!2", 6}, {"?1{!1};!2", NONE}, {"?{!1}", 1}, {"?1{!1", 5}, {"?1{!1)", 5}, {"!1}", 2},
            {"?1{?1{?1{?1{?1{?1{!1}}}}}}", NONE}, {"?1{?1{?1{?1{?1{?1{!(1)}}}}}}", 19},
            {"?1{?1{?1{?1{?1{?1{?1{!1}}}}}}}", 20}, {"?((((((1)))))){!1}", NONE}, {"?1{!((((((1", 9},
            {"?1{!(((((1)))))}", NONE}, {"!1\t", 2}, {lines(16), NONE}, {lines(17), 48}, {lines(16) + ";", 48},
            {lines(16) + ";  !1", 50}, {lines(16) + ";  ", 50}, {lines(15) + ";?1{!1}", 48}, {"?1{" + lines(15) + "}", NONE},
            {"?1{" + lines(16) + "}", 48}, {lines(16) + ";@1!1", 48},
        };
        for (Object[] c : cases) {
            due(4, "fault of \"" + c[0] + "\"", faultOf((String) c[0]), (Integer) c[1]);
        }
    }

    private static void texts() {
        ManyPlaces x = new ManyPlaces();
        due(5, "text of an empty tape", x.text(), NONE);
        feed(x, "a=");
        due(5, "text of a fault", x.text(), NONE);
        due(5, "a refused text leaves the tape", x.count(4), 2);
        feed(x, "1");
        due(5, "text", x.text(), 0);
        due(5, "the tape is empty then", x.count(4), 0);
        for (int i = 1; i < 6; i++) {
            feed(x, lines(i));
            due(5, "text", x.text(), i);
        }
        feed(x, "!1");
        due(5, "a seventh text", x.text(), NONE);
        due(5, "and its tape stays", x.count(4), 2);
        due(4, "and has no fault", x.fault(), NONE);
        due(5, "count of texts", x.count(0), 6);
        due(7, "steps(5)", x.steps(5), 5);
        due(7, "steps(0)", x.steps(0), 1);
        due(7, "steps(6)", x.steps(6), NONE);
        due(7, "steps(-1)", x.steps(-1), NONE);
        due(7, "steps of the greatest int", x.steps(Integer.MAX_VALUE), NONE);
    }

    private static void stepsRead() {
        ManyPlaces x = with("@3 c=(1+2)*3-4<5; ?$7*$0{#6=#6+#1+c; ?a{!b}; d=1}; @0!1");
        int[][] due = {
            // kind, gives, @, weight, around, inputs, cells, flows, made of
            {0, 2, 3, 5, NONE, 0, 0, 0, 0},
            {3, NONE, NONE, 2, NONE, 0x81, 0, 0, 0x81},
            {1, 6, NONE, 3, 1, 0, 0x42, 1, 0x81},
            {3, NONE, NONE, 1, 1, 0, 0, 0, 0x81},
            {2, NONE, NONE, 1, 3, 0, 0, 0, 0x81},
            {0, 3, NONE, 1, 1, 0, 0, 0, 0x81},
            {2, NONE, 0, 1, NONE, 0, 0, 0, 0},
        };
        due(7, "steps", x.steps(0), due.length);
        for (int s = 0; s < due.length; s++) {
            for (int what = 0; what < 9; what++) {
                due(6, "step(0, " + s + ", " + what + ")", x.step(0, s, what), due[s][what]);
            }
        }
        refuses(6, "step(0, 7, 0)", () -> x.step(0, 7, 0));
        refuses(6, "step(0, -1, 0)", () -> x.step(0, -1, 0));
        refuses(6, "step(0, 0, 9)", () -> x.step(0, 0, 9));
        refuses(6, "step(0, 0, -1)", () -> x.step(0, 0, -1));
        refuses(6, "step(1, 0, 0)", () -> x.step(1, 0, 0));
        refuses(6, "step(-1, 0, 0)", () -> x.step(-1, 0, 0));
    }

    private static void flows() {
        // A giver in a block does not end what came before it; one on every way does.
        ManyPlaces x = with("a=1;?a{a=2;?1{a=3};b=a};!a;a=4;!a;?1{!a+b}");
        int[] due = {0, 1, 0, 0, 0, 0b10100, 0b10101, 0, 0b10000000, 0, 0b10100000};
        for (int s = 0; s < due.length; s++) {
            due(6, "flows of step " + s, x.step(0, s, 7), due[s]);
        }
        ManyPlaces y = with("?1{a=1;a=2};?1{!a;a=a+1};b=b;!a+b");
        due(6, "a flow from one block to another", y.step(0, 4, 7), 0b100);
        due(6, "a step reads ahead of giving", y.step(0, 5, 7), 0b100);
        due(6, "no flow from a step to itself", y.step(0, 6, 7), 0);
        due(6, "all that may come through", y.step(0, 7, 7), 0b1100100);
    }

    private static void made() {
        // Cell 1 is read ahead of where it is given, and hands on what cell 2 was made of.
        ManyPlaces x = with("!#1;#1=#2;#2=$3;?$1{#2=4};a=#5");
        int[] due = {0b1010, 0b1010, 0b1000, 0b10, 0b10, 0};
        for (int s = 0; s < due.length; s++) {
            due(6, "made of, step " + s, x.step(0, s, 8), due[s]);
        }
        ManyPlaces y = with("#1=$3", "!#1");
        due(6, "cells of another text say nothing", y.step(1, 0, 8), 0);
    }

    private static void asks() {
        ManyPlaces x = with("!1-2-3;!2+3*4;!1<2+3;!3*(1-5);!$0*$0;!0-1<0;!7<7;!007", "?$1{!1;?$1-1{!2}};!3");
        due(8, "lay(-1)", x.lay(-1, 1), false);
        due(8, "lay(8)", x.lay(8, 1), false);
        due(8, "lay(0)", x.lay(0, 65536), true);
        due(9, "ask", x.ask(0, 0), 8);
        int[] due = {-4, 14, 4, -12, 0, 1, 0, 7};
        for (int i = 0; i < due.length; i++) {
            due(10, "shown(0, " + i + ")", x.shown(0, i), due[i]);
        }
        refuses(10, "shown(0, 8)", () -> x.shown(0, 8));
        refuses(10, "shown(0, -1)", () -> x.shown(0, -1));
        refuses(10, "shown(1, 0)", () -> x.shown(1, 0));
        refuses(10, "shown(50, 0)", () -> x.shown(50, 0));
        refuses(10, "shown(-1, 0)", () -> x.shown(-1, 0));
        due(9, "ask(2, 1)", x.ask(2, 1), NONE);
        due(9, "ask(-1, 1)", x.ask(-1, 1), NONE);
        due(9, "ask(0, 50)", x.ask(0, 50), NONE);
        due(9, "ask(0, -1)", x.ask(0, -1), NONE);
        due(45, "refused asks take no name", x.count(2), 1);
        due(9, "a block whose ? is 0", x.ask(1, 49), 1);
        x.lay(1, -5);
        due(9, "a block whose ? is below 0", x.ask(1, 48), 1);
        x.lay(1, 1);
        due(9, "a block whose ? is above 0", x.ask(1, 47), 2);
        x.lay(1, 2);
        due(9, "a block in a block", x.ask(1, 46), 3);
        due(10, "in order", x.shown(46, 1), 2);
        due(8, "what lies is laid over", x.shown(47, 1), 3);
    }

    private static void namesAgain() {
        ManyPlaces x = with("#0=#0+1;!#0", "!8;!9");
        due(9, "ask", x.ask(0, 7), 1);
        due(9, "the same name again", x.ask(0, 7), 1);
        due(11, "nothing is done by it", x.cell(0, false), 1);
        due(9, "the same name with another text", x.ask(1, 7), 1);
        due(10, "has what it first had", x.shown(7, 0), 1);
        due(9, "another name", x.ask(0, 8), 1);
        due(10, "letters start at 0, cells as they are", x.shown(8, 0), 2);
        due(9, "a name that was used, but no such text", x.ask(2, 7), NONE);
        due(45, "names", x.count(2), 2);
    }

    private static void cellNumbers() {
        ManyPlaces x = with("#7=$0;?0{#6=1}");
        due(11, "at first", x.cell(7, false), 0);
        x.lay(0, Integer.MIN_VALUE);
        x.ask(0, 0);
        due(11, "after an ask", x.cell(7, false), Integer.MIN_VALUE);
        due(11, "not given", x.cell(6, false), 0);
        refuses(11, "cell(8)", () -> x.cell(8, false));
        refuses(11, "cell(-1)", () -> x.cell(-1, false));
        refuses(11, "cell away while none is", () -> x.cell(7, true));
        x.away(2);
        due(11, "away", x.cell(7, true), Integer.MIN_VALUE);
        refuses(11, "cell(8) away", () -> x.cell(8, true));
        x.back();
        refuses(11, "cell away after it is back", () -> x.cell(7, true));
    }

    private static void puts() {
        ManyPlaces x = with("!$3+#4");
        due(12, "put(2, ..)", x.put(2, 3, 1), false);
        due(12, "put(-1, ..)", x.put(-1, 3, 1), false);
        due(12, "put of input 8", x.put(0, 8, 1), false);
        due(12, "put of cell -1", x.put(1, -1, 1), false);
        due(12, "put to place 4", x.put(0, 3, 4), false);
        due(12, "put to place -1", x.put(1, 4, -1), false);
        due(12, "nothing was put", x.words(0, 0), 0);
        due(12, "put of an input", x.put(0, 3, 3), true);
        due(12, "its word", x.words(0, 0), 1);
        due(12, "put of a cell", x.put(1, 4, 3), true);
        due(12, "its word", x.words(0, 0), 2);
        due(12, "both are near", x.words(0, 3), 0);
    }

    private static void secretsAndLaws() {
        ManyPlaces x = with("a=$0;b=$1;c=a+b;?c{!1};@2!c");
        due(13, "secret(8, 0)", x.secret(8, 0), false);
        due(13, "secret(-1, 0)", x.secret(-1, 0), false);
        due(13, "secret(0, 4)", x.secret(0, 4), false);
        due(13, "secret(0, -2)", x.secret(0, -2), false);
        due(13, "secret(0, 3)", x.secret(0, 3), true);
        due(13, "secret(1, 3)", x.secret(1, 3), true);
        due(14, "place 4", x.law(4, 0, 0), NONE);
        due(14, "secret 4", x.law(0, 4, 0), NONE);
        due(14, "secret NONE", x.law(0, -1, 0), NONE);
        due(14, "n of 1", x.law(0, 0, 1), NONE);
        due(14, "n of 9", x.law(0, 0, 9), NONE);
        due(14, "n of -1", x.law(0, 0, -1), NONE);
        due(14, "a law that bars", x.law(1, 3, 0), 0);
        due(14, "a law of two", x.law(0, 3, 2), 1);
        due(14, "the same law again", x.law(0, 3, 2), 2);
        for (int s = 0; s < 5; s++) {
            due(15, "may at 1 where none may know, step " + s, x.may(0, s, 1), 0);
        }
        due(15, "one alone is no two", x.may(0, 0, 0), 0);
        due(15, "a sum of two needs them one by one", x.may(0, 2, 0), 0);
        due(15, "a ? of a sum of two", x.may(0, 3, 0), 1);
        due(15, "what stands in its block", x.may(0, 4, 0), 1);
        due(15, "an @ elsewhere", x.may(0, 5, 0), 0);
        due(15, "an @ there", x.may(0, 5, 2), 1);
        due(15, "place 4", x.may(0, 0, 4), NONE);
        due(15, "place -1", x.may(0, 0, -1), NONE);
        due(15, "step 6", x.may(0, 6, 0), NONE);
        due(15, "step -1", x.may(0, -1, 0), NONE);
        due(15, "text 1", x.may(1, 0, 0), NONE);
        due(19, "lawful", x.lawful(0, cut(2, 2, 2, 0, 0, 2)), 1);
        due(19, "not lawful", x.lawful(0, cut(2, 2, 2, 1, 0, 2)), 0);
        due(19, "no such cut", x.lawful(0, 1L << 12), NONE);
        due(19, "the greatest cut", x.lawful(0, (1L << 12) - 1), 0);
        due(19, "a cut below 0", x.lawful(0, -1), NONE);
        due(19, "no such text", x.lawful(1, 0), NONE);
        due(13, "the secret is taken away", x.secret(0, NONE), true);
        due(15, "one of two is left: the sum has it alone", x.may(0, 3, 0), 0);
        due(15, "and the other input is free", x.may(0, 0, 0), 1);
        for (int i = 3; i < 8; i++) {
            due(14, "law", x.law(3, 0, 8), i);
        }
        due(14, "a ninth law", x.law(3, 0, 8), NONE);
        due(45, "laws", x.count(1), 8);
        ManyPlaces y = with("#0=$0+$1;!#0");
        y.secret(0, 1);
        y.law(0, 1, 0);
        due(15, "what a cell is made of counts", y.may(0, 1, 0), 0);
        due(15, "at another place it does not", y.may(0, 1, 1), 1);
    }

    private static void barring() {
        ManyPlaces x = with("a=1;b=$0;c=$1", "@3!1");
        x.secret(0, 0);
        x.secret(1, 1);
        due(16, "not barred", x.barred(0, 2, 0), NONE);
        due(16, "not barred: no laws", x.barred(0, 2, 1), NONE);
        x.law(0, 1, 0);
        x.law(0, 0, 0);
        due(16, "place 1 is open", x.barred(0, 2, 0), NONE);
        due(16, "with one place: the lowest step", x.barred(0, 1, 0), 1);
        due(16, "with one place: both laws", x.barred(0, 1, 1), 0b11);
        x.law(1, 0, 0);
        x.law(1, 1, 0);
        // Steps 1 (laws 1, 2) and 2 (laws 0, 3): one law of each; of 01 02 13 23 the first is lowest.
        due(16, "step", x.barred(0, 2, 0), 1);
        due(16, "laws", x.barred(0, 2, 1), 0b11);
        x.law(0, 0, 0);
        // Law 4 bars step 1 from place 0 once more, so law 2 is cheaper than 1 and 4.
        due(16, "laws", x.barred(0, 2, 1), 0b101);
        due(16, "what of 2", x.barred(0, 2, 2), NONE);
        due(16, "k of 0", x.barred(0, 0, 0), NONE);
        due(16, "k of 5", x.barred(0, 5, 0), NONE);
        due(16, "text 2", x.barred(2, 2, 0), NONE);
        due(16, "barred by its @", x.barred(1, 3, 0), 0);
        due(16, "no laws help", x.barred(1, 3, 1), NONE);
        due(16, "k of 4", x.barred(1, 4, 0), NONE);
        x.law(2, 1, 0);
        x.law(3, 1, 0);
        due(16, "barred from all four", x.barred(0, 4, 0), 2);
        due(16, "by the lowest law that helps", x.barred(0, 4, 1), 1);
        due(22, "free with one place", x.free(0, 1), 0);
        due(22, "free with two", x.free(0, 2), 1);
        due(22, "free with three", x.free(0, 3), 1);
        due(22, "free with four", x.free(0, 4), 2);
        due(22, "k of 0", x.free(0, 0), NONE);
        due(22, "k of 5", x.free(0, 5), NONE);
        due(22, "text 2", x.free(2, 2), NONE);
    }

    private static void sheets() {
        ManyPlaces x = with("a=1+1;!a");
        due(17, "sheet 3", x.work(3, 0, 1), false);
        due(17, "sheet -1", x.work(-1, 0, 1), false);
        due(17, "place 4", x.work(0, 4, 1), false);
        due(17, "100", x.work(0, 0, 100), false);
        due(17, "-1", x.work(0, 0, -1), false);
        due(18, "alike", x.word(0, 1, 1, 1), false);
        due(18, "from 4", x.word(0, 4, 1, 1), false);
        due(18, "to -1", x.word(0, 0, -1, 1), false);
        due(18, "sheet 3", x.word(3, 0, 1, 1), false);
        due(18, "1000", x.word(0, 0, 1, 1000), false);
        due(18, "-1", x.word(0, 0, 1, -1), false);
        due(21, "as at first", x.price(0, cut(0, 1), 0), 13);
        due(17, "99", x.work(1, 0, 99), true);
        due(17, "0", x.work(1, 1, 0), true);
        due(18, "999", x.word(1, 0, 1, 999), true);
        due(18, "0", x.word(1, 1, 0, 0), true);
        due(21, "by sheet 1", x.price(0, cut(0, 1), 1), 2 * 99 + 999);
        due(21, "the other way", x.price(0, cut(1, 0), 1), 99);
        due(21, "by sheet 2 as at first", x.price(0, cut(0, 1), 2), 13);
        due(21, "sheet 3", x.price(0, 0, 3), NONE);
        due(21, "sheet -1", x.price(0, 0, -1), NONE);
        due(21, "cut", x.price(0, 16, 0), NONE);
        due(21, "cut below 0", x.price(0, -1, 0), NONE);
        due(21, "text", x.price(1, 0, 0), NONE);
    }

    private static void wordsOfCuts() {
        ManyPlaces x = with("a=$0;?a{b=$0+a;!b;#1=#1+#2+b};!a+b");
        x.put(0, 0, 1);
        x.put(1, 2, 2);
        // Steps 0 .. 5; all at 0: the input once, cell 2 once.
        due(20, "all at 0", x.words(0, 0), 2);
        // All at 1: cell 1 is read and given elsewhere, cell 2 read.
        due(20, "all at 1", x.words(0, cut(1, 1, 1, 1, 1, 1)), 3);
        // a to 1 once though two need it there; ? to 1; input to 0 alone; b back to 0 once; cell 2 to 0.
        due(20, "mixed", x.words(0, cut(0, 0, 1, 1, 0, 1)), 5);
        due(20, "the ? goes to each place of its block", x.words(0, cut(0, 0, 1, 2, 3, 0)), 11);
        due(20, "cut", x.words(0, 1L << 12), NONE);
        due(20, "cut below 0", x.words(0, -1), NONE);
        due(20, "text", x.words(1, 0), NONE);
    }

    private static void leastCuts() {
        ManyPlaces x = with("a=$0*2*2*2;b=a+1;@1!b", lines(16), lines(9), lines(8));
        // Words cost 10: all of it at 1 costs one for the input, or step by step one for what is sent.
        due(23, "all alike: what comes first", x.least(0, 0, 2), cut(0, 0, 1));
        x.work(0, 1, 0);
        due(23, "cheap work at 1", x.least(0, 0, 2), cut(1, 1, 1));
        x.word(0, 0, 1, 30);
        x.work(0, 0, 1);
        x.work(0, 1, 1);
        due(23, "a way round by no third place", x.least(0, 0, 2), cut(0, 0, 1));
        x.work(0, 2, 0);
        due(23, "with a third place, whose work is free", x.least(0, 0, 3), cut(2, 2, 1));
        x.word(0, 0, 2, 999);
        due(23, "but dear to reach", x.least(0, 0, 3), cut(0, 0, 1));
        due(23, "16 free with two places", x.least(1, 0, 2), 0);
        due(23, "9 free with three", x.least(2, 0, 3), NONE);
        due(23, "9 free with four", x.least(2, 1, 4), NONE);
        due(23, "8 free with four", x.least(3, 1, 4), 0);
        due(23, "text", x.least(4, 0, 2), NONE);
        due(23, "sheet", x.least(0, 3, 2), NONE);
        due(23, "k of 1", x.least(0, 0, 1), NONE);
        due(23, "k of 5", x.least(0, 0, 5), NONE);
        x.secret(0, 0);
        x.law(0, 0, 0);
        due(23, "lawful ones alone", x.least(0, 0, 2), cut(1, 1, 1));
        x.law(1, 0, 0);
        due(23, "barred", x.least(0, 0, 2), NONE);
        due(24, "barred", x.twice(0, 0, 2), NONE);
        due(30, "barred", x.leastDay(0, 0, 2), NONE);
        due(25, "barred", x.better(0, -1), NONE);
        due(25, "barred: no first", x.better(0, 0), NONE);
    }

    private static void leastOfTies() {
        ManyPlaces x = with("!1;!2;!3", "a=$0;!a");
        for (int p = 0; p < 4; p++) {
            x.work(2, p, 0);
            for (int q = 0; q < 4; q++) {
                x.word(2, p, q, 0);
            }
        }
        due(23, "all cost nothing", x.least(0, 2, 2), 0);
        due(23, "all cost nothing, four places", x.least(0, 2, 4), 0);
        x.work(2, 0, 1);
        due(23, "the lowest of those that cost nothing", x.least(0, 2, 4), cut(1, 1, 1));
        x.put(0, 0, 1);
        // 0 1 costs 10 and 2 (the input's word), 1 1 costs 2.
        due(23, "to where the input is", x.least(1, 0, 2), cut(1, 1));
        x.work(0, 1, 6);
        // 0 0 costs 12, 1 1 costs 12, 0 1 costs 27, 1 0 costs 17.
        due(23, "of two the one lower at the first step", x.least(1, 0, 2), cut(0, 0));
        due(23, "likewise with four places", x.least(1, 0, 4), cut(0, 0));
    }

    private static void workedTwice() {
        ManyPlaces x = with("a=1;@0!a;@1!a", "a=$0*$0;@0!a;@1!a;@2!a", "?1{@0!1;@1!2}", "#0=1;@0!#0;@1!#0",
            lines(6), lines(5));
        // Sent: 3 and a word; worked twice: 4.
        due(24, "a step in two places", x.twice(0, 0, 2), 4);
        due(24, "a ? in two places", x.twice(2, 0, 2), 4);
        // A cell that is given is not given twice: 3, and a word to who reads it at 1.
        due(24, "a cell is given once", x.twice(3, 0, 2), 13);
        // At 0 and sent: 2 and 3, and two words; at 0 and 1: 4 and 3, the input's word, and one to 2.
        due(24, "sent is cheaper here", x.twice(1, 0, 3), 25);
        x.word(0, 1, 2, 4);
        due(24, "the word from the cheaper of the two", x.twice(1, 0, 3), 21);
        x.put(0, 0, 3);
        x.word(0, 3, 0, 100);
        x.word(0, 3, 1, 100);
        x.word(0, 3, 2, 100);
        // At both what is needed is needed: once from 3, and then a sent on, is cheaper.
        due(24, "once and sent", x.twice(1, 0, 3), 2 + 3 + 100 + 10 + 4);
        due(24, "5 free", x.twice(5, 0, 4), 5);
        due(24, "6 free", x.twice(4, 0, 2), NONE);
        due(24, "text", x.twice(6, 0, 2), NONE);
        due(24, "sheet", x.twice(0, 3, 2), NONE);
        due(24, "k of 1", x.twice(0, 0, 1), NONE);
        due(24, "k of 5", x.twice(0, 0, 5), NONE);
        due(24, "an @ outside", x.twice(1, 0, 2), NONE);
    }

    private static void betterCuts() {
        ManyPlaces x = with("!1;!1", lines(9), lines(8));
        due(25, "all as good", x.better(0, -1), 4);
        x.work(0, 0, 2);
        due(25, "one is the best", x.better(0, -1), 1);
        due(25, "it", x.better(0, 0), cut(1, 1));
        x.work(1, 1, 2);
        due(25, "two sheets at odds", x.better(0, -1), 4);
        for (int i = 0; i < 4; i++) {
            due(25, "by numbers", x.better(0, i), cut(i % 2, i / 2));
        }
        due(25, "a fifth", x.better(0, 4), NONE);
        due(25, "i of -2", x.better(0, -2), NONE);
        x.word(2, 0, 1, 0);
        due(25, "9 free", x.better(1, -1), NONE);
        due(25, "9 free", x.better(1, 0), NONE);
        due(25, "8 free", x.better(2, -1), 256);
        due(25, "8 free, the last one", x.better(2, 255), cut(1, 1, 1, 1, 1, 1, 1, 1));
        due(25, "8 free, none more", x.better(2, 256), NONE);
        due(25, "text", x.better(3, -1), NONE);
        x.work(2, 1, 3);
        due(25, "the third sheet counts: 1 is dearer there", x.better(0, -1), 4);
        x.work(0, 0, 1);
        due(25, "and 0 is as cheap or cheaper everywhere", x.better(0, -1), 1);
    }

    private static void betterWithoutCuts() {
        ManyPlaces x = with("@2!1", "!1;?1{@3a=2};!a", "@1!$0;!2", "a=$0;!1", "#0=$0;!#0", "a=$0-$1;!2");
        due(25, "an @ outside: how many", x.better(0, -1), NONE);
        due(25, "an @ outside: no first", x.better(0, 0), NONE);
        due(25, "an @ outside within a block", x.better(1, -1), NONE);
        due(25, "no law as yet", x.better(2, -1), 2);
        x.secret(0, 3);
        x.law(1, 3, 2);
        due(25, "an @ where a law bars", x.better(2, -1), NONE);
        due(25, "a law at 1 alone leaves the second step both", x.better(3, -1), 2);
        x.law(0, 3, 0);
        due(25, "laws at both", x.better(3, -1), NONE);
        due(25, "laws at both, by what is read alone", x.better(5, -1), NONE);
        due(25, "laws at both, by a cell", x.better(4, -1), NONE);
        due(25, "laws at both, no first", x.better(4, 0), NONE);
        x.secret(0, -1);
        due(25, "the secret is none any more", x.better(3, -1), 2);
        due(25, "the @ is still outside", x.better(0, -1), NONE);
    }

    private static void costs() {
        ManyPlaces x = with("a=$1;?$0{a=2+3;b=#0;#1=b};!a");
        x.put(1, 0, 1);
        // Taken not: step 0 (1), 1 (1), 5 (1); the ? is told to 1 for step 2; a from step 0.
        due(26, "not taken", x.cost(0, cut(0, 0, 1, 0, 0, 0), 0), 3 + 10);
        due(26, "not taken, a from step 0 at 2", x.cost(0, cut(2, 0, 0, 0, 0, 0), 0), 3 + 10 + 10);
        x.lay(0, 1);
        // Taken: all six, weight 7; ? to 1, a from step 2 to 0, cell 0 to 0.
        due(26, "taken", x.cost(0, cut(0, 0, 1, 0, 0, 0), 0), 7 + 30);
        // The input 1 and cell 0 to where they are read; a of step 0 is sent to nobody.
        due(26, "taken, a from step 2", x.cost(0, cut(2, 0, 0, 0, 0, 0), 0), 7 + 10 + 10);
        due(21, "the price has both", x.price(0, cut(2, 0, 0, 0, 0, 0), 0), 7 + 10 + 10 + 10);
        due(26, "the cell is given elsewhere", x.cost(0, cut(0, 0, 0, 0, 3, 0), 0), 7 + 10 + 10 + 10 + 10);
        due(26, "nothing is changed", x.cell(1, false), 0);
        due(26, "and no name is taken", x.count(2), 0);
        due(26, "cut", x.cost(0, 1L << 12, 0), NONE);
        due(26, "cut below 0", x.cost(0, -1, 0), NONE);
        due(26, "sheet", x.cost(0, 0, 3), NONE);
        due(26, "text", x.cost(1, 0, 0), NONE);
        x.work(1, 0, 7);
        due(26, "by its sheet", x.cost(0, 0, 1), 7 * 7 + 10);
        // A ? in a block that is not taken is not done, so it is told to nobody.
        ManyPlaces y = with("?$0{?1{!1}}");
        due(26, "an inner ? is not done", y.cost(0, cut(0, 0, 1), 0), 1);
        due(26, "but is told", y.cost(0, cut(0, 1, 0), 0), 11);
        y.act(false, 0, 0, 5);
        ManyPlaces z = with("?#0{!1}");
        due(26, "by cells as they are", z.cost(0, 0, 0), 1);
        z.act(false, 0, 0, 5);
        due(26, "by cells as they are then", z.cost(0, 0, 0), 2);
    }

    private static void days() {
        ManyPlaces x = with("?$0{!1+1}");
        due(27, "share 0", x.day(0), NONE);
        due(27, "share 100", x.day(100), NONE);
        due(29, "no rows", x.daily(0, 0, 0), 0);
        due(27, "share 99", x.day(99), 1);
        x.lay(0, 1);
        due(27, "share 1", x.day(1), 2);
        x.lay(0, 0);
        due(29, "the sum", x.daily(0, 0, 0), 99 + 3);
        due(29, "by a cut", x.daily(0, cut(0, 1), 0), 99 * 11 + 13);
        due(29, "cut", x.daily(0, 16, 0), NONE);
        due(29, "sheet", x.daily(0, 0, 3), NONE);
        due(29, "text", x.daily(1, 0, 0), NONE);
        for (int i = 3; i <= 8; i++) {
            due(27, "rows", x.day(1), i);
        }
        due(27, "a ninth", x.day(1), NONE);
        due(45, "rows", x.count(3), 8);
        due(29, "eight rows", x.daily(0, 0, 0), 99 + 3 + 6);
        due(28, "night", x.night(), 8);
        due(28, "no rows then", x.night(), 0);
        due(29, "no rows then", x.daily(0, 0, 0), 0);
        due(27, "rows once more", x.day(2), 1);
        due(29, "the old rows are gone", x.daily(0, 0, 0), 2);
    }

    private static void leastDays() {
        ManyPlaces x = with("?$0{@1!$1};a=$1;!a", lines(7), lines(6));
        due(30, "no rows: the first lawful cut", x.leastDay(0, 0, 2), cut(0, 1, 0, 0));
        x.put(0, 0, 1);
        x.put(0, 1, 1);
        x.day(1);
        // The ? at 1: no words. a at 1 too.
        due(30, "to where the inputs are", x.leastDay(0, 0, 2), cut(1, 1, 1, 1));
        x.work(0, 1, 20);
        x.night();
        x.day(9);
        x.lay(0, 1);
        x.day(1);
        // ? at 0: 1 and two words, at 1: 20; a and ! at 0: 2 and a word, at 1: 40.
        due(30, "the dear place is left", x.leastDay(0, 0, 2), cut(1, 1, 0, 0));
        x.work(0, 1, 22);
        due(30, "for the ? too", x.leastDay(0, 0, 2), cut(0, 1, 0, 0));
        due(30, "7 free", x.leastDay(1, 0, 2), NONE);
        due(30, "6 free", x.leastDay(2, 1, 4), 0);
        due(30, "text", x.leastDay(3, 0, 2), NONE);
        due(30, "sheet", x.leastDay(0, -1, 2), NONE);
        due(30, "k of 1", x.leastDay(0, 0, 1), NONE);
        due(30, "k of 5", x.leastDay(0, 0, 5), NONE);
    }

    private static void moves() {
        ManyPlaces x = with("!1;!2;!3");
        due(31, "none", x.moved(0, cut(3, 2, 1), cut(3, 2, 1)), 0);
        due(31, "two", x.moved(0, cut(3, 2, 1), cut(0, 2, 0)), 2);
        due(31, "all", x.moved(0, 0, cut(1, 2, 3)), 3);
        due(31, "cut", x.moved(0, 64, 0), NONE);
        due(31, "the other", x.moved(0, 0, 64), NONE);
        due(31, "below 0", x.moved(0, 0, -1), NONE);
        due(31, "text", x.moved(1, 0, 0), NONE);
    }

    private static void waits() {
        ManyPlaces x = with("a=$0+1;b=a*a;#0=b;!#0+#1");
        due(32, "alike", x.length(1, 1, 1), false);
        due(32, "from 4", x.length(4, 1, 1), false);
        due(32, "to -1", x.length(1, -1, 1), false);
        due(32, "100", x.length(0, 1, 100), false);
        due(32, "-1", x.length(0, 1, -1), false);
        due(33, "0", x.speed(0, 0), false);
        due(33, "10", x.speed(0, 10), false);
        due(33, "place 4", x.speed(4, 1), false);
        due(33, "place -1", x.speed(-1, 1), false);
        due(34, "at one place: all weights", x.await(0, 0), 2 + 2 + 1 + 2);
        // a at 1: 5 to 7; b at 0: 12 to 14; #0 at 1: 19 to 20, at 0 by 25; ! at 2: 30 to 32.
        due(34, "to and fro", x.await(0, cut(1, 0, 1, 2)), 32);
        due(32, "99", x.length(0, 2, 99), true);
        due(32, "0", x.length(1, 0, 0), true);
        // a 5 to 7, b 7 to 9, #0 14 to 15, ! 114 to 116.
        due(34, "by lengths", x.await(0, cut(1, 0, 1, 2)), 116);
        due(33, "9", x.speed(1, 9), true);
        // a 5 to 23, b 23 to 25, #0 30 to 39, ! 138 to 140.
        due(34, "by speeds", x.await(0, cut(1, 0, 1, 2)), 140);
        due(33, "1", x.speed(1, 1), true);
        due(34, "cut", x.await(0, 256), NONE);
        due(34, "cut below 0", x.await(0, -1), NONE);
        due(34, "text", x.await(1, 0), NONE);
        due(34, "nothing is changed", x.cell(0, false), 0);
        ManyPlaces y = with("?$0{a=1+1+1};!a;!2");
        due(34, "steps done alone", y.await(0, cut(0, 1, 2, 0)), 2);
        y.lay(0, 1);
        // ? 0 to 1; a at 1: 6 to 9; ! at 2: 14 to 15; !2 at 0: 1 to 2.
        due(34, "a block that is taken", y.await(0, cut(0, 1, 2, 0)), 15);
    }

    private static void led() {
        ManyPlaces x = with("a=$0+1;b=a*a;#0=b;!#0+#1");
        due(35, "how many, at one place", x.led(0, 0, NONE), 4);
        due(35, "the last first", x.led(0, 0, 0), 3);
        due(35, "the first last", x.led(0, 0, 3), 0);
        due(35, "none more", x.led(0, 0, 4), NONE);
        due(35, "i of -2", x.led(0, 0, -2), NONE);
        due(35, "cut", x.led(0, 256, NONE), NONE);
        due(35, "text", x.led(1, 0, NONE), NONE);
        ManyPlaces y = with("!1;!2+$0;!$1;!1+1");
        y.put(0, 0, 1);
        // Step 1 at 2 waits for the input alone and ends last; at 0 step 3 ends at 4.
        due(35, "led to an input", y.led(0, cut(0, 2, 0, 0), NONE), 1);
        due(35, "the step", y.led(0, cut(0, 2, 0, 0), 0), 1);
        ManyPlaces z = with("!1;!1");
        due(35, "of several that end last the lowest", z.led(0, cut(1, 0), 0), 0);
    }

    private static void ledInOrder() {
        // Step 4 at 0 begins at 7 by a cell that was given at 1 by step 3, and by b.
        ManyPlaces x = with("?1{a=1;b=1;#0=1;!a+b+#0+#1}");
        x.put(1, 0, 1);
        // ? at 0: 0 to 1. a at 0: 1 to 2. b at 1: 6 to 7. #0 at 1: 7 to 8. ! at 2: a 7, b 12, #0 13, ? 6.
        long c = cut(0, 0, 1, 1, 2);
        due(35, "the cell's giver", x.led(0, c, 1), 3);
        due(35, "the step ahead at its place", x.led(0, c, 2), 2);
        due(35, "the ? around", x.led(0, c, 3), 0);
        due(35, "no more", x.led(0, c, NONE), 4);
        x.length(1, 2, 0);
        x.length(0, 2, 6);
        // ! at 2: a 8, b 7, #0 8, ? 7: a comes ahead of the cell.
        due(35, "a letter goes ahead of a cell", x.led(0, c, 1), 1);
        x.length(0, 2, 7);
        // a 9, ? 8: a.
        due(35, "the later one", x.led(0, c, 1), 1);
        ManyPlaces y = with("a=1+1;b=1;?1+1{!a+b}");
        // a 0 to 2 at 1, b 0 to 1 at 2, ? 0 to 2 at 0; ! at 3: all by 7 but b by 6.
        due(35, "the ? goes ahead of letters", y.led(0, cut(1, 2, 0, 3), 1), 2);
        y.length(2, 3, 6);
        y.length(0, 3, 0);
        due(35, "letters by numbers", y.led(0, cut(1, 2, 0, 3), 1), 0);
        ManyPlaces z = with("#1=1;#0=1;!#0+#1");
        // Both are given at 1, at places apart: #1 by step 0, #0 by step 1.
        due(35, "cells by cells", z.led(0, cut(1, 2, 0), 1), 1);
        ManyPlaces w = with("#0=1;#0=1;!#0");
        due(35, "then by numbers", w.led(0, cut(1, 2, 0), 1), 0);
        due(34, "the latest of what was given", w.await(0, cut(1, 2, 0)), 7);
    }

    private static void parts() {
        ManyPlaces x = with("!1;!2;!3;!4", "?$0{!5};!6");
        due(38, "none at first", x.turn(0), NONE);
        refuses(37, "none at first", () -> x.part(0, 0));
        long c = cut(0, 1, 2, 3);
        due(36, "parts", x.parts(0, c, 42), 4);
        long seed = 42;
        int through = 0;
        for (int i = 0; i < 4; i++) {
            seed = seed * 6364136223846793005L + 1442695040888963407L;
            int left = (int) ((seed >>> 33) % (4 - i));
            int step = 0;
            while ((through >> step & 1) == 1 || left-- > 0) {
                step++;
            }
            through |= 1 << step;
            due(38, "turn(" + i + ")", x.turn(i), step);
        }
        due(38, "turn(4)", x.turn(4), NONE);
        due(38, "turn(-1)", x.turn(-1), NONE);
        for (int p = 0; p < 4; p++) {
            due(37, "part(" + p + ", 0)", x.part(p, 0), p + 1);
        }
        refuses(37, "part(0, 1)", () -> x.part(0, 1));
        refuses(37, "part(0, -1)", () -> x.part(0, -1));
        refuses(37, "part(4, 0)", () -> x.part(4, 0));
        refuses(37, "part(-1, 0)", () -> x.part(-1, 0));
        due(36, "cut", x.parts(0, 256, 1), NONE);
        due(36, "cut below 0", x.parts(0, -1, 1), NONE);
        due(36, "text", x.parts(2, 0, 1), NONE);
        due(37, "the latest that was is kept", x.part(3, 0), 4);
        due(36, "a block that is not taken", x.parts(1, cut(0, 1, 1), 7), 1);
        due(38, "its steps are passed", x.turn(2), 2);
        due(38, "no more", x.turn(3), NONE);
        due(37, "what is shown", x.part(1, 0), 6);
        refuses(37, "what was shown before is gone", () -> x.part(0, 0));
        x.lay(0, 1);
        due(36, "a block that is taken", x.parts(1, cut(0, 1, 1), 7), 2);
        due(37, "in the order of the place", x.part(1, 0), 5);
        due(37, "in the order of the place", x.part(1, 1), 6);
    }

    private static void partsWait() {
        // Whatever the seed: a letter is had from its giver, cells go in order, and all is shown as asked at one place.
        ManyPlaces x = with("a=1;#0=a+1;b=#0;#0=9;a=5;!a+b;!#0");
        for (long seed = 0; seed < 60; seed++) {
            long c = cut(0, 1, 2, 3, 1, 0, 2);
            due(36, "parts", x.parts(0, c, seed * 77), 2);
            due(37, "letters and cells", x.part(0, 0), 7);
            due(37, "the cell's last", x.part(2, 0), 9);
            int[] when = new int[7];
            for (int i = 0; i < 7; i++) {
                when[x.turn(i)] = i;
            }
            int[][] before = {{0, 1}, {1, 2}, {2, 3}, {3, 6}, {1, 4}, {4, 5}, {2, 5}, {0, 5}, {2, 6}};
            for (int[] b : before) {
                due(38, "step " + b[0] + " ahead of " + b[1], when[b[0]] < when[b[1]], true);
            }
        }
        due(36, "nothing is changed", x.cell(0, false), 0);
        // b has its own a, though a later a may be given sooner elsewhere.
        ManyPlaces y = with("a=1;b=a;a=2;!b");
        boolean sooner = false;
        for (long seed = 0; seed < 60; seed++) {
            y.parts(0, cut(0, 1, 0, 1), seed);
            due(37, "its own a", y.part(1, 0), 1);
            sooner |= y.turn(1) == 2;
        }
        due(38, "some seed gives the later a sooner", sooner, true);
    }

    private static void goesOn() {
        ManyPlaces x = with("a=$0;?a{#0=1};!#1;b=a;!b");
        long c = cut(0, 0, 1, 1, 1, 0);
        // Step 4 (b at 1) needs a of place 0; step 5 needs b, which does not go on.
        due(39, "place 1 away: inputs and cells are at 0", x.on(0, c, 1), 0b000011);
        due(39, "place 3 away: all goes on here", x.on(0, c, 3), 0b111111);
        x.put(1, 0, 3);
        due(39, "a cell that is given is there", x.on(0, c, 3), 0b111011);
        x.put(1, 0, 0);
        x.put(1, 1, 1);
        due(39, "a cell on the far side is read there", x.on(0, c, 1), 0b001011);
        x.put(0, 0, 1);
        due(39, "an input on the far side, and all that needs it", x.on(0, c, 1), 0b001000);
        due(39, "place 4", x.on(0, c, 4), NONE);
        due(39, "place -1", x.on(0, c, -1), NONE);
        due(39, "cut", x.on(0, 1L << 12, 0), NONE);
        due(39, "text", x.on(1, 0, 0), NONE);
        // On the same side again, but by way of a step that does not go on.
        ManyPlaces y = with("a=1;b=a;c=b");
        due(39, "a step that needs what does not go on", y.on(0, cut(0, 1, 1), 1), 0b001);
        due(39, "places 0 and 2 are one side", y.on(0, cut(0, 2, 1), 1), 0b011);
    }

    private static void awayAndBack() {
        ManyPlaces x = with("#0=7");
        due(42, "back while none is away", x.back(), NONE);
        due(41, "act away while none is", x.act(true, 0, 0, 1), false);
        due(40, "away(4)", x.away(4), false);
        due(40, "away(-1)", x.away(-1), false);
        due(45, "none is away", x.count(5), NONE);
        due(41, "put", x.act(false, 0, 0, 10), true);
        due(41, "add", x.act(false, 0, 1, -4), true);
        due(11, "sum", x.cell(0, false), 6);
        due(41, "raise to less", x.act(false, 0, 2, 5), true);
        due(11, "is no raise", x.cell(0, false), 6);
        due(41, "how of 3", x.act(false, 0, 3, 5), false);
        due(41, "how of -1", x.act(false, 0, -1, 5), false);
        due(41, "cell 8", x.act(false, 8, 0, 5), false);
        due(41, "cell -1", x.act(false, -1, 0, 5), false);
        due(40, "away", x.away(3), true);
        due(40, "away again", x.away(3), false);
        due(45, "the place that is away", x.count(5), 3);
        due(11, "alike at first", x.cell(0, true), 6);
        x.act(true, 0, 1, 100);
        x.act(false, 0, 1, 1);
        x.act(false, 0, 1, 1);
        x.act(true, 1, 2, -5);
        x.act(false, 1, 2, -7);
        x.act(true, 2, 0, 3);
        x.act(false, 3, 0, 4);
        x.act(true, 4, 0, 5);
        x.act(true, 4, 1, 5);
        x.act(true, 5, 2, Integer.MAX_VALUE);
        x.act(false, 5, 2, 8);
        x.act(true, 6, 1, 2);
        x.act(false, 6, 2, 3);
        x.act(true, 7, 0, 4);
        x.act(false, 7, 0, 4);
        due(42, "adds and raises are two kinds, puts are asked about, the same ones too", x.back(), 0b11000000);
        int[] due = {108, 0, 3, 4, 10, Integer.MAX_VALUE, 3, 4};
        for (int c = 0; c < 8; c++) {
            due(42, "cell " + c + " joined", x.cell(c, false), due[c]);
        }
        due(45, "none is away", x.count(5), NONE);
        due(40, "another place", x.away(0), true);
        x.act(true, 0, 1, Integer.MAX_VALUE);
        x.act(false, 0, 1, Integer.MAX_VALUE);
        x.back();
        due(42, "sums wrap", x.cell(0, false), 106);
        x.away(0);
        x.ask(0, 0);
        x.act(true, 0, 1, 1);
        due(42, "an ask puts here", x.back(), 0b11000001);
        due(42, "here's", x.cell(0, false), 7);
    }

    private static ManyPlaces doubtful() {
        ManyPlaces x = with("#0=7;?$0{#1=1}", "!1");
        x.away(1);
        for (int c = 0; c < 2; c++) {
            x.act(true, c, 0, 50 + c);
            x.act(false, c, 0, 60 + c);
        }
        due(42, "asked about", x.back(), 0b11);
        due(43, "asked about", x.asked(), 0b11);
        return x;
    }

    private static void asksAbout() {
        ManyPlaces x = doubtful();
        due(44, "cell 8", x.choose(8, true), false);
        due(44, "cell -1", x.choose(-1, true), false);
        due(44, "a cell that is not asked about", x.choose(2, true), false);
        due(44, "away's", x.choose(1, true), true);
        due(44, "is its number", x.cell(1, false), 51);
        due(44, "once", x.choose(1, true), false);
        due(43, "the other is asked about", x.asked(), 0b01);
        due(44, "here's", x.choose(0, false), true);
        due(44, "is its number", x.cell(0, false), 60);
        due(43, "none is asked about", x.asked(), 0);

        x = doubtful();
        x.away(2);
        due(44, "while a place is away", x.choose(0, true), false);
        due(43, "still asked about", x.asked(), 0b11);
        x.act(true, 1, 1, 1);
        due(43, "acts away end nothing yet", x.asked(), 0b11);
        due(42, "joined with acts away alone: no more asked about", x.back(), 0b01);
        due(42, "away's number", x.cell(1, false), 62);
        due(44, "away's as it was at the first time", x.choose(0, true), true);
        due(44, "its number", x.cell(0, false), 50);

        x = doubtful();
        x.act(false, 0, 1, 0);
        due(43, "another act here ends it", x.asked(), 0b10);
        x.ask(1, 1);
        due(43, "an ask that gives it nothing does not", x.asked(), 0b10);
        x.ask(0, 2);
        due(43, "nor one whose block is not taken", x.asked(), 0b10);
        x.lay(0, 1);
        x.ask(0, 2);
        due(43, "nor a name that was asked by", x.asked(), 0b10);
        x.ask(0, 3);
        due(43, "an ask that gives it a number does", x.asked(), 0);

        x = doubtful();
        x.away(0);
        x.act(false, 0, 1, 1);
        due(43, "an act here while away ends it", x.asked(), 0b10);
        x.act(true, 0, 1, 5);
        due(42, "adds on both are joined", x.back(), 0b10);
        due(42, "all that was added", x.cell(0, false), 66);
        x.away(0);
        x.act(false, 1, 0, 1);
        x.act(true, 1, 0, 2);
        due(42, "asked about anew", x.back(), 0b10);
        x.choose(1, true);
        due(44, "by the newer number", x.cell(1, false), 2);
    }

    private static void counts() {
        ManyPlaces x = with("!1");
        feed(x, "abc");
        x.law(0, 0, 0);
        x.ask(0, 9);
        x.day(3);
        x.away(2);
        long[] due = {1, 1, 1, 1, 3, 2};
        for (int i = 0; i < due.length; i++) {
            due(45, "count(" + i + ")", x.count(i), due[i]);
        }
        due(45, "count(6)", x.count(6), NONE);
        due(45, "count(-1)", x.count(-1), NONE);
        ManyPlaces y = new ManyPlaces();
        for (int i = 0; i < 5; i++) {
            due(1, "count(" + i + ") of a new object", y.count(i), 0);
        }
        due(1, "count(5) of a new object", y.count(5), NONE);
        due(1, "asked about of a new object", y.asked(), 0);
    }
}
