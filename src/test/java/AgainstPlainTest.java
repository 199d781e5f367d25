import java.util.NoSuchElementException;
import java.util.Random;

/** Random runs of calls, each answer held against Plain's. */
public final class AgainstPlainTest {
    private static final double MOST_LISTED = 700;

    private final Random dice;
    private final ManyPlaces x = new ManyPlaces();
    private final Plain plain = new Plain();
    private final StringBuilder told = new StringBuilder();
    private int calls = 0;
    private boolean failed = false;

    private interface Call {
        long answer();
    }

    private AgainstPlainTest(long seed) {
        dice = new Random(seed);
    }

    public static void main(String[] args) {
        int runs = args.length > 0 ? Integer.parseInt(args[0]) : 500;
        long first = args.length > 1 ? Long.parseLong(args[1]) : 1;
        for (int r = 0; r < runs; r++) {
            AgainstPlainTest run = new AgainstPlainTest(first + r);
            run.play();
            if (run.failed) {
                System.out.println("run with seed " + (first + r) + ":\n" + run.told);
                System.exit(1);
            }
        }
        System.out.println(runs + " random runs answer as Plain does");
    }

    private static String answerOf(Call call) {
        try {
            return Long.toString(call.answer());
        } catch (NoSuchElementException e) {
            return "throws.NoSuchElementException";
        } catch (RuntimeException e) {
            return "throws." + e;
        }
    }

    private void same(String name, Call got, Call want) {
        if (failed) {
            return;
        }
        calls++;
        String g = answerOf(got);
        String w = answerOf(want);
        told.append(name).append(" = ").append(g).append('\n');
        if (!g.equals(w)) {
            told.append("due is ").append(w).append('\n');
            failed = true;
        }
    }

    private int low(int bound) {
        return dice.nextInt(12) == 0 ? dice.nextInt(bound + 4) - 2 : dice.nextInt(bound);
    }

    private static long truth(boolean b) {
        return b ? 1 : 0;
    }

    private void play() {
        int most = 40 + dice.nextInt(470);
        int style = dice.nextInt(3);
        inputsUsed = dice.nextBoolean() ? 8 : 2;
        addText();
        for (int i = dice.nextInt(2) * 60; i > 0; i--) {
            setSomething(style);
        }
        while (calls < most && !failed) {
            int kind = dice.nextInt(100);
            if (kind < 4) {
                addText();
            } else if (kind < 8) {
                badText();
            } else if (kind < 35) {
                setSomething(style);
            } else if (kind < 55) {
                searchSomething();
            } else if (kind < 75) {
                cutSomething();
            } else {
                goSomewhere();
            }
        }
    }

    // ---- texts

    private String sum(int depth, int room) {
        StringBuilder b = new StringBuilder(atom(depth, room));
        while (dice.nextInt(100) < room) {
            b.append(blank()).append("+-<*".charAt(dice.nextInt(4))).append(blank()).append(atom(depth, room));
        }
        return b.toString();
    }

    private String atom(int depth, int room) {
        switch (dice.nextInt(depth < 6 ? 7 : 6)) {
            case 0: return Integer.toString(dice.nextInt(dice.nextBoolean() ? 4 : 1000));
            case 1: return "$" + blank() + dice.nextInt(inputsUsed);
            case 2: return "#" + blank() + dice.nextInt(dice.nextBoolean() ? 3 : 8);
            case 6: return dice.nextInt(3) > 0 ? letter() : "(" + blank() + sum(depth + 1, room) + blank() + ")";
            default: return letter();
        }
    }

    private String letter() {
        return "" + (char) ('a' + dice.nextInt(dice.nextBoolean() ? 3 : 8));
    }

    private String blank() {
        return dice.nextInt(12) == 0 ? " " : "";
    }

    private int inputsUsed = 8;
    private int linesLeft;
    private boolean pins;

    private String lines(int depth, int many) {
        StringBuilder b = new StringBuilder();
        for (int i = 0; i < many && linesLeft > 0; i++) {
            if (i > 0) {
                b.append(blank()).append(';').append(blank());
            }
            linesLeft--;
            if (pins && dice.nextInt(4) == 0) {
                b.append('@').append(blank()).append(dice.nextInt(4)).append(blank());
            }
            int kind = dice.nextInt(10);
            if (kind < 4 || (kind >= 8 && (depth >= 6 || linesLeft == 0))) {
                b.append(letter()).append(blank()).append('=').append(blank()).append(sum(depth, 35));
            } else if (kind < 6) {
                b.append('#').append(blank()).append(dice.nextInt(4)).append('=').append(sum(depth, 35));
            } else if (kind < 8) {
                b.append('!').append(blank()).append(sum(depth, 35));
            } else {
                b.append('?').append(sum(depth, 25)).append('{').append(blank());
                b.append(lines(depth + 1, 1 + dice.nextInt(4))).append(blank()).append('}');
            }
        }
        return b.toString();
    }

    private String someText() {
        linesLeft = 1 + dice.nextInt(dice.nextBoolean() ? 6 : 16);
        pins = dice.nextInt(3) > 0;
        String s = blank() + lines(0, linesLeft) + blank();
        return s.length() <= 240 ? s : someText();
    }

    private void feedAll(String s) {
        int at = 0;
        while (at < s.length() && !failed) {
            int[] w = new int[5];
            for (int i = 0; i < 20 && at < s.length(); i++) {
                if (dice.nextInt(25) > 0) {
                    w[i / 4] |= (s.charAt(at) & 255) << (24 - 8 * (i % 4));
                    at++;
                }
            }
            same("feed " + s, () -> x.feed(w[0], w[1], w[2], w[3], w[4]), () -> plain.feed(w));
        }
    }

    private void addText() {
        if (plain.tape.size() > 0) {
            same("end(0)", () -> truth(x.end(0)), () -> truth(plain.end(0)));
        }
        feedAll(someText());
        same("fault()", x::fault, plain::fault);
        same("text()", x::text, plain::text);
        int t = plain.programs.size() - 1;
        for (int s = 0; s < plain.steps(t) && !failed; s++) {
            int step = s;
            int what = dice.nextInt(9);
            same("step(" + t + "," + step + "," + what + ")", () -> x.step(t, step, what),
                () -> plain.step(t, step, what));
        }
    }

    private void badText() {
        StringBuilder b = new StringBuilder(someText());
        for (int i = dice.nextInt(3); i >= 0; i--) {
            int at = dice.nextInt(b.length() + 1);
            char c = dice.nextInt(10) == 0 ? (char) (1 + dice.nextInt(255))
                : "abh=+-<*#$!?@(){};0123456789  i".charAt(dice.nextInt(31));
            if (dice.nextInt(3) == 0 && at < b.length()) {
                b.deleteCharAt(at);
            } else if (dice.nextBoolean() && at < b.length()) {
                b.setCharAt(at, c);
            } else {
                b.insert(at, c);
            }
        }
        feedAll(b.toString());
        same("fault()", x::fault, plain::fault);
        if (dice.nextInt(3) == 0) {
            same("text()", x::text, plain::text);
        }
        int n = dice.nextBoolean() ? 0 : dice.nextInt(plain.tape.size() + 4) - 2;
        same("end(" + n + ")", () -> truth(x.end(n)), () -> truth(plain.end(n)));
        same("fault()", x::fault, plain::fault);
    }

    // ---- settings

    private void setSomething(int style) {
        int a = low(8);
        int p = low(4);
        int q = low(4);
        int s = low(3);
        int small = style == 0 ? dice.nextInt(4) : dice.nextInt(104) - 2;
        switch (dice.nextInt(10)) {
            case 0:
            case 1:
                int v = dice.nextInt(4) == 0 ? dice.nextInt() : dice.nextInt(7) - 3;
                same("lay(" + a + "," + v + ")", () -> truth(x.lay(a, v)), () -> truth(plain.lay(a, v)));
                break;
            case 2:
                int kind = low(2);
                same("put(" + kind + "," + a + "," + p + ")", () -> truth(x.put(kind, a, p)),
                    () -> truth(plain.put(kind, a, p)));
                break;
            case 3:
                int secret = dice.nextInt(6) - 1;
                same("secret(" + a + "," + secret + ")", () -> truth(x.secret(a, secret)),
                    () -> truth(plain.secret(a, secret)));
                break;
            case 4:
                int n = dice.nextInt(3) == 0 ? dice.nextInt(11) - 1 : dice.nextInt(4);
                if (dice.nextInt(style + 1) == 0) {
                    same("law(" + p + "," + q + "," + n + ")", () -> x.law(p, q, n), () -> plain.law(p, q, n));
                }
                break;
            case 5:
                same("work(" + s + "," + p + "," + small + ")", () -> truth(x.work(s, p, small)),
                    () -> truth(plain.work(s, p, small)));
                break;
            case 6:
                int dear = style == 0 ? dice.nextInt(3) : dice.nextInt(1004) - 2;
                same("word(" + s + "," + p + "," + q + "," + dear + ")", () -> truth(x.word(s, p, q, dear)),
                    () -> truth(plain.word(s, p, q, dear)));
                break;
            case 7:
                same("length(" + p + "," + q + "," + small + ")", () -> truth(x.length(p, q, small)),
                    () -> truth(plain.length(p, q, small)));
                break;
            case 8:
                int quick = dice.nextInt(11);
                same("speed(" + p + "," + quick + ")", () -> truth(x.speed(p, quick)),
                    () -> truth(plain.speed(p, quick)));
                break;
            default:
                if (dice.nextInt(9) == 0) {
                    same("night()", x::night, plain::night);
                } else {
                    int share = small;
                    same("day(" + share + ")", () -> x.day(share), () -> plain.day(share));
                }
                break;
        }
    }

    // ---- laws and the least

    private void searchSomething() {
        int t = low(Math.max(1, plain.programs.size()));
        int k = low(5);
        int s = low(3);
        int i = low(6);
        double listed = plain.listed(t, k, false);
        switch (dice.nextInt(8)) {
            case 0:
                int p = low(4);
                int step = low(Math.max(1, plain.steps(t)));
                same("may(" + t + "," + step + "," + p + ")", () -> x.may(t, step, p), () -> plain.may(t, step, p));
                break;
            case 1:
            case 2:
                int what = dice.nextInt(4) - 1;
                same("barred(" + t + "," + k + "," + what + ")", () -> x.barred(t, k, what),
                    () -> plain.barred(t, k, what));
                break;
            case 3:
                same("free(" + t + "," + k + ")", () -> x.free(t, k), () -> plain.free(t, k));
                break;
            case 4:
                if (listed <= MOST_LISTED || (k > 2 && plain.free(t, k) > 8)) {
                    same("least(" + t + "," + s + "," + k + ")", () -> x.least(t, s, k), () -> plain.least(t, s, k));
                }
                break;
            case 5:
                if (plain.listed(t, k, true) <= MOST_LISTED || plain.free(t, k) > 5) {
                    same("twice(" + t + "," + s + "," + k + ")", () -> x.twice(t, s, k), () -> plain.twice(t, s, k));
                }
                break;
            case 6:
                int j = dice.nextInt(3) == 0 ? -1 : i;
                if (plain.listed(t, 2, false) <= 64 || plain.free(t, 2) > 8) {
                    same("better(" + t + "," + j + ")", () -> x.better(t, j), () -> plain.better(t, j));
                }
                break;
            default:
                if (listed * (1 + plain.dayShares.size()) <= MOST_LISTED || plain.free(t, k) > 6) {
                    same("leastDay(" + t + "," + s + "," + k + ")", () -> x.leastDay(t, s, k),
                        () -> plain.leastDay(t, s, k));
                }
                break;
        }
    }

    // ---- cuts

    private long someCut(int t) {
        int n = Math.max(1, plain.steps(t));
        if (dice.nextInt(15) == 0) {
            return dice.nextBoolean() ? 1L << (2 * n) : dice.nextLong() >> dice.nextInt(64);
        }
        long cut = 0;
        int places = 1 + dice.nextInt(4);
        for (int i = 0; i < n; i++) {
            cut = cut * 4 + dice.nextInt(places);
        }
        return cut;
    }

    private void cutSomething() {
        int t = low(Math.max(1, plain.programs.size()));
        int s = low(3);
        int p = low(4);
        long cut = someCut(t);
        String head = "(" + t + "," + cut + ",";
        switch (dice.nextInt(10)) {
            case 0:
                same("lawful" + head, () -> x.lawful(t, cut), () -> plain.lawful(t, cut));
                break;
            case 1:
                same("words" + head, () -> x.words(t, cut), () -> plain.words(t, cut));
                break;
            case 2:
                same("price" + head + s, () -> x.price(t, cut, s), () -> plain.price(t, cut, s));
                break;
            case 3:
                same("cost" + head + s, () -> x.cost(t, cut, s), () -> plain.cost(t, cut, s));
                break;
            case 4:
                same("daily" + head + s, () -> x.daily(t, cut, s), () -> plain.daily(t, cut, s));
                break;
            case 5:
                long other = someCut(t);
                same("moved" + head + other, () -> x.moved(t, cut, other), () -> plain.moved(t, cut, other));
                break;
            case 6:
                same("await" + head, () -> x.await(t, cut), () -> plain.await(t, cut));
                break;
            case 7:
                for (int i = -2; i < 6; i++) {
                    int j = i;
                    same("led" + head + j, () -> x.led(t, cut, j), () -> plain.led(t, cut, j));
                }
                break;
            case 8:
                same("on" + head + p, () -> x.on(t, cut, p), () -> plain.on(t, cut, p));
                break;
            default:
                long seed = dice.nextLong();
                same("parts" + head + seed, () -> x.parts(t, cut, seed), () -> plain.parts(t, cut, seed));
                for (int i = 0; i < 4; i++) {
                    int j = low(16);
                    same("turn(" + j + ")", () -> x.turn(j), () -> plain.turn(j));
                    int q = low(4);
                    int l = low(3);
                    same("part(" + q + "," + l + ")", () -> x.part(q, l), () -> plain.part(q, l));
                }
                break;
        }
    }

    // ---- asks, and being away

    private void goSomewhere() {
        int t = low(Math.max(1, plain.programs.size()));
        int c = low(dice.nextBoolean() ? 2 : 8);
        boolean b = dice.nextBoolean();
        switch (dice.nextInt(12)) {
            case 0:
                int name = low(50);
                same("ask(" + t + "," + name + ")", () -> x.ask(t, name), () -> plain.ask(t, name));
                for (int i = 0; i < 2; i++) {
                    int j = low(4);
                    same("shown(" + name + "," + j + ")", () -> x.shown(name, j), () -> plain.shown(name, j));
                }
                break;
            case 1:
            case 2:
                same("cell(" + c + "," + b + ")", () -> x.cell(c, b), () -> plain.cell(c, b));
                break;
            case 3:
                int p = low(4);
                same("away(" + p + ")", () -> truth(x.away(p)), () -> truth(plain.away(p)));
                break;
            case 4:
                if (dice.nextInt(2) == 0) {
                    same("back()", x::back, plain::back);
                }
                break;
            case 5:
                same("asked()", x::asked, plain::asked);
                break;
            case 6:
                same("choose(" + c + "," + b + ")", () -> truth(x.choose(c, b)), () -> truth(plain.choose(c, b)));
                break;
            case 7:
                int what = dice.nextInt(8) - 1;
                same("count(" + what + ")", () -> x.count(what), () -> plain.count(what));
                break;
            default:
                int how = dice.nextInt(20) == 0 ? low(3) : 1 + dice.nextInt(2);
                int v = dice.nextInt(5) == 0 ? dice.nextInt() : dice.nextInt(9) - 4;
                same("act(" + b + "," + c + "," + how + "," + v + ")", () -> truth(x.act(b, c, how, v)),
                    () -> truth(plain.act(b, c, how, v)));
                break;
        }
    }
}
