import java.util.ArrayDeque;
import java.util.ArrayList;
import java.util.Arrays;
import java.util.Deque;
import java.util.HashMap;
import java.util.HashSet;
import java.util.List;
import java.util.Map;
import java.util.NoSuchElementException;
import java.util.Set;
import java.util.TreeMap;
import java.util.TreeSet;

/**
 * The document once more, written as slowly and as near to its words as can be, to hold ManyPlaces against:
 * a table drives the fault, ways are tried one by one, cuts are all listed, words are a set of texts.
 */
final class Plain {
    static final int NONE = -1;

    static final class Step {
        int kind;
        int gives = NONE;
        int pin = NONE;
        Step around;
        String sum;
        int number;
        Set<Integer> inputs = new TreeSet<>();
        Set<Integer> cells = new TreeSet<>();
        Set<Integer> letters = new TreeSet<>();
        Set<Step> flows = new HashSet<>();
        Set<Integer> made = new TreeSet<>();
        int weight = 1;
    }

    static final class Program {
        List<Step> steps = new ArrayList<>();
        Map<Integer, Set<Integer>> cellMade = new HashMap<>();
    }

    record Act(int how, int v) { }

    final List<Integer> tape = new ArrayList<>();
    final List<Program> programs = new ArrayList<>();
    final int[] inputs = new int[8];
    final int[] inputPlace = new int[8];
    final int[] cellPlace = new int[8];
    final int[] secretOf = {-1, -1, -1, -1, -1, -1, -1, -1};
    final List<int[]> laws = new ArrayList<>();
    final int[][] work = new int[3][4];
    final int[][][] word = new int[3][4][4];
    final int[][] length = new int[4][4];
    final int[] speed = {1, 1, 1, 1};
    final List<int[]> dayInputs = new ArrayList<>();
    final List<Integer> dayShares = new ArrayList<>();
    final Map<Integer, List<Integer>> names = new HashMap<>();
    final int[] here = new int[8];
    final int[] away = new int[8];
    final int[] parted = new int[8];
    final List<List<Act>> actsHere = new ArrayList<>();
    final List<List<Act>> actsAway = new ArrayList<>();
    final Map<Integer, Integer> doubted = new TreeMap<>();
    int gone = NONE;
    List<List<Integer>> partShows = null;
    List<Integer> partTurns = new ArrayList<>();

    Plain() {
        for (int s = 0; s < 3; s++) {
            Arrays.fill(work[s], 1);
            for (int p = 0; p < 4; p++) {
                Arrays.fill(word[s][p], 10);
            }
        }
        for (int p = 0; p < 4; p++) {
            Arrays.fill(length[p], 5);
        }
        for (int c = 0; c < 8; c++) {
            actsHere.add(new ArrayList<>());
            actsAway.add(new ArrayList<>());
        }
    }

    static boolean in(int v, int low, int high) {
        return v >= low && v <= high;
    }

    int feed(int... five) {
        List<Integer> more = new ArrayList<>(tape);
        for (int w : five) {
            for (int b = 3; b >= 0; b--) {
                int v = (w >>> (8 * b)) & 255;
                if (v != 0) {
                    more.add(v);
                }
            }
        }
        if (more.size() > 240) {
            return NONE;
        }
        tape.clear();
        tape.addAll(more);
        return tape.size();
    }

    boolean end(int n) {
        if (!in(n, 0, tape.size())) {
            return false;
        }
        while (tape.size() > n) {
            tape.remove(tape.size() - 1);
        }
        return true;
    }

    // The fault by a table: a stack of what is still to come, a sign at a time.
    int fault() {
        Deque<String> stack = new ArrayDeque<>();
        stack.push("END");
        stack.push("LINES");
        int lines = 0;
        int open = 0;
        int at = 0;
        while (true) {
            boolean digits = stack.peek().startsWith("DIGITS");
            if (!digits) {
                while (at < tape.size() && tape.get(at) == 32) {
                    at++;
                }
            }
            String top = stack.pop();
            if (digits && at < tape.size() && tape.get(at) == 32) {
                continue;
            }
            char c = at < tape.size() ? (char) (int) tape.get(at) : 0;
            switch (top) {
                case "END":
                    return c == 0 ? NONE : at;
                case "LINES":
                    push(stack, "LINE", "MORELINES");
                    break;
                case "MORELINES":
                    if (c == ';') {
                        push(stack, ";", "LINES");
                    }
                    break;
                case "LINE":
                    if (c == 0 || lines == 16) {
                        return at;
                    }
                    lines++;
                    if (c == '@') {
                        push(stack, "@", "0123", "BARE");
                    } else {
                        push(stack, "BARE");
                    }
                    break;
                case "BARE":
                    if (c >= 'a' && c <= 'h') {
                        push(stack, "abcdefgh", "=", "SUM");
                    } else if (c == '#') {
                        push(stack, "#", "01234567", "=", "SUM");
                    } else if (c == '!') {
                        push(stack, "!", "SUM");
                    } else if (c == '?') {
                        push(stack, "?", "SUM", "{", "LINES", "}");
                    } else {
                        return at;
                    }
                    break;
                case "SUM":
                    push(stack, "TERM", "MORETERMS");
                    break;
                case "MORETERMS":
                    if (c != 0 && "+-<".indexOf(c) >= 0) {
                        push(stack, "+-<", "TERM", "MORETERMS");
                    }
                    break;
                case "TERM":
                    push(stack, "ATOM", "MOREATOMS");
                    break;
                case "MOREATOMS":
                    if (c == '*') {
                        push(stack, "*", "ATOM", "MOREATOMS");
                    }
                    break;
                case "ATOM":
                    if (Character.isDigit(c) && c < 128) {
                        push(stack, "0123456789", "DIGITS2");
                    } else if (c >= 'a' && c <= 'h') {
                        push(stack, "abcdefgh");
                    } else if (c == '$' || c == '#') {
                        push(stack, "" + c, "01234567");
                    } else if (c == '(') {
                        push(stack, "(", "SUM", ")");
                    } else {
                        return at;
                    }
                    break;
                case "DIGITS2":
                    if (c >= '0' && c <= '9') {
                        push(stack, "0123456789", "DIGITS1");
                    }
                    break;
                case "DIGITS1":
                    if (c >= '0' && c <= '9') {
                        push(stack, "0123456789");
                    }
                    break;
                default:
                    if (c == 0 || top.indexOf(c) < 0) {
                        return at;
                    }
                    if (c == '(' || c == '{') {
                        if (open == 6) {
                            return at;
                        }
                        open++;
                    }
                    if (c == ')' || c == '}') {
                        open--;
                    }
                    at++;
                    break;
            }
        }
    }

    private static void push(Deque<String> stack, String... what) {
        for (int i = what.length - 1; i >= 0; i--) {
            stack.push(what[i]);
        }
    }

    int text() {
        if (programs.size() == 6 || fault() != NONE) {
            return NONE;
        }
        StringBuilder b = new StringBuilder();
        for (int v : tape) {
            if (v != 32) {
                b.append((char) v);
            }
        }
        Program p = new Program();
        addLines(p, b.toString(), null);
        for (Step s : p.steps) {
            look(s);
        }
        findFlows(p);
        findMade(p);
        programs.add(p);
        tape.clear();
        return programs.size() - 1;
    }

    private static void addLines(Program p, String lines, Step around) {
        int depth = 0;
        int start = 0;
        for (int i = 0; i <= lines.length(); i++) {
            char c = i < lines.length() ? lines.charAt(i) : ';';
            depth += "({".indexOf(c) >= 0 ? 1 : ")}".indexOf(c) >= 0 ? -1 : 0;
            if (c == ';' && depth == 0) {
                addLine(p, lines.substring(start, i), around);
                start = i + 1;
            }
        }
    }

    private static void addLine(Program p, String line, Step around) {
        Step s = new Step();
        s.around = around;
        s.number = p.steps.size();
        p.steps.add(s);
        if (line.startsWith("@")) {
            s.pin = line.charAt(1) - '0';
            line = line.substring(2);
        }
        char c = line.charAt(0);
        if (c == '!') {
            s.kind = 2;
            s.sum = line.substring(1);
        } else if (c == '?') {
            s.kind = 3;
            int brace = line.indexOf('{');
            s.sum = line.substring(1, brace);
            addLines(p, line.substring(brace + 1, line.length() - 1), s);
        } else if (c == '#') {
            s.kind = 1;
            s.gives = line.charAt(1) - '0';
            s.sum = line.substring(3);
        } else {
            s.kind = 0;
            s.gives = c - 'a';
            s.sum = line.substring(2);
        }
    }

    private static void look(Step s) {
        for (int i = 0; i < s.sum.length(); i++) {
            char c = s.sum.charAt(i);
            if (c >= 'a' && c <= 'h') {
                s.letters.add(c - 'a');
            } else if (c == '$') {
                s.inputs.add(s.sum.charAt(i + 1) - '0');
            } else if (c == '#') {
                s.cells.add(s.sum.charAt(i + 1) - '0');
            } else if ("+-<*".indexOf(c) >= 0) {
                s.weight++;
            }
        }
    }

    // Every way through: each ? taken or not.
    private static void findFlows(Program p) {
        List<Step> ifs = new ArrayList<>();
        for (Step s : p.steps) {
            if (s.kind == 3) {
                ifs.add(s);
            }
        }
        for (int way = 0; way < 1 << ifs.size(); way++) {
            Step[] last = new Step[8];
            for (Step s : p.steps) {
                boolean met = true;
                for (Step o = s.around; o != null; o = o.around) {
                    met &= (way >> ifs.indexOf(o) & 1) == 1;
                }
                if (!met) {
                    continue;
                }
                for (int v : s.letters) {
                    if (last[v] != null) {
                        s.flows.add(last[v]);
                    }
                }
                if (s.kind == 0) {
                    last[s.gives] = s;
                }
            }
        }
    }

    private static void findMade(Program p) {
        for (int c = 0; c < 8; c++) {
            p.cellMade.put(c, new TreeSet<>());
        }
        for (boolean grew = true; grew;) {
            grew = false;
            for (Step s : p.steps) {
                grew |= s.made.addAll(s.inputs);
                for (Step f : s.flows) {
                    grew |= s.made.addAll(f.made);
                }
                if (s.around != null) {
                    grew |= s.made.addAll(s.around.made);
                }
                for (int c : s.cells) {
                    grew |= s.made.addAll(p.cellMade.get(c));
                }
                if (s.kind == 1) {
                    grew |= p.cellMade.get(s.gives).addAll(s.made);
                }
            }
        }
    }

    static int bits(Iterable<Integer> of) {
        int all = 0;
        for (int i : of) {
            all |= 1 << i;
        }
        return all;
    }

    private static int stepBits(Iterable<Step> of) {
        int all = 0;
        for (Step s : of) {
            all |= 1 << s.number;
        }
        return all;
    }

    Program program(int text) {
        return in(text, 0, programs.size() - 1) ? programs.get(text) : null;
    }

    int step(int text, int step, int what) {
        Program p = program(text);
        if (p == null || !in(step, 0, p.steps.size() - 1) || !in(what, 0, 8)) {
            throw new NoSuchElementException();
        }
        Step s = p.steps.get(step);
        return new int[] {s.kind, s.gives, s.pin, s.weight, s.around == null ? NONE : s.around.number,
            bits(s.inputs), bits(s.cells), stepBits(s.flows), bits(s.made)}[what];
    }

    int steps(int text) {
        return program(text) == null ? NONE : program(text).steps.size();
    }

    boolean lay(int input, int v) {
        if (!in(input, 0, 7)) {
            return false;
        }
        inputs[input] = v;
        return true;
    }

    // A sum by its last joint at no depth: what is left of it is worked first.
    static int worth(String sum, int[] letters, int[] ins, int[] cells) {
        int at = lastOf(sum, "+-<");
        if (at < 0) {
            at = lastOf(sum, "*");
        }
        if (at >= 0) {
            int left = worth(sum.substring(0, at), letters, ins, cells);
            int right = worth(sum.substring(at + 1), letters, ins, cells);
            switch (sum.charAt(at)) {
                case '+': return left + right;
                case '-': return left - right;
                case '*': return left * right;
                default: return left < right ? 1 : 0;
            }
        }
        char c = sum.charAt(0);
        if (c == '(') {
            return worth(sum.substring(1, sum.length() - 1), letters, ins, cells);
        }
        if (c == '$') {
            return ins[sum.charAt(1) - '0'];
        }
        if (c == '#') {
            return cells[sum.charAt(1) - '0'];
        }
        return c >= 'a' ? letters[c - 'a'] : Integer.parseInt(sum);
    }

    private static int lastOf(String sum, String joints) {
        int depth = 0;
        for (int i = sum.length() - 1; i >= 0; i--) {
            char c = sum.charAt(i);
            depth += c == ')' ? 1 : c == '(' ? -1 : 0;
            if (depth == 0 && joints.indexOf(c) >= 0) {
                return i;
            }
        }
        return -1;
    }

    /** A run in order: for each step whether it is done, its number, and whom it has its letters from. */
    static final class Going {
        Map<Step, Integer> done = new HashMap<>();
        Map<Step, Set<Step>> letterFrom = new HashMap<>();
        List<Integer> shown = new ArrayList<>();
    }

    static Going go(Program p, int[] ins, int[] cellsNow) {
        Going g = new Going();
        int[] letters = new int[8];
        int[] cells = cellsNow.clone();
        Step[] last = new Step[8];
        for (Step s : p.steps) {
            if (s.around != null && !(g.done.containsKey(s.around) && g.done.get(s.around) > 0)) {
                continue;
            }
            int v = worth(s.sum, letters, ins, cells);
            g.done.put(s, v);
            Set<Step> from = new HashSet<>();
            for (int l : s.letters) {
                if (last[l] != null) {
                    from.add(last[l]);
                }
            }
            g.letterFrom.put(s, from);
            if (s.kind == 0) {
                letters[s.gives] = v;
                last[s.gives] = s;
            } else if (s.kind == 1) {
                cells[s.gives] = v;
            } else if (s.kind == 2) {
                g.shown.add(v);
            }
        }
        return g;
    }

    int ask(int text, int name) {
        Program p = program(text);
        if (p == null || !in(name, 0, 49)) {
            return NONE;
        }
        if (!names.containsKey(name)) {
            Going g = go(p, inputs, here);
            for (Step s : p.steps) {
                if (s.kind == 1 && g.done.containsKey(s)) {
                    act(false, s.gives, 0, g.done.get(s));
                }
            }
            names.put(name, g.shown);
        }
        return names.get(name).size();
    }

    int shown(int name, int i) {
        List<Integer> l = names.get(name);
        if (l == null || !in(i, 0, l.size() - 1)) {
            throw new NoSuchElementException();
        }
        return l.get(i);
    }

    int cell(int cell, boolean ofAway) {
        if (!in(cell, 0, 7) || (ofAway && gone == NONE)) {
            throw new NoSuchElementException();
        }
        return ofAway ? away[cell] : here[cell];
    }

    boolean put(int kind, int of, int place) {
        if (!in(kind, 0, 1) || !in(of, 0, 7) || !in(place, 0, 3)) {
            return false;
        }
        (kind == 0 ? inputPlace : cellPlace)[of] = place;
        return true;
    }

    boolean secret(int input, int secret) {
        if (!in(input, 0, 7) || !in(secret, -1, 3)) {
            return false;
        }
        secretOf[input] = secret;
        return true;
    }

    int law(int place, int secret, int n) {
        if (!in(place, 0, 3) || !in(secret, 0, 3) || !in(n, 0, 8) || n == 1 || laws.size() == 8) {
            return NONE;
        }
        laws.add(new int[] {place, secret, n});
        return laws.size() - 1;
    }

    private boolean keeps(Set<Integer> row, int[] law) {
        int have = 0;
        for (int i : row) {
            have += secretOf[i] == law[1] ? 1 : 0;
        }
        return have == 0 || (law[2] != 0 && have >= law[2]);
    }

    private boolean mayBe(Program p, Step s, int place, int without) {
        if (s.pin != NONE && s.pin != place) {
            return false;
        }
        List<Set<Integer>> rows = new ArrayList<>();
        rows.add(s.made);
        for (int i : s.inputs) {
            rows.add(Set.of(i));
        }
        for (int c : s.cells) {
            rows.add(p.cellMade.get(c));
        }
        for (Step f : s.flows) {
            rows.add(f.made);
        }
        if (s.around != null) {
            rows.add(s.around.made);
        }
        for (int l = 0; l < laws.size(); l++) {
            if ((without >> l & 1) == 1 || laws.get(l)[0] != place) {
                continue;
            }
            for (Set<Integer> row : rows) {
                if (!keeps(row, laws.get(l))) {
                    return false;
                }
            }
        }
        return true;
    }

    int may(int text, int step, int place) {
        Program p = program(text);
        if (p == null || !in(step, 0, p.steps.size() - 1) || !in(place, 0, 3)) {
            return NONE;
        }
        return mayBe(p, p.steps.get(step), place, 0) ? 1 : 0;
    }

    private List<Integer> placesOf(Program p, Step s, int k, int without) {
        List<Integer> l = new ArrayList<>();
        for (int q = 0; q < k; q++) {
            if (mayBe(p, s, q, without)) {
                l.add(q);
            }
        }
        return l;
    }

    private Step nowhere(Program p, int k, int without) {
        for (Step s : p.steps) {
            if (placesOf(p, s, k, without).isEmpty()) {
                return s;
            }
        }
        return null;
    }

    int barred(int text, int k, int what) {
        Program p = program(text);
        if (p == null || !in(k, 1, 4) || nowhere(p, k, 0) == null) {
            return NONE;
        }
        if (what == 0) {
            return nowhere(p, k, 0).number;
        }
        if (what != 1) {
            return NONE;
        }
        List<Integer> best = null;
        for (int set = 0; set < 1 << laws.size(); set++) {
            List<Integer> list = new ArrayList<>();
            for (int l = 0; l < 8; l++) {
                if ((set >> l & 1) == 1) {
                    list.add(l);
                }
            }
            if (best != null && list.size() > best.size()) {
                continue;
            }
            if (nowhere(p, k, set) == null && (best == null || list.size() < best.size() || lower(list, best))) {
                best = list;
            }
        }
        return best == null ? NONE : bits(best);
    }

    private static boolean lower(List<Integer> a, List<Integer> b) {
        for (int i = 0; i < a.size(); i++) {
            if (!a.get(i).equals(b.get(i))) {
                return a.get(i) < b.get(i);
            }
        }
        return false;
    }

    boolean work(int sheet, int place, int v) {
        if (!in(sheet, 0, 2) || !in(place, 0, 3) || !in(v, 0, 99)) {
            return false;
        }
        work[sheet][place] = v;
        return true;
    }

    boolean word(int sheet, int from, int to, int v) {
        if (!in(sheet, 0, 2) || !in(from, 0, 3) || !in(to, 0, 3) || from == to || !in(v, 0, 999)) {
            return false;
        }
        word[sheet][from][to] = v;
        return true;
    }

    int[] cut(Program p, long cut) {
        if (p == null) {
            return null;
        }
        int[] places = new int[p.steps.size()];
        for (int i = 0; i < places.length; i++) {
            places[i] = (int) Math.floorMod(cut, 4L);
            cut = Math.floorDiv(cut, 4L);
        }
        return cut == 0 ? places : null;
    }

    int lawful(int text, long cut) {
        Program p = program(text);
        int[] places = cut(p, cut);
        if (places == null) {
            return NONE;
        }
        for (Step s : p.steps) {
            if (!mayBe(p, s, places[s.number], 0)) {
                return 0;
            }
        }
        return 1;
    }

    /** Words, each as a text "what from to"; a step may be at several places. */
    private Set<String> wordSet(Program p, int[] sets, Going g, int[][] prices) {
        Set<String> all = new TreeSet<>();
        for (Step s : p.steps) {
            for (int q = 0; q < 4; q++) {
                if ((sets[s.number] >> q & 1) == 0) {
                    continue;
                }
                boolean done = g == null || g.done.containsKey(s);
                if (s.around != null && (g == null || g.done.containsKey(s.around))) {
                    addStepWord(all, s.around, sets, q, prices);
                }
                if (!done) {
                    continue;
                }
                for (int i : s.inputs) {
                    addWord(all, "i" + i, inputPlace[i], q);
                }
                for (Step f : g == null ? s.flows : g.letterFrom.get(s)) {
                    addStepWord(all, f, sets, q, prices);
                }
                for (int c : s.cells) {
                    addWord(all, "r" + s.number + "c" + c, cellPlace[c], q);
                }
                if (s.kind == 1) {
                    addWord(all, "g" + s.number, q, cellPlace[s.gives]);
                }
            }
        }
        return all;
    }

    private static void addWord(Set<String> all, String what, int from, int to) {
        if (from != to) {
            all.add(what + " " + from + " " + to);
        }
    }

    private static void addStepWord(Set<String> all, Step f, int[] sets, int to, int[][] prices) {
        int set = sets[f.number];
        if ((set >> to & 1) == 1) {
            return;
        }
        int best = NONE;
        for (int q = 0; q < 4; q++) {
            if ((set >> q & 1) == 1 && (best == NONE || prices[q][to] < prices[best][to])) {
                best = q;
            }
        }
        addWord(all, "s" + f.number, best, to);
    }

    private static int[] single(int[] places) {
        int[] sets = new int[places.length];
        for (int i = 0; i < sets.length; i++) {
            sets[i] = 1 << places[i];
        }
        return sets;
    }

    private int priceOf(Program p, int[] sets, Going g, int sheet) {
        int sum = 0;
        for (Step s : p.steps) {
            for (int q = 0; q < 4; q++) {
                if ((sets[s.number] >> q & 1) == 1 && (g == null || g.done.containsKey(s))) {
                    sum += s.weight * work[sheet][q];
                }
            }
        }
        for (String w : wordSet(p, sets, g, word[sheet])) {
            String[] f = w.split(" ");
            sum += word[sheet][Integer.parseInt(f[1])][Integer.parseInt(f[2])];
        }
        return sum;
    }

    int words(int text, long cut) {
        Program p = program(text);
        int[] places = cut(p, cut);
        return places == null ? NONE : wordSet(p, single(places), null, word[0]).size();
    }

    int price(int text, long cut, int sheet) {
        Program p = program(text);
        int[] places = cut(p, cut);
        return places == null || !in(sheet, 0, 2) ? NONE : priceOf(p, single(places), null, sheet);
    }

    int free(int text, int k) {
        Program p = program(text);
        if (p == null || !in(k, 1, 4)) {
            return NONE;
        }
        int n = 0;
        for (Step s : p.steps) {
            n += placesOf(p, s, k, 0).size() >= 2 ? 1 : 0;
        }
        return n;
    }

    private boolean sought(int text, int sheet, int k) {
        return program(text) != null && in(sheet, 0, 2) && in(k, 2, 4) && nowhere(program(text), k, 0) == null;
    }

    /** How many cuts a search would have to list, for the caller to leave out what is too slow. */
    double listed(int text, int k, boolean two) {
        double n = 1;
        if (program(text) != null && in(k, 1, 4)) {
            for (Step s : program(text).steps) {
                int m = placesOf(program(text), s, k, 0).size();
                n *= two && (s.kind == 0 || s.kind == 3) && m >= 2 ? m + m * (m - 1) / 2 : Math.max(1, m);
            }
        }
        return n;
    }

    private interface Pricing {
        long of(int[] places);
    }

    private long leastBy(Program p, int k, Pricing pricing) {
        List<List<Integer>> options = new ArrayList<>();
        for (Step s : p.steps) {
            options.add(placesOf(p, s, k, 0));
        }
        int n = options.size();
        int[] at = new int[n];
        int[] places = new int[n];
        long best = Long.MAX_VALUE;
        int[] bestPlaces = null;
        // An odometer whose last step turns fastest: the first of several is the one that is asked for.
        while (true) {
            for (int i = 0; i < n; i++) {
                places[i] = options.get(i).get(at[i]);
            }
            long price = pricing.of(places);
            if (price < best) {
                best = price;
                bestPlaces = places.clone();
            }
            int i = n - 1;
            while (i >= 0 && ++at[i] == options.get(i).size()) {
                at[i--] = 0;
            }
            if (i < 0) {
                break;
            }
        }
        long cut = 0;
        for (int i = n - 1; i >= 0; i--) {
            cut = cut * 4 + bestPlaces[i];
        }
        return cut;
    }

    long least(int text, int sheet, int k) {
        if (!sought(text, sheet, k) || (k > 2 && free(text, k) > 8)) {
            return NONE;
        }
        Program p = program(text);
        return leastBy(p, k, places -> priceOf(p, single(places), null, sheet));
    }

    int twice(int text, int sheet, int k) {
        if (!sought(text, sheet, k) || free(text, k) > 5) {
            return NONE;
        }
        Program p = program(text);
        return twiceFrom(p, k, sheet, new int[p.steps.size()], 0);
    }

    private int twiceFrom(Program p, int k, int sheet, int[] sets, int i) {
        if (i == sets.length) {
            return priceOf(p, sets, null, sheet);
        }
        Step s = p.steps.get(i);
        List<Integer> may = placesOf(p, s, k, 0);
        int best = Integer.MAX_VALUE;
        for (int a : may) {
            for (int b : may) {
                if (a == b || (a < b && (s.kind == 0 || s.kind == 3))) {
                    sets[i] = 1 << a | 1 << b;
                    best = Math.min(best, twiceFrom(p, k, sheet, sets, i + 1));
                }
            }
        }
        return best;
    }

    long better(int text, int i) {
        Program p = program(text);
        if (p == null || free(text, 2) > 8) {
            return NONE;
        }
        TreeMap<Long, int[]> all = new TreeMap<>();
        if (nowhere(p, 2, 0) == null) {
            leastBy(p, 2, places -> {
                long cut = 0;
                for (int s = places.length - 1; s >= 0; s--) {
                    cut = cut * 4 + places[s];
                }
                int[] prices = new int[3];
                for (int s = 0; s < 3; s++) {
                    prices[s] = priceOf(p, single(places), null, s);
                }
                all.put(cut, prices);
                return 0;
            });
        }
        List<Long> kept = new ArrayList<>();
        for (Map.Entry<Long, int[]> e : all.entrySet()) {
            boolean beaten = false;
            for (int[] o : all.values()) {
                int[] m = e.getValue();
                boolean most = o[0] <= m[0] && o[1] <= m[1] && o[2] <= m[2];
                beaten |= most && (o[0] < m[0] || o[1] < m[1] || o[2] < m[2]);
            }
            if (!beaten) {
                kept.add(e.getKey());
            }
        }
        if (i == NONE) {
            return kept.isEmpty() ? NONE : kept.size();
        }
        return in(i, 0, kept.size() - 1) ? kept.get(i) : NONE;
    }

    int cost(int text, long cut, int sheet) {
        Program p = program(text);
        int[] places = cut(p, cut);
        return places == null || !in(sheet, 0, 2) ? NONE : priceOf(p, single(places), go(p, inputs, here), sheet);
    }

    int day(int share) {
        if (!in(share, 1, 99) || dayShares.size() == 8) {
            return NONE;
        }
        dayInputs.add(inputs.clone());
        dayShares.add(share);
        return dayShares.size();
    }

    int night() {
        int n = dayShares.size();
        dayShares.clear();
        dayInputs.clear();
        return n;
    }

    private int dayPrice(Program p, int[] places, int sheet) {
        int sum = 0;
        for (int r = 0; r < dayShares.size(); r++) {
            sum += dayShares.get(r) * priceOf(p, single(places), go(p, dayInputs.get(r), here), sheet);
        }
        return sum;
    }

    int daily(int text, long cut, int sheet) {
        Program p = program(text);
        int[] places = cut(p, cut);
        return places == null || !in(sheet, 0, 2) ? NONE : dayPrice(p, places, sheet);
    }

    long leastDay(int text, int sheet, int k) {
        if (!sought(text, sheet, k) || free(text, k) > 6) {
            return NONE;
        }
        Program p = program(text);
        return leastBy(p, k, places -> dayPrice(p, places, sheet));
    }

    int moved(int text, long cut, long other) {
        int[] a = cut(program(text), cut);
        int[] b = cut(program(text), other);
        if (a == null || b == null) {
            return NONE;
        }
        int n = 0;
        for (int i = 0; i < a.length; i++) {
            n += a[i] == b[i] ? 0 : 1;
        }
        return n;
    }

    boolean length(int from, int to, int v) {
        if (!in(from, 0, 3) || !in(to, 0, 3) || from == to || !in(v, 0, 99)) {
            return false;
        }
        length[from][to] = v;
        return true;
    }

    boolean speed(int place, int v) {
        if (!in(place, 0, 3) || !in(v, 1, 9)) {
            return false;
        }
        speed[place] = v;
        return true;
    }

    private int over(int from, int to) {
        return from == to ? 0 : length[from][to];
    }

    /** Who could have led to a step, in the order of the document, each with how late it is; -1 for none of the steps. */
    private List<int[]> causes(Program p, int[] at, Going g, Map<Integer, Integer> ends, Step s) {
        List<int[]> l = new ArrayList<>();
        int mine = at[s.number];
        for (int i = s.number - 1; i >= 0; i--) {
            if (ends.containsKey(i) && at[i] == mine) {
                l.add(new int[] {i, ends.get(i)});
                break;
            }
        }
        if (s.around != null) {
            int o = s.around.number;
            l.add(new int[] {o, ends.get(o) + over(at[o], mine)});
        }
        TreeSet<Integer> givers = new TreeSet<>();
        for (Step f : g.letterFrom.get(s)) {
            givers.add(f.number);
        }
        for (int f : givers) {
            l.add(new int[] {f, ends.get(f) + over(at[f], mine)});
        }
        for (int c : s.cells) {
            boolean given = false;
            for (Step f : p.steps.subList(0, s.number)) {
                if (f.kind == 1 && f.gives == c && g.done.containsKey(f)) {
                    given = true;
                    l.add(new int[] {f.number,
                        ends.get(f.number) + over(at[f.number], cellPlace[c]) + over(cellPlace[c], mine)});
                }
            }
            if (!given) {
                l.add(new int[] {-1, over(cellPlace[c], mine)});
            }
        }
        for (int i : s.inputs) {
            l.add(new int[] {-1, over(inputPlace[i], mine)});
        }
        return l;
    }

    private List<Integer> waiting(Program p, int[] at) {
        Going g = go(p, inputs, here);
        Map<Integer, Integer> ends = new HashMap<>();
        Map<Integer, Integer> led = new HashMap<>();
        int last = NONE;
        for (Step s : p.steps) {
            if (!g.done.containsKey(s)) {
                continue;
            }
            int begin = 0;
            List<int[]> causes = causes(p, at, g, ends, s);
            for (int[] c : causes) {
                begin = Math.max(begin, c[1]);
            }
            for (int[] c : causes) {
                if (c[0] >= 0 && c[1] == begin && !led.containsKey(s.number)) {
                    led.put(s.number, c[0]);
                }
            }
            ends.put(s.number, begin + s.weight * speed[at[s.number]]);
            if (last == NONE || ends.get(s.number) > ends.get(last)) {
                last = s.number;
            }
        }
        List<Integer> answer = new ArrayList<>();
        answer.add(ends.get(last));
        for (Integer i = last; i != null; i = led.get(i)) {
            answer.add(i);
        }
        return answer;
    }

    int await(int text, long cut) {
        int[] places = cut(program(text), cut);
        return places == null ? NONE : waiting(program(text), places).get(0);
    }

    int led(int text, long cut, int i) {
        int[] places = cut(program(text), cut);
        if (places == null) {
            return NONE;
        }
        List<Integer> l = waiting(program(text), places);
        if (i == NONE) {
            return l.size() - 1;
        }
        return in(i, 0, l.size() - 2) ? l.get(i + 1) : NONE;
    }

    // The parts really go each for itself: a letter is had from the highest giver that was done, a cell as it then is.
    int parts(int text, long cut, long seed) {
        Program p = program(text);
        int[] places = cut(p, cut);
        if (places == null) {
            return NONE;
        }
        partShows = new ArrayList<>();
        partTurns = new ArrayList<>();
        List<List<Step>> queues = new ArrayList<>();
        for (int q = 0; q < 4; q++) {
            partShows.add(new ArrayList<>());
            queues.add(new ArrayList<>());
        }
        for (Step s : p.steps) {
            queues.get(places[s.number]).add(s);
        }
        int[] cells = here.clone();
        Map<Step, Integer> worths = new HashMap<>();
        Set<Step> through = new HashSet<>();
        long x = seed;
        while (through.size() < p.steps.size()) {
            x = x * 6364136223846793005L + 1442695040888963407L;
            List<List<Step>> able = new ArrayList<>();
            for (List<Step> queue : queues) {
                if (!queue.isEmpty() && canGo(p, queue.get(0), through)) {
                    able.add(queue);
                }
            }
            Step s = able.get((int) ((x >>> 33) % able.size())).remove(0);
            through.add(s);
            partTurns.add(s.number);
            if (s.around != null && !(worths.containsKey(s.around) && worths.get(s.around) > 0)) {
                continue;
            }
            int[] letters = new int[8];
            for (Step f : p.steps) {
                if (s.flows.contains(f) && worths.containsKey(f)) {
                    letters[f.gives] = worths.get(f);
                }
            }
            int v = worth(s.sum, letters, inputs, cells);
            worths.put(s, v);
            if (s.kind == 1) {
                cells[s.gives] = v;
            } else if (s.kind == 2) {
                partShows.get(places[s.number]).add(v);
            }
        }
        int n = 0;
        for (List<Integer> l : partShows) {
            n += l.size();
        }
        return n;
    }

    private static boolean canGo(Program p, Step s, Set<Step> through) {
        if (s.around != null && !through.contains(s.around) || !through.containsAll(s.flows)) {
            return false;
        }
        for (Step o : p.steps.subList(0, s.number)) {
            for (int c = 0; c < 8; c++) {
                boolean sGives = s.kind == 1 && s.gives == c;
                boolean oGives = o.kind == 1 && o.gives == c;
                boolean both = (sGives || s.cells.contains(c)) && (oGives || o.cells.contains(c));
                if (both && (sGives || oGives) && !through.contains(o)) {
                    return false;
                }
            }
        }
        return true;
    }

    int part(int place, int i) {
        if (partShows == null || !in(place, 0, 3) || !in(i, 0, partShows.get(place).size() - 1)) {
            throw new NoSuchElementException();
        }
        return partShows.get(place).get(i);
    }

    int turn(int i) {
        return in(i, 0, partTurns.size() - 1) ? partTurns.get(i) : NONE;
    }

    int on(int text, long cut, int place) {
        Program p = program(text);
        int[] at = cut(p, cut);
        if (at == null || !in(place, 0, 3)) {
            return NONE;
        }
        int all = 0;
        for (Step s : p.steps) {
            if (goesOn(s, at, place)) {
                all |= 1 << s.number;
            }
        }
        return all;
    }

    private boolean goesOn(Step s, int[] at, int place) {
        boolean side = at[s.number] == place;
        boolean on = true;
        for (int i : s.inputs) {
            on &= (inputPlace[i] == place) == side;
        }
        for (int c : s.cells) {
            on &= (cellPlace[c] == place) == side;
        }
        if (s.kind == 1) {
            on &= (cellPlace[s.gives] == place) == side;
        }
        Set<Step> needs = new HashSet<>(s.flows);
        if (s.around != null) {
            needs.add(s.around);
        }
        for (Step f : needs) {
            on = on && (at[f.number] == place) == side && goesOn(f, at, place);
        }
        return on;
    }

    boolean away(int place) {
        if (!in(place, 0, 3) || gone != NONE) {
            return false;
        }
        gone = place;
        for (int c = 0; c < 8; c++) {
            parted[c] = here[c];
            away[c] = here[c];
            actsHere.get(c).clear();
            actsAway.get(c).clear();
        }
        return true;
    }

    boolean act(boolean onAway, int cell, int how, int v) {
        if (!in(cell, 0, 7) || !in(how, 0, 2) || (onAway && gone == NONE)) {
            return false;
        }
        int[] side = onAway ? away : here;
        (onAway ? actsAway : actsHere).get(cell).add(new Act(how, v));
        side[cell] = how == 0 ? v : how == 1 ? side[cell] + v : Math.max(side[cell], v);
        if (!onAway) {
            doubted.remove(cell);
        }
        return true;
    }

    private static boolean all(List<Act> a, List<Act> b, int how) {
        for (Act x : a) {
            if (x.how() != how) {
                return false;
            }
        }
        return b.isEmpty() || all(b, List.of(), how);
    }

    int back() {
        if (gone == NONE) {
            return NONE;
        }
        gone = NONE;
        for (int c = 0; c < 8; c++) {
            List<Act> a = actsHere.get(c);
            List<Act> b = actsAway.get(c);
            if (b.isEmpty()) {
                continue;
            }
            if (a.isEmpty()) {
                here[c] = away[c];
                doubted.remove(c);
            } else if (all(a, b, 1)) {
                here[c] = parted[c];
                for (Act x : a) {
                    here[c] += x.v();
                }
                for (Act x : b) {
                    here[c] += x.v();
                }
                doubted.remove(c);
            } else if (all(a, b, 2)) {
                here[c] = Math.max(here[c], away[c]);
                doubted.remove(c);
            } else {
                doubted.put(c, away[c]);
            }
        }
        return asked();
    }

    int asked() {
        return bits(doubted.keySet());
    }

    boolean choose(int cell, boolean ofAway) {
        if (!doubted.containsKey(cell) || gone != NONE) {
            return false;
        }
        int v = doubted.remove(cell);
        if (ofAway) {
            here[cell] = v;
        }
        return true;
    }

    int count(int what) {
        switch (what) {
            case 0: return programs.size();
            case 1: return laws.size();
            case 2: return names.size();
            case 3: return dayShares.size();
            case 4: return tape.size();
            case 5: return gone;
            default: return NONE;
        }
    }
}
