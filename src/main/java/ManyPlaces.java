import java.util.Arrays;
import java.util.NoSuchElementException;

/** A program written as if for one machine, read to a net of steps and cut to four places. */
public final class ManyPlaces {
    public static final int NONE = -1;

    private static final int TEXTS = 6;
    private static final int STEPS = 16;
    private static final int LETTERS = 8;
    private static final int INPUTS = 8;
    private static final int CELLS = 8;
    private static final int PLACES = 4;
    private static final int SECRETS = 4;
    private static final int SHEETS = 3;
    private static final int LAWS = 8;
    private static final int NAMES = 50;
    private static final int ROWS = 8;
    private static final int TAPE = 240;
    private static final int NESTED = 6;

    private static final int KIND_LETTER = 0;
    private static final int KIND_CELL = 1;
    private static final int KIND_SHOW = 2;
    private static final int KIND_IF = 3;

    // The code of a sum: what to do in the high bits, a number in the low ten.
    private static final int CODE_SHIFT = 10;
    private static final int CODE_MASK = 1023;
    private static final int CODE_NUMBER = 0;
    private static final int CODE_LETTER = 1;
    private static final int CODE_INPUT = 2;
    private static final int CODE_CELL = 3;
    private static final int CODE_ADD = 4;
    private static final int CODE_TAKE = 5;
    private static final int CODE_LESS = 6;
    private static final int CODE_TIMES = 7;

    private static final int ACT_PUT = 0;
    private static final int ACT_ADD = 1;
    private static final int ACT_RAISE = 2;
    private static final int ACTS = 3;

    private static final int MOST_FREE_LEAST = 8;
    private static final int MOST_FREE_TWICE = 5;
    private static final int MOST_FREE_BETTER = 8;
    private static final int MOST_FREE_DAY = 6;

    private final Reader reader = new Reader();
    private final Text[] texts = new Text[TEXTS];
    private int textCount = 0;
    private Text spare = new Text();
    private final int[] inputs = new int[INPUTS];
    private final Cells cells = new Cells();
    private final int[] shownCount = new int[NAMES];
    private final int[] shownNumbers = new int[NAMES * STEPS];
    private final Laws laws = new Laws();
    private final Sheets sheets = new Sheets();
    private final int[] dayInputs = new int[ROWS * INPUTS];
    private final int[] dayShares = new int[ROWS];
    private int dayRows = 0;
    private final Run run = new Run();
    private final Load[] loads = new Load[ROWS];
    private final Search search = new Search();
    private final Wall wall = new Wall();
    private final Clock clock = new Clock();
    private final Parts pieces = new Parts();
    private final int[] place = new int[STEPS];

    public ManyPlaces() {
        Arrays.fill(shownCount, NONE);
        for (int i = 0; i < ROWS; i++) {
            loads[i] = new Load();
        }
    }

    public int feed(int a, int b, int c, int d, int e) {
        int more = bytesIn(a) + bytesIn(b) + bytesIn(c) + bytesIn(d) + bytesIn(e);
        if (reader.held + more > TAPE) {
            return NONE;
        }
        reader.take(a);
        reader.take(b);
        reader.take(c);
        reader.take(d);
        reader.take(e);
        return reader.held;
    }

    public boolean end(int n) {
        if (n < 0 || n > reader.held) {
            return false;
        }
        reader.held = n;
        return true;
    }

    public int fault() {
        return reader.read(spare);
    }

    public int text() {
        if (textCount >= TEXTS || reader.read(spare) != NONE) {
            return NONE;
        }
        spare.weave();
        texts[textCount] = spare;
        spare = new Text();
        reader.held = 0;
        textCount++;
        return textCount - 1;
    }

    public int step(int text, int step, int what) throws NoSuchElementException {
        Text t = textAt(text);
        if (t == null || !within(step, t.size)) {
            throw new NoSuchElementException();
        }
        switch (what) {
            case 0: return t.kind[step];
            case 1: return t.gives[step];
            case 2: return t.pinned[step];
            case 3: return t.weight[step];
            case 4: return t.around[step];
            case 5: return t.inputs[step];
            case 6: return t.cells[step];
            case 7: return t.flows[step];
            case 8: return t.made[step];
            default: throw new NoSuchElementException();
        }
    }

    public int steps(int text) {
        Text t = textAt(text);
        return t == null ? NONE : t.size;
    }

    public boolean lay(int input, int v) {
        if (!within(input, INPUTS)) {
            return false;
        }
        inputs[input] = v;
        return true;
    }

    public int ask(int text, int name) {
        Text t = textAt(text);
        if (t == null || !within(name, NAMES)) {
            return NONE;
        }
        if (shownCount[name] == NONE) {
            askAnew(t, name);
        }
        return shownCount[name];
    }

    public int shown(int name, int i) throws NoSuchElementException {
        if (!within(name, NAMES) || !within(i, shownCount[name]) || i >= STEPS) {
            throw new NoSuchElementException();
        }
        return shownNumbers[name * STEPS + i];
    }

    public int cell(int cell, boolean away) throws NoSuchElementException {
        if (!within(cell, CELLS) || (away && cells.gone == NONE)) {
            throw new NoSuchElementException();
        }
        return away ? cells.beyond[cell] : cells.here[cell];
    }

    public boolean put(int kind, int of, int place) {
        if (!within(place, PLACES)) {
            return false;
        }
        if (kind == 0 && within(of, INPUTS)) {
            sheets.inputPlace[of] = place;
            return true;
        }
        if (kind == 1 && within(of, CELLS)) {
            sheets.cellPlace[of] = place;
            return true;
        }
        return false;
    }

    public boolean secret(int input, int secret) {
        if (!within(input, INPUTS) || (secret != NONE && !within(secret, SECRETS))) {
            return false;
        }
        laws.secretOf[input] = secret;
        return true;
    }

    public int law(int place, int secret, int n) {
        boolean bounded = within(place, PLACES) && within(secret, SECRETS);
        boolean counted = n == 0 || (n >= 2 && n <= INPUTS);
        if (!bounded || !counted || laws.made >= LAWS) {
            return NONE;
        }
        laws.enact(place, secret, n);
        return laws.made - 1;
    }

    public int may(int text, int step, int place) {
        Text t = textAt(text);
        if (t == null || !within(step, t.size) || !within(place, PLACES)) {
            return NONE;
        }
        laws.judge(t);
        return (laws.allowed[step] >> place) & 1;
    }

    public int barred(int text, int k, int what) {
        Text t = textAt(text);
        if (t == null || k < 1 || k > PLACES) {
            return NONE;
        }
        laws.judge(t);
        int lowest = laws.nowhere(t, k);
        if (lowest == NONE || what == 0) {
            return lowest;
        }
        return what == 1 ? laws.fewestToGo(t, k) : NONE;
    }

    public boolean work(int sheet, int place, int v) {
        if (!within(sheet, SHEETS) || !within(place, PLACES) || v < 0 || v > 99) {
            return false;
        }
        sheets.work[sheet * PLACES + place] = v;
        return true;
    }

    public boolean word(int sheet, int from, int to, int v) {
        if (!within(sheet, SHEETS) || !isWay(from, to) || v < 0 || v > 999) {
            return false;
        }
        sheets.word[(sheet * PLACES + from) * PLACES + to] = v;
        return true;
    }

    public int lawful(int text, long cut) {
        Text t = textAt(text);
        if (!isCut(t, cut)) {
            return NONE;
        }
        laws.judge(t);
        setPlaces(t, cut);
        for (int i = 0; i < t.size; i++) {
            if (((laws.allowed[i] >> place[i]) & 1) == 0) {
                return 0;
            }
        }
        return 1;
    }

    public int words(int text, long cut) {
        Text t = textAt(text);
        if (!isCut(t, cut)) {
            return NONE;
        }
        setPlaces(t, cut);
        loads[0].ofText(t);
        sheets.tally(loads[0], place);
        return sheets.wordsTallied();
    }

    public int price(int text, long cut, int sheet) {
        Text t = textAt(text);
        if (!isCut(t, cut) || !within(sheet, SHEETS)) {
            return NONE;
        }
        setPlaces(t, cut);
        loads[0].ofText(t);
        return loadPrice(0, sheet);
    }

    public int free(int text, int k) {
        Text t = textAt(text);
        if (t == null || k < 1 || k > PLACES) {
            return NONE;
        }
        laws.judge(t);
        return laws.freeSteps(t, k);
    }

    public long least(int text, int sheet, int k) {
        Text t = textAt(text);
        if (!canSeek(t, sheet, k)) {
            return NONE;
        }
        loads[0].ofText(t);
        if (k == 2) {
            return wall.leastCut(loads[0], laws.allowed, sheets, sheet);
        }
        if (laws.freeSteps(t, k) > MOST_FREE_LEAST) {
            return NONE;
        }
        search.begin(t.size, sheets, sheet);
        search.join(loads[0], 1);
        search.allowOne(laws.allowed, k);
        search.seek();
        return search.bestCut();
    }

    public int twice(int text, int sheet, int k) {
        Text t = textAt(text);
        if (!canSeek(t, sheet, k) || laws.freeSteps(t, k) > MOST_FREE_TWICE) {
            return NONE;
        }
        loads[0].ofText(t);
        search.begin(t.size, sheets, sheet);
        search.join(loads[0], 1);
        search.allowOne(laws.allowed, k);
        search.allowTwo(t, laws.allowed, k);
        search.seek();
        return search.best;
    }

    public long better(int text, int i) {
        Text t = textAt(text);
        if (t == null || i < NONE) {
            return NONE;
        }
        laws.judge(t);
        if (laws.nowhere(t, 2) != NONE || laws.freeSteps(t, 2) > MOST_FREE_BETTER) {
            return NONE;
        }
        loads[0].ofText(t);
        search.pick(loads[0], laws.allowed, sheets, place);
        return i == NONE ? search.picked : search.pickedCut(i);
    }

    public int cost(int text, long cut, int sheet) {
        Text t = textAt(text);
        if (!isCut(t, cut) || !within(sheet, SHEETS)) {
            return NONE;
        }
        setPlaces(t, cut);
        run.go(t, inputs, 0, cells.here);
        loads[0].ofRun(t, run);
        return loadPrice(0, sheet);
    }

    public int day(int share) {
        if (share < 1 || share > 99 || dayRows >= ROWS) {
            return NONE;
        }
        System.arraycopy(inputs, 0, dayInputs, dayRows * INPUTS, INPUTS);
        dayShares[dayRows] = share;
        dayRows++;
        return dayRows;
    }

    public int night() {
        int were = dayRows;
        dayRows = 0;
        return were;
    }

    public int daily(int text, long cut, int sheet) {
        Text t = textAt(text);
        if (!isCut(t, cut) || !within(sheet, SHEETS)) {
            return NONE;
        }
        setPlaces(t, cut);
        loadDay(t);
        int sum = 0;
        for (int r = 0; r < dayRows; r++) {
            sum += dayShares[r] * loadPrice(r, sheet);
        }
        return sum;
    }

    public long leastDay(int text, int sheet, int k) {
        Text t = textAt(text);
        if (!canSeek(t, sheet, k) || laws.freeSteps(t, k) > MOST_FREE_DAY) {
            return NONE;
        }
        loadDay(t);
        search.begin(t.size, sheets, sheet);
        for (int r = 0; r < dayRows; r++) {
            search.join(loads[r], dayShares[r]);
        }
        search.allowOne(laws.allowed, k);
        search.seek();
        return search.bestCut();
    }

    public int moved(int text, long cut, long other) {
        Text t = textAt(text);
        if (!isCut(t, cut) || !isCut(t, other)) {
            return NONE;
        }
        int elsewhere = 0;
        for (int i = 0; i < t.size; i++) {
            if (placeIn(cut, i) != placeIn(other, i)) {
                elsewhere++;
            }
        }
        return elsewhere;
    }

    public boolean length(int from, int to, int v) {
        if (!isWay(from, to) || v < 0 || v > 99) {
            return false;
        }
        clock.lengths[from * PLACES + to] = v;
        return true;
    }

    public boolean speed(int place, int v) {
        if (!within(place, PLACES) || v < 1 || v > 9) {
            return false;
        }
        clock.speeds[place] = v;
        return true;
    }

    public int await(int text, long cut) {
        Text t = textAt(text);
        if (!isCut(t, cut)) {
            return NONE;
        }
        timeRun(t, cut);
        return clock.lastEnd();
    }

    public int led(int text, long cut, int i) {
        Text t = textAt(text);
        if (!isCut(t, cut)) {
            return NONE;
        }
        timeRun(t, cut);
        clock.follow();
        if (i == NONE) {
            return clock.chained;
        }
        return within(i, clock.chained) && i < STEPS ? clock.chain[i] : NONE;
    }

    public int parts(int text, long cut, long seed) {
        Text t = textAt(text);
        if (!isCut(t, cut)) {
            return NONE;
        }
        setPlaces(t, cut);
        run.go(t, inputs, 0, cells.here);
        pieces.go(t, run, place, seed);
        return run.showCount;
    }

    public int part(int place, int i) throws NoSuchElementException {
        if (!within(place, PLACES) || !within(i, pieces.showCount[place]) || i >= STEPS) {
            throw new NoSuchElementException();
        }
        return pieces.shows[place * STEPS + i];
    }

    public int turn(int i) {
        return within(i, pieces.turnCount) && i < STEPS ? pieces.turns[i] : NONE;
    }

    public int on(int text, long cut, int place) {
        Text t = textAt(text);
        if (!isCut(t, cut) || !within(place, PLACES)) {
            return NONE;
        }
        setPlaces(t, cut);
        loads[0].ofText(t);
        return goingOn(t, loads[0], place);
    }

    public boolean away(int place) {
        if (!within(place, PLACES) || cells.gone != NONE) {
            return false;
        }
        cells.leave(place);
        return true;
    }

    public boolean act(boolean away, int cell, int how, int v) {
        if (!within(cell, CELLS) || !within(how, ACTS) || (away && cells.gone == NONE)) {
            return false;
        }
        if (away) {
            cells.touchAway(cell, how, v);
        } else {
            cells.touchHere(cell, how, v);
        }
        return true;
    }

    public int back() {
        if (cells.gone == NONE) {
            return NONE;
        }
        cells.comeBack();
        return cells.doubtful;
    }

    public int asked() {
        return cells.doubtful;
    }

    public boolean choose(int cell, boolean away) {
        if (!within(cell, CELLS) || cells.gone != NONE || ((cells.doubtful >> cell) & 1) == 0) {
            return false;
        }
        cells.settle(cell, away);
        return true;
    }

    public int count(int what) {
        switch (what) {
            case 0: return textCount;
            case 1: return laws.made;
            case 2: return namesAsked();
            case 3: return dayRows;
            case 4: return reader.held;
            case 5: return cells.gone;
            default: return NONE;
        }
    }

    private static boolean within(int v, int bound) {
        return v >= 0 && v < bound;
    }

    private static boolean isWay(int from, int to) {
        return within(from, PLACES) && within(to, PLACES) && from != to;
    }

    private static int bytesIn(int word) {
        int found = 0;
        for (int shift = 24; shift >= 0; shift -= 8) {
            if (((word >>> shift) & 255) != 0) {
                found++;
            }
        }
        return found;
    }

    private static int placeIn(long cut, int step) {
        return (int) (cut >>> (2 * step)) & 3;
    }

    private static boolean isCut(Text t, long cut) {
        return t != null && cut >= 0 && cut < 1L << (2 * t.size);
    }

    private Text textAt(int text) {
        return within(text, textCount) && text < TEXTS ? texts[text] : null;
    }

    private void setPlaces(Text t, long cut) {
        for (int i = 0; i < t.size; i++) {
            place[i] = placeIn(cut, i);
        }
    }

    private void askAnew(Text t, int name) {
        run.go(t, inputs, 0, cells.here);
        int found = 0;
        for (int i = 0; i < t.size; i++) {
            if (run.isDone(i) && t.kind[i] == KIND_SHOW) {
                shownNumbers[name * STEPS + found] = run.numbers[i];
                found++;
            }
            if (run.isDone(i) && t.kind[i] == KIND_CELL) {
                cells.touchHere(t.gives[i], ACT_PUT, run.numbers[i]);
            }
        }
        shownCount[name] = found;
    }

    private int namesAsked() {
        int found = 0;
        for (int i = 0; i < NAMES; i++) {
            if (shownCount[i] != NONE) {
                found++;
            }
        }
        return found;
    }

    /** Whether a least cut may be sought at all; the laws are judged then. */
    private boolean canSeek(Text t, int sheet, int k) {
        if (t == null || !within(sheet, SHEETS) || k < 2 || k > PLACES) {
            return false;
        }
        laws.judge(t);
        return laws.nowhere(t, k) == NONE;
    }

    private int loadPrice(int row, int sheet) {
        sheets.tally(loads[row], place);
        return sheets.priceTallied(sheet);
    }

    private void loadDay(Text t) {
        for (int r = 0; r < dayRows; r++) {
            run.go(t, dayInputs, r * INPUTS, cells.here);
            loads[r].ofRun(t, run);
        }
    }

    private void timeRun(Text t, long cut) {
        setPlaces(t, cut);
        run.go(t, inputs, 0, cells.here);
        clock.time(t, run, place, sheets.inputPlace, sheets.cellPlace);
    }

    private int goingOn(Text t, Load needs, int gone) {
        int on = 0;
        for (int i = 0; i < t.size; i++) {
            boolean side = place[i] == gone;
            boolean steps = (needs.from[i] & ~on) == 0 && sameSide(needs.from[i], place, gone, side);
            boolean inputsNear = sameSide(t.inputs[i], sheets.inputPlace, gone, side);
            boolean cellsNear = sameSide(t.touched(i), sheets.cellPlace, gone, side);
            if (steps && inputsNear && cellsNear) {
                on |= 1 << i;
            }
        }
        return on;
    }

    private static boolean sameSide(int bits, int[] at, int gone, boolean side) {
        for (int i = 0; i < at.length; i++) {
            if (((bits >> i) & 1) != 0 && (at[i] == gone) != side) {
                return false;
            }
        }
        return true;
    }

    /** A text as it was read: its steps, the code of their sums, and what is known of them before any ask. */
    private static final class Text {
        final int[] kind = new int[STEPS];
        final int[] gives = new int[STEPS];
        final int[] pinned = new int[STEPS];
        final int[] weight = new int[STEPS];
        final int[] around = new int[STEPS];
        final int[] inputs = new int[STEPS];
        final int[] cells = new int[STEPS];
        final int[] letters = new int[STEPS];
        final int[] flows = new int[STEPS];
        final int[] made = new int[STEPS];
        final int[] above = new int[STEPS];
        final int[] cellMade = new int[CELLS];
        final int[] code = new int[TAPE];
        final int[] codeEnd = new int[STEPS];
        int size = 0;
        int codeSize = 0;

        void clear() {
            size = 0;
            codeSize = 0;
        }

        /** Opens a step; the reader has looked that there is room for it. */
        void open(int kindOf, int given, int at, int inside) {
            if (size >= STEPS) {
                return;
            }
            kind[size] = kindOf;
            gives[size] = given;
            pinned[size] = at;
            around[size] = inside;
            weight[size] = 1;
            inputs[size] = 0;
            cells[size] = 0;
            letters[size] = 0;
            codeEnd[size] = codeSize;
            size++;
        }

        void emit(int what, int number) {
            int last = size - 1;
            if (codeSize >= TAPE || last < 0) {
                return;
            }
            code[codeSize] = (what << CODE_SHIFT) | number;
            codeSize++;
            codeEnd[last] = codeSize;
            if (what == CODE_LETTER) {
                letters[last] |= 1 << number;
            } else if (what == CODE_INPUT) {
                inputs[last] |= 1 << number;
            } else if (what == CODE_CELL) {
                cells[last] |= 1 << number;
            } else if (what != CODE_NUMBER) {
                weight[last]++;
            }
        }

        int codeStart(int i) {
            return i == 0 ? 0 : codeEnd[i - 1];
        }

        int aroundBit(int i) {
            return around[i] == NONE ? 0 : 1 << around[i];
        }

        int givenCell(int i) {
            return kind[i] == KIND_CELL ? gives[i] : NONE;
        }

        int givenCellBit(int i) {
            return kind[i] == KIND_CELL ? 1 << gives[i] : 0;
        }

        /** The cells that a step reads or gives, as bits. */
        int touched(int i) {
            return cells[i] | givenCellBit(i);
        }

        /** Finds the flows and what all is made of; for a text that was read without a fault. */
        void weave() {
            for (int i = 0; i < size; i++) {
                int outer = around[i];
                above[i] = outer == NONE ? 0 : above[outer] | (1 << outer);
                flows[i] = 0;
                for (int s = 0; s < i; s++) {
                    if (flowsTo(s, i)) {
                        flows[i] |= 1 << s;
                    }
                }
            }
            makeUp();
        }

        private boolean flowsTo(int s, int t) {
            if (kind[s] != KIND_LETTER || ((letters[t] >> gives[s]) & 1) == 0) {
                return false;
            }
            // A way may leave out every block but those that s and t stand in: only what stands in no other one is sure to be met.
            int sure = above[s] | above[t];
            for (int u = s + 1; u < t; u++) {
                if (kind[u] == KIND_LETTER && gives[u] == gives[s] && (above[u] & ~sure) == 0) {
                    return false;
                }
            }
            return true;
        }

        private void makeUp() {
            Arrays.fill(cellMade, 0);
            // A cell may be read ahead of where it is given, so this goes round till nothing grows; each round but the last adds a bit.
            for (int round = 0; round <= CELLS * INPUTS; round++) {
                for (int i = 0; i < size; i++) {
                    made[i] = inputs[i] | gathered(made, flows[i] | aroundBit(i)) | gathered(cellMade, cells[i]);
                }
                if (!growCells()) {
                    return;
                }
            }
        }

        private boolean growCells() {
            boolean grew = false;
            for (int i = 0; i < size; i++) {
                int cell = givenCell(i);
                if (cell != NONE && (made[i] & ~cellMade[cell]) != 0) {
                    cellMade[cell] |= made[i];
                    grew = true;
                }
            }
            return grew;
        }

        private static int gathered(int[] of, int bits) {
            int all = 0;
            for (int i = 0; i < of.length; i++) {
                if (((bits >> i) & 1) != 0) {
                    all |= of[i];
                }
            }
            return all;
        }
    }

    /** The tape, and the reading of it to a text. */
    private static final class Reader {
        final int[] bytes = new int[TAPE];
        int held = 0;
        private int at = 0;
        private Text to = null;

        void take(int word) {
            for (int shift = 24; shift >= 0; shift -= 8) {
                int b = (word >>> shift) & 255;
                if (b != 0 && held < TAPE) {
                    bytes[held] = b;
                    held++;
                }
            }
        }

        /** Reads the tape to a text: where it is at fault, or NONE. */
        int read(Text out) {
            to = out;
            to.clear();
            at = 0;
            if (!readLines(0, NONE)) {
                return at;
            }
            return at == held ? NONE : at;
        }

        private int next() {
            return at >= 0 && at < held && at < TAPE ? bytes[at] : NONE;
        }

        private int nextPastBlanks() {
            for (int i = 0; i < TAPE && next() == ' '; i++) {
                at++;
            }
            return next();
        }

        private boolean pass(char sign) {
            if (nextPastBlanks() != sign) {
                return false;
            }
            at++;
            return true;
        }

        /** Passes one digit below the bound: its number, or NONE. */
        private int passDigit(int bound) {
            int digit = nextPastBlanks() - '0';
            if (!within(digit, bound)) {
                return NONE;
            }
            at++;
            return digit;
        }

        private int passLetter() {
            int letter = nextPastBlanks() - 'a';
            if (!within(letter, LETTERS)) {
                return NONE;
            }
            at++;
            return letter;
        }

        private boolean readLines(int depth, int around) {
            for (int i = 0; i <= STEPS; i++) {
                if (!readLine(depth, around)) {
                    return false;
                }
                if (!pass(';')) {
                    return true;
                }
            }
            return false;
        }

        private boolean readLine(int depth, int around) {
            nextPastBlanks();
            if (to.size >= STEPS) {
                return false;
            }
            int pinned = NONE;
            if (pass('@')) {
                pinned = passDigit(PLACES);
                if (pinned == NONE) {
                    return false;
                }
            }
            if (pass('!')) {
                to.open(KIND_SHOW, NONE, pinned, around);
                return readSum(depth);
            }
            if (pass('?')) {
                to.open(KIND_IF, NONE, pinned, around);
                return readSum(depth) && readBlock(depth, to.size - 1);
            }
            return readGiving(depth, around, pinned);
        }

        private boolean readGiving(int depth, int around, int pinned) {
            boolean ofCell = pass('#');
            int given = ofCell ? passDigit(CELLS) : passLetter();
            if (given == NONE || !pass('=')) {
                return false;
            }
            to.open(ofCell ? KIND_CELL : KIND_LETTER, given, pinned, around);
            return readSum(depth);
        }

        private boolean readBlock(int depth, int around) {
            if (nextPastBlanks() != '{' || depth >= NESTED) {
                return false;
            }
            at++;
            return readLines(depth + 1, around) && pass('}');
        }

        private boolean readSum(int depth) {
            if (!readTerm(depth)) {
                return false;
            }
            for (int i = 0; i < TAPE; i++) {
                int joint = passJoint();
                if (joint == NONE) {
                    return true;
                }
                if (!readTerm(depth)) {
                    return false;
                }
                to.emit(joint, 0);
            }
            return false;
        }

        private int passJoint() {
            if (pass('+')) {
                return CODE_ADD;
            }
            if (pass('-')) {
                return CODE_TAKE;
            }
            return pass('<') ? CODE_LESS : NONE;
        }

        private boolean readTerm(int depth) {
            if (!readAtom(depth)) {
                return false;
            }
            for (int i = 0; i < TAPE; i++) {
                if (!pass('*')) {
                    return true;
                }
                if (!readAtom(depth)) {
                    return false;
                }
                to.emit(CODE_TIMES, 0);
            }
            return false;
        }

        private boolean readAtom(int depth) {
            if (nextPastBlanks() == '(') {
                if (depth >= NESTED) {
                    return false;
                }
                at++;
                return readSum(depth + 1) && pass(')');
            }
            if (pass('$')) {
                return emitNamed(CODE_INPUT, passDigit(INPUTS));
            }
            if (pass('#')) {
                return emitNamed(CODE_CELL, passDigit(CELLS));
            }
            int letter = passLetter();
            return letter == NONE ? readNumber() : emitNamed(CODE_LETTER, letter);
        }

        private boolean emitNamed(int what, int number) {
            if (number == NONE) {
                return false;
            }
            to.emit(what, number);
            return true;
        }

        private boolean readNumber() {
            int number = passDigit(10);
            if (number == NONE) {
                return false;
            }
            // A digit behind a blank is no part of the number, so the sign itself is looked at here.
            for (int i = 1; i < 3 && within(next() - '0', 10); i++) {
                number = number * 10 + next() - '0';
                at++;
            }
            to.emit(CODE_NUMBER, number);
            return true;
        }
    }

    /** One going through a text in order, on copies: which steps are done and what each of them came to. */
    private static final class Run {
        final int[] numbers = new int[STEPS];
        final int[] from = new int[STEPS];
        int done = 0;
        int showCount = 0;
        private int taken = 0;
        private final int[] letters = new int[LETTERS];
        private final int[] lastGiver = new int[LETTERS];
        private final int[] inputs = new int[INPUTS];
        private final int[] cells = new int[CELLS];
        private final int[] stack = new int[STEPS * 2];

        boolean isDone(int i) {
            return ((done >> i) & 1) != 0;
        }

        void go(Text t, int[] inputRows, int rowStart, int[] cellsNow) {
            System.arraycopy(inputRows, rowStart, inputs, 0, INPUTS);
            System.arraycopy(cellsNow, 0, cells, 0, CELLS);
            Arrays.fill(letters, 0);
            Arrays.fill(lastGiver, NONE);
            done = 0;
            taken = 0;
            showCount = 0;
            for (int i = 0; i < t.size; i++) {
                int outer = t.aroundBit(i);
                from[i] = outer & done;
                numbers[i] = 0;
                if ((outer & ~taken) == 0) {
                    doStep(t, i);
                }
            }
        }

        private void doStep(Text t, int i) {
            done |= 1 << i;
            from[i] |= lastGivers(t.letters[i]);
            int v = worth(t, i);
            numbers[i] = v;
            switch (t.kind[i]) {
                case KIND_LETTER:
                    letters[t.gives[i]] = v;
                    lastGiver[t.gives[i]] = i;
                    break;
                case KIND_CELL:
                    cells[t.gives[i]] = v;
                    break;
                case KIND_SHOW:
                    showCount++;
                    break;
                default:
                    taken |= v > 0 ? 1 << i : 0;
                    break;
            }
        }

        private int lastGivers(int read) {
            int givers = 0;
            for (int v = 0; v < LETTERS; v++) {
                if (((read >> v) & 1) != 0 && lastGiver[v] != NONE) {
                    givers |= 1 << lastGiver[v];
                }
            }
            return givers;
        }

        /** What a step's sum comes to; its code has each two numbers ahead of what joins them. */
        private int worth(Text t, int i) {
            int top = 0;
            for (int c = t.codeStart(i); c < t.codeEnd[i]; c++) {
                int what = t.code[c] >> CODE_SHIFT;
                int number = t.code[c] & CODE_MASK;
                if (what >= CODE_ADD && top >= 2) {
                    top--;
                    stack[top - 1] = joined(what, stack[top - 1], stack[top]);
                } else if (what < CODE_ADD && top < stack.length) {
                    stack[top] = read(what, number);
                    top++;
                }
            }
            return stack[0];
        }

        private int read(int what, int number) {
            switch (what) {
                case CODE_LETTER: return within(number, LETTERS) ? letters[number] : 0;
                case CODE_INPUT: return within(number, INPUTS) ? inputs[number] : 0;
                case CODE_CELL: return within(number, CELLS) ? cells[number] : 0;
                default: return number;
            }
        }

        private static int joined(int what, int left, int right) {
            switch (what) {
                case CODE_ADD: return left + right;
                case CODE_TAKE: return left - right;
                case CODE_LESS: return left < right ? 1 : 0;
                default: return left * right;
            }
        }
    }

    /** The numbers of the cells, here and at a place that is away, and the joining of the two. */
    private static final class Cells {
        final int[] here = new int[CELLS];
        final int[] beyond = new int[CELLS];
        int gone = NONE;
        int doubtful = 0;
        private final int[] parted = new int[CELLS];
        private final int[] left = new int[CELLS];
        private final int[] actsHere = new int[CELLS];
        private final int[] actsAway = new int[CELLS];

        void leave(int place) {
            gone = place;
            for (int c = 0; c < CELLS; c++) {
                beyond[c] = here[c];
                parted[c] = here[c];
                actsHere[c] = 0;
                actsAway[c] = 0;
            }
        }

        void touchHere(int c, int how, int v) {
            here[c] = acted(here[c], how, v);
            actsHere[c] |= 1 << how;
            doubtful &= ~(1 << c);
        }

        void touchAway(int c, int how, int v) {
            beyond[c] = acted(beyond[c], how, v);
            actsAway[c] |= 1 << how;
        }

        private static int acted(int was, int how, int v) {
            if (how == ACT_ADD) {
                return was + v;
            }
            return how == ACT_RAISE ? Math.max(was, v) : v;
        }

        void comeBack() {
            gone = NONE;
            for (int c = 0; c < CELLS; c++) {
                if (actsAway[c] != 0) {
                    joinCell(c);
                }
            }
        }

        /** Joins a cell that was acted on away; without such acts it stays as it is here. */
        private void joinCell(int c) {
            int acts = actsHere[c] | actsAway[c];
            doubtful &= ~(1 << c);
            if (actsHere[c] == 0) {
                here[c] = beyond[c];
            } else if (acts == 1 << ACT_ADD) {
                here[c] = here[c] + beyond[c] - parted[c];
            } else if (acts == 1 << ACT_RAISE) {
                here[c] = Math.max(here[c], beyond[c]);
            } else {
                left[c] = beyond[c];
                doubtful |= 1 << c;
            }
        }

        void settle(int c, boolean away) {
            if (away) {
                here[c] = left[c];
            }
            doubtful &= ~(1 << c);
        }
    }

    /** Secrets and laws, and where the steps of a text may be by them. */
    private static final class Laws {
        final int[] secretOf = new int[INPUTS];
        final int[] allowed = new int[STEPS];
        int made = 0;
        private final int[] lawPlace = new int[LAWS];
        private final int[] lawSecret = new int[LAWS];
        private final int[] lawNumber = new int[LAWS];
        private final int[] broken = new int[STEPS * PLACES];

        Laws() {
            Arrays.fill(secretOf, NONE);
        }

        void enact(int place, int secret, int n) {
            if (made < LAWS) {
                lawPlace[made] = place;
                lawSecret[made] = secret;
                lawNumber[made] = n;
                made++;
            }
        }

        /** Finds where each step may be, and which laws bar it from where it may not. */
        void judge(Text t) {
            Arrays.fill(broken, 0);
            for (int l = 0; l < made; l++) {
                markBroken(t, l);
            }
            for (int i = 0; i < t.size; i++) {
                allowed[i] = allowedWithout(t, i, 0);
            }
        }

        private void markBroken(Text t, int l) {
            int holders = holdersOf(lawSecret[l]);
            int badSteps = breakers(t.made, t.size, holders, lawNumber[l]);
            int badCells = breakers(t.cellMade, CELLS, holders, lawNumber[l]);
            for (int i = 0; i < t.size; i++) {
                int steps = t.flows[i] | t.aroundBit(i) | (1 << i);
                // One input alone never makes up a number of two or more.
                if (((steps & badSteps) | (t.inputs[i] & holders) | (t.cells[i] & badCells)) != 0) {
                    broken[i * PLACES + lawPlace[l]] |= 1 << l;
                }
            }
        }

        private int holdersOf(int secret) {
            int holders = 0;
            for (int i = 0; i < INPUTS; i++) {
                if (secretOf[i] == secret) {
                    holders |= 1 << i;
                }
            }
            return holders;
        }

        private static int breakers(int[] sets, int size, int holders, int n) {
            int bad = 0;
            for (int i = 0; i < size && i < sets.length; i++) {
                int have = Integer.bitCount(sets[i] & holders);
                if (have != 0 && (n == 0 || have < n)) {
                    bad |= 1 << i;
                }
            }
            return bad;
        }

        private int allowedWithout(Text t, int i, int gone) {
            int places = 0;
            for (int p = 0; p < PLACES; p++) {
                boolean pinnedElsewhere = t.pinned[i] != NONE && t.pinned[i] != p;
                if (!pinnedElsewhere && (broken[i * PLACES + p] & ~gone) == 0) {
                    places |= 1 << p;
                }
            }
            return places;
        }

        /** The lowest step that may be at none of the first k places, or NONE. */
        int nowhere(Text t, int k) {
            for (int i = 0; i < t.size; i++) {
                if (placesAmong(allowed[i], k) == 0) {
                    return i;
                }
            }
            return NONE;
        }

        int freeSteps(Text t, int k) {
            int found = 0;
            for (int i = 0; i < t.size; i++) {
                if (placesAmong(allowed[i], k) >= 2) {
                    found++;
                }
            }
            return found;
        }

        private static int placesAmong(int places, int k) {
            return Integer.bitCount(places & ((1 << k) - 1));
        }

        /** The fewest laws, as bits, without which no step is barred from all of the first k places, or NONE. */
        int fewestToGo(Text t, int k) {
            int best = NONE;
            for (int gone = 0; gone < 1 << made; gone++) {
                if (goesBefore(gone, best) && opens(t, k, gone)) {
                    best = gone;
                }
            }
            return best;
        }

        private static boolean goesBefore(int set, int best) {
            if (best == NONE) {
                return true;
            }
            int size = Integer.bitCount(set);
            int bestSize = Integer.bitCount(best);
            int differ = set ^ best;
            return size < bestSize || (size == bestSize && (differ & -differ & set) != 0);
        }

        private boolean opens(Text t, int k, int gone) {
            for (int i = 0; i < t.size; i++) {
                if (placesAmong(allowedWithout(t, i, gone), k) == 0) {
                    return false;
                }
            }
            return true;
        }
    }

    /** What each step works on and needs: by the text alone, or by one run through it. */
    private static final class Load {
        final int[] weight = new int[STEPS];
        final int[] inputs = new int[STEPS];
        final int[] cells = new int[STEPS];
        final int[] gives = new int[STEPS];
        final int[] from = new int[STEPS];
        int size = 0;

        void ofText(Text t) {
            size = t.size;
            for (int i = 0; i < size; i++) {
                setStep(t, i, t.flows[i] | t.aroundBit(i));
            }
        }

        void ofRun(Text t, Run run) {
            size = t.size;
            for (int i = 0; i < size; i++) {
                if (run.isDone(i)) {
                    setStep(t, i, run.from[i]);
                } else {
                    setIdle(i, run.from[i]);
                }
            }
        }

        private void setStep(Text t, int i, int needed) {
            weight[i] = t.weight[i];
            inputs[i] = t.inputs[i];
            cells[i] = t.cells[i];
            gives[i] = t.givenCell(i);
            from[i] = needed;
        }

        /** A step that is not done has but to be told so by the ? around it. */
        private void setIdle(int i, int needed) {
            weight[i] = 0;
            inputs[i] = 0;
            cells[i] = 0;
            gives[i] = NONE;
            from[i] = needed;
        }

        int neededBy(int source) {
            int steps = 0;
            for (int i = 0; i < size; i++) {
                steps |= ((from[i] >> source) & 1) << i;
            }
            return steps;
        }

        int readersOf(int input) {
            int steps = 0;
            for (int i = 0; i < size; i++) {
                steps |= ((inputs[i] >> input) & 1) << i;
            }
            return steps;
        }
    }

    /** Where inputs and cells are, what work and words cost by each sheet, and the tally of one cut. */
    private static final class Sheets {
        final int[] inputPlace = new int[INPUTS];
        final int[] cellPlace = new int[CELLS];
        final int[] work = new int[SHEETS * PLACES];
        final int[] word = new int[SHEETS * PLACES * PLACES];
        private final int[] sent = new int[PLACES * PLACES];
        private final int[] weights = new int[PLACES];
        private final int[] inputNeeds = new int[INPUTS];
        private final int[] stepNeeds = new int[STEPS];

        Sheets() {
            Arrays.fill(work, 1);
            Arrays.fill(word, 10);
        }

        int wordCost(int sheet, int from, int to) {
            return from == to ? 0 : word[(sheet * PLACES + from) * PLACES + to];
        }

        /** What a step costs at a place whatever the others do: its work, and the words for its cells. */
        int costAlone(Load load, int i, int p, int sheet) {
            int sum = load.weight[i] * work[sheet * PLACES + p];
            for (int c = 0; c < CELLS; c++) {
                if (((load.cells[i] >> c) & 1) != 0) {
                    sum += wordCost(sheet, cellPlace[c], p);
                }
            }
            int given = load.gives[i];
            return given == NONE ? sum : sum + wordCost(sheet, p, cellPlace[given]);
        }

        /** Counts the words that go each way, and the weights that each place works. */
        void tally(Load load, int[] place) {
            Arrays.fill(sent, 0);
            Arrays.fill(weights, 0);
            Arrays.fill(inputNeeds, 0);
            Arrays.fill(stepNeeds, 0);
            for (int i = 0; i < load.size; i++) {
                int p = place[i];
                weights[p] += load.weight[i];
                markNeeds(inputNeeds, load.inputs[i], p);
                markNeeds(stepNeeds, load.from[i], p);
                tallyCells(load, i, p);
            }
            for (int i = 0; i < INPUTS; i++) {
                tallySent(inputPlace[i], inputNeeds[i]);
            }
            for (int i = 0; i < load.size; i++) {
                tallySent(place[i], stepNeeds[i]);
            }
        }

        private static void markNeeds(int[] needs, int bits, int p) {
            for (int i = 0, rest = bits; i < needs.length && rest != 0; i++, rest >>= 1) {
                if ((rest & 1) != 0) {
                    needs[i] |= 1 << p;
                }
            }
        }

        private void tallyCells(Load load, int i, int p) {
            for (int c = 0, rest = load.cells[i]; c < CELLS && rest != 0; c++, rest >>= 1) {
                if ((rest & 1) != 0) {
                    sent[cellPlace[c] * PLACES + p]++;
                }
            }
            if (load.gives[i] != NONE) {
                sent[p * PLACES + cellPlace[load.gives[i]]]++;
            }
        }

        private void tallySent(int from, int places) {
            for (int p = 0; p < PLACES; p++) {
                sent[from * PLACES + p] += (places >> p) & 1;
            }
        }

        int wordsTallied() {
            int sum = 0;
            for (int from = 0; from < PLACES; from++) {
                for (int to = 0; to < PLACES; to++) {
                    sum += from == to ? 0 : sent[from * PLACES + to];
                }
            }
            return sum;
        }

        int priceTallied(int sheet) {
            int sum = 0;
            for (int from = 0; from < PLACES; from++) {
                sum += weights[from] * work[sheet * PLACES + from];
                for (int to = 0; to < PLACES; to++) {
                    sum += sent[from * PLACES + to] * wordCost(sheet, from, to);
                }
            }
            return sum;
        }
    }

    /** Looks through cuts, step by step in order: each step is put to a set of places, of one or of two. */
    private static final class Search {
        private static final int SETS = 1 << PLACES;
        private static final int SIXTEEN = 65535;

        int best = 0;
        int picked = 0;
        private int size = 0;
        private int rows = 0;
        private int sheet = 0;
        private Sheets sheets = null;
        private final Load[] loads = new Load[ROWS];
        private final int[] shares = new int[ROWS];
        private final int[] choices = new int[STEPS];
        private final int[] alone = new int[STEPS * PLACES];
        private final int[] rest = new int[STEPS + 1];
        private final int[] nearest = new int[SETS * PLACES];
        private final int[] sets = new int[STEPS];
        private final int[] bestSets = new int[STEPS];
        // For each depth and row what is known where: of steps 16 bits a place, of inputs 8.
        private final long[] stepsThere = new long[(STEPS + 1) * ROWS];
        private final int[] inputsThere = new int[(STEPS + 1) * ROWS];
        private final long[] cuts = new long[1 << MOST_FREE_BETTER];
        private final int[] prices = new int[SHEETS << MOST_FREE_BETTER];

        void begin(int steps, Sheets by, int bySheet) {
            size = steps;
            rows = 0;
            sheets = by;
            sheet = bySheet;
            Arrays.fill(alone, 0);
            for (int set = 1; set < SETS; set++) {
                for (int p = 0; p < PLACES; p++) {
                    nearest[set * PLACES + p] = cheapestWord(set, p);
                }
            }
        }

        private int cheapestWord(int set, int to) {
            int least = Integer.MAX_VALUE;
            for (int from = 0; from < PLACES; from++) {
                if (((set >> from) & 1) != 0) {
                    least = Math.min(least, sheets.wordCost(sheet, from, to));
                }
            }
            return least;
        }

        void join(Load load, int share) {
            if (rows >= ROWS) {
                return;
            }
            loads[rows] = load;
            shares[rows] = share;
            rows++;
            for (int i = 0; i < size; i++) {
                for (int p = 0; p < PLACES; p++) {
                    alone[i * PLACES + p] += share * sheets.costAlone(load, i, p, sheet);
                }
            }
        }

        void allowOne(int[] allowed, int k) {
            for (int i = 0; i < size; i++) {
                choices[i] = 0;
                for (int p = 0; p < k; p++) {
                    choices[i] |= ((allowed[i] >> p) & 1) << (1 << p);
                }
            }
        }

        void allowTwo(Text t, int[] allowed, int k) {
            for (int set = 1; set < 1 << k; set++) {
                for (int i = 0; i < size; i++) {
                    boolean kindTwice = t.kind[i] == KIND_LETTER || t.kind[i] == KIND_IF;
                    if (kindTwice && Integer.bitCount(set) == 2 && (set & ~allowed[i]) == 0) {
                        choices[i] |= 1 << set;
                    }
                }
            }
        }

        /** Finds the least price and the first sets with it, in the order of the steps and of the places. */
        void seek() {
            best = Integer.MAX_VALUE;
            rest[size] = 0;
            for (int i = size - 1; i >= 0; i--) {
                rest[i] = rest[i + 1] + leastAlone(i);
            }
            for (int r = 0; r < rows; r++) {
                stepsThere[r] = 0;
                inputsThere[r] = 0;
                for (int i = 0; i < INPUTS; i++) {
                    inputsThere[r] |= 1 << (sheets.inputPlace[i] * INPUTS + i);
                }
            }
            dig(0, 0);
        }

        private int leastAlone(int i) {
            int least = Integer.MAX_VALUE;
            for (int set = 1; set < SETS; set++) {
                if (((choices[i] >> set) & 1) != 0) {
                    least = Math.min(least, setAlone(i, set));
                }
            }
            return least;
        }

        private int setAlone(int i, int set) {
            int sum = 0;
            for (int p = 0; p < PLACES; p++) {
                if (((set >> p) & 1) != 0) {
                    sum += alone[i * PLACES + p];
                }
            }
            return sum;
        }

        private void dig(int i, int price) {
            // What comes first wins a tie, so as dear is no better.
            if (price + rest[i] >= best) {
                return;
            }
            if (i >= size) {
                best = price;
                System.arraycopy(sets, 0, bestSets, 0, size);
                return;
            }
            for (int set = 1; set < SETS; set++) {
                if (((choices[i] >> set) & 1) != 0) {
                    sets[i] = set;
                    dig(i + 1, price + setAlone(i, set) + wordsFor(i, set));
                }
            }
        }

        private int wordsFor(int i, int set) {
            int sum = 0;
            for (int r = 0; r < rows; r++) {
                sum += shares[r] * rowWords(i, set, r);
            }
            return sum;
        }

        /** What the words cost that a row wants more, with step i at a set of places; what is there then is set a depth on. */
        private int rowWords(int i, int set, int r) {
            long known = stepsThere[i * ROWS + r];
            int laid = inputsThere[i * ROWS + r];
            int from = loads[r].from[i];
            int inputs = loads[r].inputs[i];
            int sum = 0;
            for (int p = 0; p < PLACES; p++) {
                if (((set >> p) & 1) != 0) {
                    sum += stepWords(from & ~(int) (known >>> (p * STEPS)), p);
                    sum += inputWords(inputs & ~(laid >>> (p * INPUTS)), p);
                    known |= (long) ((from | (1 << i)) & SIXTEEN) << (p * STEPS);
                    laid |= inputs << (p * INPUTS);
                }
            }
            stepsThere[(i + 1) * ROWS + r] = known;
            inputsThere[(i + 1) * ROWS + r] = laid;
            return sum;
        }

        private int stepWords(int missing, int p) {
            int sum = 0;
            for (int s = 0, left = missing; s < STEPS && left != 0; s++, left >>= 1) {
                if ((left & 1) != 0) {
                    sum += nearest[sets[s] * PLACES + p];
                }
            }
            return sum;
        }

        private int inputWords(int missing, int p) {
            int sum = 0;
            for (int s = 0, left = missing; s < INPUTS && left != 0; s++, left >>= 1) {
                if ((left & 1) != 0) {
                    sum += sheets.wordCost(sheet, sheets.inputPlace[s], p);
                }
            }
            return sum;
        }

        long bestCut() {
            long cut = 0;
            for (int i = 0; i < size; i++) {
                for (int p = 1; p < PLACES; p++) {
                    if (bestSets[i] == 1 << p) {
                        cut |= (long) p << (2 * i);
                    }
                }
            }
            return cut;
        }

        /** Picks of the cuts with places 0 and 1 those to which none is better. */
        void pick(Load load, int[] allowed, Sheets by, int[] place) {
            int found = listCuts(load.size, allowed);
            for (int c = 0; c < found; c++) {
                for (int i = 0; i < load.size; i++) {
                    place[i] = placeIn(cuts[c], i);
                }
                by.tally(load, place);
                for (int s = 0; s < SHEETS; s++) {
                    prices[c * SHEETS + s] = by.priceTallied(s);
                }
            }
            picked = 0;
            for (int c = 0; c < found; c++) {
                if (!isBeaten(c, found)) {
                    // Only the cut's own number moves forward: the prices are still to be compared.
                    cuts[picked] = cuts[c];
                    picked++;
                }
            }
        }

        /** Lists the lawful cuts with places 0 and 1 by their numbers: how many; none of the steps is barred from both. */
        private int listCuts(int steps, int[] allowed) {
            int found = 1;
            cuts[0] = 0;
            for (int i = 0; i < steps; i++) {
                int places = allowed[i] & 3;
                if (places == 3 && found <= cuts.length / 2) {
                    System.arraycopy(cuts, 0, cuts, found, found);
                    addPlaceOne(i, found, found * 2);
                    found *= 2;
                } else if (places == 2) {
                    addPlaceOne(i, 0, found);
                }
            }
            return found;
        }

        private void addPlaceOne(int i, int start, int stop) {
            for (int c = start; c < stop && c < cuts.length; c++) {
                cuts[c] |= 1L << (2 * i);
            }
        }

        private boolean isBeaten(int c, int found) {
            for (int o = 0; o < found; o++) {
                boolean dearer = false;
                boolean cheaper = false;
                for (int s = 0; s < SHEETS; s++) {
                    dearer |= prices[o * SHEETS + s] > prices[c * SHEETS + s];
                    cheaper |= prices[o * SHEETS + s] < prices[c * SHEETS + s];
                }
                if (cheaper && !dearer) {
                    return true;
                }
            }
            return false;
        }

        long pickedCut(int i) {
            return within(i, picked) && i < cuts.length ? cuts[i] : NONE;
        }
    }

    /** The least cut to two places as a least wall between a source (place 0) and a sink (place 1). */
    private static final class Wall {
        private static final int SOURCE = 0;
        private static final int SINK = 1;
        private static final int FIRST_STEP = 2;
        private static final int NODES = FIRST_STEP + STEPS + 2 * STEPS + 2 * INPUTS;
        // Two sides of each: two for a step; two and two a pair for what steps need of steps; the like for inputs.
        private static final int SIDES = 2 * (2 * STEPS + 2 * STEPS + STEPS * (STEPS - 1) + 2 * INPUTS + 2 * INPUTS * STEPS);
        private static final int NEVER = 1 << 28;
        private static final int ROUNDS = 1000000;

        private int nodes = 0;
        private int sides = 0;
        private final int[] firstSide = new int[NODES];
        private final int[] nextSide = new int[SIDES];
        private final int[] toNode = new int[SIDES];
        private final int[] room = new int[SIDES];
        private final int[] onward = new int[NODES];
        private final int[] queue = new int[NODES];

        /** Of the cheapest cuts that with the fewest steps at place 1: it is the lowest at each step. */
        long leastCut(Load load, int[] allowed, Sheets sheets, int sheet) {
            build(load, allowed, sheets, sheet);
            for (int round = 0; round < ROUNDS && reachSource(); round++) {
                pour();
            }
            long cut = 0;
            for (int i = 0; i < load.size; i++) {
                // What can still reach the sink is on its side in every least wall.
                cut |= onward[FIRST_STEP + i] == NONE ? 0L : 1L << (2 * i);
            }
            return cut;
        }

        private void build(Load load, int[] allowed, Sheets sheets, int sheet) {
            sides = 0;
            nodes = FIRST_STEP + load.size;
            Arrays.fill(firstSide, NONE);
            for (int i = 0; i < load.size; i++) {
                int atZero = sheets.costAlone(load, i, 0, sheet) + ((allowed[i] & 1) != 0 ? 0 : NEVER);
                int atOne = sheets.costAlone(load, i, 1, sheet) + ((allowed[i] & 2) != 0 ? 0 : NEVER);
                int both = Math.min(atZero, atOne);
                link(SOURCE, FIRST_STEP + i, atOne - both);
                link(FIRST_STEP + i, SINK, atZero - both);
                int users = load.neededBy(i);
                addGate(FIRST_STEP + i, users, sheets.wordCost(sheet, 0, 1), true);
                addGate(FIRST_STEP + i, users, sheets.wordCost(sheet, 1, 0), false);
            }
            for (int i = 0; i < INPUTS; i++) {
                int users = load.readersOf(i);
                int at = sheets.inputPlace[i];
                addGate(SOURCE, users, sheets.wordCost(sheet, at, 1), true);
                addGate(SINK, users, sheets.wordCost(sheet, at, 0), false);
            }
        }

        /** The price is paid if the node is on the one side and some user on the other: at place 1, or at 0. */
        private void addGate(int node, int users, int price, boolean usersAtOne) {
            if (users == 0 || price == 0 || nodes >= NODES) {
                return;
            }
            int gate = nodes;
            nodes++;
            linkEither(usersAtOne, node, gate, price);
            for (int i = 0; i < STEPS; i++) {
                if (((users >> i) & 1) != 0) {
                    linkEither(usersAtOne, gate, FIRST_STEP + i, NEVER);
                }
            }
        }

        private void linkEither(boolean forward, int from, int to, int most) {
            if (forward) {
                link(from, to, most);
            } else {
                link(to, from, most);
            }
        }

        private void link(int from, int to, int most) {
            if (most > 0 && sides + 1 < SIDES) {
                addSide(from, to, most);
                addSide(to, from, 0);
            }
        }

        private void addSide(int from, int to, int most) {
            toNode[sides] = to;
            room[sides] = most;
            nextSide[sides] = firstSide[from];
            firstSide[from] = sides;
            sides++;
        }

        /** Goes back from the sink over all that has room, and marks how each node goes on; whether the source is met. */
        private boolean reachSource() {
            Arrays.fill(onward, NONE);
            queue[0] = SINK;
            int held = 1;
            for (int q = 0; q < held && q < NODES; q++) {
                int node = queue[q];
                int side = firstSide[node];
                for (int i = 0; i < SIDES && side != NONE; i++) {
                    int before = toNode[side];
                    boolean fresh = before != SINK && onward[before] == NONE;
                    if (fresh && room[side ^ 1] > 0 && held < NODES) {
                        onward[before] = side ^ 1;
                        queue[held] = before;
                        held++;
                    }
                    side = nextSide[side];
                }
                if (onward[SOURCE] != NONE) {
                    return true;
                }
            }
            return false;
        }

        private void pour() {
            int most = NEVER;
            int node = SOURCE;
            for (int i = 0; i < NODES && node != SINK && onward[node] != NONE; i++) {
                most = Math.min(most, room[onward[node]]);
                node = toNode[onward[node]];
            }
            node = SOURCE;
            for (int i = 0; i < NODES && node != SINK && onward[node] != NONE; i++) {
                int side = onward[node];
                room[side] -= most;
                room[side ^ 1] += most;
                node = toNode[side];
            }
        }
    }

    /** When each step of a run begins and ends, and by what its beginning came. */
    private static final class Clock {
        final int[] lengths = new int[PLACES * PLACES];
        final int[] speeds = new int[PLACES];
        final int[] chain = new int[STEPS];
        int chained = 0;
        private final int[] begins = new int[STEPS];
        private final int[] ends = new int[STEPS];
        private Text text = null;
        private Run run = null;
        private int[] place = null;
        private int[] inputPlace = null;
        private int[] cellPlace = null;

        Clock() {
            Arrays.fill(lengths, 5);
            Arrays.fill(speeds, 1);
        }

        void time(Text t, Run done, int[] places, int[] inputsAt, int[] cellsAt) {
            text = t;
            run = done;
            place = places;
            inputPlace = inputsAt;
            cellPlace = cellsAt;
            for (int i = 0; i < t.size; i++) {
                if (run.isDone(i)) {
                    begins[i] = beginOf(i);
                    ends[i] = begins[i] + t.weight[i] * speeds[place[i]];
                }
            }
        }

        private int across(int from, int to) {
            return from == to ? 0 : lengths[from * PLACES + to];
        }

        private int beginOf(int i) {
            int latest = 0;
            int ahead = stepAhead(i);
            if (ahead != NONE) {
                latest = ends[ahead];
            }
            for (int in = 0; in < INPUTS; in++) {
                if (((text.inputs[i] >> in) & 1) != 0) {
                    latest = Math.max(latest, across(inputPlace[in], place[i]));
                }
            }
            for (int s = 0; s < i; s++) {
                if (((run.from[i] >> s) & 1) != 0) {
                    latest = Math.max(latest, arrival(s, i));
                }
            }
            for (int c = 0; c < CELLS; c++) {
                if (((text.cells[i] >> c) & 1) != 0) {
                    latest = Math.max(latest, cellArrival(c, i));
                }
            }
            return latest;
        }

        private int stepAhead(int i) {
            for (int s = i - 1; s >= 0; s--) {
                if (run.isDone(s) && place[s] == place[i]) {
                    return s;
                }
            }
            return NONE;
        }

        private int arrival(int s, int i) {
            return ends[s] + across(place[s], place[i]);
        }

        private int cellArrival(int c, int i) {
            int latest = 0;
            for (int s = 0; s < i; s++) {
                if (gave(s, c)) {
                    latest = Math.max(latest, ends[s] + across(place[s], cellPlace[c]));
                }
            }
            return latest + across(cellPlace[c], place[i]);
        }

        private boolean gave(int s, int c) {
            return run.isDone(s) && text.givenCell(s) == c;
        }

        int lastEnd() {
            int last = lastStep();
            return last == NONE ? 0 : ends[last];
        }

        private int lastStep() {
            int last = NONE;
            for (int i = 0; i < text.size; i++) {
                if (run.isDone(i) && (last == NONE || ends[i] > ends[last])) {
                    last = i;
                }
            }
            return last;
        }

        /** Follows from the last step back to what each beginning came by. */
        void follow() {
            chained = 0;
            int step = lastStep();
            for (int i = 0; i < STEPS && step != NONE; i++) {
                chain[i] = step;
                chained++;
                step = cameBy(step);
            }
        }

        private int cameBy(int i) {
            int ahead = stepAhead(i);
            if (ahead != NONE && ends[ahead] == begins[i]) {
                return ahead;
            }
            int outer = text.around[i];
            if (outer != NONE && arrival(outer, i) == begins[i]) {
                return outer;
            }
            for (int s = 0; s < i; s++) {
                if (((run.from[i] >> s) & 1) != 0 && arrival(s, i) == begins[i]) {
                    return s;
                }
            }
            return cameByCell(i);
        }

        private int cameByCell(int i) {
            for (int c = 0; c < CELLS; c++) {
                boolean reads = ((text.cells[i] >> c) & 1) != 0;
                for (int s = 0; reads && s < i; s++) {
                    int arrived = ends[s] + across(place[s], cellPlace[c]) + across(cellPlace[c], place[i]);
                    if (gave(s, c) && arrived == begins[i]) {
                        return s;
                    }
                }
            }
            return NONE;
        }
    }

    /** The parts of a cut, going by the turns of a seed. */
    private static final class Parts {
        private static final long FACTOR = 6364136223846793005L;
        private static final long ADDEND = 1442695040888963407L;

        final int[] turns = new int[STEPS];
        final int[] showCount = new int[PLACES];
        final int[] shows = new int[PLACES * STEPS];
        int turnCount = 0;
        private int through = 0;
        private final int[] ready = new int[PLACES];

        /** What flows to a step, and the order on its cells, make each number the one that a run in order has. */
        void go(Text t, Run run, int[] place, long seed) {
            Arrays.fill(showCount, 0);
            turnCount = 0;
            through = 0;
            long x = seed;
            for (int turn = 0; turn < t.size; turn++) {
                x = x * FACTOR + ADDEND;
                int found = findReady(t, place);
                if (found > 0) {
                    passStep(t, run, place, ready[(int) ((x >>> 33) % found)]);
                }
            }
        }

        private int findReady(Text t, int[] place) {
            int found = 0;
            for (int p = 0; p < PLACES; p++) {
                int next = nextAt(t, place, p);
                if (next != NONE && canGo(t, next)) {
                    ready[found] = next;
                    found++;
                }
            }
            return found;
        }

        private int nextAt(Text t, int[] place, int p) {
            for (int i = 0; i < t.size; i++) {
                if (place[i] == p && ((through >> i) & 1) == 0) {
                    return i;
                }
            }
            return NONE;
        }

        private boolean canGo(Text t, int i) {
            if (((t.flows[i] | t.aroundBit(i)) & ~through) != 0) {
                return false;
            }
            for (int s = 0; s < i; s++) {
                if (((through >> s) & 1) == 0 && meetAtCell(t, s, i)) {
                    return false;
                }
            }
            return true;
        }

        /** Whether two steps have to do with one cell to which one of them gives a number. */
        private static boolean meetAtCell(Text t, int a, int b) {
            int given = t.givenCellBit(a) | t.givenCellBit(b);
            return (t.touched(a) & t.touched(b) & given) != 0;
        }

        private void passStep(Text t, Run run, int[] place, int i) {
            through |= 1 << i;
            turns[turnCount] = i;
            turnCount++;
            int p = place[i];
            if (run.isDone(i) && t.kind[i] == KIND_SHOW && showCount[p] < STEPS) {
                shows[p * STEPS + showCount[p]] = run.numbers[i];
                showCount[p]++;
            }
        }
    }
}
