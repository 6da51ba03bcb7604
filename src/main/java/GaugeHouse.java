/** A house of bench instruments on a bus; shared/DOC.md tells its promises, and the words in capitals are that document's. */
public final class GaugeHouse {
    public static final int BAD = -1, STATE = -2, FULL = -3;
    public static final long NONE = Long.MIN_VALUE;

    private static final int PLAIN = 0, METER = 1, SCANNER = 2;
    private static final int TOLD = 1, ASKED = 2, BOTH = 3;

    // what a PARAMETER wants, and what a datum is
    private static final int WHOLE = 1, TRUTH = 2, CHOICE = 3, REAL = 4, LIST = 5, STRING = 6, BLOCK = 7;
    private static final int NUMBER = 8, WORD = 9, BASED = 10;

    // THE TABLE's COMMANDS that do more than keep their PARAMETERS, by their numbers
    private static final int INITIATE = 0, CONTINUOUS = 1, ABORT = 2, ARM_SOURCE = 3, ARM_COUNT = 4;
    private static final int TRIGGER_SOURCE = 5, TRIGGER_COUNT = 6, DELAY = 7, TIMER = 8, FETCH = 9, READ = 10;
    private static final int RANGE = 11, AUTO = 12, APERTURE = 13, OFFSET = 14, LOWER = 15, UPPER = 16;
    private static final int LIMITS = 17, FAIL = 18, FEED = 19, DATA = 20, CLOSE = 21, OPEN = 22, TEXT = 23;
    private static final int OPERATION = 24, QUESTIONABLE = 29, PRESET = 34, NEXT_ERROR = 35, ERROR_COUNT = 36;
    private static final int BUILT = 37, OWN_MOST = 20, NODE_MOST = 4, SUFFIX_MOST = 4, PARAMETER_MOST = 2;
    private static final int SETTINGS = BUILT + OWN_MOST * SUFFIX_MOST * PARAMETER_MOST;

    // the * COMMANDS, by their places in STAR_NAMES; as a row each has STAR more
    private static final String STAR_NAMES = "CLSESEESRIDNOPCRSTSAVRCLSRESTBTRGTSTWAI";
    private static final int CLS = 0, ESE = 1, ESR = 2, IDN = 3, OPC = 4, RST = 5, SAV = 6;
    private static final int RCL = 7, SRE = 8, STB = 9, TRG = 10, TST = 11, WAI = 12;
    private static final int STARS = 13, STAR = 100;

    private static final int NO_FIT = -5, SUFFIX_MISFIT = -6;

    // of TRIGGERS: the layers and the SOURCES
    private static final int IDLE = 0, ARM_LAYER = 1, TRIGGER_LAYER = 2, DELAYED = 3, MEASURING = 4;
    private static final int IMMEDIATE = 0, BUS = 1;

    private static final int TAPE_ROOM = 800, INPUT_ROOM = 80, OUTPUT_ROOM = 60, TEXT_ROOM = 12, WORD_ROOM = 12;
    private static final int KEPT_READINGS = 40, LANE_ROOM = 40, RESULT_ROOM = 30, LIST_ROOM = 20, ERROR_ROOM = 10;
    private static final int STATEMENT_MOST = 60, BLOCK_DEPTH = 8, TEST_MOST = 6, INSTRUMENT_MOST = 4;

    // the bit that an INPUT byte has beyond its eight when the END is told with it
    private static final int END_TOLD = 256;

    private static final int WAITS = -4, UNTERMINATED = -5;

    private static final long MOST_AMOUNT = 1000000000000L;
    private static final long NAN_BITS = 0x7ff8000000000000L, INFINITE_BITS = 0x7ff0000000000000L;
    private static final int NAN_FLOAT_BITS = 0x7fc00000, INFINITE_FLOAT_BITS = 0x7f800000;

    // FAULTS of LANES
    private static final int NULL_FAULT = 1, CAST_FAULT = 2, INDEX_FAULT = 3, DIVIDE_FAULT = 4, STORE_FAULT = 5, SIZE_FAULT = 6;
    private static final int MARKS = 6, LATE_MARKS = 7, LATE_TIME = 100;

    // STATEMENTS of TESTS, and how a RUN of some can end beside a kind of FAIL
    private static final int SEND_STEP = 1, ASK_STEP = 2, WANT_STEP = 3, WAIT_STEP = 4, CHECK_STEP = 5;
    private static final int RAISE_STEP = 6, REPEAT_STEP = 7, TRY_STEP = 8;
    private static final int SPENT = 99, WAIT_MOST = 50;

    private final Buffer tape = new Buffer(TAPE_ROOM);
    private final Table table = new Table();
    private final Text text = new Text();
    private final Unit scratch = new Unit();
    private final Instrument[] instruments = new Instrument[INSTRUMENT_MOST];
    private int instrumentCount = 0;
    private final int[][] signals = new int[6][4];
    private int time = 0;
    private final Statement[] tests = new Statement[TEST_MOST];
    private int testCount = 0;
    private int takenBytes = 0;
    private int latestFault = 0;

    // the latest RUN
    private int steps = 0, stepBound = 0, failCount = 0, lastCount = 0, resultCount = 0;
    private long answer = NONE;
    private final Buffer received = new Buffer(OUTPUT_ROOM + 1);
    private final long[][] results = new long[2][RESULT_ROOM];

    public GaugeHouse() {
        for (int k = 0; k < 6; k++) {
            signals[k][0] = 3;
            signals[k][3] = 1;
        }
    }

    // ---- the tape, the table

    public int feed(long w, int n) {
        if (n < 1 || n > 8) return BAD;
        if (tape.space() < n) return FULL;
        for (int k = n - 1; k >= 0; k--) tape.add((int) (w >>> (8 * k) & 255));
        return tape.length;
    }

    public int own() {
        text.begin(tape);
        tape.wipe();
        if (instrumentCount > 0) return STATE;
        try {
            table.readLines(text);
        } catch (IllegalArgumentException fault) {
            return -10 - text.start;
        }
        return table.size;
    }

    public int header() {
        int n = tape.length;
        tape.wipe();
        if (n == 0) return BAD;
        if (scratch.scanHeader(tape.bytes, 0, n) != n) return BAD;
        return table.find(scratch);
    }

    public int command(int c, int what) {
        Command row = table.row(c);
        if (row == null || c >= STAR) return BAD;
        switch (what) {
            case 0: return row.nodeCount;
            case 1: return row.forms;
            case 2: return row.parameters;
            case 3: return row.suffixes;
            default: return BAD;
        }
    }

    // ---- instruments, the bus

    public int instrument(int kind) {
        if (kind < PLAIN || kind > SCANNER) return BAD;
        if (instrumentCount >= INSTRUMENT_MOST) return FULL;
        int[] set = new int[SETTINGS];
        table.setFirst(set, true);
        instruments[instrumentCount] = new Instrument(instrumentCount, kind, table, set, new Status(set), new Meter(kind, set));
        instrumentCount++;
        return instrumentCount - 1;
    }

    public int send(int i, boolean end) {
        int n = tape.length;
        tape.wipe();
        Instrument d = device(i);
        if (d == null) return BAD;
        int came = d.receive(tape.bytes, n, end, time);
        d.look();
        return came;
    }

    public int take(int i) {
        Instrument d = device(i);
        if (d == null) return BAD;
        int b = d.giveByte(time);
        if (b >= 0) takenBytes++;
        return b;
    }

    public int clear(int i) {
        Instrument d = device(i);
        return d == null ? BAD : d.empty();
    }

    public int poll(int i) {
        Instrument d = device(i);
        if (d == null) return BAD;
        int answered = d.status.summary(d.output.length > 0);
        if (d.status.serviceAsked) answered |= 64;
        d.status.serviceAsked = false;
        return answered;
    }

    public int service() {
        int bits = 0;
        for (int k = 0; k < instrumentCount; k++) {
            Instrument d = instruments[k];
            if (d != null && d.status.serviceAsked) bits |= 1 << k;
        }
        return bits;
    }

    public int trigger(int i) {
        Instrument d = meterOf(i);
        if (d == null) return BAD;
        if (!d.meter.event()) d.status.fail(-211);
        d.settle(time);
        d.look();
        return d.meter.layer;
    }

    public int tick(int n) {
        if (n < 1 || n > 64) return BAD;
        for (int k = 0; k < n; k++) elapse();
        return time;
    }

    public int signal(int k, int shape, int a, int b, int p) {
        if (k < 0 || k >= 6 || shape < 0 || shape > 4 || p < 1 || p > 1000) return BAD;
        if (a < -1000000000 || a > 1000000000 || b < -1000000000 || b > 1000000000) return BAD;
        signals[k][0] = shape;
        signals[k][1] = a;
        signals[k][2] = b;
        signals[k][3] = p;
        return 1;
    }

    public int wire(int i, int channel, int k) {
        Instrument d = meterOf(i);
        if (d == null || k < -1 || k >= 6) return BAD;
        boolean scans = d.kind == SCANNER;
        if (channel < (scans ? 1 : 0) || channel > (scans ? 8 : 0)) return BAD;
        int before = d.meter.wires[channel];
        d.meter.wires[channel] = k;
        return before;
    }

    public int about(int i, int what) {
        Instrument d = device(i);
        if (d == null) return BAD;
        switch (what) {
            case 0: return d.kind;
            case 1: return d.unit.input.length;
            case 2: return d.output.length;
            case 3: return d.status.errorCount;
            case 4: return d.meter.layer;
            case 5: return d.meter.pending() ? 1 : 0;
            case 6: return d.holding();
            case 7: return d.meter.made;
            case 8: return d.set[RANGE];
            case 9: return d.meter.closed;
            case 10: return d.meter.closings;
            case 11: return d.meter.fed;
            default: return BAD;
        }
    }

    public int register(int i, int which, int part) {
        Instrument d = device(i);
        if (d == null || which < 0 || which > 2 || part < 0 || part > 4) return BAD;
        return which < 2 ? d.status.filterPart(which, part) : d.status.topPart(part, d.output.length > 0);
    }

    public int error(int i, int k) {
        Instrument d = device(i);
        if (d == null || k < 0 || k >= d.status.errorCount) return BAD;
        return d.status.errors[k];
    }

    public long setting(int i, int c, int suffix, int p) {
        Instrument d = device(i);
        Command row = table.row(c);
        if (d == null || row == null || c >= STAR || row.kind > d.kind) return NONE;
        if (p < 0 || p >= row.parameters || row.sorts[p] >= LIST) return NONE;
        if (suffix < 1 || suffix > Math.max(1, row.suffixes)) return NONE;
        return d.set[Table.place(c, suffix, p)];
    }

    public long reading(int i, int k) {
        Instrument d = meterOf(i);
        if (d == null || k < 0 || k >= Math.min(d.meter.made, KEPT_READINGS)) return NONE;
        return d.meter.bits[(d.meter.made - 1 - k) % KEPT_READINGS];
    }

    // ---- lanes

    public int lane(int i, int l, int sort, int n) {
        Lane z = laneOf(i, l);
        if (z == null || sort < 0 || sort > LATE_MARKS || sort != 0 && n > LANE_ROOM) return BAD;
        if (sort != 0 && n < 0) return failed(SIZE_FAULT);
        z.become(sort, sort == 0 ? 0 : n);
        return 1;
    }

    public int put(int i, int l, int sort, int k, long v) {
        Lane z = laneOf(i, l);
        if (z == null || sort < 1 || sort >= MARKS) return BAD;
        int f = z.faultAt(sort, k);
        if (f != 0) return failed(f);
        z.items[k] = Lane.narrowed(sort, v);
        return 1;
    }

    public long get(int i, int l, int sort, int k) {
        Lane z = laneOf(i, l);
        if (z == null || sort < 1 || sort >= MARKS) return NONE;
        int f = z.faultAt(sort, k);
        if (f != 0) return failedLong(f);
        return z.items[k];
    }

    public int mark(int i, int l, int k, int m) {
        Lane z = laneOf(i, l);
        Instrument d = meterOf(i);
        if (z == null || d == null || m != -1 && !d.meter.keeps(m)) return BAD;
        int f = z.faultAt(MARKS, k);
        if (f != 0) return failed(f);
        long at = m < 0 ? -1 : d.meter.times[m % KEPT_READINGS];
        if (!z.welcomes(at)) return failed(STORE_FAULT);
        z.items[k] = at;
        return 1;
    }

    public long marked(int i, int l, int k) {
        Lane z = laneOf(i, l);
        if (z == null) return NONE;
        int f = z.faultAt(MARKS, k);
        if (f != 0) return failedLong(f);
        if (z.items[k] < 0) return failedLong(NULL_FAULT);
        return z.items[k];
    }

    public int copy(int i, int l, int at, int j, int m, int to, int n) {
        Lane from = laneOf(i, l);
        Lane into = laneOf(j, m);
        if (from == null || into == null) return BAD;
        if (from.sort == 0 || into.sort == 0) return failed(NULL_FAULT);
        boolean marks = from.sort >= MARKS && into.sort >= MARKS;
        if (from.sort != into.sort && !marks) return failed(STORE_FAULT);
        if (at < 0 || to < 0 || n < 0 || (long) at + n > from.size || (long) to + n > into.size) return failed(INDEX_FAULT);
        int good = into.sort == LATE_MARKS ? into.welcomed(from, at, n) : n;
        System.arraycopy(from.items, at, into.items, to, good);
        return good < n ? failed(STORE_FAULT) : 1;
    }

    public int measure(int i, int l, int what) {
        Lane z = laneOf(i, l);
        if (z == null || what < 0 || what > 5) return BAD;
        if (what == 0) return z.sort;
        if (what == 1) return z.size;
        int f = z.castFault(what == 5 ? 3 : 5);
        if (f == 0 && what == 5 && z.size == 0) f = DIVIDE_FAULT;
        if (f != 0) return failed(f);
        if (what == 5) return z.mean();
        return what == 4 ? z.countOfNone() : z.extreme(what == 3);
    }

    // ---- tests

    public int test() {
        text.begin(tape);
        tape.wipe();
        if (testCount >= TEST_MOST) return FULL;
        try {
            tests[testCount] = Statement.script(text);
        } catch (IllegalArgumentException fault) {
            return -10 - text.start;
        }
        testCount++;
        return testCount - 1;
    }

    public int run(int t, int n) {
        if (t < 0 || t >= testCount || n < 1 || n > 100) return BAD;
        Statement script = tests[t];
        if (script == null) return BAD;
        steps = 0;
        stepBound = n;
        failCount = 0;
        lastCount = 0;
        resultCount = 0;
        answer = NONE;
        int code = runBlock(script.body, 0);
        for (int k = 0; k < instrumentCount; k++) {
            if (instruments[k] != null) instruments[k].look();
        }
        return code == 0 || code == SPENT ? code : 100 + code;
    }

    public int ran(int what) {
        switch (what) {
            case 0: return steps;
            case 1: return failCount;
            case 2: return lastCount;
            case 3: return Math.min(resultCount, RESULT_ROOM);
            default: return BAD;
        }
    }

    public long result(int k, int what) {
        if (what < 0 || what > 1 || k < 0 || k >= Math.min(resultCount, RESULT_ROOM)) return NONE;
        return results[what][(resultCount - 1 - k) % RESULT_ROOM];
    }

    // ---- counts

    public int count(int what) {
        switch (what) {
            case 0: return tape.length;
            case 1: return table.size;
            case 2: return instrumentCount;
            case 3: return time;
            case 4: return testCount;
            case 5: return unitsDone();
            case 6: return takenBytes;
            case 7: return latestFault;
            default: return BAD;
        }
    }

    public int share(int i) throws IllegalArgumentException, ArithmeticException {
        Instrument d = meterOf(i);
        if (d == null) throw new IllegalArgumentException("no such METER");
        if (d.meter.failures == 0) throw new ArithmeticException("none FAILED");
        return d.meter.made / d.meter.failures;
    }

    // ---- the house's own

    private Instrument device(int i) {
        return i < 0 || i >= instrumentCount ? null : instruments[i];
    }

    private Instrument meterOf(int i) {
        Instrument d = device(i);
        return d == null || d.kind < METER ? null : d;
    }

    private Lane laneOf(int i, int l) {
        Instrument d = meterOf(i);
        return d == null || l < 0 || l >= 3 ? null : d.meter.lanes[l];
    }

    private int failed(int f) {
        latestFault = f;
        return -10 - f;
    }

    private long failedLong(int f) {
        latestFault = f;
        return NONE;
    }

    private int unitsDone() {
        int sum = 0;
        for (int k = 0; k < instrumentCount; k++) {
            if (instruments[k] != null) sum += instruments[k].unitsDone;
        }
        return sum;
    }

    /** A TICK. */
    private void elapse() {
        time++;
        for (int k = 0; k < instrumentCount; k++) {
            Instrument d = instruments[k];
            if (d == null) continue;
            if (d.kind >= METER) {
                d.meter.advance(time, signals);
                d.status.follow(0, d.meter.condition());
                d.status.follow(1, d.meter.quality());
            }
            d.proceed(time);
            d.look();
        }
    }

    /** Does STATEMENTS in order: 0, the kind of a FAIL, or SPENT. A block lies in no more than BLOCK_DEPTH others. */
    private int runBlock(Statement first, int depth) {
        if (depth > BLOCK_DEPTH) return 0;
        for (Statement s = first; s != null; s = s.next) {
            if (steps >= stepBound) return SPENT;
            steps++;
            int code = 0;
            if (s.kind == REPEAT_STEP) {
                for (int k = 0; k < s.number && code == 0; k++) code = runBlock(s.body, depth + 1);
            } else if (s.kind == TRY_STEP) {
                code = runBlock(s.body, depth + 1);
                if (code != 0 && code != SPENT && s.handles(code)) code = runBlock(s.handler, depth + 1);
                if (code != SPENT && s.hasLast) {
                    lastCount++;
                    int later = runBlock(s.last, depth + 1);
                    if (later != 0) code = later;
                }
            } else {
                code = runPlain(s);
                if (code == 0 && s.kind == ASK_STEP) code = takeAnswer(device(s.number));
                if (code != 0) failCount++;
            }
            if (code != 0) return code;
        }
        return 0;
    }

    /** A STATEMENT without blocks, of an ask its sending: 0, or the kind of its FAIL. */
    private int runPlain(Statement s) {
        switch (s.kind) {
            case WANT_STEP: return answer == NONE || answer < s.number || answer > s.greatest ? 3 : 0;
            case RAISE_STEP: return s.number;
            case WAIT_STEP:
                for (int k = 0; k < s.number; k++) elapse();
                return 0;
            default: break;
        }
        Instrument d = device(s.number);
        if (d == null) return 1;
        if (s.kind == CHECK_STEP) {
            boolean some = d.status.errorCount > 0;
            d.status.errorCount = 0;
            return some ? 4 : 0;
        }
        return d.receive(s.message, s.message.length, true, time) < s.message.length ? 2 : 0;
    }

    /** Takes what an ask brings: 0, or the kind of its FAIL. */
    private int takeAnswer(Instrument d) {
        if (d == null) return 1;
        received.wipe();
        int waits = 0;
        // what one message can put is far below the bound
        for (int turn = 0; turn < 100000; turn++) {
            int b = d.giveByte(time);
            if (b == UNTERMINATED || b == WAITS && waits == WAIT_MOST) return 2;
            if (b == WAITS) {
                waits++;
                elapse();
                continue;
            }
            takenBytes++;
            if (b == 10) {
                keepAnswer();
                return 0;
            }
            received.add(b);
        }
        return 2;
    }

    private void keepAnswer() {
        answer = scratch.amountOf(received);
        int slot = resultCount % RESULT_ROOM;
        results[0][slot] = answer;
        results[1][slot] = time;
        resultCount++;
    }

    private static boolean isLetter(int b) {
        return b >= 'A' && b <= 'Z' || b >= 'a' && b <= 'z';
    }

    private static boolean isDigit(int b) {
        return b >= '0' && b <= '9';
    }

    private static boolean isWhite(int b) {
        return b >= 0 && b <= 32 && b != 10;
    }

    /** The place of the first byte from at on that is not WHITE. */
    private static int skipWhite(int[] s, int at, int end) {
        int p = at;
        while (p < end && s[p] <= 32 && s[p] != 10) p++;
        return p;
    }

    /** Bytes in a row: THE TAPE, INPUT, OUTPUT, answers, texts. */
    private static final class Buffer {
        final int[] bytes;
        int length = 0;

        Buffer(int room) {
            bytes = new int[Math.max(1, room)];
        }

        int space() {
            return bytes.length - length;
        }

        void wipe() {
            length = 0;
        }

        void add(int b) {
            if (length < bytes.length) {
                bytes[length] = b;
                length++;
            }
        }

        void append(Buffer other) {
            for (int k = 0; k < other.length; k++) {
                if (length < bytes.length) {
                    bytes[length] = other.bytes[k];
                    length++;
                }
            }
        }

        /** The first n bytes go. */
        void drop(int n) {
            int gone = Math.max(0, Math.min(n, length));
            System.arraycopy(bytes, gone, bytes, 0, length - gone);
            length -= gone;
        }

        /** Adds a number in figures, the last ones of them behind a point. */
        void decimal(long value, int places) {
            long rest = Math.abs(value);
            long scale = 1;
            int digits = 1;
            while (digits < 18 && (scale <= rest / 10 || digits <= places)) {
                scale *= 10;
                digits++;
            }
            if (digits + 2 > bytes.length - length) return;
            if (value < 0) {
                bytes[length] = '-';
                length++;
            }
            for (int left = digits; left > 0 && scale > 0; left--) {
                if (left == places) {
                    bytes[length] = '.';
                    length++;
                }
                bytes[length] = '0' + (int) (rest / scale % 10);
                length++;
                scale /= 10;
            }
        }
    }

    /** A WORD: its LONG form in great letters, of which the first ones are the SHORT form. */
    private static final class Word {
        final int[] letters;
        final int brief;

        Word(int[] letters, int brief) {
            this.letters = letters;
            this.brief = brief;
        }

        static Word of(String s) {
            int[] all = new int[s.length()];
            for (int k = 0; k < all.length; k++) all[k] = s.charAt(k);
            return from(all, 0, all.length);
        }

        /** The WORD that these letters are, or null. */
        static Word from(int[] s, int at, int end) {
            int great = at;
            while (great < end && s[great] >= 'A' && s[great] <= 'Z') great++;
            int small = great;
            while (small < end && s[small] >= 'a' && s[small] <= 'z') small++;
            if (great == at || great - at > 4 || small - great > 8 || small != end) return null;
            int[] all = new int[end - at];
            for (int k = 0; k < all.length; k++) all[k] = s[at + k] & ~32;
            return new Word(all, great - at);
        }

        /** Whether n bytes of s are its LONG or SHORT form, in letters great or small. */
        boolean fits(int[] s, int at, int n) {
            if (n != brief && n != letters.length || at < 0 || at + n > s.length) return false;
            for (int k = 0; k < n; k++) {
                int b = s[at + k];
                if (b >= 'a' && b <= 'z') b -= 32;
                if (b != letters[k]) return false;
            }
            return true;
        }

        /** Whether some form of one is some form of the other. */
        boolean meets(Word other) {
            return other.fits(letters, 0, letters.length) || other.fits(letters, 0, brief);
        }
    }

    /** A row of THE TABLE, or a * COMMAND (which has no NODES). */
    private static final class Command {
        final Word[] nodes = new Word[NODE_MOST];
        int nodeCount = 0;
        int optionalBits = 0;
        int optionalCount = 0;
        int suffixNode = -1;
        int suffixes = 0;
        int forms = BOTH;
        int kind = PLAIN;
        boolean standIns = true;
        int parameters = 0;
        final int[] sorts = new int[PARAMETER_MOST];
        final int[] least = new int[PARAMETER_MOST];
        final int[] greatest = new int[PARAMETER_MOST];
        final int[] first = new int[PARAMETER_MOST];
        // those of the first PARAMETER in the first half
        final Word[] choices = new Word[4 * PARAMETER_MOST];

        void addNode(Word w, boolean optional) {
            if (nodeCount >= NODE_MOST) return;
            nodes[nodeCount] = w;
            if (optional) {
                optionalBits |= 1 << nodeCount;
                optionalCount++;
            }
            nodeCount++;
        }

        Command with(int sort, int low, int high, int start) {
            if (parameters >= PARAMETER_MOST) return this;
            sorts[parameters] = sort;
            least[parameters] = low;
            greatest[parameters] = high;
            first[parameters] = start;
            parameters++;
            return this;
        }

        Command among(Word a, Word b, Word c) {
            int at = 4 * parameters;
            if (at + 4 > choices.length) return this;
            choices[at] = a;
            choices[at + 1] = b;
            choices[at + 2] = c;
            return with(CHOICE, 0, c == null ? 1 : 2, 0);
        }

        boolean isOptional(int node) {
            return (optionalBits >> node & 1) != 0;
        }

        /** 0: it does not fit the words; 1: but for a SUFFIX; 2: it fits. */
        int fit(Unit u) {
            if (u.words > NODE_MOST) return 0;
            // bit j: the NODES so far can stand for the first j words
            int loose = 1;
            int strict = 1;
            for (int i = 0; i < nodeCount; i++) {
                int nextLoose = isOptional(i) ? loose : 0;
                int nextStrict = isOptional(i) ? strict : 0;
                for (int j = 0; j < u.words; j++) {
                    Word w = nodes[i];
                    if (w == null || (loose >> j & 1) == 0 || !w.fits(u.letters, j * WORD_ROOM, u.lengths[j])) continue;
                    nextLoose |= 2 << j;
                    int x = u.suffixes[j];
                    boolean right = x < 0 || i == suffixNode && x >= 1 && x <= suffixes;
                    if (right && (strict >> j & 1) != 0) nextStrict |= 2 << j;
                }
                loose = nextLoose;
                strict = nextStrict;
            }
            return (strict >> u.words & 1) != 0 ? 2 : loose >> u.words & 1;
        }

        /** Whether a row of words fits both, SUFFIXES aside. */
        boolean twins(Command other) {
            // bit 5 i + j: a row of words can stand for i NODES here and for j there
            int reach = 1;
            for (int i = 0; i <= nodeCount; i++) {
                for (int j = 0; j <= other.nodeCount; j++) {
                    if ((reach >> 5 * i + j & 1) == 0) continue;
                    if (i < nodeCount && isOptional(i)) reach |= 1 << 5 * (i + 1) + j;
                    if (j < other.nodeCount && other.isOptional(j)) reach |= 1 << 5 * i + j + 1;
                    if (i == nodeCount || j == other.nodeCount) continue;
                    Word w = nodes[i];
                    Word v = other.nodes[j];
                    if (w != null && v != null && w.meets(v)) reach |= 1 << 5 * (i + 1) + j + 1;
                }
            }
            return (reach >> 5 * nodeCount + other.nodeCount & 1) != 0;
        }
    }

    /** THE TABLE: the COMMANDS of part 9, the OWN ones behind them, and the * ones apart. */
    private static final class Table {
        final Command[] rows = new Command[BUILT + OWN_MOST];
        int size = 0;
        final Command[] stars = new Command[STARS];
        // by the values that they stand for: 0 and 1; the least, the greatest, the first one
        final Word[] truths = new Word[2];
        final Word[] standIns = new Word[3];

        Table() {
            truths[0] = Word.of("OFF");
            truths[1] = Word.of("ON");
            standIns[0] = Word.of("MINimum");
            standIns[1] = Word.of("MAXimum");
            standIns[2] = Word.of("DEFault");
            buildTriggers();
            buildReadings();
            buildStatus();
            buildStars();
        }

        private void buildTriggers() {
            Word immediate = Word.of("IMMediate");
            Word bus = Word.of("BUS");
            build(":INITiate[:IMMediate]", TOLD, METER);
            build(":INITiate:CONTinuous", BOTH, METER).with(TRUTH, 0, 1, 0);
            build(":ABORt", TOLD, METER);
            build(":ARM:SOURce", BOTH, METER).among(immediate, bus, null);
            build(":ARM:COUNt", BOTH, METER).with(WHOLE, 1, 9, 1);
            build(":TRIGger:SOURce", BOTH, METER).among(immediate, bus, Word.of("TIMer"));
            build(":TRIGger:COUNt", BOTH, METER).with(WHOLE, 1, 9, 1);
            build(":TRIGger:DELay", BOTH, METER).with(WHOLE, 0, 20, 0);
            build(":TRIGger:TIMer", BOTH, METER).with(WHOLE, 1, 50, 1);
        }

        private void buildReadings() {
            build(":FETCh", ASKED, METER);
            build(":READ", ASKED, METER);
            build("[:SENSe]:RANGe", BOTH, METER).with(WHOLE, 0, 6, 0);
            build("[:SENSe]:RANGe:AUTO", BOTH, METER).with(TRUTH, 0, 1, 0);
            build("[:SENSe]:APERture", BOTH, METER).with(WHOLE, 1, 10, 1);
            build(":CALCulate:NULL", BOTH, METER).with(REAL, -1000000, 1000000, 0);
            build(":CALCulate:LIMit:LOWer", BOTH, METER).with(REAL, -1000000000, 1000000000, 0);
            build(":CALCulate:LIMit:UPPer", BOTH, METER).with(REAL, -1000000000, 1000000000, 0);
            build(":CALCulate:LIMit:STATe", BOTH, METER).with(TRUTH, 0, 1, 0);
            build(":CALCulate:LIMit:FAIL", ASKED, METER);
            build(":TRACe:FEED", BOTH, METER).with(TRUTH, 0, 1, 0);
            build(":TRACe:DATA", TOLD, METER).with(BLOCK, 0, 0, 0);
            build(":ROUTe:CLOSe", BOTH, SCANNER).with(LIST, 0, 0, 0);
            build(":ROUTe:OPEN", TOLD, SCANNER).with(LIST, 0, 0, 0);
            build(":DISPlay[:WINDow]:TEXT", BOTH, PLAIN).with(STRING, 0, 0, 0);
        }

        private void buildStatus() {
            build(":STATus:OPERation[:EVENt]", ASKED, PLAIN);
            build(":STATus:OPERation:CONDition", ASKED, PLAIN);
            build(":STATus:OPERation:ENABle", BOTH, PLAIN).with(WHOLE, 0, 32767, 0);
            build(":STATus:OPERation:PTRansition", BOTH, PLAIN).with(WHOLE, 0, 32767, 32767);
            build(":STATus:OPERation:NTRansition", BOTH, PLAIN).with(WHOLE, 0, 32767, 0);
            build(":STATus:QUEStionable[:EVENt]", ASKED, PLAIN);
            build(":STATus:QUEStionable:CONDition", ASKED, PLAIN);
            build(":STATus:QUEStionable:ENABle", BOTH, PLAIN).with(WHOLE, 0, 32767, 0);
            build(":STATus:QUEStionable:PTRansition", BOTH, PLAIN).with(WHOLE, 0, 32767, 32767);
            build(":STATus:QUEStionable:NTRansition", BOTH, PLAIN).with(WHOLE, 0, 32767, 0);
            build(":STATus:PRESet", TOLD, PLAIN);
            build(":SYSTem:ERRor[:NEXT]", ASKED, PLAIN);
            build(":SYSTem:ERRor:COUNt", ASKED, PLAIN);
        }

        private void buildStars() {
            for (int k = 0; k < STARS; k++) {
                Command c = new Command();
                c.standIns = false;
                boolean asksAlone = k == ESR || k == IDN || k == STB || k == TST;
                boolean both = k == ESE || k == OPC || k == SRE;
                c.forms = asksAlone ? ASKED : both ? BOTH : TOLD;
                c.kind = k == TRG ? METER : PLAIN;
                if (k == ESE || k == SRE) c.with(WHOLE, 0, 255, 0);
                if (k == SAV || k == RCL) c.with(WHOLE, 0, 2, 0);
                stars[k] = c;
            }
        }

        private Command build(String path, int forms, int kind) {
            Command c = new Command();
            c.forms = forms;
            c.kind = kind;
            boolean optional = false;
            int at = 0;
            while (at < path.length()) {
                int end = at + 1;
                if (path.charAt(at) == '[') optional = true;
                if (path.charAt(at) == ':') {
                    while (end < path.length() && isLetter(path.charAt(end))) end++;
                    c.addNode(Word.of(path.substring(at + 1, end)), optional);
                    optional = false;
                }
                at = end;
            }
            if (size < rows.length) {
                rows[size] = c;
                size++;
            }
            return c;
        }

        /** The COMMAND of a number of THE TABLE's or, from STAR on, of a * one; or null. */
        Command row(int c) {
            if (c >= STAR && c < STAR + STARS) return stars[c - STAR];
            return c < 0 || c >= size ? null : rows[c];
        }

        /** The COMMAND that a HEADER fits, NO_FIT, or SUFFIX_MISFIT. */
        int find(Unit u) {
            int found = NO_FIT;
            for (int c = 0; c < size; c++) {
                Command row = rows[c];
                int fit = row == null ? 0 : row.fit(u);
                if (fit == 2) return c;
                if (fit == 1) found = SUFFIX_MISFIT;
            }
            return found;
        }

        /** Where a PARAMETER stands among an INSTRUMENT's. */
        static int place(int c, int suffix, int p) {
            return c < BUILT ? c : BUILT + ((c - BUILT) * SUFFIX_MOST + suffix - 1) * PARAMETER_MOST + p;
        }

        /** Whether *RST and *RCL leave it alone. */
        static boolean stays(int place) {
            boolean operation = place > OPERATION + 1 && place < QUESTIONABLE;
            return operation || place > QUESTIONABLE + 1 && place < PRESET;
        }

        /** First values, of those that stay at *RST just if told. */
        void setFirst(int[] set, boolean all) {
            for (int c = 0; c < size; c++) {
                Command row = rows[c];
                if (row == null || stays(c) && !all) continue;
                for (int suffix = 1; suffix <= Math.max(1, row.suffixes); suffix++) {
                    for (int p = 0; p < row.parameters; p++) set[place(c, suffix, p)] = row.first[p];
                }
            }
        }

        /** Reads a text of OWN COMMANDS; throws at its FAULT, with none of them taken. */
        void readLines(Text t) {
            int most = size;
            while (t.kind != Text.END && most <= rows.length) {
                if (most == rows.length) t.refuse();
                Command c = new Command();
                readNodes(t, c);
                if (t.isSign('?') || t.isSign('!')) {
                    c.forms = t.isSign('?') ? ASKED : TOLD;
                    t.step();
                }
                for (int k = 0; k < PARAMETER_MOST && t.kind == Text.LETTERS; k++) readParameter(t, c);
                if (!t.isSign(';')) t.refuse();
                for (int k = 0; k < most; k++) {
                    Command other = rows[k];
                    if (other != null && other.twins(c)) t.refuse();
                }
                t.step();
                rows[most] = c;
                most++;
            }
            size = most;
        }

        private static void readNodes(Text t, Command c) {
            for (int k = 0; k <= NODE_MOST && (t.isSign(':') || t.isSign('[')); k++) {
                boolean optional = t.isSign('[');
                if (c.nodeCount == NODE_MOST || optional && c.optionalCount == 2) t.refuse();
                if (optional) t.step();
                t.need(':');
                c.addNode(t.needWord(), optional);
                if (optional) t.need(']');
                if (!optional && t.isSign('#')) {
                    if (c.suffixes != 0) t.refuse();
                    t.step();
                    c.suffixNode = c.nodeCount - 1;
                    c.suffixes = t.needNumber(false, 2, SUFFIX_MOST);
                }
            }
            if (c.nodeCount == c.optionalCount) t.refuse();
        }

        private static void readParameter(Text t, Command c) {
            if (t.isWord("whole")) {
                t.step();
                int low = t.needNumber(true, -999999, 999999);
                int high = t.needNumber(true, low, 999999);
                c.with(WHOLE, low, high, t.needNumber(true, low, high));
            } else if (t.isWord("truth")) {
                t.step();
                c.with(TRUTH, 0, 1, t.needNumber(true, 0, 1));
            } else if (t.isWord("choice")) {
                readChoice(t, c);
            } else {
                t.refuse();
            }
        }

        private static void readChoice(Text t, Command c) {
            int words = 0;
            boolean more = true;
            while (more && words <= 4) {
                // the word choice, or the sign / behind a WORD
                t.step();
                if (words == 4) t.refuse();
                Word w = t.peekWord();
                for (int k = 0; k < words; k++) {
                    Word other = c.choices[4 * c.parameters + k];
                    if (other != null && other.meets(w)) t.refuse();
                }
                c.choices[4 * c.parameters + words] = w;
                words++;
                t.step();
                if (words == 1 && !t.isSign('/')) t.refuse();
                more = t.isSign('/');
            }
            c.with(CHOICE, 0, words - 1, 0);
        }
    }

    /** The TOKENS of a text of OWN COMMANDS or of a TEST. */
    private static final class Text {
        static final int END = 0, LETTERS = 1, DIGITS = 2, QUOTED = 3, SIGN = 4, NOTHING = 5;
        int[] bytes = new int[1];
        int length = 0;
        // the TOKEN that is looked at; where a text is refused, start is the place of its FAULT
        int start = 0;
        int end = 0;
        int kind = END;
        int value = 0;
        int statements = 0;

        void begin(Buffer tape) {
            bytes = tape.bytes;
            length = tape.length;
            end = 0;
            statements = 0;
            step();
        }

        void step() {
            start = end;
            while (start < length && (bytes[start] == 32 || bytes[start] == 10)) start++;
            end = start;
            if (start >= length) {
                kind = END;
            } else if (isLetter(bytes[start])) {
                while (end < length && isLetter(bytes[end])) end++;
                kind = LETTERS;
            } else if (isDigit(bytes[start])) {
                stepDigits();
            } else if (bytes[start] == '\'') {
                stepQuoted();
            } else {
                end++;
                kind = SIGN;
            }
        }

        /** A ' that no other one follows begins no TOKEN. */
        private void stepQuoted() {
            end++;
            while (end < length && bytes[end] != '\'') end++;
            kind = end < length ? QUOTED : NOTHING;
            if (end < length) end++;
        }

        private void stepDigits() {
            value = 0;
            while (end < length && isDigit(bytes[end])) {
                if (end - start < 6) value = 10 * value + bytes[end] - '0';
                end++;
            }
            kind = end - start > 6 ? NOTHING : DIGITS;
        }

        void refuse() {
            throw new IllegalArgumentException("a TOKEN that cannot stand");
        }

        boolean isSign(int b) {
            return kind == SIGN && bytes[start] == b;
        }

        boolean isWord(String w) {
            if (kind != LETTERS || end - start != w.length()) return false;
            for (int k = 0; k < w.length(); k++) {
                if (bytes[start + k] != w.charAt(k)) return false;
            }
            return true;
        }

        void need(int sign) {
            if (!isSign(sign)) refuse();
            step();
        }

        Word peekWord() {
            Word w = kind == LETTERS ? Word.from(bytes, start, end) : null;
            if (w == null) refuse();
            return w;
        }

        Word needWord() {
            Word w = peekWord();
            step();
            return w;
        }

        int needNumber(boolean signed, int low, int high) {
            boolean minus = signed && isSign('-');
            if (minus) step();
            if (kind != DIGITS) refuse();
            int v = minus ? -value : value;
            if (v < low || v > high) refuse();
            step();
            return v;
        }

        /** The bytes of a STRING. */
        int[] needString() {
            if (kind != QUOTED) refuse();
            int[] inside = new int[Math.max(0, end - start - 2)];
            System.arraycopy(bytes, start + 1, inside, 0, inside.length);
            step();
            return inside;
        }
    }

    /** A STATEMENT of a TEST, with those of its blocks behind it. */
    private static final class Statement {
        int kind = 0;
        // the INSTRUMENT, how often, how long, the kind that is raised, or the least that is wanted
        int number = 0;
        int greatest = 0;
        int[] message = new int[0];
        Statement body = null;
        int handledKind = -1;
        Statement handler = null;
        boolean hasLast = false;
        Statement last = null;
        Statement next = null;

        boolean handles(int failKind) {
            return handledKind == 0 || handledKind == failKind;
        }

        /** Reads a TEST, which becomes the body of the answer; throws at its FAULT. */
        static Statement script(Text t) {
            Statement whole = new Statement();
            whole.body = readAll(t, 0);
            if (t.kind != Text.END) t.refuse();
            return whole;
        }

        /** Reads STATEMENTS as long as words come; depth blocks lie around them. */
        private static Statement readAll(Text t, int depth) {
            Statement first = null;
            Statement latest = null;
            // readOne refuses the one that is too many
            for (int k = 0; k <= STATEMENT_MOST && t.kind == Text.LETTERS; k++) {
                Statement s = readOne(t, depth);
                if (latest == null) first = s;
                else latest.next = s;
                latest = s;
            }
            return first;
        }

        private static Statement readBlock(Text t, int depth) {
            if (depth == BLOCK_DEPTH) t.refuse();
            t.need('{');
            Statement first = readAll(t, depth + 1);
            t.need('}');
            return first;
        }

        private static Statement readOne(Text t, int depth) {
            Statement s = new Statement();
            s.kind = kindAt(t);
            if (s.kind == 0 || t.statements == STATEMENT_MOST) t.refuse();
            t.statements++;
            t.step();
            if (s.kind == REPEAT_STEP) {
                s.number = t.needNumber(false, 1, 9);
                s.body = readBlock(t, depth);
            } else if (s.kind == TRY_STEP) {
                s.body = readBlock(t, depth);
                if (t.isWord("fail")) {
                    t.step();
                    s.handledKind = t.needNumber(false, 0, 9);
                    s.handler = readBlock(t, depth);
                }
                s.hasLast = t.isWord("last");
                if (s.hasLast) {
                    t.step();
                    s.last = readBlock(t, depth);
                }
            } else {
                readPlain(t, s);
                t.need(';');
            }
            return s;
        }

        private static void readPlain(Text t, Statement s) {
            switch (s.kind) {
                case WANT_STEP:
                    s.number = t.needNumber(true, -999999, 999999);
                    s.greatest = t.needNumber(true, -999999, 999999);
                    break;
                case WAIT_STEP:
                    s.number = t.needNumber(false, 1, 20);
                    break;
                case RAISE_STEP:
                    s.number = t.needNumber(false, 5, 9);
                    break;
                default:
                    s.number = t.needNumber(false, 0, 9);
                    if (s.kind != CHECK_STEP) s.message = t.needString();
                    break;
            }
        }

        private static int kindAt(Text t) {
            if (t.isWord("send")) return SEND_STEP;
            if (t.isWord("ask")) return ASK_STEP;
            if (t.isWord("want")) return WANT_STEP;
            if (t.isWord("wait")) return WAIT_STEP;
            if (t.isWord("check")) return CHECK_STEP;
            if (t.isWord("raise")) return RAISE_STEP;
            if (t.isWord("repeat")) return REPEAT_STEP;
            return t.isWord("try") ? TRY_STEP : 0;
        }
    }

    /** One of the data of a UNIT. What reads answers the place behind it, or the ERROR. */
    private static final class Datum {
        static final int NO_SUCH_UNIT = 99;
        int sort = NUMBER;
        boolean minus = false;
        long mantissa = 0;
        int power = 0;
        int significant = 0;
        boolean hasUnit = false;
        int unitPower = 0;
        // where the letters of a WORD, the bytes of a BLOCK are
        int from = 0;
        int length = 0;
        final Buffer string = new Buffer(INPUT_ROOM);
        final int[] channels = new int[LIST_ROOM];
        int channelCount = 0;
        int channel = 0;

        /** What begins there, or the ERROR. */
        static int sortAt(int[] s, int at, int end) {
            if (at >= end) return -101;
            int b = s[at];
            if (isDigit(b) || b == '+' || b == '-' || b == '.') return NUMBER;
            if (isLetter(b)) return WORD;
            if (b == '"' || b == '\'') return STRING;
            if (b == '(') return LIST;
            if (b != '#') return -101;
            if (at + 1 >= end) return -161;
            if (isDigit(s[at + 1])) return BLOCK;
            return baseOf(s[at + 1]) > 0 ? BASED : -161;
        }

        private static int baseOf(int b) {
            switch (b) {
                case 'H': case 'h': return 16;
                case 'Q': case 'q': return 8;
                case 'B': case 'b': return 2;
                default: return 0;
            }
        }

        private void beginNumber() {
            sort = NUMBER;
            minus = false;
            mantissa = 0;
            power = 0;
            significant = 0;
            hasUnit = false;
            unitPower = 0;
        }

        /** Reads the sign and the digits of a NUMBER; its exponent and its UNIT are read behind them. */
        int readNumber(int[] s, int at, int end) {
            beginNumber();
            minus = s[at] == '-';
            int first = minus || s[at] == '+' ? at + 1 : at;
            int p = readDigits(s, first, end, 0);
            boolean some = p > first;
            if (p >= 0 && p < end && s[p] == '.') {
                int point = p + 1;
                p = readDigits(s, point, end, -1);
                some = some || p > point;
            }
            if (p < 0) return p;
            return some ? p : -121;
        }

        private int readDigits(int[] s, int at, int end, int powerOfEach) {
            int p = at;
            while (p < end && s[p] >= '0' && s[p] <= '9') {
                int d = s[p] - '0';
                if (mantissa != 0 || d != 0) significant++;
                if (significant > 12) return -124;
                mantissa = 10 * mantissa + d;
                power += powerOfEach;
                p++;
            }
            return p;
        }

        int readExponent(int[] s, int at, int end) {
            int p = skipWhite(s, at, end);
            if (p >= end || s[p] != 'E' && s[p] != 'e') return at;
            p = skipWhite(s, p + 1, end);
            boolean down = p < end && s[p] == '-';
            boolean sign = down || p < end && s[p] == '+';
            if (!sign && (p >= end || s[p] < '0' || s[p] > '9')) return at;
            int first = sign ? p + 1 : p;
            int value = 0;
            p = first;
            while (p < end && s[p] >= '0' && s[p] <= '9') {
                if (p - first == 2) return -123;
                value = 10 * value + s[p] - '0';
                p++;
            }
            power += down ? -value : value;
            return p == first ? -121 : p;
        }

        int readUnit(int[] s, int at, int end) {
            int first = skipWhite(s, at, end);
            int p = first;
            while (p < end && isLetter(s[p])) p++;
            hasUnit = p > first;
            if (hasUnit) unitPower = powerOf(s, first, p);
            return hasUnit ? p : at;
        }

        /** The power of ten of a UNIT of volts. */
        private static int powerOf(int[] s, int at, int end) {
            int p = at;
            int found = 0;
            int b = s[p] & ~32;
            if (b == 'K') found = 3;
            else if (b == 'M') found = -3;
            else if (b == 'U') found = -6;
            if (found != 0) p++;
            if (b == 'M' && p < end && (s[p] & ~32) == 'A') {
                found = 6;
                p++;
            }
            if (p < end && (s[p] & ~32) == 'V') p++;
            return p == end ? found : NO_SUCH_UNIT;
        }

        int readBased(int[] s, int at, int end) {
            beginNumber();
            int base = at + 1 < end ? baseOf(s[at + 1]) : 0;
            int p = at + 2;
            while (p < end) {
                int b = s[p];
                int d = 99;
                if (b >= '0' && b <= '9') d = b - '0';
                else if (b >= 'A' && b <= 'F') d = b - 'A' + 10;
                else if (b >= 'a' && b <= 'f') d = b - 'a' + 10;
                if (d >= base) break;
                if (mantissa != 0 || d != 0) significant++;
                if (significant > 12) return -124;
                mantissa = base * mantissa + d;
                p++;
            }
            return p <= at + 2 ? -121 : p;
        }

        int readWord(int[] s, int at, int end) {
            sort = WORD;
            from = at;
            int p = at;
            while (p < end && (isLetter(s[p]) || isDigit(s[p]) || s[p] == '_')) {
                if (p - at == WORD_ROOM) return -112;
                p++;
            }
            length = p - at;
            return p;
        }

        int readString(int[] s, int at, int end) {
            sort = STRING;
            string.wipe();
            int p = at + 1;
            while (p < end) {
                if (s[p] == s[at]) {
                    p++;
                    if (p >= end || s[p] != s[at]) return p;
                }
                string.add(s[p]);
                p++;
            }
            return -151;
        }

        int readBlock(int[] s, int at, int end) {
            sort = BLOCK;
            int digits = at + 1 < end ? s[at + 1] - '0' : 0;
            int p = at + 2;
            int size = 0;
            for (int k = 0; k < digits; k++) {
                if (p >= end || !isDigit(s[p])) return -161;
                size = 10 * size + s[p] - '0';
                p++;
            }
            if (digits == 0) size = end - p;
            if (size < 0 || size > end - p) return -161;
            from = p;
            length = size;
            return p + size;
        }

        int readList(int[] s, int at, int end) {
            sort = LIST;
            channelCount = 0;
            int p = skipWhite(s, at + 1, end);
            if (p >= end || s[p] != '@') return -171;
            int first = -1;
            boolean more = true;
            for (int turn = 0; more && turn <= end; turn++) {
                p = readChannel(s, skipWhite(s, p + 1, end), end);
                if (p < 0) return -171;
                p = skipWhite(s, p, end);
                if (p >= end || first >= 0 && s[p] == ':') return -171;
                boolean begins = s[p] == ':';
                if (!begins) addChannels(first < 0 ? channel : first, channel);
                first = begins ? channel : -1;
                more = begins || s[p] == ',';
            }
            return s[p] == ')' ? p + 1 : -171;
        }

        /** Reads a number of a LIST. */
        private int readChannel(int[] s, int at, int end) {
            int p = at;
            channel = 0;
            while (p < end && s[p] >= '0' && s[p] <= '9' && p - at < 3) {
                channel = 10 * channel + s[p] - '0';
                p++;
            }
            return p == at ? -171 : p;
        }

        private void addChannels(int first, int last) {
            int step = first <= last ? 1 : -1;
            int n = Math.abs(last - first) + 1;
            for (int k = 0; k < n; k++) {
                if (channelCount < channels.length) channels[channelCount] = first + k * step;
                channelCount++;
            }
        }

        /** A NUMBER times a power of ten, rounded, halves away from 0; what is beyond MOST_AMOUNT is just beyond. */
        long rounded(int shift) {
            long amount = mantissa;
            int e = power + shift;
            while (e > 0 && amount != 0 && amount <= MOST_AMOUNT) {
                amount *= 10;
                e--;
            }
            if (e < -18) amount = 0;
            if (e < 0 && amount != 0) {
                long divisor = 1;
                for (int k = 0; k < -e; k++) divisor *= 10;
                if (divisor > 0) amount = (amount + divisor / 2) / divisor;
            }
            amount = Math.min(amount, MOST_AMOUNT + 1);
            return minus ? -amount : amount;
        }
    }

    /** INPUT, and the UNIT that is read from it: its HEADER and its data. */
    private static final class Unit {
        // what the bytes so far are in, beside a STRING, which goes by its quote
        private static final int FREE = 0, NUMERAL = 1, SIZE = 2, SIZED = 3, ENDLESS = 4;
        private static final int SLOTS = 6;
        static final int BLANK = 2;

        final Buffer input = new Buffer(INPUT_ROOM);
        int scanned = 0;
        private int form = FREE;
        private int left = 0;
        private int size = 0;
        final int[] s = new int[INPUT_ROOM];

        // the words of the HEADER with those ahead; how many of the latest one's stand for the next, -1 without
        final int[] letters = new int[SLOTS * WORD_ROOM];
        final int[] lengths = new int[SLOTS];
        final int[] suffixes = new int[SLOTS];
        int words = 0;
        int path = -1;
        int star = -1;
        boolean asked = false;

        // what is beyond the PARAMETERS that can be is read, but not kept
        final Datum[] data = new Datum[PARAMETER_MOST + 1];
        int dataCount = 0;

        Unit() {
            for (int k = 0; k < data.length; k++) data[k] = new Datum();
        }

        /** How many bytes the first UNIT's text has, if its end has come, else -1. */
        int next() {
            while (scanned < input.length) {
                int b = input.bytes[scanned];
                scanned++;
                if (closes(b & 255)) return scanned - 1;
                if (b >= END_TOLD) return scanned;
            }
            return -1;
        }

        private boolean closes(int b) {
            if (form == ENDLESS) return false;
            if (form == SIZED) {
                left--;
                if (left <= 0) form = FREE;
                return false;
            }
            if (form == '"' || form == '\'') {
                if (b == form) form = FREE;
                return b == 10;
            }
            if (form == NUMERAL && isDigit(b)) {
                left = b - '0';
                size = 0;
                form = left == 0 ? ENDLESS : SIZE;
                return false;
            }
            if (form == SIZE && isDigit(b)) {
                size = 10 * size + b - '0';
                left--;
                if (left > 0) return false;
                left = size;
                form = size == 0 ? FREE : SIZED;
                return false;
            }
            form = b == '#' ? NUMERAL : b == '"' || b == '\'' ? b : FREE;
            return b == ';' || b == 10;
        }

        /** Whether the MESSAGE ends with the UNIT that was found. */
        boolean endsMessage() {
            if (scanned < 1 || scanned > input.length) return false;
            int b = input.bytes[scanned - 1];
            return b >= END_TOLD || b == 10;
        }

        /** The UNIT that was found goes. */
        void drop() {
            input.drop(scanned);
            scanned = 0;
            form = FREE;
        }

        void wipe() {
            input.wipe();
            scanned = 0;
            form = FREE;
        }

        /** Reads the n bytes of a UNIT: 0, BLANK, or the ERROR. */
        int read(int n) {
            int end = Math.min(n, s.length);
            for (int k = 0; k < end; k++) s[k] = input.bytes[k] & 255;
            int p = skipWhite(s, 0, end);
            if (p >= end) return BLANK;
            p = s[p] == '*' ? scanStar(s, p + 1, end) : scanHeader(s, p, end);
            if (p < 0) return p;
            asked = p < end && s[p] == '?';
            if (asked) p++;
            if (p < end && !isWhite(s[p])) return -103;
            p = skipWhite(s, p, end);
            dataCount = 0;
            boolean more = p < end;
            for (int turn = 0; more && turn <= s.length; turn++) {
                Datum d = data[Math.min(dataCount, PARAMETER_MOST)];
                int sort = Datum.sortAt(s, p, end);
                switch (sort) {
                    case NUMBER:
                        p = d.readNumber(s, p, end);
                        if (p >= 0) p = d.readExponent(s, p, end);
                        if (p >= 0) p = d.readUnit(s, p, end);
                        break;
                    case BASED: p = d.readBased(s, p, end); break;
                    case WORD: p = d.readWord(s, p, end); break;
                    case STRING: p = d.readString(s, p, end); break;
                    case BLOCK: p = d.readBlock(s, p, end); break;
                    case LIST: p = d.readList(s, p, end); break;
                    default: return sort;
                }
                if (p < 0) return p;
                dataCount++;
                p = skipWhite(s, p, end);
                more = p < end;
                if (more && s[p] != ',') return -103;
                if (more) p = skipWhite(s, p + 1, end);
            }
            return 0;
        }

        /** Reads a HEADER but a * one: the place behind it, or the ERROR. */
        int scanHeader(int[] from, int at, int end) {
            int p = at;
            star = -1;
            boolean root = p < end && from[p] == ':';
            if (root) p++;
            words = root || path < 0 ? 0 : path;
            boolean more = true;
            for (int turn = 0; more && turn <= end; turn++) {
                // a HEADER of more words than there are slots fits nothing, so they need not be kept
                int slot = Math.min(words, SLOTS - 1);
                int first = p;
                while (p < end && isLetter(from[p])) {
                    if (p - first == WORD_ROOM) return -112;
                    letters[slot * WORD_ROOM + p - first] = from[p];
                    p++;
                }
                if (p == first) return -101;
                lengths[slot] = p - first;
                first = p;
                suffixes[slot] = -1;
                while (p < end && isDigit(from[p])) {
                    if (p - first == 2) return -101;
                    suffixes[slot] = 10 * Math.max(0, suffixes[slot]) + from[p] - '0';
                    p++;
                }
                words++;
                more = p < end && from[p] == ':';
                if (more) p++;
            }
            return p;
        }

        /** Reads the three letters of a * HEADER. */
        private int scanStar(int[] from, int at, int end) {
            star = STARS;
            for (int p = at; p < at + 3; p++) {
                if (p >= end || !isLetter(from[p])) return -101;
            }
            for (int k = 0; k < STARS; k++) {
                boolean same = true;
                for (int j = 0; j < 3; j++) same = same && (from[at + j] & ~32) == STAR_NAMES.charAt(3 * k + j);
                if (same) star = k;
            }
            return at + 3;
        }

        int suffix() {
            for (int k = 0; k < Math.min(words, SLOTS); k++) {
                if (suffixes[k] >= 0) return suffixes[k];
            }
            return 1;
        }

        /** What a REAL would be of bytes that are a NUMBER alone, and 0 of others. */
        long amountOf(Buffer b) {
            if (b.length > OUTPUT_ROOM) return 0;
            Datum d = data[0];
            int at = skipWhite(b.bytes, 0, b.length);
            int sort = Datum.sortAt(b.bytes, at, b.length);
            int p = -1;
            if (sort == NUMBER) p = d.readNumber(b.bytes, at, b.length);
            if (sort == NUMBER && p >= 0) p = d.readExponent(b.bytes, p, b.length);
            if (sort == NUMBER && p >= 0) p = d.readUnit(b.bytes, p, b.length);
            if (sort == BASED) p = d.readBased(b.bytes, at, b.length);
            if (p < 0 || skipWhite(b.bytes, p, b.length) != b.length || d.unitPower == Datum.NO_SUCH_UNIT) return 0;
            return Math.max(-MOST_AMOUNT, Math.min(MOST_AMOUNT, d.rounded(3 + d.unitPower)));
        }
    }

    /** REGISTERS and ERRORS. Of filters 0 is OPERATION, 1 QUESTIONABLE; what they let through stands among the settings. */
    private static final class Status {
        final int[] set;
        int events = 128;
        int eventEnable = 0;
        int serviceEnable = 0;
        boolean serviceAsked = false;
        private int seen = 0;
        boolean completeWanted = false;
        final int[] errors = new int[ERROR_ROOM];
        int errorCount = 0;
        final int[] conditions = new int[2];
        final int[] filterEvents = new int[2];

        Status(int[] set) {
            this.set = set;
        }

        void fail(int code) {
            int bit = code > -200 ? 32 : code > -300 ? 16 : code > -400 ? 8 : 4;
            events |= bit;
            if (errorCount < ERROR_ROOM) {
                errors[errorCount] = code;
                errorCount++;
            } else {
                errors[ERROR_ROOM - 1] = -350;
                events |= 8;
            }
        }

        int eldestError() {
            if (errorCount == 0) return 0;
            int code = errors[0];
            System.arraycopy(errors, 1, errors, 0, errorCount - 1);
            errorCount--;
            return code;
        }

        private static int base(int which) {
            return which == 0 ? OPERATION : QUESTIONABLE;
        }

        void follow(int which, int condition) {
            int came = condition & ~conditions[which];
            int went = conditions[which] & ~condition;
            conditions[which] = condition;
            filterEvents[which] |= came & set[base(which) + 3] | went & set[base(which) + 4];
        }

        int filterPart(int which, int part) {
            switch (part) {
                case 0: return conditions[which];
                case 1: return set[base(which) + 3];
                case 2: return set[base(which) + 4];
                case 3: return filterEvents[which];
                default: return set[base(which) + 2];
            }
        }

        int topPart(int part, boolean output) {
            switch (part) {
                case 0: return events;
                case 1: return eventEnable;
                case 2: return withMaster(output);
                case 3: return serviceEnable;
                default: return serviceAsked ? 1 : 0;
            }
        }

        void preset() {
            for (int which = 0; which < 2; which++) {
                set[base(which) + 2] = 0;
                set[base(which) + 3] = 32767;
                set[base(which) + 4] = 0;
            }
        }

        void wipe() {
            errorCount = 0;
            events = 0;
            filterEvents[0] = 0;
            filterEvents[1] = 0;
            completeWanted = false;
        }

        /** STATUS without MASTER. */
        int summary(boolean output) {
            int bits = output ? 16 : 0;
            if (errorCount > 0) bits |= 4;
            if ((filterEvents[1] & set[QUESTIONABLE + 2]) != 0) bits |= 8;
            if ((events & eventEnable) != 0) bits |= 32;
            if ((filterEvents[0] & set[OPERATION + 2]) != 0) bits |= 128;
            return bits;
        }

        int withMaster(boolean output) {
            int bits = summary(output);
            return (bits & serviceEnable) != 0 ? bits | 64 : bits;
        }

        /** Looks whether COMPLETE is due, and then at what asks for SERVICE. */
        void look(boolean pending, boolean output) {
            if (completeWanted && !pending) {
                events |= 1;
                completeWanted = false;
            }
            int now = summary(output) & serviceEnable;
            if ((now & ~seen) != 0) serviceAsked = true;
            if (now == 0) serviceAsked = false;
            seen = now;
        }
    }

    /** A LANE: rows of one SORT. Floats and doubles are kept by their bits, MARKS by their TIMES (-1: nothing). */
    private static final class Lane {
        int sort = 0;
        int size = 0;
        final long[] items = new long[LANE_ROOM];

        void become(int newSort, int n) {
            sort = newSort;
            size = n;
            for (int k = 0; k < LANE_ROOM; k++) items[k] = newSort >= MARKS ? -1 : 0;
        }

        int castFault(int wanted) {
            if (sort == 0) return NULL_FAULT;
            boolean right = wanted == MARKS ? sort >= MARKS : sort == wanted;
            return right ? 0 : CAST_FAULT;
        }

        int faultAt(int wanted, int k) {
            int f = castFault(wanted);
            if (f != 0) return f;
            return k < 0 || k >= size ? INDEX_FAULT : 0;
        }

        /** Whether a MARK of that TIME can be stored. */
        boolean welcomes(long at) {
            return sort != LATE_MARKS || at < 0 || at >= LATE_TIME;
        }

        /** How many of n items can be stored before one that cannot. */
        int welcomed(Lane from, int at, int n) {
            int good = 0;
            while (good < n && at + good < LANE_ROOM && welcomes(from.items[at + good])) good++;
            return good;
        }

        /** A number, or the bits of a float, a double, as an item of a SORT. */
        static long narrowed(int sort, long v) {
            switch (sort) {
                case 1: return (byte) v;
                case 2: return (short) v;
                case 3: return (int) v;
                case 4: return ((int) v & 0x7fffffff) > INFINITE_FLOAT_BITS ? NAN_FLOAT_BITS : (int) v;
                default: return isNone(v) ? NAN_BITS : v;
            }
        }

        /** A double, if it is a number, as Java casts it to a SORT. */
        static long cast(int sort, double x, boolean number) {
            switch (sort) {
                case 1: return number ? (byte) x : 0;
                case 2: return number ? (short) x : 0;
                case 3: return number ? (int) x : 0;
                case 4: return number ? (int) pack((float) x, 23, 127) : NAN_FLOAT_BITS;
                default: return number ? pack(x, 52, 1023) : NAN_BITS;
            }
        }

        static boolean isNone(long bits) {
            return (bits & Long.MAX_VALUE) > INFINITE_BITS;
        }

        /** The bits of a number with a fraction of so many bits; no READING is so small that they would not be normal. */
        static long pack(double x, int fraction, int bias) {
            // only the quotient tells -0.0 from 0.0
            boolean minus = x < 0 || x == 0 && 1.0 / x < 0;
            long sign = minus ? 1L << (fraction == 52 ? 63 : 31) : 0;
            if (x == 0) return sign;
            double size = minus ? -x : x;
            int exponent = 0;
            for (int k = 0; k < 64 && size >= 65536.0; k++) {
                size /= 65536.0;
                exponent += 16;
            }
            for (int k = 0; k < 16 && size >= 2.0; k++) {
                size /= 2.0;
                exponent++;
            }
            for (int k = 0; k < 64 && size < 1.0 / 65536.0; k++) {
                size *= 65536.0;
                exponent -= 16;
            }
            for (int k = 0; k < 17 && size < 1.0; k++) {
                size *= 2.0;
                exponent--;
            }
            return sign | (long) (exponent + bias) << fraction | (long) ((size - 1.0) * (double) (1L << fraction));
        }

        /** What sorts bits as their doubles are sorted; both zeros are alike. */
        private static long rank(long bits) {
            return bits >= 0 ? bits : Long.MIN_VALUE - bits;
        }

        /** The place of the first least or greatest double that is a number, or -1. */
        int extreme(boolean greatest) {
            int found = -1;
            for (int k = 0; k < size && k < LANE_ROOM; k++) {
                if (isNone(items[k])) continue;
                long order = found < 0 ? 0 : Long.compare(rank(items[k]), rank(items[found]));
                if (found < 0 || (greatest ? order > 0 : order < 0)) found = k;
            }
            return found;
        }

        int countOfNone() {
            int n = 0;
            for (int k = 0; k < size && k < LANE_ROOM; k++) {
                if (isNone(items[k])) n++;
            }
            return n;
        }

        int mean() {
            if (size == 0) return 0;
            long sum = 0;
            for (int k = 0; k < size && k < LANE_ROOM; k++) sum += items[k];
            return (int) (sum / size);
        }

        /** The bytes of a BLOCK become its items, if it is just so many bytes. */
        boolean load(int[] s, int at, int n) {
            if (sort != 1 || size != n || at < 0 || at + n > s.length) return false;
            for (int k = 0; k < n; k++) items[k] = (byte) s[at + k];
            return true;
        }
    }

    /** TRIGGERS, READINGS, channels and LANES of a METER; a PLAIN INSTRUMENT's stays as it is made. */
    private static final class Meter {
        final int[] set;
        final int kind;
        int layer = IDLE;
        private int armPassed = 0;
        private int triggerPassed = 0;
        private int left = 0;
        private int began = -1;
        // what settling has to look at
        boolean idled = false;
        final int[] wires = new int[9];
        // channel 1 has bit 1
        int closed = 0;
        int closings = 0;
        final long[] bits = new long[KEPT_READINGS];
        final int[] times = new int[KEPT_READINGS];
        int made = 0;
        int failures = 0;
        private double latest = 0.0;
        private boolean number = false;
        private boolean over = false;
        boolean fails = false;
        int fed = 0;
        final Lane[] lanes = new Lane[3];

        Meter(int kind, int[] set) {
            this.kind = kind;
            this.set = set;
            for (int k = 0; k < wires.length; k++) wires[k] = -1;
            for (int k = 0; k < lanes.length; k++) lanes[k] = new Lane();
        }

        boolean pending() {
            return layer != IDLE && set[CONTINUOUS] == 0;
        }

        int condition() {
            return layer == MEASURING ? 16 : layer == TRIGGER_LAYER ? 32 : layer == ARM_LAYER ? 64 : 0;
        }

        int quality() {
            return (over ? 1 : 0) | (fails ? 512 : 0);
        }

        boolean keeps(int m) {
            return m >= 0 && m < made && m >= made - KEPT_READINGS;
        }

        void arm() {
            layer = ARM_LAYER;
            armPassed = 0;
        }

        void abort() {
            idled = true;
            layer = IDLE;
            if (set[CONTINUOUS] == 1) arm();
        }

        private void passArm() {
            armPassed++;
            triggerPassed = 0;
            began = -1;
            layer = TRIGGER_LAYER;
        }

        private void passTrigger() {
            triggerPassed++;
            layer = DELAYED;
            left = set[DELAY];
        }

        /** A BUS event: whether a layer waited for it. */
        boolean event() {
            boolean arms = layer == ARM_LAYER && set[ARM_SOURCE] == BUS;
            boolean triggers = layer == TRIGGER_LAYER && set[TRIGGER_SOURCE] == BUS;
            if (arms) passArm();
            if (triggers) passTrigger();
            return arms || triggers;
        }

        /** What takes no TICK. Each READING takes one, so the bound is never met. */
        void flow(int time) {
            for (int turn = 0; turn < 100; turn++) {
                if (layer == ARM_LAYER && set[ARM_SOURCE] == IMMEDIATE) {
                    passArm();
                } else if (layer == TRIGGER_LAYER && triggerIsDue(time)) {
                    passTrigger();
                } else if (layer == DELAYED && left <= 0) {
                    layer = MEASURING;
                    left = set[APERTURE];
                    began = time;
                } else {
                    return;
                }
            }
        }

        private boolean triggerIsDue(int time) {
            int source = set[TRIGGER_SOURCE];
            if (source == IMMEDIATE || source == BUS) return source == IMMEDIATE;
            return began < 0 || time - began >= set[TIMER];
        }

        void advance(int time, int[][] signals) {
            if (layer == DELAYED || layer == MEASURING) left--;
            if (layer == MEASURING && left <= 0) {
                sample(time, signals);
                feedLane();
                if (triggerPassed < set[TRIGGER_COUNT]) {
                    layer = TRIGGER_LAYER;
                } else if (armPassed < set[ARM_COUNT]) {
                    layer = ARM_LAYER;
                } else {
                    layer = IDLE;
                    if (set[CONTINUOUS] == 1) arm();
                }
            }
            flow(time);
        }

        /** The READING is made. */
        private void sample(int time, int[][] signals) {
            int k = wireOfInput();
            number = k >= 0 && k < signals.length && isNumber(signals[k], time);
            double x = number ? valueOf(signals[k], time) : 0.0;
            double size = x < 0 ? -x : x;
            if (number && set[AUTO] == 1) {
                set[RANGE] = 0;
                while (set[RANGE] < 6 && size > tenTo(set[RANGE])) set[RANGE]++;
            }
            double top = tenTo(set[RANGE]);
            double step = top / 10000.0;
            over = number && size > top;
            double rough = over ? (x < 0 ? -9.9E37 : 9.9E37) : rint(x / step) * step;
            latest = rough - set[OFFSET] / 1000.0;
            boolean within = number && latest >= set[LOWER] / 1000.0 && latest <= set[UPPER] / 1000.0;
            fails = set[LIMITS] == 1 && !within;
            if (fails) failures++;
            bits[made % KEPT_READINGS] = number ? Lane.pack(latest, 52, 1023) : NAN_BITS;
            times[made % KEPT_READINGS] = time;
            made++;
        }

        /** The SIGNAL that is read, or -1. */
        private int wireOfInput() {
            if (kind != SCANNER) return wires[0];
            for (int c = 1; c <= 8; c++) {
                if ((closed >> c & 1) != 0) return wires[c];
            }
            return -1;
        }

        private void feedLane() {
            Lane z = lanes[0];
            if (set[FEED] == 0 || z.sort == 0 || z.sort >= MARKS || fed >= z.size) return;
            z.items[fed] = Lane.cast(z.sort, latest, number);
            fed++;
        }

        private static double tenTo(int r) {
            double power = 1.0;
            for (int k = 0; k < r; k++) power *= 10.0;
            return power;
        }

        private static boolean isNumber(int[] signal, int time) {
            if (signal[0] == 3) return false;
            return signal[0] != 4 || signal[1] != 0 || signal[3] > 0 && time % signal[3] != 0;
        }

        private static double valueOf(int[] signal, int time) {
            int p = Math.max(1, signal[3]);
            double a = signal[1] / 1000.0;
            switch (signal[0]) {
                case 1: return time / p % 2 == 0 ? a : signal[2] / 1000.0;
                case 2: return (signal[1] + (long) signal[2] * (time % p)) / 1000.0;
                case 4:
                    // beyond every RANGE, as what is infinite is
                    if (time % p == 0) return a < 0 ? -1.0E300 : 1.0E300;
                    return a / (time % p);
                default: return a;
            }
        }

        /** The nearest whole number, of two the even one; what is below 0 keeps its sign. */
        private static double rint(double x) {
            double whole = 4503599627370496.0;
            if (x >= whole || x <= -whole || x == 0) return x;
            return x < 0 ? -(whole - x - whole) : x + whole - whole;
        }

        /** The latest READING as answers tell it. */
        void tell(Buffer into) {
            boolean huge = latest > 9E37 || latest < -9E37;
            if (number && !huge) {
                into.decimal((long) rint(latest * 1000.0), 3);
                return;
            }
            String told = !number ? "9.91E37" : latest < 0 ? "-9.9E37" : "9.9E37";
            for (int k = 0; k < told.length(); k++) into.add(told.charAt(k));
        }

        void close(int channel) {
            int half = channel <= 4 ? 0x1e : 0x1e0;
            closed = closed & ~half | 1 << channel;
            closings++;
        }
    }

    /** An INSTRUMENT: what comes in, what is done with it, what goes out. */
    private static final class Instrument {
        // what HOLDS: OUTPUT an answer, what is PENDING a UNIT, OUTPUT the 10 behind a MESSAGE
        private static final int FREE = 0, FOR_ROOM = 1, FOR_PENDING = 2, FOR_END = 3;
        // what doing a UNIT answers beside 0 and an ERROR
        private static final int PENDS = 1;
        // far above what 80 bytes of INPUT can need
        private static final int TURNS = 1000;

        final int number;
        final int kind;
        final Table table;
        final int[] set;
        final Status status;
        final Meter meter;
        final Unit unit = new Unit();
        final Buffer output = new Buffer(OUTPUT_ROOM);
        private final Buffer answer = new Buffer(OUTPUT_ROOM);
        private final Buffer shown = new Buffer(TEXT_ROOM);
        private final int[][] saved = new int[3][SETTINGS + 1];
        private int savedBits = 0;
        private final long[] given = new long[PARAMETER_MOST];
        private int row = NO_FIT;
        private int hold = FREE;
        int unitsDone = 0;
        // of the MESSAGE that is done
        private boolean begun = false;
        private boolean passing = false;
        private boolean answered = false;
        private boolean muted = false;
        private boolean identified = false;

        Instrument(int number, int kind, Table table, int[] set, Status status, Meter meter) {
            this.number = number;
            this.kind = kind;
            this.table = table;
            this.set = set;
            this.status = status;
            this.meter = meter;
        }

        int holding() {
            return hold == FREE ? 0 : hold == FOR_PENDING ? 2 : 1;
        }

        void look() {
            status.look(meter.pending(), output.length > 0);
        }

        /** Bytes are sent: how many came. */
        int receive(int[] s, int n, boolean end, int time) {
            for (int k = 0; k < n && k < s.length; k++) {
                for (int turn = 0; turn < TURNS && unit.input.space() == 0 && hold != FOR_PENDING; turn++) {
                    if (hold == FREE) overflow();
                    else deadlock();
                    proceed(time);
                }
                if (unit.input.space() == 0) {
                    // a byte that does not come was sent, too, and may have been the cause of a DEADLOCK
                    look();
                    return k;
                }
                // looked at behind the making of room, by which the MESSAGES before may have been done
                if (!begun && hold == FREE && output.length > 0) {
                    status.fail(-410);
                    output.wipe();
                }
                begun = true;
                unit.input.add(end && k == n - 1 ? s[k] | END_TOLD : s[k]);
                proceed(time);
                look();
            }
            return n;
        }

        private void overflow() {
            status.fail(-223);
            unit.wipe();
            passing = true;
        }

        private void deadlock() {
            status.fail(-430);
            output.wipe();
            muted = true;
        }

        /** A byte is TAKEN: it, WAITS, or UNTERMINATED. */
        int giveByte(int time) {
            int b = UNTERMINATED;
            if (output.length > 0) {
                b = output.bytes[0];
                output.drop(1);
                proceed(time);
            } else if (hold == FOR_PENDING) {
                b = WAITS;
            } else {
                status.fail(-420);
                unit.wipe();
                beginMessage();
            }
            look();
            return b;
        }

        /** A CLEAR: how many bytes of OUTPUT went. */
        int empty() {
            int n = output.length;
            output.wipe();
            unit.wipe();
            hold = FREE;
            beginMessage();
            status.completeWanted = false;
            look();
            return n;
        }

        private void beginMessage() {
            begun = unit.input.length > 0;
            passing = false;
            answered = false;
            muted = false;
            identified = false;
            unit.path = -1;
        }

        private void endMessage() {
            if (answered && !muted) hold = FOR_END;
            else beginMessage();
        }

        /** Does all that can be done with what has come. */
        void proceed(int time) {
            for (int turn = 0; turn < TURNS; turn++) {
                if (hold != FREE) {
                    boolean ofUnit = hold != FOR_END;
                    if (!release()) return;
                    if (ofUnit) conclude(0);
                    else beginMessage();
                } else if (passing) {
                    if (!passOver()) return;
                } else {
                    int n = unit.next();
                    if (n < 0) return;
                    int code = unit.read(n);
                    if (code == 0) {
                        row = unit.star >= 0 ? STAR + unit.star : table.find(unit);
                        code = allowed();
                    }
                    if (code == 0) code = checkData();
                    if (code == 0) {
                        if (row >= STAR) code = unit.asked ? askStar(row - STAR) : tellStar(row - STAR);
                        else code = unit.asked ? ask() : tell();
                    }
                    settle(time);
                    if (code == PENDS) hold = FOR_PENDING;
                    else if (code == 0 && unit.asked) hold = FOR_ROOM;
                    else conclude(code);
                }
            }
        }

        /** Looks at OPERATION's CONDITION, when what goes on at once has gone, and where it was IDLE before. */
        void settle(int time) {
            if (meter.idled) status.follow(0, 0);
            meter.idled = false;
            // any UNIT may have set what a layer waits for
            meter.flow(time);
            status.follow(0, meter.condition());
        }

        /** Goes on with what is HELD: whether it is so no more. */
        private boolean release() {
            if (hold == FOR_PENDING) {
                if (meter.pending()) return false;
                answer.wipe();
                if (row == READ) meter.tell(answer);
                if (row == STAR + OPC) answer.add('1');
                hold = FOR_ROOM;
            }
            boolean toPut = !muted && (hold == FOR_END || answer.length > 0);
            int lead = answered ? 1 : 0;
            if (toPut && output.space() < (hold == FOR_END ? 1 : answer.length + lead)) return false;
            if (toPut && hold == FOR_END) output.add(10);
            if (toPut && hold == FOR_ROOM) {
                if (answered) output.add(';');
                output.append(answer);
                answered = true;
            }
            hold = FREE;
            return true;
        }

        /** The UNIT that was read is done, or was none. */
        private void conclude(int code) {
            if (code < 0) {
                status.fail(code);
                passing = code > -200;
            }
            boolean end = unit.endsMessage();
            unit.drop();
            if (code != Unit.BLANK) {
                unitsDone++;
                status.look(meter.pending(), output.length > 0);
            }
            if (end) endMessage();
        }

        /** Passes bytes over: whether the MESSAGE ended. */
        private boolean passOver() {
            for (int k = 0; k < unit.input.length; k++) {
                int b = unit.input.bytes[k];
                if (b != 10 && b < END_TOLD) continue;
                unit.scanned = k + 1;
                unit.drop();
                endMessage();
                return true;
            }
            unit.wipe();
            return false;
        }

        /** Whether the COMMAND can be, here and so: 0, or the ERROR. */
        private int allowed() {
            if (row == SUFFIX_MISFIT) return -114;
            Command c = table.row(row);
            if (c == null || c.kind > kind || (c.forms & (unit.asked ? ASKED : TOLD)) == 0) return -113;
            if (row < STAR) unit.path = unit.words - 1;
            return 0;
        }

        /** Whether the data are as the COMMAND wants them: 0, or the ERROR. */
        private int checkData() {
            Command c = table.row(row);
            if (c == null) return -113;
            int wanted = c.parameters;
            int most = wanted;
            if (unit.asked && row != CLOSE) {
                boolean ranges = c.standIns && wanted == 1 && (c.sorts[0] == WHOLE || c.sorts[0] == REAL);
                wanted = 0;
                most = ranges ? 1 : 0;
            }
            if (unit.dataCount < wanted) return -109;
            if (unit.dataCount > most) return -108;
            int code = 0;
            for (int p = 0; p < unit.dataCount && code == 0; p++) code = sortError(c, p);
            for (int p = 0; p < unit.dataCount && code == 0; p++) code = boundError(c, p);
            return code == 0 && unit.asked && identified ? -440 : code;
        }

        private int sortError(Command c, int p) {
            Datum d = unit.data[p];
            int sort = c.sorts[p];
            if (sort >= LIST) return d.sort == sort ? 0 : -104;
            if (d.sort == NUMBER && sort != CHOICE && !unit.asked) {
                if (d.hasUnit && (sort != REAL || d.unitPower == Datum.NO_SUCH_UNIT)) return -131;
                given[p] = d.rounded(sort == REAL ? 3 + d.unitPower : 0);
                if (sort == TRUTH && given[p] != 0) given[p] = 1;
                return 0;
            }
            if (d.sort != WORD || !c.standIns) return -104;
            Word[] words = sort == CHOICE ? c.choices : sort == TRUTH ? table.truths : table.standIns;
            int at = sort == CHOICE ? 4 * p : 0;
            int found = -1;
            for (int k = 0; k < 4 && at + k < words.length && found < 0; k++) {
                Word w = words[at + k];
                if (w != null && w.fits(unit.s, d.from, d.length)) found = k;
            }
            if (found < 0) return -141;
            boolean ranges = sort == WHOLE || sort == REAL;
            given[p] = !ranges ? found : found == 0 ? c.least[p] : found == 1 ? c.greatest[p] : c.first[p];
            return 0;
        }

        private int boundError(Command c, int p) {
            Datum d = unit.data[p];
            switch (c.sorts[p]) {
                case WHOLE: case REAL:
                    return given[p] < c.least[p] || given[p] > c.greatest[p] ? -222 : 0;
                case LIST:
                    if (d.channelCount > LIST_ROOM) return -223;
                    for (int k = 0; k < d.channelCount; k++) {
                        if (d.channels[k] < 1 || d.channels[k] > 8) return -222;
                    }
                    return 0;
                case STRING:
                    if (d.string.length > TEXT_ROOM) return -222;
                    for (int k = 0; k < d.string.length; k++) {
                        if (d.string.bytes[k] < 32 || d.string.bytes[k] > 126) return -222;
                    }
                    return 0;
                default:
                    return 0;
            }
        }

        /** Does what a COMMAND of THE TABLE that is TOLD does: 0, or the ERROR. */
        private int tell() {
            Datum d = unit.data[0];
            switch (row) {
                case INITIATE:
                    if (meter.layer != IDLE) return -213;
                    meter.arm();
                    return 0;
                case ABORT:
                    meter.abort();
                    return 0;
                case DATA:
                    return meter.lanes[0].load(unit.s, d.from, d.length) ? 0 : -221;
                case CLOSE:
                    for (int k = 0; k < d.channelCount && k < LIST_ROOM; k++) meter.close(d.channels[k]);
                    return 0;
                case OPEN:
                    for (int k = 0; k < d.channelCount && k < LIST_ROOM; k++) meter.closed &= ~(1 << d.channels[k]);
                    return 0;
                case TEXT:
                    shown.wipe();
                    shown.append(d.string);
                    return 0;
                case PRESET:
                    status.preset();
                    return 0;
                default:
                    keepGiven();
                    return 0;
            }
        }

        private void keepGiven() {
            for (int p = 0; p < unit.dataCount && p < PARAMETER_MOST; p++) {
                set[Table.place(row, unit.suffix(), p)] = (int) given[p];
            }
            if (row == RANGE) set[AUTO] = 0;
            if (row == CONTINUOUS && given[0] == 1 && meter.layer == IDLE) meter.arm();
            if (row == FEED && given[0] == 1) meter.fed = 0;
        }

        /** Makes the answer of a COMMAND of THE TABLE that is ASKED: 0, PENDS, or the ERROR. */
        private int ask() {
            answer.wipe();
            switch (row) {
                case FETCH:
                    if (meter.made == 0) return -230;
                    meter.tell(answer);
                    return 0;
                case READ:
                    if (set[CONTINUOUS] == 1) return -221;
                    meter.abort();
                    meter.arm();
                    return PENDS;
                case FAIL:
                    answer.add(meter.fails ? '1' : '0');
                    return 0;
                case CLOSE:
                    answerChannels(unit.data[0]);
                    return 0;
                case TEXT:
                    answerText();
                    return 0;
                case OPERATION: case QUESTIONABLE:
                    int which = row == OPERATION ? 0 : 1;
                    answer.decimal(status.filterEvents[which], 0);
                    status.filterEvents[which] = 0;
                    return 0;
                case OPERATION + 1: case QUESTIONABLE + 1:
                    answer.decimal(status.conditions[row == OPERATION + 1 ? 0 : 1], 0);
                    return 0;
                case NEXT_ERROR:
                    answer.decimal(status.eldestError(), 0);
                    return 0;
                case ERROR_COUNT:
                    answer.decimal(status.errorCount, 0);
                    return 0;
                default:
                    answerParameters();
                    return 0;
            }
        }

        private void answerChannels(Datum d) {
            for (int k = 0; k < d.channelCount && k < LIST_ROOM; k++) {
                if (k > 0) answer.add(',');
                answer.add((meter.closed >> d.channels[k] & 1) != 0 ? '1' : '0');
            }
        }

        private void answerText() {
            answer.add('"');
            for (int k = 0; k < shown.length; k++) {
                answer.add(shown.bytes[k]);
                if (shown.bytes[k] == '"') answer.add('"');
            }
            answer.add('"');
        }

        private void answerParameters() {
            Command c = table.row(row);
            int n = c == null ? 0 : c.parameters;
            for (int p = 0; p < n; p++) {
                // a stand-in is answered in place of the value that is set
                long value = unit.dataCount > 0 ? given[p] : set[Table.place(row, unit.suffix(), p)];
                if (p > 0) answer.add(',');
                Word w = c.sorts[p] == CHOICE ? c.choices[4 * p + (int) (value & 3)] : null;
                for (int k = 0; w != null && k < w.brief; k++) answer.add(w.letters[k]);
                if (w == null) answer.decimal(value, c.sorts[p] == REAL ? 3 : 0);
            }
            if (n == 0) answer.add('0');
        }

        /** Does what a * COMMAND that is TOLD does: 0, PENDS, or the ERROR. */
        private int tellStar(int star) {
            int n = (int) given[0];
            switch (star) {
                case CLS:
                    status.wipe();
                    return 0;
                case ESE:
                    status.eventEnable = n;
                    return 0;
                case SRE:
                    status.serviceEnable = n & ~64;
                    return 0;
                case OPC:
                    status.completeWanted = true;
                    return 0;
                case WAI:
                    return PENDS;
                case TRG:
                    return meter.event() ? 0 : -211;
                case RST:
                    table.setFirst(set, false);
                    shown.wipe();
                    meter.closed = 0;
                    meter.abort();
                    status.completeWanted = false;
                    return 0;
                case SAV:
                    save(n);
                    return 0;
                default:
                    return recall(n);
            }
        }

        private void save(int n) {
            if (n < 0 || n > 2) return;
            System.arraycopy(set, 0, saved[n], 0, SETTINGS);
            saved[n][SETTINGS] = meter.closed;
            savedBits |= 1 << n;
        }

        private int recall(int n) {
            if (n < 0 || n > 2 || (savedBits >> n & 1) == 0) return -230;
            for (int k = 0; k < SETTINGS; k++) {
                if (!Table.stays(k)) set[k] = saved[n][k];
            }
            meter.closed = saved[n][SETTINGS];
            meter.abort();
            return 0;
        }

        /** Makes the answer of a * COMMAND that is ASKED: 0, or PENDS. */
        private int askStar(int star) {
            answer.wipe();
            switch (star) {
                case ESE:
                    answer.decimal(status.eventEnable, 0);
                    return 0;
                case ESR:
                    answer.decimal(status.events, 0);
                    status.events = 0;
                    return 0;
                case IDN:
                    identified = true;
                    answerName();
                    return 0;
                case OPC:
                    return PENDS;
                case SRE:
                    answer.decimal(status.serviceEnable, 0);
                    return 0;
                case STB:
                    answer.decimal(status.withMaster(output.length > 0), 0);
                    return 0;
                default:
                    // TST
                    answer.add('0');
                    return 0;
            }
        }

        private void answerName() {
            String name = "BENCH,";
            for (int k = 0; k < name.length(); k++) answer.add(name.charAt(k));
            answer.decimal(kind, 0);
            answer.add(',');
            answer.decimal(number, 0);
            answer.add(',');
            answer.add('0');
        }
    }
}
