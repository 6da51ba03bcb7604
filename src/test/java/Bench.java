/** What the tests share: a house, texts in place of feeds, and a count of answers that are not as due. */
final class Bench {
    private static int wrong = 0;
    private static int checks = 0;
    GaugeHouse house = new GaugeHouse();

    /** A house with INSTRUMENTS of these KINDS. */
    static Bench with(int... kinds) {
        Bench b = new Bench();
        for (int kind : kinds) b.house.instrument(kind);
        return b;
    }

    static void due(String what, long got, long want) {
        checks++;
        if (got == want) return;
        wrong++;
        System.out.println(what + " answered " + got + ", due is " + want);
    }

    static void due(String what, String got, String want) {
        checks++;
        if (got.equals(want)) return;
        wrong++;
        System.out.println(what + " answered \"" + shown(got) + "\", due is \"" + shown(want) + "\"");
    }

    private static String shown(String s) {
        return s.replace("\n", "\\n");
    }

    static void end() {
        System.out.println(wrong == 0 ? checks + " answers are as due" : wrong + " of " + checks + " answers are not as due");
        if (wrong != 0) System.exit(1);
    }

    /** A house of these KINDS with OWN COMMANDS. */
    static Bench owning(String text, int... kinds) {
        Bench b = new Bench();
        b.own(text);
        for (int kind : kinds) b.house.instrument(kind);
        return b;
    }

    /** A METER whose input is joined to SIGNAL 0, which is so many thousandths. */
    static Bench metering(int thousandths) {
        Bench b = with(1);
        b.house.signal(0, 0, thousandths, 0, 1);
        b.house.wire(0, 0, 0);
        return b;
    }

    /** Puts a text of characters 0 to 255 on the tape. */
    Bench tape(String s) {
        int at = 0;
        while (at < s.length()) {
            int n = Math.min(8, s.length() - at);
            long w = 0;
            for (int k = 0; k < n; k++) w = w << 8 | s.charAt(at + k) & 255;
            house.feed(w, n);
            at += n;
        }
        return this;
    }

    int own(String s) {
        tape(s);
        return house.own();
    }

    int header(String s) {
        tape(s);
        return house.header();
    }

    int test(String s) {
        tape(s);
        return house.test();
    }

    /** Sends a text with the END. */
    int tell(int i, String s) {
        tape(s);
        return house.send(i, true);
    }

    /** Sends a text without the END. */
    int part(int i, String s) {
        tape(s);
        return house.send(i, false);
    }

    /** Takes all that OUTPUT has. */
    String take(int i) {
        StringBuilder got = new StringBuilder();
        while (house.about(i, 2) > 0) got.append((char) house.take(i));
        return got.toString();
    }

    /** Sends a text with the END and takes what is answered. */
    String ask(int i, String s) {
        tell(i, s);
        return take(i);
    }

    /** What the calls that look tell of an INSTRUMENT, in some 120 calls; they may leave a FAULT of a LANE. */
    String stateOf(int i) {
        StringBuilder s = new StringBuilder("\n");
        for (int k = 0; k < 12; k++) s.append(house.about(i, k)).append(' ');
        for (int k = 0; k < 15; k++) s.append(house.register(i, k / 5, k % 5)).append(' ');
        int errors = house.about(i, 3);
        for (int k = 0; k < errors; k++) s.append(house.error(i, k)).append(' ');
        int commands = house.count(1);
        for (int c = 0; c < commands; c++) s.append(house.setting(i, c, 1, 0)).append(' ');
        for (int k = 0; k < 2; k++) s.append(house.reading(i, k)).append(' ');
        for (int l = 0; l < 3 && house.about(i, 0) > 0; l++) {
            int sort = house.measure(i, l, 0);
            int items = house.measure(i, l, 1);
            s.append(sort).append('*').append(items).append(' ');
            for (int k = 0; k < Math.min(3, items); k++) s.append(sort < 6 ? house.get(i, l, sort, k) : house.marked(i, l, k)).append(' ');
        }
        return s.toString();
    }

    /** What they tell of the house and of its latest RUN. */
    String runs() {
        StringBuilder s = new StringBuilder("\n");
        for (int k = 1; k < 7; k++) s.append(house.count(k)).append(' ');
        for (int k = 0; k < 4; k++) s.append(house.ran(k)).append(' ');
        for (int k = 0; k < 2; k++) s.append(house.result(k, 0)).append('@').append(house.result(k, 1)).append(' ');
        return s.toString();
    }

    /** All ERRORS, parted by blanks; they are gone then. */
    String errors(int i) {
        StringBuilder got = new StringBuilder();
        for (int k = 0; k < house.about(i, 3); k++) got.append(k > 0 ? " " : "").append(house.error(i, k));
        tell(i, "*CLS");
        return got.toString();
    }

    /** The ERRORS that a message alone makes. */
    String errorsOf(int i, String s) {
        house.clear(i);
        tell(i, "*CLS");
        tell(i, s);
        String got = errors(i);
        house.clear(i);
        return got;
    }
}
