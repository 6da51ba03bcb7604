/** What the tests share: a house, texts in place of feeds, and a count of answers that are not as due. */
final class Bench {
    private static int wrong = 0;
    private static int checks = 0;
    GaugeHouse house = new GaugeHouse();

    /** A house with INSTRUMENTS of these KINDS. */
    static Bench with(int... kinds) {
        Bench b = new Bench();
        for (int kind : kinds) b.house.instrument(kind);
        return b;
    }

    static void due(String what, long got, long want) {
        checks++;
        if (got == want) return;
        wrong++;
        System.out.println(what + " answered " + got + ", due is " + want);
    }

    static void due(String what, String got, String want) {
        checks++;
        if (got.equals(want)) return;
        wrong++;
        System.out.println(what + " answered \"" + shown(got) + "\", due is \"" + shown(want) + "\"");
    }

    private static String shown(String s) {
        return s.replace("\n", "\\n");
    }

    static void end() {
        System.out.println(wrong == 0 ? checks + " answers are as due" : wrong + " of " + checks + " answers are not as due");
        if (wrong != 0) System.exit(1);
    }

    /** Puts a text of characters 0 to 255 on the tape. */
    Bench tape(String s) {
        int at = 0;
        while (at < s.length()) {
            int n = Math.min(8, s.length() - at);
            long w = 0;
            for (int k = 0; k < n; k++) w = w << 8 | s.charAt(at + k) & 255;
            house.feed(w, n);
            at += n;
        }
        return this;
    }

    int own(String s) {
        tape(s);
        return house.own();
    }

    int header(String s) {
        tape(s);
        return house.header();
    }

    int test(String s) {
        tape(s);
        return house.test();
    }

    /** Sends a text with the END. */
    int tell(int i, String s) {
        tape(s);
        return house.send(i, true);
    }

    /** Sends a text without the END. */
    int part(int i, String s) {
        tape(s);
        return house.send(i, false);
    }

    /** Takes all that OUTPUT has. */
    String take(int i) {
        StringBuilder got = new StringBuilder();
        while (house.about(i, 2) > 0) got.append((char) house.take(i));
        return got.toString();
    }

    /** Sends a text with the END and takes what is answered. */
    String ask(int i, String s) {
        tell(i, s);
        return take(i);
    }

    /** All ERRORS, parted by blanks; they are gone then. */
    String errors(int i) {
        StringBuilder got = new StringBuilder();
        for (int k = 0; k < house.about(i, 3); k++) got.append(k > 0 ? " " : "").append(house.error(i, k));
        tell(i, "*CLS");
        return got.toString();
    }

    /** The ERRORS that a message alone makes. */
    String errorsOf(int i, String s) {
        house.clear(i);
        tell(i, "*CLS");
        tell(i, s);
        String got = errors(i);
        house.clear(i);
        return got;
    }
}
