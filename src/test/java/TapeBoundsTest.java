/** The boundary cases of the terms' first lines and of promises 1, 2: THE TAPE, and which refusal comes first. */
public final class TapeBoundsTest {
    private static final int BAD = GaugeHouse.BAD, STATE = GaugeHouse.STATE, FULL = GaugeHouse.FULL;

    public static void main(String[] args) {
        bytesOfAFeed();
        whichBytes();
        eightHundred();
        refusedFeedChangesNothing();
        placesUpToTheEnd();
        allOfATapeIsSent();
        usedUpRefusedOrNot();
        orderOfRefusals();
        newObject();
        fiveHundredAndTwelveCalls();
        Bench.end();
    }

    /** "BAD: n is not 1 .. 8" */
    private static void bytesOfAFeed() {
        int[] bad = {0, 9, -1, 16, Integer.MIN_VALUE, Integer.MAX_VALUE};
        GaugeHouse x = new GaugeHouse();
        for (int n : bad) Bench.due("feed of " + n, x.feed(0x4142434445464748L, n), BAD);
        Bench.due("nothing came", x.count(0), 0);
        int sum = 0;
        for (int n = 1; n <= 8; n++) {
            sum += n;
            Bench.due("feed of " + n, x.feed(0, n), sum);
            Bench.due("bytes on THE TAPE", x.count(0), sum);
        }
    }

    /** "The lowest n bytes of w, the highest of them first" */
    private static void whichBytes() {
        long w = 0xfe807f0a00ff3b81L;
        for (int n = 1; n <= 8; n++) {
            Bench b = Bench.with(1);
            b.house.lane(0, 0, 1, n);
            b.tape("TRAC:DATA #1" + n);
            b.house.feed(w, n);
            b.house.send(0, true);
            Bench.due("no ERROR", b.house.about(0, 3), 0);
            for (int k = 0; k < n; k++) Bench.due("byte " + k + " of " + n, b.house.get(0, 0, 1, k), (byte) (w >> 8 * (n - 1 - k)));
        }
        Bench b = new Bench();
        b.house.feed(0x5858585846455443L, 4);
        Bench.due("what is above the lowest bytes does not come", b.house.header(), 9);
    }

    private static GaugeHouse withTape(int n) {
        Bench b = new Bench();
        b.tape(" ".repeat(n));
        Bench.due("bytes on THE TAPE", b.house.count(0), n);
        return b.house;
    }

    /** "THE TAPE has 800 bytes at most." "FULL" */
    private static void eightHundred() {
        for (int n = 1; n <= 8; n++) {
            Bench.due("feed of " + n + " up to 800", withTape(800 - n).feed(0, n), 800);
            GaugeHouse x = withTape(801 - n);
            Bench.due("feed of " + n + " up to 801", x.feed(0, n), FULL);
            Bench.due("it stays", x.count(0), 801 - n);
        }
    }

    private static void refusedFeedChangesNothing() {
        Bench b = new Bench();
        b.tape(" ".repeat(795) + ":QZ;");
        Bench.due("FULL", b.house.feed(0x58, 2), FULL);
        Bench.due("BAD", b.house.feed(0x58, 9), BAD);
        Bench.due("what is on THE TAPE is as it was", b.house.own(), 38);
        Bench.due("it is used up", b.house.count(0), 0);
        Bench.due("there is room then", b.house.feed(0, 8), 8);
    }

    private static void placesUpToTheEnd() {
        Bench b = new Bench();
        Bench.due("800 blanks", b.own(" ".repeat(800)), 37);
        Bench.due("a FAULT at the last byte", b.own(" ".repeat(799) + "$"), -10 - 799);
        Bench.due("a text that ends too early", b.own(" ".repeat(799) + ":"), -10 - 800);
        Bench c = new Bench();
        Bench.due("800 blanks", c.test(" ".repeat(800)), 0);
        Bench.due("a FAULT at the last byte", c.test(" ".repeat(799) + "}"), -10 - 799);
        Bench.due("a text that ends too early", c.test(" ".repeat(796) + "wait"), -10 - 800);
        Bench.due("a TEST that ends with the last byte", c.test(" ".repeat(793) + "wait 5;"), 1);
        Bench d = new Bench();
        Bench.due("a HEADER of 800 bytes", d.header("A:".repeat(399) + "AB"), -5);
        Bench.due("one that ends with a :", d.header("A:".repeat(400)), BAD);
    }

    private static void allOfATapeIsSent() {
        Bench b = Bench.with(0);
        Bench.due("800 bytes come", b.tell(0, "*ESE 3;".repeat(114) + ";;"), 800);
        Bench.due("UNITS", b.house.count(5), 114);
        Bench.due("no ERROR", b.house.about(0, 3), 0);
    }

    /** "THE TAPE, which what reads it uses up, refused or not" */
    private static void usedUpRefusedOrNot() {
        Bench b = new Bench();
        Bench.due("no HEADER", b.header("FETC "), BAD);
        Bench.due("used up", b.house.count(0), 0);
        Bench.due("a FAULT", b.own(":A"), -12);
        Bench.due("used up", b.house.count(0), 0);
        Bench.due("no INSTRUMENT", b.tell(0, "*CLS"), BAD);
        Bench.due("used up", b.house.count(0), 0);
        for (int k = 0; k < 6; k++) b.test("");
        Bench.due("FULL", b.test("wait 1;"), FULL);
        Bench.due("used up", b.house.count(0), 0);
        b.house.instrument(0);
        Bench.due("STATE", b.own(":A;"), STATE);
        Bench.due("used up", b.house.count(0), 0);
        b.tape("*ESE 4");
        Bench.due("what does not read it", b.house.instrument(9), BAD);
        Bench.due("nor this", b.house.take(7), BAD);
        Bench.due("leaves it", b.house.count(0), 6);
        b.house.send(0, true);
        Bench.due("it was there", b.house.register(0, 2, 1), 4);
    }

    /** "Of several refusals the first one here: BAD, STATE, FULL" */
    private static void orderOfRefusals() {
        GaugeHouse x = withTape(800);
        Bench.due("BAD ahead of FULL", x.feed(0, 0), BAD);
        Bench.due("BAD ahead of FULL", x.feed(0, 9), BAD);
        Bench.due("FULL", x.feed(0, 1), FULL);
        Bench b = Bench.with(0, 1, 2, 0);
        Bench.due("BAD ahead of FULL", b.house.instrument(3), BAD);
        Bench.due("BAD ahead of FULL", b.house.instrument(-1), BAD);
        Bench.due("FULL", b.house.instrument(2), FULL);
        Bench.due("STATE, also where the text has a FAULT", b.own("$"), STATE);
        Bench.due("STATE, also of no text", b.own(""), STATE);
    }

    /** "No INSTRUMENTS, no OWN COMMANDS, no TESTS; TIME 0." */
    private static void newObject() {
        GaugeHouse x = new GaugeHouse();
        int[] due = {0, 37, 0, 0, 0, 0, 0, 0};
        for (int k = 0; k < 8; k++) Bench.due("count(" + k + ")", x.count(k), due[k]);
        int[] bad = {-1, 8, Integer.MIN_VALUE, Integer.MAX_VALUE};
        for (int k : bad) Bench.due("count(" + k + ")", x.count(k), BAD);
        for (int k = 0; k < 4; k++) Bench.due("ran(" + k + ")", x.ran(k), 0);
        Bench.due("result(0, 0)", x.result(0, 0), GaugeHouse.NONE);
        Bench.due("service()", x.service(), 0);
        Bench.due("about(0, 0)", x.about(0, 0), BAD);
        Bench.due("run(0, 1)", x.run(0, 1), BAD);
        Bench.due("command(36, 0)", x.command(36, 0), 3);
        Bench.due("command(37, 0)", x.command(37, 0), BAD);
        GaugeHouse y = new GaugeHouse();
        y.feed(0, 5);
        y.instrument(1);
        y.tick(9);
        Bench.due("of another object nothing comes", x.count(0) + x.count(2) + x.count(3), 0);
    }

    /** "An object is used for at most 512 calls after it has been made" */
    private static void fiveHundredAndTwelveCalls() {
        Bench b = Bench.with(1);
        b.tell(0, "INIT:CONT 1");
        int calls = 4;
        for (; calls < 509; calls++) Bench.due("TIME", b.house.tick(64), 64 * (calls - 3));
        Bench.due("READINGS at the 510th", b.house.about(0, 7), 64 * 505);
        Bench.due("the eldest at the 511th", b.house.reading(0, 39), 0x7ff8000000000000L);
        Bench.due("no more at the 512th", b.house.reading(0, 40), GaugeHouse.NONE);
        GaugeHouse x = new GaugeHouse();
        for (int k = 0; k < 511; k++) x.feed(0, 8);
        Bench.due("THE TAPE at the 512th", x.feed(0, 1), FULL);
    }
}
