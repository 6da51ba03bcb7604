import java.util.function.ToLongFunction;

/** "they change nothing": each call that is refused, or has a FAULT, on a house in the midst of its work, beside one that was not called. */
public final class RefusalBoundsTest {
    private static final int BAD = GaugeHouse.BAD, STATE = GaugeHouse.STATE, FULL = GaugeHouse.FULL;
    private static final long NONE = GaugeHouse.NONE;
    private static final int[] NO_INSTRUMENT = {-1, 4, Integer.MIN_VALUE, Integer.MAX_VALUE};

    public static void main(String[] args) {
        instruments();
        whats();
        triggersAndTicks();
        signals();
        lanes();
        faults();
        texts();
        readsOfTheTape();
        looksChangeNothing();
        Bench.end();
    }

    /** A PLAIN one with answers and half a UNIT, a METER that measures, a SCANNER that is HELD, another METER; LANES, TESTS, a RUN. */
    private static Bench busy() {
        Bench b = Bench.owning(":A#2 whole 0 9 5;", 0, 1, 2, 1);
        b.house.signal(0, 2, 100, 7, 9);
        b.house.wire(1, 0, 0);
        b.test("ask 0 '*OPC?';try{raise 7;}fail 7{wait 3;}last{}");
        b.house.run(0, 50);
        b.tell(0, "*SRE 20;FOO");
        b.part(0, "*TST?;*ESE 3;*ES");
        b.house.lane(1, 0, 3, 3);
        b.house.put(1, 0, 3, 1, 77);
        b.house.lane(1, 1, 6, 2);
        b.house.lane(1, 2, 7, 2);
        b.tell(1, "TRAC:FEED ON;:TRIG:COUN 3;:CALC:LIM:STAT ON;:INIT");
        b.house.tick(1);
        b.house.mark(1, 1, 0, 0);
        b.tell(2, "ROUT:CLOS (@3);:APER 9;:READ?;*TST?");
        b.house.take(3);
        return b;
    }

    private static void refused(String what, ToLongFunction<GaugeHouse> call, long due) {
        Bench called = busy();
        Bench.due(what, call.applyAsLong(called.house), due);
        Bench other = busy();
        Bench.due(what + " changes nothing of the first half", part(called, 0), part(other, 0));
        Bench once = busy();
        call.applyAsLong(once.house);
        Bench.due(what + " changes nothing of the second half", part(once, 1), part(busy(), 1));
    }

    /** Half of the state, as all of it would be more calls than an object is promised for. */
    private static String part(Bench b, int half) {
        StringBuilder s = new StringBuilder();
        s.append(b.house.count(0)).append(' ').append(b.house.count(7)).append(' ');
        return s.append(b.stateOf(2 * half)).append(b.stateOf(2 * half + 1)).append(b.runs()).toString();
    }

    private static void instruments() {
        for (int i : NO_INSTRUMENT) {
            refused("take(" + i + ")", x -> x.take(i), BAD);
            refused("clear(" + i + ")", x -> x.clear(i), BAD);
            refused("poll(" + i + ")", x -> x.poll(i), BAD);
            refused("trigger(" + i + ")", x -> x.trigger(i), BAD);
            refused("wire(" + i + ", 0, 0)", x -> x.wire(i, 0, 0), BAD);
            refused("about(" + i + ", 0)", x -> x.about(i, 0), BAD);
            refused("register(" + i + ", 0, 0)", x -> x.register(i, 0, 0), BAD);
            refused("error(" + i + ", 0)", x -> x.error(i, 0), BAD);
            refused("setting(" + i + ", 26, 1, 0)", x -> x.setting(i, 26, 1, 0), NONE);
            refused("reading(" + i + ", 0)", x -> x.reading(i, 0), NONE);
            refused("lane(" + i + ", 0, 1, 1)", x -> x.lane(i, 0, 1, 1), BAD);
            refused("share(" + i + ")", x -> share(x, i), -1);
        }
        refused("a fifth INSTRUMENT", x -> x.instrument(0), FULL);
        refused("instrument(3)", x -> x.instrument(3), BAD);
        refused("instrument(-1)", x -> x.instrument(-1), BAD);
    }

    private static long share(GaugeHouse x, int i) {
        try {
            return x.share(i);
        } catch (IllegalArgumentException e) {
            return -1;
        } catch (ArithmeticException e) {
            return -2;
        }
    }

    private static void whats() {
        int[] far = {-1, 12, Integer.MIN_VALUE, Integer.MAX_VALUE};
        for (int what : far) {
            refused("about(1, " + what + ")", x -> x.about(1, what), BAD);
            refused("register(1, " + what + ", 0)", x -> x.register(1, what, 0), BAD);
            refused("register(1, 0, " + what + ")", x -> x.register(1, 0, what), BAD);
            refused("error(0, " + what + ")", x -> x.error(0, what), BAD);
            refused("count(" + what + ")", x -> x.count(what), BAD);
            refused("ran(" + what + ")", x -> x.ran(what), BAD);
            refused("result(0, " + what + ")", x -> x.result(0, what), NONE);
            refused("result(" + what + ", 0)", x -> x.result(what, 0), NONE);
            refused("command(" + what + ", 9)", x -> x.command(what, 9), BAD);
            refused("measure(1, 0, " + what + ")", x -> x.measure(1, 0, what), BAD);
            refused("reading(1, " + what + ")", x -> x.reading(1, what), NONE);
            refused("run(" + what + ", 5)", x -> x.run(what, 5), BAD);
        }
        for (int what = 0; what < 12; what++) {
            int w = what;
            refused("about(1, " + w + ") is no refusal, and", x -> x.about(1, w) >= 0 ? 1 : 0, 1);
        }
        refused("share of none that FAILED", x -> share(x, 3), -2);
        refused("share of a PLAIN one", x -> share(x, 0), -1);
    }

    private static void triggersAndTicks() {
        int[] bad = {0, 65, -1, Integer.MIN_VALUE, Integer.MAX_VALUE};
        for (int n : bad) refused("tick(" + n + ")", x -> x.tick(n), BAD);
        refused("trigger of a PLAIN one", x -> x.trigger(0), BAD);
        int[] steps = {0, 101, -1, Integer.MIN_VALUE, Integer.MAX_VALUE};
        for (int n : steps) refused("run(0, " + n + ")", x -> x.run(0, n), BAD);
        refused("run(1, 5)", x -> x.run(1, 5), BAD);
    }

    private static void signals() {
        int[][] bad = {{-1, 0, 0, 0, 1}, {6, 0, 0, 0, 1}, {0, -1, 0, 0, 1}, {0, 5, 0, 0, 1}, {0, 0, 1000000001, 0, 1}, {0, 0, -1000000001, 0, 1}, {0, 0, 0, 1000000001, 1}, {0, 0, 0, -1000000001, 1},
            {0, 0, 0, 0, 0}, {0, 0, 0, 0, 1001}};
        for (int[] s : bad) {
            Bench called = busy();
            Bench.due("signal", called.house.signal(s[0], s[1], s[2], s[3], s[4]), BAD);
            Bench other = busy();
            called.house.tick(1);
            other.house.tick(1);
            Bench.due("the READING is as it would have been", called.house.reading(1, 0), other.house.reading(1, 0));
        }
        int[][] wires = {{0, 0, 1}, {1, 1, 1}, {1, -1, 1}, {1, 0, 6}, {1, 0, -2}, {2, 0, 1}, {2, 9, 1}};
        for (int[] w : wires) {
            Bench b = busy();
            Bench.due("wire", b.house.wire(w[0], w[1], w[2]), BAD);
            Bench.due("it stays", b.house.wire(1, 0, 0), 0);
            for (int c = 1; c <= 8; c++) Bench.due("it stays", b.house.wire(2, c, 0), -1);
        }
    }

    private static void lanes() {
        int[] noLane = {-1, 3, Integer.MIN_VALUE, Integer.MAX_VALUE};
        for (int l : noLane) {
            refused("lane(1, " + l + ", 1, 1)", x -> x.lane(1, l, 1, 1), BAD);
            refused("put(1, " + l + ", 3, 0, 5)", x -> x.put(1, l, 3, 0, 5), BAD);
            refused("get(1, " + l + ", 3, 0)", x -> x.get(1, l, 3, 0), NONE);
            refused("mark(1, " + l + ", 0, -1)", x -> x.mark(1, l, 0, -1), BAD);
            refused("marked(1, " + l + ", 0)", x -> x.marked(1, l, 0), NONE);
            refused("copy from " + l, x -> x.copy(1, l, 0, 1, 0, 0, 1), BAD);
            refused("copy to " + l, x -> x.copy(1, 0, 0, 1, l, 0, 1), BAD);
            refused("measure(1, " + l + ", 0)", x -> x.measure(1, l, 0), BAD);
        }
        int[] noSort = {-1, 8, Integer.MIN_VALUE, Integer.MAX_VALUE};
        for (int s : noSort) {
            refused("lane(1, 0, " + s + ", 1)", x -> x.lane(1, 0, s, 1), BAD);
            refused("put(1, 0, " + s + ", 0, 5)", x -> x.put(1, 0, s, 0, 5), BAD);
            refused("get(1, 0, " + s + ", 0)", x -> x.get(1, 0, s, 0), NONE);
        }
        refused("lane of 41", x -> x.lane(1, 0, 1, 41), BAD);
        refused("put as 6", x -> x.put(1, 1, 6, 0, 5), BAD);
        refused("put as 0", x -> x.put(1, 0, 0, 0, 5), BAD);
        refused("mark of a READING to come", x -> x.mark(1, 1, 0, 1), BAD);
        refused("mark -2", x -> x.mark(1, 1, 0, -2), BAD);
        refused("lane of a PLAIN one", x -> x.lane(0, 0, 1, 1), BAD);
    }

    /** What has a FAULT changes the latest FAULT alone; so the other house has the same FAULT, by a call on another LANE. */
    private static void faulted(String what, ToLongFunction<GaugeHouse> call, ToLongFunction<GaugeHouse> like, long due) {
        Bench called = busy();
        Bench other = busy();
        Bench.due(what, call.applyAsLong(called.house), due);
        like.applyAsLong(other.house);
        Bench.due(what + " changes nothing", part(called, 0), part(other, 0));
    }

    private static void faults() {
        ToLongFunction<GaugeHouse> index = x -> x.get(1, 0, 3, 3);
        ToLongFunction<GaugeHouse> cast = x -> x.get(1, 0, 4, 0);
        ToLongFunction<GaugeHouse> missing = x -> x.get(3, 0, 1, 0);
        ToLongFunction<GaugeHouse> store = x -> x.copy(1, 0, 0, 1, 1, 0, 0);
        faulted("put at 3 of 3", x -> x.put(1, 0, 3, 3, 5), index, -13);
        faulted("put at -1", x -> x.put(1, 0, 3, -1, 5), index, -13);
        faulted("put of another SORT", x -> x.put(1, 0, 2, 0, 5), cast, -12);
        faulted("put into nothing", x -> x.put(3, 0, 2, 0, 5), missing, -11);
        faulted("mark at 2 of 2", x -> x.mark(1, 1, 2, -1), index, -13);
        faulted("mark of ints", x -> x.mark(1, 0, 0, -1), cast, -12);
        faulted("mark of nothing", x -> x.mark(3, 0, 0, -1), missing, -11);
        faulted("mark of what is not LATE", x -> x.mark(1, 2, 0, 0), store, -15);
        faulted("copy beyond", x -> x.copy(1, 0, 1, 1, 0, 0, 3), index, -13);
        faulted("copy of unlike kinds", x -> x.copy(1, 0, 0, 1, 1, 0, 2), store, -15);
        faulted("copy of nothing", x -> x.copy(3, 0, 0, 1, 0, 0, 1), missing, -11);
        faulted("copy of what is not LATE", x -> x.copy(1, 1, 0, 1, 2, 0, 2), store, -15);
        faulted("lane of SIZE -1", x -> x.lane(1, 0, 3, -1), x -> x.lane(1, 1, 6, -1), -16);
    }

    private static long tape(GaugeHouse x, String s) {
        for (int k = 0; k < s.length(); k++) x.feed(s.charAt(k), 1);
        return x.count(0);
    }

    private static void texts() {
        refused("own with INSTRUMENTS", x -> tape(x, ":Q;") + x.own(), 3 + STATE);
        refused("a HEADER that is none", x -> tape(x, "A::B") + x.header(), 4 + BAD);
        refused("a HEADER", x -> tape(x, "A2") + x.header(), 2 + 37);
        refused("a TEST with a FAULT", x -> tape(x, "wait 0;") + x.test(), 7 - 15);
        refused("send to none", x -> tape(x, "*CLS") + x.send(4, true), 4 + BAD);
        refused("send of nothing", x -> x.send(0, true), 0);
        refused("feed of 0", x -> x.feed(65, 0), BAD);
        refused("feed of 9", x -> x.feed(65, 9), BAD);
        Bench b = busy();
        for (int k = 0; k < 5; k++) b.test("");
        String before = b.runs();
        Bench.due("a seventh TEST", b.test("raise 5;"), FULL);
        Bench.due("TESTS", b.house.count(4), 6);
        Bench.due("the latest RUN", b.runs(), before);
    }

    /** "THE TAPE, which what reads it uses up, refused or not": what does not read it leaves it. */
    private static void readsOfTheTape() {
        Bench b = busy();
        b.house.feed(0x2a4553453520L, 6);
        int on = b.house.count(0);
        b.house.take(0);
        b.house.tick(1);
        b.house.run(0, 5);
        b.house.clear(3);
        b.house.trigger(1);
        b.house.lane(3, 0, 1, 1);
        b.house.instrument(0);
        b.house.poll(0);
        Bench.due("bytes on THE TAPE", b.house.count(0), on);
        b.house.send(9, true);
        Bench.due("send uses it up", b.house.count(0), 0);
    }

    /** Calls that look change nothing; but poll, which takes SERVICE away. */
    private static void looksChangeNothing() {
        refused("service()", x -> x.service(), 1);
        refused("poll of one that asks for none", x -> x.poll(3), 4);
        refused("error(0, 0)", x -> x.error(0, 0), -113);
        refused("setting(1, 6, 1, 0)", x -> x.setting(1, 6, 1, 0), 3);
        refused("measure(1, 0, 1)", x -> x.measure(1, 0, 1), 3);
        refused("marked(1, 1, 0)", x -> x.marked(1, 1, 0), 4);
        refused("get(1, 0, 3, 1)", x -> x.get(1, 0, 3, 1), 77);
        refused("result(0, 0)", x -> x.result(0, 0), 1000);
    }
}
