/** The boundary cases of part 6 and of promises 21 to 27: items, SORTS, FAULTS in their order, MARKS, FEED, BLOCKS. */
public final class LaneBoundsTest {
    private static final int BAD = GaugeHouse.BAD;
    private static final long NONE = GaugeHouse.NONE;
    private static final int[] FAR = {Integer.MIN_VALUE, Integer.MAX_VALUE};

    public static void main(String[] args) {
        noSuchLanes();
        sortsAndSizes();
        sizeFaults();
        nothing();
        itemsOfEachSize();
        castAheadOfIndex();
        refusedSorts();
        wrapAround();
        bitsOfFloats();
        bitsOfDoubles();
        marksOfKeptReadings();
        lateMarks();
        faultsOfMark();
        faultsOfMarked();
        rangesOfCopies();
        faultsOfCopyInOrder();
        copiesOntoThemselves();
        copiesOfLateMarks();
        measures();
        means();
        fedItems();
        fedCasts();
        blocksOfJustAsManyBytes();
        latestFault();
        Bench.end();
    }

    private static void fault(String what, long got, int f) {
        Bench.due(what, got, f == 0 ? 1 : -10 - f);
    }

    /** "LANES, 3 of each METER"; "l 0 .. 2" */
    private static void noSuchLanes() {
        Bench b = Bench.with(0, 1, 2);
        GaugeHouse x = b.house;
        int[][] none = {{0, 0}, {-1, 0}, {3, 0}, {1, -1}, {1, 3}, {2, 3}, {FAR[0], 0}, {FAR[1], 0}, {1, FAR[0]}, {1, FAR[1]}};
        for (int[] p : none) {
            Bench.due("lane", x.lane(p[0], p[1], 1, 1), BAD);
            Bench.due("lane of nothing", x.lane(p[0], p[1], 0, 0), BAD);
            Bench.due("lane of a SIZE below 0", x.lane(p[0], p[1], 1, -1), BAD);
            Bench.due("put", x.put(p[0], p[1], 1, 0, 0), BAD);
            Bench.due("get", x.get(p[0], p[1], 1, 0), NONE);
            Bench.due("mark", x.mark(p[0], p[1], 0, -1), BAD);
            Bench.due("marked", x.marked(p[0], p[1], 0), NONE);
            Bench.due("copy from it", x.copy(p[0], p[1], 0, 1, 0, 0, 0), BAD);
            Bench.due("copy into it", x.copy(1, 0, 0, p[0], p[1], 0, 0), BAD);
            for (int what = 0; what < 6; what++) Bench.due("measure", x.measure(p[0], p[1], what), BAD);
        }
        Bench.due("no FAULT", x.count(7), 0);
        for (int i = 1; i <= 2; i++) {
            for (int l = 0; l < 3; l++) Bench.due("nothing at first", x.measure(i, l, 0) + x.measure(i, l, 1), 0);
            for (int l = 0; l < 3; l++) Bench.due("lane", x.lane(i, l, 1, 10 * i + l), 1);
        }
        for (int i = 1; i <= 2; i++) {
            for (int l = 0; l < 3; l++) Bench.due("items", x.measure(i, l, 1), 10 * i + l);
        }
    }

    /** "up to 40 items, 0, nothing at first"; "BAD: also n above 40" */
    private static void sortsAndSizes() {
        int[] sizes = {0, 1, 39, 40};
        for (int sort = 1; sort <= 7; sort++) {
            GaugeHouse x = Bench.with(1).house;
            for (int n : sizes) {
                Bench.due("lane", x.lane(0, 0, sort, n), 1);
                Bench.due("SORT", x.measure(0, 0, 0), sort);
                Bench.due("items", x.measure(0, 0, 1), n);
                for (int k = 0; k < n; k++) Bench.due("at first", sort < 6 ? x.get(0, 0, sort, k) : x.marked(0, 0, k), sort < 6 ? 0 : NONE);
            }
            Bench.due("41", x.lane(0, 0, sort, 41), BAD);
            Bench.due("the most", x.lane(0, 0, sort, FAR[1]), BAD);
            Bench.due("it stays", x.measure(0, 0, 1), 40);
        }
        GaugeHouse x = Bench.with(1).house;
        x.lane(0, 0, 3, 2);
        x.put(0, 0, 3, 1, 5);
        int[] sorts = {-1, 8, FAR[0], FAR[1]};
        for (int s : sorts) {
            Bench.due("SORT " + s, x.lane(0, 0, s, 1), BAD);
            Bench.due("BAD ahead of the FAULT", x.lane(0, 0, s, -1), BAD);
        }
        Bench.due("it stays", x.get(0, 0, 3, 1), 5);
        x.lane(0, 0, 3, 2);
        Bench.due("0 anew", x.get(0, 0, 3, 1), 0);
    }

    /** "FAULT 6" */
    private static void sizeFaults() {
        GaugeHouse x = Bench.with(1).house;
        x.lane(0, 0, 3, 2);
        x.put(0, 0, 3, 1, 5);
        int[] below = {-1, -2, -41, FAR[0]};
        for (int sort = 1; sort <= 7; sort++) {
            for (int n : below) Bench.due("SIZE " + n, x.lane(0, 0, sort, n), -16);
        }
        Bench.due("FAULT", x.count(7), 6);
        Bench.due("it stays", x.measure(0, 0, 1), 2);
        Bench.due("it stays", x.get(0, 0, 3, 1), 5);
    }

    /** "0: nothing; n is not looked at" */
    private static void nothing() {
        GaugeHouse x = Bench.with(1).house;
        int[] n = {0, 1, 40, 41, -1, FAR[0], FAR[1]};
        for (int v : n) {
            x.lane(0, 1, 2, 3);
            Bench.due("nothing", x.lane(0, 1, 0, v), 1);
            Bench.due("SORT", x.measure(0, 1, 0), 0);
            Bench.due("items", x.measure(0, 1, 1), 0);
            Bench.due("put", x.put(0, 1, 2, 0, 1), -11);
        }
    }

    /** "FAULTS 2, 1, 3" of put and get */
    private static void itemsOfEachSize() {
        int[] sizes = {0, 1, 2, 40};
        for (int sort = 1; sort <= 5; sort++) {
            GaugeHouse x = Bench.with(1).house;
            for (int n : sizes) {
                x.lane(0, 0, sort, n);
                int[] beyond = {-1, n, n + 1, FAR[0], FAR[1]};
                for (int k : beyond) {
                    fault("put " + k + " of " + n, x.put(0, 0, sort, k, 7), 3);
                    x.put(0, 1, sort, 0, 0);
                    Bench.due("get " + k + " of " + n, x.get(0, 0, sort, k), NONE);
                    Bench.due("FAULT of get", x.count(7), 3);
                }
                if (n == 0) continue;
                int[] within = {0, n - 1};
                for (int k : within) {
                    fault("put " + k + " of " + n, x.put(0, 0, sort, k, 7 + k), 0);
                    Bench.due("get " + k + " of " + n, x.get(0, 0, sort, k), 7 + k);
                }
            }
        }
    }

    private static void castAheadOfIndex() {
        for (int is = 0; is <= 7; is++) {
            GaugeHouse x = Bench.with(1).house;
            x.lane(0, 0, is, 2);
            for (int to = 1; to <= 5; to++) {
                int f = is == 0 ? 1 : is == to ? 0 : 2;
                fault("put of " + is + " as " + to, x.put(0, 0, to, 1, 0), f);
                fault("put beyond of " + is + " as " + to, x.put(0, 0, to, 2, 0), f == 0 ? 3 : f);
                Bench.due("get of " + is + " as " + to, x.get(0, 0, to, 1), f == 0 ? 0 : NONE);
                if (f != 0) Bench.due("FAULT of get", x.count(7), f);
                Bench.due("get beyond of " + is + " as " + to, x.get(0, 0, to, 2), NONE);
                Bench.due("FAULT of get beyond", x.count(7), f == 0 ? 3 : f);
            }
            int f = is == 0 ? 1 : is >= 6 ? 0 : 2;
            fault("mark of " + is, x.mark(0, 0, 1, -1), f);
            fault("mark beyond of " + is, x.mark(0, 0, 2, -1), f == 0 ? 3 : f);
            Bench.due("marked of " + is, x.marked(0, 0, 1), NONE);
            Bench.due("FAULT of marked", x.count(7), f == 0 ? 1 : f);
            Bench.due("marked beyond of " + is, x.marked(0, 0, -1), NONE);
            Bench.due("FAULT of marked beyond", x.count(7), f == 0 ? 3 : f);
        }
    }

    /** "CAST to a SORT 1 .. 5"; "BAD" */
    private static void refusedSorts() {
        GaugeHouse x = Bench.with(1).house;
        int[] sorts = {0, 6, 7, 8, -1, FAR[0], FAR[1]};
        for (int is = 0; is <= 7; is += 6) {
            x.lane(0, 0, is, 2);
            for (int s : sorts) {
                Bench.due("put as " + s, x.put(0, 0, s, 0, 0), BAD);
                Bench.due("get as " + s, x.get(0, 0, s, 0), NONE);
                Bench.due("put beyond as " + s, x.put(0, 0, s, 9, 0), BAD);
            }
        }
        Bench.due("no FAULT", x.count(7), 0);
    }

    /** "Item k .. becomes v as Java casts it" */
    private static void wrapAround() {
        GaugeHouse x = Bench.with(1).house;
        long[] v = {0, 1, -1, 127, 128, -128, -129, 255, 256, 32767, 32768, -32768, -32769, 65535, 65536, 2147483647L, 2147483648L, -2147483648L, -2147483649L, 4294967295L, 4294967296L,
            Long.MAX_VALUE, Long.MIN_VALUE};
        for (int l = 0; l < 3; l++) x.lane(0, l, l + 1, 1);
        for (long w : v) {
            long[] due = {(byte) w, (short) w, (int) w};
            for (int l = 0; l < 3; l++) {
                x.put(0, l, l + 1, 0, w);
                Bench.due(w + " as " + (l + 1), x.get(0, l, l + 1, 0), due[l]);
            }
        }
    }

    /** "floats, doubles: bits; not a number as 0x7fc00000, 0x7ff8000000000000" */
    private static void bitsOfFloats() {
        GaugeHouse x = Bench.with(1).house;
        x.lane(0, 0, 4, 1);
        int[] bits = {0, 1, 0x80000000, 0x80000001, 0x3f800000, 0x7f7fffff, 0x7f800000, 0xff800000, 0x7fffffff, 0x7f800001, 0xff800001, 0xffffffff, 0x7fc00000, 0xffc00000, 0x007fffff, 0x00800000};
        for (int b : bits) {
            boolean none = (b & 0x7fffffff) > 0x7f800000;
            x.put(0, 0, 4, 0, b);
            Bench.due("float " + Integer.toHexString(b), x.get(0, 0, 4, 0), none ? 0x7fc00000 : b);
            x.put(0, 0, 4, 0, b & 0xffffffffL | 0x5a5a5a5a00000000L);
            Bench.due("float " + Integer.toHexString(b) + " of a long", x.get(0, 0, 4, 0), none ? 0x7fc00000 : b);
        }
    }

    private static void bitsOfDoubles() {
        GaugeHouse x = Bench.with(1).house;
        x.lane(0, 0, 5, 1);
        long[] bits = {0, 1, Long.MIN_VALUE, Long.MIN_VALUE + 1, 0x3ff0000000000000L, 0x7fefffffffffffffL, 0x7ff0000000000000L, 0xfff0000000000000L, 0x7ff0000000000001L, 0xfff0000000000001L,
            Long.MAX_VALUE, -1, 0x7ff8000000000000L, 0xfff8000000000000L, 0x000fffffffffffffL};
        for (long b : bits) {
            boolean none = (b & Long.MAX_VALUE) > 0x7ff0000000000000L;
            Bench.due("put", x.put(0, 0, 5, 0, b), 1);
            Bench.due("double " + Long.toHexString(b), x.get(0, 0, 5, 0), none ? 0x7ff8000000000000L : b);
            Bench.due("how many are not a number", x.measure(0, 0, 4), none ? 1 : 0);
        }
        Bench.due("no FAULT", x.count(7), 0);
    }

    private static Bench afterReadings(int n) {
        Bench b = Bench.with(1);
        b.tell(0, "INIT:CONT ON");
        for (int left = n; left > 0; left -= 50) b.house.tick(Math.min(50, left));
        b.tell(0, "INIT:CONT OFF;:ABOR");
        Bench.due("READINGS", b.house.about(0, 7), n);
        return b;
    }

    /** "MARK of READING m (by its number among all ever, of those that are kept; -1: nothing)" */
    private static void marksOfKeptReadings() {
        int[] counts = {0, 1, 39, 40, 41, 100};
        for (int n : counts) {
            Bench b = afterReadings(n);
            GaugeHouse x = b.house;
            x.lane(0, 0, 6, 2);
            int eldest = Math.max(0, n - 40);
            int[] bad = {-2, eldest - 1 - (n <= 40 ? 1 : 0), n, n + 1, FAR[0], FAR[1]};
            for (int m : bad) Bench.due("mark " + m + " of " + n, x.mark(0, 0, 0, m), BAD);
            Bench.due("nothing", x.mark(0, 0, 0, -1), 1);
            if (n == 0) continue;
            int[] good = {eldest, n - 1};
            for (int m : good) {
                Bench.due("mark " + m + " of " + n, x.mark(0, 0, 1, m), 1);
                Bench.due("its TIME", x.marked(0, 0, 1), m + 1);
            }
        }
        Bench b = afterReadings(1);
        b.house.lane(0, 0, 6, 1);
        b.house.mark(0, 0, 0, 0);
        b.tell(0, "INIT:CONT ON");
        b.house.tick(64);
        Bench.due("it is not kept any more", b.house.mark(0, 0, 0, 0), BAD);
        Bench.due("its MARK stays", b.house.marked(0, 0, 0), 1);
    }

    /** "LATE MARKS alone: of READINGS made at TIME 100 or later" */
    private static void lateMarks() {
        GaugeHouse x = afterReadings(101).house;
        x.lane(0, 0, 7, 3);
        x.lane(0, 1, 6, 3);
        Bench.due("at 99", x.mark(0, 0, 0, 98), -15);
        Bench.due("FAULT", x.count(7), 5);
        Bench.due("nothing came", x.marked(0, 0, 0), NONE);
        Bench.due("at 100", x.mark(0, 0, 0, 99), 1);
        Bench.due("at 101", x.mark(0, 0, 1, 100), 1);
        Bench.due("nothing", x.mark(0, 0, 2, -1), 1);
        Bench.due("at 99 where one is", x.mark(0, 0, 0, 98), -15);
        Bench.due("it stays", x.marked(0, 0, 0), 100);
        Bench.due("at 99 into 6", x.mark(0, 1, 0, 98), 1);
        Bench.due("TIME", x.marked(0, 1, 0), 99);
    }

    /** "BAD; FAULTS 2, 1, 3, 5" */
    private static void faultsOfMark() {
        GaugeHouse x = afterReadings(5).house;
        x.lane(0, 1, 3, 2);
        x.lane(0, 2, 7, 2);
        Bench.due("BAD ahead of 1", x.mark(0, 0, 0, 5), BAD);
        Bench.due("BAD ahead of 2", x.mark(0, 1, 9, 5), BAD);
        Bench.due("BAD ahead of 3", x.mark(0, 2, 9, 5), BAD);
        Bench.due("no FAULT", x.count(7), 0);
        Bench.due("1 ahead of 3", x.mark(0, 0, 9, 0), -11);
        Bench.due("2 ahead of 3", x.mark(0, 1, 9, 0), -12);
        Bench.due("3 ahead of 5", x.mark(0, 2, 2, 0), -13);
        Bench.due("3 ahead of 5", x.mark(0, 2, -1, 0), -13);
        Bench.due("5", x.mark(0, 2, 1, 0), -15);
    }

    /** "NONE: BAD; FAULTS 2, 1, 3, 1 (nothing there)" */
    private static void faultsOfMarked() {
        GaugeHouse x = afterReadings(1).house;
        x.lane(0, 1, 5, 2);
        x.lane(0, 2, 6, 2);
        x.mark(0, 2, 0, 0);
        int[][] of = {{0, 0}, {1, 9}, {2, 2}, {2, -1}, {2, 1}};
        int[] due = {1, 2, 3, 3, 1};
        for (int k = 0; k < of.length; k++) {
            Bench.due("marked", x.marked(0, of[k][0], of[k][1]), NONE);
            Bench.due("FAULT", x.count(7), due[k]);
        }
        Bench.due("marked", x.marked(0, 2, 0), 1);
        Bench.due("the latest FAULT", x.count(7), 1);
    }

    /** "3: at, to, n below 0, or beyond an end" */
    private static void rangesOfCopies() {
        GaugeHouse x = Bench.with(1).house;
        x.lane(0, 0, 3, 4);
        x.lane(0, 1, 3, 6);
        int[][] good = {{0, 0, 4}, {0, 2, 4}, {4, 0, 0}, {4, 6, 0}, {0, 6, 0}, {3, 5, 1}, {0, 0, 0}};
        for (int[] c : good) Bench.due("copy " + c[0] + " " + c[1] + " " + c[2], x.copy(0, 0, c[0], 0, 1, c[1], c[2]), 1);
        int[][] bad = {{-1, 0, 1}, {0, -1, 1}, {0, 0, -1}, {0, 0, 5}, {1, 0, 4}, {4, 0, 1}, {5, 0, 0}, {0, 3, 4}, {0, 6, 1}, {0, 7, 0}, {-1, 0, 0}, {0, -1, 0}, {4, 6, -1}, {FAR[1], 0, 1}, {0, FAR[1], 1},
            {0, 0, FAR[1]}, {1, 1, FAR[1]}, {FAR[1], FAR[1], FAR[1]}, {FAR[0], 0, 0}, {0, FAR[0], 0}, {0, 0, FAR[0]}, {FAR[0], FAR[0], FAR[0]}};
        for (int[] c : bad) Bench.due("copy " + c[0] + " " + c[1] + " " + c[2], x.copy(0, 0, c[0], 0, 1, c[1], c[2]), -13);
        Bench.due("FAULT", x.count(7), 3);
    }

    /** "BAD; FAULTS 1 of either; 5 of unlike kinds ..; 3" */
    private static void faultsOfCopyInOrder() {
        GaugeHouse x = Bench.with(1).house;
        x.lane(0, 1, 3, 2);
        x.lane(0, 2, 4, 2);
        Bench.due("BAD ahead of 1", x.copy(0, 0, 0, 0, 3, 0, -1), BAD);
        Bench.due("1 of the one", x.copy(0, 0, -1, 0, 1, 0, -1), -11);
        Bench.due("1 of the other", x.copy(0, 1, -1, 0, 0, 0, -1), -11);
        Bench.due("1 of both", x.copy(0, 0, 0, 0, 0, 0, 0), -11);
        Bench.due("5 ahead of 3", x.copy(0, 1, -1, 0, 2, 0, 9), -15);
        Bench.due("5 of no items, too", x.copy(0, 1, 0, 0, 2, 0, 0), -15);
        Bench.due("3", x.copy(0, 1, 1, 0, 1, 0, 2), -13);
        Bench y = afterReadings(3);
        y.house.lane(0, 0, 6, 2);
        y.house.lane(0, 1, 7, 2);
        y.house.mark(0, 0, 0, 0);
        Bench.due("3 ahead of one that is not LATE", y.house.copy(0, 0, 0, 0, 1, 1, 2), -13);
        Bench.due("5", y.house.copy(0, 0, 0, 0, 1, 1, 1), -15);
        Bench.due("none goes", y.house.copy(0, 0, 0, 0, 1, 0, 0), 1);
    }

    /** "as if by way of others" */
    private static void copiesOntoThemselves() {
        for (int at = 0; at <= 40; at += 8) {
            for (int to = 0; to <= 40; to += 10) {
                GaugeHouse x = Bench.with(1).house;
                x.lane(0, 0, 1, 40);
                for (int k = 0; k < 40; k++) x.put(0, 0, 1, k, k);
                int n = 40 - Math.max(at, to);
                Bench.due("copy", x.copy(0, 0, at, 0, 0, to, n), 1);
                for (int k = 0; k < 40; k++) Bench.due("item " + k, x.get(0, 0, 1, k), k >= to && k < to + n ? k - to + at : k);
            }
        }
    }

    /** "what is not LATE does not go into 7: those before have gone" */
    private static void copiesOfLateMarks() {
        for (int bad = 0; bad < 3; bad++) {
            GaugeHouse x = afterReadings(110).house;
            x.lane(0, 0, 6, 3);
            x.lane(0, 1, 7, 3);
            for (int k = 0; k < 3; k++) x.mark(0, 0, k, k == bad ? 98 : 105 + k);
            Bench.due("copy", x.copy(0, 0, 0, 0, 1, 0, 3), -15);
            for (int k = 0; k < 3; k++) Bench.due("item " + k, x.marked(0, 1, k), k < bad ? 106 + k : NONE);
        }
        GaugeHouse y = afterReadings(139).house;
        y.lane(0, 0, 6, 40);
        y.lane(0, 1, 7, 40);
        for (int k = 0; k < 40; k++) y.mark(0, 0, k, 99 + k);
        Bench.due("40 of them", y.copy(0, 0, 0, 0, 1, 0, 40), 1);
        for (int k = 0; k < 40; k++) Bench.due("item " + k, y.marked(0, 1, k), 100 + k);
        Bench.due("the last of them", y.copy(0, 0, 39, 0, 1, 0, 1), 1);
        Bench.due("the last of them", y.marked(0, 1, 0), 139);
        GaugeHouse x = afterReadings(110).house;
        x.lane(0, 0, 6, 3);
        x.lane(0, 1, 7, 3);
        x.mark(0, 0, 1, 99);
        Bench.due("at 100, and nothing", x.copy(0, 0, 0, 0, 1, 0, 3), 1);
        Bench.due("it came", x.marked(0, 1, 1), 100);
        x.mark(0, 0, 1, 98);
        Bench.due("back", x.copy(0, 1, 0, 0, 0, 0, 3), 1);
        Bench.due("it came", x.marked(0, 0, 1), 100);
    }

    /** "the first; -1 none"; "(0, 1 of nothing: 0.) BAD; FAULTS 2, 1, 4" */
    private static void measures() {
        GaugeHouse x = Bench.with(1).house;
        int[] bad = {-1, 6, FAR[0], FAR[1]};
        for (int what : bad) Bench.due("measure " + what, x.measure(0, 0, what), BAD);
        Bench.due("no FAULT", x.count(7), 0);
        for (int sort = 0; sort <= 7; sort++) {
            x.lane(0, 0, sort, 1);
            for (int what = 2; what <= 5; what++) {
                int right = what == 5 ? 3 : 5;
                int due = sort == 0 ? -11 : sort != right ? -12 : 0;
                Bench.due("measure " + what + " of " + sort, x.measure(0, 0, what), due);
            }
            for (int what : bad) Bench.due("measure " + what, x.measure(0, 0, what), BAD);
        }
        x.lane(0, 0, 5, 0);
        int[] due = {5, 0, -1, -1, 0, -12};
        for (int what = 0; what < 6; what++) Bench.due("measure " + what + " of no items", x.measure(0, 0, what), due[what]);
        x.lane(0, 0, 5, 40);
        for (int k = 0; k < 40; k++) x.put(0, 0, 5, k, 0x7ff8000000000000L);
        int[] none = {5, 40, -1, -1, 40};
        for (int what = 0; what < 5; what++) Bench.due("measure " + what + " of no numbers", x.measure(0, 0, what), none[what]);
        x.put(0, 0, 5, 39, Double.doubleToLongBits(Double.POSITIVE_INFINITY));
        Bench.due("the last alone", x.measure(0, 0, 2), 39);
        Bench.due("the last alone", x.measure(0, 0, 3), 39);
        Bench.due("the others", x.measure(0, 0, 4), 39);
        x.put(0, 0, 5, 0, Double.doubleToLongBits(Double.NEGATIVE_INFINITY));
        x.put(0, 0, 5, 1, Double.doubleToLongBits(Double.NEGATIVE_INFINITY));
        Bench.due("the first least", x.measure(0, 0, 2), 0);
        Bench.due("the greatest", x.measure(0, 0, 3), 39);
        x.lane(0, 0, 5, 4);
        double[] d = {-Double.MIN_VALUE, 0.0, Double.MIN_VALUE, Double.MIN_VALUE};
        for (int k = 0; k < 4; k++) x.put(0, 0, 5, k, Double.doubleToLongBits(d[k]));
        Bench.due("the least", x.measure(0, 0, 2), 0);
        Bench.due("the first greatest", x.measure(0, 0, 3), 2);
    }

    /** "the mean of its items (their exact sum by how many), cut (FAULT 4: no items)" */
    private static void means() {
        GaugeHouse x = Bench.with(1).house;
        x.lane(0, 0, 3, 0);
        Bench.due("no items", x.measure(0, 0, 5), -14);
        Bench.due("FAULT", x.count(7), 4);
        int[][] rows = {{5}, {1, 2}, {-1, -2}, {-1, 0}, {1, 0}, {Integer.MAX_VALUE, Integer.MAX_VALUE}, {Integer.MIN_VALUE, Integer.MIN_VALUE}, {Integer.MAX_VALUE, Integer.MIN_VALUE}, {2, 2, 1},
            {-2, -2, -1}, {Integer.MAX_VALUE, 1, 0}};
        for (int[] row : rows) {
            x.lane(0, 0, 3, row.length);
            long sum = 0;
            for (int k = 0; k < row.length; k++) {
                x.put(0, 0, 3, k, row[k]);
                sum += row[k];
            }
            Bench.due("mean", x.measure(0, 0, 5), sum / row.length);
        }
        x.lane(0, 0, 3, 40);
        for (int k = 0; k < 40; k++) x.put(0, 0, 3, k, Integer.MIN_VALUE);
        Bench.due("of 40", x.measure(0, 0, 5), Integer.MIN_VALUE);
    }

    private static void feedTicks(Bench b, int n, int fed) {
        b.house.tick(n);
        Bench.due("items that FEED put at TIME " + b.house.count(3), b.house.about(0, 11), fed);
    }

    /** "from item 0 on (anew when it is TOLD ON ..), as long as there is such an item (without it does not go on)" */
    private static void fedItems() {
        int[] sizes = {0, 1, 2, 40};
        for (int n : sizes) {
            Bench b = Bench.metering(1000);
            b.house.lane(0, 0, 3, n);
            b.tell(0, "TRAC:FEED ON;:INIT:CONT ON");
            for (int k = 1; k <= n; k++) feedTicks(b, 1, k);
            feedTicks(b, 1, n);
            feedTicks(b, 30, n);
            for (int k = 0; k < n; k++) Bench.due("item " + k, b.house.get(0, 0, 3, k), 1);
            b.tell(0, "TRAC:FEED OFF");
            Bench.due("OFF", b.house.about(0, 11), n);
            b.tell(0, "TRAC:FEED ON");
            Bench.due("TOLD ON", b.house.about(0, 11), 0);
            feedTicks(b, 1, Math.min(1, n));
            b.tell(0, "TRAC:FEED ON");
            Bench.due("TOLD ON once more", b.house.about(0, 11), 0);
        }
        int[] none = {0, 6, 7};
        for (int sort : none) {
            Bench b = Bench.metering(1000);
            b.house.lane(0, 0, sort, 5);
            b.tell(0, "TRAC:FEED ON;:INIT:CONT ON");
            feedTicks(b, 3, 0);
            b.house.lane(0, 0, 3, 2);
            feedTicks(b, 1, 1);
            b.house.lane(0, 0, sort, 5);
            feedTicks(b, 1, 1);
            b.house.lane(0, 0, 3, 1);
            feedTicks(b, 1, 1);
            b.house.lane(0, 0, 3, 2);
            feedTicks(b, 1, 2);
            Bench.due("it went on where it was", b.house.get(0, 0, 3, 0), 0);
            Bench.due("it went on where it was", b.house.get(0, 0, 3, 1), 1);
        }
        Bench b = Bench.metering(1000);
        b.house.lane(0, 1, 3, 5);
        b.house.lane(0, 2, 3, 5);
        b.tell(0, "TRAC:FEED ON;:INIT:CONT ON");
        feedTicks(b, 3, 0);
        Bench.due("into LANE 0 alone", b.house.get(0, 1, 3, 0) + b.house.get(0, 2, 3, 0), 0);
    }

    /** "as Java casts the double to the sort" */
    private static void fedCasts() {
        int[] a = {127000, 128000, -128000, -129000, 255900, 32767000, 32768000, -32768000, -32769000, 65536000, 999900000, -999900000, 999, -999};
        for (int sort = 1; sort <= 5; sort++) {
            Bench b = Bench.metering(0);
            b.house.lane(0, 0, sort, 40);
            b.tell(0, "TRAC:FEED ON");
            for (int k = 0; k < a.length; k++) {
                b.house.signal(0, 0, a[k], 0, 1);
                b.tell(0, "RANG:AUTO ON;:INIT");
                b.house.tick(1);
                double x = Double.longBitsToDouble(b.house.reading(0, 0));
                long due = sort == 1 ? (byte) x : sort == 2 ? (short) x : sort == 3 ? (int) x : sort == 4 ? Float.floatToIntBits((float) x) : Double.doubleToLongBits(x);
                Bench.due(a[k] + " as " + sort, b.house.get(0, 0, sort, k), due);
            }
            b.house.signal(0, 3, 0, 0, 1);
            b.tell(0, "INIT");
            b.house.tick(1);
            Bench.due("not a number as " + sort, b.house.get(0, 0, sort, a.length), sort < 4 ? 0 : sort == 4 ? 0x7fc00000 : 0x7ff8000000000000L);
            b.house.signal(0, 4, 1, 0, 1);
            b.tell(0, "INIT");
            b.house.tick(1);
            double over = 9.9E37;
            long due = sort == 1 ? (byte) over : sort == 2 ? (short) over : sort == 3 ? (int) over : sort == 4 ? Float.floatToIntBits((float) over) : Double.doubleToLongBits(over);
            Bench.due("OVER as " + sort, b.house.get(0, 0, sort, a.length + 1), due);
        }
    }

    /** ":TRACe:DATA .. its bytes are the first items of LANE 0, which must be bytes, just as many (-221 else ..)" */
    private static void blocksOfJustAsManyBytes() {
        int[] sizes = {0, 1, 2, 9, 10, 40};
        for (int n : sizes) {
            Bench b = Bench.with(1);
            b.house.lane(0, 0, 1, n);
            for (int m = Math.max(0, n - 1); m <= n + 1; m++) {
                String digits = String.valueOf(m);
                Bench.due(m + " bytes for " + n, b.errorsOf(0, "TRAC:DATA #" + digits.length() + digits + "z".repeat(m)), m == n ? "" : "-221");
                Bench.due("the last item", n > 0 ? b.house.get(0, 0, 1, n - 1) : 0, n > 0 && m >= n ? 'z' : 0);
            }
        }
        for (int sort = 0; sort <= 7; sort++) {
            Bench b = Bench.with(1);
            b.house.lane(0, 0, sort, 2);
            Bench.due("of SORT " + sort, b.errorsOf(0, "TRAC:DATA #12zz"), sort == 1 ? "" : "-221");
        }
        Bench b = Bench.with(1);
        b.house.lane(0, 1, 1, 2);
        Bench.due("another LANE", b.errorsOf(0, "TRAC:DATA #12zz"), "-221");
        b.house.lane(0, 0, 1, 4);
        b.tell(0, "TRAC:DATA #14\0\u007f\u0080\u00ff");
        int[] due = {0, 127, -128, -1};
        for (int k = 0; k < 4; k++) Bench.due("item " + k, b.house.get(0, 0, 1, k), due[k]);
    }

    /** "7 the latest FAULT of a LANE (0)"; "changes nothing but as told" */
    private static void latestFault() {
        GaugeHouse x = Bench.with(1).house;
        Bench.due("none", x.count(7), 0);
        x.put(0, 0, 1, 0, 0);
        Bench.due("NULL", x.count(7), 1);
        x.lane(0, 0, 3, 0);
        Bench.due("it stays", x.count(7), 1);
        x.put(0, 0, 1, 0, 0);
        Bench.due("CAST", x.count(7), 2);
        x.put(0, 0, 3, 0, 0);
        Bench.due("INDEX", x.count(7), 3);
        x.measure(0, 0, 5);
        Bench.due("DIVIDE", x.count(7), 4);
        x.lane(0, 1, 4, 0);
        x.copy(0, 0, 0, 0, 1, 0, 0);
        Bench.due("STORE", x.count(7), 5);
        x.lane(0, 1, 4, -1);
        Bench.due("SIZE", x.count(7), 6);
        x.lane(0, 3, 4, -1);
        x.get(0, 9, 1, 0);
        x.lane(0, 1, 4, 41);
        Bench.due("BAD is none", x.count(7), 6);
        x.get(0, 1, 4, 0);
        Bench.due("by a long", x.count(7), 3);
    }
}
